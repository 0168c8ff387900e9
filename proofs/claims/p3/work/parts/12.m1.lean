set_option maxHeartbeats 4000000 in
set_option maxRecDepth 100000 in
theorem c_X9_change {l : Launch} {D : va_G} {cs : Nat → ClassId} {B0 T : Nat} {κ : KM} {H0 : Heap} (hT : WT B0 D cs T κ H0) {w : Nat} (hw : T2 κ w 10 12) {n : Nat} (qn : n < 8) : KC l yX9_change wsX9_change 4 84 0 0 D cs B0 H0 [.ref w, .int (nI n)] (Qv (fun H => WT B0 D cs T κ H ∧ Fr B0 [18] κ H0 H)) := by
  refine KC.of cX9_change 3 none (by decide) rfl (Nat.le_of_ble_eq_true rfl) ?_
  intro p e s m below meth c ls hx hb hr hml hown hts hlocks hin hN hE hH0 hl
  have hown : s.vm.findClass RX9 = some m.cls := hown
  have hl : lv_has ls 3 [(0, .ref w), (1, .int (nI n))] := hl
  have hL : OkL B0 [] := OkL.nil
  have hF : Fr B0 [18] κ H0 H0 := Fr.rf
  refine lv_aload_n hx hb dX9_change_0 rfl (lv_at hl 0 rfl) ?_
  refine lv_iload_n hx hb dX9_change_1 rfl (lv_at hl 1 rfl) ?_
  refine cv_i (As := [.int (nI n)]) (rest := []) (b := w) ⟨hx, hb, hml, hown, hts⟩ (c_X9_estimate hT (w := w) hw (n := n) (by first | omega | decide | assumption)) (cwV 1 hts gX9_change_X9_estimate rfl rfl rfl hdX9_estimate_v ⟨Nat.le_of_ble_eq_true rfl, Nat.le_of_ble_eq_true rfl⟩) hN hE hL (rcv10 hN hT hw.1) rfl rfl hl.1 (Nat.le_of_ble_eq_true rfl) dX9_change_2 (Nat.zero_le _) (Nat.zero_le _) (fun r551 H1 locs hL hqr551 => ?_)
  obtain rfl := hqr551.symm
  refine lv_aload_n hx hb dX9_change_5 rfl (lv_at hl 0 rfl) ?_
  refine lv_iload_n hx hb dX9_change_6 rfl (lv_at hl 1 rfl) ?_
  refine lv_bipush (v := 8) hx hb dX9_change_7 (by decide) ?_
  refine cv_i (As := [.int (nI n), .int 8]) (rest := [.int r551]) (b := w) ⟨hx, hb, hml, hown, hts⟩ (c_X9_of hT (w := w) hw (n := n) (k := 8) (by first | omega | decide | assumption) (by first | omega | decide | assumption)) (cwV 2 hts gX9_change_X9_of rfl rfl rfl hdX9_of_v ⟨Nat.le_of_ble_eq_true rfl, Nat.le_of_ble_eq_true rfl⟩) hN hE hL (rcv10 hN hT hw.1) rfl rfl hl.1 (Nat.le_of_ble_eq_true rfl) dX9_change_9 (Nat.zero_le _) (Nat.zero_le _) (fun r552 H1 locs hL hqr552 => ?_)
  obtain rfl := hqr552.symm
  refine lv_icmp_le (tgt := 19) hx hb dX9_change_12 (by decide) (fun c553 => ?_) (fun c553 => ?_)
  · refine lv_iconst (v := 0) hx hb dX9_change_19 (by decide) ?_
    refine lv_istore_n (lv' := [(2, .int 0), (0, .ref w), (1, .int (nI n))]) hx hb dX9_change_20 rfl hl (by decide) rfl (fun ls hl => ?_)
    refine lv_aload_n hx hb dX9_change_21 rfl (lv_at hl 1 rfl) ?_
    refine lv_iload_n hx hb dX9_change_22 rfl (lv_at hl 2 rfl) ?_
    refine lv_bipush (v := 6) hx hb dX9_change_23 (by decide) ?_
    refine cv_i (As := [.int (nI n), .int 6]) (rest := []) (b := w) ⟨hx, hb, hml, hown, hts⟩ (c_X9_of hT (w := w) hw (n := n) (k := 6) (by first | omega | decide | assumption) (by first | omega | decide | assumption)) (cwV 2 hts gX9_change_X9_of rfl rfl rfl hdX9_of_v ⟨Nat.le_of_ble_eq_true rfl, Nat.le_of_ble_eq_true rfl⟩) hN hE hL (rcv10 hN hT hw.1) rfl rfl hl.1 (Nat.le_of_ble_eq_true rfl) dX9_change_25 (Nat.zero_le _) (Nat.zero_le _) (fun r554 H1 locs hL hqr554 => ?_)
    obtain rfl := hqr554.symm
    refine lv_aload_n hx hb dX9_change_28 rfl (lv_at hl 1 rfl) ?_
    obtain ⟨hb555, e555, hat555, hk555⟩ := hT.o10 hw.1
    obtain ⟨f555_0, f555_1, f555_3, f555_4, f555_5, f555_6, f555_7, f555_9, f555_10, f555_11, f555_12, f555_13, f555_14, f555_15, f555_16, f555_17, rfl, c555_2, c555_3, c555_4, c555_12, t555_1, t555_8, t555_9, c555_sd, t555_10, t555_11, t555_17⟩ := hk555
    have hP : va_P D vwCl [(w, .inr (9, [.int f555_0, .ref f555_1, .int (nI ((κ w).2.2.1)), .int (nI f555_3), .int (nI f555_4), .int f555_5, .int f555_6, .int f555_7, .ref (κ w).2.2.2, .ref f555_9, .ref f555_10, .ref f555_11, .int (nI f555_12), .int f555_13, .int f555_14, .int f555_15, .int f555_16, .ref f555_17]))] _ := va_P.cons hat555 va_P.nil
    refine va_get (D := D) (ci := 9) (v := .ref (κ w).2.2.2) (C := RX9) (T := TX9) (N := 18) hx hb hts iX9_change_9 hown hN.1 hP 0 rfl rfl 8 (by decide) (hts _ mX9_change_1) (fun _ h9 => h9) rfl dX9_change_29 ?_
    refine lv_bipush (v := 6) hx hb dX9_change_32 (by decide) ?_
    obtain ⟨hb556, e556, hat556, hk556⟩ := hT.o24 t555_8.1
    obtain ⟨g556, rfl, q556⟩ := hk556
    have hP : va_P D vwCl [((κ w).2.2.2, .inl (cs 0, 45783, .inl g556)), (w, .inr (9, [.int f555_0, .ref f555_1, .int (nI ((κ w).2.2.1)), .int (nI f555_3), .int (nI f555_4), .int f555_5, .int f555_6, .int f555_7, .ref (κ w).2.2.2, .ref f555_9, .ref f555_10, .ref f555_11, .int (nI f555_12), .int f555_13, .int f555_14, .int f555_15, .int f555_16, .ref f555_17]))] _ := va_P.cons hat556 hP
    refine ld_i (v := (g556 6)) hx hb hN hP 0 rfl (vp_in_nI (n := 6) (N := 45783) (by omega) (by omega)) (by rw [(show (6 : Int32).toNatClampNeg = 6 from nI_clamp (n := 6) (by omega))]) dX9_change_34 ?_
    refine gn_i (fun x557 => ?_)
    refine lv_iconst (v := 1) hx hb dX9_change_35 (by decide) ?_
    refine lv_isub hx hb dX9_change_36 ?_
    refine gn_i (fun x558 => ?_)
    refine lv_icmp_ne (tgt := 87) hx hb dX9_change_37 (by decide) (fun c559 => ?_) (fun c559 => ?_)
    · refine lv_aload_n hx hb dX9_change_87 rfl (lv_at hl 1 rfl) ?_
      refine lv_iload_n hx hb dX9_change_88 rfl (lv_at hl 2 rfl) ?_
      refine lv_iconst (v := 4) hx hb dX9_change_89 (by decide) ?_
      refine lv_aload_n hx hb dX9_change_90 rfl (lv_at hl 1 rfl) ?_
      refine lv_iload_n hx hb dX9_change_91 rfl (lv_at hl 2 rfl) ?_
      refine lv_bipush (v := 7) hx hb dX9_change_92 (by decide) ?_
      refine cv_i (As := [.int (nI n), .int 7]) (rest := [.int 4, .int (nI n), .ref w]) (b := w) ⟨hx, hb, hml, hown, hts⟩ (c_X9_of hT (w := w) hw (n := n) (k := 7) (by first | omega | decide | assumption) (by first | omega | decide | assumption)) (cwV 2 hts gX9_change_X9_of rfl rfl rfl hdX9_of_v ⟨Nat.le_of_ble_eq_true rfl, Nat.le_of_ble_eq_true rfl⟩) hN hE hL (rcv10 hN hT hw.1) rfl rfl hl.1 (Nat.le_of_ble_eq_true rfl) dX9_change_94 (Nat.zero_le _) (Nat.zero_le _) (fun r560 H1 locs hL hqr560 => ?_)
      obtain rfl := hqr560.symm
      refine cv_v (As := [.int (nI n), .int 4, .int r560]) (rest := []) (b := w) ⟨hx, hb, hml, hown, hts⟩ (c_X9_set hT (w := w) hw (n := n) (k := 4) (x := r560) (by first | omega | decide | assumption) (by first | omega | decide | assumption)) (cwV 3 hts gX9_change_X9_set rfl rfl rfl hdX9_set_v ⟨Nat.le_of_ble_eq_true rfl, Nat.le_of_ble_eq_true rfl⟩) hN hE hL (rcv10 hN hT hw.1) rfl rfl hl.1 (Nat.le_of_ble_eq_true rfl) dX9_change_97 (Nat.zero_le _) (Nat.zero_le _) (fun H1 locs hL hqr561 => ?_)
      obtain ⟨hT1, hF1⟩ := hqr561
      have hP : va_P D vwCl [(w, .inr (9, [.int f555_0, .ref f555_1, .int (nI ((κ w).2.2.1)), .int (nI f555_3), .int (nI f555_4), .int f555_5, .int f555_6, .int f555_7, .ref (κ w).2.2.2, .ref f555_9, .ref f555_10, .ref f555_11, .int (nI f555_12), .int f555_13, .int f555_14, .int f555_15, .int f555_16, .ref f555_17]))] _ := hF1.hP (hP.sub [1] rfl) (fa_c ⟨by rw [hw.1]; decide, by rw [hw.2]; first | decide | (simp; done) | (simp [h15a, h15b, h15c]; done) | (simp; omega)⟩ fa_n)
      have hF := hF.tr (hF1.mono (by simp))
      have hT := hT1
      refine lv_aload_n hx hb dX9_change_100 rfl (lv_at hl 1 rfl) ?_
      refine lv_iload_n hx hb dX9_change_101 rfl (lv_at hl 2 rfl) ?_
      refine lv_bipush (v := 9) hx hb dX9_change_102 (by decide) ?_
      refine lv_aload_n hx hb dX9_change_104 rfl (lv_at hl 1 rfl) ?_
      refine lv_iload_n hx hb dX9_change_105 rfl (lv_at hl 2 rfl) ?_
      refine lv_bipush (v := 9) hx hb dX9_change_106 (by decide) ?_
      refine cv_i (As := [.int (nI n), .int 9]) (rest := [.int 9, .int (nI n), .ref w]) (b := w) ⟨hx, hb, hml, hown, hts⟩ (c_X9_of hT (w := w) hw (n := n) (k := 9) (by first | omega | decide | assumption) (by first | omega | decide | assumption)) (cwV 2 hts gX9_change_X9_of rfl rfl rfl hdX9_of_v ⟨Nat.le_of_ble_eq_true rfl, Nat.le_of_ble_eq_true rfl⟩) hN hE hL (rcv10 hN hT hw.1) rfl rfl hl.1 (Nat.le_of_ble_eq_true rfl) dX9_change_108 (Nat.zero_le _) (Nat.zero_le _) (fun r562 H1 locs hL hqr562 => ?_)
      obtain rfl := hqr562.symm
      refine lv_iconst (v := 1) hx hb dX9_change_111 (by decide) ?_
      refine lv_iadd hx hb dX9_change_112 ?_
      refine gn_i (fun x563 => ?_)
      refine cv_v (As := [.int (nI n), .int 9, .int x563]) (rest := []) (b := w) ⟨hx, hb, hml, hown, hts⟩ (c_X9_set hT (w := w) hw (n := n) (k := 9) (x := x563) (by first | omega | decide | assumption) (by first | omega | decide | assumption)) (cwV 3 hts gX9_change_X9_set rfl rfl rfl hdX9_set_v ⟨Nat.le_of_ble_eq_true rfl, Nat.le_of_ble_eq_true rfl⟩) hN hE hL (rcv10 hN hT hw.1) rfl rfl hl.1 (Nat.le_of_ble_eq_true rfl) dX9_change_113 (Nat.zero_le _) (Nat.zero_le _) (fun H1 locs hL hqr564 => ?_)
      obtain ⟨hT1, hF1⟩ := hqr564
      have hP : va_P D vwCl [(w, .inr (9, [.int f555_0, .ref f555_1, .int (nI ((κ w).2.2.1)), .int (nI f555_3), .int (nI f555_4), .int f555_5, .int f555_6, .int f555_7, .ref (κ w).2.2.2, .ref f555_9, .ref f555_10, .ref f555_11, .int (nI f555_12), .int f555_13, .int f555_14, .int f555_15, .int f555_16, .ref f555_17]))] _ := hF1.hP (hP.sub [0] rfl) (fa_c ⟨by rw [hw.1]; decide, by rw [hw.2]; first | decide | (simp; done) | (simp [h15a, h15b, h15c]; done) | (simp; omega)⟩ fa_n)
      have hF := hF.tr (hF1.mono (by simp))
      have hT := hT1
      refine lv_aload_n hx hb dX9_change_116 rfl (lv_at hl 1 rfl) ?_
      refine lv_iload_n hx hb dX9_change_117 rfl (lv_at hl 2 rfl) ?_
      refine lv_bipush (v := 10) hx hb dX9_change_118 (by decide) ?_
      refine lv_aload_n hx hb dX9_change_120 rfl (lv_at hl 1 rfl) ?_
      refine lv_iload_n hx hb dX9_change_121 rfl (lv_at hl 2 rfl) ?_
      refine lv_bipush (v := 10) hx hb dX9_change_122 (by decide) ?_
      refine cv_i (As := [.int (nI n), .int 10]) (rest := [.int 10, .int (nI n), .ref w]) (b := w) ⟨hx, hb, hml, hown, hts⟩ (c_X9_of hT (w := w) hw (n := n) (k := 10) (by first | omega | decide | assumption) (by first | omega | decide | assumption)) (cwV 2 hts gX9_change_X9_of rfl rfl rfl hdX9_of_v ⟨Nat.le_of_ble_eq_true rfl, Nat.le_of_ble_eq_true rfl⟩) hN hE hL (rcv10 hN hT hw.1) rfl rfl hl.1 (Nat.le_of_ble_eq_true rfl) dX9_change_124 (Nat.zero_le _) (Nat.zero_le _) (fun r565 H1 locs hL hqr565 => ?_)
      obtain rfl := hqr565.symm
      refine lv_iload_n hx hb dX9_change_127 rfl (lv_at hl 0 rfl) ?_
      refine lv_iadd hx hb dX9_change_128 ?_
      refine gn_i (fun x566 => ?_)
      refine cv_v (As := [.int (nI n), .int 10, .int x566]) (rest := []) (b := w) ⟨hx, hb, hml, hown, hts⟩ (c_X9_set hT (w := w) hw (n := n) (k := 10) (x := x566) (by first | omega | decide | assumption) (by first | omega | decide | assumption)) (cwV 3 hts gX9_change_X9_set rfl rfl rfl hdX9_set_v ⟨Nat.le_of_ble_eq_true rfl, Nat.le_of_ble_eq_true rfl⟩) hN hE hL (rcv10 hN hT hw.1) rfl rfl hl.1 (Nat.le_of_ble_eq_true rfl) dX9_change_129 (Nat.zero_le _) (Nat.zero_le _) (fun H1 locs hL hqr567 => ?_)
      obtain ⟨hT1, hF1⟩ := hqr567
      have hP : va_P D vwCl [(w, .inr (9, [.int f555_0, .ref f555_1, .int (nI ((κ w).2.2.1)), .int (nI f555_3), .int (nI f555_4), .int f555_5, .int f555_6, .int f555_7, .ref (κ w).2.2.2, .ref f555_9, .ref f555_10, .ref f555_11, .int (nI f555_12), .int f555_13, .int f555_14, .int f555_15, .int f555_16, .ref f555_17]))] _ := hF1.hP (hP.sub [0] rfl) (fa_c ⟨by rw [hw.1]; decide, by rw [hw.2]; first | decide | (simp; done) | (simp [h15a, h15b, h15c]; done) | (simp; omega)⟩ fa_n)
      have hF := hF.tr (hF1.mono (by simp))
      have hT := hT1
      refine lv_aload_n hx hb dX9_change_132 rfl (lv_at hl 1 rfl) ?_
      refine lv_iload_n hx hb dX9_change_133 rfl (lv_at hl 2 rfl) ?_
      refine lv_bipush (v := 11) hx hb dX9_change_134 (by decide) ?_
      refine lv_aload_n hx hb dX9_change_136 rfl (lv_at hl 1 rfl) ?_
      refine va_get (D := D) (ci := 9) (v := .ref (κ w).2.2.2) (C := RX9) (T := TX9) (N := 18) hx hb hts iX9_change_9 hown hN.1 hP 0 rfl rfl 8 (by decide) (hts _ mX9_change_1) (fun _ h9 => h9) rfl dX9_change_137 ?_
      refine lv_iconst (v := 1) hx hb dX9_change_140 (by decide) ?_
      obtain ⟨hb568, e568, hat568, hk568⟩ := hT.o24 t555_8.1
      obtain ⟨g568, rfl, q568⟩ := hk568
      have hP : va_P D vwCl [((κ w).2.2.2, .inl (cs 0, 45783, .inl g568)), (w, .inr (9, [.int f555_0, .ref f555_1, .int (nI ((κ w).2.2.1)), .int (nI f555_3), .int (nI f555_4), .int f555_5, .int f555_6, .int f555_7, .ref (κ w).2.2.2, .ref f555_9, .ref f555_10, .ref f555_11, .int (nI f555_12), .int f555_13, .int f555_14, .int f555_15, .int f555_16, .ref f555_17]))] _ := va_P.cons hat568 hP
      refine ld_i (v := (g568 1)) hx hb hN hP 0 rfl (vp_in_nI (n := 1) (N := 45783) (by omega) (by omega)) (by rw [(show (1 : Int32).toNatClampNeg = 1 from nI_clamp (n := 1) (by omega))]) dX9_change_141 ?_
      refine gn_i (fun x569 => ?_)
      refine cv_v (As := [.int (nI n), .int 11, .int x569]) (rest := []) (b := w) ⟨hx, hb, hml, hown, hts⟩ (c_X9_set hT (w := w) hw (n := n) (k := 11) (x := x569) (by first | omega | decide | assumption) (by first | omega | decide | assumption)) (cwV 3 hts gX9_change_X9_set rfl rfl rfl hdX9_set_v ⟨Nat.le_of_ble_eq_true rfl, Nat.le_of_ble_eq_true rfl⟩) hN hE hL (rcv10 hN hT hw.1) rfl rfl hl.1 (Nat.le_of_ble_eq_true rfl) dX9_change_142 (Nat.zero_le _) (Nat.zero_le _) (fun H1 locs hL hqr570 => ?_)
      obtain ⟨hT1, hF1⟩ := hqr570
      have hP : va_P D vwCl [(w, .inr (9, [.int f555_0, .ref f555_1, .int (nI ((κ w).2.2.1)), .int (nI f555_3), .int (nI f555_4), .int f555_5, .int f555_6, .int f555_7, .ref (κ w).2.2.2, .ref f555_9, .ref f555_10, .ref f555_11, .int (nI f555_12), .int f555_13, .int f555_14, .int f555_15, .int f555_16, .ref f555_17]))] _ := hF1.hP (hP.sub [1] rfl) (fa_c ⟨by rw [hw.1]; decide, by rw [hw.2]; first | decide | (simp; done) | (simp [h15a, h15b, h15c]; done) | (simp; omega)⟩ fa_n)
      have hF := hF.tr (hF1.mono (by simp))
      have hT := hT1
      refine lv_aload_n hx hb dX9_change_145 rfl (lv_at hl 1 rfl) ?_
      refine lv_iload_n hx hb dX9_change_146 rfl (lv_at hl 2 rfl) ?_
      refine cv_v (As := [.int (nI n)]) (rest := []) (b := w) ⟨hx, hb, hml, hown, hts⟩ (c_X9_dropPlan hT (w := w) hw (n := n) (by first | omega | decide | assumption)) (cwV 1 hts gX9_change_X9_dropPlan rfl rfl rfl hdX9_dropPlan_v ⟨Nat.le_of_ble_eq_true rfl, Nat.le_of_ble_eq_true rfl⟩) hN hE hL (rcv10 hN hT hw.1) rfl rfl hl.1 (Nat.le_of_ble_eq_true rfl) dX9_change_147 (Nat.zero_le _) (Nat.zero_le _) (fun H1 locs hL hqr571 => ?_)
      obtain ⟨hT1, hF1⟩ := hqr571
      have hP : va_P D vwCl [(w, .inr (9, [.int f555_0, .ref f555_1, .int (nI ((κ w).2.2.1)), .int (nI f555_3), .int (nI f555_4), .int f555_5, .int f555_6, .int f555_7, .ref (κ w).2.2.2, .ref f555_9, .ref f555_10, .ref f555_11, .int (nI f555_12), .int f555_13, .int f555_14, .int f555_15, .int f555_16, .ref f555_17]))] _ := hF1.hP (hP.sub [0] rfl) (fa_c ⟨by rw [hw.1]; decide, by rw [hw.2]; first | decide | (simp; done) | (simp [h15a, h15b, h15c]; done) | (simp; omega)⟩ fa_n)
      have hF := hF.tr (hF1.mono (by simp))
      have hT := hT1
      refine lv_aload_n hx hb dX9_change_150 rfl (lv_at hl 1 rfl) ?_
      refine va_get (D := D) (ci := 9) (v := .ref (κ w).2.2.2) (C := RX9) (T := TX9) (N := 18) hx hb hts iX9_change_9 hown hN.1 hP 0 rfl rfl 8 (by decide) (hts _ mX9_change_1) (fun _ h9 => h9) rfl dX9_change_151 ?_
      refine lv_bipush (v := 9) hx hb dX9_change_154 (by decide) ?_
      refine lv_dup2_11 hx hb dX9_change_156 rfl rfl ?_
      obtain ⟨hb572, e572, hat572, hk572⟩ := hT.o24 t555_8.1
      obtain ⟨g572, rfl, q572⟩ := hk572
      have hP : va_P D vwCl [((κ w).2.2.2, .inl (cs 0, 45783, .inl g572)), (w, .inr (9, [.int f555_0, .ref f555_1, .int (nI ((κ w).2.2.1)), .int (nI f555_3), .int (nI f555_4), .int f555_5, .int f555_6, .int f555_7, .ref (κ w).2.2.2, .ref f555_9, .ref f555_10, .ref f555_11, .int (nI f555_12), .int f555_13, .int f555_14, .int f555_15, .int f555_16, .ref f555_17]))] _ := va_P.cons hat572 hP
      refine ld_i (v := (g572 9)) hx hb hN hP 0 rfl (vp_in_nI (n := 9) (N := 45783) (by omega) (by omega)) (by rw [(show (9 : Int32).toNatClampNeg = 9 from nI_clamp (n := 9) (by omega))]) dX9_change_157 ?_
      refine gn_i (fun x573 => ?_)
      refine lv_iconst (v := 1) hx hb dX9_change_158 (by decide) ?_
      refine lv_iadd hx hb dX9_change_159 ?_
      refine gn_i (fun x574 => ?_)
      have hB : Bx B0 D _ [((κ w).2.2.2, .inl (cs 0, 45783, .inl g572)), (w, .inr (9, [.int f555_0, .ref f555_1, .int (nI ((κ w).2.2.1)), .int (nI f555_3), .int (nI f555_4), .int f555_5, .int f555_6, .int f555_7, .ref (κ w).2.2.2, .ref f555_9, .ref f555_10, .ref f555_11, .int (nI f555_12), .int f555_13, .int f555_14, .int f555_15, .int f555_16, .ref f555_17]))] [] _ _ := Bx.of (fun a => (κ a).1) hL hP (fa_c hb572 (fa_c hb555 fa_n)) (by simp only [List.map_cons, List.map_nil, t555_8.1, hw.1]; decide)
      refine b_i hx hb hN hB 0 rfl (show vp_in (9 : Int32) 45783 from vp_in_nI (n := 9) (N := 45783) (by omega) (by omega)) (.inl rfl) dX9_change_160 (fun H locs hB => ?_)
      rw [(show (9 : Int32).toNatClampNeg = 9 from nI_clamp (n := 9) (by omega))] at hB
      have hB : Bx B0 D _ [((κ w).2.2.2, .inl (cs 0, 45783, .inl (upd g572 9 x574))), (w, .inr (9, [.int f555_0, .ref f555_1, .int (nI ((κ w).2.2.1)), .int (nI f555_3), .int (nI f555_4), .int f555_5, .int f555_6, .int f555_7, .ref (κ w).2.2.2, .ref f555_9, .ref f555_10, .ref f555_11, .int (nI f555_12), .int f555_13, .int f555_14, .int f555_15, .int f555_16, .ref f555_17]))] [(κ w).2.2.2] _ _ := hB
      have z575 := DOK.sf q572 (k := 9) (by omega) (x := x574)
      refine lv_aload_n hx hb dX9_change_161 rfl (lv_at hl 1 rfl) ?_
      refine va_get (D := D) (ci := 9) (v := .ref (κ w).2.2.2) (C := RX9) (T := TX9) (N := 18) hx hb hts iX9_change_9 hown hN.1 hB.1 1 rfl rfl 8 (by decide) (hts _ mX9_change_1) (fun _ h9 => h9) rfl dX9_change_162 ?_
      refine lv_bipush (v := 10) hx hb dX9_change_165 (by decide) ?_
      refine lv_dup2_11 hx hb dX9_change_167 rfl rfl ?_
      refine ld_i (v := ((upd g572 9 x574) 10)) hx hb hN hB.1 0 rfl (vp_in_nI (n := 10) (N := 45783) (by omega) (by omega)) (by rw [(show (10 : Int32).toNatClampNeg = 10 from nI_clamp (n := 10) (by omega))]) dX9_change_168 ?_
      refine gn_i (fun x576 => ?_)
      refine lv_iload_n hx hb dX9_change_169 rfl (lv_at hl 0 rfl) ?_
      refine lv_iadd hx hb dX9_change_170 ?_
      refine gn_i (fun x577 => ?_)
      refine b_i hx hb hN hB 0 rfl (show vp_in (10 : Int32) 45783 from vp_in_nI (n := 10) (N := 45783) (by omega) (by omega)) (.inr ⟨rfl, List.mem_of_getElem? (i := 0) rfl⟩) dX9_change_171 (fun H locs hB => ?_)
      rw [(show (10 : Int32).toNatClampNeg = 10 from nI_clamp (n := 10) (by omega))] at hB
      have hB : Bx B0 D _ [((κ w).2.2.2, .inl (cs 0, 45783, .inl (upd (upd g572 9 x574) 10 x577))), (w, .inr (9, [.int f555_0, .ref f555_1, .int (nI ((κ w).2.2.1)), .int (nI f555_3), .int (nI f555_4), .int f555_5, .int f555_6, .int f555_7, .ref (κ w).2.2.2, .ref f555_9, .ref f555_10, .ref f555_11, .int (nI f555_12), .int f555_13, .int f555_14, .int f555_15, .int f555_16, .ref f555_17]))] [(κ w).2.2.2] _ _ := hB
      have z578 := DOK.sf z575 (k := 10) (by omega) (x := x577)
      have hT : WT B0 D cs T κ _ := hT.close hB ⟨⟨0, _, rfl, ok_24 t555_8.1 ⟨_, rfl, z578⟩⟩, trivial⟩
      have hF : Fr B0 [18] κ H0 _ := hF.close hB (fa_c (by simp [t555_8.2]) fa_n)
      have hL : OkL B0 _ := hB.2.2.2.2.2
      have hP : va_P D vwCl [((κ w).2.2.2, .inl (cs 0, 45783, .inl (upd (upd g572 9 x574) 10 x577))), (w, .inr (9, [.int f555_0, .ref f555_1, .int (nI ((κ w).2.2.1)), .int (nI f555_3), .int (nI f555_4), .int f555_5, .int f555_6, .int f555_7, .ref (κ w).2.2.2, .ref f555_9, .ref f555_10, .ref f555_11, .int (nI f555_12), .int f555_13, .int f555_14, .int f555_15, .int f555_16, .ref f555_17]))] _ := hB.1
      exact en_v hx hb hr hlocks hL (Nat.zero_le _) (Nat.zero_le _) dX9_change_172 (⟨hT, hF⟩)
    · refine lv_aload_n hx hb dX9_change_40 rfl (lv_at hl 1 rfl) ?_
      refine va_get (D := D) (ci := 9) (v := .ref (κ w).2.2.2) (C := RX9) (T := TX9) (N := 18) hx hb hts iX9_change_9 hown hN.1 hP 1 rfl rfl 8 (by decide) (hts _ mX9_change_1) (fun _ h9 => h9) rfl dX9_change_41 ?_
      refine lv_bipush (v := 21) hx hb dX9_change_44 (by decide) ?_
      refine lv_aload_n hx hb dX9_change_46 rfl (lv_at hl 1 rfl) ?_
      refine va_get (D := D) (ci := 9) (v := .ref (κ w).2.2.2) (C := RX9) (T := TX9) (N := 18) hx hb hts iX9_change_9 hown hN.1 hP 1 rfl rfl 8 (by decide) (hts _ mX9_change_1) (fun _ h9 => h9) rfl dX9_change_47 ?_
      refine lv_bipush (v := 21) hx hb dX9_change_50 (by decide) ?_
      refine ld_i (v := (g556 21)) hx hb hN hP 0 rfl (vp_in_nI (n := 21) (N := 45783) (by omega) (by omega)) (by rw [(show (21 : Int32).toNatClampNeg = 21 from nI_clamp (n := 21) (by omega))]) dX9_change_52 ?_
      refine gn_i (fun x579 => ?_)
      refine lv_iconst (v := (-1)) hx hb dX9_change_53 (by decide) ?_
      refine lv_icmp_ne (tgt := 66) hx hb dX9_change_54 (by decide) (fun c580 => ?_) (fun c580 => ?_)
      · refine lv_aload_n hx hb dX9_change_66 rfl (lv_at hl 1 rfl) ?_
        refine va_get (D := D) (ci := 9) (v := .ref (κ w).2.2.2) (C := RX9) (T := TX9) (N := 18) hx hb hts iX9_change_9 hown hN.1 hP 1 rfl rfl 8 (by decide) (hts _ mX9_change_1) (fun _ h9 => h9) rfl dX9_change_67 ?_
        refine lv_bipush (v := 21) hx hb dX9_change_70 (by decide) ?_
        refine ld_i (v := (g556 21)) hx hb hN hP 0 rfl (vp_in_nI (n := 21) (N := 45783) (by omega) (by omega)) (by rw [(show (21 : Int32).toNatClampNeg = 21 from nI_clamp (n := 21) (by omega))]) dX9_change_72 ?_
        refine gn_i (fun x581 => ?_)
        have hB : Bx B0 D _ [((κ w).2.2.2, .inl (cs 0, 45783, .inl g556)), (w, .inr (9, [.int f555_0, .ref f555_1, .int (nI ((κ w).2.2.1)), .int (nI f555_3), .int (nI f555_4), .int f555_5, .int f555_6, .int f555_7, .ref (κ w).2.2.2, .ref f555_9, .ref f555_10, .ref f555_11, .int (nI f555_12), .int f555_13, .int f555_14, .int f555_15, .int f555_16, .ref f555_17]))] [] _ _ := Bx.of (fun a => (κ a).1) hL hP (fa_c hb556 (fa_c hb555 fa_n)) (by simp only [List.map_cons, List.map_nil, t555_8.1, hw.1]; decide)
        refine b_i hx hb hN hB 0 rfl (show vp_in (21 : Int32) 45783 from vp_in_nI (n := 21) (N := 45783) (by omega) (by omega)) (.inl rfl) dX9_change_73 (fun H locs hB => ?_)
        rw [(show (21 : Int32).toNatClampNeg = 21 from nI_clamp (n := 21) (by omega))] at hB
        have hB : Bx B0 D _ [((κ w).2.2.2, .inl (cs 0, 45783, .inl (upd g556 21 x581))), (w, .inr (9, [.int f555_0, .ref f555_1, .int (nI ((κ w).2.2.1)), .int (nI f555_3), .int (nI f555_4), .int f555_5, .int f555_6, .int f555_7, .ref (κ w).2.2.2, .ref f555_9, .ref f555_10, .ref f555_11, .int (nI f555_12), .int f555_13, .int f555_14, .int f555_15, .int f555_16, .ref f555_17]))] [(κ w).2.2.2] _ _ := hB
        have z582 := DOK.sf q556 (k := 21) (by omega) (x := x581)
        refine lv_aload_n hx hb dX9_change_74 rfl (lv_at hl 1 rfl) ?_
        refine va_get (D := D) (ci := 9) (v := .ref (κ w).2.2.2) (C := RX9) (T := TX9) (N := 18) hx hb hts iX9_change_9 hown hN.1 hB.1 1 rfl rfl 8 (by decide) (hts _ mX9_change_1) (fun _ h9 => h9) rfl dX9_change_75 ?_
        refine lv_bipush (v := 22) hx hb dX9_change_78 (by decide) ?_
        refine lv_aload_n hx hb dX9_change_80 rfl (lv_at hl 1 rfl) ?_
        refine va_get (D := D) (ci := 9) (v := .ref (κ w).2.2.2) (C := RX9) (T := TX9) (N := 18) hx hb hts iX9_change_9 hown hN.1 hB.1 1 rfl rfl 8 (by decide) (hts _ mX9_change_1) (fun _ h9 => h9) rfl dX9_change_81 ?_
        refine lv_iconst (v := 1) hx hb dX9_change_84 (by decide) ?_
        refine ld_i (v := ((upd g556 21 x581) 1)) hx hb hN hB.1 0 rfl (vp_in_nI (n := 1) (N := 45783) (by omega) (by omega)) (by rw [(show (1 : Int32).toNatClampNeg = 1 from nI_clamp (n := 1) (by omega))]) dX9_change_85 ?_
        refine gn_i (fun x583 => ?_)
        refine b_i hx hb hN hB 0 rfl (show vp_in (22 : Int32) 45783 from vp_in_nI (n := 22) (N := 45783) (by omega) (by omega)) (.inr ⟨rfl, List.mem_of_getElem? (i := 0) rfl⟩) dX9_change_86 (fun H locs hB => ?_)
        rw [(show (22 : Int32).toNatClampNeg = 22 from nI_clamp (n := 22) (by omega))] at hB
        have hB : Bx B0 D _ [((κ w).2.2.2, .inl (cs 0, 45783, .inl (upd (upd g556 21 x581) 22 x583))), (w, .inr (9, [.int f555_0, .ref f555_1, .int (nI ((κ w).2.2.1)), .int (nI f555_3), .int (nI f555_4), .int f555_5, .int f555_6, .int f555_7, .ref (κ w).2.2.2, .ref f555_9, .ref f555_10, .ref f555_11, .int (nI f555_12), .int f555_13, .int f555_14, .int f555_15, .int f555_16, .ref f555_17]))] [(κ w).2.2.2] _ _ := hB
        have z584 := DOK.sf z582 (k := 22) (by omega) (x := x583)
        refine lv_aload_n hx hb dX9_change_87 rfl (lv_at hl 1 rfl) ?_
        refine lv_iload_n hx hb dX9_change_88 rfl (lv_at hl 2 rfl) ?_
        refine lv_iconst (v := 4) hx hb dX9_change_89 (by decide) ?_
        refine lv_aload_n hx hb dX9_change_90 rfl (lv_at hl 1 rfl) ?_
        refine lv_iload_n hx hb dX9_change_91 rfl (lv_at hl 2 rfl) ?_
        refine lv_bipush (v := 7) hx hb dX9_change_92 (by decide) ?_
        have hT : WT B0 D cs T κ _ := hT.close hB ⟨⟨0, _, rfl, ok_24 t555_8.1 ⟨_, rfl, z584⟩⟩, trivial⟩
        have hF : Fr B0 [18] κ H0 _ := hF.close hB (fa_c (by simp [t555_8.2]) fa_n)
        have hL : OkL B0 _ := hB.2.2.2.2.2
        have hP : va_P D vwCl [((κ w).2.2.2, .inl (cs 0, 45783, .inl (upd (upd g556 21 x581) 22 x583))), (w, .inr (9, [.int f555_0, .ref f555_1, .int (nI ((κ w).2.2.1)), .int (nI f555_3), .int (nI f555_4), .int f555_5, .int f555_6, .int f555_7, .ref (κ w).2.2.2, .ref f555_9, .ref f555_10, .ref f555_11, .int (nI f555_12), .int f555_13, .int f555_14, .int f555_15, .int f555_16, .ref f555_17]))] _ := hB.1
        refine cv_i (As := [.int (nI n), .int 7]) (rest := [.int 4, .int (nI n), .ref w]) (b := w) ⟨hx, hb, hml, hown, hts⟩ (c_X9_of hT (w := w) hw (n := n) (k := 7) (by first | omega | decide | assumption) (by first | omega | decide | assumption)) (cwV 2 hts gX9_change_X9_of rfl rfl rfl hdX9_of_v ⟨Nat.le_of_ble_eq_true rfl, Nat.le_of_ble_eq_true rfl⟩) hN hE hL (rcv10 hN hT hw.1) rfl rfl hl.1 (Nat.le_of_ble_eq_true rfl) dX9_change_94 (Nat.zero_le _) (Nat.zero_le _) (fun r585 H1 locs hL hqr585 => ?_)
        obtain rfl := hqr585.symm
        refine cv_v (As := [.int (nI n), .int 4, .int r585]) (rest := []) (b := w) ⟨hx, hb, hml, hown, hts⟩ (c_X9_set hT (w := w) hw (n := n) (k := 4) (x := r585) (by first | omega | decide | assumption) (by first | omega | decide | assumption)) (cwV 3 hts gX9_change_X9_set rfl rfl rfl hdX9_set_v ⟨Nat.le_of_ble_eq_true rfl, Nat.le_of_ble_eq_true rfl⟩) hN hE hL (rcv10 hN hT hw.1) rfl rfl hl.1 (Nat.le_of_ble_eq_true rfl) dX9_change_97 (Nat.zero_le _) (Nat.zero_le _) (fun H1 locs hL hqr586 => ?_)
        obtain ⟨hT1, hF1⟩ := hqr586
        have hP : va_P D vwCl [(w, .inr (9, [.int f555_0, .ref f555_1, .int (nI ((κ w).2.2.1)), .int (nI f555_3), .int (nI f555_4), .int f555_5, .int f555_6, .int f555_7, .ref (κ w).2.2.2, .ref f555_9, .ref f555_10, .ref f555_11, .int (nI f555_12), .int f555_13, .int f555_14, .int f555_15, .int f555_16, .ref f555_17]))] _ := hF1.hP (hP.sub [1] rfl) (fa_c ⟨by rw [hw.1]; decide, by rw [hw.2]; first | decide | (simp; done) | (simp [h15a, h15b, h15c]; done) | (simp; omega)⟩ fa_n)
        have hF := hF.tr (hF1.mono (by simp))
        have hT := hT1
        refine lv_aload_n hx hb dX9_change_100 rfl (lv_at hl 1 rfl) ?_
        refine lv_iload_n hx hb dX9_change_101 rfl (lv_at hl 2 rfl) ?_
        refine lv_bipush (v := 9) hx hb dX9_change_102 (by decide) ?_
        refine lv_aload_n hx hb dX9_change_104 rfl (lv_at hl 1 rfl) ?_
        refine lv_iload_n hx hb dX9_change_105 rfl (lv_at hl 2 rfl) ?_
        refine lv_bipush (v := 9) hx hb dX9_change_106 (by decide) ?_
        refine cv_i (As := [.int (nI n), .int 9]) (rest := [.int 9, .int (nI n), .ref w]) (b := w) ⟨hx, hb, hml, hown, hts⟩ (c_X9_of hT (w := w) hw (n := n) (k := 9) (by first | omega | decide | assumption) (by first | omega | decide | assumption)) (cwV 2 hts gX9_change_X9_of rfl rfl rfl hdX9_of_v ⟨Nat.le_of_ble_eq_true rfl, Nat.le_of_ble_eq_true rfl⟩) hN hE hL (rcv10 hN hT hw.1) rfl rfl hl.1 (Nat.le_of_ble_eq_true rfl) dX9_change_108 (Nat.zero_le _) (Nat.zero_le _) (fun r587 H1 locs hL hqr587 => ?_)
        obtain rfl := hqr587.symm
        refine lv_iconst (v := 1) hx hb dX9_change_111 (by decide) ?_
        refine lv_iadd hx hb dX9_change_112 ?_
        refine gn_i (fun x588 => ?_)
        refine cv_v (As := [.int (nI n), .int 9, .int x588]) (rest := []) (b := w) ⟨hx, hb, hml, hown, hts⟩ (c_X9_set hT (w := w) hw (n := n) (k := 9) (x := x588) (by first | omega | decide | assumption) (by first | omega | decide | assumption)) (cwV 3 hts gX9_change_X9_set rfl rfl rfl hdX9_set_v ⟨Nat.le_of_ble_eq_true rfl, Nat.le_of_ble_eq_true rfl⟩) hN hE hL (rcv10 hN hT hw.1) rfl rfl hl.1 (Nat.le_of_ble_eq_true rfl) dX9_change_113 (Nat.zero_le _) (Nat.zero_le _) (fun H1 locs hL hqr589 => ?_)
        obtain ⟨hT1, hF1⟩ := hqr589
        have hP : va_P D vwCl [(w, .inr (9, [.int f555_0, .ref f555_1, .int (nI ((κ w).2.2.1)), .int (nI f555_3), .int (nI f555_4), .int f555_5, .int f555_6, .int f555_7, .ref (κ w).2.2.2, .ref f555_9, .ref f555_10, .ref f555_11, .int (nI f555_12), .int f555_13, .int f555_14, .int f555_15, .int f555_16, .ref f555_17]))] _ := hF1.hP (hP.sub [0] rfl) (fa_c ⟨by rw [hw.1]; decide, by rw [hw.2]; first | decide | (simp; done) | (simp [h15a, h15b, h15c]; done) | (simp; omega)⟩ fa_n)
        have hF := hF.tr (hF1.mono (by simp))
        have hT := hT1
        refine lv_aload_n hx hb dX9_change_116 rfl (lv_at hl 1 rfl) ?_
        refine lv_iload_n hx hb dX9_change_117 rfl (lv_at hl 2 rfl) ?_
        refine lv_bipush (v := 10) hx hb dX9_change_118 (by decide) ?_
        refine lv_aload_n hx hb dX9_change_120 rfl (lv_at hl 1 rfl) ?_
        refine lv_iload_n hx hb dX9_change_121 rfl (lv_at hl 2 rfl) ?_
        refine lv_bipush (v := 10) hx hb dX9_change_122 (by decide) ?_
        refine cv_i (As := [.int (nI n), .int 10]) (rest := [.int 10, .int (nI n), .ref w]) (b := w) ⟨hx, hb, hml, hown, hts⟩ (c_X9_of hT (w := w) hw (n := n) (k := 10) (by first | omega | decide | assumption) (by first | omega | decide | assumption)) (cwV 2 hts gX9_change_X9_of rfl rfl rfl hdX9_of_v ⟨Nat.le_of_ble_eq_true rfl, Nat.le_of_ble_eq_true rfl⟩) hN hE hL (rcv10 hN hT hw.1) rfl rfl hl.1 (Nat.le_of_ble_eq_true rfl) dX9_change_124 (Nat.zero_le _) (Nat.zero_le _) (fun r590 H1 locs hL hqr590 => ?_)
        obtain rfl := hqr590.symm
        refine lv_iload_n hx hb dX9_change_127 rfl (lv_at hl 0 rfl) ?_
        refine lv_iadd hx hb dX9_change_128 ?_
        refine gn_i (fun x591 => ?_)
        refine cv_v (As := [.int (nI n), .int 10, .int x591]) (rest := []) (b := w) ⟨hx, hb, hml, hown, hts⟩ (c_X9_set hT (w := w) hw (n := n) (k := 10) (x := x591) (by first | omega | decide | assumption) (by first | omega | decide | assumption)) (cwV 3 hts gX9_change_X9_set rfl rfl rfl hdX9_set_v ⟨Nat.le_of_ble_eq_true rfl, Nat.le_of_ble_eq_true rfl⟩) hN hE hL (rcv10 hN hT hw.1) rfl rfl hl.1 (Nat.le_of_ble_eq_true rfl) dX9_change_129 (Nat.zero_le _) (Nat.zero_le _) (fun H1 locs hL hqr592 => ?_)
        obtain ⟨hT1, hF1⟩ := hqr592
        have hP : va_P D vwCl [(w, .inr (9, [.int f555_0, .ref f555_1, .int (nI ((κ w).2.2.1)), .int (nI f555_3), .int (nI f555_4), .int f555_5, .int f555_6, .int f555_7, .ref (κ w).2.2.2, .ref f555_9, .ref f555_10, .ref f555_11, .int (nI f555_12), .int f555_13, .int f555_14, .int f555_15, .int f555_16, .ref f555_17]))] _ := hF1.hP (hP.sub [0] rfl) (fa_c ⟨by rw [hw.1]; decide, by rw [hw.2]; first | decide | (simp; done) | (simp [h15a, h15b, h15c]; done) | (simp; omega)⟩ fa_n)
        have hF := hF.tr (hF1.mono (by simp))
        have hT := hT1
        refine lv_aload_n hx hb dX9_change_132 rfl (lv_at hl 1 rfl) ?_
        refine lv_iload_n hx hb dX9_change_133 rfl (lv_at hl 2 rfl) ?_
        refine lv_bipush (v := 11) hx hb dX9_change_134 (by decide) ?_
        refine lv_aload_n hx hb dX9_change_136 rfl (lv_at hl 1 rfl) ?_
        refine va_get (D := D) (ci := 9) (v := .ref (κ w).2.2.2) (C := RX9) (T := TX9) (N := 18) hx hb hts iX9_change_9 hown hN.1 hP 0 rfl rfl 8 (by decide) (hts _ mX9_change_1) (fun _ h9 => h9) rfl dX9_change_137 ?_
        refine lv_iconst (v := 1) hx hb dX9_change_140 (by decide) ?_
        obtain ⟨hb593, e593, hat593, hk593⟩ := hT.o24 t555_8.1
        obtain ⟨g593, rfl, q593⟩ := hk593
        have hP : va_P D vwCl [((κ w).2.2.2, .inl (cs 0, 45783, .inl g593)), (w, .inr (9, [.int f555_0, .ref f555_1, .int (nI ((κ w).2.2.1)), .int (nI f555_3), .int (nI f555_4), .int f555_5, .int f555_6, .int f555_7, .ref (κ w).2.2.2, .ref f555_9, .ref f555_10, .ref f555_11, .int (nI f555_12), .int f555_13, .int f555_14, .int f555_15, .int f555_16, .ref f555_17]))] _ := va_P.cons hat593 hP
        refine ld_i (v := (g593 1)) hx hb hN hP 0 rfl (vp_in_nI (n := 1) (N := 45783) (by omega) (by omega)) (by rw [(show (1 : Int32).toNatClampNeg = 1 from nI_clamp (n := 1) (by omega))]) dX9_change_141 ?_
        refine gn_i (fun x594 => ?_)
        refine cv_v (As := [.int (nI n), .int 11, .int x594]) (rest := []) (b := w) ⟨hx, hb, hml, hown, hts⟩ (c_X9_set hT (w := w) hw (n := n) (k := 11) (x := x594) (by first | omega | decide | assumption) (by first | omega | decide | assumption)) (cwV 3 hts gX9_change_X9_set rfl rfl rfl hdX9_set_v ⟨Nat.le_of_ble_eq_true rfl, Nat.le_of_ble_eq_true rfl⟩) hN hE hL (rcv10 hN hT hw.1) rfl rfl hl.1 (Nat.le_of_ble_eq_true rfl) dX9_change_142 (Nat.zero_le _) (Nat.zero_le _) (fun H1 locs hL hqr595 => ?_)
        obtain ⟨hT1, hF1⟩ := hqr595
        have hP : va_P D vwCl [(w, .inr (9, [.int f555_0, .ref f555_1, .int (nI ((κ w).2.2.1)), .int (nI f555_3), .int (nI f555_4), .int f555_5, .int f555_6, .int f555_7, .ref (κ w).2.2.2, .ref f555_9, .ref f555_10, .ref f555_11, .int (nI f555_12), .int f555_13, .int f555_14, .int f555_15, .int f555_16, .ref f555_17]))] _ := hF1.hP (hP.sub [1] rfl) (fa_c ⟨by rw [hw.1]; decide, by rw [hw.2]; first | decide | (simp; done) | (simp [h15a, h15b, h15c]; done) | (simp; omega)⟩ fa_n)
        have hF := hF.tr (hF1.mono (by simp))
        have hT := hT1
        refine lv_aload_n hx hb dX9_change_145 rfl (lv_at hl 1 rfl) ?_
        refine lv_iload_n hx hb dX9_change_146 rfl (lv_at hl 2 rfl) ?_
        refine cv_v (As := [.int (nI n)]) (rest := []) (b := w) ⟨hx, hb, hml, hown, hts⟩ (c_X9_dropPlan hT (w := w) hw (n := n) (by first | omega | decide | assumption)) (cwV 1 hts gX9_change_X9_dropPlan rfl rfl rfl hdX9_dropPlan_v ⟨Nat.le_of_ble_eq_true rfl, Nat.le_of_ble_eq_true rfl⟩) hN hE hL (rcv10 hN hT hw.1) rfl rfl hl.1 (Nat.le_of_ble_eq_true rfl) dX9_change_147 (Nat.zero_le _) (Nat.zero_le _) (fun H1 locs hL hqr596 => ?_)
        obtain ⟨hT1, hF1⟩ := hqr596
        have hP : va_P D vwCl [(w, .inr (9, [.int f555_0, .ref f555_1, .int (nI ((κ w).2.2.1)), .int (nI f555_3), .int (nI f555_4), .int f555_5, .int f555_6, .int f555_7, .ref (κ w).2.2.2, .ref f555_9, .ref f555_10, .ref f555_11, .int (nI f555_12), .int f555_13, .int f555_14, .int f555_15, .int f555_16, .ref f555_17]))] _ := hF1.hP (hP.sub [0] rfl) (fa_c ⟨by rw [hw.1]; decide, by rw [hw.2]; first | decide | (simp; done) | (simp [h15a, h15b, h15c]; done) | (simp; omega)⟩ fa_n)
        have hF := hF.tr (hF1.mono (by simp))
        have hT := hT1
        refine lv_aload_n hx hb dX9_change_150 rfl (lv_at hl 1 rfl) ?_
        refine va_get (D := D) (ci := 9) (v := .ref (κ w).2.2.2) (C := RX9) (T := TX9) (N := 18) hx hb hts iX9_change_9 hown hN.1 hP 0 rfl rfl 8 (by decide) (hts _ mX9_change_1) (fun _ h9 => h9) rfl dX9_change_151 ?_
        refine lv_bipush (v := 9) hx hb dX9_change_154 (by decide) ?_
        refine lv_dup2_11 hx hb dX9_change_156 rfl rfl ?_
        obtain ⟨hb597, e597, hat597, hk597⟩ := hT.o24 t555_8.1
        obtain ⟨g597, rfl, q597⟩ := hk597
        have hP : va_P D vwCl [((κ w).2.2.2, .inl (cs 0, 45783, .inl g597)), (w, .inr (9, [.int f555_0, .ref f555_1, .int (nI ((κ w).2.2.1)), .int (nI f555_3), .int (nI f555_4), .int f555_5, .int f555_6, .int f555_7, .ref (κ w).2.2.2, .ref f555_9, .ref f555_10, .ref f555_11, .int (nI f555_12), .int f555_13, .int f555_14, .int f555_15, .int f555_16, .ref f555_17]))] _ := va_P.cons hat597 hP
        refine ld_i (v := (g597 9)) hx hb hN hP 0 rfl (vp_in_nI (n := 9) (N := 45783) (by omega) (by omega)) (by rw [(show (9 : Int32).toNatClampNeg = 9 from nI_clamp (n := 9) (by omega))]) dX9_change_157 ?_
        refine gn_i (fun x598 => ?_)
        refine lv_iconst (v := 1) hx hb dX9_change_158 (by decide) ?_
        refine lv_iadd hx hb dX9_change_159 ?_
        refine gn_i (fun x599 => ?_)
        have hB : Bx B0 D _ [((κ w).2.2.2, .inl (cs 0, 45783, .inl g597)), (w, .inr (9, [.int f555_0, .ref f555_1, .int (nI ((κ w).2.2.1)), .int (nI f555_3), .int (nI f555_4), .int f555_5, .int f555_6, .int f555_7, .ref (κ w).2.2.2, .ref f555_9, .ref f555_10, .ref f555_11, .int (nI f555_12), .int f555_13, .int f555_14, .int f555_15, .int f555_16, .ref f555_17]))] [] _ _ := Bx.of (fun a => (κ a).1) hL hP (fa_c hb597 (fa_c hb555 fa_n)) (by simp only [List.map_cons, List.map_nil, t555_8.1, hw.1]; decide)
        refine b_i hx hb hN hB 0 rfl (show vp_in (9 : Int32) 45783 from vp_in_nI (n := 9) (N := 45783) (by omega) (by omega)) (.inl rfl) dX9_change_160 (fun H locs hB => ?_)
        rw [(show (9 : Int32).toNatClampNeg = 9 from nI_clamp (n := 9) (by omega))] at hB
        have hB : Bx B0 D _ [((κ w).2.2.2, .inl (cs 0, 45783, .inl (upd g597 9 x599))), (w, .inr (9, [.int f555_0, .ref f555_1, .int (nI ((κ w).2.2.1)), .int (nI f555_3), .int (nI f555_4), .int f555_5, .int f555_6, .int f555_7, .ref (κ w).2.2.2, .ref f555_9, .ref f555_10, .ref f555_11, .int (nI f555_12), .int f555_13, .int f555_14, .int f555_15, .int f555_16, .ref f555_17]))] [(κ w).2.2.2] _ _ := hB
        have z600 := DOK.sf q597 (k := 9) (by omega) (x := x599)
        refine lv_aload_n hx hb dX9_change_161 rfl (lv_at hl 1 rfl) ?_
        refine va_get (D := D) (ci := 9) (v := .ref (κ w).2.2.2) (C := RX9) (T := TX9) (N := 18) hx hb hts iX9_change_9 hown hN.1 hB.1 1 rfl rfl 8 (by decide) (hts _ mX9_change_1) (fun _ h9 => h9) rfl dX9_change_162 ?_
        refine lv_bipush (v := 10) hx hb dX9_change_165 (by decide) ?_
        refine lv_dup2_11 hx hb dX9_change_167 rfl rfl ?_
        refine ld_i (v := ((upd g597 9 x599) 10)) hx hb hN hB.1 0 rfl (vp_in_nI (n := 10) (N := 45783) (by omega) (by omega)) (by rw [(show (10 : Int32).toNatClampNeg = 10 from nI_clamp (n := 10) (by omega))]) dX9_change_168 ?_
        refine gn_i (fun x601 => ?_)
        refine lv_iload_n hx hb dX9_change_169 rfl (lv_at hl 0 rfl) ?_
        refine lv_iadd hx hb dX9_change_170 ?_
        refine gn_i (fun x602 => ?_)
        refine b_i hx hb hN hB 0 rfl (show vp_in (10 : Int32) 45783 from vp_in_nI (n := 10) (N := 45783) (by omega) (by omega)) (.inr ⟨rfl, List.mem_of_getElem? (i := 0) rfl⟩) dX9_change_171 (fun H locs hB => ?_)
        rw [(show (10 : Int32).toNatClampNeg = 10 from nI_clamp (n := 10) (by omega))] at hB
        have hB : Bx B0 D _ [((κ w).2.2.2, .inl (cs 0, 45783, .inl (upd (upd g597 9 x599) 10 x602))), (w, .inr (9, [.int f555_0, .ref f555_1, .int (nI ((κ w).2.2.1)), .int (nI f555_3), .int (nI f555_4), .int f555_5, .int f555_6, .int f555_7, .ref (κ w).2.2.2, .ref f555_9, .ref f555_10, .ref f555_11, .int (nI f555_12), .int f555_13, .int f555_14, .int f555_15, .int f555_16, .ref f555_17]))] [(κ w).2.2.2] _ _ := hB
        have z603 := DOK.sf z600 (k := 10) (by omega) (x := x602)
        have hT : WT B0 D cs T κ _ := hT.close hB ⟨⟨0, _, rfl, ok_24 t555_8.1 ⟨_, rfl, z603⟩⟩, trivial⟩
        have hF : Fr B0 [18] κ H0 _ := hF.close hB (fa_c (by simp [t555_8.2]) fa_n)
        have hL : OkL B0 _ := hB.2.2.2.2.2
        have hP : va_P D vwCl [((κ w).2.2.2, .inl (cs 0, 45783, .inl (upd (upd g597 9 x599) 10 x602))), (w, .inr (9, [.int f555_0, .ref f555_1, .int (nI ((κ w).2.2.1)), .int (nI f555_3), .int (nI f555_4), .int f555_5, .int f555_6, .int f555_7, .ref (κ w).2.2.2, .ref f555_9, .ref f555_10, .ref f555_11, .int (nI f555_12), .int f555_13, .int f555_14, .int f555_15, .int f555_16, .ref f555_17]))] _ := hB.1
        exact en_v hx hb hr hlocks hL (Nat.zero_le _) (Nat.zero_le _) dX9_change_172 (⟨hT, hF⟩)
      · refine lv_aload_n hx hb dX9_change_57 rfl (lv_at hl 1 rfl) ?_
        refine va_get (D := D) (ci := 9) (v := .ref (κ w).2.2.2) (C := RX9) (T := TX9) (N := 18) hx hb hts iX9_change_9 hown hN.1 hP 1 rfl rfl 8 (by decide) (hts _ mX9_change_1) (fun _ h9 => h9) rfl dX9_change_58 ?_
        refine lv_iconst (v := 1) hx hb dX9_change_61 (by decide) ?_
        refine ld_i (v := (g556 1)) hx hb hN hP 0 rfl (vp_in_nI (n := 1) (N := 45783) (by omega) (by omega)) (by rw [(show (1 : Int32).toNatClampNeg = 1 from nI_clamp (n := 1) (by omega))]) dX9_change_62 ?_
        refine gn_i (fun x604 => ?_)
        refine lv_goto (tgt := 73) hx hb dX9_change_63 (by decide) ?_
        have hB : Bx B0 D _ [((κ w).2.2.2, .inl (cs 0, 45783, .inl g556)), (w, .inr (9, [.int f555_0, .ref f555_1, .int (nI ((κ w).2.2.1)), .int (nI f555_3), .int (nI f555_4), .int f555_5, .int f555_6, .int f555_7, .ref (κ w).2.2.2, .ref f555_9, .ref f555_10, .ref f555_11, .int (nI f555_12), .int f555_13, .int f555_14, .int f555_15, .int f555_16, .ref f555_17]))] [] _ _ := Bx.of (fun a => (κ a).1) hL hP (fa_c hb556 (fa_c hb555 fa_n)) (by simp only [List.map_cons, List.map_nil, t555_8.1, hw.1]; decide)
        refine b_i hx hb hN hB 0 rfl (show vp_in (21 : Int32) 45783 from vp_in_nI (n := 21) (N := 45783) (by omega) (by omega)) (.inl rfl) dX9_change_73 (fun H locs hB => ?_)
        rw [(show (21 : Int32).toNatClampNeg = 21 from nI_clamp (n := 21) (by omega))] at hB
        have hB : Bx B0 D _ [((κ w).2.2.2, .inl (cs 0, 45783, .inl (upd g556 21 x604))), (w, .inr (9, [.int f555_0, .ref f555_1, .int (nI ((κ w).2.2.1)), .int (nI f555_3), .int (nI f555_4), .int f555_5, .int f555_6, .int f555_7, .ref (κ w).2.2.2, .ref f555_9, .ref f555_10, .ref f555_11, .int (nI f555_12), .int f555_13, .int f555_14, .int f555_15, .int f555_16, .ref f555_17]))] [(κ w).2.2.2] _ _ := hB
        have z605 := DOK.sf q556 (k := 21) (by omega) (x := x604)
        refine lv_aload_n hx hb dX9_change_74 rfl (lv_at hl 1 rfl) ?_
        refine va_get (D := D) (ci := 9) (v := .ref (κ w).2.2.2) (C := RX9) (T := TX9) (N := 18) hx hb hts iX9_change_9 hown hN.1 hB.1 1 rfl rfl 8 (by decide) (hts _ mX9_change_1) (fun _ h9 => h9) rfl dX9_change_75 ?_
        refine lv_bipush (v := 22) hx hb dX9_change_78 (by decide) ?_
        refine lv_aload_n hx hb dX9_change_80 rfl (lv_at hl 1 rfl) ?_
        refine va_get (D := D) (ci := 9) (v := .ref (κ w).2.2.2) (C := RX9) (T := TX9) (N := 18) hx hb hts iX9_change_9 hown hN.1 hB.1 1 rfl rfl 8 (by decide) (hts _ mX9_change_1) (fun _ h9 => h9) rfl dX9_change_81 ?_
        refine lv_iconst (v := 1) hx hb dX9_change_84 (by decide) ?_
        refine ld_i (v := ((upd g556 21 x604) 1)) hx hb hN hB.1 0 rfl (vp_in_nI (n := 1) (N := 45783) (by omega) (by omega)) (by rw [(show (1 : Int32).toNatClampNeg = 1 from nI_clamp (n := 1) (by omega))]) dX9_change_85 ?_
        refine gn_i (fun x606 => ?_)
        refine b_i hx hb hN hB 0 rfl (show vp_in (22 : Int32) 45783 from vp_in_nI (n := 22) (N := 45783) (by omega) (by omega)) (.inr ⟨rfl, List.mem_of_getElem? (i := 0) rfl⟩) dX9_change_86 (fun H locs hB => ?_)
        rw [(show (22 : Int32).toNatClampNeg = 22 from nI_clamp (n := 22) (by omega))] at hB
        have hB : Bx B0 D _ [((κ w).2.2.2, .inl (cs 0, 45783, .inl (upd (upd g556 21 x604) 22 x606))), (w, .inr (9, [.int f555_0, .ref f555_1, .int (nI ((κ w).2.2.1)), .int (nI f555_3), .int (nI f555_4), .int f555_5, .int f555_6, .int f555_7, .ref (κ w).2.2.2, .ref f555_9, .ref f555_10, .ref f555_11, .int (nI f555_12), .int f555_13, .int f555_14, .int f555_15, .int f555_16, .ref f555_17]))] [(κ w).2.2.2] _ _ := hB
        have z607 := DOK.sf z605 (k := 22) (by omega) (x := x606)
        refine lv_aload_n hx hb dX9_change_87 rfl (lv_at hl 1 rfl) ?_
        refine lv_iload_n hx hb dX9_change_88 rfl (lv_at hl 2 rfl) ?_
        refine lv_iconst (v := 4) hx hb dX9_change_89 (by decide) ?_
        refine lv_aload_n hx hb dX9_change_90 rfl (lv_at hl 1 rfl) ?_
        refine lv_iload_n hx hb dX9_change_91 rfl (lv_at hl 2 rfl) ?_
        refine lv_bipush (v := 7) hx hb dX9_change_92 (by decide) ?_
        have hT : WT B0 D cs T κ _ := hT.close hB ⟨⟨0, _, rfl, ok_24 t555_8.1 ⟨_, rfl, z607⟩⟩, trivial⟩
        have hF : Fr B0 [18] κ H0 _ := hF.close hB (fa_c (by simp [t555_8.2]) fa_n)
        have hL : OkL B0 _ := hB.2.2.2.2.2
        have hP : va_P D vwCl [((κ w).2.2.2, .inl (cs 0, 45783, .inl (upd (upd g556 21 x604) 22 x606))), (w, .inr (9, [.int f555_0, .ref f555_1, .int (nI ((κ w).2.2.1)), .int (nI f555_3), .int (nI f555_4), .int f555_5, .int f555_6, .int f555_7, .ref (κ w).2.2.2, .ref f555_9, .ref f555_10, .ref f555_11, .int (nI f555_12), .int f555_13, .int f555_14, .int f555_15, .int f555_16, .ref f555_17]))] _ := hB.1
        refine cv_i (As := [.int (nI n), .int 7]) (rest := [.int 4, .int (nI n), .ref w]) (b := w) ⟨hx, hb, hml, hown, hts⟩ (c_X9_of hT (w := w) hw (n := n) (k := 7) (by first | omega | decide | assumption) (by first | omega | decide | assumption)) (cwV 2 hts gX9_change_X9_of rfl rfl rfl hdX9_of_v ⟨Nat.le_of_ble_eq_true rfl, Nat.le_of_ble_eq_true rfl⟩) hN hE hL (rcv10 hN hT hw.1) rfl rfl hl.1 (Nat.le_of_ble_eq_true rfl) dX9_change_94 (Nat.zero_le _) (Nat.zero_le _) (fun r608 H1 locs hL hqr608 => ?_)
        obtain rfl := hqr608.symm
        refine cv_v (As := [.int (nI n), .int 4, .int r608]) (rest := []) (b := w) ⟨hx, hb, hml, hown, hts⟩ (c_X9_set hT (w := w) hw (n := n) (k := 4) (x := r608) (by first | omega | decide | assumption) (by first | omega | decide | assumption)) (cwV 3 hts gX9_change_X9_set rfl rfl rfl hdX9_set_v ⟨Nat.le_of_ble_eq_true rfl, Nat.le_of_ble_eq_true rfl⟩) hN hE hL (rcv10 hN hT hw.1) rfl rfl hl.1 (Nat.le_of_ble_eq_true rfl) dX9_change_97 (Nat.zero_le _) (Nat.zero_le _) (fun H1 locs hL hqr609 => ?_)
        obtain ⟨hT1, hF1⟩ := hqr609
        have hP : va_P D vwCl [(w, .inr (9, [.int f555_0, .ref f555_1, .int (nI ((κ w).2.2.1)), .int (nI f555_3), .int (nI f555_4), .int f555_5, .int f555_6, .int f555_7, .ref (κ w).2.2.2, .ref f555_9, .ref f555_10, .ref f555_11, .int (nI f555_12), .int f555_13, .int f555_14, .int f555_15, .int f555_16, .ref f555_17]))] _ := hF1.hP (hP.sub [1] rfl) (fa_c ⟨by rw [hw.1]; decide, by rw [hw.2]; first | decide | (simp; done) | (simp [h15a, h15b, h15c]; done) | (simp; omega)⟩ fa_n)
        have hF := hF.tr (hF1.mono (by simp))
        have hT := hT1
        refine lv_aload_n hx hb dX9_change_100 rfl (lv_at hl 1 rfl) ?_
        refine lv_iload_n hx hb dX9_change_101 rfl (lv_at hl 2 rfl) ?_
        refine lv_bipush (v := 9) hx hb dX9_change_102 (by decide) ?_
        refine lv_aload_n hx hb dX9_change_104 rfl (lv_at hl 1 rfl) ?_
        refine lv_iload_n hx hb dX9_change_105 rfl (lv_at hl 2 rfl) ?_
        refine lv_bipush (v := 9) hx hb dX9_change_106 (by decide) ?_
        refine cv_i (As := [.int (nI n), .int 9]) (rest := [.int 9, .int (nI n), .ref w]) (b := w) ⟨hx, hb, hml, hown, hts⟩ (c_X9_of hT (w := w) hw (n := n) (k := 9) (by first | omega | decide | assumption) (by first | omega | decide | assumption)) (cwV 2 hts gX9_change_X9_of rfl rfl rfl hdX9_of_v ⟨Nat.le_of_ble_eq_true rfl, Nat.le_of_ble_eq_true rfl⟩) hN hE hL (rcv10 hN hT hw.1) rfl rfl hl.1 (Nat.le_of_ble_eq_true rfl) dX9_change_108 (Nat.zero_le _) (Nat.zero_le _) (fun r610 H1 locs hL hqr610 => ?_)
        obtain rfl := hqr610.symm
        refine lv_iconst (v := 1) hx hb dX9_change_111 (by decide) ?_
        refine lv_iadd hx hb dX9_change_112 ?_
        refine gn_i (fun x611 => ?_)
        refine cv_v (As := [.int (nI n), .int 9, .int x611]) (rest := []) (b := w) ⟨hx, hb, hml, hown, hts⟩ (c_X9_set hT (w := w) hw (n := n) (k := 9) (x := x611) (by first | omega | decide | assumption) (by first | omega | decide | assumption)) (cwV 3 hts gX9_change_X9_set rfl rfl rfl hdX9_set_v ⟨Nat.le_of_ble_eq_true rfl, Nat.le_of_ble_eq_true rfl⟩) hN hE hL (rcv10 hN hT hw.1) rfl rfl hl.1 (Nat.le_of_ble_eq_true rfl) dX9_change_113 (Nat.zero_le _) (Nat.zero_le _) (fun H1 locs hL hqr612 => ?_)
        obtain ⟨hT1, hF1⟩ := hqr612
        have hP : va_P D vwCl [(w, .inr (9, [.int f555_0, .ref f555_1, .int (nI ((κ w).2.2.1)), .int (nI f555_3), .int (nI f555_4), .int f555_5, .int f555_6, .int f555_7, .ref (κ w).2.2.2, .ref f555_9, .ref f555_10, .ref f555_11, .int (nI f555_12), .int f555_13, .int f555_14, .int f555_15, .int f555_16, .ref f555_17]))] _ := hF1.hP (hP.sub [0] rfl) (fa_c ⟨by rw [hw.1]; decide, by rw [hw.2]; first | decide | (simp; done) | (simp [h15a, h15b, h15c]; done) | (simp; omega)⟩ fa_n)
        have hF := hF.tr (hF1.mono (by simp))
        have hT := hT1
        refine lv_aload_n hx hb dX9_change_116 rfl (lv_at hl 1 rfl) ?_
        refine lv_iload_n hx hb dX9_change_117 rfl (lv_at hl 2 rfl) ?_
        refine lv_bipush (v := 10) hx hb dX9_change_118 (by decide) ?_
        refine lv_aload_n hx hb dX9_change_120 rfl (lv_at hl 1 rfl) ?_
        refine lv_iload_n hx hb dX9_change_121 rfl (lv_at hl 2 rfl) ?_
        refine lv_bipush (v := 10) hx hb dX9_change_122 (by decide) ?_
        refine cv_i (As := [.int (nI n), .int 10]) (rest := [.int 10, .int (nI n), .ref w]) (b := w) ⟨hx, hb, hml, hown, hts⟩ (c_X9_of hT (w := w) hw (n := n) (k := 10) (by first | omega | decide | assumption) (by first | omega | decide | assumption)) (cwV 2 hts gX9_change_X9_of rfl rfl rfl hdX9_of_v ⟨Nat.le_of_ble_eq_true rfl, Nat.le_of_ble_eq_true rfl⟩) hN hE hL (rcv10 hN hT hw.1) rfl rfl hl.1 (Nat.le_of_ble_eq_true rfl) dX9_change_124 (Nat.zero_le _) (Nat.zero_le _) (fun r613 H1 locs hL hqr613 => ?_)
        obtain rfl := hqr613.symm
        refine lv_iload_n hx hb dX9_change_127 rfl (lv_at hl 0 rfl) ?_
        refine lv_iadd hx hb dX9_change_128 ?_
        refine gn_i (fun x614 => ?_)
        refine cv_v (As := [.int (nI n), .int 10, .int x614]) (rest := []) (b := w) ⟨hx, hb, hml, hown, hts⟩ (c_X9_set hT (w := w) hw (n := n) (k := 10) (x := x614) (by first | omega | decide | assumption) (by first | omega | decide | assumption)) (cwV 3 hts gX9_change_X9_set rfl rfl rfl hdX9_set_v ⟨Nat.le_of_ble_eq_true rfl, Nat.le_of_ble_eq_true rfl⟩) hN hE hL (rcv10 hN hT hw.1) rfl rfl hl.1 (Nat.le_of_ble_eq_true rfl) dX9_change_129 (Nat.zero_le _) (Nat.zero_le _) (fun H1 locs hL hqr615 => ?_)
        obtain ⟨hT1, hF1⟩ := hqr615
        have hP : va_P D vwCl [(w, .inr (9, [.int f555_0, .ref f555_1, .int (nI ((κ w).2.2.1)), .int (nI f555_3), .int (nI f555_4), .int f555_5, .int f555_6, .int f555_7, .ref (κ w).2.2.2, .ref f555_9, .ref f555_10, .ref f555_11, .int (nI f555_12), .int f555_13, .int f555_14, .int f555_15, .int f555_16, .ref f555_17]))] _ := hF1.hP (hP.sub [0] rfl) (fa_c ⟨by rw [hw.1]; decide, by rw [hw.2]; first | decide | (simp; done) | (simp [h15a, h15b, h15c]; done) | (simp; omega)⟩ fa_n)
        have hF := hF.tr (hF1.mono (by simp))
        have hT := hT1
        refine lv_aload_n hx hb dX9_change_132 rfl (lv_at hl 1 rfl) ?_
        refine lv_iload_n hx hb dX9_change_133 rfl (lv_at hl 2 rfl) ?_
        refine lv_bipush (v := 11) hx hb dX9_change_134 (by decide) ?_
        refine lv_aload_n hx hb dX9_change_136 rfl (lv_at hl 1 rfl) ?_
        refine va_get (D := D) (ci := 9) (v := .ref (κ w).2.2.2) (C := RX9) (T := TX9) (N := 18) hx hb hts iX9_change_9 hown hN.1 hP 0 rfl rfl 8 (by decide) (hts _ mX9_change_1) (fun _ h9 => h9) rfl dX9_change_137 ?_
        refine lv_iconst (v := 1) hx hb dX9_change_140 (by decide) ?_
        obtain ⟨hb616, e616, hat616, hk616⟩ := hT.o24 t555_8.1
        obtain ⟨g616, rfl, q616⟩ := hk616
        have hP : va_P D vwCl [((κ w).2.2.2, .inl (cs 0, 45783, .inl g616)), (w, .inr (9, [.int f555_0, .ref f555_1, .int (nI ((κ w).2.2.1)), .int (nI f555_3), .int (nI f555_4), .int f555_5, .int f555_6, .int f555_7, .ref (κ w).2.2.2, .ref f555_9, .ref f555_10, .ref f555_11, .int (nI f555_12), .int f555_13, .int f555_14, .int f555_15, .int f555_16, .ref f555_17]))] _ := va_P.cons hat616 hP
        refine ld_i (v := (g616 1)) hx hb hN hP 0 rfl (vp_in_nI (n := 1) (N := 45783) (by omega) (by omega)) (by rw [(show (1 : Int32).toNatClampNeg = 1 from nI_clamp (n := 1) (by omega))]) dX9_change_141 ?_
        refine gn_i (fun x617 => ?_)
        refine cv_v (As := [.int (nI n), .int 11, .int x617]) (rest := []) (b := w) ⟨hx, hb, hml, hown, hts⟩ (c_X9_set hT (w := w) hw (n := n) (k := 11) (x := x617) (by first | omega | decide | assumption) (by first | omega | decide | assumption)) (cwV 3 hts gX9_change_X9_set rfl rfl rfl hdX9_set_v ⟨Nat.le_of_ble_eq_true rfl, Nat.le_of_ble_eq_true rfl⟩) hN hE hL (rcv10 hN hT hw.1) rfl rfl hl.1 (Nat.le_of_ble_eq_true rfl) dX9_change_142 (Nat.zero_le _) (Nat.zero_le _) (fun H1 locs hL hqr618 => ?_)
        obtain ⟨hT1, hF1⟩ := hqr618
        have hP : va_P D vwCl [(w, .inr (9, [.int f555_0, .ref f555_1, .int (nI ((κ w).2.2.1)), .int (nI f555_3), .int (nI f555_4), .int f555_5, .int f555_6, .int f555_7, .ref (κ w).2.2.2, .ref f555_9, .ref f555_10, .ref f555_11, .int (nI f555_12), .int f555_13, .int f555_14, .int f555_15, .int f555_16, .ref f555_17]))] _ := hF1.hP (hP.sub [1] rfl) (fa_c ⟨by rw [hw.1]; decide, by rw [hw.2]; first | decide | (simp; done) | (simp [h15a, h15b, h15c]; done) | (simp; omega)⟩ fa_n)
        have hF := hF.tr (hF1.mono (by simp))
        have hT := hT1
        refine lv_aload_n hx hb dX9_change_145 rfl (lv_at hl 1 rfl) ?_
        refine lv_iload_n hx hb dX9_change_146 rfl (lv_at hl 2 rfl) ?_
        refine cv_v (As := [.int (nI n)]) (rest := []) (b := w) ⟨hx, hb, hml, hown, hts⟩ (c_X9_dropPlan hT (w := w) hw (n := n) (by first | omega | decide | assumption)) (cwV 1 hts gX9_change_X9_dropPlan rfl rfl rfl hdX9_dropPlan_v ⟨Nat.le_of_ble_eq_true rfl, Nat.le_of_ble_eq_true rfl⟩) hN hE hL (rcv10 hN hT hw.1) rfl rfl hl.1 (Nat.le_of_ble_eq_true rfl) dX9_change_147 (Nat.zero_le _) (Nat.zero_le _) (fun H1 locs hL hqr619 => ?_)
        obtain ⟨hT1, hF1⟩ := hqr619
        have hP : va_P D vwCl [(w, .inr (9, [.int f555_0, .ref f555_1, .int (nI ((κ w).2.2.1)), .int (nI f555_3), .int (nI f555_4), .int f555_5, .int f555_6, .int f555_7, .ref (κ w).2.2.2, .ref f555_9, .ref f555_10, .ref f555_11, .int (nI f555_12), .int f555_13, .int f555_14, .int f555_15, .int f555_16, .ref f555_17]))] _ := hF1.hP (hP.sub [0] rfl) (fa_c ⟨by rw [hw.1]; decide, by rw [hw.2]; first | decide | (simp; done) | (simp [h15a, h15b, h15c]; done) | (simp; omega)⟩ fa_n)
        have hF := hF.tr (hF1.mono (by simp))
        have hT := hT1
        refine lv_aload_n hx hb dX9_change_150 rfl (lv_at hl 1 rfl) ?_
        refine va_get (D := D) (ci := 9) (v := .ref (κ w).2.2.2) (C := RX9) (T := TX9) (N := 18) hx hb hts iX9_change_9 hown hN.1 hP 0 rfl rfl 8 (by decide) (hts _ mX9_change_1) (fun _ h9 => h9) rfl dX9_change_151 ?_
        refine lv_bipush (v := 9) hx hb dX9_change_154 (by decide) ?_
        refine lv_dup2_11 hx hb dX9_change_156 rfl rfl ?_
        obtain ⟨hb620, e620, hat620, hk620⟩ := hT.o24 t555_8.1
        obtain ⟨g620, rfl, q620⟩ := hk620
        have hP : va_P D vwCl [((κ w).2.2.2, .inl (cs 0, 45783, .inl g620)), (w, .inr (9, [.int f555_0, .ref f555_1, .int (nI ((κ w).2.2.1)), .int (nI f555_3), .int (nI f555_4), .int f555_5, .int f555_6, .int f555_7, .ref (κ w).2.2.2, .ref f555_9, .ref f555_10, .ref f555_11, .int (nI f555_12), .int f555_13, .int f555_14, .int f555_15, .int f555_16, .ref f555_17]))] _ := va_P.cons hat620 hP
        refine ld_i (v := (g620 9)) hx hb hN hP 0 rfl (vp_in_nI (n := 9) (N := 45783) (by omega) (by omega)) (by rw [(show (9 : Int32).toNatClampNeg = 9 from nI_clamp (n := 9) (by omega))]) dX9_change_157 ?_
        refine gn_i (fun x621 => ?_)
        refine lv_iconst (v := 1) hx hb dX9_change_158 (by decide) ?_
        refine lv_iadd hx hb dX9_change_159 ?_
        refine gn_i (fun x622 => ?_)
        have hB : Bx B0 D _ [((κ w).2.2.2, .inl (cs 0, 45783, .inl g620)), (w, .inr (9, [.int f555_0, .ref f555_1, .int (nI ((κ w).2.2.1)), .int (nI f555_3), .int (nI f555_4), .int f555_5, .int f555_6, .int f555_7, .ref (κ w).2.2.2, .ref f555_9, .ref f555_10, .ref f555_11, .int (nI f555_12), .int f555_13, .int f555_14, .int f555_15, .int f555_16, .ref f555_17]))] [] _ _ := Bx.of (fun a => (κ a).1) hL hP (fa_c hb620 (fa_c hb555 fa_n)) (by simp only [List.map_cons, List.map_nil, t555_8.1, hw.1]; decide)
        refine b_i hx hb hN hB 0 rfl (show vp_in (9 : Int32) 45783 from vp_in_nI (n := 9) (N := 45783) (by omega) (by omega)) (.inl rfl) dX9_change_160 (fun H locs hB => ?_)
        rw [(show (9 : Int32).toNatClampNeg = 9 from nI_clamp (n := 9) (by omega))] at hB
        have hB : Bx B0 D _ [((κ w).2.2.2, .inl (cs 0, 45783, .inl (upd g620 9 x622))), (w, .inr (9, [.int f555_0, .ref f555_1, .int (nI ((κ w).2.2.1)), .int (nI f555_3), .int (nI f555_4), .int f555_5, .int f555_6, .int f555_7, .ref (κ w).2.2.2, .ref f555_9, .ref f555_10, .ref f555_11, .int (nI f555_12), .int f555_13, .int f555_14, .int f555_15, .int f555_16, .ref f555_17]))] [(κ w).2.2.2] _ _ := hB
        have z623 := DOK.sf q620 (k := 9) (by omega) (x := x622)
        refine lv_aload_n hx hb dX9_change_161 rfl (lv_at hl 1 rfl) ?_
        refine va_get (D := D) (ci := 9) (v := .ref (κ w).2.2.2) (C := RX9) (T := TX9) (N := 18) hx hb hts iX9_change_9 hown hN.1 hB.1 1 rfl rfl 8 (by decide) (hts _ mX9_change_1) (fun _ h9 => h9) rfl dX9_change_162 ?_
        refine lv_bipush (v := 10) hx hb dX9_change_165 (by decide) ?_
        refine lv_dup2_11 hx hb dX9_change_167 rfl rfl ?_
        refine ld_i (v := ((upd g620 9 x622) 10)) hx hb hN hB.1 0 rfl (vp_in_nI (n := 10) (N := 45783) (by omega) (by omega)) (by rw [(show (10 : Int32).toNatClampNeg = 10 from nI_clamp (n := 10) (by omega))]) dX9_change_168 ?_
        refine gn_i (fun x624 => ?_)
        refine lv_iload_n hx hb dX9_change_169 rfl (lv_at hl 0 rfl) ?_
        refine lv_iadd hx hb dX9_change_170 ?_
        refine gn_i (fun x625 => ?_)
        refine b_i hx hb hN hB 0 rfl (show vp_in (10 : Int32) 45783 from vp_in_nI (n := 10) (N := 45783) (by omega) (by omega)) (.inr ⟨rfl, List.mem_of_getElem? (i := 0) rfl⟩) dX9_change_171 (fun H locs hB => ?_)
        rw [(show (10 : Int32).toNatClampNeg = 10 from nI_clamp (n := 10) (by omega))] at hB
        have hB : Bx B0 D _ [((κ w).2.2.2, .inl (cs 0, 45783, .inl (upd (upd g620 9 x622) 10 x625))), (w, .inr (9, [.int f555_0, .ref f555_1, .int (nI ((κ w).2.2.1)), .int (nI f555_3), .int (nI f555_4), .int f555_5, .int f555_6, .int f555_7, .ref (κ w).2.2.2, .ref f555_9, .ref f555_10, .ref f555_11, .int (nI f555_12), .int f555_13, .int f555_14, .int f555_15, .int f555_16, .ref f555_17]))] [(κ w).2.2.2] _ _ := hB
        have z626 := DOK.sf z623 (k := 10) (by omega) (x := x625)
        have hT : WT B0 D cs T κ _ := hT.close hB ⟨⟨0, _, rfl, ok_24 t555_8.1 ⟨_, rfl, z626⟩⟩, trivial⟩
        have hF : Fr B0 [18] κ H0 _ := hF.close hB (fa_c (by simp [t555_8.2]) fa_n)
        have hL : OkL B0 _ := hB.2.2.2.2.2
        have hP : va_P D vwCl [((κ w).2.2.2, .inl (cs 0, 45783, .inl (upd (upd g620 9 x622) 10 x625))), (w, .inr (9, [.int f555_0, .ref f555_1, .int (nI ((κ w).2.2.1)), .int (nI f555_3), .int (nI f555_4), .int f555_5, .int f555_6, .int f555_7, .ref (κ w).2.2.2, .ref f555_9, .ref f555_10, .ref f555_11, .int (nI f555_12), .int f555_13, .int f555_14, .int f555_15, .int f555_16, .ref f555_17]))] _ := hB.1
        exact en_v hx hb hr hlocks hL (Nat.zero_le _) (Nat.zero_le _) dX9_change_172 (⟨hT, hF⟩)
  · refine lv_iconst (v := 1) hx hb dX9_change_15 (by decide) ?_
    refine lv_goto (tgt := 20) hx hb dX9_change_16 (by decide) ?_
    refine lv_istore_n (lv' := [(2, .int 1), (0, .ref w), (1, .int (nI n))]) hx hb dX9_change_20 rfl hl (by decide) rfl (fun ls hl => ?_)
    refine lv_aload_n hx hb dX9_change_21 rfl (lv_at hl 1 rfl) ?_
    refine lv_iload_n hx hb dX9_change_22 rfl (lv_at hl 2 rfl) ?_
    refine lv_bipush (v := 6) hx hb dX9_change_23 (by decide) ?_
    refine cv_i (As := [.int (nI n), .int 6]) (rest := []) (b := w) ⟨hx, hb, hml, hown, hts⟩ (c_X9_of hT (w := w) hw (n := n) (k := 6) (by first | omega | decide | assumption) (by first | omega | decide | assumption)) (cwV 2 hts gX9_change_X9_of rfl rfl rfl hdX9_of_v ⟨Nat.le_of_ble_eq_true rfl, Nat.le_of_ble_eq_true rfl⟩) hN hE hL (rcv10 hN hT hw.1) rfl rfl hl.1 (Nat.le_of_ble_eq_true rfl) dX9_change_25 (Nat.zero_le _) (Nat.zero_le _) (fun r627 H1 locs hL hqr627 => ?_)
    obtain rfl := hqr627.symm
    refine lv_aload_n hx hb dX9_change_28 rfl (lv_at hl 1 rfl) ?_
    obtain ⟨hb628, e628, hat628, hk628⟩ := hT.o10 hw.1
    obtain ⟨f628_0, f628_1, f628_3, f628_4, f628_5, f628_6, f628_7, f628_9, f628_10, f628_11, f628_12, f628_13, f628_14, f628_15, f628_16, f628_17, rfl, c628_2, c628_3, c628_4, c628_12, t628_1, t628_8, t628_9, c628_sd, t628_10, t628_11, t628_17⟩ := hk628
    have hP : va_P D vwCl [(w, .inr (9, [.int f628_0, .ref f628_1, .int (nI ((κ w).2.2.1)), .int (nI f628_3), .int (nI f628_4), .int f628_5, .int f628_6, .int f628_7, .ref (κ w).2.2.2, .ref f628_9, .ref f628_10, .ref f628_11, .int (nI f628_12), .int f628_13, .int f628_14, .int f628_15, .int f628_16, .ref f628_17]))] _ := va_P.cons hat628 va_P.nil
    refine va_get (D := D) (ci := 9) (v := .ref (κ w).2.2.2) (C := RX9) (T := TX9) (N := 18) hx hb hts iX9_change_9 hown hN.1 hP 0 rfl rfl 8 (by decide) (hts _ mX9_change_1) (fun _ h9 => h9) rfl dX9_change_29 ?_
    refine lv_bipush (v := 6) hx hb dX9_change_32 (by decide) ?_
    obtain ⟨hb629, e629, hat629, hk629⟩ := hT.o24 t628_8.1
    obtain ⟨g629, rfl, q629⟩ := hk629
    have hP : va_P D vwCl [((κ w).2.2.2, .inl (cs 0, 45783, .inl g629)), (w, .inr (9, [.int f628_0, .ref f628_1, .int (nI ((κ w).2.2.1)), .int (nI f628_3), .int (nI f628_4), .int f628_5, .int f628_6, .int f628_7, .ref (κ w).2.2.2, .ref f628_9, .ref f628_10, .ref f628_11, .int (nI f628_12), .int f628_13, .int f628_14, .int f628_15, .int f628_16, .ref f628_17]))] _ := va_P.cons hat629 hP
    refine ld_i (v := (g629 6)) hx hb hN hP 0 rfl (vp_in_nI (n := 6) (N := 45783) (by omega) (by omega)) (by rw [(show (6 : Int32).toNatClampNeg = 6 from nI_clamp (n := 6) (by omega))]) dX9_change_34 ?_
    refine gn_i (fun x630 => ?_)
    refine lv_iconst (v := 1) hx hb dX9_change_35 (by decide) ?_
    refine lv_isub hx hb dX9_change_36 ?_
    refine gn_i (fun x631 => ?_)
    refine lv_icmp_ne (tgt := 87) hx hb dX9_change_37 (by decide) (fun c632 => ?_) (fun c632 => ?_)
    · refine lv_aload_n hx hb dX9_change_87 rfl (lv_at hl 1 rfl) ?_
      refine lv_iload_n hx hb dX9_change_88 rfl (lv_at hl 2 rfl) ?_
      refine lv_iconst (v := 4) hx hb dX9_change_89 (by decide) ?_
      refine lv_aload_n hx hb dX9_change_90 rfl (lv_at hl 1 rfl) ?_
      refine lv_iload_n hx hb dX9_change_91 rfl (lv_at hl 2 rfl) ?_
      refine lv_bipush (v := 7) hx hb dX9_change_92 (by decide) ?_
      refine cv_i (As := [.int (nI n), .int 7]) (rest := [.int 4, .int (nI n), .ref w]) (b := w) ⟨hx, hb, hml, hown, hts⟩ (c_X9_of hT (w := w) hw (n := n) (k := 7) (by first | omega | decide | assumption) (by first | omega | decide | assumption)) (cwV 2 hts gX9_change_X9_of rfl rfl rfl hdX9_of_v ⟨Nat.le_of_ble_eq_true rfl, Nat.le_of_ble_eq_true rfl⟩) hN hE hL (rcv10 hN hT hw.1) rfl rfl hl.1 (Nat.le_of_ble_eq_true rfl) dX9_change_94 (Nat.zero_le _) (Nat.zero_le _) (fun r633 H1 locs hL hqr633 => ?_)
      obtain rfl := hqr633.symm
      refine cv_v (As := [.int (nI n), .int 4, .int r633]) (rest := []) (b := w) ⟨hx, hb, hml, hown, hts⟩ (c_X9_set hT (w := w) hw (n := n) (k := 4) (x := r633) (by first | omega | decide | assumption) (by first | omega | decide | assumption)) (cwV 3 hts gX9_change_X9_set rfl rfl rfl hdX9_set_v ⟨Nat.le_of_ble_eq_true rfl, Nat.le_of_ble_eq_true rfl⟩) hN hE hL (rcv10 hN hT hw.1) rfl rfl hl.1 (Nat.le_of_ble_eq_true rfl) dX9_change_97 (Nat.zero_le _) (Nat.zero_le _) (fun H1 locs hL hqr634 => ?_)
      obtain ⟨hT1, hF1⟩ := hqr634
      have hP : va_P D vwCl [(w, .inr (9, [.int f628_0, .ref f628_1, .int (nI ((κ w).2.2.1)), .int (nI f628_3), .int (nI f628_4), .int f628_5, .int f628_6, .int f628_7, .ref (κ w).2.2.2, .ref f628_9, .ref f628_10, .ref f628_11, .int (nI f628_12), .int f628_13, .int f628_14, .int f628_15, .int f628_16, .ref f628_17]))] _ := hF1.hP (hP.sub [1] rfl) (fa_c ⟨by rw [hw.1]; decide, by rw [hw.2]; first | decide | (simp; done) | (simp [h15a, h15b, h15c]; done) | (simp; omega)⟩ fa_n)
      have hF := hF.tr (hF1.mono (by simp))
      have hT := hT1
      refine lv_aload_n hx hb dX9_change_100 rfl (lv_at hl 1 rfl) ?_
      refine lv_iload_n hx hb dX9_change_101 rfl (lv_at hl 2 rfl) ?_
      refine lv_bipush (v := 9) hx hb dX9_change_102 (by decide) ?_
      refine lv_aload_n hx hb dX9_change_104 rfl (lv_at hl 1 rfl) ?_
      refine lv_iload_n hx hb dX9_change_105 rfl (lv_at hl 2 rfl) ?_
      refine lv_bipush (v := 9) hx hb dX9_change_106 (by decide) ?_
      refine cv_i (As := [.int (nI n), .int 9]) (rest := [.int 9, .int (nI n), .ref w]) (b := w) ⟨hx, hb, hml, hown, hts⟩ (c_X9_of hT (w := w) hw (n := n) (k := 9) (by first | omega | decide | assumption) (by first | omega | decide | assumption)) (cwV 2 hts gX9_change_X9_of rfl rfl rfl hdX9_of_v ⟨Nat.le_of_ble_eq_true rfl, Nat.le_of_ble_eq_true rfl⟩) hN hE hL (rcv10 hN hT hw.1) rfl rfl hl.1 (Nat.le_of_ble_eq_true rfl) dX9_change_108 (Nat.zero_le _) (Nat.zero_le _) (fun r635 H1 locs hL hqr635 => ?_)
      obtain rfl := hqr635.symm
      refine lv_iconst (v := 1) hx hb dX9_change_111 (by decide) ?_
      refine lv_iadd hx hb dX9_change_112 ?_
      refine gn_i (fun x636 => ?_)
      refine cv_v (As := [.int (nI n), .int 9, .int x636]) (rest := []) (b := w) ⟨hx, hb, hml, hown, hts⟩ (c_X9_set hT (w := w) hw (n := n) (k := 9) (x := x636) (by first | omega | decide | assumption) (by first | omega | decide | assumption)) (cwV 3 hts gX9_change_X9_set rfl rfl rfl hdX9_set_v ⟨Nat.le_of_ble_eq_true rfl, Nat.le_of_ble_eq_true rfl⟩) hN hE hL (rcv10 hN hT hw.1) rfl rfl hl.1 (Nat.le_of_ble_eq_true rfl) dX9_change_113 (Nat.zero_le _) (Nat.zero_le _) (fun H1 locs hL hqr637 => ?_)
      obtain ⟨hT1, hF1⟩ := hqr637
      have hP : va_P D vwCl [(w, .inr (9, [.int f628_0, .ref f628_1, .int (nI ((κ w).2.2.1)), .int (nI f628_3), .int (nI f628_4), .int f628_5, .int f628_6, .int f628_7, .ref (κ w).2.2.2, .ref f628_9, .ref f628_10, .ref f628_11, .int (nI f628_12), .int f628_13, .int f628_14, .int f628_15, .int f628_16, .ref f628_17]))] _ := hF1.hP (hP.sub [0] rfl) (fa_c ⟨by rw [hw.1]; decide, by rw [hw.2]; first | decide | (simp; done) | (simp [h15a, h15b, h15c]; done) | (simp; omega)⟩ fa_n)
      have hF := hF.tr (hF1.mono (by simp))
      have hT := hT1
      refine lv_aload_n hx hb dX9_change_116 rfl (lv_at hl 1 rfl) ?_
      refine lv_iload_n hx hb dX9_change_117 rfl (lv_at hl 2 rfl) ?_
      refine lv_bipush (v := 10) hx hb dX9_change_118 (by decide) ?_
      refine lv_aload_n hx hb dX9_change_120 rfl (lv_at hl 1 rfl) ?_
      refine lv_iload_n hx hb dX9_change_121 rfl (lv_at hl 2 rfl) ?_
      refine lv_bipush (v := 10) hx hb dX9_change_122 (by decide) ?_
      refine cv_i (As := [.int (nI n), .int 10]) (rest := [.int 10, .int (nI n), .ref w]) (b := w) ⟨hx, hb, hml, hown, hts⟩ (c_X9_of hT (w := w) hw (n := n) (k := 10) (by first | omega | decide | assumption) (by first | omega | decide | assumption)) (cwV 2 hts gX9_change_X9_of rfl rfl rfl hdX9_of_v ⟨Nat.le_of_ble_eq_true rfl, Nat.le_of_ble_eq_true rfl⟩) hN hE hL (rcv10 hN hT hw.1) rfl rfl hl.1 (Nat.le_of_ble_eq_true rfl) dX9_change_124 (Nat.zero_le _) (Nat.zero_le _) (fun r638 H1 locs hL hqr638 => ?_)
      obtain rfl := hqr638.symm
      refine lv_iload_n hx hb dX9_change_127 rfl (lv_at hl 0 rfl) ?_
      refine lv_iadd hx hb dX9_change_128 ?_
      refine gn_i (fun x639 => ?_)
      refine cv_v (As := [.int (nI n), .int 10, .int x639]) (rest := []) (b := w) ⟨hx, hb, hml, hown, hts⟩ (c_X9_set hT (w := w) hw (n := n) (k := 10) (x := x639) (by first | omega | decide | assumption) (by first | omega | decide | assumption)) (cwV 3 hts gX9_change_X9_set rfl rfl rfl hdX9_set_v ⟨Nat.le_of_ble_eq_true rfl, Nat.le_of_ble_eq_true rfl⟩) hN hE hL (rcv10 hN hT hw.1) rfl rfl hl.1 (Nat.le_of_ble_eq_true rfl) dX9_change_129 (Nat.zero_le _) (Nat.zero_le _) (fun H1 locs hL hqr640 => ?_)
      obtain ⟨hT1, hF1⟩ := hqr640
      have hP : va_P D vwCl [(w, .inr (9, [.int f628_0, .ref f628_1, .int (nI ((κ w).2.2.1)), .int (nI f628_3), .int (nI f628_4), .int f628_5, .int f628_6, .int f628_7, .ref (κ w).2.2.2, .ref f628_9, .ref f628_10, .ref f628_11, .int (nI f628_12), .int f628_13, .int f628_14, .int f628_15, .int f628_16, .ref f628_17]))] _ := hF1.hP (hP.sub [0] rfl) (fa_c ⟨by rw [hw.1]; decide, by rw [hw.2]; first | decide | (simp; done) | (simp [h15a, h15b, h15c]; done) | (simp; omega)⟩ fa_n)
      have hF := hF.tr (hF1.mono (by simp))
      have hT := hT1
      refine lv_aload_n hx hb dX9_change_132 rfl (lv_at hl 1 rfl) ?_
      refine lv_iload_n hx hb dX9_change_133 rfl (lv_at hl 2 rfl) ?_
      refine lv_bipush (v := 11) hx hb dX9_change_134 (by decide) ?_
      refine lv_aload_n hx hb dX9_change_136 rfl (lv_at hl 1 rfl) ?_
      refine va_get (D := D) (ci := 9) (v := .ref (κ w).2.2.2) (C := RX9) (T := TX9) (N := 18) hx hb hts iX9_change_9 hown hN.1 hP 0 rfl rfl 8 (by decide) (hts _ mX9_change_1) (fun _ h9 => h9) rfl dX9_change_137 ?_
      refine lv_iconst (v := 1) hx hb dX9_change_140 (by decide) ?_
      obtain ⟨hb641, e641, hat641, hk641⟩ := hT.o24 t628_8.1
      obtain ⟨g641, rfl, q641⟩ := hk641
      have hP : va_P D vwCl [((κ w).2.2.2, .inl (cs 0, 45783, .inl g641)), (w, .inr (9, [.int f628_0, .ref f628_1, .int (nI ((κ w).2.2.1)), .int (nI f628_3), .int (nI f628_4), .int f628_5, .int f628_6, .int f628_7, .ref (κ w).2.2.2, .ref f628_9, .ref f628_10, .ref f628_11, .int (nI f628_12), .int f628_13, .int f628_14, .int f628_15, .int f628_16, .ref f628_17]))] _ := va_P.cons hat641 hP
      refine ld_i (v := (g641 1)) hx hb hN hP 0 rfl (vp_in_nI (n := 1) (N := 45783) (by omega) (by omega)) (by rw [(show (1 : Int32).toNatClampNeg = 1 from nI_clamp (n := 1) (by omega))]) dX9_change_141 ?_
      refine gn_i (fun x642 => ?_)
      refine cv_v (As := [.int (nI n), .int 11, .int x642]) (rest := []) (b := w) ⟨hx, hb, hml, hown, hts⟩ (c_X9_set hT (w := w) hw (n := n) (k := 11) (x := x642) (by first | omega | decide | assumption) (by first | omega | decide | assumption)) (cwV 3 hts gX9_change_X9_set rfl rfl rfl hdX9_set_v ⟨Nat.le_of_ble_eq_true rfl, Nat.le_of_ble_eq_true rfl⟩) hN hE hL (rcv10 hN hT hw.1) rfl rfl hl.1 (Nat.le_of_ble_eq_true rfl) dX9_change_142 (Nat.zero_le _) (Nat.zero_le _) (fun H1 locs hL hqr643 => ?_)
      obtain ⟨hT1, hF1⟩ := hqr643
      have hP : va_P D vwCl [(w, .inr (9, [.int f628_0, .ref f628_1, .int (nI ((κ w).2.2.1)), .int (nI f628_3), .int (nI f628_4), .int f628_5, .int f628_6, .int f628_7, .ref (κ w).2.2.2, .ref f628_9, .ref f628_10, .ref f628_11, .int (nI f628_12), .int f628_13, .int f628_14, .int f628_15, .int f628_16, .ref f628_17]))] _ := hF1.hP (hP.sub [1] rfl) (fa_c ⟨by rw [hw.1]; decide, by rw [hw.2]; first | decide | (simp; done) | (simp [h15a, h15b, h15c]; done) | (simp; omega)⟩ fa_n)
      have hF := hF.tr (hF1.mono (by simp))
      have hT := hT1
      refine lv_aload_n hx hb dX9_change_145 rfl (lv_at hl 1 rfl) ?_
      refine lv_iload_n hx hb dX9_change_146 rfl (lv_at hl 2 rfl) ?_
      refine cv_v (As := [.int (nI n)]) (rest := []) (b := w) ⟨hx, hb, hml, hown, hts⟩ (c_X9_dropPlan hT (w := w) hw (n := n) (by first | omega | decide | assumption)) (cwV 1 hts gX9_change_X9_dropPlan rfl rfl rfl hdX9_dropPlan_v ⟨Nat.le_of_ble_eq_true rfl, Nat.le_of_ble_eq_true rfl⟩) hN hE hL (rcv10 hN hT hw.1) rfl rfl hl.1 (Nat.le_of_ble_eq_true rfl) dX9_change_147 (Nat.zero_le _) (Nat.zero_le _) (fun H1 locs hL hqr644 => ?_)
      obtain ⟨hT1, hF1⟩ := hqr644
      have hP : va_P D vwCl [(w, .inr (9, [.int f628_0, .ref f628_1, .int (nI ((κ w).2.2.1)), .int (nI f628_3), .int (nI f628_4), .int f628_5, .int f628_6, .int f628_7, .ref (κ w).2.2.2, .ref f628_9, .ref f628_10, .ref f628_11, .int (nI f628_12), .int f628_13, .int f628_14, .int f628_15, .int f628_16, .ref f628_17]))] _ := hF1.hP (hP.sub [0] rfl) (fa_c ⟨by rw [hw.1]; decide, by rw [hw.2]; first | decide | (simp; done) | (simp [h15a, h15b, h15c]; done) | (simp; omega)⟩ fa_n)
      have hF := hF.tr (hF1.mono (by simp))
      have hT := hT1
      refine lv_aload_n hx hb dX9_change_150 rfl (lv_at hl 1 rfl) ?_
      refine va_get (D := D) (ci := 9) (v := .ref (κ w).2.2.2) (C := RX9) (T := TX9) (N := 18) hx hb hts iX9_change_9 hown hN.1 hP 0 rfl rfl 8 (by decide) (hts _ mX9_change_1) (fun _ h9 => h9) rfl dX9_change_151 ?_
      refine lv_bipush (v := 9) hx hb dX9_change_154 (by decide) ?_
      refine lv_dup2_11 hx hb dX9_change_156 rfl rfl ?_
      obtain ⟨hb645, e645, hat645, hk645⟩ := hT.o24 t628_8.1
      obtain ⟨g645, rfl, q645⟩ := hk645
      have hP : va_P D vwCl [((κ w).2.2.2, .inl (cs 0, 45783, .inl g645)), (w, .inr (9, [.int f628_0, .ref f628_1, .int (nI ((κ w).2.2.1)), .int (nI f628_3), .int (nI f628_4), .int f628_5, .int f628_6, .int f628_7, .ref (κ w).2.2.2, .ref f628_9, .ref f628_10, .ref f628_11, .int (nI f628_12), .int f628_13, .int f628_14, .int f628_15, .int f628_16, .ref f628_17]))] _ := va_P.cons hat645 hP
      refine ld_i (v := (g645 9)) hx hb hN hP 0 rfl (vp_in_nI (n := 9) (N := 45783) (by omega) (by omega)) (by rw [(show (9 : Int32).toNatClampNeg = 9 from nI_clamp (n := 9) (by omega))]) dX9_change_157 ?_
      refine gn_i (fun x646 => ?_)
      refine lv_iconst (v := 1) hx hb dX9_change_158 (by decide) ?_
      refine lv_iadd hx hb dX9_change_159 ?_
      refine gn_i (fun x647 => ?_)
      have hB : Bx B0 D _ [((κ w).2.2.2, .inl (cs 0, 45783, .inl g645)), (w, .inr (9, [.int f628_0, .ref f628_1, .int (nI ((κ w).2.2.1)), .int (nI f628_3), .int (nI f628_4), .int f628_5, .int f628_6, .int f628_7, .ref (κ w).2.2.2, .ref f628_9, .ref f628_10, .ref f628_11, .int (nI f628_12), .int f628_13, .int f628_14, .int f628_15, .int f628_16, .ref f628_17]))] [] _ _ := Bx.of (fun a => (κ a).1) hL hP (fa_c hb645 (fa_c hb628 fa_n)) (by simp only [List.map_cons, List.map_nil, t628_8.1, hw.1]; decide)
      refine b_i hx hb hN hB 0 rfl (show vp_in (9 : Int32) 45783 from vp_in_nI (n := 9) (N := 45783) (by omega) (by omega)) (.inl rfl) dX9_change_160 (fun H locs hB => ?_)
      rw [(show (9 : Int32).toNatClampNeg = 9 from nI_clamp (n := 9) (by omega))] at hB
      have hB : Bx B0 D _ [((κ w).2.2.2, .inl (cs 0, 45783, .inl (upd g645 9 x647))), (w, .inr (9, [.int f628_0, .ref f628_1, .int (nI ((κ w).2.2.1)), .int (nI f628_3), .int (nI f628_4), .int f628_5, .int f628_6, .int f628_7, .ref (κ w).2.2.2, .ref f628_9, .ref f628_10, .ref f628_11, .int (nI f628_12), .int f628_13, .int f628_14, .int f628_15, .int f628_16, .ref f628_17]))] [(κ w).2.2.2] _ _ := hB
      have z648 := DOK.sf q645 (k := 9) (by omega) (x := x647)
      refine lv_aload_n hx hb dX9_change_161 rfl (lv_at hl 1 rfl) ?_
      refine va_get (D := D) (ci := 9) (v := .ref (κ w).2.2.2) (C := RX9) (T := TX9) (N := 18) hx hb hts iX9_change_9 hown hN.1 hB.1 1 rfl rfl 8 (by decide) (hts _ mX9_change_1) (fun _ h9 => h9) rfl dX9_change_162 ?_
      refine lv_bipush (v := 10) hx hb dX9_change_165 (by decide) ?_
      refine lv_dup2_11 hx hb dX9_change_167 rfl rfl ?_
      refine ld_i (v := ((upd g645 9 x647) 10)) hx hb hN hB.1 0 rfl (vp_in_nI (n := 10) (N := 45783) (by omega) (by omega)) (by rw [(show (10 : Int32).toNatClampNeg = 10 from nI_clamp (n := 10) (by omega))]) dX9_change_168 ?_
      refine gn_i (fun x649 => ?_)
      refine lv_iload_n hx hb dX9_change_169 rfl (lv_at hl 0 rfl) ?_
      refine lv_iadd hx hb dX9_change_170 ?_
      refine gn_i (fun x650 => ?_)
      refine b_i hx hb hN hB 0 rfl (show vp_in (10 : Int32) 45783 from vp_in_nI (n := 10) (N := 45783) (by omega) (by omega)) (.inr ⟨rfl, List.mem_of_getElem? (i := 0) rfl⟩) dX9_change_171 (fun H locs hB => ?_)
      rw [(show (10 : Int32).toNatClampNeg = 10 from nI_clamp (n := 10) (by omega))] at hB
      have hB : Bx B0 D _ [((κ w).2.2.2, .inl (cs 0, 45783, .inl (upd (upd g645 9 x647) 10 x650))), (w, .inr (9, [.int f628_0, .ref f628_1, .int (nI ((κ w).2.2.1)), .int (nI f628_3), .int (nI f628_4), .int f628_5, .int f628_6, .int f628_7, .ref (κ w).2.2.2, .ref f628_9, .ref f628_10, .ref f628_11, .int (nI f628_12), .int f628_13, .int f628_14, .int f628_15, .int f628_16, .ref f628_17]))] [(κ w).2.2.2] _ _ := hB
      have z651 := DOK.sf z648 (k := 10) (by omega) (x := x650)
      have hT : WT B0 D cs T κ _ := hT.close hB ⟨⟨0, _, rfl, ok_24 t628_8.1 ⟨_, rfl, z651⟩⟩, trivial⟩
      have hF : Fr B0 [18] κ H0 _ := hF.close hB (fa_c (by simp [t628_8.2]) fa_n)
      have hL : OkL B0 _ := hB.2.2.2.2.2
      have hP : va_P D vwCl [((κ w).2.2.2, .inl (cs 0, 45783, .inl (upd (upd g645 9 x647) 10 x650))), (w, .inr (9, [.int f628_0, .ref f628_1, .int (nI ((κ w).2.2.1)), .int (nI f628_3), .int (nI f628_4), .int f628_5, .int f628_6, .int f628_7, .ref (κ w).2.2.2, .ref f628_9, .ref f628_10, .ref f628_11, .int (nI f628_12), .int f628_13, .int f628_14, .int f628_15, .int f628_16, .ref f628_17]))] _ := hB.1
      exact en_v hx hb hr hlocks hL (Nat.zero_le _) (Nat.zero_le _) dX9_change_172 (⟨hT, hF⟩)
    · refine lv_aload_n hx hb dX9_change_40 rfl (lv_at hl 1 rfl) ?_
      refine va_get (D := D) (ci := 9) (v := .ref (κ w).2.2.2) (C := RX9) (T := TX9) (N := 18) hx hb hts iX9_change_9 hown hN.1 hP 1 rfl rfl 8 (by decide) (hts _ mX9_change_1) (fun _ h9 => h9) rfl dX9_change_41 ?_
      refine lv_bipush (v := 21) hx hb dX9_change_44 (by decide) ?_
      refine lv_aload_n hx hb dX9_change_46 rfl (lv_at hl 1 rfl) ?_
      refine va_get (D := D) (ci := 9) (v := .ref (κ w).2.2.2) (C := RX9) (T := TX9) (N := 18) hx hb hts iX9_change_9 hown hN.1 hP 1 rfl rfl 8 (by decide) (hts _ mX9_change_1) (fun _ h9 => h9) rfl dX9_change_47 ?_
      refine lv_bipush (v := 21) hx hb dX9_change_50 (by decide) ?_
      refine ld_i (v := (g629 21)) hx hb hN hP 0 rfl (vp_in_nI (n := 21) (N := 45783) (by omega) (by omega)) (by rw [(show (21 : Int32).toNatClampNeg = 21 from nI_clamp (n := 21) (by omega))]) dX9_change_52 ?_
      refine gn_i (fun x652 => ?_)
      refine lv_iconst (v := (-1)) hx hb dX9_change_53 (by decide) ?_
      refine lv_icmp_ne (tgt := 66) hx hb dX9_change_54 (by decide) (fun c653 => ?_) (fun c653 => ?_)
      · refine lv_aload_n hx hb dX9_change_66 rfl (lv_at hl 1 rfl) ?_
        refine va_get (D := D) (ci := 9) (v := .ref (κ w).2.2.2) (C := RX9) (T := TX9) (N := 18) hx hb hts iX9_change_9 hown hN.1 hP 1 rfl rfl 8 (by decide) (hts _ mX9_change_1) (fun _ h9 => h9) rfl dX9_change_67 ?_
        refine lv_bipush (v := 21) hx hb dX9_change_70 (by decide) ?_
        refine ld_i (v := (g629 21)) hx hb hN hP 0 rfl (vp_in_nI (n := 21) (N := 45783) (by omega) (by omega)) (by rw [(show (21 : Int32).toNatClampNeg = 21 from nI_clamp (n := 21) (by omega))]) dX9_change_72 ?_
        refine gn_i (fun x654 => ?_)
        have hB : Bx B0 D _ [((κ w).2.2.2, .inl (cs 0, 45783, .inl g629)), (w, .inr (9, [.int f628_0, .ref f628_1, .int (nI ((κ w).2.2.1)), .int (nI f628_3), .int (nI f628_4), .int f628_5, .int f628_6, .int f628_7, .ref (κ w).2.2.2, .ref f628_9, .ref f628_10, .ref f628_11, .int (nI f628_12), .int f628_13, .int f628_14, .int f628_15, .int f628_16, .ref f628_17]))] [] _ _ := Bx.of (fun a => (κ a).1) hL hP (fa_c hb629 (fa_c hb628 fa_n)) (by simp only [List.map_cons, List.map_nil, t628_8.1, hw.1]; decide)
        refine b_i hx hb hN hB 0 rfl (show vp_in (21 : Int32) 45783 from vp_in_nI (n := 21) (N := 45783) (by omega) (by omega)) (.inl rfl) dX9_change_73 (fun H locs hB => ?_)
        rw [(show (21 : Int32).toNatClampNeg = 21 from nI_clamp (n := 21) (by omega))] at hB
        have hB : Bx B0 D _ [((κ w).2.2.2, .inl (cs 0, 45783, .inl (upd g629 21 x654))), (w, .inr (9, [.int f628_0, .ref f628_1, .int (nI ((κ w).2.2.1)), .int (nI f628_3), .int (nI f628_4), .int f628_5, .int f628_6, .int f628_7, .ref (κ w).2.2.2, .ref f628_9, .ref f628_10, .ref f628_11, .int (nI f628_12), .int f628_13, .int f628_14, .int f628_15, .int f628_16, .ref f628_17]))] [(κ w).2.2.2] _ _ := hB
        have z655 := DOK.sf q629 (k := 21) (by omega) (x := x654)
        refine lv_aload_n hx hb dX9_change_74 rfl (lv_at hl 1 rfl) ?_
        refine va_get (D := D) (ci := 9) (v := .ref (κ w).2.2.2) (C := RX9) (T := TX9) (N := 18) hx hb hts iX9_change_9 hown hN.1 hB.1 1 rfl rfl 8 (by decide) (hts _ mX9_change_1) (fun _ h9 => h9) rfl dX9_change_75 ?_
        refine lv_bipush (v := 22) hx hb dX9_change_78 (by decide) ?_
        refine lv_aload_n hx hb dX9_change_80 rfl (lv_at hl 1 rfl) ?_
        refine va_get (D := D) (ci := 9) (v := .ref (κ w).2.2.2) (C := RX9) (T := TX9) (N := 18) hx hb hts iX9_change_9 hown hN.1 hB.1 1 rfl rfl 8 (by decide) (hts _ mX9_change_1) (fun _ h9 => h9) rfl dX9_change_81 ?_
        refine lv_iconst (v := 1) hx hb dX9_change_84 (by decide) ?_
        refine ld_i (v := ((upd g629 21 x654) 1)) hx hb hN hB.1 0 rfl (vp_in_nI (n := 1) (N := 45783) (by omega) (by omega)) (by rw [(show (1 : Int32).toNatClampNeg = 1 from nI_clamp (n := 1) (by omega))]) dX9_change_85 ?_
        refine gn_i (fun x656 => ?_)
        refine b_i hx hb hN hB 0 rfl (show vp_in (22 : Int32) 45783 from vp_in_nI (n := 22) (N := 45783) (by omega) (by omega)) (.inr ⟨rfl, List.mem_of_getElem? (i := 0) rfl⟩) dX9_change_86 (fun H locs hB => ?_)
        rw [(show (22 : Int32).toNatClampNeg = 22 from nI_clamp (n := 22) (by omega))] at hB
        have hB : Bx B0 D _ [((κ w).2.2.2, .inl (cs 0, 45783, .inl (upd (upd g629 21 x654) 22 x656))), (w, .inr (9, [.int f628_0, .ref f628_1, .int (nI ((κ w).2.2.1)), .int (nI f628_3), .int (nI f628_4), .int f628_5, .int f628_6, .int f628_7, .ref (κ w).2.2.2, .ref f628_9, .ref f628_10, .ref f628_11, .int (nI f628_12), .int f628_13, .int f628_14, .int f628_15, .int f628_16, .ref f628_17]))] [(κ w).2.2.2] _ _ := hB
        have z657 := DOK.sf z655 (k := 22) (by omega) (x := x656)
        refine lv_aload_n hx hb dX9_change_87 rfl (lv_at hl 1 rfl) ?_
        refine lv_iload_n hx hb dX9_change_88 rfl (lv_at hl 2 rfl) ?_
        refine lv_iconst (v := 4) hx hb dX9_change_89 (by decide) ?_
        refine lv_aload_n hx hb dX9_change_90 rfl (lv_at hl 1 rfl) ?_
        refine lv_iload_n hx hb dX9_change_91 rfl (lv_at hl 2 rfl) ?_
        refine lv_bipush (v := 7) hx hb dX9_change_92 (by decide) ?_
        have hT : WT B0 D cs T κ _ := hT.close hB ⟨⟨0, _, rfl, ok_24 t628_8.1 ⟨_, rfl, z657⟩⟩, trivial⟩
        have hF : Fr B0 [18] κ H0 _ := hF.close hB (fa_c (by simp [t628_8.2]) fa_n)
        have hL : OkL B0 _ := hB.2.2.2.2.2
        have hP : va_P D vwCl [((κ w).2.2.2, .inl (cs 0, 45783, .inl (upd (upd g629 21 x654) 22 x656))), (w, .inr (9, [.int f628_0, .ref f628_1, .int (nI ((κ w).2.2.1)), .int (nI f628_3), .int (nI f628_4), .int f628_5, .int f628_6, .int f628_7, .ref (κ w).2.2.2, .ref f628_9, .ref f628_10, .ref f628_11, .int (nI f628_12), .int f628_13, .int f628_14, .int f628_15, .int f628_16, .ref f628_17]))] _ := hB.1
        refine cv_i (As := [.int (nI n), .int 7]) (rest := [.int 4, .int (nI n), .ref w]) (b := w) ⟨hx, hb, hml, hown, hts⟩ (c_X9_of hT (w := w) hw (n := n) (k := 7) (by first | omega | decide | assumption) (by first | omega | decide | assumption)) (cwV 2 hts gX9_change_X9_of rfl rfl rfl hdX9_of_v ⟨Nat.le_of_ble_eq_true rfl, Nat.le_of_ble_eq_true rfl⟩) hN hE hL (rcv10 hN hT hw.1) rfl rfl hl.1 (Nat.le_of_ble_eq_true rfl) dX9_change_94 (Nat.zero_le _) (Nat.zero_le _) (fun r658 H1 locs hL hqr658 => ?_)
        obtain rfl := hqr658.symm
        refine cv_v (As := [.int (nI n), .int 4, .int r658]) (rest := []) (b := w) ⟨hx, hb, hml, hown, hts⟩ (c_X9_set hT (w := w) hw (n := n) (k := 4) (x := r658) (by first | omega | decide | assumption) (by first | omega | decide | assumption)) (cwV 3 hts gX9_change_X9_set rfl rfl rfl hdX9_set_v ⟨Nat.le_of_ble_eq_true rfl, Nat.le_of_ble_eq_true rfl⟩) hN hE hL (rcv10 hN hT hw.1) rfl rfl hl.1 (Nat.le_of_ble_eq_true rfl) dX9_change_97 (Nat.zero_le _) (Nat.zero_le _) (fun H1 locs hL hqr659 => ?_)
        obtain ⟨hT1, hF1⟩ := hqr659
        have hP : va_P D vwCl [(w, .inr (9, [.int f628_0, .ref f628_1, .int (nI ((κ w).2.2.1)), .int (nI f628_3), .int (nI f628_4), .int f628_5, .int f628_6, .int f628_7, .ref (κ w).2.2.2, .ref f628_9, .ref f628_10, .ref f628_11, .int (nI f628_12), .int f628_13, .int f628_14, .int f628_15, .int f628_16, .ref f628_17]))] _ := hF1.hP (hP.sub [1] rfl) (fa_c ⟨by rw [hw.1]; decide, by rw [hw.2]; first | decide | (simp; done) | (simp [h15a, h15b, h15c]; done) | (simp; omega)⟩ fa_n)
        have hF := hF.tr (hF1.mono (by simp))
        have hT := hT1
        refine lv_aload_n hx hb dX9_change_100 rfl (lv_at hl 1 rfl) ?_
        refine lv_iload_n hx hb dX9_change_101 rfl (lv_at hl 2 rfl) ?_
        refine lv_bipush (v := 9) hx hb dX9_change_102 (by decide) ?_
        refine lv_aload_n hx hb dX9_change_104 rfl (lv_at hl 1 rfl) ?_
        refine lv_iload_n hx hb dX9_change_105 rfl (lv_at hl 2 rfl) ?_
        refine lv_bipush (v := 9) hx hb dX9_change_106 (by decide) ?_
        refine cv_i (As := [.int (nI n), .int 9]) (rest := [.int 9, .int (nI n), .ref w]) (b := w) ⟨hx, hb, hml, hown, hts⟩ (c_X9_of hT (w := w) hw (n := n) (k := 9) (by first | omega | decide | assumption) (by first | omega | decide | assumption)) (cwV 2 hts gX9_change_X9_of rfl rfl rfl hdX9_of_v ⟨Nat.le_of_ble_eq_true rfl, Nat.le_of_ble_eq_true rfl⟩) hN hE hL (rcv10 hN hT hw.1) rfl rfl hl.1 (Nat.le_of_ble_eq_true rfl) dX9_change_108 (Nat.zero_le _) (Nat.zero_le _) (fun r660 H1 locs hL hqr660 => ?_)
        obtain rfl := hqr660.symm
        refine lv_iconst (v := 1) hx hb dX9_change_111 (by decide) ?_
        refine lv_iadd hx hb dX9_change_112 ?_
        refine gn_i (fun x661 => ?_)
        refine cv_v (As := [.int (nI n), .int 9, .int x661]) (rest := []) (b := w) ⟨hx, hb, hml, hown, hts⟩ (c_X9_set hT (w := w) hw (n := n) (k := 9) (x := x661) (by first | omega | decide | assumption) (by first | omega | decide | assumption)) (cwV 3 hts gX9_change_X9_set rfl rfl rfl hdX9_set_v ⟨Nat.le_of_ble_eq_true rfl, Nat.le_of_ble_eq_true rfl⟩) hN hE hL (rcv10 hN hT hw.1) rfl rfl hl.1 (Nat.le_of_ble_eq_true rfl) dX9_change_113 (Nat.zero_le _) (Nat.zero_le _) (fun H1 locs hL hqr662 => ?_)
        obtain ⟨hT1, hF1⟩ := hqr662
        have hP : va_P D vwCl [(w, .inr (9, [.int f628_0, .ref f628_1, .int (nI ((κ w).2.2.1)), .int (nI f628_3), .int (nI f628_4), .int f628_5, .int f628_6, .int f628_7, .ref (κ w).2.2.2, .ref f628_9, .ref f628_10, .ref f628_11, .int (nI f628_12), .int f628_13, .int f628_14, .int f628_15, .int f628_16, .ref f628_17]))] _ := hF1.hP (hP.sub [0] rfl) (fa_c ⟨by rw [hw.1]; decide, by rw [hw.2]; first | decide | (simp; done) | (simp [h15a, h15b, h15c]; done) | (simp; omega)⟩ fa_n)
        have hF := hF.tr (hF1.mono (by simp))
        have hT := hT1
        refine lv_aload_n hx hb dX9_change_116 rfl (lv_at hl 1 rfl) ?_
        refine lv_iload_n hx hb dX9_change_117 rfl (lv_at hl 2 rfl) ?_
        refine lv_bipush (v := 10) hx hb dX9_change_118 (by decide) ?_
        refine lv_aload_n hx hb dX9_change_120 rfl (lv_at hl 1 rfl) ?_
        refine lv_iload_n hx hb dX9_change_121 rfl (lv_at hl 2 rfl) ?_
        refine lv_bipush (v := 10) hx hb dX9_change_122 (by decide) ?_
        refine cv_i (As := [.int (nI n), .int 10]) (rest := [.int 10, .int (nI n), .ref w]) (b := w) ⟨hx, hb, hml, hown, hts⟩ (c_X9_of hT (w := w) hw (n := n) (k := 10) (by first | omega | decide | assumption) (by first | omega | decide | assumption)) (cwV 2 hts gX9_change_X9_of rfl rfl rfl hdX9_of_v ⟨Nat.le_of_ble_eq_true rfl, Nat.le_of_ble_eq_true rfl⟩) hN hE hL (rcv10 hN hT hw.1) rfl rfl hl.1 (Nat.le_of_ble_eq_true rfl) dX9_change_124 (Nat.zero_le _) (Nat.zero_le _) (fun r663 H1 locs hL hqr663 => ?_)
        obtain rfl := hqr663.symm
        refine lv_iload_n hx hb dX9_change_127 rfl (lv_at hl 0 rfl) ?_
        refine lv_iadd hx hb dX9_change_128 ?_
        refine gn_i (fun x664 => ?_)
        refine cv_v (As := [.int (nI n), .int 10, .int x664]) (rest := []) (b := w) ⟨hx, hb, hml, hown, hts⟩ (c_X9_set hT (w := w) hw (n := n) (k := 10) (x := x664) (by first | omega | decide | assumption) (by first | omega | decide | assumption)) (cwV 3 hts gX9_change_X9_set rfl rfl rfl hdX9_set_v ⟨Nat.le_of_ble_eq_true rfl, Nat.le_of_ble_eq_true rfl⟩) hN hE hL (rcv10 hN hT hw.1) rfl rfl hl.1 (Nat.le_of_ble_eq_true rfl) dX9_change_129 (Nat.zero_le _) (Nat.zero_le _) (fun H1 locs hL hqr665 => ?_)
        obtain ⟨hT1, hF1⟩ := hqr665
        have hP : va_P D vwCl [(w, .inr (9, [.int f628_0, .ref f628_1, .int (nI ((κ w).2.2.1)), .int (nI f628_3), .int (nI f628_4), .int f628_5, .int f628_6, .int f628_7, .ref (κ w).2.2.2, .ref f628_9, .ref f628_10, .ref f628_11, .int (nI f628_12), .int f628_13, .int f628_14, .int f628_15, .int f628_16, .ref f628_17]))] _ := hF1.hP (hP.sub [0] rfl) (fa_c ⟨by rw [hw.1]; decide, by rw [hw.2]; first | decide | (simp; done) | (simp [h15a, h15b, h15c]; done) | (simp; omega)⟩ fa_n)
        have hF := hF.tr (hF1.mono (by simp))
        have hT := hT1
        refine lv_aload_n hx hb dX9_change_132 rfl (lv_at hl 1 rfl) ?_
        refine lv_iload_n hx hb dX9_change_133 rfl (lv_at hl 2 rfl) ?_
        refine lv_bipush (v := 11) hx hb dX9_change_134 (by decide) ?_
        refine lv_aload_n hx hb dX9_change_136 rfl (lv_at hl 1 rfl) ?_
        refine va_get (D := D) (ci := 9) (v := .ref (κ w).2.2.2) (C := RX9) (T := TX9) (N := 18) hx hb hts iX9_change_9 hown hN.1 hP 0 rfl rfl 8 (by decide) (hts _ mX9_change_1) (fun _ h9 => h9) rfl dX9_change_137 ?_
        refine lv_iconst (v := 1) hx hb dX9_change_140 (by decide) ?_
        obtain ⟨hb666, e666, hat666, hk666⟩ := hT.o24 t628_8.1
        obtain ⟨g666, rfl, q666⟩ := hk666
        have hP : va_P D vwCl [((κ w).2.2.2, .inl (cs 0, 45783, .inl g666)), (w, .inr (9, [.int f628_0, .ref f628_1, .int (nI ((κ w).2.2.1)), .int (nI f628_3), .int (nI f628_4), .int f628_5, .int f628_6, .int f628_7, .ref (κ w).2.2.2, .ref f628_9, .ref f628_10, .ref f628_11, .int (nI f628_12), .int f628_13, .int f628_14, .int f628_15, .int f628_16, .ref f628_17]))] _ := va_P.cons hat666 hP
        refine ld_i (v := (g666 1)) hx hb hN hP 0 rfl (vp_in_nI (n := 1) (N := 45783) (by omega) (by omega)) (by rw [(show (1 : Int32).toNatClampNeg = 1 from nI_clamp (n := 1) (by omega))]) dX9_change_141 ?_
        refine gn_i (fun x667 => ?_)
        refine cv_v (As := [.int (nI n), .int 11, .int x667]) (rest := []) (b := w) ⟨hx, hb, hml, hown, hts⟩ (c_X9_set hT (w := w) hw (n := n) (k := 11) (x := x667) (by first | omega | decide | assumption) (by first | omega | decide | assumption)) (cwV 3 hts gX9_change_X9_set rfl rfl rfl hdX9_set_v ⟨Nat.le_of_ble_eq_true rfl, Nat.le_of_ble_eq_true rfl⟩) hN hE hL (rcv10 hN hT hw.1) rfl rfl hl.1 (Nat.le_of_ble_eq_true rfl) dX9_change_142 (Nat.zero_le _) (Nat.zero_le _) (fun H1 locs hL hqr668 => ?_)
        obtain ⟨hT1, hF1⟩ := hqr668
        have hP : va_P D vwCl [(w, .inr (9, [.int f628_0, .ref f628_1, .int (nI ((κ w).2.2.1)), .int (nI f628_3), .int (nI f628_4), .int f628_5, .int f628_6, .int f628_7, .ref (κ w).2.2.2, .ref f628_9, .ref f628_10, .ref f628_11, .int (nI f628_12), .int f628_13, .int f628_14, .int f628_15, .int f628_16, .ref f628_17]))] _ := hF1.hP (hP.sub [1] rfl) (fa_c ⟨by rw [hw.1]; decide, by rw [hw.2]; first | decide | (simp; done) | (simp [h15a, h15b, h15c]; done) | (simp; omega)⟩ fa_n)
        have hF := hF.tr (hF1.mono (by simp))
        have hT := hT1
        refine lv_aload_n hx hb dX9_change_145 rfl (lv_at hl 1 rfl) ?_
        refine lv_iload_n hx hb dX9_change_146 rfl (lv_at hl 2 rfl) ?_
        refine cv_v (As := [.int (nI n)]) (rest := []) (b := w) ⟨hx, hb, hml, hown, hts⟩ (c_X9_dropPlan hT (w := w) hw (n := n) (by first | omega | decide | assumption)) (cwV 1 hts gX9_change_X9_dropPlan rfl rfl rfl hdX9_dropPlan_v ⟨Nat.le_of_ble_eq_true rfl, Nat.le_of_ble_eq_true rfl⟩) hN hE hL (rcv10 hN hT hw.1) rfl rfl hl.1 (Nat.le_of_ble_eq_true rfl) dX9_change_147 (Nat.zero_le _) (Nat.zero_le _) (fun H1 locs hL hqr669 => ?_)
        obtain ⟨hT1, hF1⟩ := hqr669
        have hP : va_P D vwCl [(w, .inr (9, [.int f628_0, .ref f628_1, .int (nI ((κ w).2.2.1)), .int (nI f628_3), .int (nI f628_4), .int f628_5, .int f628_6, .int f628_7, .ref (κ w).2.2.2, .ref f628_9, .ref f628_10, .ref f628_11, .int (nI f628_12), .int f628_13, .int f628_14, .int f628_15, .int f628_16, .ref f628_17]))] _ := hF1.hP (hP.sub [0] rfl) (fa_c ⟨by rw [hw.1]; decide, by rw [hw.2]; first | decide | (simp; done) | (simp [h15a, h15b, h15c]; done) | (simp; omega)⟩ fa_n)
        have hF := hF.tr (hF1.mono (by simp))
        have hT := hT1
        refine lv_aload_n hx hb dX9_change_150 rfl (lv_at hl 1 rfl) ?_
        refine va_get (D := D) (ci := 9) (v := .ref (κ w).2.2.2) (C := RX9) (T := TX9) (N := 18) hx hb hts iX9_change_9 hown hN.1 hP 0 rfl rfl 8 (by decide) (hts _ mX9_change_1) (fun _ h9 => h9) rfl dX9_change_151 ?_
        refine lv_bipush (v := 9) hx hb dX9_change_154 (by decide) ?_
        refine lv_dup2_11 hx hb dX9_change_156 rfl rfl ?_
        obtain ⟨hb670, e670, hat670, hk670⟩ := hT.o24 t628_8.1
        obtain ⟨g670, rfl, q670⟩ := hk670
        have hP : va_P D vwCl [((κ w).2.2.2, .inl (cs 0, 45783, .inl g670)), (w, .inr (9, [.int f628_0, .ref f628_1, .int (nI ((κ w).2.2.1)), .int (nI f628_3), .int (nI f628_4), .int f628_5, .int f628_6, .int f628_7, .ref (κ w).2.2.2, .ref f628_9, .ref f628_10, .ref f628_11, .int (nI f628_12), .int f628_13, .int f628_14, .int f628_15, .int f628_16, .ref f628_17]))] _ := va_P.cons hat670 hP
        refine ld_i (v := (g670 9)) hx hb hN hP 0 rfl (vp_in_nI (n := 9) (N := 45783) (by omega) (by omega)) (by rw [(show (9 : Int32).toNatClampNeg = 9 from nI_clamp (n := 9) (by omega))]) dX9_change_157 ?_
        refine gn_i (fun x671 => ?_)
        refine lv_iconst (v := 1) hx hb dX9_change_158 (by decide) ?_
        refine lv_iadd hx hb dX9_change_159 ?_
        refine gn_i (fun x672 => ?_)
        have hB : Bx B0 D _ [((κ w).2.2.2, .inl (cs 0, 45783, .inl g670)), (w, .inr (9, [.int f628_0, .ref f628_1, .int (nI ((κ w).2.2.1)), .int (nI f628_3), .int (nI f628_4), .int f628_5, .int f628_6, .int f628_7, .ref (κ w).2.2.2, .ref f628_9, .ref f628_10, .ref f628_11, .int (nI f628_12), .int f628_13, .int f628_14, .int f628_15, .int f628_16, .ref f628_17]))] [] _ _ := Bx.of (fun a => (κ a).1) hL hP (fa_c hb670 (fa_c hb628 fa_n)) (by simp only [List.map_cons, List.map_nil, t628_8.1, hw.1]; decide)
        refine b_i hx hb hN hB 0 rfl (show vp_in (9 : Int32) 45783 from vp_in_nI (n := 9) (N := 45783) (by omega) (by omega)) (.inl rfl) dX9_change_160 (fun H locs hB => ?_)
        rw [(show (9 : Int32).toNatClampNeg = 9 from nI_clamp (n := 9) (by omega))] at hB
        have hB : Bx B0 D _ [((κ w).2.2.2, .inl (cs 0, 45783, .inl (upd g670 9 x672))), (w, .inr (9, [.int f628_0, .ref f628_1, .int (nI ((κ w).2.2.1)), .int (nI f628_3), .int (nI f628_4), .int f628_5, .int f628_6, .int f628_7, .ref (κ w).2.2.2, .ref f628_9, .ref f628_10, .ref f628_11, .int (nI f628_12), .int f628_13, .int f628_14, .int f628_15, .int f628_16, .ref f628_17]))] [(κ w).2.2.2] _ _ := hB
        have z673 := DOK.sf q670 (k := 9) (by omega) (x := x672)
        refine lv_aload_n hx hb dX9_change_161 rfl (lv_at hl 1 rfl) ?_
        refine va_get (D := D) (ci := 9) (v := .ref (κ w).2.2.2) (C := RX9) (T := TX9) (N := 18) hx hb hts iX9_change_9 hown hN.1 hB.1 1 rfl rfl 8 (by decide) (hts _ mX9_change_1) (fun _ h9 => h9) rfl dX9_change_162 ?_
        refine lv_bipush (v := 10) hx hb dX9_change_165 (by decide) ?_
        refine lv_dup2_11 hx hb dX9_change_167 rfl rfl ?_
        refine ld_i (v := ((upd g670 9 x672) 10)) hx hb hN hB.1 0 rfl (vp_in_nI (n := 10) (N := 45783) (by omega) (by omega)) (by rw [(show (10 : Int32).toNatClampNeg = 10 from nI_clamp (n := 10) (by omega))]) dX9_change_168 ?_
        refine gn_i (fun x674 => ?_)
        refine lv_iload_n hx hb dX9_change_169 rfl (lv_at hl 0 rfl) ?_
        refine lv_iadd hx hb dX9_change_170 ?_
        refine gn_i (fun x675 => ?_)
        refine b_i hx hb hN hB 0 rfl (show vp_in (10 : Int32) 45783 from vp_in_nI (n := 10) (N := 45783) (by omega) (by omega)) (.inr ⟨rfl, List.mem_of_getElem? (i := 0) rfl⟩) dX9_change_171 (fun H locs hB => ?_)
        rw [(show (10 : Int32).toNatClampNeg = 10 from nI_clamp (n := 10) (by omega))] at hB
        have hB : Bx B0 D _ [((κ w).2.2.2, .inl (cs 0, 45783, .inl (upd (upd g670 9 x672) 10 x675))), (w, .inr (9, [.int f628_0, .ref f628_1, .int (nI ((κ w).2.2.1)), .int (nI f628_3), .int (nI f628_4), .int f628_5, .int f628_6, .int f628_7, .ref (κ w).2.2.2, .ref f628_9, .ref f628_10, .ref f628_11, .int (nI f628_12), .int f628_13, .int f628_14, .int f628_15, .int f628_16, .ref f628_17]))] [(κ w).2.2.2] _ _ := hB
        have z676 := DOK.sf z673 (k := 10) (by omega) (x := x675)
        have hT : WT B0 D cs T κ _ := hT.close hB ⟨⟨0, _, rfl, ok_24 t628_8.1 ⟨_, rfl, z676⟩⟩, trivial⟩
        have hF : Fr B0 [18] κ H0 _ := hF.close hB (fa_c (by simp [t628_8.2]) fa_n)
        have hL : OkL B0 _ := hB.2.2.2.2.2
        have hP : va_P D vwCl [((κ w).2.2.2, .inl (cs 0, 45783, .inl (upd (upd g670 9 x672) 10 x675))), (w, .inr (9, [.int f628_0, .ref f628_1, .int (nI ((κ w).2.2.1)), .int (nI f628_3), .int (nI f628_4), .int f628_5, .int f628_6, .int f628_7, .ref (κ w).2.2.2, .ref f628_9, .ref f628_10, .ref f628_11, .int (nI f628_12), .int f628_13, .int f628_14, .int f628_15, .int f628_16, .ref f628_17]))] _ := hB.1
        exact en_v hx hb hr hlocks hL (Nat.zero_le _) (Nat.zero_le _) dX9_change_172 (⟨hT, hF⟩)
      · refine lv_aload_n hx hb dX9_change_57 rfl (lv_at hl 1 rfl) ?_
        refine va_get (D := D) (ci := 9) (v := .ref (κ w).2.2.2) (C := RX9) (T := TX9) (N := 18) hx hb hts iX9_change_9 hown hN.1 hP 1 rfl rfl 8 (by decide) (hts _ mX9_change_1) (fun _ h9 => h9) rfl dX9_change_58 ?_
        refine lv_iconst (v := 1) hx hb dX9_change_61 (by decide) ?_
        refine ld_i (v := (g629 1)) hx hb hN hP 0 rfl (vp_in_nI (n := 1) (N := 45783) (by omega) (by omega)) (by rw [(show (1 : Int32).toNatClampNeg = 1 from nI_clamp (n := 1) (by omega))]) dX9_change_62 ?_
        refine gn_i (fun x677 => ?_)
        refine lv_goto (tgt := 73) hx hb dX9_change_63 (by decide) ?_
        have hB : Bx B0 D _ [((κ w).2.2.2, .inl (cs 0, 45783, .inl g629)), (w, .inr (9, [.int f628_0, .ref f628_1, .int (nI ((κ w).2.2.1)), .int (nI f628_3), .int (nI f628_4), .int f628_5, .int f628_6, .int f628_7, .ref (κ w).2.2.2, .ref f628_9, .ref f628_10, .ref f628_11, .int (nI f628_12), .int f628_13, .int f628_14, .int f628_15, .int f628_16, .ref f628_17]))] [] _ _ := Bx.of (fun a => (κ a).1) hL hP (fa_c hb629 (fa_c hb628 fa_n)) (by simp only [List.map_cons, List.map_nil, t628_8.1, hw.1]; decide)
        refine b_i hx hb hN hB 0 rfl (show vp_in (21 : Int32) 45783 from vp_in_nI (n := 21) (N := 45783) (by omega) (by omega)) (.inl rfl) dX9_change_73 (fun H locs hB => ?_)
        rw [(show (21 : Int32).toNatClampNeg = 21 from nI_clamp (n := 21) (by omega))] at hB
        have hB : Bx B0 D _ [((κ w).2.2.2, .inl (cs 0, 45783, .inl (upd g629 21 x677))), (w, .inr (9, [.int f628_0, .ref f628_1, .int (nI ((κ w).2.2.1)), .int (nI f628_3), .int (nI f628_4), .int f628_5, .int f628_6, .int f628_7, .ref (κ w).2.2.2, .ref f628_9, .ref f628_10, .ref f628_11, .int (nI f628_12), .int f628_13, .int f628_14, .int f628_15, .int f628_16, .ref f628_17]))] [(κ w).2.2.2] _ _ := hB
        have z678 := DOK.sf q629 (k := 21) (by omega) (x := x677)
        refine lv_aload_n hx hb dX9_change_74 rfl (lv_at hl 1 rfl) ?_
        refine va_get (D := D) (ci := 9) (v := .ref (κ w).2.2.2) (C := RX9) (T := TX9) (N := 18) hx hb hts iX9_change_9 hown hN.1 hB.1 1 rfl rfl 8 (by decide) (hts _ mX9_change_1) (fun _ h9 => h9) rfl dX9_change_75 ?_
        refine lv_bipush (v := 22) hx hb dX9_change_78 (by decide) ?_
        refine lv_aload_n hx hb dX9_change_80 rfl (lv_at hl 1 rfl) ?_
        refine va_get (D := D) (ci := 9) (v := .ref (κ w).2.2.2) (C := RX9) (T := TX9) (N := 18) hx hb hts iX9_change_9 hown hN.1 hB.1 1 rfl rfl 8 (by decide) (hts _ mX9_change_1) (fun _ h9 => h9) rfl dX9_change_81 ?_
        refine lv_iconst (v := 1) hx hb dX9_change_84 (by decide) ?_
        refine ld_i (v := ((upd g629 21 x677) 1)) hx hb hN hB.1 0 rfl (vp_in_nI (n := 1) (N := 45783) (by omega) (by omega)) (by rw [(show (1 : Int32).toNatClampNeg = 1 from nI_clamp (n := 1) (by omega))]) dX9_change_85 ?_
        refine gn_i (fun x679 => ?_)
        refine b_i hx hb hN hB 0 rfl (show vp_in (22 : Int32) 45783 from vp_in_nI (n := 22) (N := 45783) (by omega) (by omega)) (.inr ⟨rfl, List.mem_of_getElem? (i := 0) rfl⟩) dX9_change_86 (fun H locs hB => ?_)
        rw [(show (22 : Int32).toNatClampNeg = 22 from nI_clamp (n := 22) (by omega))] at hB
        have hB : Bx B0 D _ [((κ w).2.2.2, .inl (cs 0, 45783, .inl (upd (upd g629 21 x677) 22 x679))), (w, .inr (9, [.int f628_0, .ref f628_1, .int (nI ((κ w).2.2.1)), .int (nI f628_3), .int (nI f628_4), .int f628_5, .int f628_6, .int f628_7, .ref (κ w).2.2.2, .ref f628_9, .ref f628_10, .ref f628_11, .int (nI f628_12), .int f628_13, .int f628_14, .int f628_15, .int f628_16, .ref f628_17]))] [(κ w).2.2.2] _ _ := hB
        have z680 := DOK.sf z678 (k := 22) (by omega) (x := x679)
        refine lv_aload_n hx hb dX9_change_87 rfl (lv_at hl 1 rfl) ?_
        refine lv_iload_n hx hb dX9_change_88 rfl (lv_at hl 2 rfl) ?_
        refine lv_iconst (v := 4) hx hb dX9_change_89 (by decide) ?_
        refine lv_aload_n hx hb dX9_change_90 rfl (lv_at hl 1 rfl) ?_
        refine lv_iload_n hx hb dX9_change_91 rfl (lv_at hl 2 rfl) ?_
        refine lv_bipush (v := 7) hx hb dX9_change_92 (by decide) ?_
        have hT : WT B0 D cs T κ _ := hT.close hB ⟨⟨0, _, rfl, ok_24 t628_8.1 ⟨_, rfl, z680⟩⟩, trivial⟩
        have hF : Fr B0 [18] κ H0 _ := hF.close hB (fa_c (by simp [t628_8.2]) fa_n)
        have hL : OkL B0 _ := hB.2.2.2.2.2
        have hP : va_P D vwCl [((κ w).2.2.2, .inl (cs 0, 45783, .inl (upd (upd g629 21 x677) 22 x679))), (w, .inr (9, [.int f628_0, .ref f628_1, .int (nI ((κ w).2.2.1)), .int (nI f628_3), .int (nI f628_4), .int f628_5, .int f628_6, .int f628_7, .ref (κ w).2.2.2, .ref f628_9, .ref f628_10, .ref f628_11, .int (nI f628_12), .int f628_13, .int f628_14, .int f628_15, .int f628_16, .ref f628_17]))] _ := hB.1
        refine cv_i (As := [.int (nI n), .int 7]) (rest := [.int 4, .int (nI n), .ref w]) (b := w) ⟨hx, hb, hml, hown, hts⟩ (c_X9_of hT (w := w) hw (n := n) (k := 7) (by first | omega | decide | assumption) (by first | omega | decide | assumption)) (cwV 2 hts gX9_change_X9_of rfl rfl rfl hdX9_of_v ⟨Nat.le_of_ble_eq_true rfl, Nat.le_of_ble_eq_true rfl⟩) hN hE hL (rcv10 hN hT hw.1) rfl rfl hl.1 (Nat.le_of_ble_eq_true rfl) dX9_change_94 (Nat.zero_le _) (Nat.zero_le _) (fun r681 H1 locs hL hqr681 => ?_)
        obtain rfl := hqr681.symm
        refine cv_v (As := [.int (nI n), .int 4, .int r681]) (rest := []) (b := w) ⟨hx, hb, hml, hown, hts⟩ (c_X9_set hT (w := w) hw (n := n) (k := 4) (x := r681) (by first | omega | decide | assumption) (by first | omega | decide | assumption)) (cwV 3 hts gX9_change_X9_set rfl rfl rfl hdX9_set_v ⟨Nat.le_of_ble_eq_true rfl, Nat.le_of_ble_eq_true rfl⟩) hN hE hL (rcv10 hN hT hw.1) rfl rfl hl.1 (Nat.le_of_ble_eq_true rfl) dX9_change_97 (Nat.zero_le _) (Nat.zero_le _) (fun H1 locs hL hqr682 => ?_)
        obtain ⟨hT1, hF1⟩ := hqr682
        have hP : va_P D vwCl [(w, .inr (9, [.int f628_0, .ref f628_1, .int (nI ((κ w).2.2.1)), .int (nI f628_3), .int (nI f628_4), .int f628_5, .int f628_6, .int f628_7, .ref (κ w).2.2.2, .ref f628_9, .ref f628_10, .ref f628_11, .int (nI f628_12), .int f628_13, .int f628_14, .int f628_15, .int f628_16, .ref f628_17]))] _ := hF1.hP (hP.sub [1] rfl) (fa_c ⟨by rw [hw.1]; decide, by rw [hw.2]; first | decide | (simp; done) | (simp [h15a, h15b, h15c]; done) | (simp; omega)⟩ fa_n)
        have hF := hF.tr (hF1.mono (by simp))
        have hT := hT1
        refine lv_aload_n hx hb dX9_change_100 rfl (lv_at hl 1 rfl) ?_
        refine lv_iload_n hx hb dX9_change_101 rfl (lv_at hl 2 rfl) ?_
        refine lv_bipush (v := 9) hx hb dX9_change_102 (by decide) ?_
        refine lv_aload_n hx hb dX9_change_104 rfl (lv_at hl 1 rfl) ?_
        refine lv_iload_n hx hb dX9_change_105 rfl (lv_at hl 2 rfl) ?_
        refine lv_bipush (v := 9) hx hb dX9_change_106 (by decide) ?_
        refine cv_i (As := [.int (nI n), .int 9]) (rest := [.int 9, .int (nI n), .ref w]) (b := w) ⟨hx, hb, hml, hown, hts⟩ (c_X9_of hT (w := w) hw (n := n) (k := 9) (by first | omega | decide | assumption) (by first | omega | decide | assumption)) (cwV 2 hts gX9_change_X9_of rfl rfl rfl hdX9_of_v ⟨Nat.le_of_ble_eq_true rfl, Nat.le_of_ble_eq_true rfl⟩) hN hE hL (rcv10 hN hT hw.1) rfl rfl hl.1 (Nat.le_of_ble_eq_true rfl) dX9_change_108 (Nat.zero_le _) (Nat.zero_le _) (fun r683 H1 locs hL hqr683 => ?_)
        obtain rfl := hqr683.symm
        refine lv_iconst (v := 1) hx hb dX9_change_111 (by decide) ?_
        refine lv_iadd hx hb dX9_change_112 ?_
        refine gn_i (fun x684 => ?_)
        refine cv_v (As := [.int (nI n), .int 9, .int x684]) (rest := []) (b := w) ⟨hx, hb, hml, hown, hts⟩ (c_X9_set hT (w := w) hw (n := n) (k := 9) (x := x684) (by first | omega | decide | assumption) (by first | omega | decide | assumption)) (cwV 3 hts gX9_change_X9_set rfl rfl rfl hdX9_set_v ⟨Nat.le_of_ble_eq_true rfl, Nat.le_of_ble_eq_true rfl⟩) hN hE hL (rcv10 hN hT hw.1) rfl rfl hl.1 (Nat.le_of_ble_eq_true rfl) dX9_change_113 (Nat.zero_le _) (Nat.zero_le _) (fun H1 locs hL hqr685 => ?_)
        obtain ⟨hT1, hF1⟩ := hqr685
        have hP : va_P D vwCl [(w, .inr (9, [.int f628_0, .ref f628_1, .int (nI ((κ w).2.2.1)), .int (nI f628_3), .int (nI f628_4), .int f628_5, .int f628_6, .int f628_7, .ref (κ w).2.2.2, .ref f628_9, .ref f628_10, .ref f628_11, .int (nI f628_12), .int f628_13, .int f628_14, .int f628_15, .int f628_16, .ref f628_17]))] _ := hF1.hP (hP.sub [0] rfl) (fa_c ⟨by rw [hw.1]; decide, by rw [hw.2]; first | decide | (simp; done) | (simp [h15a, h15b, h15c]; done) | (simp; omega)⟩ fa_n)
        have hF := hF.tr (hF1.mono (by simp))
        have hT := hT1
        refine lv_aload_n hx hb dX9_change_116 rfl (lv_at hl 1 rfl) ?_
        refine lv_iload_n hx hb dX9_change_117 rfl (lv_at hl 2 rfl) ?_
        refine lv_bipush (v := 10) hx hb dX9_change_118 (by decide) ?_
        refine lv_aload_n hx hb dX9_change_120 rfl (lv_at hl 1 rfl) ?_
        refine lv_iload_n hx hb dX9_change_121 rfl (lv_at hl 2 rfl) ?_
        refine lv_bipush (v := 10) hx hb dX9_change_122 (by decide) ?_
        refine cv_i (As := [.int (nI n), .int 10]) (rest := [.int 10, .int (nI n), .ref w]) (b := w) ⟨hx, hb, hml, hown, hts⟩ (c_X9_of hT (w := w) hw (n := n) (k := 10) (by first | omega | decide | assumption) (by first | omega | decide | assumption)) (cwV 2 hts gX9_change_X9_of rfl rfl rfl hdX9_of_v ⟨Nat.le_of_ble_eq_true rfl, Nat.le_of_ble_eq_true rfl⟩) hN hE hL (rcv10 hN hT hw.1) rfl rfl hl.1 (Nat.le_of_ble_eq_true rfl) dX9_change_124 (Nat.zero_le _) (Nat.zero_le _) (fun r686 H1 locs hL hqr686 => ?_)
        obtain rfl := hqr686.symm
        refine lv_iload_n hx hb dX9_change_127 rfl (lv_at hl 0 rfl) ?_
        refine lv_iadd hx hb dX9_change_128 ?_
        refine gn_i (fun x687 => ?_)
        refine cv_v (As := [.int (nI n), .int 10, .int x687]) (rest := []) (b := w) ⟨hx, hb, hml, hown, hts⟩ (c_X9_set hT (w := w) hw (n := n) (k := 10) (x := x687) (by first | omega | decide | assumption) (by first | omega | decide | assumption)) (cwV 3 hts gX9_change_X9_set rfl rfl rfl hdX9_set_v ⟨Nat.le_of_ble_eq_true rfl, Nat.le_of_ble_eq_true rfl⟩) hN hE hL (rcv10 hN hT hw.1) rfl rfl hl.1 (Nat.le_of_ble_eq_true rfl) dX9_change_129 (Nat.zero_le _) (Nat.zero_le _) (fun H1 locs hL hqr688 => ?_)
        obtain ⟨hT1, hF1⟩ := hqr688
        have hP : va_P D vwCl [(w, .inr (9, [.int f628_0, .ref f628_1, .int (nI ((κ w).2.2.1)), .int (nI f628_3), .int (nI f628_4), .int f628_5, .int f628_6, .int f628_7, .ref (κ w).2.2.2, .ref f628_9, .ref f628_10, .ref f628_11, .int (nI f628_12), .int f628_13, .int f628_14, .int f628_15, .int f628_16, .ref f628_17]))] _ := hF1.hP (hP.sub [0] rfl) (fa_c ⟨by rw [hw.1]; decide, by rw [hw.2]; first | decide | (simp; done) | (simp [h15a, h15b, h15c]; done) | (simp; omega)⟩ fa_n)
        have hF := hF.tr (hF1.mono (by simp))
        have hT := hT1
        refine lv_aload_n hx hb dX9_change_132 rfl (lv_at hl 1 rfl) ?_
        refine lv_iload_n hx hb dX9_change_133 rfl (lv_at hl 2 rfl) ?_
        refine lv_bipush (v := 11) hx hb dX9_change_134 (by decide) ?_
        refine lv_aload_n hx hb dX9_change_136 rfl (lv_at hl 1 rfl) ?_
        refine va_get (D := D) (ci := 9) (v := .ref (κ w).2.2.2) (C := RX9) (T := TX9) (N := 18) hx hb hts iX9_change_9 hown hN.1 hP 0 rfl rfl 8 (by decide) (hts _ mX9_change_1) (fun _ h9 => h9) rfl dX9_change_137 ?_
        refine lv_iconst (v := 1) hx hb dX9_change_140 (by decide) ?_
        obtain ⟨hb689, e689, hat689, hk689⟩ := hT.o24 t628_8.1
        obtain ⟨g689, rfl, q689⟩ := hk689
        have hP : va_P D vwCl [((κ w).2.2.2, .inl (cs 0, 45783, .inl g689)), (w, .inr (9, [.int f628_0, .ref f628_1, .int (nI ((κ w).2.2.1)), .int (nI f628_3), .int (nI f628_4), .int f628_5, .int f628_6, .int f628_7, .ref (κ w).2.2.2, .ref f628_9, .ref f628_10, .ref f628_11, .int (nI f628_12), .int f628_13, .int f628_14, .int f628_15, .int f628_16, .ref f628_17]))] _ := va_P.cons hat689 hP
        refine ld_i (v := (g689 1)) hx hb hN hP 0 rfl (vp_in_nI (n := 1) (N := 45783) (by omega) (by omega)) (by rw [(show (1 : Int32).toNatClampNeg = 1 from nI_clamp (n := 1) (by omega))]) dX9_change_141 ?_
        refine gn_i (fun x690 => ?_)
        refine cv_v (As := [.int (nI n), .int 11, .int x690]) (rest := []) (b := w) ⟨hx, hb, hml, hown, hts⟩ (c_X9_set hT (w := w) hw (n := n) (k := 11) (x := x690) (by first | omega | decide | assumption) (by first | omega | decide | assumption)) (cwV 3 hts gX9_change_X9_set rfl rfl rfl hdX9_set_v ⟨Nat.le_of_ble_eq_true rfl, Nat.le_of_ble_eq_true rfl⟩) hN hE hL (rcv10 hN hT hw.1) rfl rfl hl.1 (Nat.le_of_ble_eq_true rfl) dX9_change_142 (Nat.zero_le _) (Nat.zero_le _) (fun H1 locs hL hqr691 => ?_)
        obtain ⟨hT1, hF1⟩ := hqr691
        have hP : va_P D vwCl [(w, .inr (9, [.int f628_0, .ref f628_1, .int (nI ((κ w).2.2.1)), .int (nI f628_3), .int (nI f628_4), .int f628_5, .int f628_6, .int f628_7, .ref (κ w).2.2.2, .ref f628_9, .ref f628_10, .ref f628_11, .int (nI f628_12), .int f628_13, .int f628_14, .int f628_15, .int f628_16, .ref f628_17]))] _ := hF1.hP (hP.sub [1] rfl) (fa_c ⟨by rw [hw.1]; decide, by rw [hw.2]; first | decide | (simp; done) | (simp [h15a, h15b, h15c]; done) | (simp; omega)⟩ fa_n)
        have hF := hF.tr (hF1.mono (by simp))
        have hT := hT1
        refine lv_aload_n hx hb dX9_change_145 rfl (lv_at hl 1 rfl) ?_
        refine lv_iload_n hx hb dX9_change_146 rfl (lv_at hl 2 rfl) ?_
        refine cv_v (As := [.int (nI n)]) (rest := []) (b := w) ⟨hx, hb, hml, hown, hts⟩ (c_X9_dropPlan hT (w := w) hw (n := n) (by first | omega | decide | assumption)) (cwV 1 hts gX9_change_X9_dropPlan rfl rfl rfl hdX9_dropPlan_v ⟨Nat.le_of_ble_eq_true rfl, Nat.le_of_ble_eq_true rfl⟩) hN hE hL (rcv10 hN hT hw.1) rfl rfl hl.1 (Nat.le_of_ble_eq_true rfl) dX9_change_147 (Nat.zero_le _) (Nat.zero_le _) (fun H1 locs hL hqr692 => ?_)
        obtain ⟨hT1, hF1⟩ := hqr692
        have hP : va_P D vwCl [(w, .inr (9, [.int f628_0, .ref f628_1, .int (nI ((κ w).2.2.1)), .int (nI f628_3), .int (nI f628_4), .int f628_5, .int f628_6, .int f628_7, .ref (κ w).2.2.2, .ref f628_9, .ref f628_10, .ref f628_11, .int (nI f628_12), .int f628_13, .int f628_14, .int f628_15, .int f628_16, .ref f628_17]))] _ := hF1.hP (hP.sub [0] rfl) (fa_c ⟨by rw [hw.1]; decide, by rw [hw.2]; first | decide | (simp; done) | (simp [h15a, h15b, h15c]; done) | (simp; omega)⟩ fa_n)
        have hF := hF.tr (hF1.mono (by simp))
        have hT := hT1
        refine lv_aload_n hx hb dX9_change_150 rfl (lv_at hl 1 rfl) ?_
        refine va_get (D := D) (ci := 9) (v := .ref (κ w).2.2.2) (C := RX9) (T := TX9) (N := 18) hx hb hts iX9_change_9 hown hN.1 hP 0 rfl rfl 8 (by decide) (hts _ mX9_change_1) (fun _ h9 => h9) rfl dX9_change_151 ?_
        refine lv_bipush (v := 9) hx hb dX9_change_154 (by decide) ?_
        refine lv_dup2_11 hx hb dX9_change_156 rfl rfl ?_
        obtain ⟨hb693, e693, hat693, hk693⟩ := hT.o24 t628_8.1
        obtain ⟨g693, rfl, q693⟩ := hk693
        have hP : va_P D vwCl [((κ w).2.2.2, .inl (cs 0, 45783, .inl g693)), (w, .inr (9, [.int f628_0, .ref f628_1, .int (nI ((κ w).2.2.1)), .int (nI f628_3), .int (nI f628_4), .int f628_5, .int f628_6, .int f628_7, .ref (κ w).2.2.2, .ref f628_9, .ref f628_10, .ref f628_11, .int (nI f628_12), .int f628_13, .int f628_14, .int f628_15, .int f628_16, .ref f628_17]))] _ := va_P.cons hat693 hP
        refine ld_i (v := (g693 9)) hx hb hN hP 0 rfl (vp_in_nI (n := 9) (N := 45783) (by omega) (by omega)) (by rw [(show (9 : Int32).toNatClampNeg = 9 from nI_clamp (n := 9) (by omega))]) dX9_change_157 ?_
        refine gn_i (fun x694 => ?_)
        refine lv_iconst (v := 1) hx hb dX9_change_158 (by decide) ?_
        refine lv_iadd hx hb dX9_change_159 ?_
        refine gn_i (fun x695 => ?_)
        have hB : Bx B0 D _ [((κ w).2.2.2, .inl (cs 0, 45783, .inl g693)), (w, .inr (9, [.int f628_0, .ref f628_1, .int (nI ((κ w).2.2.1)), .int (nI f628_3), .int (nI f628_4), .int f628_5, .int f628_6, .int f628_7, .ref (κ w).2.2.2, .ref f628_9, .ref f628_10, .ref f628_11, .int (nI f628_12), .int f628_13, .int f628_14, .int f628_15, .int f628_16, .ref f628_17]))] [] _ _ := Bx.of (fun a => (κ a).1) hL hP (fa_c hb693 (fa_c hb628 fa_n)) (by simp only [List.map_cons, List.map_nil, t628_8.1, hw.1]; decide)
        refine b_i hx hb hN hB 0 rfl (show vp_in (9 : Int32) 45783 from vp_in_nI (n := 9) (N := 45783) (by omega) (by omega)) (.inl rfl) dX9_change_160 (fun H locs hB => ?_)
        rw [(show (9 : Int32).toNatClampNeg = 9 from nI_clamp (n := 9) (by omega))] at hB
        have hB : Bx B0 D _ [((κ w).2.2.2, .inl (cs 0, 45783, .inl (upd g693 9 x695))), (w, .inr (9, [.int f628_0, .ref f628_1, .int (nI ((κ w).2.2.1)), .int (nI f628_3), .int (nI f628_4), .int f628_5, .int f628_6, .int f628_7, .ref (κ w).2.2.2, .ref f628_9, .ref f628_10, .ref f628_11, .int (nI f628_12), .int f628_13, .int f628_14, .int f628_15, .int f628_16, .ref f628_17]))] [(κ w).2.2.2] _ _ := hB
        have z696 := DOK.sf q693 (k := 9) (by omega) (x := x695)
        refine lv_aload_n hx hb dX9_change_161 rfl (lv_at hl 1 rfl) ?_
        refine va_get (D := D) (ci := 9) (v := .ref (κ w).2.2.2) (C := RX9) (T := TX9) (N := 18) hx hb hts iX9_change_9 hown hN.1 hB.1 1 rfl rfl 8 (by decide) (hts _ mX9_change_1) (fun _ h9 => h9) rfl dX9_change_162 ?_
        refine lv_bipush (v := 10) hx hb dX9_change_165 (by decide) ?_
        refine lv_dup2_11 hx hb dX9_change_167 rfl rfl ?_
        refine ld_i (v := ((upd g693 9 x695) 10)) hx hb hN hB.1 0 rfl (vp_in_nI (n := 10) (N := 45783) (by omega) (by omega)) (by rw [(show (10 : Int32).toNatClampNeg = 10 from nI_clamp (n := 10) (by omega))]) dX9_change_168 ?_
        refine gn_i (fun x697 => ?_)
        refine lv_iload_n hx hb dX9_change_169 rfl (lv_at hl 0 rfl) ?_
        refine lv_iadd hx hb dX9_change_170 ?_
        refine gn_i (fun x698 => ?_)
        refine b_i hx hb hN hB 0 rfl (show vp_in (10 : Int32) 45783 from vp_in_nI (n := 10) (N := 45783) (by omega) (by omega)) (.inr ⟨rfl, List.mem_of_getElem? (i := 0) rfl⟩) dX9_change_171 (fun H locs hB => ?_)
        rw [(show (10 : Int32).toNatClampNeg = 10 from nI_clamp (n := 10) (by omega))] at hB
        have hB : Bx B0 D _ [((κ w).2.2.2, .inl (cs 0, 45783, .inl (upd (upd g693 9 x695) 10 x698))), (w, .inr (9, [.int f628_0, .ref f628_1, .int (nI ((κ w).2.2.1)), .int (nI f628_3), .int (nI f628_4), .int f628_5, .int f628_6, .int f628_7, .ref (κ w).2.2.2, .ref f628_9, .ref f628_10, .ref f628_11, .int (nI f628_12), .int f628_13, .int f628_14, .int f628_15, .int f628_16, .ref f628_17]))] [(κ w).2.2.2] _ _ := hB
        have z699 := DOK.sf z696 (k := 10) (by omega) (x := x698)
        have hT : WT B0 D cs T κ _ := hT.close hB ⟨⟨0, _, rfl, ok_24 t628_8.1 ⟨_, rfl, z699⟩⟩, trivial⟩
        have hF : Fr B0 [18] κ H0 _ := hF.close hB (fa_c (by simp [t628_8.2]) fa_n)
        have hL : OkL B0 _ := hB.2.2.2.2.2
        have hP : va_P D vwCl [((κ w).2.2.2, .inl (cs 0, 45783, .inl (upd (upd g693 9 x695) 10 x698))), (w, .inr (9, [.int f628_0, .ref f628_1, .int (nI ((κ w).2.2.1)), .int (nI f628_3), .int (nI f628_4), .int f628_5, .int f628_6, .int f628_7, .ref (κ w).2.2.2, .ref f628_9, .ref f628_10, .ref f628_11, .int (nI f628_12), .int f628_13, .int f628_14, .int f628_15, .int f628_16, .ref f628_17]))] _ := hB.1
        exact en_v hx hb hr hlocks hL (Nat.zero_le _) (Nat.zero_le _) dX9_change_172 (⟨hT, hF⟩)
theorem mX9_proposeNow_1 : (.fieldLink RX9 18 "OneBeatModel" "data" "[I" : Cond) ∈ wsX9_proposeNow := List.mem_of_getElem? (i := 1) (by decide +kernel)
theorem iX9_proposeNow_9 : ∀ w ∈ wsX90, w ∈ wsX9_proposeNow := fun w h => List.mem_of_mem_drop (List.mem_of_mem_take ((show wsX90 = (wsX9_proposeNow.drop 37).take 18 by decide +kernel) ▸ h))
set_option maxHeartbeats 4000000 in
set_option maxRecDepth 100000 in
theorem c_X9_proposeNow {l : Launch} {D : va_G} {cs : Nat → ClassId} {B0 T : Nat} {κ : KM} {H0 : Heap} (hT : WT B0 D cs T κ H0) {w : Nat} (hw : T2 κ w 10 12) {x : Int32} {y : Int32} : KC l yX9_proposeNow wsX9_proposeNow 4 96 0 0 D cs B0 H0 [.ref w, .int x, .int y] (Qi (fun _ H => WT B0 D cs T κ H ∧ Fr B0 [18] κ H0 H)) := by
  refine KC.of cX9_proposeNow 5 (some .int) (by decide) rfl (Nat.le_of_ble_eq_true rfl) ?_
  intro p e s m below meth c ls hx hb hr hml hown hts hlocks hin hN hE hH0 hl
  have hown : s.vm.findClass RX9 = some m.cls := hown
  have hl : lv_has ls 5 [(0, .ref w), (1, .int x), (2, .int y)] := hl
  have hL : OkL B0 [] := OkL.nil
  have hF : Fr B0 [18] κ H0 H0 := Fr.rf
  refine lv_aload_n hx hb dX9_proposeNow_0 rfl (lv_at hl 0 rfl) ?_
  obtain ⟨hb700, e700, hat700, hk700⟩ := hT.o10 hw.1
  obtain ⟨f700_0, f700_1, f700_3, f700_4, f700_5, f700_6, f700_7, f700_9, f700_10, f700_11, f700_12, f700_13, f700_14, f700_15, f700_16, f700_17, rfl, c700_2, c700_3, c700_4, c700_12, t700_1, t700_8, t700_9, c700_sd, t700_10, t700_11, t700_17⟩ := hk700
  have hP : va_P D vwCl [(w, .inr (9, [.int f700_0, .ref f700_1, .int (nI ((κ w).2.2.1)), .int (nI f700_3), .int (nI f700_4), .int f700_5, .int f700_6, .int f700_7, .ref (κ w).2.2.2, .ref f700_9, .ref f700_10, .ref f700_11, .int (nI f700_12), .int f700_13, .int f700_14, .int f700_15, .int f700_16, .ref f700_17]))] _ := va_P.cons hat700 va_P.nil
  refine va_get (D := D) (ci := 9) (v := .ref (κ w).2.2.2) (C := RX9) (T := TX9) (N := 18) hx hb hts iX9_proposeNow_9 hown hN.1 hP 0 rfl rfl 8 (by decide) (hts _ mX9_proposeNow_1) (fun _ h9 => h9) rfl dX9_proposeNow_1 ?_
  refine lv_iconst (v := 2) hx hb dX9_proposeNow_4 (by decide) ?_
  obtain ⟨hb701, e701, hat701, hk701⟩ := hT.o24 t700_8.1
  obtain ⟨g701, rfl, q701⟩ := hk701
  have hP : va_P D vwCl [((κ w).2.2.2, .inl (cs 0, 45783, .inl g701)), (w, .inr (9, [.int f700_0, .ref f700_1, .int (nI ((κ w).2.2.1)), .int (nI f700_3), .int (nI f700_4), .int f700_5, .int f700_6, .int f700_7, .ref (κ w).2.2.2, .ref f700_9, .ref f700_10, .ref f700_11, .int (nI f700_12), .int f700_13, .int f700_14, .int f700_15, .int f700_16, .ref f700_17]))] _ := va_P.cons hat701 hP
  refine ld_i (v := (g701 2)) hx hb hN hP 0 rfl (vp_in_nI (n := 2) (N := 45783) (by omega) (by omega)) (by rw [(show (2 : Int32).toNatClampNeg = 2 from nI_clamp (n := 2) (by omega))]) dX9_proposeNow_5 ?_
  obtain ⟨n702, hn702, en702⟩ := q701.2.2.1
  refine tp_i (nI n702) en702 ?_
  refine lv_istore_n (lv' := [(3, .int (nI n702)), (0, .ref w), (1, .int x), (2, .int y)]) hx hb dX9_proposeNow_6 rfl hl (by decide) rfl (fun ls hl => ?_)
  refine lv_aload_n hx hb dX9_proposeNow_7 rfl (lv_at hl 1 rfl) ?_
  refine va_get (D := D) (ci := 9) (v := .ref (κ w).2.2.2) (C := RX9) (T := TX9) (N := 18) hx hb hts iX9_proposeNow_9 hown hN.1 hP 1 rfl rfl 8 (by decide) (hts _ mX9_proposeNow_1) (fun _ h9 => h9) rfl dX9_proposeNow_8 ?_
  refine lv_bipush (v := 6) hx hb dX9_proposeNow_11 (by decide) ?_
  refine ld_i (v := (g701 6)) hx hb hN hP 0 rfl (vp_in_nI (n := 6) (N := 45783) (by omega) (by omega)) (by rw [(show (6 : Int32).toNatClampNeg = 6 from nI_clamp (n := 6) (by omega))]) dX9_proposeNow_13 ?_
  refine gn_i (fun x703 => ?_)
  refine lv_istore (lv' := [(4, .int x703), (3, .int (nI n702)), (0, .ref w), (1, .int x), (2, .int y)]) hx hb dX9_proposeNow_14 hl (by decide) rfl (fun ls hl => ?_)
  refine lv_aload_n hx hb dX9_proposeNow_16 rfl (lv_at hl 2 rfl) ?_
  refine va_get (D := D) (ci := 9) (v := .ref (κ w).2.2.2) (C := RX9) (T := TX9) (N := 18) hx hb hts iX9_proposeNow_9 hown hN.1 hP 1 rfl rfl 8 (by decide) (hts _ mX9_proposeNow_1) (fun _ h9 => h9) rfl dX9_proposeNow_17 ?_
  refine lv_bipush (v := 6) hx hb dX9_proposeNow_20 (by decide) ?_
  refine lv_dup2_11 hx hb dX9_proposeNow_22 rfl rfl ?_
  refine ld_i (v := (g701 6)) hx hb hN hP 0 rfl (vp_in_nI (n := 6) (N := 45783) (by omega) (by omega)) (by rw [(show (6 : Int32).toNatClampNeg = 6 from nI_clamp (n := 6) (by omega))]) dX9_proposeNow_23 ?_
  refine gn_i (fun x704 => ?_)
  refine lv_iconst (v := 1) hx hb dX9_proposeNow_24 (by decide) ?_
  refine lv_iadd hx hb dX9_proposeNow_25 ?_
  refine gn_i (fun x705 => ?_)
  have hB : Bx B0 D _ [((κ w).2.2.2, .inl (cs 0, 45783, .inl g701)), (w, .inr (9, [.int f700_0, .ref f700_1, .int (nI ((κ w).2.2.1)), .int (nI f700_3), .int (nI f700_4), .int f700_5, .int f700_6, .int f700_7, .ref (κ w).2.2.2, .ref f700_9, .ref f700_10, .ref f700_11, .int (nI f700_12), .int f700_13, .int f700_14, .int f700_15, .int f700_16, .ref f700_17]))] [] _ _ := Bx.of (fun a => (κ a).1) hL hP (fa_c hb701 (fa_c hb700 fa_n)) (by simp only [List.map_cons, List.map_nil, t700_8.1, hw.1]; decide)
  refine b_i hx hb hN hB 0 rfl (show vp_in (6 : Int32) 45783 from vp_in_nI (n := 6) (N := 45783) (by omega) (by omega)) (.inl rfl) dX9_proposeNow_26 (fun H locs hB => ?_)
  rw [(show (6 : Int32).toNatClampNeg = 6 from nI_clamp (n := 6) (by omega))] at hB
  have hB : Bx B0 D _ [((κ w).2.2.2, .inl (cs 0, 45783, .inl (upd g701 6 x705))), (w, .inr (9, [.int f700_0, .ref f700_1, .int (nI ((κ w).2.2.1)), .int (nI f700_3), .int (nI f700_4), .int f700_5, .int f700_6, .int f700_7, .ref (κ w).2.2.2, .ref f700_9, .ref f700_10, .ref f700_11, .int (nI f700_12), .int f700_13, .int f700_14, .int f700_15, .int f700_16, .ref f700_17]))] [(κ w).2.2.2] _ _ := hB
  have z706 := DOK.sf q701 (k := 6) (by omega) (x := x705)
  have e707 := (pk_un (f := g701) (x := x705) (show 2 ≠ 6 by omega)).trans en702
  refine lv_aload_n hx hb dX9_proposeNow_27 rfl (lv_at hl 2 rfl) ?_
  refine va_get (D := D) (ci := 9) (v := .ref (κ w).2.2.2) (C := RX9) (T := TX9) (N := 18) hx hb hts iX9_proposeNow_9 hown hN.1 hB.1 1 rfl rfl 8 (by decide) (hts _ mX9_proposeNow_1) (fun _ h9 => h9) rfl dX9_proposeNow_28 ?_
  refine lv_bipush (v := 15) hx hb dX9_proposeNow_31 (by decide) ?_
  refine lv_iload_n hx hb dX9_proposeNow_33 rfl (lv_at hl 3 rfl) ?_
  refine b_i hx hb hN hB 0 rfl (show vp_in (15 : Int32) 45783 from vp_in_nI (n := 15) (N := 45783) (by omega) (by omega)) (.inr ⟨rfl, List.mem_of_getElem? (i := 0) rfl⟩) dX9_proposeNow_34 (fun H locs hB => ?_)
  rw [(show (15 : Int32).toNatClampNeg = 15 from nI_clamp (n := 15) (by omega))] at hB
  have hB : Bx B0 D _ [((κ w).2.2.2, .inl (cs 0, 45783, .inl (upd (upd g701 6 x705) 15 x))), (w, .inr (9, [.int f700_0, .ref f700_1, .int (nI ((κ w).2.2.1)), .int (nI f700_3), .int (nI f700_4), .int f700_5, .int f700_6, .int f700_7, .ref (κ w).2.2.2, .ref f700_9, .ref f700_10, .ref f700_11, .int (nI f700_12), .int f700_13, .int f700_14, .int f700_15, .int f700_16, .ref f700_17]))] [(κ w).2.2.2] _ _ := hB
  have z708 := DOK.sf z706 (k := 15) (by omega) (x := x)
  have e709 := (pk_un (f := (upd g701 6 x705)) (x := x) (show 2 ≠ 15 by omega)).trans e707
  refine lv_aload_n hx hb dX9_proposeNow_35 rfl (lv_at hl 2 rfl) ?_
  refine va_get (D := D) (ci := 9) (v := .ref (κ w).2.2.2) (C := RX9) (T := TX9) (N := 18) hx hb hts iX9_proposeNow_9 hown hN.1 hB.1 1 rfl rfl 8 (by decide) (hts _ mX9_proposeNow_1) (fun _ h9 => h9) rfl dX9_proposeNow_36 ?_
  refine lv_bipush (v := 16) hx hb dX9_proposeNow_39 (by decide) ?_
  refine lv_aload_n hx hb dX9_proposeNow_41 rfl (lv_at hl 2 rfl) ?_
  refine lv_iload_n hx hb dX9_proposeNow_42 rfl (lv_at hl 1 rfl) ?_
  have hT : WT B0 D cs T κ _ := hT.close hB ⟨⟨0, _, rfl, ok_24 t700_8.1 ⟨_, rfl, z708⟩⟩, trivial⟩
  have hF : Fr B0 [18] κ H0 _ := hF.close hB (fa_c (by simp [t700_8.2]) fa_n)
  have hL : OkL B0 _ := hB.2.2.2.2.2
  have hP : va_P D vwCl [((κ w).2.2.2, .inl (cs 0, 45783, .inl (upd (upd g701 6 x705) 15 x))), (w, .inr (9, [.int f700_0, .ref f700_1, .int (nI ((κ w).2.2.1)), .int (nI f700_3), .int (nI f700_4), .int f700_5, .int f700_6, .int f700_7, .ref (κ w).2.2.2, .ref f700_9, .ref f700_10, .ref f700_11, .int (nI f700_12), .int f700_13, .int f700_14, .int f700_15, .int f700_16, .ref f700_17]))] _ := hB.1
  refine cv_i (As := [.int (nI n702)]) (rest := [.int 16, .ref (κ w).2.2.2]) (b := w) ⟨hx, hb, hml, hown, hts⟩ (c_X9_clock hT (w := w) hw (n := n702) (by first | omega | decide | assumption)) (cwV 1 hts gX9_proposeNow_X9_clock rfl rfl rfl hdX9_clock_v ⟨Nat.le_of_ble_eq_true rfl, Nat.le_of_ble_eq_true rfl⟩) hN hE hL (rcv10 hN hT hw.1) rfl rfl hl.1 (Nat.le_of_ble_eq_true rfl) dX9_proposeNow_43 (Nat.zero_le _) (Nat.zero_le _) (fun r710 H1 locs hL hqr710 => ?_)
  obtain rfl := hqr710.symm
  refine lv_iload_n hx hb dX9_proposeNow_46 rfl (lv_at hl 4 rfl) ?_
  refine lv_iadd hx hb dX9_proposeNow_47 ?_
  refine gn_i (fun x711 => ?_)
  have hB : Bx B0 D _ [((κ w).2.2.2, .inl (cs 0, 45783, .inl (upd (upd g701 6 x705) 15 x))), (w, .inr (9, [.int f700_0, .ref f700_1, .int (nI ((κ w).2.2.1)), .int (nI f700_3), .int (nI f700_4), .int f700_5, .int f700_6, .int f700_7, .ref (κ w).2.2.2, .ref f700_9, .ref f700_10, .ref f700_11, .int (nI f700_12), .int f700_13, .int f700_14, .int f700_15, .int f700_16, .ref f700_17]))] [] _ _ := Bx.of (fun a => (κ a).1) hL hP (fa_c hb701 (fa_c hb700 fa_n)) (by simp only [List.map_cons, List.map_nil, t700_8.1, hw.1]; decide)
  refine b_i hx hb hN hB 0 rfl (show vp_in (16 : Int32) 45783 from vp_in_nI (n := 16) (N := 45783) (by omega) (by omega)) (.inl rfl) dX9_proposeNow_48 (fun H locs hB => ?_)
  rw [(show (16 : Int32).toNatClampNeg = 16 from nI_clamp (n := 16) (by omega))] at hB
  have hB : Bx B0 D _ [((κ w).2.2.2, .inl (cs 0, 45783, .inl (upd (upd (upd g701 6 x705) 15 x) 16 x711))), (w, .inr (9, [.int f700_0, .ref f700_1, .int (nI ((κ w).2.2.1)), .int (nI f700_3), .int (nI f700_4), .int f700_5, .int f700_6, .int f700_7, .ref (κ w).2.2.2, .ref f700_9, .ref f700_10, .ref f700_11, .int (nI f700_12), .int f700_13, .int f700_14, .int f700_15, .int f700_16, .ref f700_17]))] [(κ w).2.2.2] _ _ := hB
  have z712 := DOK.sf z708 (k := 16) (by omega) (x := x711)
  have e713 := (pk_un (f := (upd (upd g701 6 x705) 15 x)) (x := x711) (show 2 ≠ 16 by omega)).trans e709
  refine lv_aload_n hx hb dX9_proposeNow_49 rfl (lv_at hl 2 rfl) ?_
  refine va_get (D := D) (ci := 9) (v := .ref (κ w).2.2.2) (C := RX9) (T := TX9) (N := 18) hx hb hts iX9_proposeNow_9 hown hN.1 hB.1 1 rfl rfl 8 (by decide) (hts _ mX9_proposeNow_1) (fun _ h9 => h9) rfl dX9_proposeNow_50 ?_
  refine lv_bipush (v := 17) hx hb dX9_proposeNow_53 (by decide) ?_
  refine lv_aload_n hx hb dX9_proposeNow_55 rfl (lv_at hl 2 rfl) ?_
  refine va_get (D := D) (ci := 9) (v := .ref (κ w).2.2.2) (C := RX9) (T := TX9) (N := 18) hx hb hts iX9_proposeNow_9 hown hN.1 hB.1 1 rfl rfl 8 (by decide) (hts _ mX9_proposeNow_1) (fun _ h9 => h9) rfl dX9_proposeNow_56 ?_
  refine lv_iconst (v := 1) hx hb dX9_proposeNow_59 (by decide) ?_
  refine ld_i (v := ((upd (upd (upd g701 6 x705) 15 x) 16 x711) 1)) hx hb hN hB.1 0 rfl (vp_in_nI (n := 1) (N := 45783) (by omega) (by omega)) (by rw [(show (1 : Int32).toNatClampNeg = 1 from nI_clamp (n := 1) (by omega))]) dX9_proposeNow_60 ?_
  refine gn_i (fun x714 => ?_)
  refine lv_aload_n hx hb dX9_proposeNow_61 rfl (lv_at hl 2 rfl) ?_
  refine va_get (D := D) (ci := 9) (v := .ref (κ w).2.2.2) (C := RX9) (T := TX9) (N := 18) hx hb hts iX9_proposeNow_9 hown hN.1 hB.1 1 rfl rfl 8 (by decide) (hts _ mX9_proposeNow_1) (fun _ h9 => h9) rfl dX9_proposeNow_62 ?_
  refine lv_bipush (v := 12) hx hb dX9_proposeNow_65 (by decide) ?_
  refine ld_i (v := ((upd (upd (upd g701 6 x705) 15 x) 16 x711) 12)) hx hb hN hB.1 0 rfl (vp_in_nI (n := 12) (N := 45783) (by omega) (by omega)) (by rw [(show (12 : Int32).toNatClampNeg = 12 from nI_clamp (n := 12) (by omega))]) dX9_proposeNow_67 ?_
  refine gn_i (fun x715 => ?_)
  refine lv_iadd hx hb dX9_proposeNow_68 ?_
  refine gn_i (fun x716 => ?_)
  refine b_i hx hb hN hB 0 rfl (show vp_in (17 : Int32) 45783 from vp_in_nI (n := 17) (N := 45783) (by omega) (by omega)) (.inr ⟨rfl, List.mem_of_getElem? (i := 0) rfl⟩) dX9_proposeNow_69 (fun H locs hB => ?_)
  rw [(show (17 : Int32).toNatClampNeg = 17 from nI_clamp (n := 17) (by omega))] at hB
  have hB : Bx B0 D _ [((κ w).2.2.2, .inl (cs 0, 45783, .inl (upd (upd (upd (upd g701 6 x705) 15 x) 16 x711) 17 x716))), (w, .inr (9, [.int f700_0, .ref f700_1, .int (nI ((κ w).2.2.1)), .int (nI f700_3), .int (nI f700_4), .int f700_5, .int f700_6, .int f700_7, .ref (κ w).2.2.2, .ref f700_9, .ref f700_10, .ref f700_11, .int (nI f700_12), .int f700_13, .int f700_14, .int f700_15, .int f700_16, .ref f700_17]))] [(κ w).2.2.2] _ _ := hB
  have z717 := DOK.sf z712 (k := 17) (by omega) (x := x716)
  have e718 := (pk_un (f := (upd (upd (upd g701 6 x705) 15 x) 16 x711)) (x := x716) (show 2 ≠ 17 by omega)).trans e713
  refine lv_aload_n hx hb dX9_proposeNow_70 rfl (lv_at hl 2 rfl) ?_
  refine va_get (D := D) (ci := 9) (v := .ref (κ w).2.2.2) (C := RX9) (T := TX9) (N := 18) hx hb hts iX9_proposeNow_9 hown hN.1 hB.1 1 rfl rfl 8 (by decide) (hts _ mX9_proposeNow_1) (fun _ h9 => h9) rfl dX9_proposeNow_71 ?_
  refine lv_bipush (v := 18) hx hb dX9_proposeNow_74 (by decide) ?_
  refine lv_iload_n hx hb dX9_proposeNow_76 rfl (lv_at hl 1 rfl) ?_
  refine b_i hx hb hN hB 0 rfl (show vp_in (18 : Int32) 45783 from vp_in_nI (n := 18) (N := 45783) (by omega) (by omega)) (.inr ⟨rfl, List.mem_of_getElem? (i := 0) rfl⟩) dX9_proposeNow_77 (fun H locs hB => ?_)
  rw [(show (18 : Int32).toNatClampNeg = 18 from nI_clamp (n := 18) (by omega))] at hB
  have hB : Bx B0 D _ [((κ w).2.2.2, .inl (cs 0, 45783, .inl (upd (upd (upd (upd (upd g701 6 x705) 15 x) 16 x711) 17 x716) 18 (nI n702)))), (w, .inr (9, [.int f700_0, .ref f700_1, .int (nI ((κ w).2.2.1)), .int (nI f700_3), .int (nI f700_4), .int f700_5, .int f700_6, .int f700_7, .ref (κ w).2.2.2, .ref f700_9, .ref f700_10, .ref f700_11, .int (nI f700_12), .int f700_13, .int f700_14, .int f700_15, .int f700_16, .ref f700_17]))] [(κ w).2.2.2] _ _ := hB
  have z719 := DOK.s18 z717 (n := n702) (by omega)
  have e720 := (pk_un (f := (upd (upd (upd (upd g701 6 x705) 15 x) 16 x711) 17 x716)) (x := (nI n702)) (show 2 ≠ 18 by omega)).trans e718
  refine lv_aload_n hx hb dX9_proposeNow_78 rfl (lv_at hl 2 rfl) ?_
  refine va_get (D := D) (ci := 9) (v := .ref (κ w).2.2.2) (C := RX9) (T := TX9) (N := 18) hx hb hts iX9_proposeNow_9 hown hN.1 hB.1 1 rfl rfl 8 (by decide) (hts _ mX9_proposeNow_1) (fun _ h9 => h9) rfl dX9_proposeNow_79 ?_
  refine lv_bipush (v := 19) hx hb dX9_proposeNow_82 (by decide) ?_
  refine lv_iconst (v := 0) hx hb dX9_proposeNow_84 (by decide) ?_
  refine b_i hx hb hN hB 0 rfl (show vp_in (19 : Int32) 45783 from vp_in_nI (n := 19) (N := 45783) (by omega) (by omega)) (.inr ⟨rfl, List.mem_of_getElem? (i := 0) rfl⟩) dX9_proposeNow_85 (fun H locs hB => ?_)
  rw [(show (19 : Int32).toNatClampNeg = 19 from nI_clamp (n := 19) (by omega))] at hB
  have hB : Bx B0 D _ [((κ w).2.2.2, .inl (cs 0, 45783, .inl (upd (upd (upd (upd (upd (upd g701 6 x705) 15 x) 16 x711) 17 x716) 18 (nI n702)) 19 0))), (w, .inr (9, [.int f700_0, .ref f700_1, .int (nI ((κ w).2.2.1)), .int (nI f700_3), .int (nI f700_4), .int f700_5, .int f700_6, .int f700_7, .ref (κ w).2.2.2, .ref f700_9, .ref f700_10, .ref f700_11, .int (nI f700_12), .int f700_13, .int f700_14, .int f700_15, .int f700_16, .ref f700_17]))] [(κ w).2.2.2] _ _ := hB
  have z721 := DOK.sf z719 (k := 19) (by omega) (x := 0)
  have e722 := (pk_un (f := (upd (upd (upd (upd (upd g701 6 x705) 15 x) 16 x711) 17 x716) 18 (nI n702))) (x := 0) (show 2 ≠ 19 by omega)).trans e720
  refine lv_aload_n hx hb dX9_proposeNow_86 rfl (lv_at hl 2 rfl) ?_
  refine va_get (D := D) (ci := 9) (v := .ref (κ w).2.2.2) (C := RX9) (T := TX9) (N := 18) hx hb hts iX9_proposeNow_9 hown hN.1 hB.1 1 rfl rfl 8 (by decide) (hts _ mX9_proposeNow_1) (fun _ h9 => h9) rfl dX9_proposeNow_87 ?_
  refine lv_bipush (v := 20) hx hb dX9_proposeNow_90 (by decide) ?_
  refine lv_iconst (v := 0) hx hb dX9_proposeNow_92 (by decide) ?_
  refine b_i hx hb hN hB 0 rfl (show vp_in (20 : Int32) 45783 from vp_in_nI (n := 20) (N := 45783) (by omega) (by omega)) (.inr ⟨rfl, List.mem_of_getElem? (i := 0) rfl⟩) dX9_proposeNow_93 (fun H locs hB => ?_)
  rw [(show (20 : Int32).toNatClampNeg = 20 from nI_clamp (n := 20) (by omega))] at hB
  have hB : Bx B0 D _ [((κ w).2.2.2, .inl (cs 0, 45783, .inl (upd (upd (upd (upd (upd (upd (upd g701 6 x705) 15 x) 16 x711) 17 x716) 18 (nI n702)) 19 0) 20 0))), (w, .inr (9, [.int f700_0, .ref f700_1, .int (nI ((κ w).2.2.1)), .int (nI f700_3), .int (nI f700_4), .int f700_5, .int f700_6, .int f700_7, .ref (κ w).2.2.2, .ref f700_9, .ref f700_10, .ref f700_11, .int (nI f700_12), .int f700_13, .int f700_14, .int f700_15, .int f700_16, .ref f700_17]))] [(κ w).2.2.2] _ _ := hB
  have z723 := DOK.sf z721 (k := 20) (by omega) (x := 0)
  have e724 := (pk_un (f := (upd (upd (upd (upd (upd (upd g701 6 x705) 15 x) 16 x711) 17 x716) 18 (nI n702)) 19 0)) (x := 0) (show 2 ≠ 20 by omega)).trans e722
  refine lv_aload_n hx hb dX9_proposeNow_94 rfl (lv_at hl 2 rfl) ?_
  refine va_get (D := D) (ci := 9) (v := .ref (κ w).2.2.2) (C := RX9) (T := TX9) (N := 18) hx hb hts iX9_proposeNow_9 hown hN.1 hB.1 1 rfl rfl 8 (by decide) (hts _ mX9_proposeNow_1) (fun _ h9 => h9) rfl dX9_proposeNow_95 ?_
  refine lv_bipush (v := 21) hx hb dX9_proposeNow_98 (by decide) ?_
  refine lv_iconst (v := (-1)) hx hb dX9_proposeNow_100 (by decide) ?_
  refine b_i hx hb hN hB 0 rfl (show vp_in (21 : Int32) 45783 from vp_in_nI (n := 21) (N := 45783) (by omega) (by omega)) (.inr ⟨rfl, List.mem_of_getElem? (i := 0) rfl⟩) dX9_proposeNow_101 (fun H locs hB => ?_)
  rw [(show (21 : Int32).toNatClampNeg = 21 from nI_clamp (n := 21) (by omega))] at hB
  have hB : Bx B0 D _ [((κ w).2.2.2, .inl (cs 0, 45783, .inl (upd (upd (upd (upd (upd (upd (upd (upd g701 6 x705) 15 x) 16 x711) 17 x716) 18 (nI n702)) 19 0) 20 0) 21 (-1)))), (w, .inr (9, [.int f700_0, .ref f700_1, .int (nI ((κ w).2.2.1)), .int (nI f700_3), .int (nI f700_4), .int f700_5, .int f700_6, .int f700_7, .ref (κ w).2.2.2, .ref f700_9, .ref f700_10, .ref f700_11, .int (nI f700_12), .int f700_13, .int f700_14, .int f700_15, .int f700_16, .ref f700_17]))] [(κ w).2.2.2] _ _ := hB
  have z725 := DOK.sf z723 (k := 21) (by omega) (x := (-1))
  have e726 := (pk_un (f := (upd (upd (upd (upd (upd (upd (upd g701 6 x705) 15 x) 16 x711) 17 x716) 18 (nI n702)) 19 0) 20 0)) (x := (-1)) (show 2 ≠ 21 by omega)).trans e724
  refine lv_aload_n hx hb dX9_proposeNow_102 rfl (lv_at hl 2 rfl) ?_
  refine va_get (D := D) (ci := 9) (v := .ref (κ w).2.2.2) (C := RX9) (T := TX9) (N := 18) hx hb hts iX9_proposeNow_9 hown hN.1 hB.1 1 rfl rfl 8 (by decide) (hts _ mX9_proposeNow_1) (fun _ h9 => h9) rfl dX9_proposeNow_103 ?_
  refine lv_bipush (v := 22) hx hb dX9_proposeNow_106 (by decide) ?_
  refine lv_iconst (v := (-1)) hx hb dX9_proposeNow_108 (by decide) ?_
  refine b_i hx hb hN hB 0 rfl (show vp_in (22 : Int32) 45783 from vp_in_nI (n := 22) (N := 45783) (by omega) (by omega)) (.inr ⟨rfl, List.mem_of_getElem? (i := 0) rfl⟩) dX9_proposeNow_109 (fun H locs hB => ?_)
  rw [(show (22 : Int32).toNatClampNeg = 22 from nI_clamp (n := 22) (by omega))] at hB
  have hB : Bx B0 D _ [((κ w).2.2.2, .inl (cs 0, 45783, .inl (upd (upd (upd (upd (upd (upd (upd (upd (upd g701 6 x705) 15 x) 16 x711) 17 x716) 18 (nI n702)) 19 0) 20 0) 21 (-1)) 22 (-1)))), (w, .inr (9, [.int f700_0, .ref f700_1, .int (nI ((κ w).2.2.1)), .int (nI f700_3), .int (nI f700_4), .int f700_5, .int f700_6, .int f700_7, .ref (κ w).2.2.2, .ref f700_9, .ref f700_10, .ref f700_11, .int (nI f700_12), .int f700_13, .int f700_14, .int f700_15, .int f700_16, .ref f700_17]))] [(κ w).2.2.2] _ _ := hB
  have z727 := DOK.sf z725 (k := 22) (by omega) (x := (-1))
  have e728 := (pk_un (f := (upd (upd (upd (upd (upd (upd (upd (upd g701 6 x705) 15 x) 16 x711) 17 x716) 18 (nI n702)) 19 0) 20 0) 21 (-1))) (x := (-1)) (show 2 ≠ 22 by omega)).trans e726
  refine lv_aload_n hx hb dX9_proposeNow_110 rfl (lv_at hl 2 rfl) ?_
  refine lv_iload_n hx hb dX9_proposeNow_111 rfl (lv_at hl 1 rfl) ?_
  refine lv_iconst (v := 1) hx hb dX9_proposeNow_112 (by decide) ?_
  refine lv_iload hx hb dX9_proposeNow_113 (lv_at hl 0 rfl) ?_
  refine lv_aload_n hx hb dX9_proposeNow_115 rfl (lv_at hl 2 rfl) ?_
  refine va_get (D := D) (ci := 9) (v := .ref (κ w).2.2.2) (C := RX9) (T := TX9) (N := 18) hx hb hts iX9_proposeNow_9 hown hN.1 hB.1 1 rfl rfl 8 (by decide) (hts _ mX9_proposeNow_1) (fun _ h9 => h9) rfl dX9_proposeNow_116 ?_
  refine lv_bipush (v := 16) hx hb dX9_proposeNow_119 (by decide) ?_
  refine ld_i (v := ((upd (upd (upd (upd (upd (upd (upd (upd (upd g701 6 x705) 15 x) 16 x711) 17 x716) 18 (nI n702)) 19 0) 20 0) 21 (-1)) 22 (-1)) 16)) hx hb hN hB.1 0 rfl (vp_in_nI (n := 16) (N := 45783) (by omega) (by omega)) (by rw [(show (16 : Int32).toNatClampNeg = 16 from nI_clamp (n := 16) (by omega))]) dX9_proposeNow_121 ?_
  refine gn_i (fun x729 => ?_)
  refine lv_iload_n hx hb dX9_proposeNow_122 rfl (lv_at hl 3 rfl) ?_
  have hT : WT B0 D cs T κ _ := hT.close hB ⟨⟨0, _, rfl, ok_24 t700_8.1 ⟨_, rfl, z727⟩⟩, trivial⟩
  have hF : Fr B0 [18] κ H0 _ := hF.close hB (fa_c (by simp [t700_8.2]) fa_n)
  have hL : OkL B0 _ := hB.2.2.2.2.2
  have hP : va_P D vwCl [((κ w).2.2.2, .inl (cs 0, 45783, .inl (upd (upd (upd (upd (upd (upd (upd (upd (upd g701 6 x705) 15 x) 16 x711) 17 x716) 18 (nI n702)) 19 0) 20 0) 21 (-1)) 22 (-1)))), (w, .inr (9, [.int f700_0, .ref f700_1, .int (nI ((κ w).2.2.1)), .int (nI f700_3), .int (nI f700_4), .int f700_5, .int f700_6, .int f700_7, .ref (κ w).2.2.2, .ref f700_9, .ref f700_10, .ref f700_11, .int (nI f700_12), .int f700_13, .int f700_14, .int f700_15, .int f700_16, .ref f700_17]))] _ := hB.1
  refine cv_v (As := [.int (nI n702), .int 1, .int x703, .int x729, .int x]) (rest := []) (b := w) ⟨hx, hb, hml, hown, hts⟩ (c_X9_plan hT (w := w) hw (n := n702) (x := 1) (y := x703) (z := x729) (u := x) (by first | omega | decide | assumption)) (cwV 5 hts gX9_proposeNow_X9_plan rfl rfl rfl hdX9_plan_v ⟨Nat.le_of_ble_eq_true rfl, Nat.le_of_ble_eq_true rfl⟩) hN hE hL (rcv10 hN hT hw.1) rfl rfl hl.1 (Nat.le_of_ble_eq_true rfl) dX9_proposeNow_123 (Nat.zero_le _) (Nat.zero_le _) (fun H1 locs hL hqr730 => ?_)
  obtain ⟨hT1, hF1⟩ := hqr730
  have hP : va_P D vwCl [(w, .inr (9, [.int f700_0, .ref f700_1, .int (nI ((κ w).2.2.1)), .int (nI f700_3), .int (nI f700_4), .int f700_5, .int f700_6, .int f700_7, .ref (κ w).2.2.2, .ref f700_9, .ref f700_10, .ref f700_11, .int (nI f700_12), .int f700_13, .int f700_14, .int f700_15, .int f700_16, .ref f700_17]))] _ := hF1.hP (hP.sub [1] rfl) (fa_c ⟨by rw [hw.1]; decide, by rw [hw.2]; first | decide | (simp; done) | (simp [h15a, h15b, h15c]; done) | (simp; omega)⟩ fa_n)
  have hF := hF.tr (hF1.mono (by simp))
  have hT := hT1
  refine lv_aload_n hx hb dX9_proposeNow_126 rfl (lv_at hl 2 rfl) ?_
  refine lv_iconst (v := 2) hx hb dX9_proposeNow_127 (by decide) ?_
  refine lv_iload_n hx hb dX9_proposeNow_128 rfl (lv_at hl 1 rfl) ?_
  refine lv_iload hx hb dX9_proposeNow_129 (lv_at hl 0 rfl) ?_
  refine lv_aload_n hx hb dX9_proposeNow_131 rfl (lv_at hl 2 rfl) ?_
  refine va_get (D := D) (ci := 9) (v := .ref (κ w).2.2.2) (C := RX9) (T := TX9) (N := 18) hx hb hts iX9_proposeNow_9 hown hN.1 hP 0 rfl rfl 8 (by decide) (hts _ mX9_proposeNow_1) (fun _ h9 => h9) rfl dX9_proposeNow_132 ?_
  refine lv_bipush (v := 16) hx hb dX9_proposeNow_135 (by decide) ?_
  obtain ⟨hb731, e731, hat731, hk731⟩ := hT.o24 t700_8.1
  obtain ⟨g731, rfl, q731⟩ := hk731
  have hP : va_P D vwCl [((κ w).2.2.2, .inl (cs 0, 45783, .inl g731)), (w, .inr (9, [.int f700_0, .ref f700_1, .int (nI ((κ w).2.2.1)), .int (nI f700_3), .int (nI f700_4), .int f700_5, .int f700_6, .int f700_7, .ref (κ w).2.2.2, .ref f700_9, .ref f700_10, .ref f700_11, .int (nI f700_12), .int f700_13, .int f700_14, .int f700_15, .int f700_16, .ref f700_17]))] _ := va_P.cons hat731 hP
  refine ld_i (v := (g731 16)) hx hb hN hP 0 rfl (vp_in_nI (n := 16) (N := 45783) (by omega) (by omega)) (by rw [(show (16 : Int32).toNatClampNeg = 16 from nI_clamp (n := 16) (by omega))]) dX9_proposeNow_137 ?_
  refine gn_i (fun x732 => ?_)
  refine lv_iload_n hx hb dX9_proposeNow_138 rfl (lv_at hl 3 rfl) ?_
  refine cv_v (As := [.int 2, .int (nI n702), .int x703, .int x732, .int x]) (rest := []) (b := w) ⟨hx, hb, hml, hown, hts⟩ (c_X9_sendToOthers hT (w := w) hw (x := 2) (n := n702) (y := x703) (z := x732) (u := x) (by first | omega | decide | assumption) (by first | omega | decide | assumption)) (cwV 5 hts gX9_proposeNow_X9_sendToOthers rfl rfl rfl hdX9_sendToOthers_v ⟨Nat.le_of_ble_eq_true rfl, Nat.le_of_ble_eq_true rfl⟩) hN hE hL (rcv10 hN hT hw.1) rfl rfl hl.1 (Nat.le_of_ble_eq_true rfl) dX9_proposeNow_139 (Nat.zero_le _) (Nat.zero_le _) (fun H1 locs hL hqr733 => ?_)
  obtain ⟨hT1, hF1⟩ := hqr733
  have hP : va_P D vwCl [(w, .inr (9, [.int f700_0, .ref f700_1, .int (nI ((κ w).2.2.1)), .int (nI f700_3), .int (nI f700_4), .int f700_5, .int f700_6, .int f700_7, .ref (κ w).2.2.2, .ref f700_9, .ref f700_10, .ref f700_11, .int (nI f700_12), .int f700_13, .int f700_14, .int f700_15, .int f700_16, .ref f700_17]))] _ := hF1.hP (hP.sub [1] rfl) (fa_c ⟨by rw [hw.1]; decide, by rw [hw.2]; first | decide | (simp; done) | (simp [h15a, h15b, h15c]; done) | (simp; omega)⟩ fa_n)
  have hF := hF.tr (hF1.mono (by simp))
  have hT := hT1
  refine lv_aload_n hx hb dX9_proposeNow_142 rfl (lv_at hl 2 rfl) ?_
  refine cv_v (As := []) (rest := []) (b := w) ⟨hx, hb, hml, hown, hts⟩ (c_X9_vote hT (w := w) hw) (cwV 0 hts gX9_proposeNow_X9_vote rfl rfl rfl hdX9_vote_v ⟨Nat.le_of_ble_eq_true rfl, Nat.le_of_ble_eq_true rfl⟩) hN hE hL (rcv10 hN hT hw.1) rfl rfl hl.1 (Nat.le_of_ble_eq_true rfl) dX9_proposeNow_143 (Nat.zero_le _) (Nat.zero_le _) (fun H1 locs hL hqr734 => ?_)
  obtain ⟨hT1, hF1⟩ := hqr734
  have hP : va_P D vwCl [(w, .inr (9, [.int f700_0, .ref f700_1, .int (nI ((κ w).2.2.1)), .int (nI f700_3), .int (nI f700_4), .int f700_5, .int f700_6, .int f700_7, .ref (κ w).2.2.2, .ref f700_9, .ref f700_10, .ref f700_11, .int (nI f700_12), .int f700_13, .int f700_14, .int f700_15, .int f700_16, .ref f700_17]))] _ := hF1.hP (hP.sub [0] rfl) (fa_c ⟨by rw [hw.1]; decide, by rw [hw.2]; first | decide | (simp; done) | (simp [h15a, h15b, h15c]; done) | (simp; omega)⟩ fa_n)
  have hF := hF.tr (hF1.mono (by simp))
  have hT := hT1
  refine lv_aload_n hx hb dX9_proposeNow_146 rfl (lv_at hl 2 rfl) ?_
  refine va_get (D := D) (ci := 9) (v := .ref (κ w).2.2.2) (C := RX9) (T := TX9) (N := 18) hx hb hts iX9_proposeNow_9 hown hN.1 hP 0 rfl rfl 8 (by decide) (hts _ mX9_proposeNow_1) (fun _ h9 => h9) rfl dX9_proposeNow_147 ?_
  refine lv_bipush (v := 16) hx hb dX9_proposeNow_150 (by decide) ?_
  obtain ⟨hb735, e735, hat735, hk735⟩ := hT.o24 t700_8.1
  obtain ⟨g735, rfl, q735⟩ := hk735
  have hP : va_P D vwCl [((κ w).2.2.2, .inl (cs 0, 45783, .inl g735)), (w, .inr (9, [.int f700_0, .ref f700_1, .int (nI ((κ w).2.2.1)), .int (nI f700_3), .int (nI f700_4), .int f700_5, .int f700_6, .int f700_7, .ref (κ w).2.2.2, .ref f700_9, .ref f700_10, .ref f700_11, .int (nI f700_12), .int f700_13, .int f700_14, .int f700_15, .int f700_16, .ref f700_17]))] _ := va_P.cons hat735 hP
  refine ld_i (v := (g735 16)) hx hb hN hP 0 rfl (vp_in_nI (n := 16) (N := 45783) (by omega) (by omega)) (by rw [(show (16 : Int32).toNatClampNeg = 16 from nI_clamp (n := 16) (by omega))]) dX9_proposeNow_152 ?_
  refine gn_i (fun x736 => ?_)
  exact en_i hx hb hr hlocks hL rfl (Nat.zero_le _) (Nat.zero_le _) dX9_proposeNow_153 (⟨hT, hF⟩)
theorem mX9_isLive_1 : (.fieldLink RX9 18 "OneBeatModel" "data" "[I" : Cond) ∈ wsX9_isLive := List.mem_of_getElem? (i := 1) (by decide +kernel)
theorem iX9_isLive_9 : ∀ w ∈ wsX90, w ∈ wsX9_isLive := fun w h => List.mem_of_mem_drop (List.mem_of_mem_take ((show wsX90 = (wsX9_isLive.drop 18).take 18 by decide +kernel) ▸ h))
set_option maxHeartbeats 4000000 in
set_option maxRecDepth 100000 in
theorem c_X9_isLive {l : Launch} {D : va_G} {cs : Nat → ClassId} {B0 T : Nat} {κ : KM} {H0 : Heap} (hT : WT B0 D cs T κ H0) {w : Nat} (hw : T2 κ w 10 12) : KC l yX9_isLive wsX9_isLive 3 63 0 0 D cs B0 H0 [.ref w] (Qi (fun r H => H = H0 ∧ (r = 0 ∨ r = 1))) := by
  refine KC.of cX9_isLive 3 (some .boolean) (by decide) rfl (Nat.le_of_ble_eq_true rfl) ?_
  intro p e s m below meth c ls hx hb hr hml hown hts hlocks hin hN hE hH0 hl
  have hown : s.vm.findClass RX9 = some m.cls := hown
  have hl : lv_has ls 3 [(0, .ref w)] := hl
  have hL : OkL B0 [] := OkL.nil
  refine lv_aload_n hx hb dX9_isLive_0 rfl (lv_at hl 0 rfl) ?_
  obtain ⟨hb737, e737, hat737, hk737⟩ := hT.o10 hw.1
  obtain ⟨f737_0, f737_1, f737_3, f737_4, f737_5, f737_6, f737_7, f737_9, f737_10, f737_11, f737_12, f737_13, f737_14, f737_15, f737_16, f737_17, rfl, c737_2, c737_3, c737_4, c737_12, t737_1, t737_8, t737_9, c737_sd, t737_10, t737_11, t737_17⟩ := hk737
  have hP : va_P D vwCl [(w, .inr (9, [.int f737_0, .ref f737_1, .int (nI ((κ w).2.2.1)), .int (nI f737_3), .int (nI f737_4), .int f737_5, .int f737_6, .int f737_7, .ref (κ w).2.2.2, .ref f737_9, .ref f737_10, .ref f737_11, .int (nI f737_12), .int f737_13, .int f737_14, .int f737_15, .int f737_16, .ref f737_17]))] _ := va_P.cons hat737 va_P.nil
  refine va_get (D := D) (ci := 9) (v := .ref (κ w).2.2.2) (C := RX9) (T := TX9) (N := 18) hx hb hts iX9_isLive_9 hown hN.1 hP 0 rfl rfl 8 (by decide) (hts _ mX9_isLive_1) (fun _ h9 => h9) rfl dX9_isLive_1 ?_
  refine lv_iconst (v := 3) hx hb dX9_isLive_4 (by decide) ?_
  obtain ⟨hb738, e738, hat738, hk738⟩ := hT.o24 t737_8.1
  obtain ⟨g738, rfl, q738⟩ := hk738
  have hP : va_P D vwCl [((κ w).2.2.2, .inl (cs 0, 45783, .inl g738)), (w, .inr (9, [.int f737_0, .ref f737_1, .int (nI ((κ w).2.2.1)), .int (nI f737_3), .int (nI f737_4), .int f737_5, .int f737_6, .int f737_7, .ref (κ w).2.2.2, .ref f737_9, .ref f737_10, .ref f737_11, .int (nI f737_12), .int f737_13, .int f737_14, .int f737_15, .int f737_16, .ref f737_17]))] _ := va_P.cons hat738 hP
  refine ld_i (v := (g738 3)) hx hb hN hP 0 rfl (vp_in_nI (n := 3) (N := 45783) (by omega) (by omega)) (by rw [(show (3 : Int32).toNatClampNeg = 3 from nI_clamp (n := 3) (by omega))]) dX9_isLive_5 ?_
  obtain ⟨n739, hn739, en739⟩ := q738.2.2.2.1
  refine tp_i (nI n739) en739 ?_
  refine lv_if_gt (tgt := 16) hx hb dX9_isLive_6 (by decide) (fun c740 => ?_) (fun c740 => ?_)
  · have c740 : 0 < n739 := (nI_ltI (a := 0) (b := n739) (by omega) (by omega)).mp c740
    refine lv_iconst (v := 1) hx hb dX9_isLive_16 (by decide) ?_
    refine lv_goto (tgt := 21) hx hb dX9_isLive_17 (by decide) ?_
    refine lv_istore_n (lv' := [(1, .int 1), (0, .ref w)]) hx hb dX9_isLive_21 rfl hl (by decide) rfl (fun ls hl => ?_)
    refine lv_iconst (v := 0) hx hb dX9_isLive_22 (by decide) ?_
    refine lv_istore_n (lv' := [(2, .int 0), (1, .int 1), (0, .ref w)]) hx hb dX9_isLive_23 rfl hl (by decide) rfl (fun ls hl => ?_)
    refine lp_r (B0 := B0) (α := Nat × Int32) (nL := 3) (fun a9 => 8 - a9.1) (fun a9 => (a9.2 = 0 ∨ a9.2 = 1) ∧ (a9.1 ≤ 8)) (fun a9 => [(2, .int (nI a9.1)), (1, .int a9.2), (0, .ref w)]) ?_ (0, 1) _ _ ⟨(Or.inr rfl), (by show (0) ≤ 8; omega)⟩ hL (lv_sub hl [0, 1, 2] rfl)
    rintro ⟨p, x⟩ locs ls ih741 ⟨qx, hp⟩ hL hl
    have hl : lv_has ls 3 [(2, .int (nI p)), (1, .int x), (0, .ref w)] := hl
    have qx : x = 0 ∨ x = 1 := qx
    have hp : p ≤ 8 := hp
    refine lv_iload_n hx hb dX9_isLive_24 rfl (lv_at hl 0 rfl) ?_
    refine lv_aload_n hx hb dX9_isLive_25 rfl (lv_at hl 2 rfl) ?_
    refine va_get (D := D) (ci := 9) (v := .ref (κ w).2.2.2) (C := RX9) (T := TX9) (N := 18) hx hb hts iX9_isLive_9 hown hN.1 hP 1 rfl rfl 8 (by decide) (hts _ mX9_isLive_1) (fun _ h9 => h9) rfl dX9_isLive_26 ?_
    refine lv_iconst (v := 0) hx hb dX9_isLive_29 (by decide) ?_
    refine ld_i (v := (g738 0)) hx hb hN hP 0 rfl (vp_in_nI (n := 0) (N := 45783) (by omega) (by omega)) (by rw [(show (0 : Int32).toNatClampNeg = 0 from nI_clamp (n := 0) (by omega))]) dX9_isLive_30 ?_
    obtain ⟨n742, hn742, en742⟩ := q738.1
    refine tp_i (nI n742) en742 ?_
    refine lv_icmp_ge (tgt := 66) hx hb dX9_isLive_31 (by decide) (fun c743 => ?_) (fun c743 => ?_)
    · have c743 : n742 ≤ p := (nI_leI (a := n742) (b := p) (by omega) (by omega)).mp c743
      refine lv_iload_n hx hb dX9_isLive_66 rfl (lv_at hl 1 rfl) ?_
      exact en_i hx hb hr hlocks hL (nb qx) (Nat.zero_le _) (Nat.zero_le _) dX9_isLive_67 (⟨rfl, qx⟩)
    · have c743 : ¬ n742 ≤ p := fun h9 => c743 ((nI_leI (a := n742) (b := p) (by omega) (by omega)).mpr h9)
      refine lv_iload_n hx hb dX9_isLive_34 rfl (lv_at hl 1 rfl) ?_
      refine lv_aload_n hx hb dX9_isLive_35 rfl (lv_at hl 2 rfl) ?_
      refine lv_iload_n hx hb dX9_isLive_36 rfl (lv_at hl 0 rfl) ?_
      refine cv_i (As := [.int (nI p)]) (rest := [.int x]) (b := w) ⟨hx, hb, hml, hown, hts⟩ (c_X9_isUp hT (w := w) hw (n := p) (by first | omega | decide | assumption)) (cwV 1 hts gX9_isLive_X9_isUp rfl rfl rfl hdX9_isUp_v ⟨Nat.le_of_ble_eq_true rfl, Nat.le_of_ble_eq_true rfl⟩) hN hE hL (rcv10 hN hT hw.1) rfl rfl hl.1 (Nat.le_of_ble_eq_true rfl) dX9_isLive_37 (Nat.zero_le _) (Nat.zero_le _) (fun r744 H1 locs hL hqr744 => ?_)
      obtain ⟨h9, hqr744⟩ := hqr744; replace h9 := h9.symm; subst h9
      rcases hqr744 with rfl | rfl
      · refine lv_if_eq (tgt := 57) hx hb dX9_isLive_40 (by decide) (fun _ => ?_) (fun c9 => absurd (by decide) c9)
        refine lv_iconst (v := 0) hx hb dX9_isLive_57 (by decide) ?_
        refine lv_ior hx hb dX9_isLive_58 ?_
        obtain ⟨z745, hz745, ez745⟩ := or01 (y := 0) (qx) (Or.inl rfl)
        refine tp_i z745 ez745 ?_
        refine lv_istore_n (lv' := [(1, .int z745), (2, .int (nI p)), (0, .ref w)]) hx hb dX9_isLive_59 rfl hl (by decide) rfl (fun ls hl => ?_)
        refine lv_iinc (v := (nI (p + 1))) (lv' := [(2, .int (nI (p + 1))), (1, .int z745), (0, .ref w)]) hx hb dX9_isLive_60 hl (k := 1) rfl (nI_add _ 1) (by decide) rfl (fun ls hl => ?_)
        refine lv_goto (tgt := 24) hx hb dX9_isLive_63 (by decide) ?_
        exact ih741 ((p + 1), z745) _ _ (by show 8 - ((p + 1)) < 8 - p; omega) ⟨(hz745), (by show ((p + 1)) ≤ 8; omega)⟩ hL (lv_sub hl [0, 1, 2] rfl)
      · refine lv_if_eq (tgt := 57) hx hb dX9_isLive_40 (by decide) (fun c9 => absurd c9 (by decide)) (fun _ => ?_)
        refine lv_aload_n hx hb dX9_isLive_43 rfl (lv_at hl 2 rfl) ?_
        refine lv_iload_n hx hb dX9_isLive_44 rfl (lv_at hl 0 rfl) ?_
        refine lv_iconst (v := 5) hx hb dX9_isLive_45 (by decide) ?_
        refine cv_i (As := [.int (nI p), .int 5]) (rest := [.int x]) (b := w) ⟨hx, hb, hml, hown, hts⟩ (c_X9_of hT (w := w) hw (n := p) (k := 5) (by first | omega | decide | assumption) (by first | omega | decide | assumption)) (cwV 2 hts gX9_isLive_X9_of rfl rfl rfl hdX9_of_v ⟨Nat.le_of_ble_eq_true rfl, Nat.le_of_ble_eq_true rfl⟩) hN hE hL (rcv10 hN hT hw.1) rfl rfl hl.1 (Nat.le_of_ble_eq_true rfl) dX9_isLive_46 (Nat.zero_le _) (Nat.zero_le _) (fun r746 H1 locs hL hqr746 => ?_)
        obtain rfl := hqr746.symm
        refine lv_iconst (v := 2) hx hb dX9_isLive_49 (by decide) ?_
        refine lv_icmp_ne (tgt := 57) hx hb dX9_isLive_50 (by decide) (fun c747 => ?_) (fun c747 => ?_)
        · refine lv_iconst (v := 0) hx hb dX9_isLive_57 (by decide) ?_
          refine lv_ior hx hb dX9_isLive_58 ?_
          obtain ⟨z748, hz748, ez748⟩ := or01 (y := 0) (qx) (Or.inl rfl)
          refine tp_i z748 ez748 ?_
          refine lv_istore_n (lv' := [(1, .int z748), (2, .int (nI p)), (0, .ref w)]) hx hb dX9_isLive_59 rfl hl (by decide) rfl (fun ls hl => ?_)
          refine lv_iinc (v := (nI (p + 1))) (lv' := [(2, .int (nI (p + 1))), (1, .int z748), (0, .ref w)]) hx hb dX9_isLive_60 hl (k := 1) rfl (nI_add _ 1) (by decide) rfl (fun ls hl => ?_)
          refine lv_goto (tgt := 24) hx hb dX9_isLive_63 (by decide) ?_
          exact ih741 ((p + 1), z748) _ _ (by show 8 - ((p + 1)) < 8 - p; omega) ⟨(hz748), (by show ((p + 1)) ≤ 8; omega)⟩ hL (lv_sub hl [0, 1, 2] rfl)
        · refine lv_iconst (v := 1) hx hb dX9_isLive_53 (by decide) ?_
          refine lv_goto (tgt := 58) hx hb dX9_isLive_54 (by decide) ?_
          refine lv_ior hx hb dX9_isLive_58 ?_
          obtain ⟨z749, hz749, ez749⟩ := or01 (y := 1) (qx) (Or.inr rfl)
          refine tp_i z749 ez749 ?_
          refine lv_istore_n (lv' := [(1, .int z749), (2, .int (nI p)), (0, .ref w)]) hx hb dX9_isLive_59 rfl hl (by decide) rfl (fun ls hl => ?_)
          refine lv_iinc (v := (nI (p + 1))) (lv' := [(2, .int (nI (p + 1))), (1, .int z749), (0, .ref w)]) hx hb dX9_isLive_60 hl (k := 1) rfl (nI_add _ 1) (by decide) rfl (fun ls hl => ?_)
          refine lv_goto (tgt := 24) hx hb dX9_isLive_63 (by decide) ?_
          exact ih741 ((p + 1), z749) _ _ (by show 8 - ((p + 1)) < 8 - p; omega) ⟨(hz749), (by show ((p + 1)) ≤ 8; omega)⟩ hL (lv_sub hl [0, 1, 2] rfl)
  · have c740 : ¬ 0 < n739 := fun h9 => c740 ((nI_ltI (a := 0) (b := n739) (by omega) (by omega)).mpr h9)
    refine lv_aload_n hx hb dX9_isLive_9 rfl (lv_at hl 0 rfl) ?_
    refine cv_i (As := []) (rest := []) (b := w) ⟨hx, hb, hml, hown, hts⟩ (c_X9_isOpen hT (w := w) hw) (cwV 0 hts gX9_isLive_X9_isOpen rfl rfl rfl hdX9_isOpen_v ⟨Nat.le_of_ble_eq_true rfl, Nat.le_of_ble_eq_true rfl⟩) hN hE hL (rcv10 hN hT hw.1) rfl rfl hl.1 (Nat.le_of_ble_eq_true rfl) dX9_isLive_10 (Nat.zero_le _) (Nat.zero_le _) (fun r750 H1 locs hL hqr750 => ?_)
    obtain ⟨h9, hqr750⟩ := hqr750; replace h9 := h9.symm; subst h9
    rcases hqr750 with rfl | rfl
    · refine lv_if_eq (tgt := 20) hx hb dX9_isLive_13 (by decide) (fun _ => ?_) (fun c9 => absurd (by decide) c9)
      refine lv_iconst (v := 0) hx hb dX9_isLive_20 (by decide) ?_
      refine lv_istore_n (lv' := [(1, .int 0), (0, .ref w)]) hx hb dX9_isLive_21 rfl hl (by decide) rfl (fun ls hl => ?_)
      refine lv_iconst (v := 0) hx hb dX9_isLive_22 (by decide) ?_
      refine lv_istore_n (lv' := [(2, .int 0), (1, .int 0), (0, .ref w)]) hx hb dX9_isLive_23 rfl hl (by decide) rfl (fun ls hl => ?_)
      refine lp_r (B0 := B0) (α := Nat × Int32) (nL := 3) (fun a9 => 8 - a9.1) (fun a9 => (a9.2 = 0 ∨ a9.2 = 1) ∧ (a9.1 ≤ 8)) (fun a9 => [(2, .int (nI a9.1)), (1, .int a9.2), (0, .ref w)]) ?_ (0, 0) _ _ ⟨(Or.inl rfl), (by show (0) ≤ 8; omega)⟩ hL (lv_sub hl [0, 1, 2] rfl)
      rintro ⟨p, x⟩ locs ls ih751 ⟨qx, hp⟩ hL hl
      have hl : lv_has ls 3 [(2, .int (nI p)), (1, .int x), (0, .ref w)] := hl
      have qx : x = 0 ∨ x = 1 := qx
      have hp : p ≤ 8 := hp
      refine lv_iload_n hx hb dX9_isLive_24 rfl (lv_at hl 0 rfl) ?_
      refine lv_aload_n hx hb dX9_isLive_25 rfl (lv_at hl 2 rfl) ?_
      refine va_get (D := D) (ci := 9) (v := .ref (κ w).2.2.2) (C := RX9) (T := TX9) (N := 18) hx hb hts iX9_isLive_9 hown hN.1 hP 1 rfl rfl 8 (by decide) (hts _ mX9_isLive_1) (fun _ h9 => h9) rfl dX9_isLive_26 ?_
      refine lv_iconst (v := 0) hx hb dX9_isLive_29 (by decide) ?_
      refine ld_i (v := (g738 0)) hx hb hN hP 0 rfl (vp_in_nI (n := 0) (N := 45783) (by omega) (by omega)) (by rw [(show (0 : Int32).toNatClampNeg = 0 from nI_clamp (n := 0) (by omega))]) dX9_isLive_30 ?_
      obtain ⟨n752, hn752, en752⟩ := q738.1
      refine tp_i (nI n752) en752 ?_
      refine lv_icmp_ge (tgt := 66) hx hb dX9_isLive_31 (by decide) (fun c753 => ?_) (fun c753 => ?_)
      · have c753 : n752 ≤ p := (nI_leI (a := n752) (b := p) (by omega) (by omega)).mp c753
        refine lv_iload_n hx hb dX9_isLive_66 rfl (lv_at hl 1 rfl) ?_
        exact en_i hx hb hr hlocks hL (nb qx) (Nat.zero_le _) (Nat.zero_le _) dX9_isLive_67 (⟨rfl, qx⟩)
      · have c753 : ¬ n752 ≤ p := fun h9 => c753 ((nI_leI (a := n752) (b := p) (by omega) (by omega)).mpr h9)
        refine lv_iload_n hx hb dX9_isLive_34 rfl (lv_at hl 1 rfl) ?_
        refine lv_aload_n hx hb dX9_isLive_35 rfl (lv_at hl 2 rfl) ?_
        refine lv_iload_n hx hb dX9_isLive_36 rfl (lv_at hl 0 rfl) ?_
        refine cv_i (As := [.int (nI p)]) (rest := [.int x]) (b := w) ⟨hx, hb, hml, hown, hts⟩ (c_X9_isUp hT (w := w) hw (n := p) (by first | omega | decide | assumption)) (cwV 1 hts gX9_isLive_X9_isUp rfl rfl rfl hdX9_isUp_v ⟨Nat.le_of_ble_eq_true rfl, Nat.le_of_ble_eq_true rfl⟩) hN hE hL (rcv10 hN hT hw.1) rfl rfl hl.1 (Nat.le_of_ble_eq_true rfl) dX9_isLive_37 (Nat.zero_le _) (Nat.zero_le _) (fun r754 H1 locs hL hqr754 => ?_)
        obtain ⟨h9, hqr754⟩ := hqr754; replace h9 := h9.symm; subst h9
        rcases hqr754 with rfl | rfl
        · refine lv_if_eq (tgt := 57) hx hb dX9_isLive_40 (by decide) (fun _ => ?_) (fun c9 => absurd (by decide) c9)
          refine lv_iconst (v := 0) hx hb dX9_isLive_57 (by decide) ?_
          refine lv_ior hx hb dX9_isLive_58 ?_
          obtain ⟨z755, hz755, ez755⟩ := or01 (y := 0) (qx) (Or.inl rfl)
          refine tp_i z755 ez755 ?_
          refine lv_istore_n (lv' := [(1, .int z755), (2, .int (nI p)), (0, .ref w)]) hx hb dX9_isLive_59 rfl hl (by decide) rfl (fun ls hl => ?_)
          refine lv_iinc (v := (nI (p + 1))) (lv' := [(2, .int (nI (p + 1))), (1, .int z755), (0, .ref w)]) hx hb dX9_isLive_60 hl (k := 1) rfl (nI_add _ 1) (by decide) rfl (fun ls hl => ?_)
          refine lv_goto (tgt := 24) hx hb dX9_isLive_63 (by decide) ?_
          exact ih751 ((p + 1), z755) _ _ (by show 8 - ((p + 1)) < 8 - p; omega) ⟨(hz755), (by show ((p + 1)) ≤ 8; omega)⟩ hL (lv_sub hl [0, 1, 2] rfl)
        · refine lv_if_eq (tgt := 57) hx hb dX9_isLive_40 (by decide) (fun c9 => absurd c9 (by decide)) (fun _ => ?_)
          refine lv_aload_n hx hb dX9_isLive_43 rfl (lv_at hl 2 rfl) ?_
          refine lv_iload_n hx hb dX9_isLive_44 rfl (lv_at hl 0 rfl) ?_
          refine lv_iconst (v := 5) hx hb dX9_isLive_45 (by decide) ?_
          refine cv_i (As := [.int (nI p), .int 5]) (rest := [.int x]) (b := w) ⟨hx, hb, hml, hown, hts⟩ (c_X9_of hT (w := w) hw (n := p) (k := 5) (by first | omega | decide | assumption) (by first | omega | decide | assumption)) (cwV 2 hts gX9_isLive_X9_of rfl rfl rfl hdX9_of_v ⟨Nat.le_of_ble_eq_true rfl, Nat.le_of_ble_eq_true rfl⟩) hN hE hL (rcv10 hN hT hw.1) rfl rfl hl.1 (Nat.le_of_ble_eq_true rfl) dX9_isLive_46 (Nat.zero_le _) (Nat.zero_le _) (fun r756 H1 locs hL hqr756 => ?_)
          obtain rfl := hqr756.symm
          refine lv_iconst (v := 2) hx hb dX9_isLive_49 (by decide) ?_
          refine lv_icmp_ne (tgt := 57) hx hb dX9_isLive_50 (by decide) (fun c757 => ?_) (fun c757 => ?_)
          · refine lv_iconst (v := 0) hx hb dX9_isLive_57 (by decide) ?_
            refine lv_ior hx hb dX9_isLive_58 ?_
            obtain ⟨z758, hz758, ez758⟩ := or01 (y := 0) (qx) (Or.inl rfl)
            refine tp_i z758 ez758 ?_
            refine lv_istore_n (lv' := [(1, .int z758), (2, .int (nI p)), (0, .ref w)]) hx hb dX9_isLive_59 rfl hl (by decide) rfl (fun ls hl => ?_)
            refine lv_iinc (v := (nI (p + 1))) (lv' := [(2, .int (nI (p + 1))), (1, .int z758), (0, .ref w)]) hx hb dX9_isLive_60 hl (k := 1) rfl (nI_add _ 1) (by decide) rfl (fun ls hl => ?_)
            refine lv_goto (tgt := 24) hx hb dX9_isLive_63 (by decide) ?_
            exact ih751 ((p + 1), z758) _ _ (by show 8 - ((p + 1)) < 8 - p; omega) ⟨(hz758), (by show ((p + 1)) ≤ 8; omega)⟩ hL (lv_sub hl [0, 1, 2] rfl)
          · refine lv_iconst (v := 1) hx hb dX9_isLive_53 (by decide) ?_
            refine lv_goto (tgt := 58) hx hb dX9_isLive_54 (by decide) ?_
            refine lv_ior hx hb dX9_isLive_58 ?_
            obtain ⟨z759, hz759, ez759⟩ := or01 (y := 1) (qx) (Or.inr rfl)
            refine tp_i z759 ez759 ?_
            refine lv_istore_n (lv' := [(1, .int z759), (2, .int (nI p)), (0, .ref w)]) hx hb dX9_isLive_59 rfl hl (by decide) rfl (fun ls hl => ?_)
            refine lv_iinc (v := (nI (p + 1))) (lv' := [(2, .int (nI (p + 1))), (1, .int z759), (0, .ref w)]) hx hb dX9_isLive_60 hl (k := 1) rfl (nI_add _ 1) (by decide) rfl (fun ls hl => ?_)
            refine lv_goto (tgt := 24) hx hb dX9_isLive_63 (by decide) ?_
            exact ih751 ((p + 1), z759) _ _ (by show 8 - ((p + 1)) < 8 - p; omega) ⟨(hz759), (by show ((p + 1)) ≤ 8; omega)⟩ hL (lv_sub hl [0, 1, 2] rfl)
    · refine lv_if_eq (tgt := 20) hx hb dX9_isLive_13 (by decide) (fun c9 => absurd c9 (by decide)) (fun _ => ?_)
      refine lv_iconst (v := 1) hx hb dX9_isLive_16 (by decide) ?_
      refine lv_goto (tgt := 21) hx hb dX9_isLive_17 (by decide) ?_
      refine lv_istore_n (lv' := [(1, .int 1), (0, .ref w)]) hx hb dX9_isLive_21 rfl hl (by decide) rfl (fun ls hl => ?_)
      refine lv_iconst (v := 0) hx hb dX9_isLive_22 (by decide) ?_
      refine lv_istore_n (lv' := [(2, .int 0), (1, .int 1), (0, .ref w)]) hx hb dX9_isLive_23 rfl hl (by decide) rfl (fun ls hl => ?_)
      refine lp_r (B0 := B0) (α := Nat × Int32) (nL := 3) (fun a9 => 8 - a9.1) (fun a9 => (a9.2 = 0 ∨ a9.2 = 1) ∧ (a9.1 ≤ 8)) (fun a9 => [(2, .int (nI a9.1)), (1, .int a9.2), (0, .ref w)]) ?_ (0, 1) _ _ ⟨(Or.inr rfl), (by show (0) ≤ 8; omega)⟩ hL (lv_sub hl [0, 1, 2] rfl)
      rintro ⟨p, x⟩ locs ls ih760 ⟨qx, hp⟩ hL hl
      have hl : lv_has ls 3 [(2, .int (nI p)), (1, .int x), (0, .ref w)] := hl
      have qx : x = 0 ∨ x = 1 := qx
      have hp : p ≤ 8 := hp
      refine lv_iload_n hx hb dX9_isLive_24 rfl (lv_at hl 0 rfl) ?_
      refine lv_aload_n hx hb dX9_isLive_25 rfl (lv_at hl 2 rfl) ?_
      refine va_get (D := D) (ci := 9) (v := .ref (κ w).2.2.2) (C := RX9) (T := TX9) (N := 18) hx hb hts iX9_isLive_9 hown hN.1 hP 1 rfl rfl 8 (by decide) (hts _ mX9_isLive_1) (fun _ h9 => h9) rfl dX9_isLive_26 ?_
      refine lv_iconst (v := 0) hx hb dX9_isLive_29 (by decide) ?_
      refine ld_i (v := (g738 0)) hx hb hN hP 0 rfl (vp_in_nI (n := 0) (N := 45783) (by omega) (by omega)) (by rw [(show (0 : Int32).toNatClampNeg = 0 from nI_clamp (n := 0) (by omega))]) dX9_isLive_30 ?_
      obtain ⟨n761, hn761, en761⟩ := q738.1
      refine tp_i (nI n761) en761 ?_
      refine lv_icmp_ge (tgt := 66) hx hb dX9_isLive_31 (by decide) (fun c762 => ?_) (fun c762 => ?_)
      · have c762 : n761 ≤ p := (nI_leI (a := n761) (b := p) (by omega) (by omega)).mp c762
        refine lv_iload_n hx hb dX9_isLive_66 rfl (lv_at hl 1 rfl) ?_
        exact en_i hx hb hr hlocks hL (nb qx) (Nat.zero_le _) (Nat.zero_le _) dX9_isLive_67 (⟨rfl, qx⟩)
      · have c762 : ¬ n761 ≤ p := fun h9 => c762 ((nI_leI (a := n761) (b := p) (by omega) (by omega)).mpr h9)
        refine lv_iload_n hx hb dX9_isLive_34 rfl (lv_at hl 1 rfl) ?_
        refine lv_aload_n hx hb dX9_isLive_35 rfl (lv_at hl 2 rfl) ?_
        refine lv_iload_n hx hb dX9_isLive_36 rfl (lv_at hl 0 rfl) ?_
        refine cv_i (As := [.int (nI p)]) (rest := [.int x]) (b := w) ⟨hx, hb, hml, hown, hts⟩ (c_X9_isUp hT (w := w) hw (n := p) (by first | omega | decide | assumption)) (cwV 1 hts gX9_isLive_X9_isUp rfl rfl rfl hdX9_isUp_v ⟨Nat.le_of_ble_eq_true rfl, Nat.le_of_ble_eq_true rfl⟩) hN hE hL (rcv10 hN hT hw.1) rfl rfl hl.1 (Nat.le_of_ble_eq_true rfl) dX9_isLive_37 (Nat.zero_le _) (Nat.zero_le _) (fun r763 H1 locs hL hqr763 => ?_)
        obtain ⟨h9, hqr763⟩ := hqr763; replace h9 := h9.symm; subst h9
        rcases hqr763 with rfl | rfl
        · refine lv_if_eq (tgt := 57) hx hb dX9_isLive_40 (by decide) (fun _ => ?_) (fun c9 => absurd (by decide) c9)
          refine lv_iconst (v := 0) hx hb dX9_isLive_57 (by decide) ?_
          refine lv_ior hx hb dX9_isLive_58 ?_
          obtain ⟨z764, hz764, ez764⟩ := or01 (y := 0) (qx) (Or.inl rfl)
          refine tp_i z764 ez764 ?_
          refine lv_istore_n (lv' := [(1, .int z764), (2, .int (nI p)), (0, .ref w)]) hx hb dX9_isLive_59 rfl hl (by decide) rfl (fun ls hl => ?_)
          refine lv_iinc (v := (nI (p + 1))) (lv' := [(2, .int (nI (p + 1))), (1, .int z764), (0, .ref w)]) hx hb dX9_isLive_60 hl (k := 1) rfl (nI_add _ 1) (by decide) rfl (fun ls hl => ?_)
          refine lv_goto (tgt := 24) hx hb dX9_isLive_63 (by decide) ?_
          exact ih760 ((p + 1), z764) _ _ (by show 8 - ((p + 1)) < 8 - p; omega) ⟨(hz764), (by show ((p + 1)) ≤ 8; omega)⟩ hL (lv_sub hl [0, 1, 2] rfl)
        · refine lv_if_eq (tgt := 57) hx hb dX9_isLive_40 (by decide) (fun c9 => absurd c9 (by decide)) (fun _ => ?_)
          refine lv_aload_n hx hb dX9_isLive_43 rfl (lv_at hl 2 rfl) ?_
          refine lv_iload_n hx hb dX9_isLive_44 rfl (lv_at hl 0 rfl) ?_
          refine lv_iconst (v := 5) hx hb dX9_isLive_45 (by decide) ?_
          refine cv_i (As := [.int (nI p), .int 5]) (rest := [.int x]) (b := w) ⟨hx, hb, hml, hown, hts⟩ (c_X9_of hT (w := w) hw (n := p) (k := 5) (by first | omega | decide | assumption) (by first | omega | decide | assumption)) (cwV 2 hts gX9_isLive_X9_of rfl rfl rfl hdX9_of_v ⟨Nat.le_of_ble_eq_true rfl, Nat.le_of_ble_eq_true rfl⟩) hN hE hL (rcv10 hN hT hw.1) rfl rfl hl.1 (Nat.le_of_ble_eq_true rfl) dX9_isLive_46 (Nat.zero_le _) (Nat.zero_le _) (fun r765 H1 locs hL hqr765 => ?_)
          obtain rfl := hqr765.symm
          refine lv_iconst (v := 2) hx hb dX9_isLive_49 (by decide) ?_
          refine lv_icmp_ne (tgt := 57) hx hb dX9_isLive_50 (by decide) (fun c766 => ?_) (fun c766 => ?_)
          · refine lv_iconst (v := 0) hx hb dX9_isLive_57 (by decide) ?_
            refine lv_ior hx hb dX9_isLive_58 ?_
            obtain ⟨z767, hz767, ez767⟩ := or01 (y := 0) (qx) (Or.inl rfl)
            refine tp_i z767 ez767 ?_
            refine lv_istore_n (lv' := [(1, .int z767), (2, .int (nI p)), (0, .ref w)]) hx hb dX9_isLive_59 rfl hl (by decide) rfl (fun ls hl => ?_)
            refine lv_iinc (v := (nI (p + 1))) (lv' := [(2, .int (nI (p + 1))), (1, .int z767), (0, .ref w)]) hx hb dX9_isLive_60 hl (k := 1) rfl (nI_add _ 1) (by decide) rfl (fun ls hl => ?_)
            refine lv_goto (tgt := 24) hx hb dX9_isLive_63 (by decide) ?_
            exact ih760 ((p + 1), z767) _ _ (by show 8 - ((p + 1)) < 8 - p; omega) ⟨(hz767), (by show ((p + 1)) ≤ 8; omega)⟩ hL (lv_sub hl [0, 1, 2] rfl)
          · refine lv_iconst (v := 1) hx hb dX9_isLive_53 (by decide) ?_
            refine lv_goto (tgt := 58) hx hb dX9_isLive_54 (by decide) ?_
            refine lv_ior hx hb dX9_isLive_58 ?_
            obtain ⟨z768, hz768, ez768⟩ := or01 (y := 1) (qx) (Or.inr rfl)
            refine tp_i z768 ez768 ?_
            refine lv_istore_n (lv' := [(1, .int z768), (2, .int (nI p)), (0, .ref w)]) hx hb dX9_isLive_59 rfl hl (by decide) rfl (fun ls hl => ?_)
            refine lv_iinc (v := (nI (p + 1))) (lv' := [(2, .int (nI (p + 1))), (1, .int z768), (0, .ref w)]) hx hb dX9_isLive_60 hl (k := 1) rfl (nI_add _ 1) (by decide) rfl (fun ls hl => ?_)
            refine lv_goto (tgt := 24) hx hb dX9_isLive_63 (by decide) ?_
            exact ih760 ((p + 1), z768) _ _ (by show 8 - ((p + 1)) < 8 - p; omega) ⟨(hz768), (by show ((p + 1)) ≤ 8; omega)⟩ hL (lv_sub hl [0, 1, 2] rfl)
theorem mX9_noPlayer_1 : (.fieldLink RX9 18 "OneBeatModel" "data" "[I" : Cond) ∈ wsX9_noPlayer := List.mem_of_getElem? (i := 1) (by decide +kernel)
theorem iX9_noPlayer_9 : ∀ w ∈ wsX90, w ∈ wsX9_noPlayer := fun w h => List.mem_of_mem_drop (List.mem_of_mem_take ((show wsX90 = (wsX9_noPlayer.drop 11).take 18 by decide +kernel) ▸ h))
theorem hdX9_in_o : yX9_in.cls ≠ "java/lang/invoke/MethodHandle" ∧ yX9_in.cls ≠ "java/lang/invoke/VarHandle" ∧ (parseMethodDescriptor yX9_in.desc).map (fun d => d.parameters.length) = some 3 := by decide +kernel
theorem hdX9_fails_v : yX9_fails.cls = RX9 ∧ yX9_fails.cls ≠ "java/lang/invoke/MethodHandle" ∧ yX9_fails.cls ≠ "java/lang/invoke/VarHandle" ∧ (parseMethodDescriptor yX9_fails.desc).map (fun d => d.parameters.length) = some 2 := by decide +kernel
set_option maxHeartbeats 4000000 in
set_option maxRecDepth 100000 in
theorem c_X9_noPlayer {l : Launch} {D : va_G} {cs : Nat → ClassId} {B0 T : Nat} {κ : KM} {H0 : Heap} (hT : WT B0 D cs T κ H0) {w : Nat} (hw : T2 κ w 10 12) {x : Int32} : KC l yX9_noPlayer wsX9_noPlayer 1 22 0 0 D cs B0 H0 [.ref w, .int x] (Qi (fun r H => WT B0 D cs T κ H ∧ Fr B0 [12] κ H0 H ∧ (r = 1 ∨ (r = 0 ∧ ∃ n, n < 8 ∧ x = nI n)))) := by
  refine KC.of cX9_noPlayer 2 (some .boolean) (by decide) rfl (Nat.le_of_ble_eq_true rfl) ?_
  intro p e s m below meth c ls hx hb hr hml hown hts hlocks hin hN hE hH0 hl
  have hown : s.vm.findClass RX9 = some m.cls := hown
  have hl : lv_has ls 2 [(0, .ref w), (1, .int x)] := hl
  have hL : OkL B0 [] := OkL.nil
  have hF : Fr B0 [12] κ H0 H0 := Fr.rf
  refine lv_aload_n hx hb dX9_noPlayer_0 rfl (lv_at hl 0 rfl) ?_
  refine lv_iload_n hx hb dX9_noPlayer_1 rfl (lv_at hl 1 rfl) ?_
  refine lv_iconst (v := 0) hx hb dX9_noPlayer_2 (by decide) ?_
  refine lv_aload_n hx hb dX9_noPlayer_3 rfl (lv_at hl 0 rfl) ?_
  obtain ⟨hb769, e769, hat769, hk769⟩ := hT.o10 hw.1
  obtain ⟨f769_0, f769_1, f769_3, f769_4, f769_5, f769_6, f769_7, f769_9, f769_10, f769_11, f769_12, f769_13, f769_14, f769_15, f769_16, f769_17, rfl, c769_2, c769_3, c769_4, c769_12, t769_1, t769_8, t769_9, c769_sd, t769_10, t769_11, t769_17⟩ := hk769
  have hP : va_P D vwCl [(w, .inr (9, [.int f769_0, .ref f769_1, .int (nI ((κ w).2.2.1)), .int (nI f769_3), .int (nI f769_4), .int f769_5, .int f769_6, .int f769_7, .ref (κ w).2.2.2, .ref f769_9, .ref f769_10, .ref f769_11, .int (nI f769_12), .int f769_13, .int f769_14, .int f769_15, .int f769_16, .ref f769_17]))] _ := va_P.cons hat769 va_P.nil
  refine va_get (D := D) (ci := 9) (v := .ref (κ w).2.2.2) (C := RX9) (T := TX9) (N := 18) hx hb hts iX9_noPlayer_9 hown hN.1 hP 0 rfl rfl 8 (by decide) (hts _ mX9_noPlayer_1) (fun _ h9 => h9) rfl dX9_noPlayer_4 ?_
  refine lv_iconst (v := 0) hx hb dX9_noPlayer_7 (by decide) ?_
  obtain ⟨hb770, e770, hat770, hk770⟩ := hT.o24 t769_8.1
  obtain ⟨g770, rfl, q770⟩ := hk770
  have hP : va_P D vwCl [((κ w).2.2.2, .inl (cs 0, 45783, .inl g770)), (w, .inr (9, [.int f769_0, .ref f769_1, .int (nI ((κ w).2.2.1)), .int (nI f769_3), .int (nI f769_4), .int f769_5, .int f769_6, .int f769_7, .ref (κ w).2.2.2, .ref f769_9, .ref f769_10, .ref f769_11, .int (nI f769_12), .int f769_13, .int f769_14, .int f769_15, .int f769_16, .ref f769_17]))] _ := va_P.cons hat770 hP
  refine ld_i (v := (g770 0)) hx hb hN hP 0 rfl (vp_in_nI (n := 0) (N := 45783) (by omega) (by omega)) (by rw [(show (0 : Int32).toNatClampNeg = 0 from nI_clamp (n := 0) (by omega))]) dX9_noPlayer_8 ?_
  obtain ⟨n771, hn771, en771⟩ := q770.1
  refine tp_i (nI n771) en771 ?_
  refine lv_iconst (v := 1) hx hb dX9_noPlayer_9 (by decide) ?_
  refine lv_isub hx hb dX9_noPlayer_10 ?_
  refine cs_i (As := [.int x, .int 0, .int ((nI n771) - 1)]) (rest := [.ref w]) ⟨hx, hb, hml, hown, hts⟩ (c_X9_in hT (x := x) (y := 0) (z := ((nI n771) - 1))) (va_cwS 3 hts gX9_noPlayer_X9_in rfl rfl rfl hdX9_in_o ⟨Nat.le_of_ble_eq_true rfl, Nat.le_of_ble_eq_true rfl⟩) hN hE hL rfl rfl hl.1 (Nat.le_of_ble_eq_true rfl) dX9_noPlayer_11 (Nat.zero_le _) (Nat.zero_le _) (fun r772 H1 locs hL hqr772 => ?_)
  obtain ⟨h9, hqr772⟩ := hqr772; replace h9 := h9.symm; subst h9
  rcases hqr772 with ⟨rfl, o773⟩ | ⟨rfl, l774, g775⟩
  · refine lv_if_ne (tgt := 21) hx hb dX9_noPlayer_14 (by decide) (fun c9 => absurd (by decide) c9) (fun _ => ?_)
    refine lv_iconst (v := 1) hx hb dX9_noPlayer_17 (by decide) ?_
    refine lv_goto (tgt := 22) hx hb dX9_noPlayer_18 (by decide) ?_
    refine lv_iconst (v := 1) hx hb dX9_noPlayer_22 (by decide) ?_
    refine cv_i (As := [.int 1, .int 1]) (rest := []) (b := w) ⟨hx, hb, hml, hown, hts⟩ (c_X9_fails hT (w := w) hw (x := 1) (z := 1) ((by decide))) (cwV 2 hts gX9_noPlayer_X9_fails rfl rfl rfl hdX9_fails_v ⟨Nat.le_of_ble_eq_true rfl, Nat.le_of_ble_eq_true rfl⟩) hN hE hL (rcv10 hN hT hw.1) rfl rfl hl.1 (Nat.le_of_ble_eq_true rfl) dX9_noPlayer_23 (Nat.zero_le _) (Nat.zero_le _) (fun r776 H1 locs hL hqr776 => ?_)
    obtain ⟨hT1, hF1, hqr776⟩ := hqr776
    have hP : va_P D vwCl [((κ w).2.2.2, .inl (cs 0, 45783, .inl g770))] _ := hF1.hP (hP.sub [0] rfl) (fa_c ⟨by rw [t769_8.1]; decide, by rw [t769_8.2]; first | decide | (simp; done) | (simp [h15a, h15b, h15c]; done) | (simp; omega)⟩ fa_n)
    have hF := hF.tr (hF1.mono (by simp))
    have hT := hT1
    rcases hqr776 with rfl | ⟨rfl, e777⟩
    · exact en_i hx hb hr hlocks hL rfl (Nat.zero_le _) (Nat.zero_le _) dX9_noPlayer_26 (⟨hT, hF, Or.inl rfl⟩)
    · exact absurd e777 (by decide)
  · refine lv_if_ne (tgt := 21) hx hb dX9_noPlayer_14 (by decide) (fun _ => ?_) (fun c9 => absurd c9 (by decide))
    refine lv_iconst (v := 0) hx hb dX9_noPlayer_21 (by decide) ?_
    refine lv_iconst (v := 1) hx hb dX9_noPlayer_22 (by decide) ?_
    refine cv_i (As := [.int 0, .int 1]) (rest := []) (b := w) ⟨hx, hb, hml, hown, hts⟩ (c_X9_fails hT (w := w) hw (x := 0) (z := 1) ((by decide))) (cwV 2 hts gX9_noPlayer_X9_fails rfl rfl rfl hdX9_fails_v ⟨Nat.le_of_ble_eq_true rfl, Nat.le_of_ble_eq_true rfl⟩) hN hE hL (rcv10 hN hT hw.1) rfl rfl hl.1 (Nat.le_of_ble_eq_true rfl) dX9_noPlayer_23 (Nat.zero_le _) (Nat.zero_le _) (fun r778 H1 locs hL hqr778 => ?_)
    obtain ⟨hT1, hF1, hqr778⟩ := hqr778
    have hP : va_P D vwCl [((κ w).2.2.2, .inl (cs 0, 45783, .inl g770))] _ := hF1.hP (hP.sub [0] rfl) (fa_c ⟨by rw [t769_8.1]; decide, by rw [t769_8.2]; first | decide | (simp; done) | (simp [h15a, h15b, h15c]; done) | (simp; omega)⟩ fa_n)
    have hF := hF.tr (hF1.mono (by simp))
    have hT := hT1
    rcases hqr778 with rfl | ⟨rfl, e779⟩
    · exact en_i hx hb hr hlocks hL rfl (Nat.zero_le _) (Nat.zero_le _) dX9_noPlayer_26 (⟨hT, hF, Or.inl rfl⟩)
    · exact en_i hx hb hr hlocks hL rfl (Nat.zero_le _) (Nat.zero_le _) dX9_noPlayer_26 (⟨hT, hF, Or.inr ⟨rfl, rngm (by omega) l774 g775⟩⟩)
theorem mX9_songs_1 : (.fieldLink RX9 18 "OneBeatModel" "data" "[I" : Cond) ∈ wsX9_songs := List.mem_of_getElem? (i := 1) (by decide +kernel)
theorem iX9_songs_9 : ∀ w ∈ wsX90, w ∈ wsX9_songs := fun w h => List.mem_of_mem_drop (List.mem_of_mem_take ((show wsX90 = (wsX9_songs.drop 14).take 18 by decide +kernel) ▸ h))
set_option maxHeartbeats 4000000 in
set_option maxRecDepth 100000 in
theorem c_X9_songs {l : Launch} {D : va_G} {cs : Nat → ClassId} {B0 T : Nat} {κ : KM} {H0 : Heap} (hT : WT B0 D cs T κ H0) {w : Nat} (hw : T2 κ w 10 12) : KC l yX9_songs wsX9_songs 3 63 0 0 D cs B0 H0 [.ref w] (Qi (fun _ H => H = H0)) := by
  refine KC.of cX9_songs 5 (some .int) (by decide) rfl (Nat.le_of_ble_eq_true rfl) ?_
  intro p e s m below meth c ls hx hb hr hml hown hts hlocks hin hN hE hH0 hl
  have hown : s.vm.findClass RX9 = some m.cls := hown
  have hl : lv_has ls 5 [(0, .ref w)] := hl
  have hL : OkL B0 [] := OkL.nil
  refine lv_iconst (v := 0) hx hb dX9_songs_0 (by decide) ?_
  refine lv_istore_n (lv' := [(1, .int 0), (0, .ref w)]) hx hb dX9_songs_1 rfl hl (by decide) rfl (fun ls hl => ?_)
  refine lv_iconst (v := 0) hx hb dX9_songs_2 (by decide) ?_
  refine lv_istore_n (lv' := [(2, .int 0), (1, .int 0), (0, .ref w)]) hx hb dX9_songs_3 rfl hl (by decide) rfl (fun ls hl => ?_)
  refine lp_r (B0 := B0) (α := Nat × Int32) (nL := 5) (fun a9 => 8 - a9.1) (fun a9 => (a9.1 ≤ 8)) (fun a9 => [(2, .int (nI a9.1)), (1, .int a9.2), (0, .ref w)]) ?_ (0, 0) _ _ (by show (0) ≤ 8; omega) hL (lv_sub hl [0, 1, 2] rfl)
  rintro ⟨p, x⟩ locs ls ih780 hp hL hl
  have hl : lv_has ls 5 [(2, .int (nI p)), (1, .int x), (0, .ref w)] := hl
  have hp : p ≤ 8 := hp
  refine lv_iload_n hx hb dX9_songs_4 rfl (lv_at hl 0 rfl) ?_
  refine lv_aload_n hx hb dX9_songs_5 rfl (lv_at hl 2 rfl) ?_
  obtain ⟨hb781, e781, hat781, hk781⟩ := hT.o10 hw.1
  obtain ⟨f781_0, f781_1, f781_3, f781_4, f781_5, f781_6, f781_7, f781_9, f781_10, f781_11, f781_12, f781_13, f781_14, f781_15, f781_16, f781_17, rfl, c781_2, c781_3, c781_4, c781_12, t781_1, t781_8, t781_9, c781_sd, t781_10, t781_11, t781_17⟩ := hk781
  have hP : va_P D vwCl [(w, .inr (9, [.int f781_0, .ref f781_1, .int (nI ((κ w).2.2.1)), .int (nI f781_3), .int (nI f781_4), .int f781_5, .int f781_6, .int f781_7, .ref (κ w).2.2.2, .ref f781_9, .ref f781_10, .ref f781_11, .int (nI f781_12), .int f781_13, .int f781_14, .int f781_15, .int f781_16, .ref f781_17]))] _ := va_P.cons hat781 va_P.nil
  refine va_get (D := D) (ci := 9) (v := .ref (κ w).2.2.2) (C := RX9) (T := TX9) (N := 18) hx hb hts iX9_songs_9 hown hN.1 hP 0 rfl rfl 8 (by decide) (hts _ mX9_songs_1) (fun _ h9 => h9) rfl dX9_songs_6 ?_
  refine lv_iconst (v := 0) hx hb dX9_songs_9 (by decide) ?_
  obtain ⟨hb782, e782, hat782, hk782⟩ := hT.o24 t781_8.1
  obtain ⟨g782, rfl, q782⟩ := hk782
  have hP : va_P D vwCl [((κ w).2.2.2, .inl (cs 0, 45783, .inl g782)), (w, .inr (9, [.int f781_0, .ref f781_1, .int (nI ((κ w).2.2.1)), .int (nI f781_3), .int (nI f781_4), .int f781_5, .int f781_6, .int f781_7, .ref (κ w).2.2.2, .ref f781_9, .ref f781_10, .ref f781_11, .int (nI f781_12), .int f781_13, .int f781_14, .int f781_15, .int f781_16, .ref f781_17]))] _ := va_P.cons hat782 hP
  refine ld_i (v := (g782 0)) hx hb hN hP 0 rfl (vp_in_nI (n := 0) (N := 45783) (by omega) (by omega)) (by rw [(show (0 : Int32).toNatClampNeg = 0 from nI_clamp (n := 0) (by omega))]) dX9_songs_10 ?_
  obtain ⟨n783, hn783, en783⟩ := q782.1
  refine tp_i (nI n783) en783 ?_
  refine lv_icmp_ge (tgt := 86) hx hb dX9_songs_11 (by decide) (fun c784 => ?_) (fun c784 => ?_)
  · have c784 : n783 ≤ p := (nI_leI (a := n783) (b := p) (by omega) (by omega)).mp c784
    refine lv_iload_n hx hb dX9_songs_86 rfl (lv_at hl 1 rfl) ?_
    exact en_i hx hb hr hlocks hL rfl (Nat.zero_le _) (Nat.zero_le _) dX9_songs_87 (rfl)
  · have c784 : ¬ n783 ≤ p := fun h9 => c784 ((nI_leI (a := n783) (b := p) (by omega) (by omega)).mpr h9)
    refine lv_aload_n hx hb dX9_songs_14 rfl (lv_at hl 2 rfl) ?_
    refine lv_iload_n hx hb dX9_songs_15 rfl (lv_at hl 0 rfl) ?_
    refine cv_i (As := [.int (nI p)]) (rest := []) (b := w) ⟨hx, hb, hml, hown, hts⟩ (c_X9_isUp hT (w := w) hw (n := p) (by first | omega | decide | assumption)) (cwV 1 hts gX9_songs_X9_isUp rfl rfl rfl hdX9_isUp_v ⟨Nat.le_of_ble_eq_true rfl, Nat.le_of_ble_eq_true rfl⟩) hN hE hL (rcv10 hN hT hw.1) rfl rfl hl.1 (Nat.le_of_ble_eq_true rfl) dX9_songs_16 (Nat.zero_le _) (Nat.zero_le _) (fun r785 H1 locs hL hqr785 => ?_)
    obtain ⟨h9, hqr785⟩ := hqr785; replace h9 := h9.symm; subst h9
    rcases hqr785 with rfl | rfl
    · refine lv_istore_n (lv' := [(3, .int 0), (2, .int (nI p)), (1, .int x), (0, .ref w)]) hx hb dX9_songs_19 rfl hl (by decide) rfl (fun ls hl => ?_)
      refine lv_iconst (v := 0) hx hb dX9_songs_20 (by decide) ?_
      refine lv_istore (lv' := [(4, .int 0), (3, .int 0), (2, .int (nI p)), (1, .int x), (0, .ref w)]) hx hb dX9_songs_21 hl (by decide) rfl (fun ls hl => ?_)
      refine lp_r (B0 := B0) (α := Nat × Int32) (nL := 5) (fun a9 => 8 - a9.1) (fun a9 => (a9.1 ≤ 8)) (fun a9 => [(4, .int (nI a9.1)), (3, .int a9.2), (0, .ref w), (1, .int x), (2, .int (nI p))]) ?_ (0, 0) _ _ (by show (0) ≤ 8; omega) hL (lv_sub hl [0, 1, 4, 3, 2] rfl)
      rintro ⟨q, z⟩ locs ls ih786 hq hL hl
      have hl : lv_has ls 5 [(4, .int (nI q)), (3, .int z), (0, .ref w), (1, .int x), (2, .int (nI p))] := hl
      have hq : q ≤ 8 := hq
      refine lv_iload hx hb dX9_songs_23 (lv_at hl 0 rfl) ?_
      refine lv_iload_n hx hb dX9_songs_25 rfl (lv_at hl 4 rfl) ?_
      refine lv_icmp_ge (tgt := 68) hx hb dX9_songs_26 (by decide) (fun c787 => ?_) (fun c787 => ?_)
      · have c787 : p ≤ q := (nI_leI (a := p) (b := q) (by omega) (by omega)).mp c787
        refine lv_iload_n hx hb dX9_songs_68 rfl (lv_at hl 3 rfl) ?_
        refine lv_iload_n hx hb dX9_songs_69 rfl (lv_at hl 1 rfl) ?_
        refine lv_if_eq (tgt := 77) hx hb dX9_songs_70 (by decide) (fun c788 => ?_) (fun c788 => ?_)
        · refine lv_iconst (v := 0) hx hb dX9_songs_77 (by decide) ?_
          refine lv_iadd hx hb dX9_songs_78 ?_
          refine gn_i (fun x789 => ?_)
          refine lv_istore_n (lv' := [(1, .int x789), (4, .int (nI q)), (3, .int z), (0, .ref w), (2, .int (nI p))]) hx hb dX9_songs_79 rfl hl (by decide) rfl (fun ls hl => ?_)
          refine lv_iinc (v := (nI (p + 1))) (lv' := [(2, .int (nI (p + 1))), (1, .int x789), (4, .int (nI q)), (3, .int z), (0, .ref w)]) hx hb dX9_songs_80 hl (k := 4) rfl (nI_add _ 1) (by decide) rfl (fun ls hl => ?_)
          refine lv_goto (tgt := 4) hx hb dX9_songs_83 (by decide) ?_
          exact ih780 ((p + 1), x789) _ _ (by show 8 - ((p + 1)) < 8 - p; omega) (by show ((p + 1)) ≤ 8; omega) hL (lv_sub hl [0, 1, 4] rfl)
        · refine lv_iconst (v := 1) hx hb dX9_songs_73 (by decide) ?_
          refine lv_goto (tgt := 78) hx hb dX9_songs_74 (by decide) ?_
          refine lv_iadd hx hb dX9_songs_78 ?_
          refine gn_i (fun x790 => ?_)
          refine lv_istore_n (lv' := [(1, .int x790), (4, .int (nI q)), (3, .int z), (0, .ref w), (2, .int (nI p))]) hx hb dX9_songs_79 rfl hl (by decide) rfl (fun ls hl => ?_)
          refine lv_iinc (v := (nI (p + 1))) (lv' := [(2, .int (nI (p + 1))), (1, .int x790), (4, .int (nI q)), (3, .int z), (0, .ref w)]) hx hb dX9_songs_80 hl (k := 4) rfl (nI_add _ 1) (by decide) rfl (fun ls hl => ?_)
          refine lv_goto (tgt := 4) hx hb dX9_songs_83 (by decide) ?_
          exact ih780 ((p + 1), x790) _ _ (by show 8 - ((p + 1)) < 8 - p; omega) (by show ((p + 1)) ≤ 8; omega) hL (lv_sub hl [0, 1, 4] rfl)
      · have c787 : ¬ p ≤ q := fun h9 => c787 ((nI_leI (a := p) (b := q) (by omega) (by omega)).mpr h9)
        refine lv_iload_n hx hb dX9_songs_29 rfl (lv_at hl 1 rfl) ?_
        refine lv_aload_n hx hb dX9_songs_30 rfl (lv_at hl 2 rfl) ?_
        refine lv_iload hx hb dX9_songs_31 (lv_at hl 0 rfl) ?_
        refine cv_i (As := [.int (nI q)]) (rest := [.int z]) (b := w) ⟨hx, hb, hml, hown, hts⟩ (c_X9_isUp hT (w := w) hw (n := q) (by first | omega | decide | assumption)) (cwV 1 hts gX9_songs_X9_isUp rfl rfl rfl hdX9_isUp_v ⟨Nat.le_of_ble_eq_true rfl, Nat.le_of_ble_eq_true rfl⟩) hN hE hL (rcv10 hN hT hw.1) rfl rfl hl.1 (Nat.le_of_ble_eq_true rfl) dX9_songs_33 (Nat.zero_le _) (Nat.zero_le _) (fun r791 H1 locs hL hqr791 => ?_)
        obtain ⟨h9, hqr791⟩ := hqr791; replace h9 := h9.symm; subst h9
        rcases hqr791 with rfl | rfl
        · refine lv_if_eq (tgt := 55) hx hb dX9_songs_36 (by decide) (fun _ => ?_) (fun c9 => absurd (by decide) c9)
          refine lv_iconst (v := 1) hx hb dX9_songs_55 (by decide) ?_
          refine lv_goto (tgt := 60) hx hb dX9_songs_56 (by decide) ?_
          refine lv_iand hx hb dX9_songs_60 ?_
          refine gn_i (fun x792 => ?_)
          refine lv_istore_n (lv' := [(3, .int x792), (4, .int (nI q)), (0, .ref w), (1, .int x), (2, .int (nI p))]) hx hb dX9_songs_61 rfl hl (by decide) rfl (fun ls hl => ?_)
          refine lv_iinc (v := (nI (q + 1))) (lv' := [(4, .int (nI (q + 1))), (3, .int x792), (0, .ref w), (1, .int x), (2, .int (nI p))]) hx hb dX9_songs_62 hl (k := 1) rfl (nI_add _ 1) (by decide) rfl (fun ls hl => ?_)
          refine lv_goto (tgt := 23) hx hb dX9_songs_65 (by decide) ?_
          exact ih786 ((q + 1), x792) _ _ (by show 8 - ((q + 1)) < 8 - q; omega) (by show ((q + 1)) ≤ 8; omega) hL (lv_sub hl [0, 1, 2, 3, 4] rfl)
        · refine lv_if_eq (tgt := 55) hx hb dX9_songs_36 (by decide) (fun c9 => absurd c9 (by decide)) (fun _ => ?_)
          refine lv_aload_n hx hb dX9_songs_39 rfl (lv_at hl 2 rfl) ?_
          refine lv_iload hx hb dX9_songs_40 (lv_at hl 0 rfl) ?_
          refine lv_iconst (v := 4) hx hb dX9_songs_42 (by decide) ?_
          refine cv_i (As := [.int (nI q), .int 4]) (rest := [.int z]) (b := w) ⟨hx, hb, hml, hown, hts⟩ (c_X9_of hT (w := w) hw (n := q) (k := 4) (by first | omega | decide | assumption) (by first | omega | decide | assumption)) (cwV 2 hts gX9_songs_X9_of rfl rfl rfl hdX9_of_v ⟨Nat.le_of_ble_eq_true rfl, Nat.le_of_ble_eq_true rfl⟩) hN hE hL (rcv10 hN hT hw.1) rfl rfl hl.1 (Nat.le_of_ble_eq_true rfl) dX9_songs_43 (Nat.zero_le _) (Nat.zero_le _) (fun r793 H1 locs hL hqr793 => ?_)
          obtain rfl := hqr793.symm
          refine lv_aload_n hx hb dX9_songs_46 rfl (lv_at hl 2 rfl) ?_
          refine lv_iload_n hx hb dX9_songs_47 rfl (lv_at hl 4 rfl) ?_
          refine lv_iconst (v := 4) hx hb dX9_songs_48 (by decide) ?_
          refine cv_i (As := [.int (nI p), .int 4]) (rest := [.int r793, .int z]) (b := w) ⟨hx, hb, hml, hown, hts⟩ (c_X9_of hT (w := w) hw (n := p) (k := 4) (by first | omega | decide | assumption) (by first | omega | decide | assumption)) (cwV 2 hts gX9_songs_X9_of rfl rfl rfl hdX9_of_v ⟨Nat.le_of_ble_eq_true rfl, Nat.le_of_ble_eq_true rfl⟩) hN hE hL (rcv10 hN hT hw.1) rfl rfl hl.1 (Nat.le_of_ble_eq_true rfl) dX9_songs_49 (Nat.zero_le _) (Nat.zero_le _) (fun r794 H1 locs hL hqr794 => ?_)
          obtain rfl := hqr794.symm
          refine lv_icmp_eq (tgt := 59) hx hb dX9_songs_52 (by decide) (fun c795 => ?_) (fun c795 => ?_)
          · refine lv_iconst (v := 0) hx hb dX9_songs_59 (by decide) ?_
            refine lv_iand hx hb dX9_songs_60 ?_
            refine gn_i (fun x796 => ?_)
            refine lv_istore_n (lv' := [(3, .int x796), (4, .int (nI q)), (0, .ref w), (1, .int x), (2, .int (nI p))]) hx hb dX9_songs_61 rfl hl (by decide) rfl (fun ls hl => ?_)
            refine lv_iinc (v := (nI (q + 1))) (lv' := [(4, .int (nI (q + 1))), (3, .int x796), (0, .ref w), (1, .int x), (2, .int (nI p))]) hx hb dX9_songs_62 hl (k := 1) rfl (nI_add _ 1) (by decide) rfl (fun ls hl => ?_)
            refine lv_goto (tgt := 23) hx hb dX9_songs_65 (by decide) ?_
            exact ih786 ((q + 1), x796) _ _ (by show 8 - ((q + 1)) < 8 - q; omega) (by show ((q + 1)) ≤ 8; omega) hL (lv_sub hl [0, 1, 2, 3, 4] rfl)
          · refine lv_iconst (v := 1) hx hb dX9_songs_55 (by decide) ?_
            refine lv_goto (tgt := 60) hx hb dX9_songs_56 (by decide) ?_
            refine lv_iand hx hb dX9_songs_60 ?_
            refine gn_i (fun x797 => ?_)
            refine lv_istore_n (lv' := [(3, .int x797), (4, .int (nI q)), (0, .ref w), (1, .int x), (2, .int (nI p))]) hx hb dX9_songs_61 rfl hl (by decide) rfl (fun ls hl => ?_)
            refine lv_iinc (v := (nI (q + 1))) (lv' := [(4, .int (nI (q + 1))), (3, .int x797), (0, .ref w), (1, .int x), (2, .int (nI p))]) hx hb dX9_songs_62 hl (k := 1) rfl (nI_add _ 1) (by decide) rfl (fun ls hl => ?_)
            refine lv_goto (tgt := 23) hx hb dX9_songs_65 (by decide) ?_
            exact ih786 ((q + 1), x797) _ _ (by show 8 - ((q + 1)) < 8 - q; omega) (by show ((q + 1)) ≤ 8; omega) hL (lv_sub hl [0, 1, 2, 3, 4] rfl)
    · refine lv_istore_n (lv' := [(3, .int 1), (2, .int (nI p)), (1, .int x), (0, .ref w)]) hx hb dX9_songs_19 rfl hl (by decide) rfl (fun ls hl => ?_)
      refine lv_iconst (v := 0) hx hb dX9_songs_20 (by decide) ?_
      refine lv_istore (lv' := [(4, .int 0), (3, .int 1), (2, .int (nI p)), (1, .int x), (0, .ref w)]) hx hb dX9_songs_21 hl (by decide) rfl (fun ls hl => ?_)
      refine lp_r (B0 := B0) (α := Nat × Int32) (nL := 5) (fun a9 => 8 - a9.1) (fun a9 => (a9.1 ≤ 8)) (fun a9 => [(4, .int (nI a9.1)), (3, .int a9.2), (0, .ref w), (1, .int x), (2, .int (nI p))]) ?_ (0, 1) _ _ (by show (0) ≤ 8; omega) hL (lv_sub hl [0, 1, 4, 3, 2] rfl)
      rintro ⟨q, z⟩ locs ls ih798 hq hL hl
      have hl : lv_has ls 5 [(4, .int (nI q)), (3, .int z), (0, .ref w), (1, .int x), (2, .int (nI p))] := hl
      have hq : q ≤ 8 := hq
      refine lv_iload hx hb dX9_songs_23 (lv_at hl 0 rfl) ?_
      refine lv_iload_n hx hb dX9_songs_25 rfl (lv_at hl 4 rfl) ?_
      refine lv_icmp_ge (tgt := 68) hx hb dX9_songs_26 (by decide) (fun c799 => ?_) (fun c799 => ?_)
      · have c799 : p ≤ q := (nI_leI (a := p) (b := q) (by omega) (by omega)).mp c799
        refine lv_iload_n hx hb dX9_songs_68 rfl (lv_at hl 3 rfl) ?_
        refine lv_iload_n hx hb dX9_songs_69 rfl (lv_at hl 1 rfl) ?_
        refine lv_if_eq (tgt := 77) hx hb dX9_songs_70 (by decide) (fun c800 => ?_) (fun c800 => ?_)
        · refine lv_iconst (v := 0) hx hb dX9_songs_77 (by decide) ?_
          refine lv_iadd hx hb dX9_songs_78 ?_
          refine gn_i (fun x801 => ?_)
          refine lv_istore_n (lv' := [(1, .int x801), (4, .int (nI q)), (3, .int z), (0, .ref w), (2, .int (nI p))]) hx hb dX9_songs_79 rfl hl (by decide) rfl (fun ls hl => ?_)
          refine lv_iinc (v := (nI (p + 1))) (lv' := [(2, .int (nI (p + 1))), (1, .int x801), (4, .int (nI q)), (3, .int z), (0, .ref w)]) hx hb dX9_songs_80 hl (k := 4) rfl (nI_add _ 1) (by decide) rfl (fun ls hl => ?_)
          refine lv_goto (tgt := 4) hx hb dX9_songs_83 (by decide) ?_
          exact ih780 ((p + 1), x801) _ _ (by show 8 - ((p + 1)) < 8 - p; omega) (by show ((p + 1)) ≤ 8; omega) hL (lv_sub hl [0, 1, 4] rfl)
        · refine lv_iconst (v := 1) hx hb dX9_songs_73 (by decide) ?_
          refine lv_goto (tgt := 78) hx hb dX9_songs_74 (by decide) ?_
          refine lv_iadd hx hb dX9_songs_78 ?_
          refine gn_i (fun x802 => ?_)
          refine lv_istore_n (lv' := [(1, .int x802), (4, .int (nI q)), (3, .int z), (0, .ref w), (2, .int (nI p))]) hx hb dX9_songs_79 rfl hl (by decide) rfl (fun ls hl => ?_)
          refine lv_iinc (v := (nI (p + 1))) (lv' := [(2, .int (nI (p + 1))), (1, .int x802), (4, .int (nI q)), (3, .int z), (0, .ref w)]) hx hb dX9_songs_80 hl (k := 4) rfl (nI_add _ 1) (by decide) rfl (fun ls hl => ?_)
          refine lv_goto (tgt := 4) hx hb dX9_songs_83 (by decide) ?_
          exact ih780 ((p + 1), x802) _ _ (by show 8 - ((p + 1)) < 8 - p; omega) (by show ((p + 1)) ≤ 8; omega) hL (lv_sub hl [0, 1, 4] rfl)
      · have c799 : ¬ p ≤ q := fun h9 => c799 ((nI_leI (a := p) (b := q) (by omega) (by omega)).mpr h9)
        refine lv_iload_n hx hb dX9_songs_29 rfl (lv_at hl 1 rfl) ?_
        refine lv_aload_n hx hb dX9_songs_30 rfl (lv_at hl 2 rfl) ?_
        refine lv_iload hx hb dX9_songs_31 (lv_at hl 0 rfl) ?_
        refine cv_i (As := [.int (nI q)]) (rest := [.int z]) (b := w) ⟨hx, hb, hml, hown, hts⟩ (c_X9_isUp hT (w := w) hw (n := q) (by first | omega | decide | assumption)) (cwV 1 hts gX9_songs_X9_isUp rfl rfl rfl hdX9_isUp_v ⟨Nat.le_of_ble_eq_true rfl, Nat.le_of_ble_eq_true rfl⟩) hN hE hL (rcv10 hN hT hw.1) rfl rfl hl.1 (Nat.le_of_ble_eq_true rfl) dX9_songs_33 (Nat.zero_le _) (Nat.zero_le _) (fun r803 H1 locs hL hqr803 => ?_)
        obtain ⟨h9, hqr803⟩ := hqr803; replace h9 := h9.symm; subst h9
        rcases hqr803 with rfl | rfl
        · refine lv_if_eq (tgt := 55) hx hb dX9_songs_36 (by decide) (fun _ => ?_) (fun c9 => absurd (by decide) c9)
          refine lv_iconst (v := 1) hx hb dX9_songs_55 (by decide) ?_
          refine lv_goto (tgt := 60) hx hb dX9_songs_56 (by decide) ?_
          refine lv_iand hx hb dX9_songs_60 ?_
          refine gn_i (fun x804 => ?_)
          refine lv_istore_n (lv' := [(3, .int x804), (4, .int (nI q)), (0, .ref w), (1, .int x), (2, .int (nI p))]) hx hb dX9_songs_61 rfl hl (by decide) rfl (fun ls hl => ?_)
          refine lv_iinc (v := (nI (q + 1))) (lv' := [(4, .int (nI (q + 1))), (3, .int x804), (0, .ref w), (1, .int x), (2, .int (nI p))]) hx hb dX9_songs_62 hl (k := 1) rfl (nI_add _ 1) (by decide) rfl (fun ls hl => ?_)
          refine lv_goto (tgt := 23) hx hb dX9_songs_65 (by decide) ?_
          exact ih798 ((q + 1), x804) _ _ (by show 8 - ((q + 1)) < 8 - q; omega) (by show ((q + 1)) ≤ 8; omega) hL (lv_sub hl [0, 1, 2, 3, 4] rfl)
        · refine lv_if_eq (tgt := 55) hx hb dX9_songs_36 (by decide) (fun c9 => absurd c9 (by decide)) (fun _ => ?_)
          refine lv_aload_n hx hb dX9_songs_39 rfl (lv_at hl 2 rfl) ?_
          refine lv_iload hx hb dX9_songs_40 (lv_at hl 0 rfl) ?_
          refine lv_iconst (v := 4) hx hb dX9_songs_42 (by decide) ?_
          refine cv_i (As := [.int (nI q), .int 4]) (rest := [.int z]) (b := w) ⟨hx, hb, hml, hown, hts⟩ (c_X9_of hT (w := w) hw (n := q) (k := 4) (by first | omega | decide | assumption) (by first | omega | decide | assumption)) (cwV 2 hts gX9_songs_X9_of rfl rfl rfl hdX9_of_v ⟨Nat.le_of_ble_eq_true rfl, Nat.le_of_ble_eq_true rfl⟩) hN hE hL (rcv10 hN hT hw.1) rfl rfl hl.1 (Nat.le_of_ble_eq_true rfl) dX9_songs_43 (Nat.zero_le _) (Nat.zero_le _) (fun r805 H1 locs hL hqr805 => ?_)
          obtain rfl := hqr805.symm
          refine lv_aload_n hx hb dX9_songs_46 rfl (lv_at hl 2 rfl) ?_
          refine lv_iload_n hx hb dX9_songs_47 rfl (lv_at hl 4 rfl) ?_
          refine lv_iconst (v := 4) hx hb dX9_songs_48 (by decide) ?_
          refine cv_i (As := [.int (nI p), .int 4]) (rest := [.int r805, .int z]) (b := w) ⟨hx, hb, hml, hown, hts⟩ (c_X9_of hT (w := w) hw (n := p) (k := 4) (by first | omega | decide | assumption) (by first | omega | decide | assumption)) (cwV 2 hts gX9_songs_X9_of rfl rfl rfl hdX9_of_v ⟨Nat.le_of_ble_eq_true rfl, Nat.le_of_ble_eq_true rfl⟩) hN hE hL (rcv10 hN hT hw.1) rfl rfl hl.1 (Nat.le_of_ble_eq_true rfl) dX9_songs_49 (Nat.zero_le _) (Nat.zero_le _) (fun r806 H1 locs hL hqr806 => ?_)
          obtain rfl := hqr806.symm
          refine lv_icmp_eq (tgt := 59) hx hb dX9_songs_52 (by decide) (fun c807 => ?_) (fun c807 => ?_)
          · refine lv_iconst (v := 0) hx hb dX9_songs_59 (by decide) ?_
            refine lv_iand hx hb dX9_songs_60 ?_
            refine gn_i (fun x808 => ?_)
            refine lv_istore_n (lv' := [(3, .int x808), (4, .int (nI q)), (0, .ref w), (1, .int x), (2, .int (nI p))]) hx hb dX9_songs_61 rfl hl (by decide) rfl (fun ls hl => ?_)
            refine lv_iinc (v := (nI (q + 1))) (lv' := [(4, .int (nI (q + 1))), (3, .int x808), (0, .ref w), (1, .int x), (2, .int (nI p))]) hx hb dX9_songs_62 hl (k := 1) rfl (nI_add _ 1) (by decide) rfl (fun ls hl => ?_)
            refine lv_goto (tgt := 23) hx hb dX9_songs_65 (by decide) ?_
            exact ih798 ((q + 1), x808) _ _ (by show 8 - ((q + 1)) < 8 - q; omega) (by show ((q + 1)) ≤ 8; omega) hL (lv_sub hl [0, 1, 2, 3, 4] rfl)
          · refine lv_iconst (v := 1) hx hb dX9_songs_55 (by decide) ?_
            refine lv_goto (tgt := 60) hx hb dX9_songs_56 (by decide) ?_
            refine lv_iand hx hb dX9_songs_60 ?_
            refine gn_i (fun x809 => ?_)
            refine lv_istore_n (lv' := [(3, .int x809), (4, .int (nI q)), (0, .ref w), (1, .int x), (2, .int (nI p))]) hx hb dX9_songs_61 rfl hl (by decide) rfl (fun ls hl => ?_)
            refine lv_iinc (v := (nI (q + 1))) (lv' := [(4, .int (nI (q + 1))), (3, .int x809), (0, .ref w), (1, .int x), (2, .int (nI p))]) hx hb dX9_songs_62 hl (k := 1) rfl (nI_add _ 1) (by decide) rfl (fun ls hl => ?_)
            refine lv_goto (tgt := 23) hx hb dX9_songs_65 (by decide) ?_
            exact ih798 ((q + 1), x809) _ _ (by show 8 - ((q + 1)) < 8 - q; omega) (by show ((q + 1)) ≤ 8; omega) hL (lv_sub hl [0, 1, 2, 3, 4] rfl)
theorem mX9_spreadNow_1 : (.fieldLink RX9 18 "OneBeatModel" "data" "[I" : Cond) ∈ wsX9_spreadNow := List.mem_of_getElem? (i := 1) (by decide +kernel)
theorem iX9_spreadNow_9 : ∀ w ∈ wsX90, w ∈ wsX9_spreadNow := fun w h => List.mem_of_mem_drop (List.mem_of_mem_take ((show wsX90 = (wsX9_spreadNow.drop 2).take 18 by decide +kernel) ▸ h))
set_option maxHeartbeats 4000000 in
set_option maxRecDepth 100000 in
theorem c_X9_spreadNow {l : Launch} {D : va_G} {cs : Nat → ClassId} {B0 T : Nat} {κ : KM} {H0 : Heap} (hT : WT B0 D cs T κ H0) {w : Nat} (hw : T2 κ w 10 12) : KC l yX9_spreadNow wsX9_spreadNow 0 0 0 0 D cs B0 H0 [.ref w] (Qi (fun _ H => H = H0)) := by
  refine KC.of cX9_spreadNow 1 (some .int) (by decide) rfl (Nat.le_of_ble_eq_true rfl) ?_
  intro p e s m below meth c ls hx hb hr hml hown hts hlocks hin hN hE hH0 hl
  have hown : s.vm.findClass RX9 = some m.cls := hown
  have hl : lv_has ls 1 [(0, .ref w)] := hl
  have hL : OkL B0 [] := OkL.nil
  refine lv_aload_n hx hb dX9_spreadNow_0 rfl (lv_at hl 0 rfl) ?_
  obtain ⟨hb810, e810, hat810, hk810⟩ := hT.o10 hw.1
  obtain ⟨f810_0, f810_1, f810_3, f810_4, f810_5, f810_6, f810_7, f810_9, f810_10, f810_11, f810_12, f810_13, f810_14, f810_15, f810_16, f810_17, rfl, c810_2, c810_3, c810_4, c810_12, t810_1, t810_8, t810_9, c810_sd, t810_10, t810_11, t810_17⟩ := hk810
  have hP : va_P D vwCl [(w, .inr (9, [.int f810_0, .ref f810_1, .int (nI ((κ w).2.2.1)), .int (nI f810_3), .int (nI f810_4), .int f810_5, .int f810_6, .int f810_7, .ref (κ w).2.2.2, .ref f810_9, .ref f810_10, .ref f810_11, .int (nI f810_12), .int f810_13, .int f810_14, .int f810_15, .int f810_16, .ref f810_17]))] _ := va_P.cons hat810 va_P.nil
  refine va_get (D := D) (ci := 9) (v := .ref (κ w).2.2.2) (C := RX9) (T := TX9) (N := 18) hx hb hts iX9_spreadNow_9 hown hN.1 hP 0 rfl rfl 8 (by decide) (hts _ mX9_spreadNow_1) (fun _ h9 => h9) rfl dX9_spreadNow_1 ?_
  refine lv_bipush (v := 21) hx hb dX9_spreadNow_4 (by decide) ?_
  obtain ⟨hb811, e811, hat811, hk811⟩ := hT.o24 t810_8.1
  obtain ⟨g811, rfl, q811⟩ := hk811
  have hP : va_P D vwCl [((κ w).2.2.2, .inl (cs 0, 45783, .inl g811)), (w, .inr (9, [.int f810_0, .ref f810_1, .int (nI ((κ w).2.2.1)), .int (nI f810_3), .int (nI f810_4), .int f810_5, .int f810_6, .int f810_7, .ref (κ w).2.2.2, .ref f810_9, .ref f810_10, .ref f810_11, .int (nI f810_12), .int f810_13, .int f810_14, .int f810_15, .int f810_16, .ref f810_17]))] _ := va_P.cons hat811 hP
  refine ld_i (v := (g811 21)) hx hb hN hP 0 rfl (vp_in_nI (n := 21) (N := 45783) (by omega) (by omega)) (by rw [(show (21 : Int32).toNatClampNeg = 21 from nI_clamp (n := 21) (by omega))]) dX9_spreadNow_6 ?_
  refine gn_i (fun x812 => ?_)
  refine lv_iconst (v := (-1)) hx hb dX9_spreadNow_7 (by decide) ?_
  refine lv_icmp_ne (tgt := 15) hx hb dX9_spreadNow_8 (by decide) (fun c813 => ?_) (fun c813 => ?_)
  · refine lv_aload_n hx hb dX9_spreadNow_15 rfl (lv_at hl 0 rfl) ?_
    refine va_get (D := D) (ci := 9) (v := .ref (κ w).2.2.2) (C := RX9) (T := TX9) (N := 18) hx hb hts iX9_spreadNow_9 hown hN.1 hP 1 rfl rfl 8 (by decide) (hts _ mX9_spreadNow_1) (fun _ h9 => h9) rfl dX9_spreadNow_16 ?_
    refine lv_bipush (v := 22) hx hb dX9_spreadNow_19 (by decide) ?_
    refine ld_i (v := (g811 22)) hx hb hN hP 0 rfl (vp_in_nI (n := 22) (N := 45783) (by omega) (by omega)) (by rw [(show (22 : Int32).toNatClampNeg = 22 from nI_clamp (n := 22) (by omega))]) dX9_spreadNow_21 ?_
    refine gn_i (fun x814 => ?_)
    refine lv_aload_n hx hb dX9_spreadNow_22 rfl (lv_at hl 0 rfl) ?_
    refine va_get (D := D) (ci := 9) (v := .ref (κ w).2.2.2) (C := RX9) (T := TX9) (N := 18) hx hb hts iX9_spreadNow_9 hown hN.1 hP 1 rfl rfl 8 (by decide) (hts _ mX9_spreadNow_1) (fun _ h9 => h9) rfl dX9_spreadNow_23 ?_
    refine lv_bipush (v := 21) hx hb dX9_spreadNow_26 (by decide) ?_
    refine ld_i (v := (g811 21)) hx hb hN hP 0 rfl (vp_in_nI (n := 21) (N := 45783) (by omega) (by omega)) (by rw [(show (21 : Int32).toNatClampNeg = 21 from nI_clamp (n := 21) (by omega))]) dX9_spreadNow_28 ?_
    refine gn_i (fun x815 => ?_)
    refine lv_isub hx hb dX9_spreadNow_29 ?_
    refine gn_i (fun x816 => ?_)
    exact en_i hx hb hr hlocks hL rfl (Nat.zero_le _) (Nat.zero_le _) dX9_spreadNow_30 (rfl)
  · refine lv_iconst (v := (-1)) hx hb dX9_spreadNow_11 (by decide) ?_
    refine lv_goto (tgt := 30) hx hb dX9_spreadNow_12 (by decide) ?_
    exact en_i hx hb hr hlocks hL rfl (Nat.zero_le _) (Nat.zero_le _) dX9_spreadNow_30 (rfl)
theorem mX9_toldPlayer_1 : (.fieldLink RX9 18 "OneBeatModel" "data" "[I" : Cond) ∈ wsX9_toldPlayer := List.mem_of_getElem? (i := 1) (by decide +kernel)
theorem iX9_toldPlayer_9 : ∀ w ∈ wsX90, w ∈ wsX9_toldPlayer := fun w h => List.mem_of_mem_drop (List.mem_of_mem_take ((show wsX90 = (wsX9_toldPlayer.drop 18).take 18 by decide +kernel) ▸ h))
set_option maxHeartbeats 4000000 in
set_option maxRecDepth 100000 in
theorem c_X9_toldPlayer {l : Launch} {D : va_G} {cs : Nat → ClassId} {B0 T : Nat} {κ : KM} {H0 : Heap} (hT : WT B0 D cs T κ H0) {w : Nat} (hw : T2 κ w 10 12) {n : Nat} (qn : n < 8) {y : Int32} : KC l yX9_toldPlayer wsX9_toldPlayer 4 84 0 0 D cs B0 H0 [.ref w, .int (nI n), .int y] (Qi (fun _ H => H = H0)) := by
  refine KC.of cX9_toldPlayer 3 (some .int) (by decide) rfl (Nat.le_of_ble_eq_true rfl) ?_
  intro p e s m below meth c ls hx hb hr hml hown hts hlocks hin hN hE hH0 hl
  have hown : s.vm.findClass RX9 = some m.cls := hown
  have hl : lv_has ls 3 [(0, .ref w), (1, .int (nI n)), (2, .int y)] := hl
  have hL : OkL B0 [] := OkL.nil
  refine lv_iload_n hx hb dX9_toldPlayer_0 rfl (lv_at hl 2 rfl) ?_
  by_cases c817 : (y : Int32).toInt < (0 : Int) ∨ (8 : Int) < (y : Int32).toInt
  · refine lv_tableOut (tgt := 118) hx hb dX9_toldPlayer_1 c817 (by decide) ?_
    refine lv_aload_n hx hb dX9_toldPlayer_118 rfl (lv_at hl 0 rfl) ?_
    refine lv_iload_n hx hb dX9_toldPlayer_119 rfl (lv_at hl 1 rfl) ?_
    refine cv_i (As := [.int (nI n)]) (rest := []) (b := w) ⟨hx, hb, hml, hown, hts⟩ (c_X9_estimate hT (w := w) hw (n := n) (by first | omega | decide | assumption)) (cwV 1 hts gX9_toldPlayer_X9_estimate rfl rfl rfl hdX9_estimate_v ⟨Nat.le_of_ble_eq_true rfl, Nat.le_of_ble_eq_true rfl⟩) hN hE hL (rcv10 hN hT hw.1) rfl rfl hl.1 (Nat.le_of_ble_eq_true rfl) dX9_toldPlayer_120 (Nat.zero_le _) (Nat.zero_le _) (fun r818 H1 locs hL hqr818 => ?_)
    obtain rfl := hqr818.symm
    refine lv_aload_n hx hb dX9_toldPlayer_123 rfl (lv_at hl 0 rfl) ?_
    refine lv_aload_n hx hb dX9_toldPlayer_124 rfl (lv_at hl 0 rfl) ?_
    obtain ⟨hb819, e819, hat819, hk819⟩ := hT.o10 hw.1
    obtain ⟨f819_0, f819_1, f819_3, f819_4, f819_5, f819_6, f819_7, f819_9, f819_10, f819_11, f819_12, f819_13, f819_14, f819_15, f819_16, f819_17, rfl, c819_2, c819_3, c819_4, c819_12, t819_1, t819_8, t819_9, c819_sd, t819_10, t819_11, t819_17⟩ := hk819
    have hP : va_P D vwCl [(w, .inr (9, [.int f819_0, .ref f819_1, .int (nI ((κ w).2.2.1)), .int (nI f819_3), .int (nI f819_4), .int f819_5, .int f819_6, .int f819_7, .ref (κ w).2.2.2, .ref f819_9, .ref f819_10, .ref f819_11, .int (nI f819_12), .int f819_13, .int f819_14, .int f819_15, .int f819_16, .ref f819_17]))] _ := va_P.cons hat819 va_P.nil
    refine va_get (D := D) (ci := 9) (v := .ref (κ w).2.2.2) (C := RX9) (T := TX9) (N := 18) hx hb hts iX9_toldPlayer_9 hown hN.1 hP 0 rfl rfl 8 (by decide) (hts _ mX9_toldPlayer_1) (fun _ h9 => h9) rfl dX9_toldPlayer_125 ?_
    refine lv_iconst (v := 2) hx hb dX9_toldPlayer_128 (by decide) ?_
    obtain ⟨hb820, e820, hat820, hk820⟩ := hT.o24 t819_8.1
    obtain ⟨g820, rfl, q820⟩ := hk820
    have hP : va_P D vwCl [((κ w).2.2.2, .inl (cs 0, 45783, .inl g820)), (w, .inr (9, [.int f819_0, .ref f819_1, .int (nI ((κ w).2.2.1)), .int (nI f819_3), .int (nI f819_4), .int f819_5, .int f819_6, .int f819_7, .ref (κ w).2.2.2, .ref f819_9, .ref f819_10, .ref f819_11, .int (nI f819_12), .int f819_13, .int f819_14, .int f819_15, .int f819_16, .ref f819_17]))] _ := va_P.cons hat820 hP
    refine ld_i (v := (g820 2)) hx hb hN hP 0 rfl (vp_in_nI (n := 2) (N := 45783) (by omega) (by omega)) (by rw [(show (2 : Int32).toNatClampNeg = 2 from nI_clamp (n := 2) (by omega))]) dX9_toldPlayer_129 ?_
    obtain ⟨n821, hn821, en821⟩ := q820.2.2.1
    refine tp_i (nI n821) en821 ?_
    refine cv_i (As := [.int (nI n821)]) (rest := [.int r818]) (b := w) ⟨hx, hb, hml, hown, hts⟩ (c_X9_clock hT (w := w) hw (n := n821) (by first | omega | decide | assumption)) (cwV 1 hts gX9_toldPlayer_X9_clock rfl rfl rfl hdX9_clock_v ⟨Nat.le_of_ble_eq_true rfl, Nat.le_of_ble_eq_true rfl⟩) hN hE hL (rcv10 hN hT hw.1) rfl rfl hl.1 (Nat.le_of_ble_eq_true rfl) dX9_toldPlayer_130 (Nat.zero_le _) (Nat.zero_le _) (fun r822 H1 locs hL hqr822 => ?_)
    obtain rfl := hqr822.symm
    refine lv_isub hx hb dX9_toldPlayer_133 ?_
    refine gn_i (fun x823 => ?_)
    exact en_i hx hb hr hlocks hL rfl (Nat.zero_le _) (Nat.zero_le _) dX9_toldPlayer_134 (rfl)
  · rcases sw_0_8 c817 with rfl | rfl | rfl | rfl | rfl | rfl | rfl | rfl | rfl
    · refine lv_tableIn (tgt := 52) (off := 51) hx hb dX9_toldPlayer_1 (by decide) (by decide) (by decide) (by decide) ?_
      refine lv_aload_n hx hb dX9_toldPlayer_52 rfl (lv_at hl 0 rfl) ?_
      refine lv_iload_n hx hb dX9_toldPlayer_53 rfl (lv_at hl 1 rfl) ?_
      refine lv_iconst (v := 0) hx hb dX9_toldPlayer_54 (by decide) ?_
      refine cv_i (As := [.int (nI n), .int 0]) (rest := []) (b := w) ⟨hx, hb, hml, hown, hts⟩ (c_X9_of hT (w := w) hw (n := n) (k := 0) (by first | omega | decide | assumption) (by first | omega | decide | assumption)) (cwV 2 hts gX9_toldPlayer_X9_of rfl rfl rfl hdX9_of_v ⟨Nat.le_of_ble_eq_true rfl, Nat.le_of_ble_eq_true rfl⟩) hN hE hL (rcv10 hN hT hw.1) rfl rfl hl.1 (Nat.le_of_ble_eq_true rfl) dX9_toldPlayer_55 (Nat.zero_le _) (Nat.zero_le _) (fun r824 H1 locs hL hqr824 => ?_)
      obtain rfl := hqr824.symm
      exact en_i hx hb hr hlocks hL rfl (Nat.zero_le _) (Nat.zero_le _) dX9_toldPlayer_58 (rfl)
    · refine lv_tableIn (tgt := 59) (off := 58) hx hb dX9_toldPlayer_1 (by decide) (by decide) (by decide) (by decide) ?_
      refine lv_aload_n hx hb dX9_toldPlayer_59 rfl (lv_at hl 0 rfl) ?_
      refine lv_iload_n hx hb dX9_toldPlayer_60 rfl (lv_at hl 1 rfl) ?_
      refine cv_i (As := [.int (nI n)]) (rest := []) (b := w) ⟨hx, hb, hml, hown, hts⟩ (c_X9_clock hT (w := w) hw (n := n) (by first | omega | decide | assumption)) (cwV 1 hts gX9_toldPlayer_X9_clock rfl rfl rfl hdX9_clock_v ⟨Nat.le_of_ble_eq_true rfl, Nat.le_of_ble_eq_true rfl⟩) hN hE hL (rcv10 hN hT hw.1) rfl rfl hl.1 (Nat.le_of_ble_eq_true rfl) dX9_toldPlayer_61 (Nat.zero_le _) (Nat.zero_le _) (fun r825 H1 locs hL hqr825 => ?_)
      obtain rfl := hqr825.symm
      exact en_i hx hb hr hlocks hL rfl (Nat.zero_le _) (Nat.zero_le _) dX9_toldPlayer_64 (rfl)
    · refine lv_tableIn (tgt := 65) (off := 64) hx hb dX9_toldPlayer_1 (by decide) (by decide) (by decide) (by decide) ?_
      refine lv_aload_n hx hb dX9_toldPlayer_65 rfl (lv_at hl 0 rfl) ?_
      refine lv_iload_n hx hb dX9_toldPlayer_66 rfl (lv_at hl 1 rfl) ?_
      refine lv_iconst (v := 3) hx hb dX9_toldPlayer_67 (by decide) ?_
      refine cv_i (As := [.int (nI n), .int 3]) (rest := []) (b := w) ⟨hx, hb, hml, hown, hts⟩ (c_X9_of hT (w := w) hw (n := n) (k := 3) (by first | omega | decide | assumption) (by first | omega | decide | assumption)) (cwV 2 hts gX9_toldPlayer_X9_of rfl rfl rfl hdX9_of_v ⟨Nat.le_of_ble_eq_true rfl, Nat.le_of_ble_eq_true rfl⟩) hN hE hL (rcv10 hN hT hw.1) rfl rfl hl.1 (Nat.le_of_ble_eq_true rfl) dX9_toldPlayer_68 (Nat.zero_le _) (Nat.zero_le _) (fun r826 H1 locs hL hqr826 => ?_)
      obtain rfl := hqr826.symm
      exact en_i hx hb hr hlocks hL rfl (Nat.zero_le _) (Nat.zero_le _) dX9_toldPlayer_71 (rfl)
    · refine lv_tableIn (tgt := 72) (off := 71) hx hb dX9_toldPlayer_1 (by decide) (by decide) (by decide) (by decide) ?_
      refine lv_aload_n hx hb dX9_toldPlayer_72 rfl (lv_at hl 0 rfl) ?_
      refine lv_iload_n hx hb dX9_toldPlayer_73 rfl (lv_at hl 1 rfl) ?_
      refine lv_iconst (v := 4) hx hb dX9_toldPlayer_74 (by decide) ?_
      refine cv_i (As := [.int (nI n), .int 4]) (rest := []) (b := w) ⟨hx, hb, hml, hown, hts⟩ (c_X9_of hT (w := w) hw (n := n) (k := 4) (by first | omega | decide | assumption) (by first | omega | decide | assumption)) (cwV 2 hts gX9_toldPlayer_X9_of rfl rfl rfl hdX9_of_v ⟨Nat.le_of_ble_eq_true rfl, Nat.le_of_ble_eq_true rfl⟩) hN hE hL (rcv10 hN hT hw.1) rfl rfl hl.1 (Nat.le_of_ble_eq_true rfl) dX9_toldPlayer_75 (Nat.zero_le _) (Nat.zero_le _) (fun r827 H1 locs hL hqr827 => ?_)
      obtain rfl := hqr827.symm
      exact en_i hx hb hr hlocks hL rfl (Nat.zero_le _) (Nat.zero_le _) dX9_toldPlayer_78 (rfl)
    · refine lv_tableIn (tgt := 79) (off := 78) hx hb dX9_toldPlayer_1 (by decide) (by decide) (by decide) (by decide) ?_
      refine lv_aload_n hx hb dX9_toldPlayer_79 rfl (lv_at hl 0 rfl) ?_
      refine lv_iload_n hx hb dX9_toldPlayer_80 rfl (lv_at hl 1 rfl) ?_
      refine lv_iconst (v := 5) hx hb dX9_toldPlayer_81 (by decide) ?_
      refine cv_i (As := [.int (nI n), .int 5]) (rest := []) (b := w) ⟨hx, hb, hml, hown, hts⟩ (c_X9_of hT (w := w) hw (n := n) (k := 5) (by first | omega | decide | assumption) (by first | omega | decide | assumption)) (cwV 2 hts gX9_toldPlayer_X9_of rfl rfl rfl hdX9_of_v ⟨Nat.le_of_ble_eq_true rfl, Nat.le_of_ble_eq_true rfl⟩) hN hE hL (rcv10 hN hT hw.1) rfl rfl hl.1 (Nat.le_of_ble_eq_true rfl) dX9_toldPlayer_82 (Nat.zero_le _) (Nat.zero_le _) (fun r828 H1 locs hL hqr828 => ?_)
      obtain rfl := hqr828.symm
      exact en_i hx hb hr hlocks hL rfl (Nat.zero_le _) (Nat.zero_le _) dX9_toldPlayer_85 (rfl)
    · refine lv_tableIn (tgt := 86) (off := 85) hx hb dX9_toldPlayer_1 (by decide) (by decide) (by decide) (by decide) ?_
      refine lv_aload_n hx hb dX9_toldPlayer_86 rfl (lv_at hl 0 rfl) ?_
      refine lv_iload_n hx hb dX9_toldPlayer_87 rfl (lv_at hl 1 rfl) ?_
      refine lv_bipush (v := 6) hx hb dX9_toldPlayer_88 (by decide) ?_
      refine cv_i (As := [.int (nI n), .int 6]) (rest := []) (b := w) ⟨hx, hb, hml, hown, hts⟩ (c_X9_of hT (w := w) hw (n := n) (k := 6) (by first | omega | decide | assumption) (by first | omega | decide | assumption)) (cwV 2 hts gX9_toldPlayer_X9_of rfl rfl rfl hdX9_of_v ⟨Nat.le_of_ble_eq_true rfl, Nat.le_of_ble_eq_true rfl⟩) hN hE hL (rcv10 hN hT hw.1) rfl rfl hl.1 (Nat.le_of_ble_eq_true rfl) dX9_toldPlayer_90 (Nat.zero_le _) (Nat.zero_le _) (fun r829 H1 locs hL hqr829 => ?_)
      obtain rfl := hqr829.symm
      exact en_i hx hb hr hlocks hL rfl (Nat.zero_le _) (Nat.zero_le _) dX9_toldPlayer_93 (rfl)
    · refine lv_tableIn (tgt := 94) (off := 93) hx hb dX9_toldPlayer_1 (by decide) (by decide) (by decide) (by decide) ?_
      refine lv_aload_n hx hb dX9_toldPlayer_94 rfl (lv_at hl 0 rfl) ?_
      refine lv_iload_n hx hb dX9_toldPlayer_95 rfl (lv_at hl 1 rfl) ?_
      refine lv_bipush (v := 9) hx hb dX9_toldPlayer_96 (by decide) ?_
      refine cv_i (As := [.int (nI n), .int 9]) (rest := []) (b := w) ⟨hx, hb, hml, hown, hts⟩ (c_X9_of hT (w := w) hw (n := n) (k := 9) (by first | omega | decide | assumption) (by first | omega | decide | assumption)) (cwV 2 hts gX9_toldPlayer_X9_of rfl rfl rfl hdX9_of_v ⟨Nat.le_of_ble_eq_true rfl, Nat.le_of_ble_eq_true rfl⟩) hN hE hL (rcv10 hN hT hw.1) rfl rfl hl.1 (Nat.le_of_ble_eq_true rfl) dX9_toldPlayer_98 (Nat.zero_le _) (Nat.zero_le _) (fun r830 H1 locs hL hqr830 => ?_)
      obtain rfl := hqr830.symm
      exact en_i hx hb hr hlocks hL rfl (Nat.zero_le _) (Nat.zero_le _) dX9_toldPlayer_101 (rfl)
    · refine lv_tableIn (tgt := 102) (off := 101) hx hb dX9_toldPlayer_1 (by decide) (by decide) (by decide) (by decide) ?_
      refine lv_aload_n hx hb dX9_toldPlayer_102 rfl (lv_at hl 0 rfl) ?_
      refine lv_iload_n hx hb dX9_toldPlayer_103 rfl (lv_at hl 1 rfl) ?_
      refine lv_bipush (v := 10) hx hb dX9_toldPlayer_104 (by decide) ?_
      refine cv_i (As := [.int (nI n), .int 10]) (rest := []) (b := w) ⟨hx, hb, hml, hown, hts⟩ (c_X9_of hT (w := w) hw (n := n) (k := 10) (by first | omega | decide | assumption) (by first | omega | decide | assumption)) (cwV 2 hts gX9_toldPlayer_X9_of rfl rfl rfl hdX9_of_v ⟨Nat.le_of_ble_eq_true rfl, Nat.le_of_ble_eq_true rfl⟩) hN hE hL (rcv10 hN hT hw.1) rfl rfl hl.1 (Nat.le_of_ble_eq_true rfl) dX9_toldPlayer_106 (Nat.zero_le _) (Nat.zero_le _) (fun r831 H1 locs hL hqr831 => ?_)
      obtain rfl := hqr831.symm
      exact en_i hx hb hr hlocks hL rfl (Nat.zero_le _) (Nat.zero_le _) dX9_toldPlayer_109 (rfl)
    · refine lv_tableIn (tgt := 110) (off := 109) hx hb dX9_toldPlayer_1 (by decide) (by decide) (by decide) (by decide) ?_
      refine lv_aload_n hx hb dX9_toldPlayer_110 rfl (lv_at hl 0 rfl) ?_
      refine lv_iload_n hx hb dX9_toldPlayer_111 rfl (lv_at hl 1 rfl) ?_
      refine lv_bipush (v := 11) hx hb dX9_toldPlayer_112 (by decide) ?_
      refine cv_i (As := [.int (nI n), .int 11]) (rest := []) (b := w) ⟨hx, hb, hml, hown, hts⟩ (c_X9_of hT (w := w) hw (n := n) (k := 11) (by first | omega | decide | assumption) (by first | omega | decide | assumption)) (cwV 2 hts gX9_toldPlayer_X9_of rfl rfl rfl hdX9_of_v ⟨Nat.le_of_ble_eq_true rfl, Nat.le_of_ble_eq_true rfl⟩) hN hE hL (rcv10 hN hT hw.1) rfl rfl hl.1 (Nat.le_of_ble_eq_true rfl) dX9_toldPlayer_114 (Nat.zero_le _) (Nat.zero_le _) (fun r832 H1 locs hL hqr832 => ?_)
      obtain rfl := hqr832.symm
      exact en_i hx hb hr hlocks hL rfl (Nat.zero_le _) (Nat.zero_le _) dX9_toldPlayer_117 (rfl)
theorem mX9_toldMessage_1 : (.fieldLink RX9 18 "OneBeatModel" "data" "[I" : Cond) ∈ wsX9_toldMessage := List.mem_of_getElem? (i := 1) (by decide +kernel)
theorem iX9_toldMessage_9 : ∀ w ∈ wsX90, w ∈ wsX9_toldMessage := fun w h => List.mem_of_mem_drop (List.mem_of_mem_take ((show wsX90 = (wsX9_toldMessage.drop 2).take 18 by decide +kernel) ▸ h))
set_option maxHeartbeats 4000000 in
set_option maxRecDepth 100000 in
theorem c_X9_toldMessage {l : Launch} {D : va_G} {cs : Nat → ClassId} {B0 T : Nat} {κ : KM} {H0 : Heap} (hT : WT B0 D cs T κ H0) {w : Nat} (hw : T2 κ w 10 12) {n k : Nat} (hn : n ≤ 7399) (hk : k ≤ 5) : KC l yX9_toldMessage wsX9_toldMessage 0 0 0 0 D cs B0 H0 [.ref w, .int (nI (1383 + 6 * n)), .int (nI k)] (Qi (fun _ H => H = H0)) := by
  refine KC.of cX9_toldMessage 4 (some .int) (by decide) rfl (Nat.le_of_ble_eq_true rfl) ?_
  intro p e s m below meth c ls hx hb hr hml hown hts hlocks hin hN hE hH0 hl
  have hown : s.vm.findClass RX9 = some m.cls := hown
  have hl : lv_has ls 4 [(0, .ref w), (1, .int (nI (1383 + 6 * n))), (2, .int (nI k))] := hl
  have hL : OkL B0 [] := OkL.nil
  refine lv_aload_n hx hb dX9_toldMessage_0 rfl (lv_at hl 0 rfl) ?_
  obtain ⟨hb833, e833, hat833, hk833⟩ := hT.o10 hw.1
  obtain ⟨f833_0, f833_1, f833_3, f833_4, f833_5, f833_6, f833_7, f833_9, f833_10, f833_11, f833_12, f833_13, f833_14, f833_15, f833_16, f833_17, rfl, c833_2, c833_3, c833_4, c833_12, t833_1, t833_8, t833_9, c833_sd, t833_10, t833_11, t833_17⟩ := hk833
  have hP : va_P D vwCl [(w, .inr (9, [.int f833_0, .ref f833_1, .int (nI ((κ w).2.2.1)), .int (nI f833_3), .int (nI f833_4), .int f833_5, .int f833_6, .int f833_7, .ref (κ w).2.2.2, .ref f833_9, .ref f833_10, .ref f833_11, .int (nI f833_12), .int f833_13, .int f833_14, .int f833_15, .int f833_16, .ref f833_17]))] _ := va_P.cons hat833 va_P.nil
  refine va_get (D := D) (ci := 9) (v := .ref (κ w).2.2.2) (C := RX9) (T := TX9) (N := 18) hx hb hts iX9_toldMessage_9 hown hN.1 hP 0 rfl rfl 8 (by decide) (hts _ mX9_toldMessage_1) (fun _ h9 => h9) rfl dX9_toldMessage_1 ?_
  refine lv_iload_n hx hb dX9_toldMessage_4 rfl (lv_at hl 1 rfl) ?_
  refine lv_iconst (v := 0) hx hb dX9_toldMessage_5 (by decide) ?_
  refine lv_iadd hx hb dX9_toldMessage_6 ?_
  refine tp_i (nI ((1383 + 6 * n) + 0)) (nI_add (1383 + 6 * n) 0) ?_
  obtain ⟨hb834, e834, hat834, hk834⟩ := hT.o24 t833_8.1
  obtain ⟨g834, rfl, q834⟩ := hk834
  have hP : va_P D vwCl [((κ w).2.2.2, .inl (cs 0, 45783, .inl g834)), (w, .inr (9, [.int f833_0, .ref f833_1, .int (nI ((κ w).2.2.1)), .int (nI f833_3), .int (nI f833_4), .int f833_5, .int f833_6, .int f833_7, .ref (κ w).2.2.2, .ref f833_9, .ref f833_10, .ref f833_11, .int (nI f833_12), .int f833_13, .int f833_14, .int f833_15, .int f833_16, .ref f833_17]))] _ := va_P.cons hat834 hP
  refine ld_i (v := (g834 ((1383 + 6 * n) + 0))) hx hb hN hP 0 rfl (vp_in_nI (n := ((1383 + 6 * n) + 0)) (N := 45783) (by omega) (by omega)) (by rw [(show ((nI ((1383 + 6 * n) + 0)) : Int32).toNatClampNeg = ((1383 + 6 * n) + 0) from nI_clamp (n := ((1383 + 6 * n) + 0)) (by omega))]) dX9_toldMessage_7 ?_
  refine gn_i (fun x835 => ?_)
  refine lv_istore_n (lv' := [(3, .int x835), (0, .ref w), (1, .int (nI (1383 + 6 * n))), (2, .int (nI k))]) hx hb dX9_toldMessage_8 rfl hl (by decide) rfl (fun ls hl => ?_)
  refine lv_iload_n hx hb dX9_toldMessage_9 rfl (lv_at hl 3 rfl) ?_
  refine lv_if_ne (tgt := 20) hx hb dX9_toldMessage_10 (by decide) (fun c836 => ?_) (fun c836 => ?_)
  · have c836 : ¬ k = 0 := fun h9 => c836 ((nI_eq (a := k) (b := 0) (by omega) (by omega)).mpr h9)
    refine lv_iload_n hx hb dX9_toldMessage_20 rfl (lv_at hl 3 rfl) ?_
    refine lv_iconst (v := 1) hx hb dX9_toldMessage_21 (by decide) ?_
    refine lv_icmp_ne (tgt := 35) hx hb dX9_toldMessage_22 (by decide) (fun c837 => ?_) (fun c837 => ?_)
    · have c837 : ¬ k = 1 := fun h9 => c837 ((nI_eq (a := k) (b := 1) (by omega) (by omega)).mpr h9)
      refine lv_iload_n hx hb dX9_toldMessage_35 rfl (lv_at hl 3 rfl) ?_
      refine lv_iconst (v := 2) hx hb dX9_toldMessage_36 (by decide) ?_
      refine lv_icmp_ne (tgt := 47) hx hb dX9_toldMessage_37 (by decide) (fun c838 => ?_) (fun c838 => ?_)
      · have c838 : ¬ k = 2 := fun h9 => c838 ((nI_eq (a := k) (b := 2) (by omega) (by omega)).mpr h9)
        refine lv_aload_n hx hb dX9_toldMessage_47 rfl (lv_at hl 1 rfl) ?_
        refine va_get (D := D) (ci := 9) (v := .ref (κ w).2.2.2) (C := RX9) (T := TX9) (N := 18) hx hb hts iX9_toldMessage_9 hown hN.1 hP 1 rfl rfl 8 (by decide) (hts _ mX9_toldMessage_1) (fun _ h9 => h9) rfl dX9_toldMessage_48 ?_
        refine lv_iload_n hx hb dX9_toldMessage_51 rfl (lv_at hl 2 rfl) ?_
        refine lv_iload_n hx hb dX9_toldMessage_52 rfl (lv_at hl 3 rfl) ?_
        refine lv_iadd hx hb dX9_toldMessage_53 ?_
        refine tp_i (nI ((1383 + 6 * n) + k)) (nI_add (1383 + 6 * n) k) ?_
        refine lv_iconst (v := 2) hx hb dX9_toldMessage_54 (by decide) ?_
        refine lv_isub hx hb dX9_toldMessage_55 ?_
        refine tp_i (nI (((1383 + 6 * n) + k) - 2)) (nI_subN (a := ((1383 + 6 * n) + k)) (b := 2) (by omega)) ?_
        refine ld_i (v := (g834 (((1383 + 6 * n) + k) - 2))) hx hb hN hP 0 rfl (vp_in_nI (n := (((1383 + 6 * n) + k) - 2)) (N := 45783) (by omega) (by omega)) (by rw [(show ((nI (((1383 + 6 * n) + k) - 2)) : Int32).toNatClampNeg = (((1383 + 6 * n) + k) - 2) from nI_clamp (n := (((1383 + 6 * n) + k) - 2)) (by omega))]) dX9_toldMessage_56 ?_
        refine gn_i (fun x839 => ?_)
        exact en_i hx hb hr hlocks hL rfl (Nat.zero_le _) (Nat.zero_le _) dX9_toldMessage_57 (rfl)
      · have c838 : k = 2 := (nI_eq (a := k) (b := 2) (by omega) (by omega)).mp c838
        refine lv_iload_n hx hb dX9_toldMessage_40 rfl (lv_at hl 0 rfl) ?_
        refine lv_bipush (v := 64) hx hb dX9_toldMessage_41 (by decide) ?_
        refine lv_idiv hx hb dX9_toldMessage_43 (by decide) ?_
        refine gn_i (fun x840 => ?_)
        refine lv_goto (tgt := 57) hx hb dX9_toldMessage_44 (by decide) ?_
        exact en_i hx hb hr hlocks hL rfl (Nat.zero_le _) (Nat.zero_le _) dX9_toldMessage_57 (rfl)
    · have c837 : k = 1 := (nI_eq (a := k) (b := 1) (by omega) (by omega)).mp c837
      refine lv_iload_n hx hb dX9_toldMessage_25 rfl (lv_at hl 0 rfl) ?_
      refine lv_bipush (v := 8) hx hb dX9_toldMessage_26 (by decide) ?_
      refine lv_idiv hx hb dX9_toldMessage_28 (by decide) ?_
      refine gn_i (fun x841 => ?_)
      refine lv_bipush (v := 8) hx hb dX9_toldMessage_29 (by decide) ?_
      refine lv_irem hx hb dX9_toldMessage_31 (by decide) ?_
      refine gn_i (fun x842 => ?_)
      refine lv_goto (tgt := 57) hx hb dX9_toldMessage_32 (by decide) ?_
      exact en_i hx hb hr hlocks hL rfl (Nat.zero_le _) (Nat.zero_le _) dX9_toldMessage_57 (rfl)
  · have c836 : k = 0 := (nI_eq (a := k) (b := 0) (by omega) (by omega)).mp c836
    refine lv_iload_n hx hb dX9_toldMessage_13 rfl (lv_at hl 0 rfl) ?_
    refine lv_bipush (v := 8) hx hb dX9_toldMessage_14 (by decide) ?_
    refine lv_irem hx hb dX9_toldMessage_16 (by decide) ?_
    refine gn_i (fun x843 => ?_)
    refine lv_goto (tgt := 57) hx hb dX9_toldMessage_17 (by decide) ?_
    exact en_i hx hb hr hlocks hL rfl (Nat.zero_le _) (Nat.zero_le _) dX9_toldMessage_57 (rfl)
theorem mX9_mayPropose_1 : (.fieldLink RX9 18 "OneBeatModel" "data" "[I" : Cond) ∈ wsX9_mayPropose := List.mem_of_getElem? (i := 1) (by decide +kernel)
theorem iX9_mayPropose_9 : ∀ w ∈ wsX90, w ∈ wsX9_mayPropose := fun w h => List.mem_of_mem_drop (List.mem_of_mem_take ((show wsX90 = (wsX9_mayPropose.drop 18).take 18 by decide +kernel) ▸ h))
set_option maxHeartbeats 4000000 in
set_option maxRecDepth 100000 in
theorem c_X9_mayPropose {l : Launch} {D : va_G} {cs : Nat → ClassId} {B0 T : Nat} {κ : KM} {H0 : Heap} (hT : WT B0 D cs T κ H0) {w : Nat} (hw : T2 κ w 10 12) : KC l yX9_mayPropose wsX9_mayPropose 3 63 0 0 D cs B0 H0 [.ref w] (Qi (fun r H => H = H0 ∧ (r = 0 ∨ r = 1))) := by
  refine KC.of cX9_mayPropose 1 (some .boolean) (by decide) rfl (Nat.le_of_ble_eq_true rfl) ?_
  intro p e s m below meth c ls hx hb hr hml hown hts hlocks hin hN hE hH0 hl
  have hown : s.vm.findClass RX9 = some m.cls := hown
  have hl : lv_has ls 1 [(0, .ref w)] := hl
  have hL : OkL B0 [] := OkL.nil
  refine lv_aload_n hx hb dX9_mayPropose_0 rfl (lv_at hl 0 rfl) ?_
  refine lv_aload_n hx hb dX9_mayPropose_1 rfl (lv_at hl 0 rfl) ?_
  obtain ⟨hb844, e844, hat844, hk844⟩ := hT.o10 hw.1
  obtain ⟨f844_0, f844_1, f844_3, f844_4, f844_5, f844_6, f844_7, f844_9, f844_10, f844_11, f844_12, f844_13, f844_14, f844_15, f844_16, f844_17, rfl, c844_2, c844_3, c844_4, c844_12, t844_1, t844_8, t844_9, c844_sd, t844_10, t844_11, t844_17⟩ := hk844
  have hP : va_P D vwCl [(w, .inr (9, [.int f844_0, .ref f844_1, .int (nI ((κ w).2.2.1)), .int (nI f844_3), .int (nI f844_4), .int f844_5, .int f844_6, .int f844_7, .ref (κ w).2.2.2, .ref f844_9, .ref f844_10, .ref f844_11, .int (nI f844_12), .int f844_13, .int f844_14, .int f844_15, .int f844_16, .ref f844_17]))] _ := va_P.cons hat844 va_P.nil
  refine va_get (D := D) (ci := 9) (v := .ref (κ w).2.2.2) (C := RX9) (T := TX9) (N := 18) hx hb hts iX9_mayPropose_9 hown hN.1 hP 0 rfl rfl 8 (by decide) (hts _ mX9_mayPropose_1) (fun _ h9 => h9) rfl dX9_mayPropose_2 ?_
  refine lv_iconst (v := 2) hx hb dX9_mayPropose_5 (by decide) ?_
  obtain ⟨hb845, e845, hat845, hk845⟩ := hT.o24 t844_8.1
  obtain ⟨g845, rfl, q845⟩ := hk845
  have hP : va_P D vwCl [((κ w).2.2.2, .inl (cs 0, 45783, .inl g845)), (w, .inr (9, [.int f844_0, .ref f844_1, .int (nI ((κ w).2.2.1)), .int (nI f844_3), .int (nI f844_4), .int f844_5, .int f844_6, .int f844_7, .ref (κ w).2.2.2, .ref f844_9, .ref f844_10, .ref f844_11, .int (nI f844_12), .int f844_13, .int f844_14, .int f844_15, .int f844_16, .ref f844_17]))] _ := va_P.cons hat845 hP
  refine ld_i (v := (g845 2)) hx hb hN hP 0 rfl (vp_in_nI (n := 2) (N := 45783) (by omega) (by omega)) (by rw [(show (2 : Int32).toNatClampNeg = 2 from nI_clamp (n := 2) (by omega))]) dX9_mayPropose_6 ?_
  obtain ⟨n846, hn846, en846⟩ := q845.2.2.1
  refine tp_i (nI n846) en846 ?_
  refine cv_i (As := [.int (nI n846)]) (rest := []) (b := w) ⟨hx, hb, hml, hown, hts⟩ (c_X9_isUp hT (w := w) hw (n := n846) (by first | omega | decide | assumption)) (cwV 1 hts gX9_mayPropose_X9_isUp rfl rfl rfl hdX9_isUp_v ⟨Nat.le_of_ble_eq_true rfl, Nat.le_of_ble_eq_true rfl⟩) hN hE hL (rcv10 hN hT hw.1) rfl rfl hl.1 (Nat.le_of_ble_eq_true rfl) dX9_mayPropose_7 (Nat.zero_le _) (Nat.zero_le _) (fun r847 H1 locs hL hqr847 => ?_)
  obtain ⟨h9, hqr847⟩ := hqr847; replace h9 := h9.symm; subst h9
  rcases hqr847 with rfl | rfl
  · refine lv_if_eq (tgt := 24) hx hb dX9_mayPropose_10 (by decide) (fun _ => ?_) (fun c9 => absurd (by decide) c9)
    refine lv_iconst (v := 0) hx hb dX9_mayPropose_24 (by decide) ?_
    exact en_i hx hb hr hlocks hL rfl (Nat.zero_le _) (Nat.zero_le _) dX9_mayPropose_25 (⟨rfl, Or.inl rfl⟩)
  · refine lv_if_eq (tgt := 24) hx hb dX9_mayPropose_10 (by decide) (fun c9 => absurd c9 (by decide)) (fun _ => ?_)
    refine lv_aload_n hx hb dX9_mayPropose_13 rfl (lv_at hl 0 rfl) ?_
    refine cv_i (As := []) (rest := []) (b := w) ⟨hx, hb, hml, hown, hts⟩ (c_X9_isOpen hT (w := w) hw) (cwV 0 hts gX9_mayPropose_X9_isOpen rfl rfl rfl hdX9_isOpen_v ⟨Nat.le_of_ble_eq_true rfl, Nat.le_of_ble_eq_true rfl⟩) hN hE hL (rcv10 hN hT hw.1) rfl rfl hl.1 (Nat.le_of_ble_eq_true rfl) dX9_mayPropose_14 (Nat.zero_le _) (Nat.zero_le _) (fun r848 H1 locs hL hqr848 => ?_)
    obtain ⟨h9, hqr848⟩ := hqr848; replace h9 := h9.symm; subst h9
    rcases hqr848 with rfl | rfl
    · refine lv_if_ne (tgt := 24) hx hb dX9_mayPropose_17 (by decide) (fun c9 => absurd (by decide) c9) (fun _ => ?_)
      refine lv_iconst (v := 1) hx hb dX9_mayPropose_20 (by decide) ?_
      refine lv_goto (tgt := 25) hx hb dX9_mayPropose_21 (by decide) ?_
      exact en_i hx hb hr hlocks hL rfl (Nat.zero_le _) (Nat.zero_le _) dX9_mayPropose_25 (⟨rfl, Or.inr rfl⟩)
    · refine lv_if_ne (tgt := 24) hx hb dX9_mayPropose_17 (by decide) (fun _ => ?_) (fun c9 => absurd c9 (by decide))
      refine lv_iconst (v := 0) hx hb dX9_mayPropose_24 (by decide) ?_
      exact en_i hx hb hr hlocks hL rfl (Nat.zero_le _) (Nat.zero_le _) dX9_mayPropose_25 (⟨rfl, Or.inl rfl⟩)
