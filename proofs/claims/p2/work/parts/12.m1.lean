set_option maxHeartbeats 4000000 in
set_option maxRecDepth 100000 in
theorem c_X9_change {l : Launch} {D : va_G} {cs : Nat → ClassId} {B0 T : Nat} {κ : KM} {H0 : Heap} (hT : WT B0 D cs T κ H0) {w : Nat} (hw : T2 κ w 10 12) {n : Nat} (qn : n < 8) : KC l yX9_change wsX9_change 4 84 0 0 D cs B0 H0 [.ref w, .int (nI n)] (Qv (fun H => WT B0 D cs T κ H ∧ Fr B0 [18] κ H0 H)) := by
  refine KC.of cX9_change 3 none (by decide) rfl (Nat.le_of_ble_eq_true rfl) ?_
  intro p e s m below meth c ls hx hb hr hml hown hts hlocks hin hN hE hH0 hl
  have hown : s.vm.findClass RX9 = some m.cls := hown
  have hl : lv_has ls 3 [(0, .ref w), (1, .int (nI n))] := hl
  have hL : OkL B0 [] := OkL.nil
  have hF : Fr B0 [18] κ H0 H0 := Fr.rf
  refine lv_aload_n hx hb dX9_change_0 rfl (lv_at hl 0 rfl) ?_
  refine lv_iload_n hx hb dX9_change_1 rfl (lv_at hl 1 rfl) ?_
  refine cv_i (As := [.int (nI n)]) (rest := []) (b := w) ⟨hx, hb, hml, hown, hts⟩ (c_X9_estimate hT (w := w) hw (n := n) (by first | omega | decide | assumption)) (cwV 1 hts gX9_change_X9_estimate rfl rfl rfl hdX9_estimate_v ⟨Nat.le_of_ble_eq_true rfl, Nat.le_of_ble_eq_true rfl⟩) hN hE hL (rcv10 hN hT hw.1) rfl rfl hl.1 (Nat.le_of_ble_eq_true rfl) dX9_change_2 (Nat.zero_le _) (Nat.zero_le _) (fun r553 H1 locs hL hqr553 => ?_)
  obtain rfl := hqr553.symm
  refine lv_aload_n hx hb dX9_change_5 rfl (lv_at hl 0 rfl) ?_
  refine lv_iload_n hx hb dX9_change_6 rfl (lv_at hl 1 rfl) ?_
  refine lv_bipush (v := 8) hx hb dX9_change_7 (by decide) ?_
  refine cv_i (As := [.int (nI n), .int 8]) (rest := [.int r553]) (b := w) ⟨hx, hb, hml, hown, hts⟩ (c_X9_of hT (w := w) hw (n := n) (k := 8) (by first | omega | decide | assumption) (by first | omega | decide | assumption)) (cwV 2 hts gX9_change_X9_of rfl rfl rfl hdX9_of_v ⟨Nat.le_of_ble_eq_true rfl, Nat.le_of_ble_eq_true rfl⟩) hN hE hL (rcv10 hN hT hw.1) rfl rfl hl.1 (Nat.le_of_ble_eq_true rfl) dX9_change_9 (Nat.zero_le _) (Nat.zero_le _) (fun r554 H1 locs hL hqr554 => ?_)
  obtain rfl := hqr554.symm
  refine lv_icmp_le (tgt := 19) hx hb dX9_change_12 (by decide) (fun c555 => ?_) (fun c555 => ?_)
  · refine lv_iconst (v := 0) hx hb dX9_change_19 (by decide) ?_
    refine lv_istore_n (lv' := [(2, .int 0), (0, .ref w), (1, .int (nI n))]) hx hb dX9_change_20 rfl hl (by decide) rfl (fun ls hl => ?_)
    refine lv_aload_n hx hb dX9_change_21 rfl (lv_at hl 1 rfl) ?_
    refine lv_iload_n hx hb dX9_change_22 rfl (lv_at hl 2 rfl) ?_
    refine lv_bipush (v := 6) hx hb dX9_change_23 (by decide) ?_
    refine cv_i (As := [.int (nI n), .int 6]) (rest := []) (b := w) ⟨hx, hb, hml, hown, hts⟩ (c_X9_of hT (w := w) hw (n := n) (k := 6) (by first | omega | decide | assumption) (by first | omega | decide | assumption)) (cwV 2 hts gX9_change_X9_of rfl rfl rfl hdX9_of_v ⟨Nat.le_of_ble_eq_true rfl, Nat.le_of_ble_eq_true rfl⟩) hN hE hL (rcv10 hN hT hw.1) rfl rfl hl.1 (Nat.le_of_ble_eq_true rfl) dX9_change_25 (Nat.zero_le _) (Nat.zero_le _) (fun r556 H1 locs hL hqr556 => ?_)
    obtain rfl := hqr556.symm
    refine lv_aload_n hx hb dX9_change_28 rfl (lv_at hl 1 rfl) ?_
    obtain ⟨hb557, e557, hat557, hk557⟩ := hT.o10 hw.1
    obtain ⟨f557_0, f557_1, f557_3, f557_4, f557_5, f557_6, f557_7, f557_9, f557_10, f557_11, f557_12, f557_13, f557_14, f557_15, f557_16, f557_17, rfl, c557_2, c557_3, c557_4, c557_12, t557_1, t557_8, t557_9, c557_sd, t557_10, t557_11, t557_17⟩ := hk557
    have hP : va_P D vwCl [(w, .inr (9, [.int f557_0, .ref f557_1, .int (nI ((κ w).2.2.1)), .int (nI f557_3), .int (nI f557_4), .int f557_5, .int f557_6, .int f557_7, .ref (κ w).2.2.2, .ref f557_9, .ref f557_10, .ref f557_11, .int (nI f557_12), .int f557_13, .int f557_14, .int f557_15, .int f557_16, .ref f557_17]))] _ := va_P.cons hat557 va_P.nil
    refine va_get (D := D) (ci := 9) (v := .ref (κ w).2.2.2) (C := RX9) (T := TX9) (N := 18) hx hb hts iX9_change_9 hown hN.1 hP 0 rfl rfl 8 (by decide) (hts _ mX9_change_1) (fun _ h9 => h9) rfl dX9_change_29 ?_
    refine lv_bipush (v := 6) hx hb dX9_change_32 (by decide) ?_
    obtain ⟨hb558, e558, hat558, hk558⟩ := hT.o24 t557_8.1
    obtain ⟨g558, rfl, q558⟩ := hk558
    have hP : va_P D vwCl [((κ w).2.2.2, .inl (cs 0, 45783, .inl g558)), (w, .inr (9, [.int f557_0, .ref f557_1, .int (nI ((κ w).2.2.1)), .int (nI f557_3), .int (nI f557_4), .int f557_5, .int f557_6, .int f557_7, .ref (κ w).2.2.2, .ref f557_9, .ref f557_10, .ref f557_11, .int (nI f557_12), .int f557_13, .int f557_14, .int f557_15, .int f557_16, .ref f557_17]))] _ := va_P.cons hat558 hP
    refine ld_i (v := (g558 6)) hx hb hN hP 0 rfl (vp_in_nI (n := 6) (N := 45783) (by omega) (by omega)) (by rw [(show (6 : Int32).toNatClampNeg = 6 from nI_clamp (n := 6) (by omega))]) dX9_change_34 ?_
    refine gn_i (fun x559 => ?_)
    refine lv_iconst (v := 1) hx hb dX9_change_35 (by decide) ?_
    refine lv_isub hx hb dX9_change_36 ?_
    refine gn_i (fun x560 => ?_)
    refine lv_icmp_ne (tgt := 87) hx hb dX9_change_37 (by decide) (fun c561 => ?_) (fun c561 => ?_)
    · refine lv_aload_n hx hb dX9_change_87 rfl (lv_at hl 1 rfl) ?_
      refine lv_iload_n hx hb dX9_change_88 rfl (lv_at hl 2 rfl) ?_
      refine lv_iconst (v := 4) hx hb dX9_change_89 (by decide) ?_
      refine lv_aload_n hx hb dX9_change_90 rfl (lv_at hl 1 rfl) ?_
      refine lv_iload_n hx hb dX9_change_91 rfl (lv_at hl 2 rfl) ?_
      refine lv_bipush (v := 7) hx hb dX9_change_92 (by decide) ?_
      refine cv_i (As := [.int (nI n), .int 7]) (rest := [.int 4, .int (nI n), .ref w]) (b := w) ⟨hx, hb, hml, hown, hts⟩ (c_X9_of hT (w := w) hw (n := n) (k := 7) (by first | omega | decide | assumption) (by first | omega | decide | assumption)) (cwV 2 hts gX9_change_X9_of rfl rfl rfl hdX9_of_v ⟨Nat.le_of_ble_eq_true rfl, Nat.le_of_ble_eq_true rfl⟩) hN hE hL (rcv10 hN hT hw.1) rfl rfl hl.1 (Nat.le_of_ble_eq_true rfl) dX9_change_94 (Nat.zero_le _) (Nat.zero_le _) (fun r562 H1 locs hL hqr562 => ?_)
      obtain rfl := hqr562.symm
      refine cv_v (As := [.int (nI n), .int 4, .int r562]) (rest := []) (b := w) ⟨hx, hb, hml, hown, hts⟩ (c_X9_set hT (w := w) hw (n := n) (k := 4) (x := r562) (by first | omega | decide | assumption) (by first | omega | decide | assumption)) (cwV 3 hts gX9_change_X9_set rfl rfl rfl hdX9_set_v ⟨Nat.le_of_ble_eq_true rfl, Nat.le_of_ble_eq_true rfl⟩) hN hE hL (rcv10 hN hT hw.1) rfl rfl hl.1 (Nat.le_of_ble_eq_true rfl) dX9_change_97 (Nat.zero_le _) (Nat.zero_le _) (fun H1 locs hL hqr563 => ?_)
      obtain ⟨hT1, hF1⟩ := hqr563
      have hP : va_P D vwCl [(w, .inr (9, [.int f557_0, .ref f557_1, .int (nI ((κ w).2.2.1)), .int (nI f557_3), .int (nI f557_4), .int f557_5, .int f557_6, .int f557_7, .ref (κ w).2.2.2, .ref f557_9, .ref f557_10, .ref f557_11, .int (nI f557_12), .int f557_13, .int f557_14, .int f557_15, .int f557_16, .ref f557_17]))] _ := hF1.hP (hP.sub [1] rfl) (fa_c ⟨by rw [hw.1]; decide, by rw [hw.2]; first | decide | (simp; done) | (simp; omega)⟩ fa_n)
      have hF := hF.tr (hF1.mono (by simp))
      have hT := hT1
      refine lv_aload_n hx hb dX9_change_100 rfl (lv_at hl 1 rfl) ?_
      refine lv_iload_n hx hb dX9_change_101 rfl (lv_at hl 2 rfl) ?_
      refine lv_bipush (v := 9) hx hb dX9_change_102 (by decide) ?_
      refine lv_aload_n hx hb dX9_change_104 rfl (lv_at hl 1 rfl) ?_
      refine lv_iload_n hx hb dX9_change_105 rfl (lv_at hl 2 rfl) ?_
      refine lv_bipush (v := 9) hx hb dX9_change_106 (by decide) ?_
      refine cv_i (As := [.int (nI n), .int 9]) (rest := [.int 9, .int (nI n), .ref w]) (b := w) ⟨hx, hb, hml, hown, hts⟩ (c_X9_of hT (w := w) hw (n := n) (k := 9) (by first | omega | decide | assumption) (by first | omega | decide | assumption)) (cwV 2 hts gX9_change_X9_of rfl rfl rfl hdX9_of_v ⟨Nat.le_of_ble_eq_true rfl, Nat.le_of_ble_eq_true rfl⟩) hN hE hL (rcv10 hN hT hw.1) rfl rfl hl.1 (Nat.le_of_ble_eq_true rfl) dX9_change_108 (Nat.zero_le _) (Nat.zero_le _) (fun r564 H1 locs hL hqr564 => ?_)
      obtain rfl := hqr564.symm
      refine lv_iconst (v := 1) hx hb dX9_change_111 (by decide) ?_
      refine lv_iadd hx hb dX9_change_112 ?_
      refine gn_i (fun x565 => ?_)
      refine cv_v (As := [.int (nI n), .int 9, .int x565]) (rest := []) (b := w) ⟨hx, hb, hml, hown, hts⟩ (c_X9_set hT (w := w) hw (n := n) (k := 9) (x := x565) (by first | omega | decide | assumption) (by first | omega | decide | assumption)) (cwV 3 hts gX9_change_X9_set rfl rfl rfl hdX9_set_v ⟨Nat.le_of_ble_eq_true rfl, Nat.le_of_ble_eq_true rfl⟩) hN hE hL (rcv10 hN hT hw.1) rfl rfl hl.1 (Nat.le_of_ble_eq_true rfl) dX9_change_113 (Nat.zero_le _) (Nat.zero_le _) (fun H1 locs hL hqr566 => ?_)
      obtain ⟨hT1, hF1⟩ := hqr566
      have hP : va_P D vwCl [(w, .inr (9, [.int f557_0, .ref f557_1, .int (nI ((κ w).2.2.1)), .int (nI f557_3), .int (nI f557_4), .int f557_5, .int f557_6, .int f557_7, .ref (κ w).2.2.2, .ref f557_9, .ref f557_10, .ref f557_11, .int (nI f557_12), .int f557_13, .int f557_14, .int f557_15, .int f557_16, .ref f557_17]))] _ := hF1.hP (hP.sub [0] rfl) (fa_c ⟨by rw [hw.1]; decide, by rw [hw.2]; first | decide | (simp; done) | (simp; omega)⟩ fa_n)
      have hF := hF.tr (hF1.mono (by simp))
      have hT := hT1
      refine lv_aload_n hx hb dX9_change_116 rfl (lv_at hl 1 rfl) ?_
      refine lv_iload_n hx hb dX9_change_117 rfl (lv_at hl 2 rfl) ?_
      refine lv_bipush (v := 10) hx hb dX9_change_118 (by decide) ?_
      refine lv_aload_n hx hb dX9_change_120 rfl (lv_at hl 1 rfl) ?_
      refine lv_iload_n hx hb dX9_change_121 rfl (lv_at hl 2 rfl) ?_
      refine lv_bipush (v := 10) hx hb dX9_change_122 (by decide) ?_
      refine cv_i (As := [.int (nI n), .int 10]) (rest := [.int 10, .int (nI n), .ref w]) (b := w) ⟨hx, hb, hml, hown, hts⟩ (c_X9_of hT (w := w) hw (n := n) (k := 10) (by first | omega | decide | assumption) (by first | omega | decide | assumption)) (cwV 2 hts gX9_change_X9_of rfl rfl rfl hdX9_of_v ⟨Nat.le_of_ble_eq_true rfl, Nat.le_of_ble_eq_true rfl⟩) hN hE hL (rcv10 hN hT hw.1) rfl rfl hl.1 (Nat.le_of_ble_eq_true rfl) dX9_change_124 (Nat.zero_le _) (Nat.zero_le _) (fun r567 H1 locs hL hqr567 => ?_)
      obtain rfl := hqr567.symm
      refine lv_iload_n hx hb dX9_change_127 rfl (lv_at hl 0 rfl) ?_
      refine lv_iadd hx hb dX9_change_128 ?_
      refine gn_i (fun x568 => ?_)
      refine cv_v (As := [.int (nI n), .int 10, .int x568]) (rest := []) (b := w) ⟨hx, hb, hml, hown, hts⟩ (c_X9_set hT (w := w) hw (n := n) (k := 10) (x := x568) (by first | omega | decide | assumption) (by first | omega | decide | assumption)) (cwV 3 hts gX9_change_X9_set rfl rfl rfl hdX9_set_v ⟨Nat.le_of_ble_eq_true rfl, Nat.le_of_ble_eq_true rfl⟩) hN hE hL (rcv10 hN hT hw.1) rfl rfl hl.1 (Nat.le_of_ble_eq_true rfl) dX9_change_129 (Nat.zero_le _) (Nat.zero_le _) (fun H1 locs hL hqr569 => ?_)
      obtain ⟨hT1, hF1⟩ := hqr569
      have hP : va_P D vwCl [(w, .inr (9, [.int f557_0, .ref f557_1, .int (nI ((κ w).2.2.1)), .int (nI f557_3), .int (nI f557_4), .int f557_5, .int f557_6, .int f557_7, .ref (κ w).2.2.2, .ref f557_9, .ref f557_10, .ref f557_11, .int (nI f557_12), .int f557_13, .int f557_14, .int f557_15, .int f557_16, .ref f557_17]))] _ := hF1.hP (hP.sub [0] rfl) (fa_c ⟨by rw [hw.1]; decide, by rw [hw.2]; first | decide | (simp; done) | (simp; omega)⟩ fa_n)
      have hF := hF.tr (hF1.mono (by simp))
      have hT := hT1
      refine lv_aload_n hx hb dX9_change_132 rfl (lv_at hl 1 rfl) ?_
      refine lv_iload_n hx hb dX9_change_133 rfl (lv_at hl 2 rfl) ?_
      refine lv_bipush (v := 11) hx hb dX9_change_134 (by decide) ?_
      refine lv_aload_n hx hb dX9_change_136 rfl (lv_at hl 1 rfl) ?_
      refine va_get (D := D) (ci := 9) (v := .ref (κ w).2.2.2) (C := RX9) (T := TX9) (N := 18) hx hb hts iX9_change_9 hown hN.1 hP 0 rfl rfl 8 (by decide) (hts _ mX9_change_1) (fun _ h9 => h9) rfl dX9_change_137 ?_
      refine lv_iconst (v := 1) hx hb dX9_change_140 (by decide) ?_
      obtain ⟨hb570, e570, hat570, hk570⟩ := hT.o24 t557_8.1
      obtain ⟨g570, rfl, q570⟩ := hk570
      have hP : va_P D vwCl [((κ w).2.2.2, .inl (cs 0, 45783, .inl g570)), (w, .inr (9, [.int f557_0, .ref f557_1, .int (nI ((κ w).2.2.1)), .int (nI f557_3), .int (nI f557_4), .int f557_5, .int f557_6, .int f557_7, .ref (κ w).2.2.2, .ref f557_9, .ref f557_10, .ref f557_11, .int (nI f557_12), .int f557_13, .int f557_14, .int f557_15, .int f557_16, .ref f557_17]))] _ := va_P.cons hat570 hP
      refine ld_i (v := (g570 1)) hx hb hN hP 0 rfl (vp_in_nI (n := 1) (N := 45783) (by omega) (by omega)) (by rw [(show (1 : Int32).toNatClampNeg = 1 from nI_clamp (n := 1) (by omega))]) dX9_change_141 ?_
      refine gn_i (fun x571 => ?_)
      refine cv_v (As := [.int (nI n), .int 11, .int x571]) (rest := []) (b := w) ⟨hx, hb, hml, hown, hts⟩ (c_X9_set hT (w := w) hw (n := n) (k := 11) (x := x571) (by first | omega | decide | assumption) (by first | omega | decide | assumption)) (cwV 3 hts gX9_change_X9_set rfl rfl rfl hdX9_set_v ⟨Nat.le_of_ble_eq_true rfl, Nat.le_of_ble_eq_true rfl⟩) hN hE hL (rcv10 hN hT hw.1) rfl rfl hl.1 (Nat.le_of_ble_eq_true rfl) dX9_change_142 (Nat.zero_le _) (Nat.zero_le _) (fun H1 locs hL hqr572 => ?_)
      obtain ⟨hT1, hF1⟩ := hqr572
      have hP : va_P D vwCl [(w, .inr (9, [.int f557_0, .ref f557_1, .int (nI ((κ w).2.2.1)), .int (nI f557_3), .int (nI f557_4), .int f557_5, .int f557_6, .int f557_7, .ref (κ w).2.2.2, .ref f557_9, .ref f557_10, .ref f557_11, .int (nI f557_12), .int f557_13, .int f557_14, .int f557_15, .int f557_16, .ref f557_17]))] _ := hF1.hP (hP.sub [1] rfl) (fa_c ⟨by rw [hw.1]; decide, by rw [hw.2]; first | decide | (simp; done) | (simp; omega)⟩ fa_n)
      have hF := hF.tr (hF1.mono (by simp))
      have hT := hT1
      refine lv_aload_n hx hb dX9_change_145 rfl (lv_at hl 1 rfl) ?_
      refine lv_iload_n hx hb dX9_change_146 rfl (lv_at hl 2 rfl) ?_
      refine cv_v (As := [.int (nI n)]) (rest := []) (b := w) ⟨hx, hb, hml, hown, hts⟩ (c_X9_dropPlan hT (w := w) hw (n := n) (by first | omega | decide | assumption)) (cwV 1 hts gX9_change_X9_dropPlan rfl rfl rfl hdX9_dropPlan_v ⟨Nat.le_of_ble_eq_true rfl, Nat.le_of_ble_eq_true rfl⟩) hN hE hL (rcv10 hN hT hw.1) rfl rfl hl.1 (Nat.le_of_ble_eq_true rfl) dX9_change_147 (Nat.zero_le _) (Nat.zero_le _) (fun H1 locs hL hqr573 => ?_)
      obtain ⟨hT1, hF1⟩ := hqr573
      have hP : va_P D vwCl [(w, .inr (9, [.int f557_0, .ref f557_1, .int (nI ((κ w).2.2.1)), .int (nI f557_3), .int (nI f557_4), .int f557_5, .int f557_6, .int f557_7, .ref (κ w).2.2.2, .ref f557_9, .ref f557_10, .ref f557_11, .int (nI f557_12), .int f557_13, .int f557_14, .int f557_15, .int f557_16, .ref f557_17]))] _ := hF1.hP (hP.sub [0] rfl) (fa_c ⟨by rw [hw.1]; decide, by rw [hw.2]; first | decide | (simp; done) | (simp; omega)⟩ fa_n)
      have hF := hF.tr (hF1.mono (by simp))
      have hT := hT1
      refine lv_aload_n hx hb dX9_change_150 rfl (lv_at hl 1 rfl) ?_
      refine va_get (D := D) (ci := 9) (v := .ref (κ w).2.2.2) (C := RX9) (T := TX9) (N := 18) hx hb hts iX9_change_9 hown hN.1 hP 0 rfl rfl 8 (by decide) (hts _ mX9_change_1) (fun _ h9 => h9) rfl dX9_change_151 ?_
      refine lv_bipush (v := 9) hx hb dX9_change_154 (by decide) ?_
      refine lv_dup2_11 hx hb dX9_change_156 rfl rfl ?_
      obtain ⟨hb574, e574, hat574, hk574⟩ := hT.o24 t557_8.1
      obtain ⟨g574, rfl, q574⟩ := hk574
      have hP : va_P D vwCl [((κ w).2.2.2, .inl (cs 0, 45783, .inl g574)), (w, .inr (9, [.int f557_0, .ref f557_1, .int (nI ((κ w).2.2.1)), .int (nI f557_3), .int (nI f557_4), .int f557_5, .int f557_6, .int f557_7, .ref (κ w).2.2.2, .ref f557_9, .ref f557_10, .ref f557_11, .int (nI f557_12), .int f557_13, .int f557_14, .int f557_15, .int f557_16, .ref f557_17]))] _ := va_P.cons hat574 hP
      refine ld_i (v := (g574 9)) hx hb hN hP 0 rfl (vp_in_nI (n := 9) (N := 45783) (by omega) (by omega)) (by rw [(show (9 : Int32).toNatClampNeg = 9 from nI_clamp (n := 9) (by omega))]) dX9_change_157 ?_
      refine gn_i (fun x575 => ?_)
      refine lv_iconst (v := 1) hx hb dX9_change_158 (by decide) ?_
      refine lv_iadd hx hb dX9_change_159 ?_
      refine gn_i (fun x576 => ?_)
      have hB : Bx B0 D _ [((κ w).2.2.2, .inl (cs 0, 45783, .inl g574)), (w, .inr (9, [.int f557_0, .ref f557_1, .int (nI ((κ w).2.2.1)), .int (nI f557_3), .int (nI f557_4), .int f557_5, .int f557_6, .int f557_7, .ref (κ w).2.2.2, .ref f557_9, .ref f557_10, .ref f557_11, .int (nI f557_12), .int f557_13, .int f557_14, .int f557_15, .int f557_16, .ref f557_17]))] [] _ _ := Bx.of (fun a => (κ a).1) hL hP (fa_c hb574 (fa_c hb557 fa_n)) (by simp only [List.map_cons, List.map_nil, t557_8.1, hw.1]; decide)
      refine b_i hx hb hN hB 0 rfl (vp_in_nI (n := 9) (N := 45783) (by omega) (by omega)) (.inl rfl) dX9_change_160 (fun H locs hB => ?_)
      rw [(show (9 : Int32).toNatClampNeg = 9 from nI_clamp (n := 9) (by omega))] at hB
      have hB : Bx B0 D _ [((κ w).2.2.2, .inl (cs 0, 45783, .inl (upd g574 9 x576))), (w, .inr (9, [.int f557_0, .ref f557_1, .int (nI ((κ w).2.2.1)), .int (nI f557_3), .int (nI f557_4), .int f557_5, .int f557_6, .int f557_7, .ref (κ w).2.2.2, .ref f557_9, .ref f557_10, .ref f557_11, .int (nI f557_12), .int f557_13, .int f557_14, .int f557_15, .int f557_16, .ref f557_17]))] [(κ w).2.2.2] _ _ := hB
      have z577 := DOK.sf q574 (k := 9) (by omega) (x := x576)
      refine lv_aload_n hx hb dX9_change_161 rfl (lv_at hl 1 rfl) ?_
      refine va_get (D := D) (ci := 9) (v := .ref (κ w).2.2.2) (C := RX9) (T := TX9) (N := 18) hx hb hts iX9_change_9 hown hN.1 hB.1 1 rfl rfl 8 (by decide) (hts _ mX9_change_1) (fun _ h9 => h9) rfl dX9_change_162 ?_
      refine lv_bipush (v := 10) hx hb dX9_change_165 (by decide) ?_
      refine lv_dup2_11 hx hb dX9_change_167 rfl rfl ?_
      refine ld_i (v := ((upd g574 9 x576) 10)) hx hb hN hB.1 0 rfl (vp_in_nI (n := 10) (N := 45783) (by omega) (by omega)) (by rw [(show (10 : Int32).toNatClampNeg = 10 from nI_clamp (n := 10) (by omega))]) dX9_change_168 ?_
      refine gn_i (fun x578 => ?_)
      refine lv_iload_n hx hb dX9_change_169 rfl (lv_at hl 0 rfl) ?_
      refine lv_iadd hx hb dX9_change_170 ?_
      refine gn_i (fun x579 => ?_)
      refine b_i hx hb hN hB 0 rfl (vp_in_nI (n := 10) (N := 45783) (by omega) (by omega)) (.inr ⟨rfl, List.mem_of_getElem? (i := 0) rfl⟩) dX9_change_171 (fun H locs hB => ?_)
      rw [(show (10 : Int32).toNatClampNeg = 10 from nI_clamp (n := 10) (by omega))] at hB
      have hB : Bx B0 D _ [((κ w).2.2.2, .inl (cs 0, 45783, .inl (upd (upd g574 9 x576) 10 x579))), (w, .inr (9, [.int f557_0, .ref f557_1, .int (nI ((κ w).2.2.1)), .int (nI f557_3), .int (nI f557_4), .int f557_5, .int f557_6, .int f557_7, .ref (κ w).2.2.2, .ref f557_9, .ref f557_10, .ref f557_11, .int (nI f557_12), .int f557_13, .int f557_14, .int f557_15, .int f557_16, .ref f557_17]))] [(κ w).2.2.2] _ _ := hB
      have z580 := DOK.sf z577 (k := 10) (by omega) (x := x579)
      have hT : WT B0 D cs T κ _ := hT.close hB ⟨⟨0, _, rfl, ok_24 t557_8.1 ⟨_, rfl, z580⟩⟩, trivial⟩
      have hF : Fr B0 [18] κ H0 _ := hF.close hB (fa_c (by simp [t557_8.2]) fa_n)
      have hL : OkL B0 _ := hB.2.2.2.2.2
      have hP : va_P D vwCl [((κ w).2.2.2, .inl (cs 0, 45783, .inl (upd (upd g574 9 x576) 10 x579))), (w, .inr (9, [.int f557_0, .ref f557_1, .int (nI ((κ w).2.2.1)), .int (nI f557_3), .int (nI f557_4), .int f557_5, .int f557_6, .int f557_7, .ref (κ w).2.2.2, .ref f557_9, .ref f557_10, .ref f557_11, .int (nI f557_12), .int f557_13, .int f557_14, .int f557_15, .int f557_16, .ref f557_17]))] _ := hB.1
      exact en_v hx hb hr hlocks hL (Nat.zero_le _) (Nat.zero_le _) dX9_change_172 (⟨hT, hF⟩)
    · refine lv_aload_n hx hb dX9_change_40 rfl (lv_at hl 1 rfl) ?_
      refine va_get (D := D) (ci := 9) (v := .ref (κ w).2.2.2) (C := RX9) (T := TX9) (N := 18) hx hb hts iX9_change_9 hown hN.1 hP 1 rfl rfl 8 (by decide) (hts _ mX9_change_1) (fun _ h9 => h9) rfl dX9_change_41 ?_
      refine lv_bipush (v := 21) hx hb dX9_change_44 (by decide) ?_
      refine lv_aload_n hx hb dX9_change_46 rfl (lv_at hl 1 rfl) ?_
      refine va_get (D := D) (ci := 9) (v := .ref (κ w).2.2.2) (C := RX9) (T := TX9) (N := 18) hx hb hts iX9_change_9 hown hN.1 hP 1 rfl rfl 8 (by decide) (hts _ mX9_change_1) (fun _ h9 => h9) rfl dX9_change_47 ?_
      refine lv_bipush (v := 21) hx hb dX9_change_50 (by decide) ?_
      refine ld_i (v := (g558 21)) hx hb hN hP 0 rfl (vp_in_nI (n := 21) (N := 45783) (by omega) (by omega)) (by rw [(show (21 : Int32).toNatClampNeg = 21 from nI_clamp (n := 21) (by omega))]) dX9_change_52 ?_
      refine gn_i (fun x581 => ?_)
      refine lv_iconst (v := (-1)) hx hb dX9_change_53 (by decide) ?_
      refine lv_icmp_ne (tgt := 66) hx hb dX9_change_54 (by decide) (fun c582 => ?_) (fun c582 => ?_)
      · refine lv_aload_n hx hb dX9_change_66 rfl (lv_at hl 1 rfl) ?_
        refine va_get (D := D) (ci := 9) (v := .ref (κ w).2.2.2) (C := RX9) (T := TX9) (N := 18) hx hb hts iX9_change_9 hown hN.1 hP 1 rfl rfl 8 (by decide) (hts _ mX9_change_1) (fun _ h9 => h9) rfl dX9_change_67 ?_
        refine lv_bipush (v := 21) hx hb dX9_change_70 (by decide) ?_
        refine ld_i (v := (g558 21)) hx hb hN hP 0 rfl (vp_in_nI (n := 21) (N := 45783) (by omega) (by omega)) (by rw [(show (21 : Int32).toNatClampNeg = 21 from nI_clamp (n := 21) (by omega))]) dX9_change_72 ?_
        refine gn_i (fun x583 => ?_)
        have hB : Bx B0 D _ [((κ w).2.2.2, .inl (cs 0, 45783, .inl g558)), (w, .inr (9, [.int f557_0, .ref f557_1, .int (nI ((κ w).2.2.1)), .int (nI f557_3), .int (nI f557_4), .int f557_5, .int f557_6, .int f557_7, .ref (κ w).2.2.2, .ref f557_9, .ref f557_10, .ref f557_11, .int (nI f557_12), .int f557_13, .int f557_14, .int f557_15, .int f557_16, .ref f557_17]))] [] _ _ := Bx.of (fun a => (κ a).1) hL hP (fa_c hb558 (fa_c hb557 fa_n)) (by simp only [List.map_cons, List.map_nil, t557_8.1, hw.1]; decide)
        refine b_i hx hb hN hB 0 rfl (vp_in_nI (n := 21) (N := 45783) (by omega) (by omega)) (.inl rfl) dX9_change_73 (fun H locs hB => ?_)
        rw [(show (21 : Int32).toNatClampNeg = 21 from nI_clamp (n := 21) (by omega))] at hB
        have hB : Bx B0 D _ [((κ w).2.2.2, .inl (cs 0, 45783, .inl (upd g558 21 x583))), (w, .inr (9, [.int f557_0, .ref f557_1, .int (nI ((κ w).2.2.1)), .int (nI f557_3), .int (nI f557_4), .int f557_5, .int f557_6, .int f557_7, .ref (κ w).2.2.2, .ref f557_9, .ref f557_10, .ref f557_11, .int (nI f557_12), .int f557_13, .int f557_14, .int f557_15, .int f557_16, .ref f557_17]))] [(κ w).2.2.2] _ _ := hB
        have z584 := DOK.sf q558 (k := 21) (by omega) (x := x583)
        refine lv_aload_n hx hb dX9_change_74 rfl (lv_at hl 1 rfl) ?_
        refine va_get (D := D) (ci := 9) (v := .ref (κ w).2.2.2) (C := RX9) (T := TX9) (N := 18) hx hb hts iX9_change_9 hown hN.1 hB.1 1 rfl rfl 8 (by decide) (hts _ mX9_change_1) (fun _ h9 => h9) rfl dX9_change_75 ?_
        refine lv_bipush (v := 22) hx hb dX9_change_78 (by decide) ?_
        refine lv_aload_n hx hb dX9_change_80 rfl (lv_at hl 1 rfl) ?_
        refine va_get (D := D) (ci := 9) (v := .ref (κ w).2.2.2) (C := RX9) (T := TX9) (N := 18) hx hb hts iX9_change_9 hown hN.1 hB.1 1 rfl rfl 8 (by decide) (hts _ mX9_change_1) (fun _ h9 => h9) rfl dX9_change_81 ?_
        refine lv_iconst (v := 1) hx hb dX9_change_84 (by decide) ?_
        refine ld_i (v := ((upd g558 21 x583) 1)) hx hb hN hB.1 0 rfl (vp_in_nI (n := 1) (N := 45783) (by omega) (by omega)) (by rw [(show (1 : Int32).toNatClampNeg = 1 from nI_clamp (n := 1) (by omega))]) dX9_change_85 ?_
        refine gn_i (fun x585 => ?_)
        refine b_i hx hb hN hB 0 rfl (vp_in_nI (n := 22) (N := 45783) (by omega) (by omega)) (.inr ⟨rfl, List.mem_of_getElem? (i := 0) rfl⟩) dX9_change_86 (fun H locs hB => ?_)
        rw [(show (22 : Int32).toNatClampNeg = 22 from nI_clamp (n := 22) (by omega))] at hB
        have hB : Bx B0 D _ [((κ w).2.2.2, .inl (cs 0, 45783, .inl (upd (upd g558 21 x583) 22 x585))), (w, .inr (9, [.int f557_0, .ref f557_1, .int (nI ((κ w).2.2.1)), .int (nI f557_3), .int (nI f557_4), .int f557_5, .int f557_6, .int f557_7, .ref (κ w).2.2.2, .ref f557_9, .ref f557_10, .ref f557_11, .int (nI f557_12), .int f557_13, .int f557_14, .int f557_15, .int f557_16, .ref f557_17]))] [(κ w).2.2.2] _ _ := hB
        have z586 := DOK.sf z584 (k := 22) (by omega) (x := x585)
        refine lv_aload_n hx hb dX9_change_87 rfl (lv_at hl 1 rfl) ?_
        refine lv_iload_n hx hb dX9_change_88 rfl (lv_at hl 2 rfl) ?_
        refine lv_iconst (v := 4) hx hb dX9_change_89 (by decide) ?_
        refine lv_aload_n hx hb dX9_change_90 rfl (lv_at hl 1 rfl) ?_
        refine lv_iload_n hx hb dX9_change_91 rfl (lv_at hl 2 rfl) ?_
        refine lv_bipush (v := 7) hx hb dX9_change_92 (by decide) ?_
        have hT : WT B0 D cs T κ _ := hT.close hB ⟨⟨0, _, rfl, ok_24 t557_8.1 ⟨_, rfl, z586⟩⟩, trivial⟩
        have hF : Fr B0 [18] κ H0 _ := hF.close hB (fa_c (by simp [t557_8.2]) fa_n)
        have hL : OkL B0 _ := hB.2.2.2.2.2
        have hP : va_P D vwCl [((κ w).2.2.2, .inl (cs 0, 45783, .inl (upd (upd g558 21 x583) 22 x585))), (w, .inr (9, [.int f557_0, .ref f557_1, .int (nI ((κ w).2.2.1)), .int (nI f557_3), .int (nI f557_4), .int f557_5, .int f557_6, .int f557_7, .ref (κ w).2.2.2, .ref f557_9, .ref f557_10, .ref f557_11, .int (nI f557_12), .int f557_13, .int f557_14, .int f557_15, .int f557_16, .ref f557_17]))] _ := hB.1
        refine cv_i (As := [.int (nI n), .int 7]) (rest := [.int 4, .int (nI n), .ref w]) (b := w) ⟨hx, hb, hml, hown, hts⟩ (c_X9_of hT (w := w) hw (n := n) (k := 7) (by first | omega | decide | assumption) (by first | omega | decide | assumption)) (cwV 2 hts gX9_change_X9_of rfl rfl rfl hdX9_of_v ⟨Nat.le_of_ble_eq_true rfl, Nat.le_of_ble_eq_true rfl⟩) hN hE hL (rcv10 hN hT hw.1) rfl rfl hl.1 (Nat.le_of_ble_eq_true rfl) dX9_change_94 (Nat.zero_le _) (Nat.zero_le _) (fun r587 H1 locs hL hqr587 => ?_)
        obtain rfl := hqr587.symm
        refine cv_v (As := [.int (nI n), .int 4, .int r587]) (rest := []) (b := w) ⟨hx, hb, hml, hown, hts⟩ (c_X9_set hT (w := w) hw (n := n) (k := 4) (x := r587) (by first | omega | decide | assumption) (by first | omega | decide | assumption)) (cwV 3 hts gX9_change_X9_set rfl rfl rfl hdX9_set_v ⟨Nat.le_of_ble_eq_true rfl, Nat.le_of_ble_eq_true rfl⟩) hN hE hL (rcv10 hN hT hw.1) rfl rfl hl.1 (Nat.le_of_ble_eq_true rfl) dX9_change_97 (Nat.zero_le _) (Nat.zero_le _) (fun H1 locs hL hqr588 => ?_)
        obtain ⟨hT1, hF1⟩ := hqr588
        have hP : va_P D vwCl [(w, .inr (9, [.int f557_0, .ref f557_1, .int (nI ((κ w).2.2.1)), .int (nI f557_3), .int (nI f557_4), .int f557_5, .int f557_6, .int f557_7, .ref (κ w).2.2.2, .ref f557_9, .ref f557_10, .ref f557_11, .int (nI f557_12), .int f557_13, .int f557_14, .int f557_15, .int f557_16, .ref f557_17]))] _ := hF1.hP (hP.sub [1] rfl) (fa_c ⟨by rw [hw.1]; decide, by rw [hw.2]; first | decide | (simp; done) | (simp; omega)⟩ fa_n)
        have hF := hF.tr (hF1.mono (by simp))
        have hT := hT1
        refine lv_aload_n hx hb dX9_change_100 rfl (lv_at hl 1 rfl) ?_
        refine lv_iload_n hx hb dX9_change_101 rfl (lv_at hl 2 rfl) ?_
        refine lv_bipush (v := 9) hx hb dX9_change_102 (by decide) ?_
        refine lv_aload_n hx hb dX9_change_104 rfl (lv_at hl 1 rfl) ?_
        refine lv_iload_n hx hb dX9_change_105 rfl (lv_at hl 2 rfl) ?_
        refine lv_bipush (v := 9) hx hb dX9_change_106 (by decide) ?_
        refine cv_i (As := [.int (nI n), .int 9]) (rest := [.int 9, .int (nI n), .ref w]) (b := w) ⟨hx, hb, hml, hown, hts⟩ (c_X9_of hT (w := w) hw (n := n) (k := 9) (by first | omega | decide | assumption) (by first | omega | decide | assumption)) (cwV 2 hts gX9_change_X9_of rfl rfl rfl hdX9_of_v ⟨Nat.le_of_ble_eq_true rfl, Nat.le_of_ble_eq_true rfl⟩) hN hE hL (rcv10 hN hT hw.1) rfl rfl hl.1 (Nat.le_of_ble_eq_true rfl) dX9_change_108 (Nat.zero_le _) (Nat.zero_le _) (fun r589 H1 locs hL hqr589 => ?_)
        obtain rfl := hqr589.symm
        refine lv_iconst (v := 1) hx hb dX9_change_111 (by decide) ?_
        refine lv_iadd hx hb dX9_change_112 ?_
        refine gn_i (fun x590 => ?_)
        refine cv_v (As := [.int (nI n), .int 9, .int x590]) (rest := []) (b := w) ⟨hx, hb, hml, hown, hts⟩ (c_X9_set hT (w := w) hw (n := n) (k := 9) (x := x590) (by first | omega | decide | assumption) (by first | omega | decide | assumption)) (cwV 3 hts gX9_change_X9_set rfl rfl rfl hdX9_set_v ⟨Nat.le_of_ble_eq_true rfl, Nat.le_of_ble_eq_true rfl⟩) hN hE hL (rcv10 hN hT hw.1) rfl rfl hl.1 (Nat.le_of_ble_eq_true rfl) dX9_change_113 (Nat.zero_le _) (Nat.zero_le _) (fun H1 locs hL hqr591 => ?_)
        obtain ⟨hT1, hF1⟩ := hqr591
        have hP : va_P D vwCl [(w, .inr (9, [.int f557_0, .ref f557_1, .int (nI ((κ w).2.2.1)), .int (nI f557_3), .int (nI f557_4), .int f557_5, .int f557_6, .int f557_7, .ref (κ w).2.2.2, .ref f557_9, .ref f557_10, .ref f557_11, .int (nI f557_12), .int f557_13, .int f557_14, .int f557_15, .int f557_16, .ref f557_17]))] _ := hF1.hP (hP.sub [0] rfl) (fa_c ⟨by rw [hw.1]; decide, by rw [hw.2]; first | decide | (simp; done) | (simp; omega)⟩ fa_n)
        have hF := hF.tr (hF1.mono (by simp))
        have hT := hT1
        refine lv_aload_n hx hb dX9_change_116 rfl (lv_at hl 1 rfl) ?_
        refine lv_iload_n hx hb dX9_change_117 rfl (lv_at hl 2 rfl) ?_
        refine lv_bipush (v := 10) hx hb dX9_change_118 (by decide) ?_
        refine lv_aload_n hx hb dX9_change_120 rfl (lv_at hl 1 rfl) ?_
        refine lv_iload_n hx hb dX9_change_121 rfl (lv_at hl 2 rfl) ?_
        refine lv_bipush (v := 10) hx hb dX9_change_122 (by decide) ?_
        refine cv_i (As := [.int (nI n), .int 10]) (rest := [.int 10, .int (nI n), .ref w]) (b := w) ⟨hx, hb, hml, hown, hts⟩ (c_X9_of hT (w := w) hw (n := n) (k := 10) (by first | omega | decide | assumption) (by first | omega | decide | assumption)) (cwV 2 hts gX9_change_X9_of rfl rfl rfl hdX9_of_v ⟨Nat.le_of_ble_eq_true rfl, Nat.le_of_ble_eq_true rfl⟩) hN hE hL (rcv10 hN hT hw.1) rfl rfl hl.1 (Nat.le_of_ble_eq_true rfl) dX9_change_124 (Nat.zero_le _) (Nat.zero_le _) (fun r592 H1 locs hL hqr592 => ?_)
        obtain rfl := hqr592.symm
        refine lv_iload_n hx hb dX9_change_127 rfl (lv_at hl 0 rfl) ?_
        refine lv_iadd hx hb dX9_change_128 ?_
        refine gn_i (fun x593 => ?_)
        refine cv_v (As := [.int (nI n), .int 10, .int x593]) (rest := []) (b := w) ⟨hx, hb, hml, hown, hts⟩ (c_X9_set hT (w := w) hw (n := n) (k := 10) (x := x593) (by first | omega | decide | assumption) (by first | omega | decide | assumption)) (cwV 3 hts gX9_change_X9_set rfl rfl rfl hdX9_set_v ⟨Nat.le_of_ble_eq_true rfl, Nat.le_of_ble_eq_true rfl⟩) hN hE hL (rcv10 hN hT hw.1) rfl rfl hl.1 (Nat.le_of_ble_eq_true rfl) dX9_change_129 (Nat.zero_le _) (Nat.zero_le _) (fun H1 locs hL hqr594 => ?_)
        obtain ⟨hT1, hF1⟩ := hqr594
        have hP : va_P D vwCl [(w, .inr (9, [.int f557_0, .ref f557_1, .int (nI ((κ w).2.2.1)), .int (nI f557_3), .int (nI f557_4), .int f557_5, .int f557_6, .int f557_7, .ref (κ w).2.2.2, .ref f557_9, .ref f557_10, .ref f557_11, .int (nI f557_12), .int f557_13, .int f557_14, .int f557_15, .int f557_16, .ref f557_17]))] _ := hF1.hP (hP.sub [0] rfl) (fa_c ⟨by rw [hw.1]; decide, by rw [hw.2]; first | decide | (simp; done) | (simp; omega)⟩ fa_n)
        have hF := hF.tr (hF1.mono (by simp))
        have hT := hT1
        refine lv_aload_n hx hb dX9_change_132 rfl (lv_at hl 1 rfl) ?_
        refine lv_iload_n hx hb dX9_change_133 rfl (lv_at hl 2 rfl) ?_
        refine lv_bipush (v := 11) hx hb dX9_change_134 (by decide) ?_
        refine lv_aload_n hx hb dX9_change_136 rfl (lv_at hl 1 rfl) ?_
        refine va_get (D := D) (ci := 9) (v := .ref (κ w).2.2.2) (C := RX9) (T := TX9) (N := 18) hx hb hts iX9_change_9 hown hN.1 hP 0 rfl rfl 8 (by decide) (hts _ mX9_change_1) (fun _ h9 => h9) rfl dX9_change_137 ?_
        refine lv_iconst (v := 1) hx hb dX9_change_140 (by decide) ?_
        obtain ⟨hb595, e595, hat595, hk595⟩ := hT.o24 t557_8.1
        obtain ⟨g595, rfl, q595⟩ := hk595
        have hP : va_P D vwCl [((κ w).2.2.2, .inl (cs 0, 45783, .inl g595)), (w, .inr (9, [.int f557_0, .ref f557_1, .int (nI ((κ w).2.2.1)), .int (nI f557_3), .int (nI f557_4), .int f557_5, .int f557_6, .int f557_7, .ref (κ w).2.2.2, .ref f557_9, .ref f557_10, .ref f557_11, .int (nI f557_12), .int f557_13, .int f557_14, .int f557_15, .int f557_16, .ref f557_17]))] _ := va_P.cons hat595 hP
        refine ld_i (v := (g595 1)) hx hb hN hP 0 rfl (vp_in_nI (n := 1) (N := 45783) (by omega) (by omega)) (by rw [(show (1 : Int32).toNatClampNeg = 1 from nI_clamp (n := 1) (by omega))]) dX9_change_141 ?_
        refine gn_i (fun x596 => ?_)
        refine cv_v (As := [.int (nI n), .int 11, .int x596]) (rest := []) (b := w) ⟨hx, hb, hml, hown, hts⟩ (c_X9_set hT (w := w) hw (n := n) (k := 11) (x := x596) (by first | omega | decide | assumption) (by first | omega | decide | assumption)) (cwV 3 hts gX9_change_X9_set rfl rfl rfl hdX9_set_v ⟨Nat.le_of_ble_eq_true rfl, Nat.le_of_ble_eq_true rfl⟩) hN hE hL (rcv10 hN hT hw.1) rfl rfl hl.1 (Nat.le_of_ble_eq_true rfl) dX9_change_142 (Nat.zero_le _) (Nat.zero_le _) (fun H1 locs hL hqr597 => ?_)
        obtain ⟨hT1, hF1⟩ := hqr597
        have hP : va_P D vwCl [(w, .inr (9, [.int f557_0, .ref f557_1, .int (nI ((κ w).2.2.1)), .int (nI f557_3), .int (nI f557_4), .int f557_5, .int f557_6, .int f557_7, .ref (κ w).2.2.2, .ref f557_9, .ref f557_10, .ref f557_11, .int (nI f557_12), .int f557_13, .int f557_14, .int f557_15, .int f557_16, .ref f557_17]))] _ := hF1.hP (hP.sub [1] rfl) (fa_c ⟨by rw [hw.1]; decide, by rw [hw.2]; first | decide | (simp; done) | (simp; omega)⟩ fa_n)
        have hF := hF.tr (hF1.mono (by simp))
        have hT := hT1
        refine lv_aload_n hx hb dX9_change_145 rfl (lv_at hl 1 rfl) ?_
        refine lv_iload_n hx hb dX9_change_146 rfl (lv_at hl 2 rfl) ?_
        refine cv_v (As := [.int (nI n)]) (rest := []) (b := w) ⟨hx, hb, hml, hown, hts⟩ (c_X9_dropPlan hT (w := w) hw (n := n) (by first | omega | decide | assumption)) (cwV 1 hts gX9_change_X9_dropPlan rfl rfl rfl hdX9_dropPlan_v ⟨Nat.le_of_ble_eq_true rfl, Nat.le_of_ble_eq_true rfl⟩) hN hE hL (rcv10 hN hT hw.1) rfl rfl hl.1 (Nat.le_of_ble_eq_true rfl) dX9_change_147 (Nat.zero_le _) (Nat.zero_le _) (fun H1 locs hL hqr598 => ?_)
        obtain ⟨hT1, hF1⟩ := hqr598
        have hP : va_P D vwCl [(w, .inr (9, [.int f557_0, .ref f557_1, .int (nI ((κ w).2.2.1)), .int (nI f557_3), .int (nI f557_4), .int f557_5, .int f557_6, .int f557_7, .ref (κ w).2.2.2, .ref f557_9, .ref f557_10, .ref f557_11, .int (nI f557_12), .int f557_13, .int f557_14, .int f557_15, .int f557_16, .ref f557_17]))] _ := hF1.hP (hP.sub [0] rfl) (fa_c ⟨by rw [hw.1]; decide, by rw [hw.2]; first | decide | (simp; done) | (simp; omega)⟩ fa_n)
        have hF := hF.tr (hF1.mono (by simp))
        have hT := hT1
        refine lv_aload_n hx hb dX9_change_150 rfl (lv_at hl 1 rfl) ?_
        refine va_get (D := D) (ci := 9) (v := .ref (κ w).2.2.2) (C := RX9) (T := TX9) (N := 18) hx hb hts iX9_change_9 hown hN.1 hP 0 rfl rfl 8 (by decide) (hts _ mX9_change_1) (fun _ h9 => h9) rfl dX9_change_151 ?_
        refine lv_bipush (v := 9) hx hb dX9_change_154 (by decide) ?_
        refine lv_dup2_11 hx hb dX9_change_156 rfl rfl ?_
        obtain ⟨hb599, e599, hat599, hk599⟩ := hT.o24 t557_8.1
        obtain ⟨g599, rfl, q599⟩ := hk599
        have hP : va_P D vwCl [((κ w).2.2.2, .inl (cs 0, 45783, .inl g599)), (w, .inr (9, [.int f557_0, .ref f557_1, .int (nI ((κ w).2.2.1)), .int (nI f557_3), .int (nI f557_4), .int f557_5, .int f557_6, .int f557_7, .ref (κ w).2.2.2, .ref f557_9, .ref f557_10, .ref f557_11, .int (nI f557_12), .int f557_13, .int f557_14, .int f557_15, .int f557_16, .ref f557_17]))] _ := va_P.cons hat599 hP
        refine ld_i (v := (g599 9)) hx hb hN hP 0 rfl (vp_in_nI (n := 9) (N := 45783) (by omega) (by omega)) (by rw [(show (9 : Int32).toNatClampNeg = 9 from nI_clamp (n := 9) (by omega))]) dX9_change_157 ?_
        refine gn_i (fun x600 => ?_)
        refine lv_iconst (v := 1) hx hb dX9_change_158 (by decide) ?_
        refine lv_iadd hx hb dX9_change_159 ?_
        refine gn_i (fun x601 => ?_)
        have hB : Bx B0 D _ [((κ w).2.2.2, .inl (cs 0, 45783, .inl g599)), (w, .inr (9, [.int f557_0, .ref f557_1, .int (nI ((κ w).2.2.1)), .int (nI f557_3), .int (nI f557_4), .int f557_5, .int f557_6, .int f557_7, .ref (κ w).2.2.2, .ref f557_9, .ref f557_10, .ref f557_11, .int (nI f557_12), .int f557_13, .int f557_14, .int f557_15, .int f557_16, .ref f557_17]))] [] _ _ := Bx.of (fun a => (κ a).1) hL hP (fa_c hb599 (fa_c hb557 fa_n)) (by simp only [List.map_cons, List.map_nil, t557_8.1, hw.1]; decide)
        refine b_i hx hb hN hB 0 rfl (vp_in_nI (n := 9) (N := 45783) (by omega) (by omega)) (.inl rfl) dX9_change_160 (fun H locs hB => ?_)
        rw [(show (9 : Int32).toNatClampNeg = 9 from nI_clamp (n := 9) (by omega))] at hB
        have hB : Bx B0 D _ [((κ w).2.2.2, .inl (cs 0, 45783, .inl (upd g599 9 x601))), (w, .inr (9, [.int f557_0, .ref f557_1, .int (nI ((κ w).2.2.1)), .int (nI f557_3), .int (nI f557_4), .int f557_5, .int f557_6, .int f557_7, .ref (κ w).2.2.2, .ref f557_9, .ref f557_10, .ref f557_11, .int (nI f557_12), .int f557_13, .int f557_14, .int f557_15, .int f557_16, .ref f557_17]))] [(κ w).2.2.2] _ _ := hB
        have z602 := DOK.sf q599 (k := 9) (by omega) (x := x601)
        refine lv_aload_n hx hb dX9_change_161 rfl (lv_at hl 1 rfl) ?_
        refine va_get (D := D) (ci := 9) (v := .ref (κ w).2.2.2) (C := RX9) (T := TX9) (N := 18) hx hb hts iX9_change_9 hown hN.1 hB.1 1 rfl rfl 8 (by decide) (hts _ mX9_change_1) (fun _ h9 => h9) rfl dX9_change_162 ?_
        refine lv_bipush (v := 10) hx hb dX9_change_165 (by decide) ?_
        refine lv_dup2_11 hx hb dX9_change_167 rfl rfl ?_
        refine ld_i (v := ((upd g599 9 x601) 10)) hx hb hN hB.1 0 rfl (vp_in_nI (n := 10) (N := 45783) (by omega) (by omega)) (by rw [(show (10 : Int32).toNatClampNeg = 10 from nI_clamp (n := 10) (by omega))]) dX9_change_168 ?_
        refine gn_i (fun x603 => ?_)
        refine lv_iload_n hx hb dX9_change_169 rfl (lv_at hl 0 rfl) ?_
        refine lv_iadd hx hb dX9_change_170 ?_
        refine gn_i (fun x604 => ?_)
        refine b_i hx hb hN hB 0 rfl (vp_in_nI (n := 10) (N := 45783) (by omega) (by omega)) (.inr ⟨rfl, List.mem_of_getElem? (i := 0) rfl⟩) dX9_change_171 (fun H locs hB => ?_)
        rw [(show (10 : Int32).toNatClampNeg = 10 from nI_clamp (n := 10) (by omega))] at hB
        have hB : Bx B0 D _ [((κ w).2.2.2, .inl (cs 0, 45783, .inl (upd (upd g599 9 x601) 10 x604))), (w, .inr (9, [.int f557_0, .ref f557_1, .int (nI ((κ w).2.2.1)), .int (nI f557_3), .int (nI f557_4), .int f557_5, .int f557_6, .int f557_7, .ref (κ w).2.2.2, .ref f557_9, .ref f557_10, .ref f557_11, .int (nI f557_12), .int f557_13, .int f557_14, .int f557_15, .int f557_16, .ref f557_17]))] [(κ w).2.2.2] _ _ := hB
        have z605 := DOK.sf z602 (k := 10) (by omega) (x := x604)
        have hT : WT B0 D cs T κ _ := hT.close hB ⟨⟨0, _, rfl, ok_24 t557_8.1 ⟨_, rfl, z605⟩⟩, trivial⟩
        have hF : Fr B0 [18] κ H0 _ := hF.close hB (fa_c (by simp [t557_8.2]) fa_n)
        have hL : OkL B0 _ := hB.2.2.2.2.2
        have hP : va_P D vwCl [((κ w).2.2.2, .inl (cs 0, 45783, .inl (upd (upd g599 9 x601) 10 x604))), (w, .inr (9, [.int f557_0, .ref f557_1, .int (nI ((κ w).2.2.1)), .int (nI f557_3), .int (nI f557_4), .int f557_5, .int f557_6, .int f557_7, .ref (κ w).2.2.2, .ref f557_9, .ref f557_10, .ref f557_11, .int (nI f557_12), .int f557_13, .int f557_14, .int f557_15, .int f557_16, .ref f557_17]))] _ := hB.1
        exact en_v hx hb hr hlocks hL (Nat.zero_le _) (Nat.zero_le _) dX9_change_172 (⟨hT, hF⟩)
      · refine lv_aload_n hx hb dX9_change_57 rfl (lv_at hl 1 rfl) ?_
        refine va_get (D := D) (ci := 9) (v := .ref (κ w).2.2.2) (C := RX9) (T := TX9) (N := 18) hx hb hts iX9_change_9 hown hN.1 hP 1 rfl rfl 8 (by decide) (hts _ mX9_change_1) (fun _ h9 => h9) rfl dX9_change_58 ?_
        refine lv_iconst (v := 1) hx hb dX9_change_61 (by decide) ?_
        refine ld_i (v := (g558 1)) hx hb hN hP 0 rfl (vp_in_nI (n := 1) (N := 45783) (by omega) (by omega)) (by rw [(show (1 : Int32).toNatClampNeg = 1 from nI_clamp (n := 1) (by omega))]) dX9_change_62 ?_
        refine gn_i (fun x606 => ?_)
        refine lv_goto (tgt := 73) hx hb dX9_change_63 (by decide) ?_
        have hB : Bx B0 D _ [((κ w).2.2.2, .inl (cs 0, 45783, .inl g558)), (w, .inr (9, [.int f557_0, .ref f557_1, .int (nI ((κ w).2.2.1)), .int (nI f557_3), .int (nI f557_4), .int f557_5, .int f557_6, .int f557_7, .ref (κ w).2.2.2, .ref f557_9, .ref f557_10, .ref f557_11, .int (nI f557_12), .int f557_13, .int f557_14, .int f557_15, .int f557_16, .ref f557_17]))] [] _ _ := Bx.of (fun a => (κ a).1) hL hP (fa_c hb558 (fa_c hb557 fa_n)) (by simp only [List.map_cons, List.map_nil, t557_8.1, hw.1]; decide)
        refine b_i hx hb hN hB 0 rfl (vp_in_nI (n := 21) (N := 45783) (by omega) (by omega)) (.inl rfl) dX9_change_73 (fun H locs hB => ?_)
        rw [(show (21 : Int32).toNatClampNeg = 21 from nI_clamp (n := 21) (by omega))] at hB
        have hB : Bx B0 D _ [((κ w).2.2.2, .inl (cs 0, 45783, .inl (upd g558 21 x606))), (w, .inr (9, [.int f557_0, .ref f557_1, .int (nI ((κ w).2.2.1)), .int (nI f557_3), .int (nI f557_4), .int f557_5, .int f557_6, .int f557_7, .ref (κ w).2.2.2, .ref f557_9, .ref f557_10, .ref f557_11, .int (nI f557_12), .int f557_13, .int f557_14, .int f557_15, .int f557_16, .ref f557_17]))] [(κ w).2.2.2] _ _ := hB
        have z607 := DOK.sf q558 (k := 21) (by omega) (x := x606)
        refine lv_aload_n hx hb dX9_change_74 rfl (lv_at hl 1 rfl) ?_
        refine va_get (D := D) (ci := 9) (v := .ref (κ w).2.2.2) (C := RX9) (T := TX9) (N := 18) hx hb hts iX9_change_9 hown hN.1 hB.1 1 rfl rfl 8 (by decide) (hts _ mX9_change_1) (fun _ h9 => h9) rfl dX9_change_75 ?_
        refine lv_bipush (v := 22) hx hb dX9_change_78 (by decide) ?_
        refine lv_aload_n hx hb dX9_change_80 rfl (lv_at hl 1 rfl) ?_
        refine va_get (D := D) (ci := 9) (v := .ref (κ w).2.2.2) (C := RX9) (T := TX9) (N := 18) hx hb hts iX9_change_9 hown hN.1 hB.1 1 rfl rfl 8 (by decide) (hts _ mX9_change_1) (fun _ h9 => h9) rfl dX9_change_81 ?_
        refine lv_iconst (v := 1) hx hb dX9_change_84 (by decide) ?_
        refine ld_i (v := ((upd g558 21 x606) 1)) hx hb hN hB.1 0 rfl (vp_in_nI (n := 1) (N := 45783) (by omega) (by omega)) (by rw [(show (1 : Int32).toNatClampNeg = 1 from nI_clamp (n := 1) (by omega))]) dX9_change_85 ?_
        refine gn_i (fun x608 => ?_)
        refine b_i hx hb hN hB 0 rfl (vp_in_nI (n := 22) (N := 45783) (by omega) (by omega)) (.inr ⟨rfl, List.mem_of_getElem? (i := 0) rfl⟩) dX9_change_86 (fun H locs hB => ?_)
        rw [(show (22 : Int32).toNatClampNeg = 22 from nI_clamp (n := 22) (by omega))] at hB
        have hB : Bx B0 D _ [((κ w).2.2.2, .inl (cs 0, 45783, .inl (upd (upd g558 21 x606) 22 x608))), (w, .inr (9, [.int f557_0, .ref f557_1, .int (nI ((κ w).2.2.1)), .int (nI f557_3), .int (nI f557_4), .int f557_5, .int f557_6, .int f557_7, .ref (κ w).2.2.2, .ref f557_9, .ref f557_10, .ref f557_11, .int (nI f557_12), .int f557_13, .int f557_14, .int f557_15, .int f557_16, .ref f557_17]))] [(κ w).2.2.2] _ _ := hB
        have z609 := DOK.sf z607 (k := 22) (by omega) (x := x608)
        refine lv_aload_n hx hb dX9_change_87 rfl (lv_at hl 1 rfl) ?_
        refine lv_iload_n hx hb dX9_change_88 rfl (lv_at hl 2 rfl) ?_
        refine lv_iconst (v := 4) hx hb dX9_change_89 (by decide) ?_
        refine lv_aload_n hx hb dX9_change_90 rfl (lv_at hl 1 rfl) ?_
        refine lv_iload_n hx hb dX9_change_91 rfl (lv_at hl 2 rfl) ?_
        refine lv_bipush (v := 7) hx hb dX9_change_92 (by decide) ?_
        have hT : WT B0 D cs T κ _ := hT.close hB ⟨⟨0, _, rfl, ok_24 t557_8.1 ⟨_, rfl, z609⟩⟩, trivial⟩
        have hF : Fr B0 [18] κ H0 _ := hF.close hB (fa_c (by simp [t557_8.2]) fa_n)
        have hL : OkL B0 _ := hB.2.2.2.2.2
        have hP : va_P D vwCl [((κ w).2.2.2, .inl (cs 0, 45783, .inl (upd (upd g558 21 x606) 22 x608))), (w, .inr (9, [.int f557_0, .ref f557_1, .int (nI ((κ w).2.2.1)), .int (nI f557_3), .int (nI f557_4), .int f557_5, .int f557_6, .int f557_7, .ref (κ w).2.2.2, .ref f557_9, .ref f557_10, .ref f557_11, .int (nI f557_12), .int f557_13, .int f557_14, .int f557_15, .int f557_16, .ref f557_17]))] _ := hB.1
        refine cv_i (As := [.int (nI n), .int 7]) (rest := [.int 4, .int (nI n), .ref w]) (b := w) ⟨hx, hb, hml, hown, hts⟩ (c_X9_of hT (w := w) hw (n := n) (k := 7) (by first | omega | decide | assumption) (by first | omega | decide | assumption)) (cwV 2 hts gX9_change_X9_of rfl rfl rfl hdX9_of_v ⟨Nat.le_of_ble_eq_true rfl, Nat.le_of_ble_eq_true rfl⟩) hN hE hL (rcv10 hN hT hw.1) rfl rfl hl.1 (Nat.le_of_ble_eq_true rfl) dX9_change_94 (Nat.zero_le _) (Nat.zero_le _) (fun r610 H1 locs hL hqr610 => ?_)
        obtain rfl := hqr610.symm
        refine cv_v (As := [.int (nI n), .int 4, .int r610]) (rest := []) (b := w) ⟨hx, hb, hml, hown, hts⟩ (c_X9_set hT (w := w) hw (n := n) (k := 4) (x := r610) (by first | omega | decide | assumption) (by first | omega | decide | assumption)) (cwV 3 hts gX9_change_X9_set rfl rfl rfl hdX9_set_v ⟨Nat.le_of_ble_eq_true rfl, Nat.le_of_ble_eq_true rfl⟩) hN hE hL (rcv10 hN hT hw.1) rfl rfl hl.1 (Nat.le_of_ble_eq_true rfl) dX9_change_97 (Nat.zero_le _) (Nat.zero_le _) (fun H1 locs hL hqr611 => ?_)
        obtain ⟨hT1, hF1⟩ := hqr611
        have hP : va_P D vwCl [(w, .inr (9, [.int f557_0, .ref f557_1, .int (nI ((κ w).2.2.1)), .int (nI f557_3), .int (nI f557_4), .int f557_5, .int f557_6, .int f557_7, .ref (κ w).2.2.2, .ref f557_9, .ref f557_10, .ref f557_11, .int (nI f557_12), .int f557_13, .int f557_14, .int f557_15, .int f557_16, .ref f557_17]))] _ := hF1.hP (hP.sub [1] rfl) (fa_c ⟨by rw [hw.1]; decide, by rw [hw.2]; first | decide | (simp; done) | (simp; omega)⟩ fa_n)
        have hF := hF.tr (hF1.mono (by simp))
        have hT := hT1
        refine lv_aload_n hx hb dX9_change_100 rfl (lv_at hl 1 rfl) ?_
        refine lv_iload_n hx hb dX9_change_101 rfl (lv_at hl 2 rfl) ?_
        refine lv_bipush (v := 9) hx hb dX9_change_102 (by decide) ?_
        refine lv_aload_n hx hb dX9_change_104 rfl (lv_at hl 1 rfl) ?_
        refine lv_iload_n hx hb dX9_change_105 rfl (lv_at hl 2 rfl) ?_
        refine lv_bipush (v := 9) hx hb dX9_change_106 (by decide) ?_
        refine cv_i (As := [.int (nI n), .int 9]) (rest := [.int 9, .int (nI n), .ref w]) (b := w) ⟨hx, hb, hml, hown, hts⟩ (c_X9_of hT (w := w) hw (n := n) (k := 9) (by first | omega | decide | assumption) (by first | omega | decide | assumption)) (cwV 2 hts gX9_change_X9_of rfl rfl rfl hdX9_of_v ⟨Nat.le_of_ble_eq_true rfl, Nat.le_of_ble_eq_true rfl⟩) hN hE hL (rcv10 hN hT hw.1) rfl rfl hl.1 (Nat.le_of_ble_eq_true rfl) dX9_change_108 (Nat.zero_le _) (Nat.zero_le _) (fun r612 H1 locs hL hqr612 => ?_)
        obtain rfl := hqr612.symm
        refine lv_iconst (v := 1) hx hb dX9_change_111 (by decide) ?_
        refine lv_iadd hx hb dX9_change_112 ?_
        refine gn_i (fun x613 => ?_)
        refine cv_v (As := [.int (nI n), .int 9, .int x613]) (rest := []) (b := w) ⟨hx, hb, hml, hown, hts⟩ (c_X9_set hT (w := w) hw (n := n) (k := 9) (x := x613) (by first | omega | decide | assumption) (by first | omega | decide | assumption)) (cwV 3 hts gX9_change_X9_set rfl rfl rfl hdX9_set_v ⟨Nat.le_of_ble_eq_true rfl, Nat.le_of_ble_eq_true rfl⟩) hN hE hL (rcv10 hN hT hw.1) rfl rfl hl.1 (Nat.le_of_ble_eq_true rfl) dX9_change_113 (Nat.zero_le _) (Nat.zero_le _) (fun H1 locs hL hqr614 => ?_)
        obtain ⟨hT1, hF1⟩ := hqr614
        have hP : va_P D vwCl [(w, .inr (9, [.int f557_0, .ref f557_1, .int (nI ((κ w).2.2.1)), .int (nI f557_3), .int (nI f557_4), .int f557_5, .int f557_6, .int f557_7, .ref (κ w).2.2.2, .ref f557_9, .ref f557_10, .ref f557_11, .int (nI f557_12), .int f557_13, .int f557_14, .int f557_15, .int f557_16, .ref f557_17]))] _ := hF1.hP (hP.sub [0] rfl) (fa_c ⟨by rw [hw.1]; decide, by rw [hw.2]; first | decide | (simp; done) | (simp; omega)⟩ fa_n)
        have hF := hF.tr (hF1.mono (by simp))
        have hT := hT1
        refine lv_aload_n hx hb dX9_change_116 rfl (lv_at hl 1 rfl) ?_
        refine lv_iload_n hx hb dX9_change_117 rfl (lv_at hl 2 rfl) ?_
        refine lv_bipush (v := 10) hx hb dX9_change_118 (by decide) ?_
        refine lv_aload_n hx hb dX9_change_120 rfl (lv_at hl 1 rfl) ?_
        refine lv_iload_n hx hb dX9_change_121 rfl (lv_at hl 2 rfl) ?_
        refine lv_bipush (v := 10) hx hb dX9_change_122 (by decide) ?_
        refine cv_i (As := [.int (nI n), .int 10]) (rest := [.int 10, .int (nI n), .ref w]) (b := w) ⟨hx, hb, hml, hown, hts⟩ (c_X9_of hT (w := w) hw (n := n) (k := 10) (by first | omega | decide | assumption) (by first | omega | decide | assumption)) (cwV 2 hts gX9_change_X9_of rfl rfl rfl hdX9_of_v ⟨Nat.le_of_ble_eq_true rfl, Nat.le_of_ble_eq_true rfl⟩) hN hE hL (rcv10 hN hT hw.1) rfl rfl hl.1 (Nat.le_of_ble_eq_true rfl) dX9_change_124 (Nat.zero_le _) (Nat.zero_le _) (fun r615 H1 locs hL hqr615 => ?_)
        obtain rfl := hqr615.symm
        refine lv_iload_n hx hb dX9_change_127 rfl (lv_at hl 0 rfl) ?_
        refine lv_iadd hx hb dX9_change_128 ?_
        refine gn_i (fun x616 => ?_)
        refine cv_v (As := [.int (nI n), .int 10, .int x616]) (rest := []) (b := w) ⟨hx, hb, hml, hown, hts⟩ (c_X9_set hT (w := w) hw (n := n) (k := 10) (x := x616) (by first | omega | decide | assumption) (by first | omega | decide | assumption)) (cwV 3 hts gX9_change_X9_set rfl rfl rfl hdX9_set_v ⟨Nat.le_of_ble_eq_true rfl, Nat.le_of_ble_eq_true rfl⟩) hN hE hL (rcv10 hN hT hw.1) rfl rfl hl.1 (Nat.le_of_ble_eq_true rfl) dX9_change_129 (Nat.zero_le _) (Nat.zero_le _) (fun H1 locs hL hqr617 => ?_)
        obtain ⟨hT1, hF1⟩ := hqr617
        have hP : va_P D vwCl [(w, .inr (9, [.int f557_0, .ref f557_1, .int (nI ((κ w).2.2.1)), .int (nI f557_3), .int (nI f557_4), .int f557_5, .int f557_6, .int f557_7, .ref (κ w).2.2.2, .ref f557_9, .ref f557_10, .ref f557_11, .int (nI f557_12), .int f557_13, .int f557_14, .int f557_15, .int f557_16, .ref f557_17]))] _ := hF1.hP (hP.sub [0] rfl) (fa_c ⟨by rw [hw.1]; decide, by rw [hw.2]; first | decide | (simp; done) | (simp; omega)⟩ fa_n)
        have hF := hF.tr (hF1.mono (by simp))
        have hT := hT1
        refine lv_aload_n hx hb dX9_change_132 rfl (lv_at hl 1 rfl) ?_
        refine lv_iload_n hx hb dX9_change_133 rfl (lv_at hl 2 rfl) ?_
        refine lv_bipush (v := 11) hx hb dX9_change_134 (by decide) ?_
        refine lv_aload_n hx hb dX9_change_136 rfl (lv_at hl 1 rfl) ?_
        refine va_get (D := D) (ci := 9) (v := .ref (κ w).2.2.2) (C := RX9) (T := TX9) (N := 18) hx hb hts iX9_change_9 hown hN.1 hP 0 rfl rfl 8 (by decide) (hts _ mX9_change_1) (fun _ h9 => h9) rfl dX9_change_137 ?_
        refine lv_iconst (v := 1) hx hb dX9_change_140 (by decide) ?_
        obtain ⟨hb618, e618, hat618, hk618⟩ := hT.o24 t557_8.1
        obtain ⟨g618, rfl, q618⟩ := hk618
        have hP : va_P D vwCl [((κ w).2.2.2, .inl (cs 0, 45783, .inl g618)), (w, .inr (9, [.int f557_0, .ref f557_1, .int (nI ((κ w).2.2.1)), .int (nI f557_3), .int (nI f557_4), .int f557_5, .int f557_6, .int f557_7, .ref (κ w).2.2.2, .ref f557_9, .ref f557_10, .ref f557_11, .int (nI f557_12), .int f557_13, .int f557_14, .int f557_15, .int f557_16, .ref f557_17]))] _ := va_P.cons hat618 hP
        refine ld_i (v := (g618 1)) hx hb hN hP 0 rfl (vp_in_nI (n := 1) (N := 45783) (by omega) (by omega)) (by rw [(show (1 : Int32).toNatClampNeg = 1 from nI_clamp (n := 1) (by omega))]) dX9_change_141 ?_
        refine gn_i (fun x619 => ?_)
        refine cv_v (As := [.int (nI n), .int 11, .int x619]) (rest := []) (b := w) ⟨hx, hb, hml, hown, hts⟩ (c_X9_set hT (w := w) hw (n := n) (k := 11) (x := x619) (by first | omega | decide | assumption) (by first | omega | decide | assumption)) (cwV 3 hts gX9_change_X9_set rfl rfl rfl hdX9_set_v ⟨Nat.le_of_ble_eq_true rfl, Nat.le_of_ble_eq_true rfl⟩) hN hE hL (rcv10 hN hT hw.1) rfl rfl hl.1 (Nat.le_of_ble_eq_true rfl) dX9_change_142 (Nat.zero_le _) (Nat.zero_le _) (fun H1 locs hL hqr620 => ?_)
        obtain ⟨hT1, hF1⟩ := hqr620
        have hP : va_P D vwCl [(w, .inr (9, [.int f557_0, .ref f557_1, .int (nI ((κ w).2.2.1)), .int (nI f557_3), .int (nI f557_4), .int f557_5, .int f557_6, .int f557_7, .ref (κ w).2.2.2, .ref f557_9, .ref f557_10, .ref f557_11, .int (nI f557_12), .int f557_13, .int f557_14, .int f557_15, .int f557_16, .ref f557_17]))] _ := hF1.hP (hP.sub [1] rfl) (fa_c ⟨by rw [hw.1]; decide, by rw [hw.2]; first | decide | (simp; done) | (simp; omega)⟩ fa_n)
        have hF := hF.tr (hF1.mono (by simp))
        have hT := hT1
        refine lv_aload_n hx hb dX9_change_145 rfl (lv_at hl 1 rfl) ?_
        refine lv_iload_n hx hb dX9_change_146 rfl (lv_at hl 2 rfl) ?_
        refine cv_v (As := [.int (nI n)]) (rest := []) (b := w) ⟨hx, hb, hml, hown, hts⟩ (c_X9_dropPlan hT (w := w) hw (n := n) (by first | omega | decide | assumption)) (cwV 1 hts gX9_change_X9_dropPlan rfl rfl rfl hdX9_dropPlan_v ⟨Nat.le_of_ble_eq_true rfl, Nat.le_of_ble_eq_true rfl⟩) hN hE hL (rcv10 hN hT hw.1) rfl rfl hl.1 (Nat.le_of_ble_eq_true rfl) dX9_change_147 (Nat.zero_le _) (Nat.zero_le _) (fun H1 locs hL hqr621 => ?_)
        obtain ⟨hT1, hF1⟩ := hqr621
        have hP : va_P D vwCl [(w, .inr (9, [.int f557_0, .ref f557_1, .int (nI ((κ w).2.2.1)), .int (nI f557_3), .int (nI f557_4), .int f557_5, .int f557_6, .int f557_7, .ref (κ w).2.2.2, .ref f557_9, .ref f557_10, .ref f557_11, .int (nI f557_12), .int f557_13, .int f557_14, .int f557_15, .int f557_16, .ref f557_17]))] _ := hF1.hP (hP.sub [0] rfl) (fa_c ⟨by rw [hw.1]; decide, by rw [hw.2]; first | decide | (simp; done) | (simp; omega)⟩ fa_n)
        have hF := hF.tr (hF1.mono (by simp))
        have hT := hT1
        refine lv_aload_n hx hb dX9_change_150 rfl (lv_at hl 1 rfl) ?_
        refine va_get (D := D) (ci := 9) (v := .ref (κ w).2.2.2) (C := RX9) (T := TX9) (N := 18) hx hb hts iX9_change_9 hown hN.1 hP 0 rfl rfl 8 (by decide) (hts _ mX9_change_1) (fun _ h9 => h9) rfl dX9_change_151 ?_
        refine lv_bipush (v := 9) hx hb dX9_change_154 (by decide) ?_
        refine lv_dup2_11 hx hb dX9_change_156 rfl rfl ?_
        obtain ⟨hb622, e622, hat622, hk622⟩ := hT.o24 t557_8.1
        obtain ⟨g622, rfl, q622⟩ := hk622
        have hP : va_P D vwCl [((κ w).2.2.2, .inl (cs 0, 45783, .inl g622)), (w, .inr (9, [.int f557_0, .ref f557_1, .int (nI ((κ w).2.2.1)), .int (nI f557_3), .int (nI f557_4), .int f557_5, .int f557_6, .int f557_7, .ref (κ w).2.2.2, .ref f557_9, .ref f557_10, .ref f557_11, .int (nI f557_12), .int f557_13, .int f557_14, .int f557_15, .int f557_16, .ref f557_17]))] _ := va_P.cons hat622 hP
        refine ld_i (v := (g622 9)) hx hb hN hP 0 rfl (vp_in_nI (n := 9) (N := 45783) (by omega) (by omega)) (by rw [(show (9 : Int32).toNatClampNeg = 9 from nI_clamp (n := 9) (by omega))]) dX9_change_157 ?_
        refine gn_i (fun x623 => ?_)
        refine lv_iconst (v := 1) hx hb dX9_change_158 (by decide) ?_
        refine lv_iadd hx hb dX9_change_159 ?_
        refine gn_i (fun x624 => ?_)
        have hB : Bx B0 D _ [((κ w).2.2.2, .inl (cs 0, 45783, .inl g622)), (w, .inr (9, [.int f557_0, .ref f557_1, .int (nI ((κ w).2.2.1)), .int (nI f557_3), .int (nI f557_4), .int f557_5, .int f557_6, .int f557_7, .ref (κ w).2.2.2, .ref f557_9, .ref f557_10, .ref f557_11, .int (nI f557_12), .int f557_13, .int f557_14, .int f557_15, .int f557_16, .ref f557_17]))] [] _ _ := Bx.of (fun a => (κ a).1) hL hP (fa_c hb622 (fa_c hb557 fa_n)) (by simp only [List.map_cons, List.map_nil, t557_8.1, hw.1]; decide)
        refine b_i hx hb hN hB 0 rfl (vp_in_nI (n := 9) (N := 45783) (by omega) (by omega)) (.inl rfl) dX9_change_160 (fun H locs hB => ?_)
        rw [(show (9 : Int32).toNatClampNeg = 9 from nI_clamp (n := 9) (by omega))] at hB
        have hB : Bx B0 D _ [((κ w).2.2.2, .inl (cs 0, 45783, .inl (upd g622 9 x624))), (w, .inr (9, [.int f557_0, .ref f557_1, .int (nI ((κ w).2.2.1)), .int (nI f557_3), .int (nI f557_4), .int f557_5, .int f557_6, .int f557_7, .ref (κ w).2.2.2, .ref f557_9, .ref f557_10, .ref f557_11, .int (nI f557_12), .int f557_13, .int f557_14, .int f557_15, .int f557_16, .ref f557_17]))] [(κ w).2.2.2] _ _ := hB
        have z625 := DOK.sf q622 (k := 9) (by omega) (x := x624)
        refine lv_aload_n hx hb dX9_change_161 rfl (lv_at hl 1 rfl) ?_
        refine va_get (D := D) (ci := 9) (v := .ref (κ w).2.2.2) (C := RX9) (T := TX9) (N := 18) hx hb hts iX9_change_9 hown hN.1 hB.1 1 rfl rfl 8 (by decide) (hts _ mX9_change_1) (fun _ h9 => h9) rfl dX9_change_162 ?_
        refine lv_bipush (v := 10) hx hb dX9_change_165 (by decide) ?_
        refine lv_dup2_11 hx hb dX9_change_167 rfl rfl ?_
        refine ld_i (v := ((upd g622 9 x624) 10)) hx hb hN hB.1 0 rfl (vp_in_nI (n := 10) (N := 45783) (by omega) (by omega)) (by rw [(show (10 : Int32).toNatClampNeg = 10 from nI_clamp (n := 10) (by omega))]) dX9_change_168 ?_
        refine gn_i (fun x626 => ?_)
        refine lv_iload_n hx hb dX9_change_169 rfl (lv_at hl 0 rfl) ?_
        refine lv_iadd hx hb dX9_change_170 ?_
        refine gn_i (fun x627 => ?_)
        refine b_i hx hb hN hB 0 rfl (vp_in_nI (n := 10) (N := 45783) (by omega) (by omega)) (.inr ⟨rfl, List.mem_of_getElem? (i := 0) rfl⟩) dX9_change_171 (fun H locs hB => ?_)
        rw [(show (10 : Int32).toNatClampNeg = 10 from nI_clamp (n := 10) (by omega))] at hB
        have hB : Bx B0 D _ [((κ w).2.2.2, .inl (cs 0, 45783, .inl (upd (upd g622 9 x624) 10 x627))), (w, .inr (9, [.int f557_0, .ref f557_1, .int (nI ((κ w).2.2.1)), .int (nI f557_3), .int (nI f557_4), .int f557_5, .int f557_6, .int f557_7, .ref (κ w).2.2.2, .ref f557_9, .ref f557_10, .ref f557_11, .int (nI f557_12), .int f557_13, .int f557_14, .int f557_15, .int f557_16, .ref f557_17]))] [(κ w).2.2.2] _ _ := hB
        have z628 := DOK.sf z625 (k := 10) (by omega) (x := x627)
        have hT : WT B0 D cs T κ _ := hT.close hB ⟨⟨0, _, rfl, ok_24 t557_8.1 ⟨_, rfl, z628⟩⟩, trivial⟩
        have hF : Fr B0 [18] κ H0 _ := hF.close hB (fa_c (by simp [t557_8.2]) fa_n)
        have hL : OkL B0 _ := hB.2.2.2.2.2
        have hP : va_P D vwCl [((κ w).2.2.2, .inl (cs 0, 45783, .inl (upd (upd g622 9 x624) 10 x627))), (w, .inr (9, [.int f557_0, .ref f557_1, .int (nI ((κ w).2.2.1)), .int (nI f557_3), .int (nI f557_4), .int f557_5, .int f557_6, .int f557_7, .ref (κ w).2.2.2, .ref f557_9, .ref f557_10, .ref f557_11, .int (nI f557_12), .int f557_13, .int f557_14, .int f557_15, .int f557_16, .ref f557_17]))] _ := hB.1
        exact en_v hx hb hr hlocks hL (Nat.zero_le _) (Nat.zero_le _) dX9_change_172 (⟨hT, hF⟩)
  · refine lv_iconst (v := 1) hx hb dX9_change_15 (by decide) ?_
    refine lv_goto (tgt := 20) hx hb dX9_change_16 (by decide) ?_
    refine lv_istore_n (lv' := [(2, .int 1), (0, .ref w), (1, .int (nI n))]) hx hb dX9_change_20 rfl hl (by decide) rfl (fun ls hl => ?_)
    refine lv_aload_n hx hb dX9_change_21 rfl (lv_at hl 1 rfl) ?_
    refine lv_iload_n hx hb dX9_change_22 rfl (lv_at hl 2 rfl) ?_
    refine lv_bipush (v := 6) hx hb dX9_change_23 (by decide) ?_
    refine cv_i (As := [.int (nI n), .int 6]) (rest := []) (b := w) ⟨hx, hb, hml, hown, hts⟩ (c_X9_of hT (w := w) hw (n := n) (k := 6) (by first | omega | decide | assumption) (by first | omega | decide | assumption)) (cwV 2 hts gX9_change_X9_of rfl rfl rfl hdX9_of_v ⟨Nat.le_of_ble_eq_true rfl, Nat.le_of_ble_eq_true rfl⟩) hN hE hL (rcv10 hN hT hw.1) rfl rfl hl.1 (Nat.le_of_ble_eq_true rfl) dX9_change_25 (Nat.zero_le _) (Nat.zero_le _) (fun r629 H1 locs hL hqr629 => ?_)
    obtain rfl := hqr629.symm
    refine lv_aload_n hx hb dX9_change_28 rfl (lv_at hl 1 rfl) ?_
    obtain ⟨hb630, e630, hat630, hk630⟩ := hT.o10 hw.1
    obtain ⟨f630_0, f630_1, f630_3, f630_4, f630_5, f630_6, f630_7, f630_9, f630_10, f630_11, f630_12, f630_13, f630_14, f630_15, f630_16, f630_17, rfl, c630_2, c630_3, c630_4, c630_12, t630_1, t630_8, t630_9, c630_sd, t630_10, t630_11, t630_17⟩ := hk630
    have hP : va_P D vwCl [(w, .inr (9, [.int f630_0, .ref f630_1, .int (nI ((κ w).2.2.1)), .int (nI f630_3), .int (nI f630_4), .int f630_5, .int f630_6, .int f630_7, .ref (κ w).2.2.2, .ref f630_9, .ref f630_10, .ref f630_11, .int (nI f630_12), .int f630_13, .int f630_14, .int f630_15, .int f630_16, .ref f630_17]))] _ := va_P.cons hat630 va_P.nil
    refine va_get (D := D) (ci := 9) (v := .ref (κ w).2.2.2) (C := RX9) (T := TX9) (N := 18) hx hb hts iX9_change_9 hown hN.1 hP 0 rfl rfl 8 (by decide) (hts _ mX9_change_1) (fun _ h9 => h9) rfl dX9_change_29 ?_
    refine lv_bipush (v := 6) hx hb dX9_change_32 (by decide) ?_
    obtain ⟨hb631, e631, hat631, hk631⟩ := hT.o24 t630_8.1
    obtain ⟨g631, rfl, q631⟩ := hk631
    have hP : va_P D vwCl [((κ w).2.2.2, .inl (cs 0, 45783, .inl g631)), (w, .inr (9, [.int f630_0, .ref f630_1, .int (nI ((κ w).2.2.1)), .int (nI f630_3), .int (nI f630_4), .int f630_5, .int f630_6, .int f630_7, .ref (κ w).2.2.2, .ref f630_9, .ref f630_10, .ref f630_11, .int (nI f630_12), .int f630_13, .int f630_14, .int f630_15, .int f630_16, .ref f630_17]))] _ := va_P.cons hat631 hP
    refine ld_i (v := (g631 6)) hx hb hN hP 0 rfl (vp_in_nI (n := 6) (N := 45783) (by omega) (by omega)) (by rw [(show (6 : Int32).toNatClampNeg = 6 from nI_clamp (n := 6) (by omega))]) dX9_change_34 ?_
    refine gn_i (fun x632 => ?_)
    refine lv_iconst (v := 1) hx hb dX9_change_35 (by decide) ?_
    refine lv_isub hx hb dX9_change_36 ?_
    refine gn_i (fun x633 => ?_)
    refine lv_icmp_ne (tgt := 87) hx hb dX9_change_37 (by decide) (fun c634 => ?_) (fun c634 => ?_)
    · refine lv_aload_n hx hb dX9_change_87 rfl (lv_at hl 1 rfl) ?_
      refine lv_iload_n hx hb dX9_change_88 rfl (lv_at hl 2 rfl) ?_
      refine lv_iconst (v := 4) hx hb dX9_change_89 (by decide) ?_
      refine lv_aload_n hx hb dX9_change_90 rfl (lv_at hl 1 rfl) ?_
      refine lv_iload_n hx hb dX9_change_91 rfl (lv_at hl 2 rfl) ?_
      refine lv_bipush (v := 7) hx hb dX9_change_92 (by decide) ?_
      refine cv_i (As := [.int (nI n), .int 7]) (rest := [.int 4, .int (nI n), .ref w]) (b := w) ⟨hx, hb, hml, hown, hts⟩ (c_X9_of hT (w := w) hw (n := n) (k := 7) (by first | omega | decide | assumption) (by first | omega | decide | assumption)) (cwV 2 hts gX9_change_X9_of rfl rfl rfl hdX9_of_v ⟨Nat.le_of_ble_eq_true rfl, Nat.le_of_ble_eq_true rfl⟩) hN hE hL (rcv10 hN hT hw.1) rfl rfl hl.1 (Nat.le_of_ble_eq_true rfl) dX9_change_94 (Nat.zero_le _) (Nat.zero_le _) (fun r635 H1 locs hL hqr635 => ?_)
      obtain rfl := hqr635.symm
      refine cv_v (As := [.int (nI n), .int 4, .int r635]) (rest := []) (b := w) ⟨hx, hb, hml, hown, hts⟩ (c_X9_set hT (w := w) hw (n := n) (k := 4) (x := r635) (by first | omega | decide | assumption) (by first | omega | decide | assumption)) (cwV 3 hts gX9_change_X9_set rfl rfl rfl hdX9_set_v ⟨Nat.le_of_ble_eq_true rfl, Nat.le_of_ble_eq_true rfl⟩) hN hE hL (rcv10 hN hT hw.1) rfl rfl hl.1 (Nat.le_of_ble_eq_true rfl) dX9_change_97 (Nat.zero_le _) (Nat.zero_le _) (fun H1 locs hL hqr636 => ?_)
      obtain ⟨hT1, hF1⟩ := hqr636
      have hP : va_P D vwCl [(w, .inr (9, [.int f630_0, .ref f630_1, .int (nI ((κ w).2.2.1)), .int (nI f630_3), .int (nI f630_4), .int f630_5, .int f630_6, .int f630_7, .ref (κ w).2.2.2, .ref f630_9, .ref f630_10, .ref f630_11, .int (nI f630_12), .int f630_13, .int f630_14, .int f630_15, .int f630_16, .ref f630_17]))] _ := hF1.hP (hP.sub [1] rfl) (fa_c ⟨by rw [hw.1]; decide, by rw [hw.2]; first | decide | (simp; done) | (simp; omega)⟩ fa_n)
      have hF := hF.tr (hF1.mono (by simp))
      have hT := hT1
      refine lv_aload_n hx hb dX9_change_100 rfl (lv_at hl 1 rfl) ?_
      refine lv_iload_n hx hb dX9_change_101 rfl (lv_at hl 2 rfl) ?_
      refine lv_bipush (v := 9) hx hb dX9_change_102 (by decide) ?_
      refine lv_aload_n hx hb dX9_change_104 rfl (lv_at hl 1 rfl) ?_
      refine lv_iload_n hx hb dX9_change_105 rfl (lv_at hl 2 rfl) ?_
      refine lv_bipush (v := 9) hx hb dX9_change_106 (by decide) ?_
      refine cv_i (As := [.int (nI n), .int 9]) (rest := [.int 9, .int (nI n), .ref w]) (b := w) ⟨hx, hb, hml, hown, hts⟩ (c_X9_of hT (w := w) hw (n := n) (k := 9) (by first | omega | decide | assumption) (by first | omega | decide | assumption)) (cwV 2 hts gX9_change_X9_of rfl rfl rfl hdX9_of_v ⟨Nat.le_of_ble_eq_true rfl, Nat.le_of_ble_eq_true rfl⟩) hN hE hL (rcv10 hN hT hw.1) rfl rfl hl.1 (Nat.le_of_ble_eq_true rfl) dX9_change_108 (Nat.zero_le _) (Nat.zero_le _) (fun r637 H1 locs hL hqr637 => ?_)
      obtain rfl := hqr637.symm
      refine lv_iconst (v := 1) hx hb dX9_change_111 (by decide) ?_
      refine lv_iadd hx hb dX9_change_112 ?_
      refine gn_i (fun x638 => ?_)
      refine cv_v (As := [.int (nI n), .int 9, .int x638]) (rest := []) (b := w) ⟨hx, hb, hml, hown, hts⟩ (c_X9_set hT (w := w) hw (n := n) (k := 9) (x := x638) (by first | omega | decide | assumption) (by first | omega | decide | assumption)) (cwV 3 hts gX9_change_X9_set rfl rfl rfl hdX9_set_v ⟨Nat.le_of_ble_eq_true rfl, Nat.le_of_ble_eq_true rfl⟩) hN hE hL (rcv10 hN hT hw.1) rfl rfl hl.1 (Nat.le_of_ble_eq_true rfl) dX9_change_113 (Nat.zero_le _) (Nat.zero_le _) (fun H1 locs hL hqr639 => ?_)
      obtain ⟨hT1, hF1⟩ := hqr639
      have hP : va_P D vwCl [(w, .inr (9, [.int f630_0, .ref f630_1, .int (nI ((κ w).2.2.1)), .int (nI f630_3), .int (nI f630_4), .int f630_5, .int f630_6, .int f630_7, .ref (κ w).2.2.2, .ref f630_9, .ref f630_10, .ref f630_11, .int (nI f630_12), .int f630_13, .int f630_14, .int f630_15, .int f630_16, .ref f630_17]))] _ := hF1.hP (hP.sub [0] rfl) (fa_c ⟨by rw [hw.1]; decide, by rw [hw.2]; first | decide | (simp; done) | (simp; omega)⟩ fa_n)
      have hF := hF.tr (hF1.mono (by simp))
      have hT := hT1
      refine lv_aload_n hx hb dX9_change_116 rfl (lv_at hl 1 rfl) ?_
      refine lv_iload_n hx hb dX9_change_117 rfl (lv_at hl 2 rfl) ?_
      refine lv_bipush (v := 10) hx hb dX9_change_118 (by decide) ?_
      refine lv_aload_n hx hb dX9_change_120 rfl (lv_at hl 1 rfl) ?_
      refine lv_iload_n hx hb dX9_change_121 rfl (lv_at hl 2 rfl) ?_
      refine lv_bipush (v := 10) hx hb dX9_change_122 (by decide) ?_
      refine cv_i (As := [.int (nI n), .int 10]) (rest := [.int 10, .int (nI n), .ref w]) (b := w) ⟨hx, hb, hml, hown, hts⟩ (c_X9_of hT (w := w) hw (n := n) (k := 10) (by first | omega | decide | assumption) (by first | omega | decide | assumption)) (cwV 2 hts gX9_change_X9_of rfl rfl rfl hdX9_of_v ⟨Nat.le_of_ble_eq_true rfl, Nat.le_of_ble_eq_true rfl⟩) hN hE hL (rcv10 hN hT hw.1) rfl rfl hl.1 (Nat.le_of_ble_eq_true rfl) dX9_change_124 (Nat.zero_le _) (Nat.zero_le _) (fun r640 H1 locs hL hqr640 => ?_)
      obtain rfl := hqr640.symm
      refine lv_iload_n hx hb dX9_change_127 rfl (lv_at hl 0 rfl) ?_
      refine lv_iadd hx hb dX9_change_128 ?_
      refine gn_i (fun x641 => ?_)
      refine cv_v (As := [.int (nI n), .int 10, .int x641]) (rest := []) (b := w) ⟨hx, hb, hml, hown, hts⟩ (c_X9_set hT (w := w) hw (n := n) (k := 10) (x := x641) (by first | omega | decide | assumption) (by first | omega | decide | assumption)) (cwV 3 hts gX9_change_X9_set rfl rfl rfl hdX9_set_v ⟨Nat.le_of_ble_eq_true rfl, Nat.le_of_ble_eq_true rfl⟩) hN hE hL (rcv10 hN hT hw.1) rfl rfl hl.1 (Nat.le_of_ble_eq_true rfl) dX9_change_129 (Nat.zero_le _) (Nat.zero_le _) (fun H1 locs hL hqr642 => ?_)
      obtain ⟨hT1, hF1⟩ := hqr642
      have hP : va_P D vwCl [(w, .inr (9, [.int f630_0, .ref f630_1, .int (nI ((κ w).2.2.1)), .int (nI f630_3), .int (nI f630_4), .int f630_5, .int f630_6, .int f630_7, .ref (κ w).2.2.2, .ref f630_9, .ref f630_10, .ref f630_11, .int (nI f630_12), .int f630_13, .int f630_14, .int f630_15, .int f630_16, .ref f630_17]))] _ := hF1.hP (hP.sub [0] rfl) (fa_c ⟨by rw [hw.1]; decide, by rw [hw.2]; first | decide | (simp; done) | (simp; omega)⟩ fa_n)
      have hF := hF.tr (hF1.mono (by simp))
      have hT := hT1
      refine lv_aload_n hx hb dX9_change_132 rfl (lv_at hl 1 rfl) ?_
      refine lv_iload_n hx hb dX9_change_133 rfl (lv_at hl 2 rfl) ?_
      refine lv_bipush (v := 11) hx hb dX9_change_134 (by decide) ?_
      refine lv_aload_n hx hb dX9_change_136 rfl (lv_at hl 1 rfl) ?_
      refine va_get (D := D) (ci := 9) (v := .ref (κ w).2.2.2) (C := RX9) (T := TX9) (N := 18) hx hb hts iX9_change_9 hown hN.1 hP 0 rfl rfl 8 (by decide) (hts _ mX9_change_1) (fun _ h9 => h9) rfl dX9_change_137 ?_
      refine lv_iconst (v := 1) hx hb dX9_change_140 (by decide) ?_
      obtain ⟨hb643, e643, hat643, hk643⟩ := hT.o24 t630_8.1
      obtain ⟨g643, rfl, q643⟩ := hk643
      have hP : va_P D vwCl [((κ w).2.2.2, .inl (cs 0, 45783, .inl g643)), (w, .inr (9, [.int f630_0, .ref f630_1, .int (nI ((κ w).2.2.1)), .int (nI f630_3), .int (nI f630_4), .int f630_5, .int f630_6, .int f630_7, .ref (κ w).2.2.2, .ref f630_9, .ref f630_10, .ref f630_11, .int (nI f630_12), .int f630_13, .int f630_14, .int f630_15, .int f630_16, .ref f630_17]))] _ := va_P.cons hat643 hP
      refine ld_i (v := (g643 1)) hx hb hN hP 0 rfl (vp_in_nI (n := 1) (N := 45783) (by omega) (by omega)) (by rw [(show (1 : Int32).toNatClampNeg = 1 from nI_clamp (n := 1) (by omega))]) dX9_change_141 ?_
      refine gn_i (fun x644 => ?_)
      refine cv_v (As := [.int (nI n), .int 11, .int x644]) (rest := []) (b := w) ⟨hx, hb, hml, hown, hts⟩ (c_X9_set hT (w := w) hw (n := n) (k := 11) (x := x644) (by first | omega | decide | assumption) (by first | omega | decide | assumption)) (cwV 3 hts gX9_change_X9_set rfl rfl rfl hdX9_set_v ⟨Nat.le_of_ble_eq_true rfl, Nat.le_of_ble_eq_true rfl⟩) hN hE hL (rcv10 hN hT hw.1) rfl rfl hl.1 (Nat.le_of_ble_eq_true rfl) dX9_change_142 (Nat.zero_le _) (Nat.zero_le _) (fun H1 locs hL hqr645 => ?_)
      obtain ⟨hT1, hF1⟩ := hqr645
      have hP : va_P D vwCl [(w, .inr (9, [.int f630_0, .ref f630_1, .int (nI ((κ w).2.2.1)), .int (nI f630_3), .int (nI f630_4), .int f630_5, .int f630_6, .int f630_7, .ref (κ w).2.2.2, .ref f630_9, .ref f630_10, .ref f630_11, .int (nI f630_12), .int f630_13, .int f630_14, .int f630_15, .int f630_16, .ref f630_17]))] _ := hF1.hP (hP.sub [1] rfl) (fa_c ⟨by rw [hw.1]; decide, by rw [hw.2]; first | decide | (simp; done) | (simp; omega)⟩ fa_n)
      have hF := hF.tr (hF1.mono (by simp))
      have hT := hT1
      refine lv_aload_n hx hb dX9_change_145 rfl (lv_at hl 1 rfl) ?_
      refine lv_iload_n hx hb dX9_change_146 rfl (lv_at hl 2 rfl) ?_
      refine cv_v (As := [.int (nI n)]) (rest := []) (b := w) ⟨hx, hb, hml, hown, hts⟩ (c_X9_dropPlan hT (w := w) hw (n := n) (by first | omega | decide | assumption)) (cwV 1 hts gX9_change_X9_dropPlan rfl rfl rfl hdX9_dropPlan_v ⟨Nat.le_of_ble_eq_true rfl, Nat.le_of_ble_eq_true rfl⟩) hN hE hL (rcv10 hN hT hw.1) rfl rfl hl.1 (Nat.le_of_ble_eq_true rfl) dX9_change_147 (Nat.zero_le _) (Nat.zero_le _) (fun H1 locs hL hqr646 => ?_)
      obtain ⟨hT1, hF1⟩ := hqr646
      have hP : va_P D vwCl [(w, .inr (9, [.int f630_0, .ref f630_1, .int (nI ((κ w).2.2.1)), .int (nI f630_3), .int (nI f630_4), .int f630_5, .int f630_6, .int f630_7, .ref (κ w).2.2.2, .ref f630_9, .ref f630_10, .ref f630_11, .int (nI f630_12), .int f630_13, .int f630_14, .int f630_15, .int f630_16, .ref f630_17]))] _ := hF1.hP (hP.sub [0] rfl) (fa_c ⟨by rw [hw.1]; decide, by rw [hw.2]; first | decide | (simp; done) | (simp; omega)⟩ fa_n)
      have hF := hF.tr (hF1.mono (by simp))
      have hT := hT1
      refine lv_aload_n hx hb dX9_change_150 rfl (lv_at hl 1 rfl) ?_
      refine va_get (D := D) (ci := 9) (v := .ref (κ w).2.2.2) (C := RX9) (T := TX9) (N := 18) hx hb hts iX9_change_9 hown hN.1 hP 0 rfl rfl 8 (by decide) (hts _ mX9_change_1) (fun _ h9 => h9) rfl dX9_change_151 ?_
      refine lv_bipush (v := 9) hx hb dX9_change_154 (by decide) ?_
      refine lv_dup2_11 hx hb dX9_change_156 rfl rfl ?_
      obtain ⟨hb647, e647, hat647, hk647⟩ := hT.o24 t630_8.1
      obtain ⟨g647, rfl, q647⟩ := hk647
      have hP : va_P D vwCl [((κ w).2.2.2, .inl (cs 0, 45783, .inl g647)), (w, .inr (9, [.int f630_0, .ref f630_1, .int (nI ((κ w).2.2.1)), .int (nI f630_3), .int (nI f630_4), .int f630_5, .int f630_6, .int f630_7, .ref (κ w).2.2.2, .ref f630_9, .ref f630_10, .ref f630_11, .int (nI f630_12), .int f630_13, .int f630_14, .int f630_15, .int f630_16, .ref f630_17]))] _ := va_P.cons hat647 hP
      refine ld_i (v := (g647 9)) hx hb hN hP 0 rfl (vp_in_nI (n := 9) (N := 45783) (by omega) (by omega)) (by rw [(show (9 : Int32).toNatClampNeg = 9 from nI_clamp (n := 9) (by omega))]) dX9_change_157 ?_
      refine gn_i (fun x648 => ?_)
      refine lv_iconst (v := 1) hx hb dX9_change_158 (by decide) ?_
      refine lv_iadd hx hb dX9_change_159 ?_
      refine gn_i (fun x649 => ?_)
      have hB : Bx B0 D _ [((κ w).2.2.2, .inl (cs 0, 45783, .inl g647)), (w, .inr (9, [.int f630_0, .ref f630_1, .int (nI ((κ w).2.2.1)), .int (nI f630_3), .int (nI f630_4), .int f630_5, .int f630_6, .int f630_7, .ref (κ w).2.2.2, .ref f630_9, .ref f630_10, .ref f630_11, .int (nI f630_12), .int f630_13, .int f630_14, .int f630_15, .int f630_16, .ref f630_17]))] [] _ _ := Bx.of (fun a => (κ a).1) hL hP (fa_c hb647 (fa_c hb630 fa_n)) (by simp only [List.map_cons, List.map_nil, t630_8.1, hw.1]; decide)
      refine b_i hx hb hN hB 0 rfl (vp_in_nI (n := 9) (N := 45783) (by omega) (by omega)) (.inl rfl) dX9_change_160 (fun H locs hB => ?_)
      rw [(show (9 : Int32).toNatClampNeg = 9 from nI_clamp (n := 9) (by omega))] at hB
      have hB : Bx B0 D _ [((κ w).2.2.2, .inl (cs 0, 45783, .inl (upd g647 9 x649))), (w, .inr (9, [.int f630_0, .ref f630_1, .int (nI ((κ w).2.2.1)), .int (nI f630_3), .int (nI f630_4), .int f630_5, .int f630_6, .int f630_7, .ref (κ w).2.2.2, .ref f630_9, .ref f630_10, .ref f630_11, .int (nI f630_12), .int f630_13, .int f630_14, .int f630_15, .int f630_16, .ref f630_17]))] [(κ w).2.2.2] _ _ := hB
      have z650 := DOK.sf q647 (k := 9) (by omega) (x := x649)
      refine lv_aload_n hx hb dX9_change_161 rfl (lv_at hl 1 rfl) ?_
      refine va_get (D := D) (ci := 9) (v := .ref (κ w).2.2.2) (C := RX9) (T := TX9) (N := 18) hx hb hts iX9_change_9 hown hN.1 hB.1 1 rfl rfl 8 (by decide) (hts _ mX9_change_1) (fun _ h9 => h9) rfl dX9_change_162 ?_
      refine lv_bipush (v := 10) hx hb dX9_change_165 (by decide) ?_
      refine lv_dup2_11 hx hb dX9_change_167 rfl rfl ?_
      refine ld_i (v := ((upd g647 9 x649) 10)) hx hb hN hB.1 0 rfl (vp_in_nI (n := 10) (N := 45783) (by omega) (by omega)) (by rw [(show (10 : Int32).toNatClampNeg = 10 from nI_clamp (n := 10) (by omega))]) dX9_change_168 ?_
      refine gn_i (fun x651 => ?_)
      refine lv_iload_n hx hb dX9_change_169 rfl (lv_at hl 0 rfl) ?_
      refine lv_iadd hx hb dX9_change_170 ?_
      refine gn_i (fun x652 => ?_)
      refine b_i hx hb hN hB 0 rfl (vp_in_nI (n := 10) (N := 45783) (by omega) (by omega)) (.inr ⟨rfl, List.mem_of_getElem? (i := 0) rfl⟩) dX9_change_171 (fun H locs hB => ?_)
      rw [(show (10 : Int32).toNatClampNeg = 10 from nI_clamp (n := 10) (by omega))] at hB
      have hB : Bx B0 D _ [((κ w).2.2.2, .inl (cs 0, 45783, .inl (upd (upd g647 9 x649) 10 x652))), (w, .inr (9, [.int f630_0, .ref f630_1, .int (nI ((κ w).2.2.1)), .int (nI f630_3), .int (nI f630_4), .int f630_5, .int f630_6, .int f630_7, .ref (κ w).2.2.2, .ref f630_9, .ref f630_10, .ref f630_11, .int (nI f630_12), .int f630_13, .int f630_14, .int f630_15, .int f630_16, .ref f630_17]))] [(κ w).2.2.2] _ _ := hB
      have z653 := DOK.sf z650 (k := 10) (by omega) (x := x652)
      have hT : WT B0 D cs T κ _ := hT.close hB ⟨⟨0, _, rfl, ok_24 t630_8.1 ⟨_, rfl, z653⟩⟩, trivial⟩
      have hF : Fr B0 [18] κ H0 _ := hF.close hB (fa_c (by simp [t630_8.2]) fa_n)
      have hL : OkL B0 _ := hB.2.2.2.2.2
      have hP : va_P D vwCl [((κ w).2.2.2, .inl (cs 0, 45783, .inl (upd (upd g647 9 x649) 10 x652))), (w, .inr (9, [.int f630_0, .ref f630_1, .int (nI ((κ w).2.2.1)), .int (nI f630_3), .int (nI f630_4), .int f630_5, .int f630_6, .int f630_7, .ref (κ w).2.2.2, .ref f630_9, .ref f630_10, .ref f630_11, .int (nI f630_12), .int f630_13, .int f630_14, .int f630_15, .int f630_16, .ref f630_17]))] _ := hB.1
      exact en_v hx hb hr hlocks hL (Nat.zero_le _) (Nat.zero_le _) dX9_change_172 (⟨hT, hF⟩)
    · refine lv_aload_n hx hb dX9_change_40 rfl (lv_at hl 1 rfl) ?_
      refine va_get (D := D) (ci := 9) (v := .ref (κ w).2.2.2) (C := RX9) (T := TX9) (N := 18) hx hb hts iX9_change_9 hown hN.1 hP 1 rfl rfl 8 (by decide) (hts _ mX9_change_1) (fun _ h9 => h9) rfl dX9_change_41 ?_
      refine lv_bipush (v := 21) hx hb dX9_change_44 (by decide) ?_
      refine lv_aload_n hx hb dX9_change_46 rfl (lv_at hl 1 rfl) ?_
      refine va_get (D := D) (ci := 9) (v := .ref (κ w).2.2.2) (C := RX9) (T := TX9) (N := 18) hx hb hts iX9_change_9 hown hN.1 hP 1 rfl rfl 8 (by decide) (hts _ mX9_change_1) (fun _ h9 => h9) rfl dX9_change_47 ?_
      refine lv_bipush (v := 21) hx hb dX9_change_50 (by decide) ?_
      refine ld_i (v := (g631 21)) hx hb hN hP 0 rfl (vp_in_nI (n := 21) (N := 45783) (by omega) (by omega)) (by rw [(show (21 : Int32).toNatClampNeg = 21 from nI_clamp (n := 21) (by omega))]) dX9_change_52 ?_
      refine gn_i (fun x654 => ?_)
      refine lv_iconst (v := (-1)) hx hb dX9_change_53 (by decide) ?_
      refine lv_icmp_ne (tgt := 66) hx hb dX9_change_54 (by decide) (fun c655 => ?_) (fun c655 => ?_)
      · refine lv_aload_n hx hb dX9_change_66 rfl (lv_at hl 1 rfl) ?_
        refine va_get (D := D) (ci := 9) (v := .ref (κ w).2.2.2) (C := RX9) (T := TX9) (N := 18) hx hb hts iX9_change_9 hown hN.1 hP 1 rfl rfl 8 (by decide) (hts _ mX9_change_1) (fun _ h9 => h9) rfl dX9_change_67 ?_
        refine lv_bipush (v := 21) hx hb dX9_change_70 (by decide) ?_
        refine ld_i (v := (g631 21)) hx hb hN hP 0 rfl (vp_in_nI (n := 21) (N := 45783) (by omega) (by omega)) (by rw [(show (21 : Int32).toNatClampNeg = 21 from nI_clamp (n := 21) (by omega))]) dX9_change_72 ?_
        refine gn_i (fun x656 => ?_)
        have hB : Bx B0 D _ [((κ w).2.2.2, .inl (cs 0, 45783, .inl g631)), (w, .inr (9, [.int f630_0, .ref f630_1, .int (nI ((κ w).2.2.1)), .int (nI f630_3), .int (nI f630_4), .int f630_5, .int f630_6, .int f630_7, .ref (κ w).2.2.2, .ref f630_9, .ref f630_10, .ref f630_11, .int (nI f630_12), .int f630_13, .int f630_14, .int f630_15, .int f630_16, .ref f630_17]))] [] _ _ := Bx.of (fun a => (κ a).1) hL hP (fa_c hb631 (fa_c hb630 fa_n)) (by simp only [List.map_cons, List.map_nil, t630_8.1, hw.1]; decide)
        refine b_i hx hb hN hB 0 rfl (vp_in_nI (n := 21) (N := 45783) (by omega) (by omega)) (.inl rfl) dX9_change_73 (fun H locs hB => ?_)
        rw [(show (21 : Int32).toNatClampNeg = 21 from nI_clamp (n := 21) (by omega))] at hB
        have hB : Bx B0 D _ [((κ w).2.2.2, .inl (cs 0, 45783, .inl (upd g631 21 x656))), (w, .inr (9, [.int f630_0, .ref f630_1, .int (nI ((κ w).2.2.1)), .int (nI f630_3), .int (nI f630_4), .int f630_5, .int f630_6, .int f630_7, .ref (κ w).2.2.2, .ref f630_9, .ref f630_10, .ref f630_11, .int (nI f630_12), .int f630_13, .int f630_14, .int f630_15, .int f630_16, .ref f630_17]))] [(κ w).2.2.2] _ _ := hB
        have z657 := DOK.sf q631 (k := 21) (by omega) (x := x656)
        refine lv_aload_n hx hb dX9_change_74 rfl (lv_at hl 1 rfl) ?_
        refine va_get (D := D) (ci := 9) (v := .ref (κ w).2.2.2) (C := RX9) (T := TX9) (N := 18) hx hb hts iX9_change_9 hown hN.1 hB.1 1 rfl rfl 8 (by decide) (hts _ mX9_change_1) (fun _ h9 => h9) rfl dX9_change_75 ?_
        refine lv_bipush (v := 22) hx hb dX9_change_78 (by decide) ?_
        refine lv_aload_n hx hb dX9_change_80 rfl (lv_at hl 1 rfl) ?_
        refine va_get (D := D) (ci := 9) (v := .ref (κ w).2.2.2) (C := RX9) (T := TX9) (N := 18) hx hb hts iX9_change_9 hown hN.1 hB.1 1 rfl rfl 8 (by decide) (hts _ mX9_change_1) (fun _ h9 => h9) rfl dX9_change_81 ?_
        refine lv_iconst (v := 1) hx hb dX9_change_84 (by decide) ?_
        refine ld_i (v := ((upd g631 21 x656) 1)) hx hb hN hB.1 0 rfl (vp_in_nI (n := 1) (N := 45783) (by omega) (by omega)) (by rw [(show (1 : Int32).toNatClampNeg = 1 from nI_clamp (n := 1) (by omega))]) dX9_change_85 ?_
        refine gn_i (fun x658 => ?_)
        refine b_i hx hb hN hB 0 rfl (vp_in_nI (n := 22) (N := 45783) (by omega) (by omega)) (.inr ⟨rfl, List.mem_of_getElem? (i := 0) rfl⟩) dX9_change_86 (fun H locs hB => ?_)
        rw [(show (22 : Int32).toNatClampNeg = 22 from nI_clamp (n := 22) (by omega))] at hB
        have hB : Bx B0 D _ [((κ w).2.2.2, .inl (cs 0, 45783, .inl (upd (upd g631 21 x656) 22 x658))), (w, .inr (9, [.int f630_0, .ref f630_1, .int (nI ((κ w).2.2.1)), .int (nI f630_3), .int (nI f630_4), .int f630_5, .int f630_6, .int f630_7, .ref (κ w).2.2.2, .ref f630_9, .ref f630_10, .ref f630_11, .int (nI f630_12), .int f630_13, .int f630_14, .int f630_15, .int f630_16, .ref f630_17]))] [(κ w).2.2.2] _ _ := hB
        have z659 := DOK.sf z657 (k := 22) (by omega) (x := x658)
        refine lv_aload_n hx hb dX9_change_87 rfl (lv_at hl 1 rfl) ?_
        refine lv_iload_n hx hb dX9_change_88 rfl (lv_at hl 2 rfl) ?_
        refine lv_iconst (v := 4) hx hb dX9_change_89 (by decide) ?_
        refine lv_aload_n hx hb dX9_change_90 rfl (lv_at hl 1 rfl) ?_
        refine lv_iload_n hx hb dX9_change_91 rfl (lv_at hl 2 rfl) ?_
        refine lv_bipush (v := 7) hx hb dX9_change_92 (by decide) ?_
        have hT : WT B0 D cs T κ _ := hT.close hB ⟨⟨0, _, rfl, ok_24 t630_8.1 ⟨_, rfl, z659⟩⟩, trivial⟩
        have hF : Fr B0 [18] κ H0 _ := hF.close hB (fa_c (by simp [t630_8.2]) fa_n)
        have hL : OkL B0 _ := hB.2.2.2.2.2
        have hP : va_P D vwCl [((κ w).2.2.2, .inl (cs 0, 45783, .inl (upd (upd g631 21 x656) 22 x658))), (w, .inr (9, [.int f630_0, .ref f630_1, .int (nI ((κ w).2.2.1)), .int (nI f630_3), .int (nI f630_4), .int f630_5, .int f630_6, .int f630_7, .ref (κ w).2.2.2, .ref f630_9, .ref f630_10, .ref f630_11, .int (nI f630_12), .int f630_13, .int f630_14, .int f630_15, .int f630_16, .ref f630_17]))] _ := hB.1
        refine cv_i (As := [.int (nI n), .int 7]) (rest := [.int 4, .int (nI n), .ref w]) (b := w) ⟨hx, hb, hml, hown, hts⟩ (c_X9_of hT (w := w) hw (n := n) (k := 7) (by first | omega | decide | assumption) (by first | omega | decide | assumption)) (cwV 2 hts gX9_change_X9_of rfl rfl rfl hdX9_of_v ⟨Nat.le_of_ble_eq_true rfl, Nat.le_of_ble_eq_true rfl⟩) hN hE hL (rcv10 hN hT hw.1) rfl rfl hl.1 (Nat.le_of_ble_eq_true rfl) dX9_change_94 (Nat.zero_le _) (Nat.zero_le _) (fun r660 H1 locs hL hqr660 => ?_)
        obtain rfl := hqr660.symm
        refine cv_v (As := [.int (nI n), .int 4, .int r660]) (rest := []) (b := w) ⟨hx, hb, hml, hown, hts⟩ (c_X9_set hT (w := w) hw (n := n) (k := 4) (x := r660) (by first | omega | decide | assumption) (by first | omega | decide | assumption)) (cwV 3 hts gX9_change_X9_set rfl rfl rfl hdX9_set_v ⟨Nat.le_of_ble_eq_true rfl, Nat.le_of_ble_eq_true rfl⟩) hN hE hL (rcv10 hN hT hw.1) rfl rfl hl.1 (Nat.le_of_ble_eq_true rfl) dX9_change_97 (Nat.zero_le _) (Nat.zero_le _) (fun H1 locs hL hqr661 => ?_)
        obtain ⟨hT1, hF1⟩ := hqr661
        have hP : va_P D vwCl [(w, .inr (9, [.int f630_0, .ref f630_1, .int (nI ((κ w).2.2.1)), .int (nI f630_3), .int (nI f630_4), .int f630_5, .int f630_6, .int f630_7, .ref (κ w).2.2.2, .ref f630_9, .ref f630_10, .ref f630_11, .int (nI f630_12), .int f630_13, .int f630_14, .int f630_15, .int f630_16, .ref f630_17]))] _ := hF1.hP (hP.sub [1] rfl) (fa_c ⟨by rw [hw.1]; decide, by rw [hw.2]; first | decide | (simp; done) | (simp; omega)⟩ fa_n)
        have hF := hF.tr (hF1.mono (by simp))
        have hT := hT1
        refine lv_aload_n hx hb dX9_change_100 rfl (lv_at hl 1 rfl) ?_
        refine lv_iload_n hx hb dX9_change_101 rfl (lv_at hl 2 rfl) ?_
        refine lv_bipush (v := 9) hx hb dX9_change_102 (by decide) ?_
        refine lv_aload_n hx hb dX9_change_104 rfl (lv_at hl 1 rfl) ?_
        refine lv_iload_n hx hb dX9_change_105 rfl (lv_at hl 2 rfl) ?_
        refine lv_bipush (v := 9) hx hb dX9_change_106 (by decide) ?_
        refine cv_i (As := [.int (nI n), .int 9]) (rest := [.int 9, .int (nI n), .ref w]) (b := w) ⟨hx, hb, hml, hown, hts⟩ (c_X9_of hT (w := w) hw (n := n) (k := 9) (by first | omega | decide | assumption) (by first | omega | decide | assumption)) (cwV 2 hts gX9_change_X9_of rfl rfl rfl hdX9_of_v ⟨Nat.le_of_ble_eq_true rfl, Nat.le_of_ble_eq_true rfl⟩) hN hE hL (rcv10 hN hT hw.1) rfl rfl hl.1 (Nat.le_of_ble_eq_true rfl) dX9_change_108 (Nat.zero_le _) (Nat.zero_le _) (fun r662 H1 locs hL hqr662 => ?_)
        obtain rfl := hqr662.symm
        refine lv_iconst (v := 1) hx hb dX9_change_111 (by decide) ?_
        refine lv_iadd hx hb dX9_change_112 ?_
        refine gn_i (fun x663 => ?_)
        refine cv_v (As := [.int (nI n), .int 9, .int x663]) (rest := []) (b := w) ⟨hx, hb, hml, hown, hts⟩ (c_X9_set hT (w := w) hw (n := n) (k := 9) (x := x663) (by first | omega | decide | assumption) (by first | omega | decide | assumption)) (cwV 3 hts gX9_change_X9_set rfl rfl rfl hdX9_set_v ⟨Nat.le_of_ble_eq_true rfl, Nat.le_of_ble_eq_true rfl⟩) hN hE hL (rcv10 hN hT hw.1) rfl rfl hl.1 (Nat.le_of_ble_eq_true rfl) dX9_change_113 (Nat.zero_le _) (Nat.zero_le _) (fun H1 locs hL hqr664 => ?_)
        obtain ⟨hT1, hF1⟩ := hqr664
        have hP : va_P D vwCl [(w, .inr (9, [.int f630_0, .ref f630_1, .int (nI ((κ w).2.2.1)), .int (nI f630_3), .int (nI f630_4), .int f630_5, .int f630_6, .int f630_7, .ref (κ w).2.2.2, .ref f630_9, .ref f630_10, .ref f630_11, .int (nI f630_12), .int f630_13, .int f630_14, .int f630_15, .int f630_16, .ref f630_17]))] _ := hF1.hP (hP.sub [0] rfl) (fa_c ⟨by rw [hw.1]; decide, by rw [hw.2]; first | decide | (simp; done) | (simp; omega)⟩ fa_n)
        have hF := hF.tr (hF1.mono (by simp))
        have hT := hT1
        refine lv_aload_n hx hb dX9_change_116 rfl (lv_at hl 1 rfl) ?_
        refine lv_iload_n hx hb dX9_change_117 rfl (lv_at hl 2 rfl) ?_
        refine lv_bipush (v := 10) hx hb dX9_change_118 (by decide) ?_
        refine lv_aload_n hx hb dX9_change_120 rfl (lv_at hl 1 rfl) ?_
        refine lv_iload_n hx hb dX9_change_121 rfl (lv_at hl 2 rfl) ?_
        refine lv_bipush (v := 10) hx hb dX9_change_122 (by decide) ?_
        refine cv_i (As := [.int (nI n), .int 10]) (rest := [.int 10, .int (nI n), .ref w]) (b := w) ⟨hx, hb, hml, hown, hts⟩ (c_X9_of hT (w := w) hw (n := n) (k := 10) (by first | omega | decide | assumption) (by first | omega | decide | assumption)) (cwV 2 hts gX9_change_X9_of rfl rfl rfl hdX9_of_v ⟨Nat.le_of_ble_eq_true rfl, Nat.le_of_ble_eq_true rfl⟩) hN hE hL (rcv10 hN hT hw.1) rfl rfl hl.1 (Nat.le_of_ble_eq_true rfl) dX9_change_124 (Nat.zero_le _) (Nat.zero_le _) (fun r665 H1 locs hL hqr665 => ?_)
        obtain rfl := hqr665.symm
        refine lv_iload_n hx hb dX9_change_127 rfl (lv_at hl 0 rfl) ?_
        refine lv_iadd hx hb dX9_change_128 ?_
        refine gn_i (fun x666 => ?_)
        refine cv_v (As := [.int (nI n), .int 10, .int x666]) (rest := []) (b := w) ⟨hx, hb, hml, hown, hts⟩ (c_X9_set hT (w := w) hw (n := n) (k := 10) (x := x666) (by first | omega | decide | assumption) (by first | omega | decide | assumption)) (cwV 3 hts gX9_change_X9_set rfl rfl rfl hdX9_set_v ⟨Nat.le_of_ble_eq_true rfl, Nat.le_of_ble_eq_true rfl⟩) hN hE hL (rcv10 hN hT hw.1) rfl rfl hl.1 (Nat.le_of_ble_eq_true rfl) dX9_change_129 (Nat.zero_le _) (Nat.zero_le _) (fun H1 locs hL hqr667 => ?_)
        obtain ⟨hT1, hF1⟩ := hqr667
        have hP : va_P D vwCl [(w, .inr (9, [.int f630_0, .ref f630_1, .int (nI ((κ w).2.2.1)), .int (nI f630_3), .int (nI f630_4), .int f630_5, .int f630_6, .int f630_7, .ref (κ w).2.2.2, .ref f630_9, .ref f630_10, .ref f630_11, .int (nI f630_12), .int f630_13, .int f630_14, .int f630_15, .int f630_16, .ref f630_17]))] _ := hF1.hP (hP.sub [0] rfl) (fa_c ⟨by rw [hw.1]; decide, by rw [hw.2]; first | decide | (simp; done) | (simp; omega)⟩ fa_n)
        have hF := hF.tr (hF1.mono (by simp))
        have hT := hT1
        refine lv_aload_n hx hb dX9_change_132 rfl (lv_at hl 1 rfl) ?_
        refine lv_iload_n hx hb dX9_change_133 rfl (lv_at hl 2 rfl) ?_
        refine lv_bipush (v := 11) hx hb dX9_change_134 (by decide) ?_
        refine lv_aload_n hx hb dX9_change_136 rfl (lv_at hl 1 rfl) ?_
        refine va_get (D := D) (ci := 9) (v := .ref (κ w).2.2.2) (C := RX9) (T := TX9) (N := 18) hx hb hts iX9_change_9 hown hN.1 hP 0 rfl rfl 8 (by decide) (hts _ mX9_change_1) (fun _ h9 => h9) rfl dX9_change_137 ?_
        refine lv_iconst (v := 1) hx hb dX9_change_140 (by decide) ?_
        obtain ⟨hb668, e668, hat668, hk668⟩ := hT.o24 t630_8.1
        obtain ⟨g668, rfl, q668⟩ := hk668
        have hP : va_P D vwCl [((κ w).2.2.2, .inl (cs 0, 45783, .inl g668)), (w, .inr (9, [.int f630_0, .ref f630_1, .int (nI ((κ w).2.2.1)), .int (nI f630_3), .int (nI f630_4), .int f630_5, .int f630_6, .int f630_7, .ref (κ w).2.2.2, .ref f630_9, .ref f630_10, .ref f630_11, .int (nI f630_12), .int f630_13, .int f630_14, .int f630_15, .int f630_16, .ref f630_17]))] _ := va_P.cons hat668 hP
        refine ld_i (v := (g668 1)) hx hb hN hP 0 rfl (vp_in_nI (n := 1) (N := 45783) (by omega) (by omega)) (by rw [(show (1 : Int32).toNatClampNeg = 1 from nI_clamp (n := 1) (by omega))]) dX9_change_141 ?_
        refine gn_i (fun x669 => ?_)
        refine cv_v (As := [.int (nI n), .int 11, .int x669]) (rest := []) (b := w) ⟨hx, hb, hml, hown, hts⟩ (c_X9_set hT (w := w) hw (n := n) (k := 11) (x := x669) (by first | omega | decide | assumption) (by first | omega | decide | assumption)) (cwV 3 hts gX9_change_X9_set rfl rfl rfl hdX9_set_v ⟨Nat.le_of_ble_eq_true rfl, Nat.le_of_ble_eq_true rfl⟩) hN hE hL (rcv10 hN hT hw.1) rfl rfl hl.1 (Nat.le_of_ble_eq_true rfl) dX9_change_142 (Nat.zero_le _) (Nat.zero_le _) (fun H1 locs hL hqr670 => ?_)
        obtain ⟨hT1, hF1⟩ := hqr670
        have hP : va_P D vwCl [(w, .inr (9, [.int f630_0, .ref f630_1, .int (nI ((κ w).2.2.1)), .int (nI f630_3), .int (nI f630_4), .int f630_5, .int f630_6, .int f630_7, .ref (κ w).2.2.2, .ref f630_9, .ref f630_10, .ref f630_11, .int (nI f630_12), .int f630_13, .int f630_14, .int f630_15, .int f630_16, .ref f630_17]))] _ := hF1.hP (hP.sub [1] rfl) (fa_c ⟨by rw [hw.1]; decide, by rw [hw.2]; first | decide | (simp; done) | (simp; omega)⟩ fa_n)
        have hF := hF.tr (hF1.mono (by simp))
        have hT := hT1
        refine lv_aload_n hx hb dX9_change_145 rfl (lv_at hl 1 rfl) ?_
        refine lv_iload_n hx hb dX9_change_146 rfl (lv_at hl 2 rfl) ?_
        refine cv_v (As := [.int (nI n)]) (rest := []) (b := w) ⟨hx, hb, hml, hown, hts⟩ (c_X9_dropPlan hT (w := w) hw (n := n) (by first | omega | decide | assumption)) (cwV 1 hts gX9_change_X9_dropPlan rfl rfl rfl hdX9_dropPlan_v ⟨Nat.le_of_ble_eq_true rfl, Nat.le_of_ble_eq_true rfl⟩) hN hE hL (rcv10 hN hT hw.1) rfl rfl hl.1 (Nat.le_of_ble_eq_true rfl) dX9_change_147 (Nat.zero_le _) (Nat.zero_le _) (fun H1 locs hL hqr671 => ?_)
        obtain ⟨hT1, hF1⟩ := hqr671
        have hP : va_P D vwCl [(w, .inr (9, [.int f630_0, .ref f630_1, .int (nI ((κ w).2.2.1)), .int (nI f630_3), .int (nI f630_4), .int f630_5, .int f630_6, .int f630_7, .ref (κ w).2.2.2, .ref f630_9, .ref f630_10, .ref f630_11, .int (nI f630_12), .int f630_13, .int f630_14, .int f630_15, .int f630_16, .ref f630_17]))] _ := hF1.hP (hP.sub [0] rfl) (fa_c ⟨by rw [hw.1]; decide, by rw [hw.2]; first | decide | (simp; done) | (simp; omega)⟩ fa_n)
        have hF := hF.tr (hF1.mono (by simp))
        have hT := hT1
        refine lv_aload_n hx hb dX9_change_150 rfl (lv_at hl 1 rfl) ?_
        refine va_get (D := D) (ci := 9) (v := .ref (κ w).2.2.2) (C := RX9) (T := TX9) (N := 18) hx hb hts iX9_change_9 hown hN.1 hP 0 rfl rfl 8 (by decide) (hts _ mX9_change_1) (fun _ h9 => h9) rfl dX9_change_151 ?_
        refine lv_bipush (v := 9) hx hb dX9_change_154 (by decide) ?_
        refine lv_dup2_11 hx hb dX9_change_156 rfl rfl ?_
        obtain ⟨hb672, e672, hat672, hk672⟩ := hT.o24 t630_8.1
        obtain ⟨g672, rfl, q672⟩ := hk672
        have hP : va_P D vwCl [((κ w).2.2.2, .inl (cs 0, 45783, .inl g672)), (w, .inr (9, [.int f630_0, .ref f630_1, .int (nI ((κ w).2.2.1)), .int (nI f630_3), .int (nI f630_4), .int f630_5, .int f630_6, .int f630_7, .ref (κ w).2.2.2, .ref f630_9, .ref f630_10, .ref f630_11, .int (nI f630_12), .int f630_13, .int f630_14, .int f630_15, .int f630_16, .ref f630_17]))] _ := va_P.cons hat672 hP
        refine ld_i (v := (g672 9)) hx hb hN hP 0 rfl (vp_in_nI (n := 9) (N := 45783) (by omega) (by omega)) (by rw [(show (9 : Int32).toNatClampNeg = 9 from nI_clamp (n := 9) (by omega))]) dX9_change_157 ?_
        refine gn_i (fun x673 => ?_)
        refine lv_iconst (v := 1) hx hb dX9_change_158 (by decide) ?_
        refine lv_iadd hx hb dX9_change_159 ?_
        refine gn_i (fun x674 => ?_)
        have hB : Bx B0 D _ [((κ w).2.2.2, .inl (cs 0, 45783, .inl g672)), (w, .inr (9, [.int f630_0, .ref f630_1, .int (nI ((κ w).2.2.1)), .int (nI f630_3), .int (nI f630_4), .int f630_5, .int f630_6, .int f630_7, .ref (κ w).2.2.2, .ref f630_9, .ref f630_10, .ref f630_11, .int (nI f630_12), .int f630_13, .int f630_14, .int f630_15, .int f630_16, .ref f630_17]))] [] _ _ := Bx.of (fun a => (κ a).1) hL hP (fa_c hb672 (fa_c hb630 fa_n)) (by simp only [List.map_cons, List.map_nil, t630_8.1, hw.1]; decide)
        refine b_i hx hb hN hB 0 rfl (vp_in_nI (n := 9) (N := 45783) (by omega) (by omega)) (.inl rfl) dX9_change_160 (fun H locs hB => ?_)
        rw [(show (9 : Int32).toNatClampNeg = 9 from nI_clamp (n := 9) (by omega))] at hB
        have hB : Bx B0 D _ [((κ w).2.2.2, .inl (cs 0, 45783, .inl (upd g672 9 x674))), (w, .inr (9, [.int f630_0, .ref f630_1, .int (nI ((κ w).2.2.1)), .int (nI f630_3), .int (nI f630_4), .int f630_5, .int f630_6, .int f630_7, .ref (κ w).2.2.2, .ref f630_9, .ref f630_10, .ref f630_11, .int (nI f630_12), .int f630_13, .int f630_14, .int f630_15, .int f630_16, .ref f630_17]))] [(κ w).2.2.2] _ _ := hB
        have z675 := DOK.sf q672 (k := 9) (by omega) (x := x674)
        refine lv_aload_n hx hb dX9_change_161 rfl (lv_at hl 1 rfl) ?_
        refine va_get (D := D) (ci := 9) (v := .ref (κ w).2.2.2) (C := RX9) (T := TX9) (N := 18) hx hb hts iX9_change_9 hown hN.1 hB.1 1 rfl rfl 8 (by decide) (hts _ mX9_change_1) (fun _ h9 => h9) rfl dX9_change_162 ?_
        refine lv_bipush (v := 10) hx hb dX9_change_165 (by decide) ?_
        refine lv_dup2_11 hx hb dX9_change_167 rfl rfl ?_
        refine ld_i (v := ((upd g672 9 x674) 10)) hx hb hN hB.1 0 rfl (vp_in_nI (n := 10) (N := 45783) (by omega) (by omega)) (by rw [(show (10 : Int32).toNatClampNeg = 10 from nI_clamp (n := 10) (by omega))]) dX9_change_168 ?_
        refine gn_i (fun x676 => ?_)
        refine lv_iload_n hx hb dX9_change_169 rfl (lv_at hl 0 rfl) ?_
        refine lv_iadd hx hb dX9_change_170 ?_
        refine gn_i (fun x677 => ?_)
        refine b_i hx hb hN hB 0 rfl (vp_in_nI (n := 10) (N := 45783) (by omega) (by omega)) (.inr ⟨rfl, List.mem_of_getElem? (i := 0) rfl⟩) dX9_change_171 (fun H locs hB => ?_)
        rw [(show (10 : Int32).toNatClampNeg = 10 from nI_clamp (n := 10) (by omega))] at hB
        have hB : Bx B0 D _ [((κ w).2.2.2, .inl (cs 0, 45783, .inl (upd (upd g672 9 x674) 10 x677))), (w, .inr (9, [.int f630_0, .ref f630_1, .int (nI ((κ w).2.2.1)), .int (nI f630_3), .int (nI f630_4), .int f630_5, .int f630_6, .int f630_7, .ref (κ w).2.2.2, .ref f630_9, .ref f630_10, .ref f630_11, .int (nI f630_12), .int f630_13, .int f630_14, .int f630_15, .int f630_16, .ref f630_17]))] [(κ w).2.2.2] _ _ := hB
        have z678 := DOK.sf z675 (k := 10) (by omega) (x := x677)
        have hT : WT B0 D cs T κ _ := hT.close hB ⟨⟨0, _, rfl, ok_24 t630_8.1 ⟨_, rfl, z678⟩⟩, trivial⟩
        have hF : Fr B0 [18] κ H0 _ := hF.close hB (fa_c (by simp [t630_8.2]) fa_n)
        have hL : OkL B0 _ := hB.2.2.2.2.2
        have hP : va_P D vwCl [((κ w).2.2.2, .inl (cs 0, 45783, .inl (upd (upd g672 9 x674) 10 x677))), (w, .inr (9, [.int f630_0, .ref f630_1, .int (nI ((κ w).2.2.1)), .int (nI f630_3), .int (nI f630_4), .int f630_5, .int f630_6, .int f630_7, .ref (κ w).2.2.2, .ref f630_9, .ref f630_10, .ref f630_11, .int (nI f630_12), .int f630_13, .int f630_14, .int f630_15, .int f630_16, .ref f630_17]))] _ := hB.1
        exact en_v hx hb hr hlocks hL (Nat.zero_le _) (Nat.zero_le _) dX9_change_172 (⟨hT, hF⟩)
      · refine lv_aload_n hx hb dX9_change_57 rfl (lv_at hl 1 rfl) ?_
        refine va_get (D := D) (ci := 9) (v := .ref (κ w).2.2.2) (C := RX9) (T := TX9) (N := 18) hx hb hts iX9_change_9 hown hN.1 hP 1 rfl rfl 8 (by decide) (hts _ mX9_change_1) (fun _ h9 => h9) rfl dX9_change_58 ?_
        refine lv_iconst (v := 1) hx hb dX9_change_61 (by decide) ?_
        refine ld_i (v := (g631 1)) hx hb hN hP 0 rfl (vp_in_nI (n := 1) (N := 45783) (by omega) (by omega)) (by rw [(show (1 : Int32).toNatClampNeg = 1 from nI_clamp (n := 1) (by omega))]) dX9_change_62 ?_
        refine gn_i (fun x679 => ?_)
        refine lv_goto (tgt := 73) hx hb dX9_change_63 (by decide) ?_
        have hB : Bx B0 D _ [((κ w).2.2.2, .inl (cs 0, 45783, .inl g631)), (w, .inr (9, [.int f630_0, .ref f630_1, .int (nI ((κ w).2.2.1)), .int (nI f630_3), .int (nI f630_4), .int f630_5, .int f630_6, .int f630_7, .ref (κ w).2.2.2, .ref f630_9, .ref f630_10, .ref f630_11, .int (nI f630_12), .int f630_13, .int f630_14, .int f630_15, .int f630_16, .ref f630_17]))] [] _ _ := Bx.of (fun a => (κ a).1) hL hP (fa_c hb631 (fa_c hb630 fa_n)) (by simp only [List.map_cons, List.map_nil, t630_8.1, hw.1]; decide)
        refine b_i hx hb hN hB 0 rfl (vp_in_nI (n := 21) (N := 45783) (by omega) (by omega)) (.inl rfl) dX9_change_73 (fun H locs hB => ?_)
        rw [(show (21 : Int32).toNatClampNeg = 21 from nI_clamp (n := 21) (by omega))] at hB
        have hB : Bx B0 D _ [((κ w).2.2.2, .inl (cs 0, 45783, .inl (upd g631 21 x679))), (w, .inr (9, [.int f630_0, .ref f630_1, .int (nI ((κ w).2.2.1)), .int (nI f630_3), .int (nI f630_4), .int f630_5, .int f630_6, .int f630_7, .ref (κ w).2.2.2, .ref f630_9, .ref f630_10, .ref f630_11, .int (nI f630_12), .int f630_13, .int f630_14, .int f630_15, .int f630_16, .ref f630_17]))] [(κ w).2.2.2] _ _ := hB
        have z680 := DOK.sf q631 (k := 21) (by omega) (x := x679)
        refine lv_aload_n hx hb dX9_change_74 rfl (lv_at hl 1 rfl) ?_
        refine va_get (D := D) (ci := 9) (v := .ref (κ w).2.2.2) (C := RX9) (T := TX9) (N := 18) hx hb hts iX9_change_9 hown hN.1 hB.1 1 rfl rfl 8 (by decide) (hts _ mX9_change_1) (fun _ h9 => h9) rfl dX9_change_75 ?_
        refine lv_bipush (v := 22) hx hb dX9_change_78 (by decide) ?_
        refine lv_aload_n hx hb dX9_change_80 rfl (lv_at hl 1 rfl) ?_
        refine va_get (D := D) (ci := 9) (v := .ref (κ w).2.2.2) (C := RX9) (T := TX9) (N := 18) hx hb hts iX9_change_9 hown hN.1 hB.1 1 rfl rfl 8 (by decide) (hts _ mX9_change_1) (fun _ h9 => h9) rfl dX9_change_81 ?_
        refine lv_iconst (v := 1) hx hb dX9_change_84 (by decide) ?_
        refine ld_i (v := ((upd g631 21 x679) 1)) hx hb hN hB.1 0 rfl (vp_in_nI (n := 1) (N := 45783) (by omega) (by omega)) (by rw [(show (1 : Int32).toNatClampNeg = 1 from nI_clamp (n := 1) (by omega))]) dX9_change_85 ?_
        refine gn_i (fun x681 => ?_)
        refine b_i hx hb hN hB 0 rfl (vp_in_nI (n := 22) (N := 45783) (by omega) (by omega)) (.inr ⟨rfl, List.mem_of_getElem? (i := 0) rfl⟩) dX9_change_86 (fun H locs hB => ?_)
        rw [(show (22 : Int32).toNatClampNeg = 22 from nI_clamp (n := 22) (by omega))] at hB
        have hB : Bx B0 D _ [((κ w).2.2.2, .inl (cs 0, 45783, .inl (upd (upd g631 21 x679) 22 x681))), (w, .inr (9, [.int f630_0, .ref f630_1, .int (nI ((κ w).2.2.1)), .int (nI f630_3), .int (nI f630_4), .int f630_5, .int f630_6, .int f630_7, .ref (κ w).2.2.2, .ref f630_9, .ref f630_10, .ref f630_11, .int (nI f630_12), .int f630_13, .int f630_14, .int f630_15, .int f630_16, .ref f630_17]))] [(κ w).2.2.2] _ _ := hB
        have z682 := DOK.sf z680 (k := 22) (by omega) (x := x681)
        refine lv_aload_n hx hb dX9_change_87 rfl (lv_at hl 1 rfl) ?_
        refine lv_iload_n hx hb dX9_change_88 rfl (lv_at hl 2 rfl) ?_
        refine lv_iconst (v := 4) hx hb dX9_change_89 (by decide) ?_
        refine lv_aload_n hx hb dX9_change_90 rfl (lv_at hl 1 rfl) ?_
        refine lv_iload_n hx hb dX9_change_91 rfl (lv_at hl 2 rfl) ?_
        refine lv_bipush (v := 7) hx hb dX9_change_92 (by decide) ?_
        have hT : WT B0 D cs T κ _ := hT.close hB ⟨⟨0, _, rfl, ok_24 t630_8.1 ⟨_, rfl, z682⟩⟩, trivial⟩
        have hF : Fr B0 [18] κ H0 _ := hF.close hB (fa_c (by simp [t630_8.2]) fa_n)
        have hL : OkL B0 _ := hB.2.2.2.2.2
        have hP : va_P D vwCl [((κ w).2.2.2, .inl (cs 0, 45783, .inl (upd (upd g631 21 x679) 22 x681))), (w, .inr (9, [.int f630_0, .ref f630_1, .int (nI ((κ w).2.2.1)), .int (nI f630_3), .int (nI f630_4), .int f630_5, .int f630_6, .int f630_7, .ref (κ w).2.2.2, .ref f630_9, .ref f630_10, .ref f630_11, .int (nI f630_12), .int f630_13, .int f630_14, .int f630_15, .int f630_16, .ref f630_17]))] _ := hB.1
        refine cv_i (As := [.int (nI n), .int 7]) (rest := [.int 4, .int (nI n), .ref w]) (b := w) ⟨hx, hb, hml, hown, hts⟩ (c_X9_of hT (w := w) hw (n := n) (k := 7) (by first | omega | decide | assumption) (by first | omega | decide | assumption)) (cwV 2 hts gX9_change_X9_of rfl rfl rfl hdX9_of_v ⟨Nat.le_of_ble_eq_true rfl, Nat.le_of_ble_eq_true rfl⟩) hN hE hL (rcv10 hN hT hw.1) rfl rfl hl.1 (Nat.le_of_ble_eq_true rfl) dX9_change_94 (Nat.zero_le _) (Nat.zero_le _) (fun r683 H1 locs hL hqr683 => ?_)
        obtain rfl := hqr683.symm
        refine cv_v (As := [.int (nI n), .int 4, .int r683]) (rest := []) (b := w) ⟨hx, hb, hml, hown, hts⟩ (c_X9_set hT (w := w) hw (n := n) (k := 4) (x := r683) (by first | omega | decide | assumption) (by first | omega | decide | assumption)) (cwV 3 hts gX9_change_X9_set rfl rfl rfl hdX9_set_v ⟨Nat.le_of_ble_eq_true rfl, Nat.le_of_ble_eq_true rfl⟩) hN hE hL (rcv10 hN hT hw.1) rfl rfl hl.1 (Nat.le_of_ble_eq_true rfl) dX9_change_97 (Nat.zero_le _) (Nat.zero_le _) (fun H1 locs hL hqr684 => ?_)
        obtain ⟨hT1, hF1⟩ := hqr684
        have hP : va_P D vwCl [(w, .inr (9, [.int f630_0, .ref f630_1, .int (nI ((κ w).2.2.1)), .int (nI f630_3), .int (nI f630_4), .int f630_5, .int f630_6, .int f630_7, .ref (κ w).2.2.2, .ref f630_9, .ref f630_10, .ref f630_11, .int (nI f630_12), .int f630_13, .int f630_14, .int f630_15, .int f630_16, .ref f630_17]))] _ := hF1.hP (hP.sub [1] rfl) (fa_c ⟨by rw [hw.1]; decide, by rw [hw.2]; first | decide | (simp; done) | (simp; omega)⟩ fa_n)
        have hF := hF.tr (hF1.mono (by simp))
        have hT := hT1
        refine lv_aload_n hx hb dX9_change_100 rfl (lv_at hl 1 rfl) ?_
        refine lv_iload_n hx hb dX9_change_101 rfl (lv_at hl 2 rfl) ?_
        refine lv_bipush (v := 9) hx hb dX9_change_102 (by decide) ?_
        refine lv_aload_n hx hb dX9_change_104 rfl (lv_at hl 1 rfl) ?_
        refine lv_iload_n hx hb dX9_change_105 rfl (lv_at hl 2 rfl) ?_
        refine lv_bipush (v := 9) hx hb dX9_change_106 (by decide) ?_
        refine cv_i (As := [.int (nI n), .int 9]) (rest := [.int 9, .int (nI n), .ref w]) (b := w) ⟨hx, hb, hml, hown, hts⟩ (c_X9_of hT (w := w) hw (n := n) (k := 9) (by first | omega | decide | assumption) (by first | omega | decide | assumption)) (cwV 2 hts gX9_change_X9_of rfl rfl rfl hdX9_of_v ⟨Nat.le_of_ble_eq_true rfl, Nat.le_of_ble_eq_true rfl⟩) hN hE hL (rcv10 hN hT hw.1) rfl rfl hl.1 (Nat.le_of_ble_eq_true rfl) dX9_change_108 (Nat.zero_le _) (Nat.zero_le _) (fun r685 H1 locs hL hqr685 => ?_)
        obtain rfl := hqr685.symm
        refine lv_iconst (v := 1) hx hb dX9_change_111 (by decide) ?_
        refine lv_iadd hx hb dX9_change_112 ?_
        refine gn_i (fun x686 => ?_)
        refine cv_v (As := [.int (nI n), .int 9, .int x686]) (rest := []) (b := w) ⟨hx, hb, hml, hown, hts⟩ (c_X9_set hT (w := w) hw (n := n) (k := 9) (x := x686) (by first | omega | decide | assumption) (by first | omega | decide | assumption)) (cwV 3 hts gX9_change_X9_set rfl rfl rfl hdX9_set_v ⟨Nat.le_of_ble_eq_true rfl, Nat.le_of_ble_eq_true rfl⟩) hN hE hL (rcv10 hN hT hw.1) rfl rfl hl.1 (Nat.le_of_ble_eq_true rfl) dX9_change_113 (Nat.zero_le _) (Nat.zero_le _) (fun H1 locs hL hqr687 => ?_)
        obtain ⟨hT1, hF1⟩ := hqr687
        have hP : va_P D vwCl [(w, .inr (9, [.int f630_0, .ref f630_1, .int (nI ((κ w).2.2.1)), .int (nI f630_3), .int (nI f630_4), .int f630_5, .int f630_6, .int f630_7, .ref (κ w).2.2.2, .ref f630_9, .ref f630_10, .ref f630_11, .int (nI f630_12), .int f630_13, .int f630_14, .int f630_15, .int f630_16, .ref f630_17]))] _ := hF1.hP (hP.sub [0] rfl) (fa_c ⟨by rw [hw.1]; decide, by rw [hw.2]; first | decide | (simp; done) | (simp; omega)⟩ fa_n)
        have hF := hF.tr (hF1.mono (by simp))
        have hT := hT1
        refine lv_aload_n hx hb dX9_change_116 rfl (lv_at hl 1 rfl) ?_
        refine lv_iload_n hx hb dX9_change_117 rfl (lv_at hl 2 rfl) ?_
        refine lv_bipush (v := 10) hx hb dX9_change_118 (by decide) ?_
        refine lv_aload_n hx hb dX9_change_120 rfl (lv_at hl 1 rfl) ?_
        refine lv_iload_n hx hb dX9_change_121 rfl (lv_at hl 2 rfl) ?_
        refine lv_bipush (v := 10) hx hb dX9_change_122 (by decide) ?_
        refine cv_i (As := [.int (nI n), .int 10]) (rest := [.int 10, .int (nI n), .ref w]) (b := w) ⟨hx, hb, hml, hown, hts⟩ (c_X9_of hT (w := w) hw (n := n) (k := 10) (by first | omega | decide | assumption) (by first | omega | decide | assumption)) (cwV 2 hts gX9_change_X9_of rfl rfl rfl hdX9_of_v ⟨Nat.le_of_ble_eq_true rfl, Nat.le_of_ble_eq_true rfl⟩) hN hE hL (rcv10 hN hT hw.1) rfl rfl hl.1 (Nat.le_of_ble_eq_true rfl) dX9_change_124 (Nat.zero_le _) (Nat.zero_le _) (fun r688 H1 locs hL hqr688 => ?_)
        obtain rfl := hqr688.symm
        refine lv_iload_n hx hb dX9_change_127 rfl (lv_at hl 0 rfl) ?_
        refine lv_iadd hx hb dX9_change_128 ?_
        refine gn_i (fun x689 => ?_)
        refine cv_v (As := [.int (nI n), .int 10, .int x689]) (rest := []) (b := w) ⟨hx, hb, hml, hown, hts⟩ (c_X9_set hT (w := w) hw (n := n) (k := 10) (x := x689) (by first | omega | decide | assumption) (by first | omega | decide | assumption)) (cwV 3 hts gX9_change_X9_set rfl rfl rfl hdX9_set_v ⟨Nat.le_of_ble_eq_true rfl, Nat.le_of_ble_eq_true rfl⟩) hN hE hL (rcv10 hN hT hw.1) rfl rfl hl.1 (Nat.le_of_ble_eq_true rfl) dX9_change_129 (Nat.zero_le _) (Nat.zero_le _) (fun H1 locs hL hqr690 => ?_)
        obtain ⟨hT1, hF1⟩ := hqr690
        have hP : va_P D vwCl [(w, .inr (9, [.int f630_0, .ref f630_1, .int (nI ((κ w).2.2.1)), .int (nI f630_3), .int (nI f630_4), .int f630_5, .int f630_6, .int f630_7, .ref (κ w).2.2.2, .ref f630_9, .ref f630_10, .ref f630_11, .int (nI f630_12), .int f630_13, .int f630_14, .int f630_15, .int f630_16, .ref f630_17]))] _ := hF1.hP (hP.sub [0] rfl) (fa_c ⟨by rw [hw.1]; decide, by rw [hw.2]; first | decide | (simp; done) | (simp; omega)⟩ fa_n)
        have hF := hF.tr (hF1.mono (by simp))
        have hT := hT1
        refine lv_aload_n hx hb dX9_change_132 rfl (lv_at hl 1 rfl) ?_
        refine lv_iload_n hx hb dX9_change_133 rfl (lv_at hl 2 rfl) ?_
        refine lv_bipush (v := 11) hx hb dX9_change_134 (by decide) ?_
        refine lv_aload_n hx hb dX9_change_136 rfl (lv_at hl 1 rfl) ?_
        refine va_get (D := D) (ci := 9) (v := .ref (κ w).2.2.2) (C := RX9) (T := TX9) (N := 18) hx hb hts iX9_change_9 hown hN.1 hP 0 rfl rfl 8 (by decide) (hts _ mX9_change_1) (fun _ h9 => h9) rfl dX9_change_137 ?_
        refine lv_iconst (v := 1) hx hb dX9_change_140 (by decide) ?_
        obtain ⟨hb691, e691, hat691, hk691⟩ := hT.o24 t630_8.1
        obtain ⟨g691, rfl, q691⟩ := hk691
        have hP : va_P D vwCl [((κ w).2.2.2, .inl (cs 0, 45783, .inl g691)), (w, .inr (9, [.int f630_0, .ref f630_1, .int (nI ((κ w).2.2.1)), .int (nI f630_3), .int (nI f630_4), .int f630_5, .int f630_6, .int f630_7, .ref (κ w).2.2.2, .ref f630_9, .ref f630_10, .ref f630_11, .int (nI f630_12), .int f630_13, .int f630_14, .int f630_15, .int f630_16, .ref f630_17]))] _ := va_P.cons hat691 hP
        refine ld_i (v := (g691 1)) hx hb hN hP 0 rfl (vp_in_nI (n := 1) (N := 45783) (by omega) (by omega)) (by rw [(show (1 : Int32).toNatClampNeg = 1 from nI_clamp (n := 1) (by omega))]) dX9_change_141 ?_
        refine gn_i (fun x692 => ?_)
        refine cv_v (As := [.int (nI n), .int 11, .int x692]) (rest := []) (b := w) ⟨hx, hb, hml, hown, hts⟩ (c_X9_set hT (w := w) hw (n := n) (k := 11) (x := x692) (by first | omega | decide | assumption) (by first | omega | decide | assumption)) (cwV 3 hts gX9_change_X9_set rfl rfl rfl hdX9_set_v ⟨Nat.le_of_ble_eq_true rfl, Nat.le_of_ble_eq_true rfl⟩) hN hE hL (rcv10 hN hT hw.1) rfl rfl hl.1 (Nat.le_of_ble_eq_true rfl) dX9_change_142 (Nat.zero_le _) (Nat.zero_le _) (fun H1 locs hL hqr693 => ?_)
        obtain ⟨hT1, hF1⟩ := hqr693
        have hP : va_P D vwCl [(w, .inr (9, [.int f630_0, .ref f630_1, .int (nI ((κ w).2.2.1)), .int (nI f630_3), .int (nI f630_4), .int f630_5, .int f630_6, .int f630_7, .ref (κ w).2.2.2, .ref f630_9, .ref f630_10, .ref f630_11, .int (nI f630_12), .int f630_13, .int f630_14, .int f630_15, .int f630_16, .ref f630_17]))] _ := hF1.hP (hP.sub [1] rfl) (fa_c ⟨by rw [hw.1]; decide, by rw [hw.2]; first | decide | (simp; done) | (simp; omega)⟩ fa_n)
        have hF := hF.tr (hF1.mono (by simp))
        have hT := hT1
        refine lv_aload_n hx hb dX9_change_145 rfl (lv_at hl 1 rfl) ?_
        refine lv_iload_n hx hb dX9_change_146 rfl (lv_at hl 2 rfl) ?_
        refine cv_v (As := [.int (nI n)]) (rest := []) (b := w) ⟨hx, hb, hml, hown, hts⟩ (c_X9_dropPlan hT (w := w) hw (n := n) (by first | omega | decide | assumption)) (cwV 1 hts gX9_change_X9_dropPlan rfl rfl rfl hdX9_dropPlan_v ⟨Nat.le_of_ble_eq_true rfl, Nat.le_of_ble_eq_true rfl⟩) hN hE hL (rcv10 hN hT hw.1) rfl rfl hl.1 (Nat.le_of_ble_eq_true rfl) dX9_change_147 (Nat.zero_le _) (Nat.zero_le _) (fun H1 locs hL hqr694 => ?_)
        obtain ⟨hT1, hF1⟩ := hqr694
        have hP : va_P D vwCl [(w, .inr (9, [.int f630_0, .ref f630_1, .int (nI ((κ w).2.2.1)), .int (nI f630_3), .int (nI f630_4), .int f630_5, .int f630_6, .int f630_7, .ref (κ w).2.2.2, .ref f630_9, .ref f630_10, .ref f630_11, .int (nI f630_12), .int f630_13, .int f630_14, .int f630_15, .int f630_16, .ref f630_17]))] _ := hF1.hP (hP.sub [0] rfl) (fa_c ⟨by rw [hw.1]; decide, by rw [hw.2]; first | decide | (simp; done) | (simp; omega)⟩ fa_n)
        have hF := hF.tr (hF1.mono (by simp))
        have hT := hT1
        refine lv_aload_n hx hb dX9_change_150 rfl (lv_at hl 1 rfl) ?_
        refine va_get (D := D) (ci := 9) (v := .ref (κ w).2.2.2) (C := RX9) (T := TX9) (N := 18) hx hb hts iX9_change_9 hown hN.1 hP 0 rfl rfl 8 (by decide) (hts _ mX9_change_1) (fun _ h9 => h9) rfl dX9_change_151 ?_
        refine lv_bipush (v := 9) hx hb dX9_change_154 (by decide) ?_
        refine lv_dup2_11 hx hb dX9_change_156 rfl rfl ?_
        obtain ⟨hb695, e695, hat695, hk695⟩ := hT.o24 t630_8.1
        obtain ⟨g695, rfl, q695⟩ := hk695
        have hP : va_P D vwCl [((κ w).2.2.2, .inl (cs 0, 45783, .inl g695)), (w, .inr (9, [.int f630_0, .ref f630_1, .int (nI ((κ w).2.2.1)), .int (nI f630_3), .int (nI f630_4), .int f630_5, .int f630_6, .int f630_7, .ref (κ w).2.2.2, .ref f630_9, .ref f630_10, .ref f630_11, .int (nI f630_12), .int f630_13, .int f630_14, .int f630_15, .int f630_16, .ref f630_17]))] _ := va_P.cons hat695 hP
        refine ld_i (v := (g695 9)) hx hb hN hP 0 rfl (vp_in_nI (n := 9) (N := 45783) (by omega) (by omega)) (by rw [(show (9 : Int32).toNatClampNeg = 9 from nI_clamp (n := 9) (by omega))]) dX9_change_157 ?_
        refine gn_i (fun x696 => ?_)
        refine lv_iconst (v := 1) hx hb dX9_change_158 (by decide) ?_
        refine lv_iadd hx hb dX9_change_159 ?_
        refine gn_i (fun x697 => ?_)
        have hB : Bx B0 D _ [((κ w).2.2.2, .inl (cs 0, 45783, .inl g695)), (w, .inr (9, [.int f630_0, .ref f630_1, .int (nI ((κ w).2.2.1)), .int (nI f630_3), .int (nI f630_4), .int f630_5, .int f630_6, .int f630_7, .ref (κ w).2.2.2, .ref f630_9, .ref f630_10, .ref f630_11, .int (nI f630_12), .int f630_13, .int f630_14, .int f630_15, .int f630_16, .ref f630_17]))] [] _ _ := Bx.of (fun a => (κ a).1) hL hP (fa_c hb695 (fa_c hb630 fa_n)) (by simp only [List.map_cons, List.map_nil, t630_8.1, hw.1]; decide)
        refine b_i hx hb hN hB 0 rfl (vp_in_nI (n := 9) (N := 45783) (by omega) (by omega)) (.inl rfl) dX9_change_160 (fun H locs hB => ?_)
        rw [(show (9 : Int32).toNatClampNeg = 9 from nI_clamp (n := 9) (by omega))] at hB
        have hB : Bx B0 D _ [((κ w).2.2.2, .inl (cs 0, 45783, .inl (upd g695 9 x697))), (w, .inr (9, [.int f630_0, .ref f630_1, .int (nI ((κ w).2.2.1)), .int (nI f630_3), .int (nI f630_4), .int f630_5, .int f630_6, .int f630_7, .ref (κ w).2.2.2, .ref f630_9, .ref f630_10, .ref f630_11, .int (nI f630_12), .int f630_13, .int f630_14, .int f630_15, .int f630_16, .ref f630_17]))] [(κ w).2.2.2] _ _ := hB
        have z698 := DOK.sf q695 (k := 9) (by omega) (x := x697)
        refine lv_aload_n hx hb dX9_change_161 rfl (lv_at hl 1 rfl) ?_
        refine va_get (D := D) (ci := 9) (v := .ref (κ w).2.2.2) (C := RX9) (T := TX9) (N := 18) hx hb hts iX9_change_9 hown hN.1 hB.1 1 rfl rfl 8 (by decide) (hts _ mX9_change_1) (fun _ h9 => h9) rfl dX9_change_162 ?_
        refine lv_bipush (v := 10) hx hb dX9_change_165 (by decide) ?_
        refine lv_dup2_11 hx hb dX9_change_167 rfl rfl ?_
        refine ld_i (v := ((upd g695 9 x697) 10)) hx hb hN hB.1 0 rfl (vp_in_nI (n := 10) (N := 45783) (by omega) (by omega)) (by rw [(show (10 : Int32).toNatClampNeg = 10 from nI_clamp (n := 10) (by omega))]) dX9_change_168 ?_
        refine gn_i (fun x699 => ?_)
        refine lv_iload_n hx hb dX9_change_169 rfl (lv_at hl 0 rfl) ?_
        refine lv_iadd hx hb dX9_change_170 ?_
        refine gn_i (fun x700 => ?_)
        refine b_i hx hb hN hB 0 rfl (vp_in_nI (n := 10) (N := 45783) (by omega) (by omega)) (.inr ⟨rfl, List.mem_of_getElem? (i := 0) rfl⟩) dX9_change_171 (fun H locs hB => ?_)
        rw [(show (10 : Int32).toNatClampNeg = 10 from nI_clamp (n := 10) (by omega))] at hB
        have hB : Bx B0 D _ [((κ w).2.2.2, .inl (cs 0, 45783, .inl (upd (upd g695 9 x697) 10 x700))), (w, .inr (9, [.int f630_0, .ref f630_1, .int (nI ((κ w).2.2.1)), .int (nI f630_3), .int (nI f630_4), .int f630_5, .int f630_6, .int f630_7, .ref (κ w).2.2.2, .ref f630_9, .ref f630_10, .ref f630_11, .int (nI f630_12), .int f630_13, .int f630_14, .int f630_15, .int f630_16, .ref f630_17]))] [(κ w).2.2.2] _ _ := hB
        have z701 := DOK.sf z698 (k := 10) (by omega) (x := x700)
        have hT : WT B0 D cs T κ _ := hT.close hB ⟨⟨0, _, rfl, ok_24 t630_8.1 ⟨_, rfl, z701⟩⟩, trivial⟩
        have hF : Fr B0 [18] κ H0 _ := hF.close hB (fa_c (by simp [t630_8.2]) fa_n)
        have hL : OkL B0 _ := hB.2.2.2.2.2
        have hP : va_P D vwCl [((κ w).2.2.2, .inl (cs 0, 45783, .inl (upd (upd g695 9 x697) 10 x700))), (w, .inr (9, [.int f630_0, .ref f630_1, .int (nI ((κ w).2.2.1)), .int (nI f630_3), .int (nI f630_4), .int f630_5, .int f630_6, .int f630_7, .ref (κ w).2.2.2, .ref f630_9, .ref f630_10, .ref f630_11, .int (nI f630_12), .int f630_13, .int f630_14, .int f630_15, .int f630_16, .ref f630_17]))] _ := hB.1
        exact en_v hx hb hr hlocks hL (Nat.zero_le _) (Nat.zero_le _) dX9_change_172 (⟨hT, hF⟩)
theorem mX9_proposeNow_1 : (.fieldLink RX9 18 "OneBeatModel" "data" "[I" : Cond) ∈ wsX9_proposeNow := List.mem_of_getElem? (i := 1) (by decide +kernel)
theorem iX9_proposeNow_9 : ∀ w ∈ wsX90, w ∈ wsX9_proposeNow := fun w h => List.mem_of_mem_drop (List.mem_of_mem_take ((show wsX90 = (wsX9_proposeNow.drop 37).take 18 by decide +kernel) ▸ h))
set_option maxHeartbeats 4000000 in
set_option maxRecDepth 100000 in
theorem c_X9_proposeNow {l : Launch} {D : va_G} {cs : Nat → ClassId} {B0 T : Nat} {κ : KM} {H0 : Heap} (hT : WT B0 D cs T κ H0) {w : Nat} (hw : T2 κ w 10 12) {x : Int32} {y : Int32} : KC l yX9_proposeNow wsX9_proposeNow 4 96 0 0 D cs B0 H0 [.ref w, .int x, .int y] (Qi (fun _ H => WT B0 D cs T κ H ∧ Fr B0 [18] κ H0 H)) := by
  refine KC.of cX9_proposeNow 5 (some .int) (by decide) rfl (Nat.le_of_ble_eq_true rfl) ?_
  intro p e s m below meth c ls hx hb hr hml hown hts hlocks hin hN hE hH0 hl
  have hown : s.vm.findClass RX9 = some m.cls := hown
  have hl : lv_has ls 5 [(0, .ref w), (1, .int x), (2, .int y)] := hl
  have hL : OkL B0 [] := OkL.nil
  have hF : Fr B0 [18] κ H0 H0 := Fr.rf
  refine lv_aload_n hx hb dX9_proposeNow_0 rfl (lv_at hl 0 rfl) ?_
  obtain ⟨hb702, e702, hat702, hk702⟩ := hT.o10 hw.1
  obtain ⟨f702_0, f702_1, f702_3, f702_4, f702_5, f702_6, f702_7, f702_9, f702_10, f702_11, f702_12, f702_13, f702_14, f702_15, f702_16, f702_17, rfl, c702_2, c702_3, c702_4, c702_12, t702_1, t702_8, t702_9, c702_sd, t702_10, t702_11, t702_17⟩ := hk702
  have hP : va_P D vwCl [(w, .inr (9, [.int f702_0, .ref f702_1, .int (nI ((κ w).2.2.1)), .int (nI f702_3), .int (nI f702_4), .int f702_5, .int f702_6, .int f702_7, .ref (κ w).2.2.2, .ref f702_9, .ref f702_10, .ref f702_11, .int (nI f702_12), .int f702_13, .int f702_14, .int f702_15, .int f702_16, .ref f702_17]))] _ := va_P.cons hat702 va_P.nil
  refine va_get (D := D) (ci := 9) (v := .ref (κ w).2.2.2) (C := RX9) (T := TX9) (N := 18) hx hb hts iX9_proposeNow_9 hown hN.1 hP 0 rfl rfl 8 (by decide) (hts _ mX9_proposeNow_1) (fun _ h9 => h9) rfl dX9_proposeNow_1 ?_
  refine lv_iconst (v := 2) hx hb dX9_proposeNow_4 (by decide) ?_
  obtain ⟨hb703, e703, hat703, hk703⟩ := hT.o24 t702_8.1
  obtain ⟨g703, rfl, q703⟩ := hk703
  have hP : va_P D vwCl [((κ w).2.2.2, .inl (cs 0, 45783, .inl g703)), (w, .inr (9, [.int f702_0, .ref f702_1, .int (nI ((κ w).2.2.1)), .int (nI f702_3), .int (nI f702_4), .int f702_5, .int f702_6, .int f702_7, .ref (κ w).2.2.2, .ref f702_9, .ref f702_10, .ref f702_11, .int (nI f702_12), .int f702_13, .int f702_14, .int f702_15, .int f702_16, .ref f702_17]))] _ := va_P.cons hat703 hP
  refine ld_i (v := (g703 2)) hx hb hN hP 0 rfl (vp_in_nI (n := 2) (N := 45783) (by omega) (by omega)) (by rw [(show (2 : Int32).toNatClampNeg = 2 from nI_clamp (n := 2) (by omega))]) dX9_proposeNow_5 ?_
  obtain ⟨n704, hn704, en704⟩ := q703.2.2.1
  refine tp_i (nI n704) en704 ?_
  refine lv_istore_n (lv' := [(3, .int (nI n704)), (0, .ref w), (1, .int x), (2, .int y)]) hx hb dX9_proposeNow_6 rfl hl (by decide) rfl (fun ls hl => ?_)
  refine lv_aload_n hx hb dX9_proposeNow_7 rfl (lv_at hl 1 rfl) ?_
  refine va_get (D := D) (ci := 9) (v := .ref (κ w).2.2.2) (C := RX9) (T := TX9) (N := 18) hx hb hts iX9_proposeNow_9 hown hN.1 hP 1 rfl rfl 8 (by decide) (hts _ mX9_proposeNow_1) (fun _ h9 => h9) rfl dX9_proposeNow_8 ?_
  refine lv_bipush (v := 6) hx hb dX9_proposeNow_11 (by decide) ?_
  refine ld_i (v := (g703 6)) hx hb hN hP 0 rfl (vp_in_nI (n := 6) (N := 45783) (by omega) (by omega)) (by rw [(show (6 : Int32).toNatClampNeg = 6 from nI_clamp (n := 6) (by omega))]) dX9_proposeNow_13 ?_
  refine gn_i (fun x705 => ?_)
  refine lv_istore (lv' := [(4, .int x705), (3, .int (nI n704)), (0, .ref w), (1, .int x), (2, .int y)]) hx hb dX9_proposeNow_14 hl (by decide) rfl (fun ls hl => ?_)
  refine lv_aload_n hx hb dX9_proposeNow_16 rfl (lv_at hl 2 rfl) ?_
  refine va_get (D := D) (ci := 9) (v := .ref (κ w).2.2.2) (C := RX9) (T := TX9) (N := 18) hx hb hts iX9_proposeNow_9 hown hN.1 hP 1 rfl rfl 8 (by decide) (hts _ mX9_proposeNow_1) (fun _ h9 => h9) rfl dX9_proposeNow_17 ?_
  refine lv_bipush (v := 6) hx hb dX9_proposeNow_20 (by decide) ?_
  refine lv_dup2_11 hx hb dX9_proposeNow_22 rfl rfl ?_
  refine ld_i (v := (g703 6)) hx hb hN hP 0 rfl (vp_in_nI (n := 6) (N := 45783) (by omega) (by omega)) (by rw [(show (6 : Int32).toNatClampNeg = 6 from nI_clamp (n := 6) (by omega))]) dX9_proposeNow_23 ?_
  refine gn_i (fun x706 => ?_)
  refine lv_iconst (v := 1) hx hb dX9_proposeNow_24 (by decide) ?_
  refine lv_iadd hx hb dX9_proposeNow_25 ?_
  refine gn_i (fun x707 => ?_)
  have hB : Bx B0 D _ [((κ w).2.2.2, .inl (cs 0, 45783, .inl g703)), (w, .inr (9, [.int f702_0, .ref f702_1, .int (nI ((κ w).2.2.1)), .int (nI f702_3), .int (nI f702_4), .int f702_5, .int f702_6, .int f702_7, .ref (κ w).2.2.2, .ref f702_9, .ref f702_10, .ref f702_11, .int (nI f702_12), .int f702_13, .int f702_14, .int f702_15, .int f702_16, .ref f702_17]))] [] _ _ := Bx.of (fun a => (κ a).1) hL hP (fa_c hb703 (fa_c hb702 fa_n)) (by simp only [List.map_cons, List.map_nil, t702_8.1, hw.1]; decide)
  refine b_i hx hb hN hB 0 rfl (vp_in_nI (n := 6) (N := 45783) (by omega) (by omega)) (.inl rfl) dX9_proposeNow_26 (fun H locs hB => ?_)
  rw [(show (6 : Int32).toNatClampNeg = 6 from nI_clamp (n := 6) (by omega))] at hB
  have hB : Bx B0 D _ [((κ w).2.2.2, .inl (cs 0, 45783, .inl (upd g703 6 x707))), (w, .inr (9, [.int f702_0, .ref f702_1, .int (nI ((κ w).2.2.1)), .int (nI f702_3), .int (nI f702_4), .int f702_5, .int f702_6, .int f702_7, .ref (κ w).2.2.2, .ref f702_9, .ref f702_10, .ref f702_11, .int (nI f702_12), .int f702_13, .int f702_14, .int f702_15, .int f702_16, .ref f702_17]))] [(κ w).2.2.2] _ _ := hB
  have z708 := DOK.sf q703 (k := 6) (by omega) (x := x707)
  have e709 := (pk_un (f := g703) (x := x707) (show 2 ≠ 6 by omega)).trans en704
  refine lv_aload_n hx hb dX9_proposeNow_27 rfl (lv_at hl 2 rfl) ?_
  refine va_get (D := D) (ci := 9) (v := .ref (κ w).2.2.2) (C := RX9) (T := TX9) (N := 18) hx hb hts iX9_proposeNow_9 hown hN.1 hB.1 1 rfl rfl 8 (by decide) (hts _ mX9_proposeNow_1) (fun _ h9 => h9) rfl dX9_proposeNow_28 ?_
  refine lv_bipush (v := 15) hx hb dX9_proposeNow_31 (by decide) ?_
  refine lv_iload_n hx hb dX9_proposeNow_33 rfl (lv_at hl 3 rfl) ?_
  refine b_i hx hb hN hB 0 rfl (vp_in_nI (n := 15) (N := 45783) (by omega) (by omega)) (.inr ⟨rfl, List.mem_of_getElem? (i := 0) rfl⟩) dX9_proposeNow_34 (fun H locs hB => ?_)
  rw [(show (15 : Int32).toNatClampNeg = 15 from nI_clamp (n := 15) (by omega))] at hB
  have hB : Bx B0 D _ [((κ w).2.2.2, .inl (cs 0, 45783, .inl (upd (upd g703 6 x707) 15 x))), (w, .inr (9, [.int f702_0, .ref f702_1, .int (nI ((κ w).2.2.1)), .int (nI f702_3), .int (nI f702_4), .int f702_5, .int f702_6, .int f702_7, .ref (κ w).2.2.2, .ref f702_9, .ref f702_10, .ref f702_11, .int (nI f702_12), .int f702_13, .int f702_14, .int f702_15, .int f702_16, .ref f702_17]))] [(κ w).2.2.2] _ _ := hB
  have z710 := DOK.sf z708 (k := 15) (by omega) (x := x)
  have e711 := (pk_un (f := (upd g703 6 x707)) (x := x) (show 2 ≠ 15 by omega)).trans e709
  refine lv_aload_n hx hb dX9_proposeNow_35 rfl (lv_at hl 2 rfl) ?_
  refine va_get (D := D) (ci := 9) (v := .ref (κ w).2.2.2) (C := RX9) (T := TX9) (N := 18) hx hb hts iX9_proposeNow_9 hown hN.1 hB.1 1 rfl rfl 8 (by decide) (hts _ mX9_proposeNow_1) (fun _ h9 => h9) rfl dX9_proposeNow_36 ?_
  refine lv_bipush (v := 16) hx hb dX9_proposeNow_39 (by decide) ?_
  refine lv_aload_n hx hb dX9_proposeNow_41 rfl (lv_at hl 2 rfl) ?_
  refine lv_iload_n hx hb dX9_proposeNow_42 rfl (lv_at hl 1 rfl) ?_
  have hT : WT B0 D cs T κ _ := hT.close hB ⟨⟨0, _, rfl, ok_24 t702_8.1 ⟨_, rfl, z710⟩⟩, trivial⟩
  have hF : Fr B0 [18] κ H0 _ := hF.close hB (fa_c (by simp [t702_8.2]) fa_n)
  have hL : OkL B0 _ := hB.2.2.2.2.2
  have hP : va_P D vwCl [((κ w).2.2.2, .inl (cs 0, 45783, .inl (upd (upd g703 6 x707) 15 x))), (w, .inr (9, [.int f702_0, .ref f702_1, .int (nI ((κ w).2.2.1)), .int (nI f702_3), .int (nI f702_4), .int f702_5, .int f702_6, .int f702_7, .ref (κ w).2.2.2, .ref f702_9, .ref f702_10, .ref f702_11, .int (nI f702_12), .int f702_13, .int f702_14, .int f702_15, .int f702_16, .ref f702_17]))] _ := hB.1
  refine cv_i (As := [.int (nI n704)]) (rest := [.int 16, .ref (κ w).2.2.2]) (b := w) ⟨hx, hb, hml, hown, hts⟩ (c_X9_clock hT (w := w) hw (n := n704) (by first | omega | decide | assumption)) (cwV 1 hts gX9_proposeNow_X9_clock rfl rfl rfl hdX9_clock_v ⟨Nat.le_of_ble_eq_true rfl, Nat.le_of_ble_eq_true rfl⟩) hN hE hL (rcv10 hN hT hw.1) rfl rfl hl.1 (Nat.le_of_ble_eq_true rfl) dX9_proposeNow_43 (Nat.zero_le _) (Nat.zero_le _) (fun r712 H1 locs hL hqr712 => ?_)
  obtain rfl := hqr712.symm
  refine lv_iload_n hx hb dX9_proposeNow_46 rfl (lv_at hl 4 rfl) ?_
  refine lv_iadd hx hb dX9_proposeNow_47 ?_
  refine gn_i (fun x713 => ?_)
  have hB : Bx B0 D _ [((κ w).2.2.2, .inl (cs 0, 45783, .inl (upd (upd g703 6 x707) 15 x))), (w, .inr (9, [.int f702_0, .ref f702_1, .int (nI ((κ w).2.2.1)), .int (nI f702_3), .int (nI f702_4), .int f702_5, .int f702_6, .int f702_7, .ref (κ w).2.2.2, .ref f702_9, .ref f702_10, .ref f702_11, .int (nI f702_12), .int f702_13, .int f702_14, .int f702_15, .int f702_16, .ref f702_17]))] [] _ _ := Bx.of (fun a => (κ a).1) hL hP (fa_c hb703 (fa_c hb702 fa_n)) (by simp only [List.map_cons, List.map_nil, t702_8.1, hw.1]; decide)
  refine b_i hx hb hN hB 0 rfl (vp_in_nI (n := 16) (N := 45783) (by omega) (by omega)) (.inl rfl) dX9_proposeNow_48 (fun H locs hB => ?_)
  rw [(show (16 : Int32).toNatClampNeg = 16 from nI_clamp (n := 16) (by omega))] at hB
  have hB : Bx B0 D _ [((κ w).2.2.2, .inl (cs 0, 45783, .inl (upd (upd (upd g703 6 x707) 15 x) 16 x713))), (w, .inr (9, [.int f702_0, .ref f702_1, .int (nI ((κ w).2.2.1)), .int (nI f702_3), .int (nI f702_4), .int f702_5, .int f702_6, .int f702_7, .ref (κ w).2.2.2, .ref f702_9, .ref f702_10, .ref f702_11, .int (nI f702_12), .int f702_13, .int f702_14, .int f702_15, .int f702_16, .ref f702_17]))] [(κ w).2.2.2] _ _ := hB
  have z714 := DOK.sf z710 (k := 16) (by omega) (x := x713)
  have e715 := (pk_un (f := (upd (upd g703 6 x707) 15 x)) (x := x713) (show 2 ≠ 16 by omega)).trans e711
  refine lv_aload_n hx hb dX9_proposeNow_49 rfl (lv_at hl 2 rfl) ?_
  refine va_get (D := D) (ci := 9) (v := .ref (κ w).2.2.2) (C := RX9) (T := TX9) (N := 18) hx hb hts iX9_proposeNow_9 hown hN.1 hB.1 1 rfl rfl 8 (by decide) (hts _ mX9_proposeNow_1) (fun _ h9 => h9) rfl dX9_proposeNow_50 ?_
  refine lv_bipush (v := 17) hx hb dX9_proposeNow_53 (by decide) ?_
  refine lv_aload_n hx hb dX9_proposeNow_55 rfl (lv_at hl 2 rfl) ?_
  refine va_get (D := D) (ci := 9) (v := .ref (κ w).2.2.2) (C := RX9) (T := TX9) (N := 18) hx hb hts iX9_proposeNow_9 hown hN.1 hB.1 1 rfl rfl 8 (by decide) (hts _ mX9_proposeNow_1) (fun _ h9 => h9) rfl dX9_proposeNow_56 ?_
  refine lv_iconst (v := 1) hx hb dX9_proposeNow_59 (by decide) ?_
  refine ld_i (v := ((upd (upd (upd g703 6 x707) 15 x) 16 x713) 1)) hx hb hN hB.1 0 rfl (vp_in_nI (n := 1) (N := 45783) (by omega) (by omega)) (by rw [(show (1 : Int32).toNatClampNeg = 1 from nI_clamp (n := 1) (by omega))]) dX9_proposeNow_60 ?_
  refine gn_i (fun x716 => ?_)
  refine lv_aload_n hx hb dX9_proposeNow_61 rfl (lv_at hl 2 rfl) ?_
  refine va_get (D := D) (ci := 9) (v := .ref (κ w).2.2.2) (C := RX9) (T := TX9) (N := 18) hx hb hts iX9_proposeNow_9 hown hN.1 hB.1 1 rfl rfl 8 (by decide) (hts _ mX9_proposeNow_1) (fun _ h9 => h9) rfl dX9_proposeNow_62 ?_
  refine lv_bipush (v := 12) hx hb dX9_proposeNow_65 (by decide) ?_
  refine ld_i (v := ((upd (upd (upd g703 6 x707) 15 x) 16 x713) 12)) hx hb hN hB.1 0 rfl (vp_in_nI (n := 12) (N := 45783) (by omega) (by omega)) (by rw [(show (12 : Int32).toNatClampNeg = 12 from nI_clamp (n := 12) (by omega))]) dX9_proposeNow_67 ?_
  refine gn_i (fun x717 => ?_)
  refine lv_iadd hx hb dX9_proposeNow_68 ?_
  refine gn_i (fun x718 => ?_)
  refine b_i hx hb hN hB 0 rfl (vp_in_nI (n := 17) (N := 45783) (by omega) (by omega)) (.inr ⟨rfl, List.mem_of_getElem? (i := 0) rfl⟩) dX9_proposeNow_69 (fun H locs hB => ?_)
  rw [(show (17 : Int32).toNatClampNeg = 17 from nI_clamp (n := 17) (by omega))] at hB
  have hB : Bx B0 D _ [((κ w).2.2.2, .inl (cs 0, 45783, .inl (upd (upd (upd (upd g703 6 x707) 15 x) 16 x713) 17 x718))), (w, .inr (9, [.int f702_0, .ref f702_1, .int (nI ((κ w).2.2.1)), .int (nI f702_3), .int (nI f702_4), .int f702_5, .int f702_6, .int f702_7, .ref (κ w).2.2.2, .ref f702_9, .ref f702_10, .ref f702_11, .int (nI f702_12), .int f702_13, .int f702_14, .int f702_15, .int f702_16, .ref f702_17]))] [(κ w).2.2.2] _ _ := hB
  have z719 := DOK.sf z714 (k := 17) (by omega) (x := x718)
  have e720 := (pk_un (f := (upd (upd (upd g703 6 x707) 15 x) 16 x713)) (x := x718) (show 2 ≠ 17 by omega)).trans e715
  refine lv_aload_n hx hb dX9_proposeNow_70 rfl (lv_at hl 2 rfl) ?_
  refine va_get (D := D) (ci := 9) (v := .ref (κ w).2.2.2) (C := RX9) (T := TX9) (N := 18) hx hb hts iX9_proposeNow_9 hown hN.1 hB.1 1 rfl rfl 8 (by decide) (hts _ mX9_proposeNow_1) (fun _ h9 => h9) rfl dX9_proposeNow_71 ?_
  refine lv_bipush (v := 18) hx hb dX9_proposeNow_74 (by decide) ?_
  refine lv_iload_n hx hb dX9_proposeNow_76 rfl (lv_at hl 1 rfl) ?_
  refine b_i hx hb hN hB 0 rfl (vp_in_nI (n := 18) (N := 45783) (by omega) (by omega)) (.inr ⟨rfl, List.mem_of_getElem? (i := 0) rfl⟩) dX9_proposeNow_77 (fun H locs hB => ?_)
  rw [(show (18 : Int32).toNatClampNeg = 18 from nI_clamp (n := 18) (by omega))] at hB
  have hB : Bx B0 D _ [((κ w).2.2.2, .inl (cs 0, 45783, .inl (upd (upd (upd (upd (upd g703 6 x707) 15 x) 16 x713) 17 x718) 18 (nI n704)))), (w, .inr (9, [.int f702_0, .ref f702_1, .int (nI ((κ w).2.2.1)), .int (nI f702_3), .int (nI f702_4), .int f702_5, .int f702_6, .int f702_7, .ref (κ w).2.2.2, .ref f702_9, .ref f702_10, .ref f702_11, .int (nI f702_12), .int f702_13, .int f702_14, .int f702_15, .int f702_16, .ref f702_17]))] [(κ w).2.2.2] _ _ := hB
  have z721 := DOK.s18 z719 (n := n704) (by omega)
  have e722 := (pk_un (f := (upd (upd (upd (upd g703 6 x707) 15 x) 16 x713) 17 x718)) (x := (nI n704)) (show 2 ≠ 18 by omega)).trans e720
  refine lv_aload_n hx hb dX9_proposeNow_78 rfl (lv_at hl 2 rfl) ?_
  refine va_get (D := D) (ci := 9) (v := .ref (κ w).2.2.2) (C := RX9) (T := TX9) (N := 18) hx hb hts iX9_proposeNow_9 hown hN.1 hB.1 1 rfl rfl 8 (by decide) (hts _ mX9_proposeNow_1) (fun _ h9 => h9) rfl dX9_proposeNow_79 ?_
  refine lv_bipush (v := 19) hx hb dX9_proposeNow_82 (by decide) ?_
  refine lv_iconst (v := 0) hx hb dX9_proposeNow_84 (by decide) ?_
  refine b_i hx hb hN hB 0 rfl (vp_in_nI (n := 19) (N := 45783) (by omega) (by omega)) (.inr ⟨rfl, List.mem_of_getElem? (i := 0) rfl⟩) dX9_proposeNow_85 (fun H locs hB => ?_)
  rw [(show (19 : Int32).toNatClampNeg = 19 from nI_clamp (n := 19) (by omega))] at hB
  have hB : Bx B0 D _ [((κ w).2.2.2, .inl (cs 0, 45783, .inl (upd (upd (upd (upd (upd (upd g703 6 x707) 15 x) 16 x713) 17 x718) 18 (nI n704)) 19 0))), (w, .inr (9, [.int f702_0, .ref f702_1, .int (nI ((κ w).2.2.1)), .int (nI f702_3), .int (nI f702_4), .int f702_5, .int f702_6, .int f702_7, .ref (κ w).2.2.2, .ref f702_9, .ref f702_10, .ref f702_11, .int (nI f702_12), .int f702_13, .int f702_14, .int f702_15, .int f702_16, .ref f702_17]))] [(κ w).2.2.2] _ _ := hB
  have z723 := DOK.sf z721 (k := 19) (by omega) (x := 0)
  have e724 := (pk_un (f := (upd (upd (upd (upd (upd g703 6 x707) 15 x) 16 x713) 17 x718) 18 (nI n704))) (x := 0) (show 2 ≠ 19 by omega)).trans e722
  refine lv_aload_n hx hb dX9_proposeNow_86 rfl (lv_at hl 2 rfl) ?_
  refine va_get (D := D) (ci := 9) (v := .ref (κ w).2.2.2) (C := RX9) (T := TX9) (N := 18) hx hb hts iX9_proposeNow_9 hown hN.1 hB.1 1 rfl rfl 8 (by decide) (hts _ mX9_proposeNow_1) (fun _ h9 => h9) rfl dX9_proposeNow_87 ?_
  refine lv_bipush (v := 20) hx hb dX9_proposeNow_90 (by decide) ?_
  refine lv_iconst (v := 0) hx hb dX9_proposeNow_92 (by decide) ?_
  refine b_i hx hb hN hB 0 rfl (vp_in_nI (n := 20) (N := 45783) (by omega) (by omega)) (.inr ⟨rfl, List.mem_of_getElem? (i := 0) rfl⟩) dX9_proposeNow_93 (fun H locs hB => ?_)
  rw [(show (20 : Int32).toNatClampNeg = 20 from nI_clamp (n := 20) (by omega))] at hB
  have hB : Bx B0 D _ [((κ w).2.2.2, .inl (cs 0, 45783, .inl (upd (upd (upd (upd (upd (upd (upd g703 6 x707) 15 x) 16 x713) 17 x718) 18 (nI n704)) 19 0) 20 0))), (w, .inr (9, [.int f702_0, .ref f702_1, .int (nI ((κ w).2.2.1)), .int (nI f702_3), .int (nI f702_4), .int f702_5, .int f702_6, .int f702_7, .ref (κ w).2.2.2, .ref f702_9, .ref f702_10, .ref f702_11, .int (nI f702_12), .int f702_13, .int f702_14, .int f702_15, .int f702_16, .ref f702_17]))] [(κ w).2.2.2] _ _ := hB
  have z725 := DOK.sf z723 (k := 20) (by omega) (x := 0)
  have e726 := (pk_un (f := (upd (upd (upd (upd (upd (upd g703 6 x707) 15 x) 16 x713) 17 x718) 18 (nI n704)) 19 0)) (x := 0) (show 2 ≠ 20 by omega)).trans e724
  refine lv_aload_n hx hb dX9_proposeNow_94 rfl (lv_at hl 2 rfl) ?_
  refine va_get (D := D) (ci := 9) (v := .ref (κ w).2.2.2) (C := RX9) (T := TX9) (N := 18) hx hb hts iX9_proposeNow_9 hown hN.1 hB.1 1 rfl rfl 8 (by decide) (hts _ mX9_proposeNow_1) (fun _ h9 => h9) rfl dX9_proposeNow_95 ?_
  refine lv_bipush (v := 21) hx hb dX9_proposeNow_98 (by decide) ?_
  refine lv_iconst (v := (-1)) hx hb dX9_proposeNow_100 (by decide) ?_
  refine b_i hx hb hN hB 0 rfl (vp_in_nI (n := 21) (N := 45783) (by omega) (by omega)) (.inr ⟨rfl, List.mem_of_getElem? (i := 0) rfl⟩) dX9_proposeNow_101 (fun H locs hB => ?_)
  rw [(show (21 : Int32).toNatClampNeg = 21 from nI_clamp (n := 21) (by omega))] at hB
  have hB : Bx B0 D _ [((κ w).2.2.2, .inl (cs 0, 45783, .inl (upd (upd (upd (upd (upd (upd (upd (upd g703 6 x707) 15 x) 16 x713) 17 x718) 18 (nI n704)) 19 0) 20 0) 21 (-1)))), (w, .inr (9, [.int f702_0, .ref f702_1, .int (nI ((κ w).2.2.1)), .int (nI f702_3), .int (nI f702_4), .int f702_5, .int f702_6, .int f702_7, .ref (κ w).2.2.2, .ref f702_9, .ref f702_10, .ref f702_11, .int (nI f702_12), .int f702_13, .int f702_14, .int f702_15, .int f702_16, .ref f702_17]))] [(κ w).2.2.2] _ _ := hB
  have z727 := DOK.sf z725 (k := 21) (by omega) (x := (-1))
  have e728 := (pk_un (f := (upd (upd (upd (upd (upd (upd (upd g703 6 x707) 15 x) 16 x713) 17 x718) 18 (nI n704)) 19 0) 20 0)) (x := (-1)) (show 2 ≠ 21 by omega)).trans e726
  refine lv_aload_n hx hb dX9_proposeNow_102 rfl (lv_at hl 2 rfl) ?_
  refine va_get (D := D) (ci := 9) (v := .ref (κ w).2.2.2) (C := RX9) (T := TX9) (N := 18) hx hb hts iX9_proposeNow_9 hown hN.1 hB.1 1 rfl rfl 8 (by decide) (hts _ mX9_proposeNow_1) (fun _ h9 => h9) rfl dX9_proposeNow_103 ?_
  refine lv_bipush (v := 22) hx hb dX9_proposeNow_106 (by decide) ?_
  refine lv_iconst (v := (-1)) hx hb dX9_proposeNow_108 (by decide) ?_
  refine b_i hx hb hN hB 0 rfl (vp_in_nI (n := 22) (N := 45783) (by omega) (by omega)) (.inr ⟨rfl, List.mem_of_getElem? (i := 0) rfl⟩) dX9_proposeNow_109 (fun H locs hB => ?_)
  rw [(show (22 : Int32).toNatClampNeg = 22 from nI_clamp (n := 22) (by omega))] at hB
  have hB : Bx B0 D _ [((κ w).2.2.2, .inl (cs 0, 45783, .inl (upd (upd (upd (upd (upd (upd (upd (upd (upd g703 6 x707) 15 x) 16 x713) 17 x718) 18 (nI n704)) 19 0) 20 0) 21 (-1)) 22 (-1)))), (w, .inr (9, [.int f702_0, .ref f702_1, .int (nI ((κ w).2.2.1)), .int (nI f702_3), .int (nI f702_4), .int f702_5, .int f702_6, .int f702_7, .ref (κ w).2.2.2, .ref f702_9, .ref f702_10, .ref f702_11, .int (nI f702_12), .int f702_13, .int f702_14, .int f702_15, .int f702_16, .ref f702_17]))] [(κ w).2.2.2] _ _ := hB
  have z729 := DOK.sf z727 (k := 22) (by omega) (x := (-1))
  have e730 := (pk_un (f := (upd (upd (upd (upd (upd (upd (upd (upd g703 6 x707) 15 x) 16 x713) 17 x718) 18 (nI n704)) 19 0) 20 0) 21 (-1))) (x := (-1)) (show 2 ≠ 22 by omega)).trans e728
  refine lv_aload_n hx hb dX9_proposeNow_110 rfl (lv_at hl 2 rfl) ?_
  refine lv_iload_n hx hb dX9_proposeNow_111 rfl (lv_at hl 1 rfl) ?_
  refine lv_iconst (v := 1) hx hb dX9_proposeNow_112 (by decide) ?_
  refine lv_iload hx hb dX9_proposeNow_113 (lv_at hl 0 rfl) ?_
  refine lv_aload_n hx hb dX9_proposeNow_115 rfl (lv_at hl 2 rfl) ?_
  refine va_get (D := D) (ci := 9) (v := .ref (κ w).2.2.2) (C := RX9) (T := TX9) (N := 18) hx hb hts iX9_proposeNow_9 hown hN.1 hB.1 1 rfl rfl 8 (by decide) (hts _ mX9_proposeNow_1) (fun _ h9 => h9) rfl dX9_proposeNow_116 ?_
  refine lv_bipush (v := 16) hx hb dX9_proposeNow_119 (by decide) ?_
  refine ld_i (v := ((upd (upd (upd (upd (upd (upd (upd (upd (upd g703 6 x707) 15 x) 16 x713) 17 x718) 18 (nI n704)) 19 0) 20 0) 21 (-1)) 22 (-1)) 16)) hx hb hN hB.1 0 rfl (vp_in_nI (n := 16) (N := 45783) (by omega) (by omega)) (by rw [(show (16 : Int32).toNatClampNeg = 16 from nI_clamp (n := 16) (by omega))]) dX9_proposeNow_121 ?_
  refine gn_i (fun x731 => ?_)
  refine lv_iload_n hx hb dX9_proposeNow_122 rfl (lv_at hl 3 rfl) ?_
  have hT : WT B0 D cs T κ _ := hT.close hB ⟨⟨0, _, rfl, ok_24 t702_8.1 ⟨_, rfl, z729⟩⟩, trivial⟩
  have hF : Fr B0 [18] κ H0 _ := hF.close hB (fa_c (by simp [t702_8.2]) fa_n)
  have hL : OkL B0 _ := hB.2.2.2.2.2
  have hP : va_P D vwCl [((κ w).2.2.2, .inl (cs 0, 45783, .inl (upd (upd (upd (upd (upd (upd (upd (upd (upd g703 6 x707) 15 x) 16 x713) 17 x718) 18 (nI n704)) 19 0) 20 0) 21 (-1)) 22 (-1)))), (w, .inr (9, [.int f702_0, .ref f702_1, .int (nI ((κ w).2.2.1)), .int (nI f702_3), .int (nI f702_4), .int f702_5, .int f702_6, .int f702_7, .ref (κ w).2.2.2, .ref f702_9, .ref f702_10, .ref f702_11, .int (nI f702_12), .int f702_13, .int f702_14, .int f702_15, .int f702_16, .ref f702_17]))] _ := hB.1
  refine cv_v (As := [.int (nI n704), .int 1, .int x705, .int x731, .int x]) (rest := []) (b := w) ⟨hx, hb, hml, hown, hts⟩ (c_X9_plan hT (w := w) hw (n := n704) (x := 1) (y := x705) (z := x731) (u := x) (by first | omega | decide | assumption)) (cwV 5 hts gX9_proposeNow_X9_plan rfl rfl rfl hdX9_plan_v ⟨Nat.le_of_ble_eq_true rfl, Nat.le_of_ble_eq_true rfl⟩) hN hE hL (rcv10 hN hT hw.1) rfl rfl hl.1 (Nat.le_of_ble_eq_true rfl) dX9_proposeNow_123 (Nat.zero_le _) (Nat.zero_le _) (fun H1 locs hL hqr732 => ?_)
  obtain ⟨hT1, hF1⟩ := hqr732
  have hP : va_P D vwCl [(w, .inr (9, [.int f702_0, .ref f702_1, .int (nI ((κ w).2.2.1)), .int (nI f702_3), .int (nI f702_4), .int f702_5, .int f702_6, .int f702_7, .ref (κ w).2.2.2, .ref f702_9, .ref f702_10, .ref f702_11, .int (nI f702_12), .int f702_13, .int f702_14, .int f702_15, .int f702_16, .ref f702_17]))] _ := hF1.hP (hP.sub [1] rfl) (fa_c ⟨by rw [hw.1]; decide, by rw [hw.2]; first | decide | (simp; done) | (simp; omega)⟩ fa_n)
  have hF := hF.tr (hF1.mono (by simp))
  have hT := hT1
  refine lv_aload_n hx hb dX9_proposeNow_126 rfl (lv_at hl 2 rfl) ?_
  refine lv_iconst (v := 2) hx hb dX9_proposeNow_127 (by decide) ?_
  refine lv_iload_n hx hb dX9_proposeNow_128 rfl (lv_at hl 1 rfl) ?_
  refine lv_iload hx hb dX9_proposeNow_129 (lv_at hl 0 rfl) ?_
  refine lv_aload_n hx hb dX9_proposeNow_131 rfl (lv_at hl 2 rfl) ?_
  refine va_get (D := D) (ci := 9) (v := .ref (κ w).2.2.2) (C := RX9) (T := TX9) (N := 18) hx hb hts iX9_proposeNow_9 hown hN.1 hP 0 rfl rfl 8 (by decide) (hts _ mX9_proposeNow_1) (fun _ h9 => h9) rfl dX9_proposeNow_132 ?_
  refine lv_bipush (v := 16) hx hb dX9_proposeNow_135 (by decide) ?_
  obtain ⟨hb733, e733, hat733, hk733⟩ := hT.o24 t702_8.1
  obtain ⟨g733, rfl, q733⟩ := hk733
  have hP : va_P D vwCl [((κ w).2.2.2, .inl (cs 0, 45783, .inl g733)), (w, .inr (9, [.int f702_0, .ref f702_1, .int (nI ((κ w).2.2.1)), .int (nI f702_3), .int (nI f702_4), .int f702_5, .int f702_6, .int f702_7, .ref (κ w).2.2.2, .ref f702_9, .ref f702_10, .ref f702_11, .int (nI f702_12), .int f702_13, .int f702_14, .int f702_15, .int f702_16, .ref f702_17]))] _ := va_P.cons hat733 hP
  refine ld_i (v := (g733 16)) hx hb hN hP 0 rfl (vp_in_nI (n := 16) (N := 45783) (by omega) (by omega)) (by rw [(show (16 : Int32).toNatClampNeg = 16 from nI_clamp (n := 16) (by omega))]) dX9_proposeNow_137 ?_
  refine gn_i (fun x734 => ?_)
  refine lv_iload_n hx hb dX9_proposeNow_138 rfl (lv_at hl 3 rfl) ?_
  refine cv_v (As := [.int 2, .int (nI n704), .int x705, .int x734, .int x]) (rest := []) (b := w) ⟨hx, hb, hml, hown, hts⟩ (c_X9_sendToOthers hT (w := w) hw (x := 2) (n := n704) (y := x705) (z := x734) (u := x) (by first | omega | decide | assumption) (by first | omega | decide | assumption)) (cwV 5 hts gX9_proposeNow_X9_sendToOthers rfl rfl rfl hdX9_sendToOthers_v ⟨Nat.le_of_ble_eq_true rfl, Nat.le_of_ble_eq_true rfl⟩) hN hE hL (rcv10 hN hT hw.1) rfl rfl hl.1 (Nat.le_of_ble_eq_true rfl) dX9_proposeNow_139 (Nat.zero_le _) (Nat.zero_le _) (fun H1 locs hL hqr735 => ?_)
  obtain ⟨hT1, hF1⟩ := hqr735
  have hP : va_P D vwCl [(w, .inr (9, [.int f702_0, .ref f702_1, .int (nI ((κ w).2.2.1)), .int (nI f702_3), .int (nI f702_4), .int f702_5, .int f702_6, .int f702_7, .ref (κ w).2.2.2, .ref f702_9, .ref f702_10, .ref f702_11, .int (nI f702_12), .int f702_13, .int f702_14, .int f702_15, .int f702_16, .ref f702_17]))] _ := hF1.hP (hP.sub [1] rfl) (fa_c ⟨by rw [hw.1]; decide, by rw [hw.2]; first | decide | (simp; done) | (simp; omega)⟩ fa_n)
  have hF := hF.tr (hF1.mono (by simp))
  have hT := hT1
  refine lv_aload_n hx hb dX9_proposeNow_142 rfl (lv_at hl 2 rfl) ?_
  refine cv_v (As := []) (rest := []) (b := w) ⟨hx, hb, hml, hown, hts⟩ (c_X9_vote hT (w := w) hw) (cwV 0 hts gX9_proposeNow_X9_vote rfl rfl rfl hdX9_vote_v ⟨Nat.le_of_ble_eq_true rfl, Nat.le_of_ble_eq_true rfl⟩) hN hE hL (rcv10 hN hT hw.1) rfl rfl hl.1 (Nat.le_of_ble_eq_true rfl) dX9_proposeNow_143 (Nat.zero_le _) (Nat.zero_le _) (fun H1 locs hL hqr736 => ?_)
  obtain ⟨hT1, hF1⟩ := hqr736
  have hP : va_P D vwCl [(w, .inr (9, [.int f702_0, .ref f702_1, .int (nI ((κ w).2.2.1)), .int (nI f702_3), .int (nI f702_4), .int f702_5, .int f702_6, .int f702_7, .ref (κ w).2.2.2, .ref f702_9, .ref f702_10, .ref f702_11, .int (nI f702_12), .int f702_13, .int f702_14, .int f702_15, .int f702_16, .ref f702_17]))] _ := hF1.hP (hP.sub [0] rfl) (fa_c ⟨by rw [hw.1]; decide, by rw [hw.2]; first | decide | (simp; done) | (simp; omega)⟩ fa_n)
  have hF := hF.tr (hF1.mono (by simp))
  have hT := hT1
  refine lv_aload_n hx hb dX9_proposeNow_146 rfl (lv_at hl 2 rfl) ?_
  refine va_get (D := D) (ci := 9) (v := .ref (κ w).2.2.2) (C := RX9) (T := TX9) (N := 18) hx hb hts iX9_proposeNow_9 hown hN.1 hP 0 rfl rfl 8 (by decide) (hts _ mX9_proposeNow_1) (fun _ h9 => h9) rfl dX9_proposeNow_147 ?_
  refine lv_bipush (v := 16) hx hb dX9_proposeNow_150 (by decide) ?_
  obtain ⟨hb737, e737, hat737, hk737⟩ := hT.o24 t702_8.1
  obtain ⟨g737, rfl, q737⟩ := hk737
  have hP : va_P D vwCl [((κ w).2.2.2, .inl (cs 0, 45783, .inl g737)), (w, .inr (9, [.int f702_0, .ref f702_1, .int (nI ((κ w).2.2.1)), .int (nI f702_3), .int (nI f702_4), .int f702_5, .int f702_6, .int f702_7, .ref (κ w).2.2.2, .ref f702_9, .ref f702_10, .ref f702_11, .int (nI f702_12), .int f702_13, .int f702_14, .int f702_15, .int f702_16, .ref f702_17]))] _ := va_P.cons hat737 hP
  refine ld_i (v := (g737 16)) hx hb hN hP 0 rfl (vp_in_nI (n := 16) (N := 45783) (by omega) (by omega)) (by rw [(show (16 : Int32).toNatClampNeg = 16 from nI_clamp (n := 16) (by omega))]) dX9_proposeNow_152 ?_
  refine gn_i (fun x738 => ?_)
  exact en_i hx hb hr hlocks hL rfl (Nat.zero_le _) (Nat.zero_le _) dX9_proposeNow_153 (⟨hT, hF⟩)
theorem mX9_isLive_1 : (.fieldLink RX9 18 "OneBeatModel" "data" "[I" : Cond) ∈ wsX9_isLive := List.mem_of_getElem? (i := 1) (by decide +kernel)
theorem iX9_isLive_9 : ∀ w ∈ wsX90, w ∈ wsX9_isLive := fun w h => List.mem_of_mem_drop (List.mem_of_mem_take ((show wsX90 = (wsX9_isLive.drop 18).take 18 by decide +kernel) ▸ h))
set_option maxHeartbeats 4000000 in
set_option maxRecDepth 100000 in
theorem c_X9_isLive {l : Launch} {D : va_G} {cs : Nat → ClassId} {B0 T : Nat} {κ : KM} {H0 : Heap} (hT : WT B0 D cs T κ H0) {w : Nat} (hw : T2 κ w 10 12) : KC l yX9_isLive wsX9_isLive 3 63 0 0 D cs B0 H0 [.ref w] (Qi (fun r H => H = H0 ∧ (r = 0 ∨ r = 1))) := by
  refine KC.of cX9_isLive 3 (some .boolean) (by decide) rfl (Nat.le_of_ble_eq_true rfl) ?_
  intro p e s m below meth c ls hx hb hr hml hown hts hlocks hin hN hE hH0 hl
  have hown : s.vm.findClass RX9 = some m.cls := hown
  have hl : lv_has ls 3 [(0, .ref w)] := hl
  have hL : OkL B0 [] := OkL.nil
  refine lv_aload_n hx hb dX9_isLive_0 rfl (lv_at hl 0 rfl) ?_
  obtain ⟨hb739, e739, hat739, hk739⟩ := hT.o10 hw.1
  obtain ⟨f739_0, f739_1, f739_3, f739_4, f739_5, f739_6, f739_7, f739_9, f739_10, f739_11, f739_12, f739_13, f739_14, f739_15, f739_16, f739_17, rfl, c739_2, c739_3, c739_4, c739_12, t739_1, t739_8, t739_9, c739_sd, t739_10, t739_11, t739_17⟩ := hk739
  have hP : va_P D vwCl [(w, .inr (9, [.int f739_0, .ref f739_1, .int (nI ((κ w).2.2.1)), .int (nI f739_3), .int (nI f739_4), .int f739_5, .int f739_6, .int f739_7, .ref (κ w).2.2.2, .ref f739_9, .ref f739_10, .ref f739_11, .int (nI f739_12), .int f739_13, .int f739_14, .int f739_15, .int f739_16, .ref f739_17]))] _ := va_P.cons hat739 va_P.nil
  refine va_get (D := D) (ci := 9) (v := .ref (κ w).2.2.2) (C := RX9) (T := TX9) (N := 18) hx hb hts iX9_isLive_9 hown hN.1 hP 0 rfl rfl 8 (by decide) (hts _ mX9_isLive_1) (fun _ h9 => h9) rfl dX9_isLive_1 ?_
  refine lv_iconst (v := 3) hx hb dX9_isLive_4 (by decide) ?_
  obtain ⟨hb740, e740, hat740, hk740⟩ := hT.o24 t739_8.1
  obtain ⟨g740, rfl, q740⟩ := hk740
  have hP : va_P D vwCl [((κ w).2.2.2, .inl (cs 0, 45783, .inl g740)), (w, .inr (9, [.int f739_0, .ref f739_1, .int (nI ((κ w).2.2.1)), .int (nI f739_3), .int (nI f739_4), .int f739_5, .int f739_6, .int f739_7, .ref (κ w).2.2.2, .ref f739_9, .ref f739_10, .ref f739_11, .int (nI f739_12), .int f739_13, .int f739_14, .int f739_15, .int f739_16, .ref f739_17]))] _ := va_P.cons hat740 hP
  refine ld_i (v := (g740 3)) hx hb hN hP 0 rfl (vp_in_nI (n := 3) (N := 45783) (by omega) (by omega)) (by rw [(show (3 : Int32).toNatClampNeg = 3 from nI_clamp (n := 3) (by omega))]) dX9_isLive_5 ?_
  obtain ⟨n741, hn741, en741⟩ := q740.2.2.2.1
  refine tp_i (nI n741) en741 ?_
  refine lv_if_gt (tgt := 16) hx hb dX9_isLive_6 (by decide) (fun c742 => ?_) (fun c742 => ?_)
  · have c742 : 0 < n741 := (nI_ltI (a := 0) (b := n741) (by omega) (by omega)).mp c742
    refine lv_iconst (v := 1) hx hb dX9_isLive_16 (by decide) ?_
    refine lv_goto (tgt := 21) hx hb dX9_isLive_17 (by decide) ?_
    refine lv_istore_n (lv' := [(1, .int 1), (0, .ref w)]) hx hb dX9_isLive_21 rfl hl (by decide) rfl (fun ls hl => ?_)
    refine lv_iconst (v := 0) hx hb dX9_isLive_22 (by decide) ?_
    refine lv_istore_n (lv' := [(2, .int 0), (1, .int 1), (0, .ref w)]) hx hb dX9_isLive_23 rfl hl (by decide) rfl (fun ls hl => ?_)
    refine lp_r (B0 := B0) (α := Nat × Int32) (nL := 3) (fun a9 => 8 - a9.1) (fun a9 => (a9.2 = 0 ∨ a9.2 = 1) ∧ (a9.1 ≤ 8)) (fun a9 => [(2, .int (nI a9.1)), (1, .int a9.2), (0, .ref w)]) ?_ (0, 1) _ _ ⟨(Or.inr rfl), (by show (0) ≤ 8; omega)⟩ hL (lv_sub hl [0, 1, 2] rfl)
    rintro ⟨p, x⟩ locs ls ih743 ⟨qx, hp⟩ hL hl
    have hl : lv_has ls 3 [(2, .int (nI p)), (1, .int x), (0, .ref w)] := hl
    have qx : x = 0 ∨ x = 1 := qx
    have hp : p ≤ 8 := hp
    refine lv_iload_n hx hb dX9_isLive_24 rfl (lv_at hl 0 rfl) ?_
    refine lv_aload_n hx hb dX9_isLive_25 rfl (lv_at hl 2 rfl) ?_
    refine va_get (D := D) (ci := 9) (v := .ref (κ w).2.2.2) (C := RX9) (T := TX9) (N := 18) hx hb hts iX9_isLive_9 hown hN.1 hP 1 rfl rfl 8 (by decide) (hts _ mX9_isLive_1) (fun _ h9 => h9) rfl dX9_isLive_26 ?_
    refine lv_iconst (v := 0) hx hb dX9_isLive_29 (by decide) ?_
    refine ld_i (v := (g740 0)) hx hb hN hP 0 rfl (vp_in_nI (n := 0) (N := 45783) (by omega) (by omega)) (by rw [(show (0 : Int32).toNatClampNeg = 0 from nI_clamp (n := 0) (by omega))]) dX9_isLive_30 ?_
    obtain ⟨n744, hn744, en744⟩ := q740.1
    refine tp_i (nI n744) en744 ?_
    refine lv_icmp_ge (tgt := 66) hx hb dX9_isLive_31 (by decide) (fun c745 => ?_) (fun c745 => ?_)
    · have c745 : n744 ≤ p := (nI_leI (a := n744) (b := p) (by omega) (by omega)).mp c745
      refine lv_iload_n hx hb dX9_isLive_66 rfl (lv_at hl 1 rfl) ?_
      exact en_i hx hb hr hlocks hL (nb qx) (Nat.zero_le _) (Nat.zero_le _) dX9_isLive_67 (⟨rfl, qx⟩)
    · have c745 : ¬ n744 ≤ p := fun h9 => c745 ((nI_leI (a := n744) (b := p) (by omega) (by omega)).mpr h9)
      refine lv_iload_n hx hb dX9_isLive_34 rfl (lv_at hl 1 rfl) ?_
      refine lv_aload_n hx hb dX9_isLive_35 rfl (lv_at hl 2 rfl) ?_
      refine lv_iload_n hx hb dX9_isLive_36 rfl (lv_at hl 0 rfl) ?_
      refine cv_i (As := [.int (nI p)]) (rest := [.int x]) (b := w) ⟨hx, hb, hml, hown, hts⟩ (c_X9_isUp hT (w := w) hw (n := p) (by first | omega | decide | assumption)) (cwV 1 hts gX9_isLive_X9_isUp rfl rfl rfl hdX9_isUp_v ⟨Nat.le_of_ble_eq_true rfl, Nat.le_of_ble_eq_true rfl⟩) hN hE hL (rcv10 hN hT hw.1) rfl rfl hl.1 (Nat.le_of_ble_eq_true rfl) dX9_isLive_37 (Nat.zero_le _) (Nat.zero_le _) (fun r746 H1 locs hL hqr746 => ?_)
      obtain ⟨h9, hqr746⟩ := hqr746; replace h9 := h9.symm; subst h9
      rcases hqr746 with rfl | rfl
      · refine lv_if_eq (tgt := 57) hx hb dX9_isLive_40 (by decide) (fun _ => ?_) (fun c9 => absurd (by decide) c9)
        refine lv_iconst (v := 0) hx hb dX9_isLive_57 (by decide) ?_
        refine lv_ior hx hb dX9_isLive_58 ?_
        obtain ⟨z747, hz747, ez747⟩ := or01 (y := 0) (qx) (Or.inl rfl)
        refine tp_i z747 ez747 ?_
        refine lv_istore_n (lv' := [(1, .int z747), (2, .int (nI p)), (0, .ref w)]) hx hb dX9_isLive_59 rfl hl (by decide) rfl (fun ls hl => ?_)
        refine lv_iinc (v := (nI (p + 1))) (lv' := [(2, .int (nI (p + 1))), (1, .int z747), (0, .ref w)]) hx hb dX9_isLive_60 hl (k := 1) rfl (nI_add _ 1) (by decide) rfl (fun ls hl => ?_)
        refine lv_goto (tgt := 24) hx hb dX9_isLive_63 (by decide) ?_
        exact ih743 ((p + 1), z747) _ _ (by show 8 - ((p + 1)) < 8 - p; omega) ⟨(hz747), (by show ((p + 1)) ≤ 8; omega)⟩ hL (lv_sub hl [0, 1, 2] rfl)
      · refine lv_if_eq (tgt := 57) hx hb dX9_isLive_40 (by decide) (fun c9 => absurd c9 (by decide)) (fun _ => ?_)
        refine lv_aload_n hx hb dX9_isLive_43 rfl (lv_at hl 2 rfl) ?_
        refine lv_iload_n hx hb dX9_isLive_44 rfl (lv_at hl 0 rfl) ?_
        refine lv_iconst (v := 5) hx hb dX9_isLive_45 (by decide) ?_
        refine cv_i (As := [.int (nI p), .int 5]) (rest := [.int x]) (b := w) ⟨hx, hb, hml, hown, hts⟩ (c_X9_of hT (w := w) hw (n := p) (k := 5) (by first | omega | decide | assumption) (by first | omega | decide | assumption)) (cwV 2 hts gX9_isLive_X9_of rfl rfl rfl hdX9_of_v ⟨Nat.le_of_ble_eq_true rfl, Nat.le_of_ble_eq_true rfl⟩) hN hE hL (rcv10 hN hT hw.1) rfl rfl hl.1 (Nat.le_of_ble_eq_true rfl) dX9_isLive_46 (Nat.zero_le _) (Nat.zero_le _) (fun r748 H1 locs hL hqr748 => ?_)
        obtain rfl := hqr748.symm
        refine lv_iconst (v := 2) hx hb dX9_isLive_49 (by decide) ?_
        refine lv_icmp_ne (tgt := 57) hx hb dX9_isLive_50 (by decide) (fun c749 => ?_) (fun c749 => ?_)
        · refine lv_iconst (v := 0) hx hb dX9_isLive_57 (by decide) ?_
          refine lv_ior hx hb dX9_isLive_58 ?_
          obtain ⟨z750, hz750, ez750⟩ := or01 (y := 0) (qx) (Or.inl rfl)
          refine tp_i z750 ez750 ?_
          refine lv_istore_n (lv' := [(1, .int z750), (2, .int (nI p)), (0, .ref w)]) hx hb dX9_isLive_59 rfl hl (by decide) rfl (fun ls hl => ?_)
          refine lv_iinc (v := (nI (p + 1))) (lv' := [(2, .int (nI (p + 1))), (1, .int z750), (0, .ref w)]) hx hb dX9_isLive_60 hl (k := 1) rfl (nI_add _ 1) (by decide) rfl (fun ls hl => ?_)
          refine lv_goto (tgt := 24) hx hb dX9_isLive_63 (by decide) ?_
          exact ih743 ((p + 1), z750) _ _ (by show 8 - ((p + 1)) < 8 - p; omega) ⟨(hz750), (by show ((p + 1)) ≤ 8; omega)⟩ hL (lv_sub hl [0, 1, 2] rfl)
        · refine lv_iconst (v := 1) hx hb dX9_isLive_53 (by decide) ?_
          refine lv_goto (tgt := 58) hx hb dX9_isLive_54 (by decide) ?_
          refine lv_ior hx hb dX9_isLive_58 ?_
          obtain ⟨z751, hz751, ez751⟩ := or01 (y := 1) (qx) (Or.inr rfl)
          refine tp_i z751 ez751 ?_
          refine lv_istore_n (lv' := [(1, .int z751), (2, .int (nI p)), (0, .ref w)]) hx hb dX9_isLive_59 rfl hl (by decide) rfl (fun ls hl => ?_)
          refine lv_iinc (v := (nI (p + 1))) (lv' := [(2, .int (nI (p + 1))), (1, .int z751), (0, .ref w)]) hx hb dX9_isLive_60 hl (k := 1) rfl (nI_add _ 1) (by decide) rfl (fun ls hl => ?_)
          refine lv_goto (tgt := 24) hx hb dX9_isLive_63 (by decide) ?_
          exact ih743 ((p + 1), z751) _ _ (by show 8 - ((p + 1)) < 8 - p; omega) ⟨(hz751), (by show ((p + 1)) ≤ 8; omega)⟩ hL (lv_sub hl [0, 1, 2] rfl)
  · have c742 : ¬ 0 < n741 := fun h9 => c742 ((nI_ltI (a := 0) (b := n741) (by omega) (by omega)).mpr h9)
    refine lv_aload_n hx hb dX9_isLive_9 rfl (lv_at hl 0 rfl) ?_
    refine cv_i (As := []) (rest := []) (b := w) ⟨hx, hb, hml, hown, hts⟩ (c_X9_isOpen hT (w := w) hw) (cwV 0 hts gX9_isLive_X9_isOpen rfl rfl rfl hdX9_isOpen_v ⟨Nat.le_of_ble_eq_true rfl, Nat.le_of_ble_eq_true rfl⟩) hN hE hL (rcv10 hN hT hw.1) rfl rfl hl.1 (Nat.le_of_ble_eq_true rfl) dX9_isLive_10 (Nat.zero_le _) (Nat.zero_le _) (fun r752 H1 locs hL hqr752 => ?_)
    obtain ⟨h9, hqr752⟩ := hqr752; replace h9 := h9.symm; subst h9
    rcases hqr752 with rfl | rfl
    · refine lv_if_eq (tgt := 20) hx hb dX9_isLive_13 (by decide) (fun _ => ?_) (fun c9 => absurd (by decide) c9)
      refine lv_iconst (v := 0) hx hb dX9_isLive_20 (by decide) ?_
      refine lv_istore_n (lv' := [(1, .int 0), (0, .ref w)]) hx hb dX9_isLive_21 rfl hl (by decide) rfl (fun ls hl => ?_)
      refine lv_iconst (v := 0) hx hb dX9_isLive_22 (by decide) ?_
      refine lv_istore_n (lv' := [(2, .int 0), (1, .int 0), (0, .ref w)]) hx hb dX9_isLive_23 rfl hl (by decide) rfl (fun ls hl => ?_)
      refine lp_r (B0 := B0) (α := Nat × Int32) (nL := 3) (fun a9 => 8 - a9.1) (fun a9 => (a9.2 = 0 ∨ a9.2 = 1) ∧ (a9.1 ≤ 8)) (fun a9 => [(2, .int (nI a9.1)), (1, .int a9.2), (0, .ref w)]) ?_ (0, 0) _ _ ⟨(Or.inl rfl), (by show (0) ≤ 8; omega)⟩ hL (lv_sub hl [0, 1, 2] rfl)
      rintro ⟨p, x⟩ locs ls ih753 ⟨qx, hp⟩ hL hl
      have hl : lv_has ls 3 [(2, .int (nI p)), (1, .int x), (0, .ref w)] := hl
      have qx : x = 0 ∨ x = 1 := qx
      have hp : p ≤ 8 := hp
      refine lv_iload_n hx hb dX9_isLive_24 rfl (lv_at hl 0 rfl) ?_
      refine lv_aload_n hx hb dX9_isLive_25 rfl (lv_at hl 2 rfl) ?_
      refine va_get (D := D) (ci := 9) (v := .ref (κ w).2.2.2) (C := RX9) (T := TX9) (N := 18) hx hb hts iX9_isLive_9 hown hN.1 hP 1 rfl rfl 8 (by decide) (hts _ mX9_isLive_1) (fun _ h9 => h9) rfl dX9_isLive_26 ?_
      refine lv_iconst (v := 0) hx hb dX9_isLive_29 (by decide) ?_
      refine ld_i (v := (g740 0)) hx hb hN hP 0 rfl (vp_in_nI (n := 0) (N := 45783) (by omega) (by omega)) (by rw [(show (0 : Int32).toNatClampNeg = 0 from nI_clamp (n := 0) (by omega))]) dX9_isLive_30 ?_
      obtain ⟨n754, hn754, en754⟩ := q740.1
      refine tp_i (nI n754) en754 ?_
      refine lv_icmp_ge (tgt := 66) hx hb dX9_isLive_31 (by decide) (fun c755 => ?_) (fun c755 => ?_)
      · have c755 : n754 ≤ p := (nI_leI (a := n754) (b := p) (by omega) (by omega)).mp c755
        refine lv_iload_n hx hb dX9_isLive_66 rfl (lv_at hl 1 rfl) ?_
        exact en_i hx hb hr hlocks hL (nb qx) (Nat.zero_le _) (Nat.zero_le _) dX9_isLive_67 (⟨rfl, qx⟩)
      · have c755 : ¬ n754 ≤ p := fun h9 => c755 ((nI_leI (a := n754) (b := p) (by omega) (by omega)).mpr h9)
        refine lv_iload_n hx hb dX9_isLive_34 rfl (lv_at hl 1 rfl) ?_
        refine lv_aload_n hx hb dX9_isLive_35 rfl (lv_at hl 2 rfl) ?_
        refine lv_iload_n hx hb dX9_isLive_36 rfl (lv_at hl 0 rfl) ?_
        refine cv_i (As := [.int (nI p)]) (rest := [.int x]) (b := w) ⟨hx, hb, hml, hown, hts⟩ (c_X9_isUp hT (w := w) hw (n := p) (by first | omega | decide | assumption)) (cwV 1 hts gX9_isLive_X9_isUp rfl rfl rfl hdX9_isUp_v ⟨Nat.le_of_ble_eq_true rfl, Nat.le_of_ble_eq_true rfl⟩) hN hE hL (rcv10 hN hT hw.1) rfl rfl hl.1 (Nat.le_of_ble_eq_true rfl) dX9_isLive_37 (Nat.zero_le _) (Nat.zero_le _) (fun r756 H1 locs hL hqr756 => ?_)
        obtain ⟨h9, hqr756⟩ := hqr756; replace h9 := h9.symm; subst h9
        rcases hqr756 with rfl | rfl
        · refine lv_if_eq (tgt := 57) hx hb dX9_isLive_40 (by decide) (fun _ => ?_) (fun c9 => absurd (by decide) c9)
          refine lv_iconst (v := 0) hx hb dX9_isLive_57 (by decide) ?_
          refine lv_ior hx hb dX9_isLive_58 ?_
          obtain ⟨z757, hz757, ez757⟩ := or01 (y := 0) (qx) (Or.inl rfl)
          refine tp_i z757 ez757 ?_
          refine lv_istore_n (lv' := [(1, .int z757), (2, .int (nI p)), (0, .ref w)]) hx hb dX9_isLive_59 rfl hl (by decide) rfl (fun ls hl => ?_)
          refine lv_iinc (v := (nI (p + 1))) (lv' := [(2, .int (nI (p + 1))), (1, .int z757), (0, .ref w)]) hx hb dX9_isLive_60 hl (k := 1) rfl (nI_add _ 1) (by decide) rfl (fun ls hl => ?_)
          refine lv_goto (tgt := 24) hx hb dX9_isLive_63 (by decide) ?_
          exact ih753 ((p + 1), z757) _ _ (by show 8 - ((p + 1)) < 8 - p; omega) ⟨(hz757), (by show ((p + 1)) ≤ 8; omega)⟩ hL (lv_sub hl [0, 1, 2] rfl)
        · refine lv_if_eq (tgt := 57) hx hb dX9_isLive_40 (by decide) (fun c9 => absurd c9 (by decide)) (fun _ => ?_)
          refine lv_aload_n hx hb dX9_isLive_43 rfl (lv_at hl 2 rfl) ?_
          refine lv_iload_n hx hb dX9_isLive_44 rfl (lv_at hl 0 rfl) ?_
          refine lv_iconst (v := 5) hx hb dX9_isLive_45 (by decide) ?_
          refine cv_i (As := [.int (nI p), .int 5]) (rest := [.int x]) (b := w) ⟨hx, hb, hml, hown, hts⟩ (c_X9_of hT (w := w) hw (n := p) (k := 5) (by first | omega | decide | assumption) (by first | omega | decide | assumption)) (cwV 2 hts gX9_isLive_X9_of rfl rfl rfl hdX9_of_v ⟨Nat.le_of_ble_eq_true rfl, Nat.le_of_ble_eq_true rfl⟩) hN hE hL (rcv10 hN hT hw.1) rfl rfl hl.1 (Nat.le_of_ble_eq_true rfl) dX9_isLive_46 (Nat.zero_le _) (Nat.zero_le _) (fun r758 H1 locs hL hqr758 => ?_)
          obtain rfl := hqr758.symm
          refine lv_iconst (v := 2) hx hb dX9_isLive_49 (by decide) ?_
          refine lv_icmp_ne (tgt := 57) hx hb dX9_isLive_50 (by decide) (fun c759 => ?_) (fun c759 => ?_)
          · refine lv_iconst (v := 0) hx hb dX9_isLive_57 (by decide) ?_
            refine lv_ior hx hb dX9_isLive_58 ?_
            obtain ⟨z760, hz760, ez760⟩ := or01 (y := 0) (qx) (Or.inl rfl)
            refine tp_i z760 ez760 ?_
            refine lv_istore_n (lv' := [(1, .int z760), (2, .int (nI p)), (0, .ref w)]) hx hb dX9_isLive_59 rfl hl (by decide) rfl (fun ls hl => ?_)
            refine lv_iinc (v := (nI (p + 1))) (lv' := [(2, .int (nI (p + 1))), (1, .int z760), (0, .ref w)]) hx hb dX9_isLive_60 hl (k := 1) rfl (nI_add _ 1) (by decide) rfl (fun ls hl => ?_)
            refine lv_goto (tgt := 24) hx hb dX9_isLive_63 (by decide) ?_
            exact ih753 ((p + 1), z760) _ _ (by show 8 - ((p + 1)) < 8 - p; omega) ⟨(hz760), (by show ((p + 1)) ≤ 8; omega)⟩ hL (lv_sub hl [0, 1, 2] rfl)
          · refine lv_iconst (v := 1) hx hb dX9_isLive_53 (by decide) ?_
            refine lv_goto (tgt := 58) hx hb dX9_isLive_54 (by decide) ?_
            refine lv_ior hx hb dX9_isLive_58 ?_
            obtain ⟨z761, hz761, ez761⟩ := or01 (y := 1) (qx) (Or.inr rfl)
            refine tp_i z761 ez761 ?_
            refine lv_istore_n (lv' := [(1, .int z761), (2, .int (nI p)), (0, .ref w)]) hx hb dX9_isLive_59 rfl hl (by decide) rfl (fun ls hl => ?_)
            refine lv_iinc (v := (nI (p + 1))) (lv' := [(2, .int (nI (p + 1))), (1, .int z761), (0, .ref w)]) hx hb dX9_isLive_60 hl (k := 1) rfl (nI_add _ 1) (by decide) rfl (fun ls hl => ?_)
            refine lv_goto (tgt := 24) hx hb dX9_isLive_63 (by decide) ?_
            exact ih753 ((p + 1), z761) _ _ (by show 8 - ((p + 1)) < 8 - p; omega) ⟨(hz761), (by show ((p + 1)) ≤ 8; omega)⟩ hL (lv_sub hl [0, 1, 2] rfl)
    · refine lv_if_eq (tgt := 20) hx hb dX9_isLive_13 (by decide) (fun c9 => absurd c9 (by decide)) (fun _ => ?_)
      refine lv_iconst (v := 1) hx hb dX9_isLive_16 (by decide) ?_
      refine lv_goto (tgt := 21) hx hb dX9_isLive_17 (by decide) ?_
      refine lv_istore_n (lv' := [(1, .int 1), (0, .ref w)]) hx hb dX9_isLive_21 rfl hl (by decide) rfl (fun ls hl => ?_)
      refine lv_iconst (v := 0) hx hb dX9_isLive_22 (by decide) ?_
      refine lv_istore_n (lv' := [(2, .int 0), (1, .int 1), (0, .ref w)]) hx hb dX9_isLive_23 rfl hl (by decide) rfl (fun ls hl => ?_)
      refine lp_r (B0 := B0) (α := Nat × Int32) (nL := 3) (fun a9 => 8 - a9.1) (fun a9 => (a9.2 = 0 ∨ a9.2 = 1) ∧ (a9.1 ≤ 8)) (fun a9 => [(2, .int (nI a9.1)), (1, .int a9.2), (0, .ref w)]) ?_ (0, 1) _ _ ⟨(Or.inr rfl), (by show (0) ≤ 8; omega)⟩ hL (lv_sub hl [0, 1, 2] rfl)
      rintro ⟨p, x⟩ locs ls ih762 ⟨qx, hp⟩ hL hl
      have hl : lv_has ls 3 [(2, .int (nI p)), (1, .int x), (0, .ref w)] := hl
      have qx : x = 0 ∨ x = 1 := qx
      have hp : p ≤ 8 := hp
      refine lv_iload_n hx hb dX9_isLive_24 rfl (lv_at hl 0 rfl) ?_
      refine lv_aload_n hx hb dX9_isLive_25 rfl (lv_at hl 2 rfl) ?_
      refine va_get (D := D) (ci := 9) (v := .ref (κ w).2.2.2) (C := RX9) (T := TX9) (N := 18) hx hb hts iX9_isLive_9 hown hN.1 hP 1 rfl rfl 8 (by decide) (hts _ mX9_isLive_1) (fun _ h9 => h9) rfl dX9_isLive_26 ?_
      refine lv_iconst (v := 0) hx hb dX9_isLive_29 (by decide) ?_
      refine ld_i (v := (g740 0)) hx hb hN hP 0 rfl (vp_in_nI (n := 0) (N := 45783) (by omega) (by omega)) (by rw [(show (0 : Int32).toNatClampNeg = 0 from nI_clamp (n := 0) (by omega))]) dX9_isLive_30 ?_
      obtain ⟨n763, hn763, en763⟩ := q740.1
      refine tp_i (nI n763) en763 ?_
      refine lv_icmp_ge (tgt := 66) hx hb dX9_isLive_31 (by decide) (fun c764 => ?_) (fun c764 => ?_)
      · have c764 : n763 ≤ p := (nI_leI (a := n763) (b := p) (by omega) (by omega)).mp c764
        refine lv_iload_n hx hb dX9_isLive_66 rfl (lv_at hl 1 rfl) ?_
        exact en_i hx hb hr hlocks hL (nb qx) (Nat.zero_le _) (Nat.zero_le _) dX9_isLive_67 (⟨rfl, qx⟩)
      · have c764 : ¬ n763 ≤ p := fun h9 => c764 ((nI_leI (a := n763) (b := p) (by omega) (by omega)).mpr h9)
        refine lv_iload_n hx hb dX9_isLive_34 rfl (lv_at hl 1 rfl) ?_
        refine lv_aload_n hx hb dX9_isLive_35 rfl (lv_at hl 2 rfl) ?_
        refine lv_iload_n hx hb dX9_isLive_36 rfl (lv_at hl 0 rfl) ?_
        refine cv_i (As := [.int (nI p)]) (rest := [.int x]) (b := w) ⟨hx, hb, hml, hown, hts⟩ (c_X9_isUp hT (w := w) hw (n := p) (by first | omega | decide | assumption)) (cwV 1 hts gX9_isLive_X9_isUp rfl rfl rfl hdX9_isUp_v ⟨Nat.le_of_ble_eq_true rfl, Nat.le_of_ble_eq_true rfl⟩) hN hE hL (rcv10 hN hT hw.1) rfl rfl hl.1 (Nat.le_of_ble_eq_true rfl) dX9_isLive_37 (Nat.zero_le _) (Nat.zero_le _) (fun r765 H1 locs hL hqr765 => ?_)
        obtain ⟨h9, hqr765⟩ := hqr765; replace h9 := h9.symm; subst h9
        rcases hqr765 with rfl | rfl
        · refine lv_if_eq (tgt := 57) hx hb dX9_isLive_40 (by decide) (fun _ => ?_) (fun c9 => absurd (by decide) c9)
          refine lv_iconst (v := 0) hx hb dX9_isLive_57 (by decide) ?_
          refine lv_ior hx hb dX9_isLive_58 ?_
          obtain ⟨z766, hz766, ez766⟩ := or01 (y := 0) (qx) (Or.inl rfl)
          refine tp_i z766 ez766 ?_
          refine lv_istore_n (lv' := [(1, .int z766), (2, .int (nI p)), (0, .ref w)]) hx hb dX9_isLive_59 rfl hl (by decide) rfl (fun ls hl => ?_)
          refine lv_iinc (v := (nI (p + 1))) (lv' := [(2, .int (nI (p + 1))), (1, .int z766), (0, .ref w)]) hx hb dX9_isLive_60 hl (k := 1) rfl (nI_add _ 1) (by decide) rfl (fun ls hl => ?_)
          refine lv_goto (tgt := 24) hx hb dX9_isLive_63 (by decide) ?_
          exact ih762 ((p + 1), z766) _ _ (by show 8 - ((p + 1)) < 8 - p; omega) ⟨(hz766), (by show ((p + 1)) ≤ 8; omega)⟩ hL (lv_sub hl [0, 1, 2] rfl)
        · refine lv_if_eq (tgt := 57) hx hb dX9_isLive_40 (by decide) (fun c9 => absurd c9 (by decide)) (fun _ => ?_)
          refine lv_aload_n hx hb dX9_isLive_43 rfl (lv_at hl 2 rfl) ?_
          refine lv_iload_n hx hb dX9_isLive_44 rfl (lv_at hl 0 rfl) ?_
          refine lv_iconst (v := 5) hx hb dX9_isLive_45 (by decide) ?_
          refine cv_i (As := [.int (nI p), .int 5]) (rest := [.int x]) (b := w) ⟨hx, hb, hml, hown, hts⟩ (c_X9_of hT (w := w) hw (n := p) (k := 5) (by first | omega | decide | assumption) (by first | omega | decide | assumption)) (cwV 2 hts gX9_isLive_X9_of rfl rfl rfl hdX9_of_v ⟨Nat.le_of_ble_eq_true rfl, Nat.le_of_ble_eq_true rfl⟩) hN hE hL (rcv10 hN hT hw.1) rfl rfl hl.1 (Nat.le_of_ble_eq_true rfl) dX9_isLive_46 (Nat.zero_le _) (Nat.zero_le _) (fun r767 H1 locs hL hqr767 => ?_)
          obtain rfl := hqr767.symm
          refine lv_iconst (v := 2) hx hb dX9_isLive_49 (by decide) ?_
          refine lv_icmp_ne (tgt := 57) hx hb dX9_isLive_50 (by decide) (fun c768 => ?_) (fun c768 => ?_)
          · refine lv_iconst (v := 0) hx hb dX9_isLive_57 (by decide) ?_
            refine lv_ior hx hb dX9_isLive_58 ?_
            obtain ⟨z769, hz769, ez769⟩ := or01 (y := 0) (qx) (Or.inl rfl)
            refine tp_i z769 ez769 ?_
            refine lv_istore_n (lv' := [(1, .int z769), (2, .int (nI p)), (0, .ref w)]) hx hb dX9_isLive_59 rfl hl (by decide) rfl (fun ls hl => ?_)
            refine lv_iinc (v := (nI (p + 1))) (lv' := [(2, .int (nI (p + 1))), (1, .int z769), (0, .ref w)]) hx hb dX9_isLive_60 hl (k := 1) rfl (nI_add _ 1) (by decide) rfl (fun ls hl => ?_)
            refine lv_goto (tgt := 24) hx hb dX9_isLive_63 (by decide) ?_
            exact ih762 ((p + 1), z769) _ _ (by show 8 - ((p + 1)) < 8 - p; omega) ⟨(hz769), (by show ((p + 1)) ≤ 8; omega)⟩ hL (lv_sub hl [0, 1, 2] rfl)
          · refine lv_iconst (v := 1) hx hb dX9_isLive_53 (by decide) ?_
            refine lv_goto (tgt := 58) hx hb dX9_isLive_54 (by decide) ?_
            refine lv_ior hx hb dX9_isLive_58 ?_
            obtain ⟨z770, hz770, ez770⟩ := or01 (y := 1) (qx) (Or.inr rfl)
            refine tp_i z770 ez770 ?_
            refine lv_istore_n (lv' := [(1, .int z770), (2, .int (nI p)), (0, .ref w)]) hx hb dX9_isLive_59 rfl hl (by decide) rfl (fun ls hl => ?_)
            refine lv_iinc (v := (nI (p + 1))) (lv' := [(2, .int (nI (p + 1))), (1, .int z770), (0, .ref w)]) hx hb dX9_isLive_60 hl (k := 1) rfl (nI_add _ 1) (by decide) rfl (fun ls hl => ?_)
            refine lv_goto (tgt := 24) hx hb dX9_isLive_63 (by decide) ?_
            exact ih762 ((p + 1), z770) _ _ (by show 8 - ((p + 1)) < 8 - p; omega) ⟨(hz770), (by show ((p + 1)) ≤ 8; omega)⟩ hL (lv_sub hl [0, 1, 2] rfl)
theorem mX9_noPlayer_1 : (.fieldLink RX9 18 "OneBeatModel" "data" "[I" : Cond) ∈ wsX9_noPlayer := List.mem_of_getElem? (i := 1) (by decide +kernel)
theorem iX9_noPlayer_9 : ∀ w ∈ wsX90, w ∈ wsX9_noPlayer := fun w h => List.mem_of_mem_drop (List.mem_of_mem_take ((show wsX90 = (wsX9_noPlayer.drop 11).take 18 by decide +kernel) ▸ h))
theorem hdX9_in_o : yX9_in.cls ≠ "java/lang/invoke/MethodHandle" ∧ yX9_in.cls ≠ "java/lang/invoke/VarHandle" ∧ (parseMethodDescriptor yX9_in.desc).map (fun d => d.parameters.length) = some 3 := by decide +kernel
theorem hdX9_fails_v : yX9_fails.cls = RX9 ∧ yX9_fails.cls ≠ "java/lang/invoke/MethodHandle" ∧ yX9_fails.cls ≠ "java/lang/invoke/VarHandle" ∧ (parseMethodDescriptor yX9_fails.desc).map (fun d => d.parameters.length) = some 2 := by decide +kernel
set_option maxHeartbeats 4000000 in
set_option maxRecDepth 100000 in
theorem c_X9_noPlayer {l : Launch} {D : va_G} {cs : Nat → ClassId} {B0 T : Nat} {κ : KM} {H0 : Heap} (hT : WT B0 D cs T κ H0) {w : Nat} (hw : T2 κ w 10 12) {x : Int32} : KC l yX9_noPlayer wsX9_noPlayer 1 22 0 0 D cs B0 H0 [.ref w, .int x] (Qi (fun r H => WT B0 D cs T κ H ∧ Fr B0 [12] κ H0 H ∧ (r = 1 ∨ (r = 0 ∧ ∃ n, n < 8 ∧ x = nI n)))) := by
  refine KC.of cX9_noPlayer 2 (some .boolean) (by decide) rfl (Nat.le_of_ble_eq_true rfl) ?_
  intro p e s m below meth c ls hx hb hr hml hown hts hlocks hin hN hE hH0 hl
  have hown : s.vm.findClass RX9 = some m.cls := hown
  have hl : lv_has ls 2 [(0, .ref w), (1, .int x)] := hl
  have hL : OkL B0 [] := OkL.nil
  have hF : Fr B0 [12] κ H0 H0 := Fr.rf
  refine lv_aload_n hx hb dX9_noPlayer_0 rfl (lv_at hl 0 rfl) ?_
  refine lv_iload_n hx hb dX9_noPlayer_1 rfl (lv_at hl 1 rfl) ?_
  refine lv_iconst (v := 0) hx hb dX9_noPlayer_2 (by decide) ?_
  refine lv_aload_n hx hb dX9_noPlayer_3 rfl (lv_at hl 0 rfl) ?_
  obtain ⟨hb771, e771, hat771, hk771⟩ := hT.o10 hw.1
  obtain ⟨f771_0, f771_1, f771_3, f771_4, f771_5, f771_6, f771_7, f771_9, f771_10, f771_11, f771_12, f771_13, f771_14, f771_15, f771_16, f771_17, rfl, c771_2, c771_3, c771_4, c771_12, t771_1, t771_8, t771_9, c771_sd, t771_10, t771_11, t771_17⟩ := hk771
  have hP : va_P D vwCl [(w, .inr (9, [.int f771_0, .ref f771_1, .int (nI ((κ w).2.2.1)), .int (nI f771_3), .int (nI f771_4), .int f771_5, .int f771_6, .int f771_7, .ref (κ w).2.2.2, .ref f771_9, .ref f771_10, .ref f771_11, .int (nI f771_12), .int f771_13, .int f771_14, .int f771_15, .int f771_16, .ref f771_17]))] _ := va_P.cons hat771 va_P.nil
  refine va_get (D := D) (ci := 9) (v := .ref (κ w).2.2.2) (C := RX9) (T := TX9) (N := 18) hx hb hts iX9_noPlayer_9 hown hN.1 hP 0 rfl rfl 8 (by decide) (hts _ mX9_noPlayer_1) (fun _ h9 => h9) rfl dX9_noPlayer_4 ?_
  refine lv_iconst (v := 0) hx hb dX9_noPlayer_7 (by decide) ?_
  obtain ⟨hb772, e772, hat772, hk772⟩ := hT.o24 t771_8.1
  obtain ⟨g772, rfl, q772⟩ := hk772
  have hP : va_P D vwCl [((κ w).2.2.2, .inl (cs 0, 45783, .inl g772)), (w, .inr (9, [.int f771_0, .ref f771_1, .int (nI ((κ w).2.2.1)), .int (nI f771_3), .int (nI f771_4), .int f771_5, .int f771_6, .int f771_7, .ref (κ w).2.2.2, .ref f771_9, .ref f771_10, .ref f771_11, .int (nI f771_12), .int f771_13, .int f771_14, .int f771_15, .int f771_16, .ref f771_17]))] _ := va_P.cons hat772 hP
  refine ld_i (v := (g772 0)) hx hb hN hP 0 rfl (vp_in_nI (n := 0) (N := 45783) (by omega) (by omega)) (by rw [(show (0 : Int32).toNatClampNeg = 0 from nI_clamp (n := 0) (by omega))]) dX9_noPlayer_8 ?_
  obtain ⟨n773, hn773, en773⟩ := q772.1
  refine tp_i (nI n773) en773 ?_
  refine lv_iconst (v := 1) hx hb dX9_noPlayer_9 (by decide) ?_
  refine lv_isub hx hb dX9_noPlayer_10 ?_
  refine cs_i (As := [.int x, .int 0, .int ((nI n773) - 1)]) (rest := [.ref w]) ⟨hx, hb, hml, hown, hts⟩ (c_X9_in hT (x := x) (y := 0) (z := ((nI n773) - 1))) (va_cwS 3 hts gX9_noPlayer_X9_in rfl rfl rfl hdX9_in_o ⟨Nat.le_of_ble_eq_true rfl, Nat.le_of_ble_eq_true rfl⟩) hN hE hL rfl rfl hl.1 (Nat.le_of_ble_eq_true rfl) dX9_noPlayer_11 (Nat.zero_le _) (Nat.zero_le _) (fun r774 H1 locs hL hqr774 => ?_)
  obtain ⟨h9, hqr774⟩ := hqr774; replace h9 := h9.symm; subst h9
  rcases hqr774 with ⟨rfl, o775⟩ | ⟨rfl, l776, g777⟩
  · refine lv_if_ne (tgt := 21) hx hb dX9_noPlayer_14 (by decide) (fun c9 => absurd (by decide) c9) (fun _ => ?_)
    refine lv_iconst (v := 1) hx hb dX9_noPlayer_17 (by decide) ?_
    refine lv_goto (tgt := 22) hx hb dX9_noPlayer_18 (by decide) ?_
    refine lv_iconst (v := 1) hx hb dX9_noPlayer_22 (by decide) ?_
    refine cv_i (As := [.int 1, .int 1]) (rest := []) (b := w) ⟨hx, hb, hml, hown, hts⟩ (c_X9_fails hT (w := w) hw (x := 1) (z := 1) ((by decide))) (cwV 2 hts gX9_noPlayer_X9_fails rfl rfl rfl hdX9_fails_v ⟨Nat.le_of_ble_eq_true rfl, Nat.le_of_ble_eq_true rfl⟩) hN hE hL (rcv10 hN hT hw.1) rfl rfl hl.1 (Nat.le_of_ble_eq_true rfl) dX9_noPlayer_23 (Nat.zero_le _) (Nat.zero_le _) (fun r778 H1 locs hL hqr778 => ?_)
    obtain ⟨hT1, hF1, hqr778⟩ := hqr778
    have hP : va_P D vwCl [((κ w).2.2.2, .inl (cs 0, 45783, .inl g772))] _ := hF1.hP (hP.sub [0] rfl) (fa_c ⟨by rw [t771_8.1]; decide, by rw [t771_8.2]; first | decide | (simp; done) | (simp; omega)⟩ fa_n)
    have hF := hF.tr (hF1.mono (by simp))
    have hT := hT1
    rcases hqr778 with rfl | ⟨rfl, e779⟩
    · exact en_i hx hb hr hlocks hL rfl (Nat.zero_le _) (Nat.zero_le _) dX9_noPlayer_26 (⟨hT, hF, Or.inl rfl⟩)
    · exact absurd e779 (by decide)
  · refine lv_if_ne (tgt := 21) hx hb dX9_noPlayer_14 (by decide) (fun _ => ?_) (fun c9 => absurd c9 (by decide))
    refine lv_iconst (v := 0) hx hb dX9_noPlayer_21 (by decide) ?_
    refine lv_iconst (v := 1) hx hb dX9_noPlayer_22 (by decide) ?_
    refine cv_i (As := [.int 0, .int 1]) (rest := []) (b := w) ⟨hx, hb, hml, hown, hts⟩ (c_X9_fails hT (w := w) hw (x := 0) (z := 1) ((by decide))) (cwV 2 hts gX9_noPlayer_X9_fails rfl rfl rfl hdX9_fails_v ⟨Nat.le_of_ble_eq_true rfl, Nat.le_of_ble_eq_true rfl⟩) hN hE hL (rcv10 hN hT hw.1) rfl rfl hl.1 (Nat.le_of_ble_eq_true rfl) dX9_noPlayer_23 (Nat.zero_le _) (Nat.zero_le _) (fun r780 H1 locs hL hqr780 => ?_)
    obtain ⟨hT1, hF1, hqr780⟩ := hqr780
    have hP : va_P D vwCl [((κ w).2.2.2, .inl (cs 0, 45783, .inl g772))] _ := hF1.hP (hP.sub [0] rfl) (fa_c ⟨by rw [t771_8.1]; decide, by rw [t771_8.2]; first | decide | (simp; done) | (simp; omega)⟩ fa_n)
    have hF := hF.tr (hF1.mono (by simp))
    have hT := hT1
    rcases hqr780 with rfl | ⟨rfl, e781⟩
    · exact en_i hx hb hr hlocks hL rfl (Nat.zero_le _) (Nat.zero_le _) dX9_noPlayer_26 (⟨hT, hF, Or.inl rfl⟩)
    · exact en_i hx hb hr hlocks hL rfl (Nat.zero_le _) (Nat.zero_le _) dX9_noPlayer_26 (⟨hT, hF, Or.inr ⟨rfl, rngm (by omega) l776 g777⟩⟩)
theorem mX9_songs_1 : (.fieldLink RX9 18 "OneBeatModel" "data" "[I" : Cond) ∈ wsX9_songs := List.mem_of_getElem? (i := 1) (by decide +kernel)
theorem iX9_songs_9 : ∀ w ∈ wsX90, w ∈ wsX9_songs := fun w h => List.mem_of_mem_drop (List.mem_of_mem_take ((show wsX90 = (wsX9_songs.drop 14).take 18 by decide +kernel) ▸ h))
set_option maxHeartbeats 4000000 in
set_option maxRecDepth 100000 in
theorem c_X9_songs {l : Launch} {D : va_G} {cs : Nat → ClassId} {B0 T : Nat} {κ : KM} {H0 : Heap} (hT : WT B0 D cs T κ H0) {w : Nat} (hw : T2 κ w 10 12) : KC l yX9_songs wsX9_songs 3 63 0 0 D cs B0 H0 [.ref w] (Qi (fun _ H => H = H0)) := by
  refine KC.of cX9_songs 5 (some .int) (by decide) rfl (Nat.le_of_ble_eq_true rfl) ?_
  intro p e s m below meth c ls hx hb hr hml hown hts hlocks hin hN hE hH0 hl
  have hown : s.vm.findClass RX9 = some m.cls := hown
  have hl : lv_has ls 5 [(0, .ref w)] := hl
  have hL : OkL B0 [] := OkL.nil
  refine lv_iconst (v := 0) hx hb dX9_songs_0 (by decide) ?_
  refine lv_istore_n (lv' := [(1, .int 0), (0, .ref w)]) hx hb dX9_songs_1 rfl hl (by decide) rfl (fun ls hl => ?_)
  refine lv_iconst (v := 0) hx hb dX9_songs_2 (by decide) ?_
  refine lv_istore_n (lv' := [(2, .int 0), (1, .int 0), (0, .ref w)]) hx hb dX9_songs_3 rfl hl (by decide) rfl (fun ls hl => ?_)
  refine lp_r (B0 := B0) (α := Nat × Int32) (nL := 5) (fun a9 => 8 - a9.1) (fun a9 => (a9.1 ≤ 8)) (fun a9 => [(2, .int (nI a9.1)), (1, .int a9.2), (0, .ref w)]) ?_ (0, 0) _ _ (by show (0) ≤ 8; omega) hL (lv_sub hl [0, 1, 2] rfl)
  rintro ⟨p, x⟩ locs ls ih782 hp hL hl
  have hl : lv_has ls 5 [(2, .int (nI p)), (1, .int x), (0, .ref w)] := hl
  have hp : p ≤ 8 := hp
  refine lv_iload_n hx hb dX9_songs_4 rfl (lv_at hl 0 rfl) ?_
  refine lv_aload_n hx hb dX9_songs_5 rfl (lv_at hl 2 rfl) ?_
  obtain ⟨hb783, e783, hat783, hk783⟩ := hT.o10 hw.1
  obtain ⟨f783_0, f783_1, f783_3, f783_4, f783_5, f783_6, f783_7, f783_9, f783_10, f783_11, f783_12, f783_13, f783_14, f783_15, f783_16, f783_17, rfl, c783_2, c783_3, c783_4, c783_12, t783_1, t783_8, t783_9, c783_sd, t783_10, t783_11, t783_17⟩ := hk783
  have hP : va_P D vwCl [(w, .inr (9, [.int f783_0, .ref f783_1, .int (nI ((κ w).2.2.1)), .int (nI f783_3), .int (nI f783_4), .int f783_5, .int f783_6, .int f783_7, .ref (κ w).2.2.2, .ref f783_9, .ref f783_10, .ref f783_11, .int (nI f783_12), .int f783_13, .int f783_14, .int f783_15, .int f783_16, .ref f783_17]))] _ := va_P.cons hat783 va_P.nil
  refine va_get (D := D) (ci := 9) (v := .ref (κ w).2.2.2) (C := RX9) (T := TX9) (N := 18) hx hb hts iX9_songs_9 hown hN.1 hP 0 rfl rfl 8 (by decide) (hts _ mX9_songs_1) (fun _ h9 => h9) rfl dX9_songs_6 ?_
  refine lv_iconst (v := 0) hx hb dX9_songs_9 (by decide) ?_
  obtain ⟨hb784, e784, hat784, hk784⟩ := hT.o24 t783_8.1
  obtain ⟨g784, rfl, q784⟩ := hk784
  have hP : va_P D vwCl [((κ w).2.2.2, .inl (cs 0, 45783, .inl g784)), (w, .inr (9, [.int f783_0, .ref f783_1, .int (nI ((κ w).2.2.1)), .int (nI f783_3), .int (nI f783_4), .int f783_5, .int f783_6, .int f783_7, .ref (κ w).2.2.2, .ref f783_9, .ref f783_10, .ref f783_11, .int (nI f783_12), .int f783_13, .int f783_14, .int f783_15, .int f783_16, .ref f783_17]))] _ := va_P.cons hat784 hP
  refine ld_i (v := (g784 0)) hx hb hN hP 0 rfl (vp_in_nI (n := 0) (N := 45783) (by omega) (by omega)) (by rw [(show (0 : Int32).toNatClampNeg = 0 from nI_clamp (n := 0) (by omega))]) dX9_songs_10 ?_
  obtain ⟨n785, hn785, en785⟩ := q784.1
  refine tp_i (nI n785) en785 ?_
  refine lv_icmp_ge (tgt := 86) hx hb dX9_songs_11 (by decide) (fun c786 => ?_) (fun c786 => ?_)
  · have c786 : n785 ≤ p := (nI_leI (a := n785) (b := p) (by omega) (by omega)).mp c786
    refine lv_iload_n hx hb dX9_songs_86 rfl (lv_at hl 1 rfl) ?_
    exact en_i hx hb hr hlocks hL rfl (Nat.zero_le _) (Nat.zero_le _) dX9_songs_87 (rfl)
  · have c786 : ¬ n785 ≤ p := fun h9 => c786 ((nI_leI (a := n785) (b := p) (by omega) (by omega)).mpr h9)
    refine lv_aload_n hx hb dX9_songs_14 rfl (lv_at hl 2 rfl) ?_
    refine lv_iload_n hx hb dX9_songs_15 rfl (lv_at hl 0 rfl) ?_
    refine cv_i (As := [.int (nI p)]) (rest := []) (b := w) ⟨hx, hb, hml, hown, hts⟩ (c_X9_isUp hT (w := w) hw (n := p) (by first | omega | decide | assumption)) (cwV 1 hts gX9_songs_X9_isUp rfl rfl rfl hdX9_isUp_v ⟨Nat.le_of_ble_eq_true rfl, Nat.le_of_ble_eq_true rfl⟩) hN hE hL (rcv10 hN hT hw.1) rfl rfl hl.1 (Nat.le_of_ble_eq_true rfl) dX9_songs_16 (Nat.zero_le _) (Nat.zero_le _) (fun r787 H1 locs hL hqr787 => ?_)
    obtain ⟨h9, hqr787⟩ := hqr787; replace h9 := h9.symm; subst h9
    rcases hqr787 with rfl | rfl
    · refine lv_istore_n (lv' := [(3, .int 0), (2, .int (nI p)), (1, .int x), (0, .ref w)]) hx hb dX9_songs_19 rfl hl (by decide) rfl (fun ls hl => ?_)
      refine lv_iconst (v := 0) hx hb dX9_songs_20 (by decide) ?_
      refine lv_istore (lv' := [(4, .int 0), (3, .int 0), (2, .int (nI p)), (1, .int x), (0, .ref w)]) hx hb dX9_songs_21 hl (by decide) rfl (fun ls hl => ?_)
      refine lp_r (B0 := B0) (α := Nat × Int32) (nL := 5) (fun a9 => 8 - a9.1) (fun a9 => (a9.1 ≤ 8)) (fun a9 => [(4, .int (nI a9.1)), (3, .int a9.2), (0, .ref w), (1, .int x), (2, .int (nI p))]) ?_ (0, 0) _ _ (by show (0) ≤ 8; omega) hL (lv_sub hl [0, 1, 4, 3, 2] rfl)
      rintro ⟨q, z⟩ locs ls ih788 hq hL hl
      have hl : lv_has ls 5 [(4, .int (nI q)), (3, .int z), (0, .ref w), (1, .int x), (2, .int (nI p))] := hl
      have hq : q ≤ 8 := hq
      refine lv_iload hx hb dX9_songs_23 (lv_at hl 0 rfl) ?_
      refine lv_iload_n hx hb dX9_songs_25 rfl (lv_at hl 4 rfl) ?_
      refine lv_icmp_ge (tgt := 68) hx hb dX9_songs_26 (by decide) (fun c789 => ?_) (fun c789 => ?_)
      · have c789 : p ≤ q := (nI_leI (a := p) (b := q) (by omega) (by omega)).mp c789
        refine lv_iload_n hx hb dX9_songs_68 rfl (lv_at hl 3 rfl) ?_
        refine lv_iload_n hx hb dX9_songs_69 rfl (lv_at hl 1 rfl) ?_
        refine lv_if_eq (tgt := 77) hx hb dX9_songs_70 (by decide) (fun c790 => ?_) (fun c790 => ?_)
        · refine lv_iconst (v := 0) hx hb dX9_songs_77 (by decide) ?_
          refine lv_iadd hx hb dX9_songs_78 ?_
          refine gn_i (fun x791 => ?_)
          refine lv_istore_n (lv' := [(1, .int x791), (4, .int (nI q)), (3, .int z), (0, .ref w), (2, .int (nI p))]) hx hb dX9_songs_79 rfl hl (by decide) rfl (fun ls hl => ?_)
          refine lv_iinc (v := (nI (p + 1))) (lv' := [(2, .int (nI (p + 1))), (1, .int x791), (4, .int (nI q)), (3, .int z), (0, .ref w)]) hx hb dX9_songs_80 hl (k := 4) rfl (nI_add _ 1) (by decide) rfl (fun ls hl => ?_)
          refine lv_goto (tgt := 4) hx hb dX9_songs_83 (by decide) ?_
          exact ih782 ((p + 1), x791) _ _ (by show 8 - ((p + 1)) < 8 - p; omega) (by show ((p + 1)) ≤ 8; omega) hL (lv_sub hl [0, 1, 4] rfl)
        · refine lv_iconst (v := 1) hx hb dX9_songs_73 (by decide) ?_
          refine lv_goto (tgt := 78) hx hb dX9_songs_74 (by decide) ?_
          refine lv_iadd hx hb dX9_songs_78 ?_
          refine gn_i (fun x792 => ?_)
          refine lv_istore_n (lv' := [(1, .int x792), (4, .int (nI q)), (3, .int z), (0, .ref w), (2, .int (nI p))]) hx hb dX9_songs_79 rfl hl (by decide) rfl (fun ls hl => ?_)
          refine lv_iinc (v := (nI (p + 1))) (lv' := [(2, .int (nI (p + 1))), (1, .int x792), (4, .int (nI q)), (3, .int z), (0, .ref w)]) hx hb dX9_songs_80 hl (k := 4) rfl (nI_add _ 1) (by decide) rfl (fun ls hl => ?_)
          refine lv_goto (tgt := 4) hx hb dX9_songs_83 (by decide) ?_
          exact ih782 ((p + 1), x792) _ _ (by show 8 - ((p + 1)) < 8 - p; omega) (by show ((p + 1)) ≤ 8; omega) hL (lv_sub hl [0, 1, 4] rfl)
      · have c789 : ¬ p ≤ q := fun h9 => c789 ((nI_leI (a := p) (b := q) (by omega) (by omega)).mpr h9)
        refine lv_iload_n hx hb dX9_songs_29 rfl (lv_at hl 1 rfl) ?_
        refine lv_aload_n hx hb dX9_songs_30 rfl (lv_at hl 2 rfl) ?_
        refine lv_iload hx hb dX9_songs_31 (lv_at hl 0 rfl) ?_
        refine cv_i (As := [.int (nI q)]) (rest := [.int z]) (b := w) ⟨hx, hb, hml, hown, hts⟩ (c_X9_isUp hT (w := w) hw (n := q) (by first | omega | decide | assumption)) (cwV 1 hts gX9_songs_X9_isUp rfl rfl rfl hdX9_isUp_v ⟨Nat.le_of_ble_eq_true rfl, Nat.le_of_ble_eq_true rfl⟩) hN hE hL (rcv10 hN hT hw.1) rfl rfl hl.1 (Nat.le_of_ble_eq_true rfl) dX9_songs_33 (Nat.zero_le _) (Nat.zero_le _) (fun r793 H1 locs hL hqr793 => ?_)
        obtain ⟨h9, hqr793⟩ := hqr793; replace h9 := h9.symm; subst h9
        rcases hqr793 with rfl | rfl
        · refine lv_if_eq (tgt := 55) hx hb dX9_songs_36 (by decide) (fun _ => ?_) (fun c9 => absurd (by decide) c9)
          refine lv_iconst (v := 1) hx hb dX9_songs_55 (by decide) ?_
          refine lv_goto (tgt := 60) hx hb dX9_songs_56 (by decide) ?_
          refine lv_iand hx hb dX9_songs_60 ?_
          refine gn_i (fun x794 => ?_)
          refine lv_istore_n (lv' := [(3, .int x794), (4, .int (nI q)), (0, .ref w), (1, .int x), (2, .int (nI p))]) hx hb dX9_songs_61 rfl hl (by decide) rfl (fun ls hl => ?_)
          refine lv_iinc (v := (nI (q + 1))) (lv' := [(4, .int (nI (q + 1))), (3, .int x794), (0, .ref w), (1, .int x), (2, .int (nI p))]) hx hb dX9_songs_62 hl (k := 1) rfl (nI_add _ 1) (by decide) rfl (fun ls hl => ?_)
          refine lv_goto (tgt := 23) hx hb dX9_songs_65 (by decide) ?_
          exact ih788 ((q + 1), x794) _ _ (by show 8 - ((q + 1)) < 8 - q; omega) (by show ((q + 1)) ≤ 8; omega) hL (lv_sub hl [0, 1, 2, 3, 4] rfl)
        · refine lv_if_eq (tgt := 55) hx hb dX9_songs_36 (by decide) (fun c9 => absurd c9 (by decide)) (fun _ => ?_)
          refine lv_aload_n hx hb dX9_songs_39 rfl (lv_at hl 2 rfl) ?_
          refine lv_iload hx hb dX9_songs_40 (lv_at hl 0 rfl) ?_
          refine lv_iconst (v := 4) hx hb dX9_songs_42 (by decide) ?_
          refine cv_i (As := [.int (nI q), .int 4]) (rest := [.int z]) (b := w) ⟨hx, hb, hml, hown, hts⟩ (c_X9_of hT (w := w) hw (n := q) (k := 4) (by first | omega | decide | assumption) (by first | omega | decide | assumption)) (cwV 2 hts gX9_songs_X9_of rfl rfl rfl hdX9_of_v ⟨Nat.le_of_ble_eq_true rfl, Nat.le_of_ble_eq_true rfl⟩) hN hE hL (rcv10 hN hT hw.1) rfl rfl hl.1 (Nat.le_of_ble_eq_true rfl) dX9_songs_43 (Nat.zero_le _) (Nat.zero_le _) (fun r795 H1 locs hL hqr795 => ?_)
          obtain rfl := hqr795.symm
          refine lv_aload_n hx hb dX9_songs_46 rfl (lv_at hl 2 rfl) ?_
          refine lv_iload_n hx hb dX9_songs_47 rfl (lv_at hl 4 rfl) ?_
          refine lv_iconst (v := 4) hx hb dX9_songs_48 (by decide) ?_
          refine cv_i (As := [.int (nI p), .int 4]) (rest := [.int r795, .int z]) (b := w) ⟨hx, hb, hml, hown, hts⟩ (c_X9_of hT (w := w) hw (n := p) (k := 4) (by first | omega | decide | assumption) (by first | omega | decide | assumption)) (cwV 2 hts gX9_songs_X9_of rfl rfl rfl hdX9_of_v ⟨Nat.le_of_ble_eq_true rfl, Nat.le_of_ble_eq_true rfl⟩) hN hE hL (rcv10 hN hT hw.1) rfl rfl hl.1 (Nat.le_of_ble_eq_true rfl) dX9_songs_49 (Nat.zero_le _) (Nat.zero_le _) (fun r796 H1 locs hL hqr796 => ?_)
          obtain rfl := hqr796.symm
          refine lv_icmp_eq (tgt := 59) hx hb dX9_songs_52 (by decide) (fun c797 => ?_) (fun c797 => ?_)
          · refine lv_iconst (v := 0) hx hb dX9_songs_59 (by decide) ?_
            refine lv_iand hx hb dX9_songs_60 ?_
            refine gn_i (fun x798 => ?_)
            refine lv_istore_n (lv' := [(3, .int x798), (4, .int (nI q)), (0, .ref w), (1, .int x), (2, .int (nI p))]) hx hb dX9_songs_61 rfl hl (by decide) rfl (fun ls hl => ?_)
            refine lv_iinc (v := (nI (q + 1))) (lv' := [(4, .int (nI (q + 1))), (3, .int x798), (0, .ref w), (1, .int x), (2, .int (nI p))]) hx hb dX9_songs_62 hl (k := 1) rfl (nI_add _ 1) (by decide) rfl (fun ls hl => ?_)
            refine lv_goto (tgt := 23) hx hb dX9_songs_65 (by decide) ?_
            exact ih788 ((q + 1), x798) _ _ (by show 8 - ((q + 1)) < 8 - q; omega) (by show ((q + 1)) ≤ 8; omega) hL (lv_sub hl [0, 1, 2, 3, 4] rfl)
          · refine lv_iconst (v := 1) hx hb dX9_songs_55 (by decide) ?_
            refine lv_goto (tgt := 60) hx hb dX9_songs_56 (by decide) ?_
            refine lv_iand hx hb dX9_songs_60 ?_
            refine gn_i (fun x799 => ?_)
            refine lv_istore_n (lv' := [(3, .int x799), (4, .int (nI q)), (0, .ref w), (1, .int x), (2, .int (nI p))]) hx hb dX9_songs_61 rfl hl (by decide) rfl (fun ls hl => ?_)
            refine lv_iinc (v := (nI (q + 1))) (lv' := [(4, .int (nI (q + 1))), (3, .int x799), (0, .ref w), (1, .int x), (2, .int (nI p))]) hx hb dX9_songs_62 hl (k := 1) rfl (nI_add _ 1) (by decide) rfl (fun ls hl => ?_)
            refine lv_goto (tgt := 23) hx hb dX9_songs_65 (by decide) ?_
            exact ih788 ((q + 1), x799) _ _ (by show 8 - ((q + 1)) < 8 - q; omega) (by show ((q + 1)) ≤ 8; omega) hL (lv_sub hl [0, 1, 2, 3, 4] rfl)
    · refine lv_istore_n (lv' := [(3, .int 1), (2, .int (nI p)), (1, .int x), (0, .ref w)]) hx hb dX9_songs_19 rfl hl (by decide) rfl (fun ls hl => ?_)
      refine lv_iconst (v := 0) hx hb dX9_songs_20 (by decide) ?_
      refine lv_istore (lv' := [(4, .int 0), (3, .int 1), (2, .int (nI p)), (1, .int x), (0, .ref w)]) hx hb dX9_songs_21 hl (by decide) rfl (fun ls hl => ?_)
      refine lp_r (B0 := B0) (α := Nat × Int32) (nL := 5) (fun a9 => 8 - a9.1) (fun a9 => (a9.1 ≤ 8)) (fun a9 => [(4, .int (nI a9.1)), (3, .int a9.2), (0, .ref w), (1, .int x), (2, .int (nI p))]) ?_ (0, 1) _ _ (by show (0) ≤ 8; omega) hL (lv_sub hl [0, 1, 4, 3, 2] rfl)
      rintro ⟨q, z⟩ locs ls ih800 hq hL hl
      have hl : lv_has ls 5 [(4, .int (nI q)), (3, .int z), (0, .ref w), (1, .int x), (2, .int (nI p))] := hl
      have hq : q ≤ 8 := hq
      refine lv_iload hx hb dX9_songs_23 (lv_at hl 0 rfl) ?_
      refine lv_iload_n hx hb dX9_songs_25 rfl (lv_at hl 4 rfl) ?_
      refine lv_icmp_ge (tgt := 68) hx hb dX9_songs_26 (by decide) (fun c801 => ?_) (fun c801 => ?_)
      · have c801 : p ≤ q := (nI_leI (a := p) (b := q) (by omega) (by omega)).mp c801
        refine lv_iload_n hx hb dX9_songs_68 rfl (lv_at hl 3 rfl) ?_
        refine lv_iload_n hx hb dX9_songs_69 rfl (lv_at hl 1 rfl) ?_
        refine lv_if_eq (tgt := 77) hx hb dX9_songs_70 (by decide) (fun c802 => ?_) (fun c802 => ?_)
        · refine lv_iconst (v := 0) hx hb dX9_songs_77 (by decide) ?_
          refine lv_iadd hx hb dX9_songs_78 ?_
          refine gn_i (fun x803 => ?_)
          refine lv_istore_n (lv' := [(1, .int x803), (4, .int (nI q)), (3, .int z), (0, .ref w), (2, .int (nI p))]) hx hb dX9_songs_79 rfl hl (by decide) rfl (fun ls hl => ?_)
          refine lv_iinc (v := (nI (p + 1))) (lv' := [(2, .int (nI (p + 1))), (1, .int x803), (4, .int (nI q)), (3, .int z), (0, .ref w)]) hx hb dX9_songs_80 hl (k := 4) rfl (nI_add _ 1) (by decide) rfl (fun ls hl => ?_)
          refine lv_goto (tgt := 4) hx hb dX9_songs_83 (by decide) ?_
          exact ih782 ((p + 1), x803) _ _ (by show 8 - ((p + 1)) < 8 - p; omega) (by show ((p + 1)) ≤ 8; omega) hL (lv_sub hl [0, 1, 4] rfl)
        · refine lv_iconst (v := 1) hx hb dX9_songs_73 (by decide) ?_
          refine lv_goto (tgt := 78) hx hb dX9_songs_74 (by decide) ?_
          refine lv_iadd hx hb dX9_songs_78 ?_
          refine gn_i (fun x804 => ?_)
          refine lv_istore_n (lv' := [(1, .int x804), (4, .int (nI q)), (3, .int z), (0, .ref w), (2, .int (nI p))]) hx hb dX9_songs_79 rfl hl (by decide) rfl (fun ls hl => ?_)
          refine lv_iinc (v := (nI (p + 1))) (lv' := [(2, .int (nI (p + 1))), (1, .int x804), (4, .int (nI q)), (3, .int z), (0, .ref w)]) hx hb dX9_songs_80 hl (k := 4) rfl (nI_add _ 1) (by decide) rfl (fun ls hl => ?_)
          refine lv_goto (tgt := 4) hx hb dX9_songs_83 (by decide) ?_
          exact ih782 ((p + 1), x804) _ _ (by show 8 - ((p + 1)) < 8 - p; omega) (by show ((p + 1)) ≤ 8; omega) hL (lv_sub hl [0, 1, 4] rfl)
      · have c801 : ¬ p ≤ q := fun h9 => c801 ((nI_leI (a := p) (b := q) (by omega) (by omega)).mpr h9)
        refine lv_iload_n hx hb dX9_songs_29 rfl (lv_at hl 1 rfl) ?_
        refine lv_aload_n hx hb dX9_songs_30 rfl (lv_at hl 2 rfl) ?_
        refine lv_iload hx hb dX9_songs_31 (lv_at hl 0 rfl) ?_
        refine cv_i (As := [.int (nI q)]) (rest := [.int z]) (b := w) ⟨hx, hb, hml, hown, hts⟩ (c_X9_isUp hT (w := w) hw (n := q) (by first | omega | decide | assumption)) (cwV 1 hts gX9_songs_X9_isUp rfl rfl rfl hdX9_isUp_v ⟨Nat.le_of_ble_eq_true rfl, Nat.le_of_ble_eq_true rfl⟩) hN hE hL (rcv10 hN hT hw.1) rfl rfl hl.1 (Nat.le_of_ble_eq_true rfl) dX9_songs_33 (Nat.zero_le _) (Nat.zero_le _) (fun r805 H1 locs hL hqr805 => ?_)
        obtain ⟨h9, hqr805⟩ := hqr805; replace h9 := h9.symm; subst h9
        rcases hqr805 with rfl | rfl
        · refine lv_if_eq (tgt := 55) hx hb dX9_songs_36 (by decide) (fun _ => ?_) (fun c9 => absurd (by decide) c9)
          refine lv_iconst (v := 1) hx hb dX9_songs_55 (by decide) ?_
          refine lv_goto (tgt := 60) hx hb dX9_songs_56 (by decide) ?_
          refine lv_iand hx hb dX9_songs_60 ?_
          refine gn_i (fun x806 => ?_)
          refine lv_istore_n (lv' := [(3, .int x806), (4, .int (nI q)), (0, .ref w), (1, .int x), (2, .int (nI p))]) hx hb dX9_songs_61 rfl hl (by decide) rfl (fun ls hl => ?_)
          refine lv_iinc (v := (nI (q + 1))) (lv' := [(4, .int (nI (q + 1))), (3, .int x806), (0, .ref w), (1, .int x), (2, .int (nI p))]) hx hb dX9_songs_62 hl (k := 1) rfl (nI_add _ 1) (by decide) rfl (fun ls hl => ?_)
          refine lv_goto (tgt := 23) hx hb dX9_songs_65 (by decide) ?_
          exact ih800 ((q + 1), x806) _ _ (by show 8 - ((q + 1)) < 8 - q; omega) (by show ((q + 1)) ≤ 8; omega) hL (lv_sub hl [0, 1, 2, 3, 4] rfl)
        · refine lv_if_eq (tgt := 55) hx hb dX9_songs_36 (by decide) (fun c9 => absurd c9 (by decide)) (fun _ => ?_)
          refine lv_aload_n hx hb dX9_songs_39 rfl (lv_at hl 2 rfl) ?_
          refine lv_iload hx hb dX9_songs_40 (lv_at hl 0 rfl) ?_
          refine lv_iconst (v := 4) hx hb dX9_songs_42 (by decide) ?_
          refine cv_i (As := [.int (nI q), .int 4]) (rest := [.int z]) (b := w) ⟨hx, hb, hml, hown, hts⟩ (c_X9_of hT (w := w) hw (n := q) (k := 4) (by first | omega | decide | assumption) (by first | omega | decide | assumption)) (cwV 2 hts gX9_songs_X9_of rfl rfl rfl hdX9_of_v ⟨Nat.le_of_ble_eq_true rfl, Nat.le_of_ble_eq_true rfl⟩) hN hE hL (rcv10 hN hT hw.1) rfl rfl hl.1 (Nat.le_of_ble_eq_true rfl) dX9_songs_43 (Nat.zero_le _) (Nat.zero_le _) (fun r807 H1 locs hL hqr807 => ?_)
          obtain rfl := hqr807.symm
          refine lv_aload_n hx hb dX9_songs_46 rfl (lv_at hl 2 rfl) ?_
          refine lv_iload_n hx hb dX9_songs_47 rfl (lv_at hl 4 rfl) ?_
          refine lv_iconst (v := 4) hx hb dX9_songs_48 (by decide) ?_
          refine cv_i (As := [.int (nI p), .int 4]) (rest := [.int r807, .int z]) (b := w) ⟨hx, hb, hml, hown, hts⟩ (c_X9_of hT (w := w) hw (n := p) (k := 4) (by first | omega | decide | assumption) (by first | omega | decide | assumption)) (cwV 2 hts gX9_songs_X9_of rfl rfl rfl hdX9_of_v ⟨Nat.le_of_ble_eq_true rfl, Nat.le_of_ble_eq_true rfl⟩) hN hE hL (rcv10 hN hT hw.1) rfl rfl hl.1 (Nat.le_of_ble_eq_true rfl) dX9_songs_49 (Nat.zero_le _) (Nat.zero_le _) (fun r808 H1 locs hL hqr808 => ?_)
          obtain rfl := hqr808.symm
          refine lv_icmp_eq (tgt := 59) hx hb dX9_songs_52 (by decide) (fun c809 => ?_) (fun c809 => ?_)
          · refine lv_iconst (v := 0) hx hb dX9_songs_59 (by decide) ?_
            refine lv_iand hx hb dX9_songs_60 ?_
            refine gn_i (fun x810 => ?_)
            refine lv_istore_n (lv' := [(3, .int x810), (4, .int (nI q)), (0, .ref w), (1, .int x), (2, .int (nI p))]) hx hb dX9_songs_61 rfl hl (by decide) rfl (fun ls hl => ?_)
            refine lv_iinc (v := (nI (q + 1))) (lv' := [(4, .int (nI (q + 1))), (3, .int x810), (0, .ref w), (1, .int x), (2, .int (nI p))]) hx hb dX9_songs_62 hl (k := 1) rfl (nI_add _ 1) (by decide) rfl (fun ls hl => ?_)
            refine lv_goto (tgt := 23) hx hb dX9_songs_65 (by decide) ?_
            exact ih800 ((q + 1), x810) _ _ (by show 8 - ((q + 1)) < 8 - q; omega) (by show ((q + 1)) ≤ 8; omega) hL (lv_sub hl [0, 1, 2, 3, 4] rfl)
          · refine lv_iconst (v := 1) hx hb dX9_songs_55 (by decide) ?_
            refine lv_goto (tgt := 60) hx hb dX9_songs_56 (by decide) ?_
            refine lv_iand hx hb dX9_songs_60 ?_
            refine gn_i (fun x811 => ?_)
            refine lv_istore_n (lv' := [(3, .int x811), (4, .int (nI q)), (0, .ref w), (1, .int x), (2, .int (nI p))]) hx hb dX9_songs_61 rfl hl (by decide) rfl (fun ls hl => ?_)
            refine lv_iinc (v := (nI (q + 1))) (lv' := [(4, .int (nI (q + 1))), (3, .int x811), (0, .ref w), (1, .int x), (2, .int (nI p))]) hx hb dX9_songs_62 hl (k := 1) rfl (nI_add _ 1) (by decide) rfl (fun ls hl => ?_)
            refine lv_goto (tgt := 23) hx hb dX9_songs_65 (by decide) ?_
            exact ih800 ((q + 1), x811) _ _ (by show 8 - ((q + 1)) < 8 - q; omega) (by show ((q + 1)) ≤ 8; omega) hL (lv_sub hl [0, 1, 2, 3, 4] rfl)
theorem mX9_spreadNow_1 : (.fieldLink RX9 18 "OneBeatModel" "data" "[I" : Cond) ∈ wsX9_spreadNow := List.mem_of_getElem? (i := 1) (by decide +kernel)
theorem iX9_spreadNow_9 : ∀ w ∈ wsX90, w ∈ wsX9_spreadNow := fun w h => List.mem_of_mem_drop (List.mem_of_mem_take ((show wsX90 = (wsX9_spreadNow.drop 2).take 18 by decide +kernel) ▸ h))
set_option maxHeartbeats 4000000 in
set_option maxRecDepth 100000 in
theorem c_X9_spreadNow {l : Launch} {D : va_G} {cs : Nat → ClassId} {B0 T : Nat} {κ : KM} {H0 : Heap} (hT : WT B0 D cs T κ H0) {w : Nat} (hw : T2 κ w 10 12) : KC l yX9_spreadNow wsX9_spreadNow 0 0 0 0 D cs B0 H0 [.ref w] (Qi (fun _ H => H = H0)) := by
  refine KC.of cX9_spreadNow 1 (some .int) (by decide) rfl (Nat.le_of_ble_eq_true rfl) ?_
  intro p e s m below meth c ls hx hb hr hml hown hts hlocks hin hN hE hH0 hl
  have hown : s.vm.findClass RX9 = some m.cls := hown
  have hl : lv_has ls 1 [(0, .ref w)] := hl
  have hL : OkL B0 [] := OkL.nil
  refine lv_aload_n hx hb dX9_spreadNow_0 rfl (lv_at hl 0 rfl) ?_
  obtain ⟨hb812, e812, hat812, hk812⟩ := hT.o10 hw.1
  obtain ⟨f812_0, f812_1, f812_3, f812_4, f812_5, f812_6, f812_7, f812_9, f812_10, f812_11, f812_12, f812_13, f812_14, f812_15, f812_16, f812_17, rfl, c812_2, c812_3, c812_4, c812_12, t812_1, t812_8, t812_9, c812_sd, t812_10, t812_11, t812_17⟩ := hk812
  have hP : va_P D vwCl [(w, .inr (9, [.int f812_0, .ref f812_1, .int (nI ((κ w).2.2.1)), .int (nI f812_3), .int (nI f812_4), .int f812_5, .int f812_6, .int f812_7, .ref (κ w).2.2.2, .ref f812_9, .ref f812_10, .ref f812_11, .int (nI f812_12), .int f812_13, .int f812_14, .int f812_15, .int f812_16, .ref f812_17]))] _ := va_P.cons hat812 va_P.nil
  refine va_get (D := D) (ci := 9) (v := .ref (κ w).2.2.2) (C := RX9) (T := TX9) (N := 18) hx hb hts iX9_spreadNow_9 hown hN.1 hP 0 rfl rfl 8 (by decide) (hts _ mX9_spreadNow_1) (fun _ h9 => h9) rfl dX9_spreadNow_1 ?_
  refine lv_bipush (v := 21) hx hb dX9_spreadNow_4 (by decide) ?_
  obtain ⟨hb813, e813, hat813, hk813⟩ := hT.o24 t812_8.1
  obtain ⟨g813, rfl, q813⟩ := hk813
  have hP : va_P D vwCl [((κ w).2.2.2, .inl (cs 0, 45783, .inl g813)), (w, .inr (9, [.int f812_0, .ref f812_1, .int (nI ((κ w).2.2.1)), .int (nI f812_3), .int (nI f812_4), .int f812_5, .int f812_6, .int f812_7, .ref (κ w).2.2.2, .ref f812_9, .ref f812_10, .ref f812_11, .int (nI f812_12), .int f812_13, .int f812_14, .int f812_15, .int f812_16, .ref f812_17]))] _ := va_P.cons hat813 hP
  refine ld_i (v := (g813 21)) hx hb hN hP 0 rfl (vp_in_nI (n := 21) (N := 45783) (by omega) (by omega)) (by rw [(show (21 : Int32).toNatClampNeg = 21 from nI_clamp (n := 21) (by omega))]) dX9_spreadNow_6 ?_
  refine gn_i (fun x814 => ?_)
  refine lv_iconst (v := (-1)) hx hb dX9_spreadNow_7 (by decide) ?_
  refine lv_icmp_ne (tgt := 15) hx hb dX9_spreadNow_8 (by decide) (fun c815 => ?_) (fun c815 => ?_)
  · refine lv_aload_n hx hb dX9_spreadNow_15 rfl (lv_at hl 0 rfl) ?_
    refine va_get (D := D) (ci := 9) (v := .ref (κ w).2.2.2) (C := RX9) (T := TX9) (N := 18) hx hb hts iX9_spreadNow_9 hown hN.1 hP 1 rfl rfl 8 (by decide) (hts _ mX9_spreadNow_1) (fun _ h9 => h9) rfl dX9_spreadNow_16 ?_
    refine lv_bipush (v := 22) hx hb dX9_spreadNow_19 (by decide) ?_
    refine ld_i (v := (g813 22)) hx hb hN hP 0 rfl (vp_in_nI (n := 22) (N := 45783) (by omega) (by omega)) (by rw [(show (22 : Int32).toNatClampNeg = 22 from nI_clamp (n := 22) (by omega))]) dX9_spreadNow_21 ?_
    refine gn_i (fun x816 => ?_)
    refine lv_aload_n hx hb dX9_spreadNow_22 rfl (lv_at hl 0 rfl) ?_
    refine va_get (D := D) (ci := 9) (v := .ref (κ w).2.2.2) (C := RX9) (T := TX9) (N := 18) hx hb hts iX9_spreadNow_9 hown hN.1 hP 1 rfl rfl 8 (by decide) (hts _ mX9_spreadNow_1) (fun _ h9 => h9) rfl dX9_spreadNow_23 ?_
    refine lv_bipush (v := 21) hx hb dX9_spreadNow_26 (by decide) ?_
    refine ld_i (v := (g813 21)) hx hb hN hP 0 rfl (vp_in_nI (n := 21) (N := 45783) (by omega) (by omega)) (by rw [(show (21 : Int32).toNatClampNeg = 21 from nI_clamp (n := 21) (by omega))]) dX9_spreadNow_28 ?_
    refine gn_i (fun x817 => ?_)
    refine lv_isub hx hb dX9_spreadNow_29 ?_
    refine gn_i (fun x818 => ?_)
    exact en_i hx hb hr hlocks hL rfl (Nat.zero_le _) (Nat.zero_le _) dX9_spreadNow_30 (rfl)
  · refine lv_iconst (v := (-1)) hx hb dX9_spreadNow_11 (by decide) ?_
    refine lv_goto (tgt := 30) hx hb dX9_spreadNow_12 (by decide) ?_
    exact en_i hx hb hr hlocks hL rfl (Nat.zero_le _) (Nat.zero_le _) dX9_spreadNow_30 (rfl)
theorem mX9_toldPlayer_1 : (.fieldLink RX9 18 "OneBeatModel" "data" "[I" : Cond) ∈ wsX9_toldPlayer := List.mem_of_getElem? (i := 1) (by decide +kernel)
theorem iX9_toldPlayer_9 : ∀ w ∈ wsX90, w ∈ wsX9_toldPlayer := fun w h => List.mem_of_mem_drop (List.mem_of_mem_take ((show wsX90 = (wsX9_toldPlayer.drop 18).take 18 by decide +kernel) ▸ h))
set_option maxHeartbeats 4000000 in
set_option maxRecDepth 100000 in
theorem c_X9_toldPlayer {l : Launch} {D : va_G} {cs : Nat → ClassId} {B0 T : Nat} {κ : KM} {H0 : Heap} (hT : WT B0 D cs T κ H0) {w : Nat} (hw : T2 κ w 10 12) {n : Nat} (qn : n < 8) {y : Int32} : KC l yX9_toldPlayer wsX9_toldPlayer 4 84 0 0 D cs B0 H0 [.ref w, .int (nI n), .int y] (Qi (fun _ H => H = H0)) := by
  refine KC.of cX9_toldPlayer 3 (some .int) (by decide) rfl (Nat.le_of_ble_eq_true rfl) ?_
  intro p e s m below meth c ls hx hb hr hml hown hts hlocks hin hN hE hH0 hl
  have hown : s.vm.findClass RX9 = some m.cls := hown
  have hl : lv_has ls 3 [(0, .ref w), (1, .int (nI n)), (2, .int y)] := hl
  have hL : OkL B0 [] := OkL.nil
  refine lv_iload_n hx hb dX9_toldPlayer_0 rfl (lv_at hl 2 rfl) ?_
  by_cases c819 : (y : Int32).toInt < (0 : Int) ∨ (8 : Int) < (y : Int32).toInt
  · refine lv_tableOut (tgt := 118) hx hb dX9_toldPlayer_1 c819 (by decide) ?_
    refine lv_aload_n hx hb dX9_toldPlayer_118 rfl (lv_at hl 0 rfl) ?_
    refine lv_iload_n hx hb dX9_toldPlayer_119 rfl (lv_at hl 1 rfl) ?_
    refine cv_i (As := [.int (nI n)]) (rest := []) (b := w) ⟨hx, hb, hml, hown, hts⟩ (c_X9_estimate hT (w := w) hw (n := n) (by first | omega | decide | assumption)) (cwV 1 hts gX9_toldPlayer_X9_estimate rfl rfl rfl hdX9_estimate_v ⟨Nat.le_of_ble_eq_true rfl, Nat.le_of_ble_eq_true rfl⟩) hN hE hL (rcv10 hN hT hw.1) rfl rfl hl.1 (Nat.le_of_ble_eq_true rfl) dX9_toldPlayer_120 (Nat.zero_le _) (Nat.zero_le _) (fun r820 H1 locs hL hqr820 => ?_)
    obtain rfl := hqr820.symm
    refine lv_aload_n hx hb dX9_toldPlayer_123 rfl (lv_at hl 0 rfl) ?_
    refine lv_aload_n hx hb dX9_toldPlayer_124 rfl (lv_at hl 0 rfl) ?_
    obtain ⟨hb821, e821, hat821, hk821⟩ := hT.o10 hw.1
    obtain ⟨f821_0, f821_1, f821_3, f821_4, f821_5, f821_6, f821_7, f821_9, f821_10, f821_11, f821_12, f821_13, f821_14, f821_15, f821_16, f821_17, rfl, c821_2, c821_3, c821_4, c821_12, t821_1, t821_8, t821_9, c821_sd, t821_10, t821_11, t821_17⟩ := hk821
    have hP : va_P D vwCl [(w, .inr (9, [.int f821_0, .ref f821_1, .int (nI ((κ w).2.2.1)), .int (nI f821_3), .int (nI f821_4), .int f821_5, .int f821_6, .int f821_7, .ref (κ w).2.2.2, .ref f821_9, .ref f821_10, .ref f821_11, .int (nI f821_12), .int f821_13, .int f821_14, .int f821_15, .int f821_16, .ref f821_17]))] _ := va_P.cons hat821 va_P.nil
    refine va_get (D := D) (ci := 9) (v := .ref (κ w).2.2.2) (C := RX9) (T := TX9) (N := 18) hx hb hts iX9_toldPlayer_9 hown hN.1 hP 0 rfl rfl 8 (by decide) (hts _ mX9_toldPlayer_1) (fun _ h9 => h9) rfl dX9_toldPlayer_125 ?_
    refine lv_iconst (v := 2) hx hb dX9_toldPlayer_128 (by decide) ?_
    obtain ⟨hb822, e822, hat822, hk822⟩ := hT.o24 t821_8.1
    obtain ⟨g822, rfl, q822⟩ := hk822
    have hP : va_P D vwCl [((κ w).2.2.2, .inl (cs 0, 45783, .inl g822)), (w, .inr (9, [.int f821_0, .ref f821_1, .int (nI ((κ w).2.2.1)), .int (nI f821_3), .int (nI f821_4), .int f821_5, .int f821_6, .int f821_7, .ref (κ w).2.2.2, .ref f821_9, .ref f821_10, .ref f821_11, .int (nI f821_12), .int f821_13, .int f821_14, .int f821_15, .int f821_16, .ref f821_17]))] _ := va_P.cons hat822 hP
    refine ld_i (v := (g822 2)) hx hb hN hP 0 rfl (vp_in_nI (n := 2) (N := 45783) (by omega) (by omega)) (by rw [(show (2 : Int32).toNatClampNeg = 2 from nI_clamp (n := 2) (by omega))]) dX9_toldPlayer_129 ?_
    obtain ⟨n823, hn823, en823⟩ := q822.2.2.1
    refine tp_i (nI n823) en823 ?_
    refine cv_i (As := [.int (nI n823)]) (rest := [.int r820]) (b := w) ⟨hx, hb, hml, hown, hts⟩ (c_X9_clock hT (w := w) hw (n := n823) (by first | omega | decide | assumption)) (cwV 1 hts gX9_toldPlayer_X9_clock rfl rfl rfl hdX9_clock_v ⟨Nat.le_of_ble_eq_true rfl, Nat.le_of_ble_eq_true rfl⟩) hN hE hL (rcv10 hN hT hw.1) rfl rfl hl.1 (Nat.le_of_ble_eq_true rfl) dX9_toldPlayer_130 (Nat.zero_le _) (Nat.zero_le _) (fun r824 H1 locs hL hqr824 => ?_)
    obtain rfl := hqr824.symm
    refine lv_isub hx hb dX9_toldPlayer_133 ?_
    refine gn_i (fun x825 => ?_)
    exact en_i hx hb hr hlocks hL rfl (Nat.zero_le _) (Nat.zero_le _) dX9_toldPlayer_134 (rfl)
  · rcases sw_0_8 c819 with rfl | rfl | rfl | rfl | rfl | rfl | rfl | rfl | rfl
    · refine lv_tableIn (tgt := 52) (off := 51) hx hb dX9_toldPlayer_1 (by decide) (by decide) (by decide) (by decide) ?_
      refine lv_aload_n hx hb dX9_toldPlayer_52 rfl (lv_at hl 0 rfl) ?_
      refine lv_iload_n hx hb dX9_toldPlayer_53 rfl (lv_at hl 1 rfl) ?_
      refine lv_iconst (v := 0) hx hb dX9_toldPlayer_54 (by decide) ?_
      refine cv_i (As := [.int (nI n), .int 0]) (rest := []) (b := w) ⟨hx, hb, hml, hown, hts⟩ (c_X9_of hT (w := w) hw (n := n) (k := 0) (by first | omega | decide | assumption) (by first | omega | decide | assumption)) (cwV 2 hts gX9_toldPlayer_X9_of rfl rfl rfl hdX9_of_v ⟨Nat.le_of_ble_eq_true rfl, Nat.le_of_ble_eq_true rfl⟩) hN hE hL (rcv10 hN hT hw.1) rfl rfl hl.1 (Nat.le_of_ble_eq_true rfl) dX9_toldPlayer_55 (Nat.zero_le _) (Nat.zero_le _) (fun r826 H1 locs hL hqr826 => ?_)
      obtain rfl := hqr826.symm
      exact en_i hx hb hr hlocks hL rfl (Nat.zero_le _) (Nat.zero_le _) dX9_toldPlayer_58 (rfl)
    · refine lv_tableIn (tgt := 59) (off := 58) hx hb dX9_toldPlayer_1 (by decide) (by decide) (by decide) (by decide) ?_
      refine lv_aload_n hx hb dX9_toldPlayer_59 rfl (lv_at hl 0 rfl) ?_
      refine lv_iload_n hx hb dX9_toldPlayer_60 rfl (lv_at hl 1 rfl) ?_
      refine cv_i (As := [.int (nI n)]) (rest := []) (b := w) ⟨hx, hb, hml, hown, hts⟩ (c_X9_clock hT (w := w) hw (n := n) (by first | omega | decide | assumption)) (cwV 1 hts gX9_toldPlayer_X9_clock rfl rfl rfl hdX9_clock_v ⟨Nat.le_of_ble_eq_true rfl, Nat.le_of_ble_eq_true rfl⟩) hN hE hL (rcv10 hN hT hw.1) rfl rfl hl.1 (Nat.le_of_ble_eq_true rfl) dX9_toldPlayer_61 (Nat.zero_le _) (Nat.zero_le _) (fun r827 H1 locs hL hqr827 => ?_)
      obtain rfl := hqr827.symm
      exact en_i hx hb hr hlocks hL rfl (Nat.zero_le _) (Nat.zero_le _) dX9_toldPlayer_64 (rfl)
    · refine lv_tableIn (tgt := 65) (off := 64) hx hb dX9_toldPlayer_1 (by decide) (by decide) (by decide) (by decide) ?_
      refine lv_aload_n hx hb dX9_toldPlayer_65 rfl (lv_at hl 0 rfl) ?_
      refine lv_iload_n hx hb dX9_toldPlayer_66 rfl (lv_at hl 1 rfl) ?_
      refine lv_iconst (v := 3) hx hb dX9_toldPlayer_67 (by decide) ?_
      refine cv_i (As := [.int (nI n), .int 3]) (rest := []) (b := w) ⟨hx, hb, hml, hown, hts⟩ (c_X9_of hT (w := w) hw (n := n) (k := 3) (by first | omega | decide | assumption) (by first | omega | decide | assumption)) (cwV 2 hts gX9_toldPlayer_X9_of rfl rfl rfl hdX9_of_v ⟨Nat.le_of_ble_eq_true rfl, Nat.le_of_ble_eq_true rfl⟩) hN hE hL (rcv10 hN hT hw.1) rfl rfl hl.1 (Nat.le_of_ble_eq_true rfl) dX9_toldPlayer_68 (Nat.zero_le _) (Nat.zero_le _) (fun r828 H1 locs hL hqr828 => ?_)
      obtain rfl := hqr828.symm
      exact en_i hx hb hr hlocks hL rfl (Nat.zero_le _) (Nat.zero_le _) dX9_toldPlayer_71 (rfl)
    · refine lv_tableIn (tgt := 72) (off := 71) hx hb dX9_toldPlayer_1 (by decide) (by decide) (by decide) (by decide) ?_
      refine lv_aload_n hx hb dX9_toldPlayer_72 rfl (lv_at hl 0 rfl) ?_
      refine lv_iload_n hx hb dX9_toldPlayer_73 rfl (lv_at hl 1 rfl) ?_
      refine lv_iconst (v := 4) hx hb dX9_toldPlayer_74 (by decide) ?_
      refine cv_i (As := [.int (nI n), .int 4]) (rest := []) (b := w) ⟨hx, hb, hml, hown, hts⟩ (c_X9_of hT (w := w) hw (n := n) (k := 4) (by first | omega | decide | assumption) (by first | omega | decide | assumption)) (cwV 2 hts gX9_toldPlayer_X9_of rfl rfl rfl hdX9_of_v ⟨Nat.le_of_ble_eq_true rfl, Nat.le_of_ble_eq_true rfl⟩) hN hE hL (rcv10 hN hT hw.1) rfl rfl hl.1 (Nat.le_of_ble_eq_true rfl) dX9_toldPlayer_75 (Nat.zero_le _) (Nat.zero_le _) (fun r829 H1 locs hL hqr829 => ?_)
      obtain rfl := hqr829.symm
      exact en_i hx hb hr hlocks hL rfl (Nat.zero_le _) (Nat.zero_le _) dX9_toldPlayer_78 (rfl)
    · refine lv_tableIn (tgt := 79) (off := 78) hx hb dX9_toldPlayer_1 (by decide) (by decide) (by decide) (by decide) ?_
      refine lv_aload_n hx hb dX9_toldPlayer_79 rfl (lv_at hl 0 rfl) ?_
      refine lv_iload_n hx hb dX9_toldPlayer_80 rfl (lv_at hl 1 rfl) ?_
      refine lv_iconst (v := 5) hx hb dX9_toldPlayer_81 (by decide) ?_
      refine cv_i (As := [.int (nI n), .int 5]) (rest := []) (b := w) ⟨hx, hb, hml, hown, hts⟩ (c_X9_of hT (w := w) hw (n := n) (k := 5) (by first | omega | decide | assumption) (by first | omega | decide | assumption)) (cwV 2 hts gX9_toldPlayer_X9_of rfl rfl rfl hdX9_of_v ⟨Nat.le_of_ble_eq_true rfl, Nat.le_of_ble_eq_true rfl⟩) hN hE hL (rcv10 hN hT hw.1) rfl rfl hl.1 (Nat.le_of_ble_eq_true rfl) dX9_toldPlayer_82 (Nat.zero_le _) (Nat.zero_le _) (fun r830 H1 locs hL hqr830 => ?_)
      obtain rfl := hqr830.symm
      exact en_i hx hb hr hlocks hL rfl (Nat.zero_le _) (Nat.zero_le _) dX9_toldPlayer_85 (rfl)
    · refine lv_tableIn (tgt := 86) (off := 85) hx hb dX9_toldPlayer_1 (by decide) (by decide) (by decide) (by decide) ?_
      refine lv_aload_n hx hb dX9_toldPlayer_86 rfl (lv_at hl 0 rfl) ?_
      refine lv_iload_n hx hb dX9_toldPlayer_87 rfl (lv_at hl 1 rfl) ?_
      refine lv_bipush (v := 6) hx hb dX9_toldPlayer_88 (by decide) ?_
      refine cv_i (As := [.int (nI n), .int 6]) (rest := []) (b := w) ⟨hx, hb, hml, hown, hts⟩ (c_X9_of hT (w := w) hw (n := n) (k := 6) (by first | omega | decide | assumption) (by first | omega | decide | assumption)) (cwV 2 hts gX9_toldPlayer_X9_of rfl rfl rfl hdX9_of_v ⟨Nat.le_of_ble_eq_true rfl, Nat.le_of_ble_eq_true rfl⟩) hN hE hL (rcv10 hN hT hw.1) rfl rfl hl.1 (Nat.le_of_ble_eq_true rfl) dX9_toldPlayer_90 (Nat.zero_le _) (Nat.zero_le _) (fun r831 H1 locs hL hqr831 => ?_)
      obtain rfl := hqr831.symm
      exact en_i hx hb hr hlocks hL rfl (Nat.zero_le _) (Nat.zero_le _) dX9_toldPlayer_93 (rfl)
    · refine lv_tableIn (tgt := 94) (off := 93) hx hb dX9_toldPlayer_1 (by decide) (by decide) (by decide) (by decide) ?_
      refine lv_aload_n hx hb dX9_toldPlayer_94 rfl (lv_at hl 0 rfl) ?_
      refine lv_iload_n hx hb dX9_toldPlayer_95 rfl (lv_at hl 1 rfl) ?_
      refine lv_bipush (v := 9) hx hb dX9_toldPlayer_96 (by decide) ?_
      refine cv_i (As := [.int (nI n), .int 9]) (rest := []) (b := w) ⟨hx, hb, hml, hown, hts⟩ (c_X9_of hT (w := w) hw (n := n) (k := 9) (by first | omega | decide | assumption) (by first | omega | decide | assumption)) (cwV 2 hts gX9_toldPlayer_X9_of rfl rfl rfl hdX9_of_v ⟨Nat.le_of_ble_eq_true rfl, Nat.le_of_ble_eq_true rfl⟩) hN hE hL (rcv10 hN hT hw.1) rfl rfl hl.1 (Nat.le_of_ble_eq_true rfl) dX9_toldPlayer_98 (Nat.zero_le _) (Nat.zero_le _) (fun r832 H1 locs hL hqr832 => ?_)
      obtain rfl := hqr832.symm
      exact en_i hx hb hr hlocks hL rfl (Nat.zero_le _) (Nat.zero_le _) dX9_toldPlayer_101 (rfl)
    · refine lv_tableIn (tgt := 102) (off := 101) hx hb dX9_toldPlayer_1 (by decide) (by decide) (by decide) (by decide) ?_
      refine lv_aload_n hx hb dX9_toldPlayer_102 rfl (lv_at hl 0 rfl) ?_
      refine lv_iload_n hx hb dX9_toldPlayer_103 rfl (lv_at hl 1 rfl) ?_
      refine lv_bipush (v := 10) hx hb dX9_toldPlayer_104 (by decide) ?_
      refine cv_i (As := [.int (nI n), .int 10]) (rest := []) (b := w) ⟨hx, hb, hml, hown, hts⟩ (c_X9_of hT (w := w) hw (n := n) (k := 10) (by first | omega | decide | assumption) (by first | omega | decide | assumption)) (cwV 2 hts gX9_toldPlayer_X9_of rfl rfl rfl hdX9_of_v ⟨Nat.le_of_ble_eq_true rfl, Nat.le_of_ble_eq_true rfl⟩) hN hE hL (rcv10 hN hT hw.1) rfl rfl hl.1 (Nat.le_of_ble_eq_true rfl) dX9_toldPlayer_106 (Nat.zero_le _) (Nat.zero_le _) (fun r833 H1 locs hL hqr833 => ?_)
      obtain rfl := hqr833.symm
      exact en_i hx hb hr hlocks hL rfl (Nat.zero_le _) (Nat.zero_le _) dX9_toldPlayer_109 (rfl)
    · refine lv_tableIn (tgt := 110) (off := 109) hx hb dX9_toldPlayer_1 (by decide) (by decide) (by decide) (by decide) ?_
      refine lv_aload_n hx hb dX9_toldPlayer_110 rfl (lv_at hl 0 rfl) ?_
      refine lv_iload_n hx hb dX9_toldPlayer_111 rfl (lv_at hl 1 rfl) ?_
      refine lv_bipush (v := 11) hx hb dX9_toldPlayer_112 (by decide) ?_
      refine cv_i (As := [.int (nI n), .int 11]) (rest := []) (b := w) ⟨hx, hb, hml, hown, hts⟩ (c_X9_of hT (w := w) hw (n := n) (k := 11) (by first | omega | decide | assumption) (by first | omega | decide | assumption)) (cwV 2 hts gX9_toldPlayer_X9_of rfl rfl rfl hdX9_of_v ⟨Nat.le_of_ble_eq_true rfl, Nat.le_of_ble_eq_true rfl⟩) hN hE hL (rcv10 hN hT hw.1) rfl rfl hl.1 (Nat.le_of_ble_eq_true rfl) dX9_toldPlayer_114 (Nat.zero_le _) (Nat.zero_le _) (fun r834 H1 locs hL hqr834 => ?_)
      obtain rfl := hqr834.symm
      exact en_i hx hb hr hlocks hL rfl (Nat.zero_le _) (Nat.zero_le _) dX9_toldPlayer_117 (rfl)
theorem mX9_toldMessage_1 : (.fieldLink RX9 18 "OneBeatModel" "data" "[I" : Cond) ∈ wsX9_toldMessage := List.mem_of_getElem? (i := 1) (by decide +kernel)
theorem iX9_toldMessage_9 : ∀ w ∈ wsX90, w ∈ wsX9_toldMessage := fun w h => List.mem_of_mem_drop (List.mem_of_mem_take ((show wsX90 = (wsX9_toldMessage.drop 2).take 18 by decide +kernel) ▸ h))
set_option maxHeartbeats 4000000 in
set_option maxRecDepth 100000 in
theorem c_X9_toldMessage {l : Launch} {D : va_G} {cs : Nat → ClassId} {B0 T : Nat} {κ : KM} {H0 : Heap} (hT : WT B0 D cs T κ H0) {w : Nat} (hw : T2 κ w 10 12) {n k : Nat} (hn : n ≤ 7399) (hk : k ≤ 5) : KC l yX9_toldMessage wsX9_toldMessage 0 0 0 0 D cs B0 H0 [.ref w, .int (nI (1383 + 6 * n)), .int (nI k)] (Qi (fun _ H => H = H0)) := by
  refine KC.of cX9_toldMessage 4 (some .int) (by decide) rfl (Nat.le_of_ble_eq_true rfl) ?_
  intro p e s m below meth c ls hx hb hr hml hown hts hlocks hin hN hE hH0 hl
  have hown : s.vm.findClass RX9 = some m.cls := hown
  have hl : lv_has ls 4 [(0, .ref w), (1, .int (nI (1383 + 6 * n))), (2, .int (nI k))] := hl
  have hL : OkL B0 [] := OkL.nil
  refine lv_aload_n hx hb dX9_toldMessage_0 rfl (lv_at hl 0 rfl) ?_
  obtain ⟨hb835, e835, hat835, hk835⟩ := hT.o10 hw.1
  obtain ⟨f835_0, f835_1, f835_3, f835_4, f835_5, f835_6, f835_7, f835_9, f835_10, f835_11, f835_12, f835_13, f835_14, f835_15, f835_16, f835_17, rfl, c835_2, c835_3, c835_4, c835_12, t835_1, t835_8, t835_9, c835_sd, t835_10, t835_11, t835_17⟩ := hk835
  have hP : va_P D vwCl [(w, .inr (9, [.int f835_0, .ref f835_1, .int (nI ((κ w).2.2.1)), .int (nI f835_3), .int (nI f835_4), .int f835_5, .int f835_6, .int f835_7, .ref (κ w).2.2.2, .ref f835_9, .ref f835_10, .ref f835_11, .int (nI f835_12), .int f835_13, .int f835_14, .int f835_15, .int f835_16, .ref f835_17]))] _ := va_P.cons hat835 va_P.nil
  refine va_get (D := D) (ci := 9) (v := .ref (κ w).2.2.2) (C := RX9) (T := TX9) (N := 18) hx hb hts iX9_toldMessage_9 hown hN.1 hP 0 rfl rfl 8 (by decide) (hts _ mX9_toldMessage_1) (fun _ h9 => h9) rfl dX9_toldMessage_1 ?_
  refine lv_iload_n hx hb dX9_toldMessage_4 rfl (lv_at hl 1 rfl) ?_
  refine lv_iconst (v := 0) hx hb dX9_toldMessage_5 (by decide) ?_
  refine lv_iadd hx hb dX9_toldMessage_6 ?_
  refine tp_i (nI ((1383 + 6 * n) + 0)) (nI_add (1383 + 6 * n) 0) ?_
  obtain ⟨hb836, e836, hat836, hk836⟩ := hT.o24 t835_8.1
  obtain ⟨g836, rfl, q836⟩ := hk836
  have hP : va_P D vwCl [((κ w).2.2.2, .inl (cs 0, 45783, .inl g836)), (w, .inr (9, [.int f835_0, .ref f835_1, .int (nI ((κ w).2.2.1)), .int (nI f835_3), .int (nI f835_4), .int f835_5, .int f835_6, .int f835_7, .ref (κ w).2.2.2, .ref f835_9, .ref f835_10, .ref f835_11, .int (nI f835_12), .int f835_13, .int f835_14, .int f835_15, .int f835_16, .ref f835_17]))] _ := va_P.cons hat836 hP
  refine ld_i (v := (g836 ((1383 + 6 * n) + 0))) hx hb hN hP 0 rfl (vp_in_nI (n := ((1383 + 6 * n) + 0)) (N := 45783) (by omega) (by omega)) (by rw [(show ((nI ((1383 + 6 * n) + 0)) : Int32).toNatClampNeg = ((1383 + 6 * n) + 0) from nI_clamp (n := ((1383 + 6 * n) + 0)) (by omega))]) dX9_toldMessage_7 ?_
  refine gn_i (fun x837 => ?_)
  refine lv_istore_n (lv' := [(3, .int x837), (0, .ref w), (1, .int (nI (1383 + 6 * n))), (2, .int (nI k))]) hx hb dX9_toldMessage_8 rfl hl (by decide) rfl (fun ls hl => ?_)
  refine lv_iload_n hx hb dX9_toldMessage_9 rfl (lv_at hl 3 rfl) ?_
  refine lv_if_ne (tgt := 20) hx hb dX9_toldMessage_10 (by decide) (fun c838 => ?_) (fun c838 => ?_)
  · have c838 : ¬ k = 0 := fun h9 => c838 ((nI_eq (a := k) (b := 0) (by omega) (by omega)).mpr h9)
    refine lv_iload_n hx hb dX9_toldMessage_20 rfl (lv_at hl 3 rfl) ?_
    refine lv_iconst (v := 1) hx hb dX9_toldMessage_21 (by decide) ?_
    refine lv_icmp_ne (tgt := 35) hx hb dX9_toldMessage_22 (by decide) (fun c839 => ?_) (fun c839 => ?_)
    · have c839 : ¬ k = 1 := fun h9 => c839 ((nI_eq (a := k) (b := 1) (by omega) (by omega)).mpr h9)
      refine lv_iload_n hx hb dX9_toldMessage_35 rfl (lv_at hl 3 rfl) ?_
      refine lv_iconst (v := 2) hx hb dX9_toldMessage_36 (by decide) ?_
      refine lv_icmp_ne (tgt := 47) hx hb dX9_toldMessage_37 (by decide) (fun c840 => ?_) (fun c840 => ?_)
      · have c840 : ¬ k = 2 := fun h9 => c840 ((nI_eq (a := k) (b := 2) (by omega) (by omega)).mpr h9)
        refine lv_aload_n hx hb dX9_toldMessage_47 rfl (lv_at hl 1 rfl) ?_
        refine va_get (D := D) (ci := 9) (v := .ref (κ w).2.2.2) (C := RX9) (T := TX9) (N := 18) hx hb hts iX9_toldMessage_9 hown hN.1 hP 1 rfl rfl 8 (by decide) (hts _ mX9_toldMessage_1) (fun _ h9 => h9) rfl dX9_toldMessage_48 ?_
        refine lv_iload_n hx hb dX9_toldMessage_51 rfl (lv_at hl 2 rfl) ?_
        refine lv_iload_n hx hb dX9_toldMessage_52 rfl (lv_at hl 3 rfl) ?_
        refine lv_iadd hx hb dX9_toldMessage_53 ?_
        refine tp_i (nI ((1383 + 6 * n) + k)) (nI_add (1383 + 6 * n) k) ?_
        refine lv_iconst (v := 2) hx hb dX9_toldMessage_54 (by decide) ?_
        refine lv_isub hx hb dX9_toldMessage_55 ?_
        refine tp_i (nI (((1383 + 6 * n) + k) - 2)) (nI_subN (a := ((1383 + 6 * n) + k)) (b := 2) (by omega)) ?_
        refine ld_i (v := (g836 (((1383 + 6 * n) + k) - 2))) hx hb hN hP 0 rfl (vp_in_nI (n := (((1383 + 6 * n) + k) - 2)) (N := 45783) (by omega) (by omega)) (by rw [(show ((nI (((1383 + 6 * n) + k) - 2)) : Int32).toNatClampNeg = (((1383 + 6 * n) + k) - 2) from nI_clamp (n := (((1383 + 6 * n) + k) - 2)) (by omega))]) dX9_toldMessage_56 ?_
        refine gn_i (fun x841 => ?_)
        exact en_i hx hb hr hlocks hL rfl (Nat.zero_le _) (Nat.zero_le _) dX9_toldMessage_57 (rfl)
      · have c840 : k = 2 := (nI_eq (a := k) (b := 2) (by omega) (by omega)).mp c840
        refine lv_iload_n hx hb dX9_toldMessage_40 rfl (lv_at hl 0 rfl) ?_
        refine lv_bipush (v := 64) hx hb dX9_toldMessage_41 (by decide) ?_
        refine lv_idiv hx hb dX9_toldMessage_43 (by decide) ?_
        refine gn_i (fun x842 => ?_)
        refine lv_goto (tgt := 57) hx hb dX9_toldMessage_44 (by decide) ?_
        exact en_i hx hb hr hlocks hL rfl (Nat.zero_le _) (Nat.zero_le _) dX9_toldMessage_57 (rfl)
    · have c839 : k = 1 := (nI_eq (a := k) (b := 1) (by omega) (by omega)).mp c839
      refine lv_iload_n hx hb dX9_toldMessage_25 rfl (lv_at hl 0 rfl) ?_
      refine lv_bipush (v := 8) hx hb dX9_toldMessage_26 (by decide) ?_
      refine lv_idiv hx hb dX9_toldMessage_28 (by decide) ?_
      refine gn_i (fun x843 => ?_)
      refine lv_bipush (v := 8) hx hb dX9_toldMessage_29 (by decide) ?_
      refine lv_irem hx hb dX9_toldMessage_31 (by decide) ?_
      refine gn_i (fun x844 => ?_)
      refine lv_goto (tgt := 57) hx hb dX9_toldMessage_32 (by decide) ?_
      exact en_i hx hb hr hlocks hL rfl (Nat.zero_le _) (Nat.zero_le _) dX9_toldMessage_57 (rfl)
  · have c838 : k = 0 := (nI_eq (a := k) (b := 0) (by omega) (by omega)).mp c838
    refine lv_iload_n hx hb dX9_toldMessage_13 rfl (lv_at hl 0 rfl) ?_
    refine lv_bipush (v := 8) hx hb dX9_toldMessage_14 (by decide) ?_
    refine lv_irem hx hb dX9_toldMessage_16 (by decide) ?_
    refine gn_i (fun x845 => ?_)
    refine lv_goto (tgt := 57) hx hb dX9_toldMessage_17 (by decide) ?_
    exact en_i hx hb hr hlocks hL rfl (Nat.zero_le _) (Nat.zero_le _) dX9_toldMessage_57 (rfl)
theorem mX9_mayPropose_1 : (.fieldLink RX9 18 "OneBeatModel" "data" "[I" : Cond) ∈ wsX9_mayPropose := List.mem_of_getElem? (i := 1) (by decide +kernel)
theorem iX9_mayPropose_9 : ∀ w ∈ wsX90, w ∈ wsX9_mayPropose := fun w h => List.mem_of_mem_drop (List.mem_of_mem_take ((show wsX90 = (wsX9_mayPropose.drop 18).take 18 by decide +kernel) ▸ h))
set_option maxHeartbeats 4000000 in
set_option maxRecDepth 100000 in
theorem c_X9_mayPropose {l : Launch} {D : va_G} {cs : Nat → ClassId} {B0 T : Nat} {κ : KM} {H0 : Heap} (hT : WT B0 D cs T κ H0) {w : Nat} (hw : T2 κ w 10 12) : KC l yX9_mayPropose wsX9_mayPropose 3 63 0 0 D cs B0 H0 [.ref w] (Qi (fun r H => H = H0 ∧ (r = 0 ∨ r = 1))) := by
  refine KC.of cX9_mayPropose 1 (some .boolean) (by decide) rfl (Nat.le_of_ble_eq_true rfl) ?_
  intro p e s m below meth c ls hx hb hr hml hown hts hlocks hin hN hE hH0 hl
  have hown : s.vm.findClass RX9 = some m.cls := hown
  have hl : lv_has ls 1 [(0, .ref w)] := hl
  have hL : OkL B0 [] := OkL.nil
  refine lv_aload_n hx hb dX9_mayPropose_0 rfl (lv_at hl 0 rfl) ?_
  refine lv_aload_n hx hb dX9_mayPropose_1 rfl (lv_at hl 0 rfl) ?_
  obtain ⟨hb846, e846, hat846, hk846⟩ := hT.o10 hw.1
  obtain ⟨f846_0, f846_1, f846_3, f846_4, f846_5, f846_6, f846_7, f846_9, f846_10, f846_11, f846_12, f846_13, f846_14, f846_15, f846_16, f846_17, rfl, c846_2, c846_3, c846_4, c846_12, t846_1, t846_8, t846_9, c846_sd, t846_10, t846_11, t846_17⟩ := hk846
  have hP : va_P D vwCl [(w, .inr (9, [.int f846_0, .ref f846_1, .int (nI ((κ w).2.2.1)), .int (nI f846_3), .int (nI f846_4), .int f846_5, .int f846_6, .int f846_7, .ref (κ w).2.2.2, .ref f846_9, .ref f846_10, .ref f846_11, .int (nI f846_12), .int f846_13, .int f846_14, .int f846_15, .int f846_16, .ref f846_17]))] _ := va_P.cons hat846 va_P.nil
  refine va_get (D := D) (ci := 9) (v := .ref (κ w).2.2.2) (C := RX9) (T := TX9) (N := 18) hx hb hts iX9_mayPropose_9 hown hN.1 hP 0 rfl rfl 8 (by decide) (hts _ mX9_mayPropose_1) (fun _ h9 => h9) rfl dX9_mayPropose_2 ?_
  refine lv_iconst (v := 2) hx hb dX9_mayPropose_5 (by decide) ?_
  obtain ⟨hb847, e847, hat847, hk847⟩ := hT.o24 t846_8.1
  obtain ⟨g847, rfl, q847⟩ := hk847
  have hP : va_P D vwCl [((κ w).2.2.2, .inl (cs 0, 45783, .inl g847)), (w, .inr (9, [.int f846_0, .ref f846_1, .int (nI ((κ w).2.2.1)), .int (nI f846_3), .int (nI f846_4), .int f846_5, .int f846_6, .int f846_7, .ref (κ w).2.2.2, .ref f846_9, .ref f846_10, .ref f846_11, .int (nI f846_12), .int f846_13, .int f846_14, .int f846_15, .int f846_16, .ref f846_17]))] _ := va_P.cons hat847 hP
  refine ld_i (v := (g847 2)) hx hb hN hP 0 rfl (vp_in_nI (n := 2) (N := 45783) (by omega) (by omega)) (by rw [(show (2 : Int32).toNatClampNeg = 2 from nI_clamp (n := 2) (by omega))]) dX9_mayPropose_6 ?_
  obtain ⟨n848, hn848, en848⟩ := q847.2.2.1
  refine tp_i (nI n848) en848 ?_
  refine cv_i (As := [.int (nI n848)]) (rest := []) (b := w) ⟨hx, hb, hml, hown, hts⟩ (c_X9_isUp hT (w := w) hw (n := n848) (by first | omega | decide | assumption)) (cwV 1 hts gX9_mayPropose_X9_isUp rfl rfl rfl hdX9_isUp_v ⟨Nat.le_of_ble_eq_true rfl, Nat.le_of_ble_eq_true rfl⟩) hN hE hL (rcv10 hN hT hw.1) rfl rfl hl.1 (Nat.le_of_ble_eq_true rfl) dX9_mayPropose_7 (Nat.zero_le _) (Nat.zero_le _) (fun r849 H1 locs hL hqr849 => ?_)
  obtain ⟨h9, hqr849⟩ := hqr849; replace h9 := h9.symm; subst h9
  rcases hqr849 with rfl | rfl
  · refine lv_if_eq (tgt := 24) hx hb dX9_mayPropose_10 (by decide) (fun _ => ?_) (fun c9 => absurd (by decide) c9)
    refine lv_iconst (v := 0) hx hb dX9_mayPropose_24 (by decide) ?_
    exact en_i hx hb hr hlocks hL rfl (Nat.zero_le _) (Nat.zero_le _) dX9_mayPropose_25 (⟨rfl, Or.inl rfl⟩)
  · refine lv_if_eq (tgt := 24) hx hb dX9_mayPropose_10 (by decide) (fun c9 => absurd c9 (by decide)) (fun _ => ?_)
    refine lv_aload_n hx hb dX9_mayPropose_13 rfl (lv_at hl 0 rfl) ?_
    refine cv_i (As := []) (rest := []) (b := w) ⟨hx, hb, hml, hown, hts⟩ (c_X9_isOpen hT (w := w) hw) (cwV 0 hts gX9_mayPropose_X9_isOpen rfl rfl rfl hdX9_isOpen_v ⟨Nat.le_of_ble_eq_true rfl, Nat.le_of_ble_eq_true rfl⟩) hN hE hL (rcv10 hN hT hw.1) rfl rfl hl.1 (Nat.le_of_ble_eq_true rfl) dX9_mayPropose_14 (Nat.zero_le _) (Nat.zero_le _) (fun r850 H1 locs hL hqr850 => ?_)
    obtain ⟨h9, hqr850⟩ := hqr850; replace h9 := h9.symm; subst h9
    rcases hqr850 with rfl | rfl
    · refine lv_if_ne (tgt := 24) hx hb dX9_mayPropose_17 (by decide) (fun c9 => absurd (by decide) c9) (fun _ => ?_)
      refine lv_iconst (v := 1) hx hb dX9_mayPropose_20 (by decide) ?_
      refine lv_goto (tgt := 25) hx hb dX9_mayPropose_21 (by decide) ?_
      exact en_i hx hb hr hlocks hL rfl (Nat.zero_le _) (Nat.zero_le _) dX9_mayPropose_25 (⟨rfl, Or.inr rfl⟩)
    · refine lv_if_ne (tgt := 24) hx hb dX9_mayPropose_17 (by decide) (fun _ => ?_) (fun c9 => absurd c9 (by decide))
      refine lv_iconst (v := 0) hx hb dX9_mayPropose_24 (by decide) ?_
      exact en_i hx hb hr hlocks hL rfl (Nat.zero_le _) (Nat.zero_le _) dX9_mayPropose_25 (⟨rfl, Or.inl rfl⟩)
