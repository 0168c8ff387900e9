set_option maxHeartbeats 4000000 in
set_option maxRecDepth 100000 in
theorem c_X9_readSum_d1 {l : Launch} {D : va_G} {cs : Nat → ClassId} {B0 T : Nat} {κ : KM} {H0 : Heap} (hT : WT B0 D cs T κ H0) {w : Nat} (hw : T2 κ w 10 12) {pos tl : Nat} {er : Int32} {dr bu : Nat} {g : Nat → Int32} {N h : Nat} (hbT : T2 κ bu 23 14) (hdT : T2 κ dr 26 17) (hps : PS D cs w H0 pos tl er 1 dr bu g N h) : KC l yX9_readSum wsX9_readSum 16 346 0 0 D cs B0 H0 [.ref w] (Qv (fun H => WT B0 D cs T κ H ∧ Fr B0 [12, 17] κ H0 H ∧ ∃ N1 pos1 er1, N1 + 2 * pos ≤ N + 2 * pos1 ∧ pos ≤ pos1 ∧ (er1 = 0 → er = 0) ∧ PS D cs w H pos1 tl er1 1 dr bu g N1 (h + 1))) := by
  refine KC.of cX9_readSum 2 none (by decide) rfl (Nat.le_of_ble_eq_true rfl) ?_
  intro p e s m below meth c ls hx hb hr hml hown hts hlocks hin hN hE hH0 hl
  have hown : s.vm.findClass RX9 = some m.cls := hown
  have hl : lv_has ls 2 [(0, .ref w)] := hl
  have hL : OkL B0 [] := OkL.nil
  have hF : Fr B0 [12, 17] κ H0 H0 := Fr.rf
  obtain ⟨hm, f3773, hd3773, e3773, n3773, v3773⟩ := hps
  have hm8 := hm.2.2.2.2.2.2.2
  have hbd : B0 ≤ dr := (hT.o26 hdT.1).1
  have hDR := hT.dr hdT hd3773
  have hP : va_P D vwCl [(dr, .inl (cs 0, 1383, .inl f3773))] _ := va_P.cons hd3773 va_P.nil
  refine lv_aload_n hx hb dX9_readSum_0 rfl (lv_at hl 0 rfl) ?_
  have hps : PS D cs w _ (pos) (tl) (er) (1) dr bu g (N) (h) := ⟨hm, f3773, hP 0 _ rfl, e3773, by omega, v3773⟩
  refine cv_v (As := []) (rest := []) (b := w) ⟨hx, hb, hml, hown, hts⟩ (c_X9_term_d1 hT (w := w) hw hbT hdT hps) (cwV 0 hts gX9_readSum_X9_term rfl rfl rfl hdX9_term_v ⟨Nat.le_of_ble_eq_true rfl, Nat.le_of_ble_eq_true rfl⟩) hN hE hL (rcv10 hN hT hw.1) rfl rfl hl.1 (Nat.le_of_ble_eq_true rfl) dX9_readSum_1 (Nat.zero_le _) (Nat.zero_le _) (fun H1 locs hL hqr3775 => ?_)
  obtain ⟨hT1, hF1, hqr3775⟩ := hqr3775
  have hF := hF.tr (hF1.mono (by simp))
  have hT := hT1
  obtain ⟨N3776, p3777, er3778, a3779, b3780, z3781, m3782, f3783, d3784, e3785, n3786, v3787⟩ := hqr3775
  have hm := m3782
  have hm8 := hm.2.2.2.2.2.2.2
  have hbd : B0 ≤ dr := (hT.o26 hdT.1).1
  have hDR := hT.dr hdT d3784
  have hP : va_P D vwCl [(dr, .inl (cs 0, 1383, .inl f3783))] _ := va_P.cons d3784 va_P.nil
  have hps : PS D cs w _ (p3777) (tl) (er3778) (1) dr bu g (N3776) ((h + 1)) := ⟨hm, f3783, hP 0 _ rfl, e3785, by omega, v3787⟩
  refine lp_m (α := Nat × Nat × Int32) (nL := 2) (fun a9 => 600 - a9.1) (fun a9 H9 l9 => (PS D cs w H9 a9.1 tl a9.2.2 1 dr bu g a9.2.1 (h + 1)) ∧ (a9.2.1 + 2 * pos ≤ N + 2 * a9.1) ∧ (pos ≤ a9.1) ∧ (a9.2.2 = 0 → er = 0) ∧ (WT B0 D cs T κ H9) ∧ (Fr B0 [12, 17] κ H0 H9) ∧ (OkL B0 l9)) (fun a9 => [(0, .ref w)]) ?_ (p3777, N3776, er3778) _ _ _ ⟨hps, (by show (N3776) + 2 * pos ≤ N + 2 * (p3777); omega), (by show pos ≤ (p3777); omega), (fun e9 => id (z3781 e9)), hT, hF, hL⟩ (lv_sub hl [0] rfl)
  rintro ⟨p, N1, er1⟩ H locs ls ih3789 ⟨hps, hb1, hb2, hz1, hT, hF, hL⟩ hl
  have hl : lv_has ls 2 [(0, .ref w)] := hl
  have hps : PS D cs w H p tl er1 1 dr bu g N1 (h + 1) := hps
  have hb1 : N1 + 2 * pos ≤ N + 2 * p := hb1
  have hb2 : pos ≤ p := hb2
  have hz1 : er1 = 0 → er = 0 := hz1
  obtain ⟨hm, f3790, hd3790, e3790, n3790, v3790⟩ := hps
  have hm8 := hm.2.2.2.2.2.2.2
  have hbd : B0 ≤ dr := (hT.o26 hdT.1).1
  have hDR := hT.dr hdT hd3790
  have hP : va_P D vwCl [(dr, .inl (cs 0, 1383, .inl f3790))] _ := va_P.cons hd3790 va_P.nil
  refine lv_aload_n hx hb dX9_readSum_4 rfl (lv_at hl 0 rfl) ?_
  refine cv_i (As := []) (rest := []) (b := w) ⟨hx, hb, hml, hown, hts⟩ (c_X9_isGood hT (w := w) hw hbT hdT hm) (cwV 0 hts gX9_readSum_X9_isGood rfl rfl rfl hdX9_isGood_v ⟨Nat.le_of_ble_eq_true rfl, Nat.le_of_ble_eq_true rfl⟩) hN hE hL (rcv10 hN hT hw.1) rfl rfl hl.1 (Nat.le_of_ble_eq_true rfl) dX9_readSum_5 (Nat.zero_le _) (Nat.zero_le _) (fun r3792 H1 locs hL hqr3792 => ?_)
  obtain ⟨h9, hqr3792⟩ := hqr3792; replace h9 := h9.symm; subst h9
  rcases hqr3792 with ⟨rfl, e3793⟩ | ⟨rfl, e3794⟩
  · refine lv_if_eq (tgt := 74) hx hb dX9_readSum_8 (by decide) (fun c9 => absurd c9 (by decide)) (fun _ => ?_)
    refine lv_aload_n hx hb dX9_readSum_11 rfl (lv_at hl 0 rfl) ?_
    refine cv_i (As := []) (rest := []) (b := w) ⟨hx, hb, hml, hown, hts⟩ (c_X9_ahead hT (w := w) hw hbT hdT hm) (cwV 0 hts gX9_readSum_X9_ahead rfl rfl rfl hdX9_ahead_v ⟨Nat.le_of_ble_eq_true rfl, Nat.le_of_ble_eq_true rfl⟩) hN hE hL (rcv10 hN hT hw.1) rfl rfl hl.1 (Nat.le_of_ble_eq_true rfl) dX9_readSum_12 (Nat.zero_le _) (Nat.zero_le _) (fun r3795 H1 locs hL hqr3795 => ?_)
    obtain ⟨hT1, hF1, hqr3795⟩ := hqr3795
    have hP : va_P D vwCl [(dr, .inl (cs 0, 1383, .inl f3790))] _ := hF1.hP (hP.sub [0] rfl) (fa_c ⟨by rw [hdT.1]; decide, by rw [hdT.2]; first | decide | (simp; done) | (simp [h15a, h15b, h15c]; done) | (simp; omega)⟩ fa_n)
    have hF := hF.tr (hF1.mono (by simp))
    have hT := hT1
    obtain ⟨p3796, h3797, m3798, n3799, s3800, rfl⟩ := hqr3795
    have hm := m3798
    have hm8 := hm.2.2.2.2.2.2.2
    refine lv_bipush (v := 43) hx hb dX9_readSum_15 (by decide) ?_
    refine lv_icmp_eq (tgt := 29) hx hb dX9_readSum_17 (by decide) (fun c3801 => ?_) (fun c3801 => ?_)
    · have hl9 := byF_c (c3801) (by decide)
      refine lv_aload_n hx hb dX9_readSum_29 rfl (lv_at hl 0 rfl) ?_
      refine cv_i (As := []) (rest := []) (b := w) ⟨hx, hb, hml, hown, hts⟩ (c_X9_ahead hT (w := w) hw hbT hdT hm) (cwV 0 hts gX9_readSum_X9_ahead rfl rfl rfl hdX9_ahead_v ⟨Nat.le_of_ble_eq_true rfl, Nat.le_of_ble_eq_true rfl⟩) hN hE hL (rcv10 hN hT hw.1) rfl rfl hl.1 (Nat.le_of_ble_eq_true rfl) dX9_readSum_30 (Nat.zero_le _) (Nat.zero_le _) (fun r3802 H1 locs hL hqr3802 => ?_)
      obtain ⟨hT1, hF1, hqr3802⟩ := hqr3802
      have hP : va_P D vwCl [(dr, .inl (cs 0, 1383, .inl f3790))] _ := hF1.hP (hP.sub [0] rfl) (fa_c ⟨by rw [hdT.1]; decide, by rw [hdT.2]; first | decide | (simp; done) | (simp [h15a, h15b, h15c]; done) | (simp; omega)⟩ fa_n)
      have hF := hF.tr (hF1.mono (by simp))
      have hT := hT1
      obtain ⟨p3803, h3804, m3805, n3806, s3807, rfl⟩ := hqr3802
      have hm := m3805
      have hpe := s3807 n3799
      rw [hpe] at hm
      refine tp_i (byF g tl p3796) (by rw [hpe]) ?_
      have hm8 := hm.2.2.2.2.2.2.2
      refine lv_bipush (v := 43) hx hb dX9_readSum_33 (by decide) ?_
      refine lv_icmp_ne (tgt := 42) hx hb dX9_readSum_35 (by decide) (fun c3808 => ?_) (fun c3808 => ?_)
      · refine lv_iconst (v := 0) hx hb dX9_readSum_42 (by decide) ?_
        refine lv_istore_n (lv' := [(1, .int 0), (0, .ref w)]) hx hb dX9_readSum_43 rfl hl (by decide) rfl (fun ls hl => ?_)
        refine lv_aload_n hx hb dX9_readSum_44 rfl (lv_at hl 1 rfl) ?_
        refine lv_dup hx hb dX9_readSum_45 rfl ?_
        obtain ⟨hb3809, e3809, hat3809, hk3809⟩ := hT.o10 hw.1
        obtain ⟨f3809_0, f3809_1, f3809_3, f3809_4, f3809_5, f3809_6, f3809_7, f3809_9, f3809_10, f3809_11, f3809_12, f3809_13, f3809_14, f3809_15, f3809_16, f3809_17, rfl, c3809_2, c3809_3, c3809_4, c3809_12, t3809_1, t3809_8, t3809_9, c3809_sd, t3809_10, t3809_11, t3809_17⟩ := hk3809
        obtain ⟨rfl, rfl, rfl, rfl, rfl, rfl⟩ := hm.at hat3809 c3809_3 (by omega)
        have hm8 := hm.2.2.2.2.2.2.2
        have hP : va_P D vwCl [(w, .inr (9, [.int f3809_0, .ref bu, .int (nI ((κ w).2.2.1)), .int (nI tl), .int (nI p3796), .int er1, .int f3809_6, .int f3809_7, .ref (κ w).2.2.2, .ref f3809_9, .ref dr, .ref f3809_11, .int (nI f3809_12), .int f3809_13, .int 1, .int f3809_15, .int f3809_16, .ref f3809_17])), (dr, .inl (cs 0, 1383, .inl f3790))] _ := va_P.cons hat3809 hP
        refine va_get (D := D) (ci := 9) (v := .int (nI p3796)) (C := RX9) (T := TX9) (N := 18) hx hb hts iX9_readSum_9 hown hN.1 hP 0 rfl rfl 4 (by decide) (hts _ mX9_readSum_1) (fun _ h9 => h9) rfl dX9_readSum_46 ?_
        refine lv_iconst (v := 1) hx hb dX9_readSum_49 (by decide) ?_
        refine lv_iadd hx hb dX9_readSum_50 ?_
        refine tp_i (nI (p3796 + 1)) (nI_add p3796 1) ?_
        have hB : Bx B0 D _ [(w, .inr (9, [.int f3809_0, .ref bu, .int (nI ((κ w).2.2.1)), .int (nI tl), .int (nI p3796), .int er1, .int f3809_6, .int f3809_7, .ref (κ w).2.2.2, .ref f3809_9, .ref dr, .ref f3809_11, .int (nI f3809_12), .int f3809_13, .int 1, .int f3809_15, .int f3809_16, .ref f3809_17])), (dr, .inl (cs 0, 1383, .inl f3790))] [] _ _ := Bx.of (fun a => (κ a).1) hL hP (fa_c hb3809 (fa_c hbd fa_n)) (by simp only [List.map_cons, List.map_nil, hw.1, hdT.1]; decide)
        refine b_put (D := D) (ci := 9) (v := .int (nI (p3796 + 1))) (ty := .int) (C := RX9) (T := TX9) (N := 18) hx hb hts iX9_readSum_9 tyX9 tyX9_ok nmX9 hown hN hB 0 rfl rfl 4 (by decide) (hts _ mX9_readSum_1) (fun _ h9 => h9) rfl (by decide +kernel) rfl rfl (Nat.le_of_ble_eq_true rfl) (.inl rfl) dX9_readSum_51 (fun H locs hB => ?_)
        have hB : Bx B0 D _ [(w, .inr (9, [.int f3809_0, .ref bu, .int (nI ((κ w).2.2.1)), .int (nI tl), .int (nI (p3796 + 1)), .int er1, .int f3809_6, .int f3809_7, .ref (κ w).2.2.2, .ref f3809_9, .ref dr, .ref f3809_11, .int (nI f3809_12), .int f3809_13, .int 1, .int f3809_15, .int f3809_16, .ref f3809_17])), (dr, .inl (cs 0, 1383, .inl f3790))] [w] _ _ := hB
        refine lv_aload_n hx hb dX9_readSum_54 rfl (lv_at hl 1 rfl) ?_
        have hT : WT B0 D cs T κ _ := hT.close hB ⟨⟨0, _, rfl, ok_10 hw.1 ⟨_, _, _, _, _, _, _, _, _, _, _, _, _, _, _, _, rfl, (by omega), (by omega), (by omega), (by omega), hbT, t3809_8, t3809_9, c3809_sd, hdT, t3809_11, t3809_17⟩⟩, trivial⟩
        have hF : Fr B0 [12, 17] κ H0 _ := hF.close hB (fa_c (by simp [hw.2]) fa_n)
        have hL : OkL B0 _ := hB.2.2.2.2.2
        have hP : va_P D vwCl [(w, .inr (9, [.int f3809_0, .ref bu, .int (nI ((κ w).2.2.1)), .int (nI tl), .int (nI (p3796 + 1)), .int er1, .int f3809_6, .int f3809_7, .ref (κ w).2.2.2, .ref f3809_9, .ref dr, .ref f3809_11, .int (nI f3809_12), .int f3809_13, .int 1, .int f3809_15, .int f3809_16, .ref f3809_17])), (dr, .inl (cs 0, 1383, .inl f3790))] _ := hB.1
        have hbu9 := (hm.2.2.2.2.2.2.1).kept (hB.2.2.2.1 _ hm.2.2.2.2.2.2.1.lt (by simp only [List.mem_cons, List.not_mem_nil, or_false, not_or]; exact ne_c hbT.1 hw.1 (by decide)))
        have hm : MF D cs w _ ((p3796 + 1)) (tl) (er1) (1) dr bu g := ⟨⟨_, hP 0 _ rfl, rfl⟩, ⟨_, hP 0 _ rfl, rfl⟩, ⟨_, hP 0 _ rfl, rfl⟩, ⟨_, hP 0 _ rfl, rfl⟩, ⟨_, hP 0 _ rfl, rfl⟩, ⟨_, hP 0 _ rfl, rfl⟩, hbu9, (by omega), (by omega)⟩
        have hps : PS D cs w _ ((p3796 + 1)) (tl) (er1) (1) dr bu g (N1) ((h + 1)) := ⟨hm, f3790, hP 1 _ rfl, e3790, by omega, v3790⟩
        refine cv_v (As := []) (rest := []) (b := w) ⟨hx, hb, hml, hown, hts⟩ (c_X9_term_d1 hT (w := w) hw hbT hdT hps) (cwV 0 hts gX9_readSum_X9_term rfl rfl rfl hdX9_term_v ⟨Nat.le_of_ble_eq_true rfl, Nat.le_of_ble_eq_true rfl⟩) hN hE hL (rcv10 hN hT hw.1) rfl rfl hl.1 (Nat.le_of_ble_eq_true rfl) dX9_readSum_55 (Nat.zero_le _) (Nat.zero_le _) (fun H1 locs hL hqr3810 => ?_)
        obtain ⟨hT1, hF1, hqr3810⟩ := hqr3810
        have hF := hF.tr (hF1.mono (by simp))
        have hT := hT1
        obtain ⟨N3811, p3812, er3813, a3814, b3815, z3816, m3817, f3818, d3819, e3820, n3821, v3822⟩ := hqr3810
        have hm := m3817
        have hm8 := hm.2.2.2.2.2.2.2
        have hbd : B0 ≤ dr := (hT.o26 hdT.1).1
        have hDR := hT.dr hdT d3819
        have hP : va_P D vwCl [(dr, .inl (cs 0, 1383, .inl f3818))] _ := va_P.cons d3819 va_P.nil
        refine lv_aload_n hx hb dX9_readSum_58 rfl (lv_at hl 1 rfl) ?_
        refine lv_iload_n hx hb dX9_readSum_59 rfl (lv_at hl 0 rfl) ?_
        refine lv_if_eq (tgt := 67) hx hb dX9_readSum_60 (by decide) (fun _ => ?_) (fun c9 => absurd (by decide) c9)
        refine lv_iconst (v := 3) hx hb dX9_readSum_67 (by decide) ?_
        refine cv_v (As := [.int 3]) (rest := []) (b := w) ⟨hx, hb, hml, hown, hts⟩ (c_X9_emit hT (w := w) hw (x := 3) hbT hdT hm (hP 0 _ rfl) e3820 (fun _ => by omega)) (cwV 1 hts gX9_readSum_X9_emit rfl rfl rfl hdX9_emit_v ⟨Nat.le_of_ble_eq_true rfl, Nat.le_of_ble_eq_true rfl⟩) hN hE hL (rcv10 hN hT hw.1) rfl rfl hl.1 (Nat.le_of_ble_eq_true rfl) dX9_readSum_68 (Nat.zero_le _) (Nat.zero_le _) (fun H1 locs hL hqr3824 => ?_)
        obtain ⟨hT1, hF1, hqr3824⟩ := hqr3824
        have hF := hF.tr (hF1.mono (by simp))
        have hT := hT1
        obtain ⟨f3825, N3826, d3827, e3828, x3829, m3830⟩ := hqr3824
        have hm := m3830
        have hm8 := hm.2.2.2.2.2.2.2
        have nx3829 := x3829.n
        have ox3829 := nx3829.1
        have hbd : B0 ≤ dr := (hT.o26 hdT.1).1
        have hDR := hT.dr hdT d3827
        have hP : va_P D vwCl [(dr, .inl (cs 0, 1383, .inl f3825))] _ := va_P.cons d3827 va_P.nil
        refine lv_goto (tgt := 4) hx hb dX9_readSum_71 (by decide) ?_
        have hps : PS D cs w _ (p3812) (tl) (er3813) (1) dr bu g (N3826) ((h + 1)) := ⟨hm, f3825, hP 0 _ rfl, e3828, by omega, (EM.op x3829 (by decide) v3822)⟩
        exact ih3789 (p3812, N3826, er3813) _ _ _ (by show 600 - (p3812) < 600 - p; omega) ⟨hps, (by show (N3826) + 2 * pos ≤ N + 2 * (p3812); omega), (by show pos ≤ (p3812); omega), (fun e9 => hz1 (z3816 e9)), hT, hF, hL⟩ (lv_sub hl [1] rfl)
      · refine lv_iconst (v := 1) hx hb dX9_readSum_38 (by decide) ?_
        refine lv_goto (tgt := 43) hx hb dX9_readSum_39 (by decide) ?_
        refine lv_istore_n (lv' := [(1, .int 1), (0, .ref w)]) hx hb dX9_readSum_43 rfl hl (by decide) rfl (fun ls hl => ?_)
        refine lv_aload_n hx hb dX9_readSum_44 rfl (lv_at hl 1 rfl) ?_
        refine lv_dup hx hb dX9_readSum_45 rfl ?_
        obtain ⟨hb3832, e3832, hat3832, hk3832⟩ := hT.o10 hw.1
        obtain ⟨f3832_0, f3832_1, f3832_3, f3832_4, f3832_5, f3832_6, f3832_7, f3832_9, f3832_10, f3832_11, f3832_12, f3832_13, f3832_14, f3832_15, f3832_16, f3832_17, rfl, c3832_2, c3832_3, c3832_4, c3832_12, t3832_1, t3832_8, t3832_9, c3832_sd, t3832_10, t3832_11, t3832_17⟩ := hk3832
        obtain ⟨rfl, rfl, rfl, rfl, rfl, rfl⟩ := hm.at hat3832 c3832_3 (by omega)
        have hm8 := hm.2.2.2.2.2.2.2
        have hP : va_P D vwCl [(w, .inr (9, [.int f3832_0, .ref bu, .int (nI ((κ w).2.2.1)), .int (nI tl), .int (nI p3796), .int er1, .int f3832_6, .int f3832_7, .ref (κ w).2.2.2, .ref f3832_9, .ref dr, .ref f3832_11, .int (nI f3832_12), .int f3832_13, .int 1, .int f3832_15, .int f3832_16, .ref f3832_17])), (dr, .inl (cs 0, 1383, .inl f3790))] _ := va_P.cons hat3832 hP
        refine va_get (D := D) (ci := 9) (v := .int (nI p3796)) (C := RX9) (T := TX9) (N := 18) hx hb hts iX9_readSum_9 hown hN.1 hP 0 rfl rfl 4 (by decide) (hts _ mX9_readSum_1) (fun _ h9 => h9) rfl dX9_readSum_46 ?_
        refine lv_iconst (v := 1) hx hb dX9_readSum_49 (by decide) ?_
        refine lv_iadd hx hb dX9_readSum_50 ?_
        refine tp_i (nI (p3796 + 1)) (nI_add p3796 1) ?_
        have hB : Bx B0 D _ [(w, .inr (9, [.int f3832_0, .ref bu, .int (nI ((κ w).2.2.1)), .int (nI tl), .int (nI p3796), .int er1, .int f3832_6, .int f3832_7, .ref (κ w).2.2.2, .ref f3832_9, .ref dr, .ref f3832_11, .int (nI f3832_12), .int f3832_13, .int 1, .int f3832_15, .int f3832_16, .ref f3832_17])), (dr, .inl (cs 0, 1383, .inl f3790))] [] _ _ := Bx.of (fun a => (κ a).1) hL hP (fa_c hb3832 (fa_c hbd fa_n)) (by simp only [List.map_cons, List.map_nil, hw.1, hdT.1]; decide)
        refine b_put (D := D) (ci := 9) (v := .int (nI (p3796 + 1))) (ty := .int) (C := RX9) (T := TX9) (N := 18) hx hb hts iX9_readSum_9 tyX9 tyX9_ok nmX9 hown hN hB 0 rfl rfl 4 (by decide) (hts _ mX9_readSum_1) (fun _ h9 => h9) rfl (by decide +kernel) rfl rfl (Nat.le_of_ble_eq_true rfl) (.inl rfl) dX9_readSum_51 (fun H locs hB => ?_)
        have hB : Bx B0 D _ [(w, .inr (9, [.int f3832_0, .ref bu, .int (nI ((κ w).2.2.1)), .int (nI tl), .int (nI (p3796 + 1)), .int er1, .int f3832_6, .int f3832_7, .ref (κ w).2.2.2, .ref f3832_9, .ref dr, .ref f3832_11, .int (nI f3832_12), .int f3832_13, .int 1, .int f3832_15, .int f3832_16, .ref f3832_17])), (dr, .inl (cs 0, 1383, .inl f3790))] [w] _ _ := hB
        refine lv_aload_n hx hb dX9_readSum_54 rfl (lv_at hl 1 rfl) ?_
        have hT : WT B0 D cs T κ _ := hT.close hB ⟨⟨0, _, rfl, ok_10 hw.1 ⟨_, _, _, _, _, _, _, _, _, _, _, _, _, _, _, _, rfl, (by omega), (by omega), (by omega), (by omega), hbT, t3832_8, t3832_9, c3832_sd, hdT, t3832_11, t3832_17⟩⟩, trivial⟩
        have hF : Fr B0 [12, 17] κ H0 _ := hF.close hB (fa_c (by simp [hw.2]) fa_n)
        have hL : OkL B0 _ := hB.2.2.2.2.2
        have hP : va_P D vwCl [(w, .inr (9, [.int f3832_0, .ref bu, .int (nI ((κ w).2.2.1)), .int (nI tl), .int (nI (p3796 + 1)), .int er1, .int f3832_6, .int f3832_7, .ref (κ w).2.2.2, .ref f3832_9, .ref dr, .ref f3832_11, .int (nI f3832_12), .int f3832_13, .int 1, .int f3832_15, .int f3832_16, .ref f3832_17])), (dr, .inl (cs 0, 1383, .inl f3790))] _ := hB.1
        have hbu9 := (hm.2.2.2.2.2.2.1).kept (hB.2.2.2.1 _ hm.2.2.2.2.2.2.1.lt (by simp only [List.mem_cons, List.not_mem_nil, or_false, not_or]; exact ne_c hbT.1 hw.1 (by decide)))
        have hm : MF D cs w _ ((p3796 + 1)) (tl) (er1) (1) dr bu g := ⟨⟨_, hP 0 _ rfl, rfl⟩, ⟨_, hP 0 _ rfl, rfl⟩, ⟨_, hP 0 _ rfl, rfl⟩, ⟨_, hP 0 _ rfl, rfl⟩, ⟨_, hP 0 _ rfl, rfl⟩, ⟨_, hP 0 _ rfl, rfl⟩, hbu9, (by omega), (by omega)⟩
        have hps : PS D cs w _ ((p3796 + 1)) (tl) (er1) (1) dr bu g (N1) ((h + 1)) := ⟨hm, f3790, hP 1 _ rfl, e3790, by omega, v3790⟩
        refine cv_v (As := []) (rest := []) (b := w) ⟨hx, hb, hml, hown, hts⟩ (c_X9_term_d1 hT (w := w) hw hbT hdT hps) (cwV 0 hts gX9_readSum_X9_term rfl rfl rfl hdX9_term_v ⟨Nat.le_of_ble_eq_true rfl, Nat.le_of_ble_eq_true rfl⟩) hN hE hL (rcv10 hN hT hw.1) rfl rfl hl.1 (Nat.le_of_ble_eq_true rfl) dX9_readSum_55 (Nat.zero_le _) (Nat.zero_le _) (fun H1 locs hL hqr3833 => ?_)
        obtain ⟨hT1, hF1, hqr3833⟩ := hqr3833
        have hF := hF.tr (hF1.mono (by simp))
        have hT := hT1
        obtain ⟨N3834, p3835, er3836, a3837, b3838, z3839, m3840, f3841, d3842, e3843, n3844, v3845⟩ := hqr3833
        have hm := m3840
        have hm8 := hm.2.2.2.2.2.2.2
        have hbd : B0 ≤ dr := (hT.o26 hdT.1).1
        have hDR := hT.dr hdT d3842
        have hP : va_P D vwCl [(dr, .inl (cs 0, 1383, .inl f3841))] _ := va_P.cons d3842 va_P.nil
        refine lv_aload_n hx hb dX9_readSum_58 rfl (lv_at hl 1 rfl) ?_
        refine lv_iload_n hx hb dX9_readSum_59 rfl (lv_at hl 0 rfl) ?_
        refine lv_if_eq (tgt := 67) hx hb dX9_readSum_60 (by decide) (fun c9 => absurd c9 (by decide)) (fun _ => ?_)
        refine lv_iconst (v := 2) hx hb dX9_readSum_63 (by decide) ?_
        refine lv_goto (tgt := 68) hx hb dX9_readSum_64 (by decide) ?_
        refine cv_v (As := [.int 2]) (rest := []) (b := w) ⟨hx, hb, hml, hown, hts⟩ (c_X9_emit hT (w := w) hw (x := 2) hbT hdT hm (hP 0 _ rfl) e3843 (fun _ => by omega)) (cwV 1 hts gX9_readSum_X9_emit rfl rfl rfl hdX9_emit_v ⟨Nat.le_of_ble_eq_true rfl, Nat.le_of_ble_eq_true rfl⟩) hN hE hL (rcv10 hN hT hw.1) rfl rfl hl.1 (Nat.le_of_ble_eq_true rfl) dX9_readSum_68 (Nat.zero_le _) (Nat.zero_le _) (fun H1 locs hL hqr3847 => ?_)
        obtain ⟨hT1, hF1, hqr3847⟩ := hqr3847
        have hF := hF.tr (hF1.mono (by simp))
        have hT := hT1
        obtain ⟨f3848, N3849, d3850, e3851, x3852, m3853⟩ := hqr3847
        have hm := m3853
        have hm8 := hm.2.2.2.2.2.2.2
        have nx3852 := x3852.n
        have ox3852 := nx3852.1
        have hbd : B0 ≤ dr := (hT.o26 hdT.1).1
        have hDR := hT.dr hdT d3850
        have hP : va_P D vwCl [(dr, .inl (cs 0, 1383, .inl f3848))] _ := va_P.cons d3850 va_P.nil
        refine lv_goto (tgt := 4) hx hb dX9_readSum_71 (by decide) ?_
        have hps : PS D cs w _ (p3835) (tl) (er3836) (1) dr bu g (N3849) ((h + 1)) := ⟨hm, f3848, hP 0 _ rfl, e3851, by omega, (EM.op x3852 (by decide) v3845)⟩
        exact ih3789 (p3835, N3849, er3836) _ _ _ (by show 600 - (p3835) < 600 - p; omega) ⟨hps, (by show (N3849) + 2 * pos ≤ N + 2 * (p3835); omega), (by show pos ≤ (p3835); omega), (fun e9 => hz1 (z3839 e9)), hT, hF, hL⟩ (lv_sub hl [1] rfl)
    · refine lv_aload_n hx hb dX9_readSum_20 rfl (lv_at hl 0 rfl) ?_
      refine cv_i (As := []) (rest := []) (b := w) ⟨hx, hb, hml, hown, hts⟩ (c_X9_ahead hT (w := w) hw hbT hdT hm) (cwV 0 hts gX9_readSum_X9_ahead rfl rfl rfl hdX9_ahead_v ⟨Nat.le_of_ble_eq_true rfl, Nat.le_of_ble_eq_true rfl⟩) hN hE hL (rcv10 hN hT hw.1) rfl rfl hl.1 (Nat.le_of_ble_eq_true rfl) dX9_readSum_21 (Nat.zero_le _) (Nat.zero_le _) (fun r3855 H1 locs hL hqr3855 => ?_)
      obtain ⟨hT1, hF1, hqr3855⟩ := hqr3855
      have hP : va_P D vwCl [(dr, .inl (cs 0, 1383, .inl f3790))] _ := hF1.hP (hP.sub [0] rfl) (fa_c ⟨by rw [hdT.1]; decide, by rw [hdT.2]; first | decide | (simp; done) | (simp [h15a, h15b, h15c]; done) | (simp; omega)⟩ fa_n)
      have hF := hF.tr (hF1.mono (by simp))
      have hT := hT1
      obtain ⟨p3856, h3857, m3858, n3859, s3860, rfl⟩ := hqr3855
      have hm := m3858
      have hpe := s3860 n3799
      rw [hpe] at hm
      refine tp_i (byF g tl p3796) (by rw [hpe]) ?_
      have hm8 := hm.2.2.2.2.2.2.2
      refine lv_bipush (v := 45) hx hb dX9_readSum_24 (by decide) ?_
      refine lv_icmp_ne (tgt := 74) hx hb dX9_readSum_26 (by decide) (fun c3861 => ?_) (fun c3861 => ?_)
      · have hps : PS D cs w _ (p3796) (tl) (er1) (1) dr bu g (N1) ((h + 1)) := ⟨hm, f3790, hP 0 _ rfl, e3790, by omega, v3790⟩
        exact en_v hx hb hr hlocks hL (Nat.zero_le _) (Nat.zero_le _) dX9_readSum_74 (⟨hT, hF, N1, p3796, er1, (by omega), (by omega), hz1, hps⟩)
      · have hl9 := byF_c (c3861) (by decide)
        refine lv_aload_n hx hb dX9_readSum_29 rfl (lv_at hl 0 rfl) ?_
        refine cv_i (As := []) (rest := []) (b := w) ⟨hx, hb, hml, hown, hts⟩ (c_X9_ahead hT (w := w) hw hbT hdT hm) (cwV 0 hts gX9_readSum_X9_ahead rfl rfl rfl hdX9_ahead_v ⟨Nat.le_of_ble_eq_true rfl, Nat.le_of_ble_eq_true rfl⟩) hN hE hL (rcv10 hN hT hw.1) rfl rfl hl.1 (Nat.le_of_ble_eq_true rfl) dX9_readSum_30 (Nat.zero_le _) (Nat.zero_le _) (fun r3862 H1 locs hL hqr3862 => ?_)
        obtain ⟨hT1, hF1, hqr3862⟩ := hqr3862
        have hP : va_P D vwCl [(dr, .inl (cs 0, 1383, .inl f3790))] _ := hF1.hP (hP.sub [0] rfl) (fa_c ⟨by rw [hdT.1]; decide, by rw [hdT.2]; first | decide | (simp; done) | (simp [h15a, h15b, h15c]; done) | (simp; omega)⟩ fa_n)
        have hF := hF.tr (hF1.mono (by simp))
        have hT := hT1
        obtain ⟨p3863, h3864, m3865, n3866, s3867, rfl⟩ := hqr3862
        have hm := m3865
        have hpe := s3867 n3799
        rw [hpe] at hm
        refine tp_i (byF g tl p3796) (by rw [hpe]) ?_
        have hm8 := hm.2.2.2.2.2.2.2
        refine lv_bipush (v := 43) hx hb dX9_readSum_33 (by decide) ?_
        refine lv_icmp_ne (tgt := 42) hx hb dX9_readSum_35 (by decide) (fun c3868 => ?_) (fun c3868 => ?_)
        · refine lv_iconst (v := 0) hx hb dX9_readSum_42 (by decide) ?_
          refine lv_istore_n (lv' := [(1, .int 0), (0, .ref w)]) hx hb dX9_readSum_43 rfl hl (by decide) rfl (fun ls hl => ?_)
          refine lv_aload_n hx hb dX9_readSum_44 rfl (lv_at hl 1 rfl) ?_
          refine lv_dup hx hb dX9_readSum_45 rfl ?_
          obtain ⟨hb3869, e3869, hat3869, hk3869⟩ := hT.o10 hw.1
          obtain ⟨f3869_0, f3869_1, f3869_3, f3869_4, f3869_5, f3869_6, f3869_7, f3869_9, f3869_10, f3869_11, f3869_12, f3869_13, f3869_14, f3869_15, f3869_16, f3869_17, rfl, c3869_2, c3869_3, c3869_4, c3869_12, t3869_1, t3869_8, t3869_9, c3869_sd, t3869_10, t3869_11, t3869_17⟩ := hk3869
          obtain ⟨rfl, rfl, rfl, rfl, rfl, rfl⟩ := hm.at hat3869 c3869_3 (by omega)
          have hm8 := hm.2.2.2.2.2.2.2
          have hP : va_P D vwCl [(w, .inr (9, [.int f3869_0, .ref bu, .int (nI ((κ w).2.2.1)), .int (nI tl), .int (nI p3796), .int er1, .int f3869_6, .int f3869_7, .ref (κ w).2.2.2, .ref f3869_9, .ref dr, .ref f3869_11, .int (nI f3869_12), .int f3869_13, .int 1, .int f3869_15, .int f3869_16, .ref f3869_17])), (dr, .inl (cs 0, 1383, .inl f3790))] _ := va_P.cons hat3869 hP
          refine va_get (D := D) (ci := 9) (v := .int (nI p3796)) (C := RX9) (T := TX9) (N := 18) hx hb hts iX9_readSum_9 hown hN.1 hP 0 rfl rfl 4 (by decide) (hts _ mX9_readSum_1) (fun _ h9 => h9) rfl dX9_readSum_46 ?_
          refine lv_iconst (v := 1) hx hb dX9_readSum_49 (by decide) ?_
          refine lv_iadd hx hb dX9_readSum_50 ?_
          refine tp_i (nI (p3796 + 1)) (nI_add p3796 1) ?_
          have hB : Bx B0 D _ [(w, .inr (9, [.int f3869_0, .ref bu, .int (nI ((κ w).2.2.1)), .int (nI tl), .int (nI p3796), .int er1, .int f3869_6, .int f3869_7, .ref (κ w).2.2.2, .ref f3869_9, .ref dr, .ref f3869_11, .int (nI f3869_12), .int f3869_13, .int 1, .int f3869_15, .int f3869_16, .ref f3869_17])), (dr, .inl (cs 0, 1383, .inl f3790))] [] _ _ := Bx.of (fun a => (κ a).1) hL hP (fa_c hb3869 (fa_c hbd fa_n)) (by simp only [List.map_cons, List.map_nil, hw.1, hdT.1]; decide)
          refine b_put (D := D) (ci := 9) (v := .int (nI (p3796 + 1))) (ty := .int) (C := RX9) (T := TX9) (N := 18) hx hb hts iX9_readSum_9 tyX9 tyX9_ok nmX9 hown hN hB 0 rfl rfl 4 (by decide) (hts _ mX9_readSum_1) (fun _ h9 => h9) rfl (by decide +kernel) rfl rfl (Nat.le_of_ble_eq_true rfl) (.inl rfl) dX9_readSum_51 (fun H locs hB => ?_)
          have hB : Bx B0 D _ [(w, .inr (9, [.int f3869_0, .ref bu, .int (nI ((κ w).2.2.1)), .int (nI tl), .int (nI (p3796 + 1)), .int er1, .int f3869_6, .int f3869_7, .ref (κ w).2.2.2, .ref f3869_9, .ref dr, .ref f3869_11, .int (nI f3869_12), .int f3869_13, .int 1, .int f3869_15, .int f3869_16, .ref f3869_17])), (dr, .inl (cs 0, 1383, .inl f3790))] [w] _ _ := hB
          refine lv_aload_n hx hb dX9_readSum_54 rfl (lv_at hl 1 rfl) ?_
          have hT : WT B0 D cs T κ _ := hT.close hB ⟨⟨0, _, rfl, ok_10 hw.1 ⟨_, _, _, _, _, _, _, _, _, _, _, _, _, _, _, _, rfl, (by omega), (by omega), (by omega), (by omega), hbT, t3869_8, t3869_9, c3869_sd, hdT, t3869_11, t3869_17⟩⟩, trivial⟩
          have hF : Fr B0 [12, 17] κ H0 _ := hF.close hB (fa_c (by simp [hw.2]) fa_n)
          have hL : OkL B0 _ := hB.2.2.2.2.2
          have hP : va_P D vwCl [(w, .inr (9, [.int f3869_0, .ref bu, .int (nI ((κ w).2.2.1)), .int (nI tl), .int (nI (p3796 + 1)), .int er1, .int f3869_6, .int f3869_7, .ref (κ w).2.2.2, .ref f3869_9, .ref dr, .ref f3869_11, .int (nI f3869_12), .int f3869_13, .int 1, .int f3869_15, .int f3869_16, .ref f3869_17])), (dr, .inl (cs 0, 1383, .inl f3790))] _ := hB.1
          have hbu9 := (hm.2.2.2.2.2.2.1).kept (hB.2.2.2.1 _ hm.2.2.2.2.2.2.1.lt (by simp only [List.mem_cons, List.not_mem_nil, or_false, not_or]; exact ne_c hbT.1 hw.1 (by decide)))
          have hm : MF D cs w _ ((p3796 + 1)) (tl) (er1) (1) dr bu g := ⟨⟨_, hP 0 _ rfl, rfl⟩, ⟨_, hP 0 _ rfl, rfl⟩, ⟨_, hP 0 _ rfl, rfl⟩, ⟨_, hP 0 _ rfl, rfl⟩, ⟨_, hP 0 _ rfl, rfl⟩, ⟨_, hP 0 _ rfl, rfl⟩, hbu9, (by omega), (by omega)⟩
          have hps : PS D cs w _ ((p3796 + 1)) (tl) (er1) (1) dr bu g (N1) ((h + 1)) := ⟨hm, f3790, hP 1 _ rfl, e3790, by omega, v3790⟩
          refine cv_v (As := []) (rest := []) (b := w) ⟨hx, hb, hml, hown, hts⟩ (c_X9_term_d1 hT (w := w) hw hbT hdT hps) (cwV 0 hts gX9_readSum_X9_term rfl rfl rfl hdX9_term_v ⟨Nat.le_of_ble_eq_true rfl, Nat.le_of_ble_eq_true rfl⟩) hN hE hL (rcv10 hN hT hw.1) rfl rfl hl.1 (Nat.le_of_ble_eq_true rfl) dX9_readSum_55 (Nat.zero_le _) (Nat.zero_le _) (fun H1 locs hL hqr3870 => ?_)
          obtain ⟨hT1, hF1, hqr3870⟩ := hqr3870
          have hF := hF.tr (hF1.mono (by simp))
          have hT := hT1
          obtain ⟨N3871, p3872, er3873, a3874, b3875, z3876, m3877, f3878, d3879, e3880, n3881, v3882⟩ := hqr3870
          have hm := m3877
          have hm8 := hm.2.2.2.2.2.2.2
          have hbd : B0 ≤ dr := (hT.o26 hdT.1).1
          have hDR := hT.dr hdT d3879
          have hP : va_P D vwCl [(dr, .inl (cs 0, 1383, .inl f3878))] _ := va_P.cons d3879 va_P.nil
          refine lv_aload_n hx hb dX9_readSum_58 rfl (lv_at hl 1 rfl) ?_
          refine lv_iload_n hx hb dX9_readSum_59 rfl (lv_at hl 0 rfl) ?_
          refine lv_if_eq (tgt := 67) hx hb dX9_readSum_60 (by decide) (fun _ => ?_) (fun c9 => absurd (by decide) c9)
          refine lv_iconst (v := 3) hx hb dX9_readSum_67 (by decide) ?_
          refine cv_v (As := [.int 3]) (rest := []) (b := w) ⟨hx, hb, hml, hown, hts⟩ (c_X9_emit hT (w := w) hw (x := 3) hbT hdT hm (hP 0 _ rfl) e3880 (fun _ => by omega)) (cwV 1 hts gX9_readSum_X9_emit rfl rfl rfl hdX9_emit_v ⟨Nat.le_of_ble_eq_true rfl, Nat.le_of_ble_eq_true rfl⟩) hN hE hL (rcv10 hN hT hw.1) rfl rfl hl.1 (Nat.le_of_ble_eq_true rfl) dX9_readSum_68 (Nat.zero_le _) (Nat.zero_le _) (fun H1 locs hL hqr3884 => ?_)
          obtain ⟨hT1, hF1, hqr3884⟩ := hqr3884
          have hF := hF.tr (hF1.mono (by simp))
          have hT := hT1
          obtain ⟨f3885, N3886, d3887, e3888, x3889, m3890⟩ := hqr3884
          have hm := m3890
          have hm8 := hm.2.2.2.2.2.2.2
          have nx3889 := x3889.n
          have ox3889 := nx3889.1
          have hbd : B0 ≤ dr := (hT.o26 hdT.1).1
          have hDR := hT.dr hdT d3887
          have hP : va_P D vwCl [(dr, .inl (cs 0, 1383, .inl f3885))] _ := va_P.cons d3887 va_P.nil
          refine lv_goto (tgt := 4) hx hb dX9_readSum_71 (by decide) ?_
          have hps : PS D cs w _ (p3872) (tl) (er3873) (1) dr bu g (N3886) ((h + 1)) := ⟨hm, f3885, hP 0 _ rfl, e3888, by omega, (EM.op x3889 (by decide) v3882)⟩
          exact ih3789 (p3872, N3886, er3873) _ _ _ (by show 600 - (p3872) < 600 - p; omega) ⟨hps, (by show (N3886) + 2 * pos ≤ N + 2 * (p3872); omega), (by show pos ≤ (p3872); omega), (fun e9 => hz1 (z3876 e9)), hT, hF, hL⟩ (lv_sub hl [1] rfl)
        · refine lv_iconst (v := 1) hx hb dX9_readSum_38 (by decide) ?_
          refine lv_goto (tgt := 43) hx hb dX9_readSum_39 (by decide) ?_
          refine lv_istore_n (lv' := [(1, .int 1), (0, .ref w)]) hx hb dX9_readSum_43 rfl hl (by decide) rfl (fun ls hl => ?_)
          refine lv_aload_n hx hb dX9_readSum_44 rfl (lv_at hl 1 rfl) ?_
          refine lv_dup hx hb dX9_readSum_45 rfl ?_
          obtain ⟨hb3892, e3892, hat3892, hk3892⟩ := hT.o10 hw.1
          obtain ⟨f3892_0, f3892_1, f3892_3, f3892_4, f3892_5, f3892_6, f3892_7, f3892_9, f3892_10, f3892_11, f3892_12, f3892_13, f3892_14, f3892_15, f3892_16, f3892_17, rfl, c3892_2, c3892_3, c3892_4, c3892_12, t3892_1, t3892_8, t3892_9, c3892_sd, t3892_10, t3892_11, t3892_17⟩ := hk3892
          obtain ⟨rfl, rfl, rfl, rfl, rfl, rfl⟩ := hm.at hat3892 c3892_3 (by omega)
          have hm8 := hm.2.2.2.2.2.2.2
          have hP : va_P D vwCl [(w, .inr (9, [.int f3892_0, .ref bu, .int (nI ((κ w).2.2.1)), .int (nI tl), .int (nI p3796), .int er1, .int f3892_6, .int f3892_7, .ref (κ w).2.2.2, .ref f3892_9, .ref dr, .ref f3892_11, .int (nI f3892_12), .int f3892_13, .int 1, .int f3892_15, .int f3892_16, .ref f3892_17])), (dr, .inl (cs 0, 1383, .inl f3790))] _ := va_P.cons hat3892 hP
          refine va_get (D := D) (ci := 9) (v := .int (nI p3796)) (C := RX9) (T := TX9) (N := 18) hx hb hts iX9_readSum_9 hown hN.1 hP 0 rfl rfl 4 (by decide) (hts _ mX9_readSum_1) (fun _ h9 => h9) rfl dX9_readSum_46 ?_
          refine lv_iconst (v := 1) hx hb dX9_readSum_49 (by decide) ?_
          refine lv_iadd hx hb dX9_readSum_50 ?_
          refine tp_i (nI (p3796 + 1)) (nI_add p3796 1) ?_
          have hB : Bx B0 D _ [(w, .inr (9, [.int f3892_0, .ref bu, .int (nI ((κ w).2.2.1)), .int (nI tl), .int (nI p3796), .int er1, .int f3892_6, .int f3892_7, .ref (κ w).2.2.2, .ref f3892_9, .ref dr, .ref f3892_11, .int (nI f3892_12), .int f3892_13, .int 1, .int f3892_15, .int f3892_16, .ref f3892_17])), (dr, .inl (cs 0, 1383, .inl f3790))] [] _ _ := Bx.of (fun a => (κ a).1) hL hP (fa_c hb3892 (fa_c hbd fa_n)) (by simp only [List.map_cons, List.map_nil, hw.1, hdT.1]; decide)
          refine b_put (D := D) (ci := 9) (v := .int (nI (p3796 + 1))) (ty := .int) (C := RX9) (T := TX9) (N := 18) hx hb hts iX9_readSum_9 tyX9 tyX9_ok nmX9 hown hN hB 0 rfl rfl 4 (by decide) (hts _ mX9_readSum_1) (fun _ h9 => h9) rfl (by decide +kernel) rfl rfl (Nat.le_of_ble_eq_true rfl) (.inl rfl) dX9_readSum_51 (fun H locs hB => ?_)
          have hB : Bx B0 D _ [(w, .inr (9, [.int f3892_0, .ref bu, .int (nI ((κ w).2.2.1)), .int (nI tl), .int (nI (p3796 + 1)), .int er1, .int f3892_6, .int f3892_7, .ref (κ w).2.2.2, .ref f3892_9, .ref dr, .ref f3892_11, .int (nI f3892_12), .int f3892_13, .int 1, .int f3892_15, .int f3892_16, .ref f3892_17])), (dr, .inl (cs 0, 1383, .inl f3790))] [w] _ _ := hB
          refine lv_aload_n hx hb dX9_readSum_54 rfl (lv_at hl 1 rfl) ?_
          have hT : WT B0 D cs T κ _ := hT.close hB ⟨⟨0, _, rfl, ok_10 hw.1 ⟨_, _, _, _, _, _, _, _, _, _, _, _, _, _, _, _, rfl, (by omega), (by omega), (by omega), (by omega), hbT, t3892_8, t3892_9, c3892_sd, hdT, t3892_11, t3892_17⟩⟩, trivial⟩
          have hF : Fr B0 [12, 17] κ H0 _ := hF.close hB (fa_c (by simp [hw.2]) fa_n)
          have hL : OkL B0 _ := hB.2.2.2.2.2
          have hP : va_P D vwCl [(w, .inr (9, [.int f3892_0, .ref bu, .int (nI ((κ w).2.2.1)), .int (nI tl), .int (nI (p3796 + 1)), .int er1, .int f3892_6, .int f3892_7, .ref (κ w).2.2.2, .ref f3892_9, .ref dr, .ref f3892_11, .int (nI f3892_12), .int f3892_13, .int 1, .int f3892_15, .int f3892_16, .ref f3892_17])), (dr, .inl (cs 0, 1383, .inl f3790))] _ := hB.1
          have hbu9 := (hm.2.2.2.2.2.2.1).kept (hB.2.2.2.1 _ hm.2.2.2.2.2.2.1.lt (by simp only [List.mem_cons, List.not_mem_nil, or_false, not_or]; exact ne_c hbT.1 hw.1 (by decide)))
          have hm : MF D cs w _ ((p3796 + 1)) (tl) (er1) (1) dr bu g := ⟨⟨_, hP 0 _ rfl, rfl⟩, ⟨_, hP 0 _ rfl, rfl⟩, ⟨_, hP 0 _ rfl, rfl⟩, ⟨_, hP 0 _ rfl, rfl⟩, ⟨_, hP 0 _ rfl, rfl⟩, ⟨_, hP 0 _ rfl, rfl⟩, hbu9, (by omega), (by omega)⟩
          have hps : PS D cs w _ ((p3796 + 1)) (tl) (er1) (1) dr bu g (N1) ((h + 1)) := ⟨hm, f3790, hP 1 _ rfl, e3790, by omega, v3790⟩
          refine cv_v (As := []) (rest := []) (b := w) ⟨hx, hb, hml, hown, hts⟩ (c_X9_term_d1 hT (w := w) hw hbT hdT hps) (cwV 0 hts gX9_readSum_X9_term rfl rfl rfl hdX9_term_v ⟨Nat.le_of_ble_eq_true rfl, Nat.le_of_ble_eq_true rfl⟩) hN hE hL (rcv10 hN hT hw.1) rfl rfl hl.1 (Nat.le_of_ble_eq_true rfl) dX9_readSum_55 (Nat.zero_le _) (Nat.zero_le _) (fun H1 locs hL hqr3893 => ?_)
          obtain ⟨hT1, hF1, hqr3893⟩ := hqr3893
          have hF := hF.tr (hF1.mono (by simp))
          have hT := hT1
          obtain ⟨N3894, p3895, er3896, a3897, b3898, z3899, m3900, f3901, d3902, e3903, n3904, v3905⟩ := hqr3893
          have hm := m3900
          have hm8 := hm.2.2.2.2.2.2.2
          have hbd : B0 ≤ dr := (hT.o26 hdT.1).1
          have hDR := hT.dr hdT d3902
          have hP : va_P D vwCl [(dr, .inl (cs 0, 1383, .inl f3901))] _ := va_P.cons d3902 va_P.nil
          refine lv_aload_n hx hb dX9_readSum_58 rfl (lv_at hl 1 rfl) ?_
          refine lv_iload_n hx hb dX9_readSum_59 rfl (lv_at hl 0 rfl) ?_
          refine lv_if_eq (tgt := 67) hx hb dX9_readSum_60 (by decide) (fun c9 => absurd c9 (by decide)) (fun _ => ?_)
          refine lv_iconst (v := 2) hx hb dX9_readSum_63 (by decide) ?_
          refine lv_goto (tgt := 68) hx hb dX9_readSum_64 (by decide) ?_
          refine cv_v (As := [.int 2]) (rest := []) (b := w) ⟨hx, hb, hml, hown, hts⟩ (c_X9_emit hT (w := w) hw (x := 2) hbT hdT hm (hP 0 _ rfl) e3903 (fun _ => by omega)) (cwV 1 hts gX9_readSum_X9_emit rfl rfl rfl hdX9_emit_v ⟨Nat.le_of_ble_eq_true rfl, Nat.le_of_ble_eq_true rfl⟩) hN hE hL (rcv10 hN hT hw.1) rfl rfl hl.1 (Nat.le_of_ble_eq_true rfl) dX9_readSum_68 (Nat.zero_le _) (Nat.zero_le _) (fun H1 locs hL hqr3907 => ?_)
          obtain ⟨hT1, hF1, hqr3907⟩ := hqr3907
          have hF := hF.tr (hF1.mono (by simp))
          have hT := hT1
          obtain ⟨f3908, N3909, d3910, e3911, x3912, m3913⟩ := hqr3907
          have hm := m3913
          have hm8 := hm.2.2.2.2.2.2.2
          have nx3912 := x3912.n
          have ox3912 := nx3912.1
          have hbd : B0 ≤ dr := (hT.o26 hdT.1).1
          have hDR := hT.dr hdT d3910
          have hP : va_P D vwCl [(dr, .inl (cs 0, 1383, .inl f3908))] _ := va_P.cons d3910 va_P.nil
          refine lv_goto (tgt := 4) hx hb dX9_readSum_71 (by decide) ?_
          have hps : PS D cs w _ (p3895) (tl) (er3896) (1) dr bu g (N3909) ((h + 1)) := ⟨hm, f3908, hP 0 _ rfl, e3911, by omega, (EM.op x3912 (by decide) v3905)⟩
          exact ih3789 (p3895, N3909, er3896) _ _ _ (by show 600 - (p3895) < 600 - p; omega) ⟨hps, (by show (N3909) + 2 * pos ≤ N + 2 * (p3895); omega), (by show pos ≤ (p3895); omega), (fun e9 => hz1 (z3899 e9)), hT, hF, hL⟩ (lv_sub hl [1] rfl)
  · refine lv_if_eq (tgt := 74) hx hb dX9_readSum_8 (by decide) (fun _ => ?_) (fun c9 => absurd (by decide) c9)
    have hps : PS D cs w _ (p) (tl) (er1) (1) dr bu g (N1) ((h + 1)) := ⟨hm, f3790, hP 0 _ rfl, e3790, by omega, v3790⟩
    exact en_v hx hb hr hlocks hL (Nat.zero_le _) (Nat.zero_le _) dX9_readSum_74 (⟨hT, hF, N1, p, er1, (by omega), (by omega), hz1, hps⟩)
set_option maxHeartbeats 4000000 in
set_option maxRecDepth 100000 in
theorem c_X9_factor_d0 {l : Launch} {D : va_G} {cs : Nat → ClassId} {B0 T : Nat} {κ : KM} {H0 : Heap} (hT : WT B0 D cs T κ H0) {w : Nat} (hw : T2 κ w 10 12) {pos tl : Nat} {er : Int32} {dr bu : Nat} {g : Nat → Int32} {N h : Nat} (hbT : T2 κ bu 23 14) (hdT : T2 κ dr 26 17) (hps : PS D cs w H0 pos tl er 0 dr bu g N h) : KC l yX9_factor wsX9_factor 17 367 0 0 D cs B0 H0 [.ref w] (Qv (fun H => WT B0 D cs T κ H ∧ Fr B0 [12, 17] κ H0 H ∧ ∃ N1 pos1 er1, N1 + 2 * pos ≤ N + 2 * pos1 ∧ pos ≤ pos1 ∧ (er1 = 0 → er = 0) ∧ PS D cs w H pos1 tl er1 0 dr bu g N1 (h + 1))) := by
  refine KC.of cX9_factor 4 none (by decide) rfl (Nat.le_of_ble_eq_true rfl) ?_
  intro p e s m below meth c ls hx hb hr hml hown hts hlocks hin hN hE hH0 hl
  have hown : s.vm.findClass RX9 = some m.cls := hown
  have hl : lv_has ls 4 [(0, .ref w)] := hl
  have hL : OkL B0 [] := OkL.nil
  have hF : Fr B0 [12, 17] κ H0 H0 := Fr.rf
  obtain ⟨hm, f3915, hd3915, e3915, n3915, v3915⟩ := hps
  have hm8 := hm.2.2.2.2.2.2.2
  have hbd : B0 ≤ dr := (hT.o26 hdT.1).1
  have hDR := hT.dr hdT hd3915
  have hP : va_P D vwCl [(dr, .inl (cs 0, 1383, .inl f3915))] _ := va_P.cons hd3915 va_P.nil
  refine lv_aload_n hx hb dX9_factor_0 rfl (lv_at hl 0 rfl) ?_
  refine cv_i (As := []) (rest := []) (b := w) ⟨hx, hb, hml, hown, hts⟩ (c_X9_isGood hT (w := w) hw hbT hdT hm) (cwV 0 hts gX9_factor_X9_isGood rfl rfl rfl hdX9_isGood_v ⟨Nat.le_of_ble_eq_true rfl, Nat.le_of_ble_eq_true rfl⟩) hN hE hL (rcv10 hN hT hw.1) rfl rfl hl.1 (Nat.le_of_ble_eq_true rfl) dX9_factor_1 (Nat.zero_le _) (Nat.zero_le _) (fun r3917 H1 locs hL hqr3917 => ?_)
  obtain ⟨h9, hqr3917⟩ := hqr3917; replace h9 := h9.symm; subst h9
  rcases hqr3917 with ⟨rfl, e3918⟩ | ⟨rfl, e3919⟩
  · refine lv_if_ne (tgt := 8) hx hb dX9_factor_4 (by decide) (fun _ => ?_) (fun c9 => absurd c9 (by decide))
    refine lv_aload_n hx hb dX9_factor_8 rfl (lv_at hl 0 rfl) ?_
    refine cv_i (As := []) (rest := []) (b := w) ⟨hx, hb, hml, hown, hts⟩ (c_X9_ahead hT (w := w) hw hbT hdT hm) (cwV 0 hts gX9_factor_X9_ahead rfl rfl rfl hdX9_ahead_v ⟨Nat.le_of_ble_eq_true rfl, Nat.le_of_ble_eq_true rfl⟩) hN hE hL (rcv10 hN hT hw.1) rfl rfl hl.1 (Nat.le_of_ble_eq_true rfl) dX9_factor_9 (Nat.zero_le _) (Nat.zero_le _) (fun r3920 H1 locs hL hqr3920 => ?_)
    obtain ⟨hT1, hF1, hqr3920⟩ := hqr3920
    have hP : va_P D vwCl [(dr, .inl (cs 0, 1383, .inl f3915))] _ := hF1.hP (hP.sub [0] rfl) (fa_c ⟨by rw [hdT.1]; decide, by rw [hdT.2]; first | decide | (simp; done) | (simp [h15a, h15b, h15c]; done) | (simp; omega)⟩ fa_n)
    have hF := hF.tr (hF1.mono (by simp))
    have hT := hT1
    obtain ⟨p3921, h3922, m3923, n3924, s3925, rfl⟩ := hqr3920
    have hm := m3923
    have hm8 := hm.2.2.2.2.2.2.2
    refine lv_istore_n (lv' := [(1, .int (byF g tl p3921)), (0, .ref w)]) hx hb dX9_factor_12 rfl hl (by decide) rfl (fun ls hl => ?_)
    refine lv_iload_n hx hb dX9_factor_13 rfl (lv_at hl 0 rfl) ?_
    refine lv_bipush (v := 40) hx hb dX9_factor_14 (by decide) ?_
    refine lv_icmp_ne (tgt := 78) hx hb dX9_factor_16 (by decide) (fun c3926 => ?_) (fun c3926 => ?_)
    · refine lv_iload_n hx hb dX9_factor_78 rfl (lv_at hl 0 rfl) ?_
      refine cs_i (As := [.int (byF g tl p3921)]) (rest := []) ⟨hx, hb, hml, hown, hts⟩ (c_X9_isDigit hT (x := (byF g tl p3921))) (va_cwS 1 hts gX9_factor_X9_isDigit rfl rfl rfl hdX9_isDigit_o ⟨Nat.le_of_ble_eq_true rfl, Nat.le_of_ble_eq_true rfl⟩) hN hE hL rfl rfl hl.1 (Nat.le_of_ble_eq_true rfl) dX9_factor_79 (Nat.zero_le _) (Nat.zero_le _) (fun r3927 H1 locs hL hqr3927 => ?_)
      obtain ⟨h9, hqr3927⟩ := hqr3927; replace h9 := h9.symm; subst h9
      rcases hqr3927 with ⟨rfl, o3928⟩ | ⟨rfl, l3929, g3930⟩
      · refine lv_if_eq (tgt := 89) hx hb dX9_factor_82 (by decide) (fun _ => ?_) (fun c9 => absurd (by decide) c9)
        refine lv_aload_n hx hb dX9_factor_89 rfl (lv_at hl 1 rfl) ?_
        refine va_ldcS hx hb hown (hN.s 19 rfl) dX9_factor_90 ?_
        refine cv_i (As := [.ref (cs 119)]) (rest := []) (b := w) ⟨hx, hb, hml, hown, hts⟩ (c_X9_takeWord hT (w := w) hw (i := 19) (by decide) hbT hdT hm) (cwV 1 hts gX9_factor_X9_takeWord rfl rfl rfl hdX9_takeWord_v ⟨Nat.le_of_ble_eq_true rfl, Nat.le_of_ble_eq_true rfl⟩) hN hE hL (rcv10 hN hT hw.1) rfl rfl hl.1 (Nat.le_of_ble_eq_true rfl) dX9_factor_92 (Nat.zero_le _) (Nat.zero_le _) (fun r3931 H1 locs hL hqr3931 => ?_)
        obtain ⟨hT1, hF1, hqr3931⟩ := hqr3931
        have hP : va_P D vwCl [(dr, .inl (cs 0, 1383, .inl f3915))] _ := hF1.hP (hP.sub [0] rfl) (fa_c ⟨by rw [hdT.1]; decide, by rw [hdT.2]; first | decide | (simp; done) | (simp [h15a, h15b, h15c]; done) | (simp; omega)⟩ fa_n)
        have hF := hF.tr (hF1.mono (by simp))
        have hT := hT1
        rcases hqr3931 with ⟨rfl, p3932, h3933, m3934⟩ | ⟨rfl, p3935, q3936, e3937, m3938⟩
        · have hm := m3934
          have hm8 := hm.2.2.2.2.2.2.2
          refine lv_if_eq (tgt := 102) hx hb dX9_factor_95 (by decide) (fun _ => ?_) (fun c9 => absurd (by decide) c9)
          refine lv_aload_n hx hb dX9_factor_102 rfl (lv_at hl 1 rfl) ?_
          refine va_ldcS hx hb hown (hN.s 25 rfl) dX9_factor_103 ?_
          refine cv_i (As := [.ref (cs 125)]) (rest := []) (b := w) ⟨hx, hb, hml, hown, hts⟩ (c_X9_takeWord hT (w := w) hw (i := 25) (by decide) hbT hdT hm) (cwV 1 hts gX9_factor_X9_takeWord rfl rfl rfl hdX9_takeWord_v ⟨Nat.le_of_ble_eq_true rfl, Nat.le_of_ble_eq_true rfl⟩) hN hE hL (rcv10 hN hT hw.1) rfl rfl hl.1 (Nat.le_of_ble_eq_true rfl) dX9_factor_105 (Nat.zero_le _) (Nat.zero_le _) (fun r3939 H1 locs hL hqr3939 => ?_)
          obtain ⟨hT1, hF1, hqr3939⟩ := hqr3939
          have hP : va_P D vwCl [(dr, .inl (cs 0, 1383, .inl f3915))] _ := hF1.hP (hP.sub [0] rfl) (fa_c ⟨by rw [hdT.1]; decide, by rw [hdT.2]; first | decide | (simp; done) | (simp [h15a, h15b, h15c]; done) | (simp; omega)⟩ fa_n)
          have hF := hF.tr (hF1.mono (by simp))
          have hT := hT1
          rcases hqr3939 with ⟨rfl, p3940, h3941, m3942⟩ | ⟨rfl, p3943, q3944, e3945, m3946⟩
          · have hm := m3942
            have hm8 := hm.2.2.2.2.2.2.2
            refine lv_if_eq (tgt := 115) hx hb dX9_factor_108 (by decide) (fun _ => ?_) (fun c9 => absurd (by decide) c9)
            refine lv_aload_n hx hb dX9_factor_115 rfl (lv_at hl 1 rfl) ?_
            refine va_ldcS hx hb hown (hN.s 26 rfl) dX9_factor_116 ?_
            refine cv_i (As := [.ref (cs 126)]) (rest := []) (b := w) ⟨hx, hb, hml, hown, hts⟩ (c_X9_takeWord hT (w := w) hw (i := 26) (by decide) hbT hdT hm) (cwV 1 hts gX9_factor_X9_takeWord rfl rfl rfl hdX9_takeWord_v ⟨Nat.le_of_ble_eq_true rfl, Nat.le_of_ble_eq_true rfl⟩) hN hE hL (rcv10 hN hT hw.1) rfl rfl hl.1 (Nat.le_of_ble_eq_true rfl) dX9_factor_118 (Nat.zero_le _) (Nat.zero_le _) (fun r3947 H1 locs hL hqr3947 => ?_)
            obtain ⟨hT1, hF1, hqr3947⟩ := hqr3947
            have hP : va_P D vwCl [(dr, .inl (cs 0, 1383, .inl f3915))] _ := hF1.hP (hP.sub [0] rfl) (fa_c ⟨by rw [hdT.1]; decide, by rw [hdT.2]; first | decide | (simp; done) | (simp [h15a, h15b, h15c]; done) | (simp; omega)⟩ fa_n)
            have hF := hF.tr (hF1.mono (by simp))
            have hT := hT1
            rcases hqr3947 with ⟨rfl, p3948, h3949, m3950⟩ | ⟨rfl, p3951, q3952, e3953, m3954⟩
            · have hm := m3950
              have hm8 := hm.2.2.2.2.2.2.2
              refine lv_if_eq (tgt := 128) hx hb dX9_factor_121 (by decide) (fun _ => ?_) (fun c9 => absurd (by decide) c9)
              refine lv_aload_n hx hb dX9_factor_128 rfl (lv_at hl 1 rfl) ?_
              refine va_ldcS hx hb hown (hN.s 27 rfl) dX9_factor_129 ?_
              refine cv_i (As := [.ref (cs 127)]) (rest := []) (b := w) ⟨hx, hb, hml, hown, hts⟩ (c_X9_takeWord hT (w := w) hw (i := 27) (by decide) hbT hdT hm) (cwV 1 hts gX9_factor_X9_takeWord rfl rfl rfl hdX9_takeWord_v ⟨Nat.le_of_ble_eq_true rfl, Nat.le_of_ble_eq_true rfl⟩) hN hE hL (rcv10 hN hT hw.1) rfl rfl hl.1 (Nat.le_of_ble_eq_true rfl) dX9_factor_131 (Nat.zero_le _) (Nat.zero_le _) (fun r3955 H1 locs hL hqr3955 => ?_)
              obtain ⟨hT1, hF1, hqr3955⟩ := hqr3955
              have hP : va_P D vwCl [(dr, .inl (cs 0, 1383, .inl f3915))] _ := hF1.hP (hP.sub [0] rfl) (fa_c ⟨by rw [hdT.1]; decide, by rw [hdT.2]; first | decide | (simp; done) | (simp [h15a, h15b, h15c]; done) | (simp; omega)⟩ fa_n)
              have hF := hF.tr (hF1.mono (by simp))
              have hT := hT1
              rcases hqr3955 with ⟨rfl, p3956, h3957, m3958⟩ | ⟨rfl, p3959, q3960, e3961, m3962⟩
              · have hm := m3958
                have hm8 := hm.2.2.2.2.2.2.2
                refine lv_if_eq (tgt := 141) hx hb dX9_factor_134 (by decide) (fun _ => ?_) (fun c9 => absurd (by decide) c9)
                refine lv_iconst (v := (-1)) hx hb dX9_factor_141 (by decide) ?_
                refine lv_istore_n (lv' := [(2, .int (-1)), (1, .int (byF g tl p3921)), (0, .ref w)]) hx hb dX9_factor_142 rfl hl (by decide) rfl (fun ls hl => ?_)
                refine lv_iload_n hx hb dX9_factor_143 rfl (lv_at hl 0 rfl) ?_
                refine lv_if_ge (tgt := 158) hx hb dX9_factor_144 (by decide) (fun c9 => absurd c9 (by decide)) (fun _ => ?_)
                refine lv_aload_n hx hb dX9_factor_147 rfl (lv_at hl 2 rfl) ?_
                refine lv_iconst (v := 0) hx hb dX9_factor_148 (by decide) ?_
                refine lv_sipush (v := 9999) hx hb dX9_factor_149 (by decide) ?_
                refine cv_i (As := [.int 0, .int 9999]) (rest := []) (b := w) ⟨hx, hb, hml, hown, hts⟩ (c_X9_number hT (w := w) hw (x := 0) (y := 9999) hbT hdT hm) (cwV 2 hts gX9_factor_X9_number rfl rfl rfl hdX9_number_v ⟨Nat.le_of_ble_eq_true rfl, Nat.le_of_ble_eq_true rfl⟩) hN hE hL (rcv10 hN hT hw.1) rfl rfl hl.1 (Nat.le_of_ble_eq_true rfl) dX9_factor_152 (Nat.zero_le _) (Nat.zero_le _) (fun r3963 H1 locs hL hqr3963 => ?_)
                obtain ⟨hT1, hF1, hqr3963⟩ := hqr3963
                have hP : va_P D vwCl [(dr, .inl (cs 0, 1383, .inl f3915))] _ := hF1.hP (hP.sub [0] rfl) (fa_c ⟨by rw [hdT.1]; decide, by rw [hdT.2]; first | decide | (simp; done) | (simp [h15a, h15b, h15c]; done) | (simp; omega)⟩ fa_n)
                have hF := hF.tr (hF1.mono (by simp))
                have hT := hT1
                obtain ⟨p3964, er3965, a3966, z3967, m3968, q3969⟩ := hqr3963
                have hm := m3968
                have hm8 := hm.2.2.2.2.2.2.2
                refine lv_goto (tgt := 159) hx hb dX9_factor_155 (by decide) ?_
                refine lv_istore_n (lv' := [(3, .int r3963), (2, .int (-1)), (1, .int (byF g tl p3921)), (0, .ref w)]) hx hb dX9_factor_159 rfl hl (by decide) rfl (fun ls hl => ?_)
                refine lv_aload_n hx hb dX9_factor_160 rfl (lv_at hl 3 rfl) ?_
                refine lv_iload_n hx hb dX9_factor_161 rfl (lv_at hl 1 rfl) ?_
                refine lv_if_ge (tgt := 169) hx hb dX9_factor_162 (by decide) (fun c9 => absurd c9 (by decide)) (fun _ => ?_)
                refine lv_iconst (v := 0) hx hb dX9_factor_165 (by decide) ?_
                refine lv_goto (tgt := 170) hx hb dX9_factor_166 (by decide) ?_
                refine cv_v (As := [.int 0]) (rest := []) (b := w) ⟨hx, hb, hml, hown, hts⟩ (c_X9_emit hT (w := w) hw (x := 0) hbT hdT hm (hP 0 _ rfl) e3915 (fun e9 => by have q9 := (z3967 e9).2; omega)) (cwV 1 hts gX9_factor_X9_emit rfl rfl rfl hdX9_emit_v ⟨Nat.le_of_ble_eq_true rfl, Nat.le_of_ble_eq_true rfl⟩) hN hE hL (rcv10 hN hT hw.1) rfl rfl hl.1 (Nat.le_of_ble_eq_true rfl) dX9_factor_170 (Nat.zero_le _) (Nat.zero_le _) (fun H1 locs hL hqr3970 => ?_)
                obtain ⟨hT1, hF1, hqr3970⟩ := hqr3970
                have hF := hF.tr (hF1.mono (by simp))
                have hT := hT1
                obtain ⟨f3971, N3972, d3973, e3974, x3975, m3976⟩ := hqr3970
                have hm := m3976
                have hm8 := hm.2.2.2.2.2.2.2
                have nx3975 := x3975.n
                have ox3975 := nx3975.1
                have hbd : B0 ≤ dr := (hT.o26 hdT.1).1
                have hDR := hT.dr hdT d3973
                have hP : va_P D vwCl [(dr, .inl (cs 0, 1383, .inl f3971))] _ := va_P.cons d3973 va_P.nil
                refine lv_aload_n hx hb dX9_factor_173 rfl (lv_at hl 3 rfl) ?_
                refine lv_iload_n hx hb dX9_factor_174 rfl (lv_at hl 0 rfl) ?_
                refine cv_v (As := [.int r3963]) (rest := []) (b := w) ⟨hx, hb, hml, hown, hts⟩ (c_X9_emit hT (w := w) hw (x := r3963) hbT hdT hm (hP 0 _ rfl) e3974 (fun e9 => by have q9 := (z3967 e9).2; omega)) (cwV 1 hts gX9_factor_X9_emit rfl rfl rfl hdX9_emit_v ⟨Nat.le_of_ble_eq_true rfl, Nat.le_of_ble_eq_true rfl⟩) hN hE hL (rcv10 hN hT hw.1) rfl rfl hl.1 (Nat.le_of_ble_eq_true rfl) dX9_factor_175 (Nat.zero_le _) (Nat.zero_le _) (fun H1 locs hL hqr3978 => ?_)
                obtain ⟨hT1, hF1, hqr3978⟩ := hqr3978
                have hF := hF.tr (hF1.mono (by simp))
                have hT := hT1
                obtain ⟨f3979, N3980, d3981, e3982, x3983, m3984⟩ := hqr3978
                have hm := m3984
                have hm8 := hm.2.2.2.2.2.2.2
                have nx3983 := x3983.n
                have ox3983 := nx3983.1
                have hbd : B0 ≤ dr := (hT.o26 hdT.1).1
                have hDR := hT.dr hdT d3981
                have hP : va_P D vwCl [(dr, .inl (cs 0, 1383, .inl f3979))] _ := va_P.cons d3981 va_P.nil
                have bx3975 := nx3975.2.1
                have bx3983 := nx3983.2.1
                have hbn : N3980 + 2 * pos ≤ N + 2 * p3964 ∧ N3980 ≤ 2 * p3964 := by
                  by_cases e9 : er3965 = 0
                  · have q9 := (z3967 e9).2; omega
                  · have q9 := bx3975 e9; have q8 := bx3983 e9; omega
                exact en_v hx hb hr hlocks hL (Nat.zero_le _) (Nat.zero_le _) dX9_factor_178 (⟨hT, hF, _, p3964, er3965, hbn.1, (by omega), (fun e9 => id ((fun e9 => (z3967 e9).1) e9)), hm, _, hP 0 _ rfl, e3982, hbn.2, (EM.lit x3975 x3983 (by decide) (fun e9 => v3915 ((fun e9 => (z3967 e9).1) e9)))⟩)
              · have hm := m3962
                have hm8 := hm.2.2.2.2.2.2.2
                refine lv_if_eq (tgt := 141) hx hb dX9_factor_134 (by decide) (fun c9 => absurd c9 (by decide)) (fun _ => ?_)
                refine lv_iconst (v := 3) hx hb dX9_factor_137 (by decide) ?_
                refine lv_goto (tgt := 142) hx hb dX9_factor_138 (by decide) ?_
                refine lv_istore_n (lv' := [(2, .int 3), (1, .int (byF g tl p3921)), (0, .ref w)]) hx hb dX9_factor_142 rfl hl (by decide) rfl (fun ls hl => ?_)
                refine lv_iload_n hx hb dX9_factor_143 rfl (lv_at hl 0 rfl) ?_
                refine lv_if_ge (tgt := 158) hx hb dX9_factor_144 (by decide) (fun _ => ?_) (fun c9 => absurd (by decide) c9)
                refine lv_iload_n hx hb dX9_factor_158 rfl (lv_at hl 0 rfl) ?_
                refine lv_istore_n (lv' := [(3, .int 3), (2, .int 3), (1, .int (byF g tl p3921)), (0, .ref w)]) hx hb dX9_factor_159 rfl hl (by decide) rfl (fun ls hl => ?_)
                refine lv_aload_n hx hb dX9_factor_160 rfl (lv_at hl 3 rfl) ?_
                refine lv_iload_n hx hb dX9_factor_161 rfl (lv_at hl 1 rfl) ?_
                refine lv_if_ge (tgt := 169) hx hb dX9_factor_162 (by decide) (fun _ => ?_) (fun c9 => absurd (by decide) c9)
                refine lv_iconst (v := 1) hx hb dX9_factor_169 (by decide) ?_
                refine cv_v (As := [.int 1]) (rest := []) (b := w) ⟨hx, hb, hml, hown, hts⟩ (c_X9_emit hT (w := w) hw (x := 1) hbT hdT hm (hP 0 _ rfl) e3915 (fun e9 => by omega)) (cwV 1 hts gX9_factor_X9_emit rfl rfl rfl hdX9_emit_v ⟨Nat.le_of_ble_eq_true rfl, Nat.le_of_ble_eq_true rfl⟩) hN hE hL (rcv10 hN hT hw.1) rfl rfl hl.1 (Nat.le_of_ble_eq_true rfl) dX9_factor_170 (Nat.zero_le _) (Nat.zero_le _) (fun H1 locs hL hqr3986 => ?_)
                obtain ⟨hT1, hF1, hqr3986⟩ := hqr3986
                have hF := hF.tr (hF1.mono (by simp))
                have hT := hT1
                obtain ⟨f3987, N3988, d3989, e3990, x3991, m3992⟩ := hqr3986
                have hm := m3992
                have hm8 := hm.2.2.2.2.2.2.2
                have nx3991 := x3991.n
                have ox3991 := nx3991.1
                have hbd : B0 ≤ dr := (hT.o26 hdT.1).1
                have hDR := hT.dr hdT d3989
                have hP : va_P D vwCl [(dr, .inl (cs 0, 1383, .inl f3987))] _ := va_P.cons d3989 va_P.nil
                refine lv_aload_n hx hb dX9_factor_173 rfl (lv_at hl 3 rfl) ?_
                refine lv_iload_n hx hb dX9_factor_174 rfl (lv_at hl 0 rfl) ?_
                refine cv_v (As := [.int 3]) (rest := []) (b := w) ⟨hx, hb, hml, hown, hts⟩ (c_X9_emit hT (w := w) hw (x := 3) hbT hdT hm (hP 0 _ rfl) e3990 (fun e9 => by omega)) (cwV 1 hts gX9_factor_X9_emit rfl rfl rfl hdX9_emit_v ⟨Nat.le_of_ble_eq_true rfl, Nat.le_of_ble_eq_true rfl⟩) hN hE hL (rcv10 hN hT hw.1) rfl rfl hl.1 (Nat.le_of_ble_eq_true rfl) dX9_factor_175 (Nat.zero_le _) (Nat.zero_le _) (fun H1 locs hL hqr3994 => ?_)
                obtain ⟨hT1, hF1, hqr3994⟩ := hqr3994
                have hF := hF.tr (hF1.mono (by simp))
                have hT := hT1
                obtain ⟨f3995, N3996, d3997, e3998, x3999, m4000⟩ := hqr3994
                have hm := m4000
                have hm8 := hm.2.2.2.2.2.2.2
                have nx3999 := x3999.n
                have ox3999 := nx3999.1
                have hbd : B0 ≤ dr := (hT.o26 hdT.1).1
                have hDR := hT.dr hdT d3997
                have hP : va_P D vwCl [(dr, .inl (cs 0, 1383, .inl f3995))] _ := va_P.cons d3997 va_P.nil
                have bx3991 := nx3991.2.1
                have bx3999 := nx3999.2.1
                have hbn : N3996 + 2 * pos ≤ N + 2 * p3959 ∧ N3996 ≤ 2 * p3959 := by
                  by_cases e9 : er = 0
                  · omega
                  · have q9 := bx3991 e9; have q8 := bx3999 e9; omega
                exact en_v hx hb hr hlocks hL (Nat.zero_le _) (Nat.zero_le _) dX9_factor_178 (⟨hT, hF, _, p3959, er, hbn.1, (by omega), id, hm, _, hP 0 _ rfl, e3998, hbn.2, (EM.lit x3991 x3999 (by decide) v3915)⟩)
            · have hm := m3954
              have hm8 := hm.2.2.2.2.2.2.2
              refine lv_if_eq (tgt := 128) hx hb dX9_factor_121 (by decide) (fun c9 => absurd c9 (by decide)) (fun _ => ?_)
              refine lv_iconst (v := 2) hx hb dX9_factor_124 (by decide) ?_
              refine lv_goto (tgt := 142) hx hb dX9_factor_125 (by decide) ?_
              refine lv_istore_n (lv' := [(2, .int 2), (1, .int (byF g tl p3921)), (0, .ref w)]) hx hb dX9_factor_142 rfl hl (by decide) rfl (fun ls hl => ?_)
              refine lv_iload_n hx hb dX9_factor_143 rfl (lv_at hl 0 rfl) ?_
              refine lv_if_ge (tgt := 158) hx hb dX9_factor_144 (by decide) (fun _ => ?_) (fun c9 => absurd (by decide) c9)
              refine lv_iload_n hx hb dX9_factor_158 rfl (lv_at hl 0 rfl) ?_
              refine lv_istore_n (lv' := [(3, .int 2), (2, .int 2), (1, .int (byF g tl p3921)), (0, .ref w)]) hx hb dX9_factor_159 rfl hl (by decide) rfl (fun ls hl => ?_)
              refine lv_aload_n hx hb dX9_factor_160 rfl (lv_at hl 3 rfl) ?_
              refine lv_iload_n hx hb dX9_factor_161 rfl (lv_at hl 1 rfl) ?_
              refine lv_if_ge (tgt := 169) hx hb dX9_factor_162 (by decide) (fun _ => ?_) (fun c9 => absurd (by decide) c9)
              refine lv_iconst (v := 1) hx hb dX9_factor_169 (by decide) ?_
              refine cv_v (As := [.int 1]) (rest := []) (b := w) ⟨hx, hb, hml, hown, hts⟩ (c_X9_emit hT (w := w) hw (x := 1) hbT hdT hm (hP 0 _ rfl) e3915 (fun e9 => by omega)) (cwV 1 hts gX9_factor_X9_emit rfl rfl rfl hdX9_emit_v ⟨Nat.le_of_ble_eq_true rfl, Nat.le_of_ble_eq_true rfl⟩) hN hE hL (rcv10 hN hT hw.1) rfl rfl hl.1 (Nat.le_of_ble_eq_true rfl) dX9_factor_170 (Nat.zero_le _) (Nat.zero_le _) (fun H1 locs hL hqr4002 => ?_)
              obtain ⟨hT1, hF1, hqr4002⟩ := hqr4002
              have hF := hF.tr (hF1.mono (by simp))
              have hT := hT1
              obtain ⟨f4003, N4004, d4005, e4006, x4007, m4008⟩ := hqr4002
              have hm := m4008
              have hm8 := hm.2.2.2.2.2.2.2
              have nx4007 := x4007.n
              have ox4007 := nx4007.1
              have hbd : B0 ≤ dr := (hT.o26 hdT.1).1
              have hDR := hT.dr hdT d4005
              have hP : va_P D vwCl [(dr, .inl (cs 0, 1383, .inl f4003))] _ := va_P.cons d4005 va_P.nil
              refine lv_aload_n hx hb dX9_factor_173 rfl (lv_at hl 3 rfl) ?_
              refine lv_iload_n hx hb dX9_factor_174 rfl (lv_at hl 0 rfl) ?_
              refine cv_v (As := [.int 2]) (rest := []) (b := w) ⟨hx, hb, hml, hown, hts⟩ (c_X9_emit hT (w := w) hw (x := 2) hbT hdT hm (hP 0 _ rfl) e4006 (fun e9 => by omega)) (cwV 1 hts gX9_factor_X9_emit rfl rfl rfl hdX9_emit_v ⟨Nat.le_of_ble_eq_true rfl, Nat.le_of_ble_eq_true rfl⟩) hN hE hL (rcv10 hN hT hw.1) rfl rfl hl.1 (Nat.le_of_ble_eq_true rfl) dX9_factor_175 (Nat.zero_le _) (Nat.zero_le _) (fun H1 locs hL hqr4010 => ?_)
              obtain ⟨hT1, hF1, hqr4010⟩ := hqr4010
              have hF := hF.tr (hF1.mono (by simp))
              have hT := hT1
              obtain ⟨f4011, N4012, d4013, e4014, x4015, m4016⟩ := hqr4010
              have hm := m4016
              have hm8 := hm.2.2.2.2.2.2.2
              have nx4015 := x4015.n
              have ox4015 := nx4015.1
              have hbd : B0 ≤ dr := (hT.o26 hdT.1).1
              have hDR := hT.dr hdT d4013
              have hP : va_P D vwCl [(dr, .inl (cs 0, 1383, .inl f4011))] _ := va_P.cons d4013 va_P.nil
              have bx4007 := nx4007.2.1
              have bx4015 := nx4015.2.1
              have hbn : N4012 + 2 * pos ≤ N + 2 * p3951 ∧ N4012 ≤ 2 * p3951 := by
                by_cases e9 : er = 0
                · omega
                · have q9 := bx4007 e9; have q8 := bx4015 e9; omega
              exact en_v hx hb hr hlocks hL (Nat.zero_le _) (Nat.zero_le _) dX9_factor_178 (⟨hT, hF, _, p3951, er, hbn.1, (by omega), id, hm, _, hP 0 _ rfl, e4014, hbn.2, (EM.lit x4007 x4015 (by decide) v3915)⟩)
          · have hm := m3946
            have hm8 := hm.2.2.2.2.2.2.2
            refine lv_if_eq (tgt := 115) hx hb dX9_factor_108 (by decide) (fun c9 => absurd c9 (by decide)) (fun _ => ?_)
            refine lv_iconst (v := 1) hx hb dX9_factor_111 (by decide) ?_
            refine lv_goto (tgt := 142) hx hb dX9_factor_112 (by decide) ?_
            refine lv_istore_n (lv' := [(2, .int 1), (1, .int (byF g tl p3921)), (0, .ref w)]) hx hb dX9_factor_142 rfl hl (by decide) rfl (fun ls hl => ?_)
            refine lv_iload_n hx hb dX9_factor_143 rfl (lv_at hl 0 rfl) ?_
            refine lv_if_ge (tgt := 158) hx hb dX9_factor_144 (by decide) (fun _ => ?_) (fun c9 => absurd (by decide) c9)
            refine lv_iload_n hx hb dX9_factor_158 rfl (lv_at hl 0 rfl) ?_
            refine lv_istore_n (lv' := [(3, .int 1), (2, .int 1), (1, .int (byF g tl p3921)), (0, .ref w)]) hx hb dX9_factor_159 rfl hl (by decide) rfl (fun ls hl => ?_)
            refine lv_aload_n hx hb dX9_factor_160 rfl (lv_at hl 3 rfl) ?_
            refine lv_iload_n hx hb dX9_factor_161 rfl (lv_at hl 1 rfl) ?_
            refine lv_if_ge (tgt := 169) hx hb dX9_factor_162 (by decide) (fun _ => ?_) (fun c9 => absurd (by decide) c9)
            refine lv_iconst (v := 1) hx hb dX9_factor_169 (by decide) ?_
            refine cv_v (As := [.int 1]) (rest := []) (b := w) ⟨hx, hb, hml, hown, hts⟩ (c_X9_emit hT (w := w) hw (x := 1) hbT hdT hm (hP 0 _ rfl) e3915 (fun e9 => by omega)) (cwV 1 hts gX9_factor_X9_emit rfl rfl rfl hdX9_emit_v ⟨Nat.le_of_ble_eq_true rfl, Nat.le_of_ble_eq_true rfl⟩) hN hE hL (rcv10 hN hT hw.1) rfl rfl hl.1 (Nat.le_of_ble_eq_true rfl) dX9_factor_170 (Nat.zero_le _) (Nat.zero_le _) (fun H1 locs hL hqr4018 => ?_)
            obtain ⟨hT1, hF1, hqr4018⟩ := hqr4018
            have hF := hF.tr (hF1.mono (by simp))
            have hT := hT1
            obtain ⟨f4019, N4020, d4021, e4022, x4023, m4024⟩ := hqr4018
            have hm := m4024
            have hm8 := hm.2.2.2.2.2.2.2
            have nx4023 := x4023.n
            have ox4023 := nx4023.1
            have hbd : B0 ≤ dr := (hT.o26 hdT.1).1
            have hDR := hT.dr hdT d4021
            have hP : va_P D vwCl [(dr, .inl (cs 0, 1383, .inl f4019))] _ := va_P.cons d4021 va_P.nil
            refine lv_aload_n hx hb dX9_factor_173 rfl (lv_at hl 3 rfl) ?_
            refine lv_iload_n hx hb dX9_factor_174 rfl (lv_at hl 0 rfl) ?_
            refine cv_v (As := [.int 1]) (rest := []) (b := w) ⟨hx, hb, hml, hown, hts⟩ (c_X9_emit hT (w := w) hw (x := 1) hbT hdT hm (hP 0 _ rfl) e4022 (fun e9 => by omega)) (cwV 1 hts gX9_factor_X9_emit rfl rfl rfl hdX9_emit_v ⟨Nat.le_of_ble_eq_true rfl, Nat.le_of_ble_eq_true rfl⟩) hN hE hL (rcv10 hN hT hw.1) rfl rfl hl.1 (Nat.le_of_ble_eq_true rfl) dX9_factor_175 (Nat.zero_le _) (Nat.zero_le _) (fun H1 locs hL hqr4026 => ?_)
            obtain ⟨hT1, hF1, hqr4026⟩ := hqr4026
            have hF := hF.tr (hF1.mono (by simp))
            have hT := hT1
            obtain ⟨f4027, N4028, d4029, e4030, x4031, m4032⟩ := hqr4026
            have hm := m4032
            have hm8 := hm.2.2.2.2.2.2.2
            have nx4031 := x4031.n
            have ox4031 := nx4031.1
            have hbd : B0 ≤ dr := (hT.o26 hdT.1).1
            have hDR := hT.dr hdT d4029
            have hP : va_P D vwCl [(dr, .inl (cs 0, 1383, .inl f4027))] _ := va_P.cons d4029 va_P.nil
            have bx4023 := nx4023.2.1
            have bx4031 := nx4031.2.1
            have hbn : N4028 + 2 * pos ≤ N + 2 * p3943 ∧ N4028 ≤ 2 * p3943 := by
              by_cases e9 : er = 0
              · omega
              · have q9 := bx4023 e9; have q8 := bx4031 e9; omega
            exact en_v hx hb hr hlocks hL (Nat.zero_le _) (Nat.zero_le _) dX9_factor_178 (⟨hT, hF, _, p3943, er, hbn.1, (by omega), id, hm, _, hP 0 _ rfl, e4030, hbn.2, (EM.lit x4023 x4031 (by decide) v3915)⟩)
        · have hm := m3938
          have hm8 := hm.2.2.2.2.2.2.2
          refine lv_if_eq (tgt := 102) hx hb dX9_factor_95 (by decide) (fun c9 => absurd c9 (by decide)) (fun _ => ?_)
          refine lv_iconst (v := 0) hx hb dX9_factor_98 (by decide) ?_
          refine lv_goto (tgt := 142) hx hb dX9_factor_99 (by decide) ?_
          refine lv_istore_n (lv' := [(2, .int 0), (1, .int (byF g tl p3921)), (0, .ref w)]) hx hb dX9_factor_142 rfl hl (by decide) rfl (fun ls hl => ?_)
          refine lv_iload_n hx hb dX9_factor_143 rfl (lv_at hl 0 rfl) ?_
          refine lv_if_ge (tgt := 158) hx hb dX9_factor_144 (by decide) (fun _ => ?_) (fun c9 => absurd (by decide) c9)
          refine lv_iload_n hx hb dX9_factor_158 rfl (lv_at hl 0 rfl) ?_
          refine lv_istore_n (lv' := [(3, .int 0), (2, .int 0), (1, .int (byF g tl p3921)), (0, .ref w)]) hx hb dX9_factor_159 rfl hl (by decide) rfl (fun ls hl => ?_)
          refine lv_aload_n hx hb dX9_factor_160 rfl (lv_at hl 3 rfl) ?_
          refine lv_iload_n hx hb dX9_factor_161 rfl (lv_at hl 1 rfl) ?_
          refine lv_if_ge (tgt := 169) hx hb dX9_factor_162 (by decide) (fun _ => ?_) (fun c9 => absurd (by decide) c9)
          refine lv_iconst (v := 1) hx hb dX9_factor_169 (by decide) ?_
          refine cv_v (As := [.int 1]) (rest := []) (b := w) ⟨hx, hb, hml, hown, hts⟩ (c_X9_emit hT (w := w) hw (x := 1) hbT hdT hm (hP 0 _ rfl) e3915 (fun e9 => by omega)) (cwV 1 hts gX9_factor_X9_emit rfl rfl rfl hdX9_emit_v ⟨Nat.le_of_ble_eq_true rfl, Nat.le_of_ble_eq_true rfl⟩) hN hE hL (rcv10 hN hT hw.1) rfl rfl hl.1 (Nat.le_of_ble_eq_true rfl) dX9_factor_170 (Nat.zero_le _) (Nat.zero_le _) (fun H1 locs hL hqr4034 => ?_)
          obtain ⟨hT1, hF1, hqr4034⟩ := hqr4034
          have hF := hF.tr (hF1.mono (by simp))
          have hT := hT1
          obtain ⟨f4035, N4036, d4037, e4038, x4039, m4040⟩ := hqr4034
          have hm := m4040
          have hm8 := hm.2.2.2.2.2.2.2
          have nx4039 := x4039.n
          have ox4039 := nx4039.1
          have hbd : B0 ≤ dr := (hT.o26 hdT.1).1
          have hDR := hT.dr hdT d4037
          have hP : va_P D vwCl [(dr, .inl (cs 0, 1383, .inl f4035))] _ := va_P.cons d4037 va_P.nil
          refine lv_aload_n hx hb dX9_factor_173 rfl (lv_at hl 3 rfl) ?_
          refine lv_iload_n hx hb dX9_factor_174 rfl (lv_at hl 0 rfl) ?_
          refine cv_v (As := [.int 0]) (rest := []) (b := w) ⟨hx, hb, hml, hown, hts⟩ (c_X9_emit hT (w := w) hw (x := 0) hbT hdT hm (hP 0 _ rfl) e4038 (fun e9 => by omega)) (cwV 1 hts gX9_factor_X9_emit rfl rfl rfl hdX9_emit_v ⟨Nat.le_of_ble_eq_true rfl, Nat.le_of_ble_eq_true rfl⟩) hN hE hL (rcv10 hN hT hw.1) rfl rfl hl.1 (Nat.le_of_ble_eq_true rfl) dX9_factor_175 (Nat.zero_le _) (Nat.zero_le _) (fun H1 locs hL hqr4042 => ?_)
          obtain ⟨hT1, hF1, hqr4042⟩ := hqr4042
          have hF := hF.tr (hF1.mono (by simp))
          have hT := hT1
          obtain ⟨f4043, N4044, d4045, e4046, x4047, m4048⟩ := hqr4042
          have hm := m4048
          have hm8 := hm.2.2.2.2.2.2.2
          have nx4047 := x4047.n
          have ox4047 := nx4047.1
          have hbd : B0 ≤ dr := (hT.o26 hdT.1).1
          have hDR := hT.dr hdT d4045
          have hP : va_P D vwCl [(dr, .inl (cs 0, 1383, .inl f4043))] _ := va_P.cons d4045 va_P.nil
          have bx4039 := nx4039.2.1
          have bx4047 := nx4047.2.1
          have hbn : N4044 + 2 * pos ≤ N + 2 * p3935 ∧ N4044 ≤ 2 * p3935 := by
            by_cases e9 : er = 0
            · omega
            · have q9 := bx4039 e9; have q8 := bx4047 e9; omega
          exact en_v hx hb hr hlocks hL (Nat.zero_le _) (Nat.zero_le _) dX9_factor_178 (⟨hT, hF, _, p3935, er, hbn.1, (by omega), id, hm, _, hP 0 _ rfl, e4046, hbn.2, (EM.lit x4039 x4047 (by decide) v3915)⟩)
      · refine lv_if_eq (tgt := 89) hx hb dX9_factor_82 (by decide) (fun c9 => absurd c9 (by decide)) (fun _ => ?_)
        refine lv_iconst (v := (-1)) hx hb dX9_factor_85 (by decide) ?_
        refine lv_goto (tgt := 142) hx hb dX9_factor_86 (by decide) ?_
        refine lv_istore_n (lv' := [(2, .int (-1)), (1, .int (byF g tl p3921)), (0, .ref w)]) hx hb dX9_factor_142 rfl hl (by decide) rfl (fun ls hl => ?_)
        refine lv_iload_n hx hb dX9_factor_143 rfl (lv_at hl 0 rfl) ?_
        refine lv_if_ge (tgt := 158) hx hb dX9_factor_144 (by decide) (fun c9 => absurd c9 (by decide)) (fun _ => ?_)
        refine lv_aload_n hx hb dX9_factor_147 rfl (lv_at hl 2 rfl) ?_
        refine lv_iconst (v := 0) hx hb dX9_factor_148 (by decide) ?_
        refine lv_sipush (v := 9999) hx hb dX9_factor_149 (by decide) ?_
        refine cv_i (As := [.int 0, .int 9999]) (rest := []) (b := w) ⟨hx, hb, hml, hown, hts⟩ (c_X9_number hT (w := w) hw (x := 0) (y := 9999) hbT hdT hm) (cwV 2 hts gX9_factor_X9_number rfl rfl rfl hdX9_number_v ⟨Nat.le_of_ble_eq_true rfl, Nat.le_of_ble_eq_true rfl⟩) hN hE hL (rcv10 hN hT hw.1) rfl rfl hl.1 (Nat.le_of_ble_eq_true rfl) dX9_factor_152 (Nat.zero_le _) (Nat.zero_le _) (fun r4050 H1 locs hL hqr4050 => ?_)
        obtain ⟨hT1, hF1, hqr4050⟩ := hqr4050
        have hP : va_P D vwCl [(dr, .inl (cs 0, 1383, .inl f3915))] _ := hF1.hP (hP.sub [0] rfl) (fa_c ⟨by rw [hdT.1]; decide, by rw [hdT.2]; first | decide | (simp; done) | (simp [h15a, h15b, h15c]; done) | (simp; omega)⟩ fa_n)
        have hF := hF.tr (hF1.mono (by simp))
        have hT := hT1
        obtain ⟨p4051, er4052, a4053, z4054, m4055, q4056⟩ := hqr4050
        have hm := m4055
        have hm8 := hm.2.2.2.2.2.2.2
        refine lv_goto (tgt := 159) hx hb dX9_factor_155 (by decide) ?_
        refine lv_istore_n (lv' := [(3, .int r4050), (2, .int (-1)), (1, .int (byF g tl p3921)), (0, .ref w)]) hx hb dX9_factor_159 rfl hl (by decide) rfl (fun ls hl => ?_)
        refine lv_aload_n hx hb dX9_factor_160 rfl (lv_at hl 3 rfl) ?_
        refine lv_iload_n hx hb dX9_factor_161 rfl (lv_at hl 1 rfl) ?_
        refine lv_if_ge (tgt := 169) hx hb dX9_factor_162 (by decide) (fun c9 => absurd c9 (by decide)) (fun _ => ?_)
        refine lv_iconst (v := 0) hx hb dX9_factor_165 (by decide) ?_
        refine lv_goto (tgt := 170) hx hb dX9_factor_166 (by decide) ?_
        refine cv_v (As := [.int 0]) (rest := []) (b := w) ⟨hx, hb, hml, hown, hts⟩ (c_X9_emit hT (w := w) hw (x := 0) hbT hdT hm (hP 0 _ rfl) e3915 (fun e9 => by have q9 := (z4054 e9).2; omega)) (cwV 1 hts gX9_factor_X9_emit rfl rfl rfl hdX9_emit_v ⟨Nat.le_of_ble_eq_true rfl, Nat.le_of_ble_eq_true rfl⟩) hN hE hL (rcv10 hN hT hw.1) rfl rfl hl.1 (Nat.le_of_ble_eq_true rfl) dX9_factor_170 (Nat.zero_le _) (Nat.zero_le _) (fun H1 locs hL hqr4057 => ?_)
        obtain ⟨hT1, hF1, hqr4057⟩ := hqr4057
        have hF := hF.tr (hF1.mono (by simp))
        have hT := hT1
        obtain ⟨f4058, N4059, d4060, e4061, x4062, m4063⟩ := hqr4057
        have hm := m4063
        have hm8 := hm.2.2.2.2.2.2.2
        have nx4062 := x4062.n
        have ox4062 := nx4062.1
        have hbd : B0 ≤ dr := (hT.o26 hdT.1).1
        have hDR := hT.dr hdT d4060
        have hP : va_P D vwCl [(dr, .inl (cs 0, 1383, .inl f4058))] _ := va_P.cons d4060 va_P.nil
        refine lv_aload_n hx hb dX9_factor_173 rfl (lv_at hl 3 rfl) ?_
        refine lv_iload_n hx hb dX9_factor_174 rfl (lv_at hl 0 rfl) ?_
        refine cv_v (As := [.int r4050]) (rest := []) (b := w) ⟨hx, hb, hml, hown, hts⟩ (c_X9_emit hT (w := w) hw (x := r4050) hbT hdT hm (hP 0 _ rfl) e4061 (fun e9 => by have q9 := (z4054 e9).2; omega)) (cwV 1 hts gX9_factor_X9_emit rfl rfl rfl hdX9_emit_v ⟨Nat.le_of_ble_eq_true rfl, Nat.le_of_ble_eq_true rfl⟩) hN hE hL (rcv10 hN hT hw.1) rfl rfl hl.1 (Nat.le_of_ble_eq_true rfl) dX9_factor_175 (Nat.zero_le _) (Nat.zero_le _) (fun H1 locs hL hqr4065 => ?_)
        obtain ⟨hT1, hF1, hqr4065⟩ := hqr4065
        have hF := hF.tr (hF1.mono (by simp))
        have hT := hT1
        obtain ⟨f4066, N4067, d4068, e4069, x4070, m4071⟩ := hqr4065
        have hm := m4071
        have hm8 := hm.2.2.2.2.2.2.2
        have nx4070 := x4070.n
        have ox4070 := nx4070.1
        have hbd : B0 ≤ dr := (hT.o26 hdT.1).1
        have hDR := hT.dr hdT d4068
        have hP : va_P D vwCl [(dr, .inl (cs 0, 1383, .inl f4066))] _ := va_P.cons d4068 va_P.nil
        have bx4062 := nx4062.2.1
        have bx4070 := nx4070.2.1
        have hbn : N4067 + 2 * pos ≤ N + 2 * p4051 ∧ N4067 ≤ 2 * p4051 := by
          by_cases e9 : er4052 = 0
          · have q9 := (z4054 e9).2; omega
          · have q9 := bx4062 e9; have q8 := bx4070 e9; omega
        exact en_v hx hb hr hlocks hL (Nat.zero_le _) (Nat.zero_le _) dX9_factor_178 (⟨hT, hF, _, p4051, er4052, hbn.1, (by omega), (fun e9 => id ((fun e9 => (z4054 e9).1) e9)), hm, _, hP 0 _ rfl, e4069, hbn.2, (EM.lit x4062 x4070 (by decide) (fun e9 => v3915 ((fun e9 => (z4054 e9).1) e9)))⟩)
    · have hl9 := byF_c (c3926) (by decide)
      refine lv_aload_n hx hb dX9_factor_19 rfl (lv_at hl 1 rfl) ?_
      obtain ⟨hb4073, e4073, hat4073, hk4073⟩ := hT.o10 hw.1
      obtain ⟨f4073_0, f4073_1, f4073_3, f4073_4, f4073_5, f4073_6, f4073_7, f4073_9, f4073_10, f4073_11, f4073_12, f4073_13, f4073_14, f4073_15, f4073_16, f4073_17, rfl, c4073_2, c4073_3, c4073_4, c4073_12, t4073_1, t4073_8, t4073_9, c4073_sd, t4073_10, t4073_11, t4073_17⟩ := hk4073
      obtain ⟨rfl, rfl, rfl, rfl, rfl, rfl⟩ := hm.at hat4073 c4073_3 (by omega)
      have hm8 := hm.2.2.2.2.2.2.2
      have hP : va_P D vwCl [(w, .inr (9, [.int f4073_0, .ref bu, .int (nI ((κ w).2.2.1)), .int (nI tl), .int (nI p3921), .int er, .int f4073_6, .int f4073_7, .ref (κ w).2.2.2, .ref f4073_9, .ref dr, .ref f4073_11, .int (nI f4073_12), .int f4073_13, .int 0, .int f4073_15, .int f4073_16, .ref f4073_17])), (dr, .inl (cs 0, 1383, .inl f3915))] _ := va_P.cons hat4073 hP
      refine va_get (D := D) (ci := 9) (v := .int 0) (C := RX9) (T := TX9) (N := 18) hx hb hts iX9_factor_9 hown hN.1 hP 0 rfl rfl 14 (by decide) (hts _ mX9_factor_1) (fun _ h9 => h9) rfl dX9_factor_20 ?_
      refine lv_iconst (v := 4) hx hb dX9_factor_23 (by decide) ?_
      refine lv_icmp_ne (tgt := 37) hx hb dX9_factor_24 (by decide) (fun _ => ?_) (fun c9 => absurd c9 (by decide))
      refine lv_aload_n hx hb dX9_factor_37 rfl (lv_at hl 1 rfl) ?_
      refine lv_dup hx hb dX9_factor_38 rfl ?_
      refine va_get (D := D) (ci := 9) (v := .int (nI p3921)) (C := RX9) (T := TX9) (N := 18) hx hb hts iX9_factor_9 hown hN.1 hP 0 rfl rfl 4 (by decide) (hts _ mX9_factor_2) (fun _ h9 => h9) rfl dX9_factor_39 ?_
      refine lv_iconst (v := 1) hx hb dX9_factor_42 (by decide) ?_
      refine lv_iadd hx hb dX9_factor_43 ?_
      refine tp_i (nI (p3921 + 1)) (nI_add p3921 1) ?_
      have hB : Bx B0 D _ [(w, .inr (9, [.int f4073_0, .ref bu, .int (nI ((κ w).2.2.1)), .int (nI tl), .int (nI p3921), .int er, .int f4073_6, .int f4073_7, .ref (κ w).2.2.2, .ref f4073_9, .ref dr, .ref f4073_11, .int (nI f4073_12), .int f4073_13, .int 0, .int f4073_15, .int f4073_16, .ref f4073_17])), (dr, .inl (cs 0, 1383, .inl f3915))] [] _ _ := Bx.of (fun a => (κ a).1) hL hP (fa_c hb4073 (fa_c hbd fa_n)) (by simp only [List.map_cons, List.map_nil, hw.1, hdT.1]; decide)
      refine b_put (D := D) (ci := 9) (v := .int (nI (p3921 + 1))) (ty := .int) (C := RX9) (T := TX9) (N := 18) hx hb hts iX9_factor_9 tyX9 tyX9_ok nmX9 hown hN hB 0 rfl rfl 4 (by decide) (hts _ mX9_factor_2) (fun _ h9 => h9) rfl (by decide +kernel) rfl rfl (Nat.le_of_ble_eq_true rfl) (.inl rfl) dX9_factor_44 (fun H locs hB => ?_)
      have hB : Bx B0 D _ [(w, .inr (9, [.int f4073_0, .ref bu, .int (nI ((κ w).2.2.1)), .int (nI tl), .int (nI (p3921 + 1)), .int er, .int f4073_6, .int f4073_7, .ref (κ w).2.2.2, .ref f4073_9, .ref dr, .ref f4073_11, .int (nI f4073_12), .int f4073_13, .int 0, .int f4073_15, .int f4073_16, .ref f4073_17])), (dr, .inl (cs 0, 1383, .inl f3915))] [w] _ _ := hB
      refine lv_aload_n hx hb dX9_factor_47 rfl (lv_at hl 1 rfl) ?_
      refine lv_dup hx hb dX9_factor_48 rfl ?_
      refine va_get (D := D) (ci := 9) (v := .int 0) (C := RX9) (T := TX9) (N := 18) hx hb hts iX9_factor_9 hown hN.1 hB.1 0 rfl rfl 14 (by decide) (hts _ mX9_factor_1) (fun _ h9 => h9) rfl dX9_factor_49 ?_
      refine lv_iconst (v := 1) hx hb dX9_factor_52 (by decide) ?_
      refine lv_iadd hx hb dX9_factor_53 ?_
      refine tp_i 1 (by decide) ?_
      refine b_put (D := D) (ci := 9) (v := .int 1) (ty := .int) (C := RX9) (T := TX9) (N := 18) hx hb hts iX9_factor_9 tyX9 tyX9_ok nmX9 hown hN hB 0 rfl rfl 14 (by decide) (hts _ mX9_factor_1) (fun _ h9 => h9) rfl (by decide +kernel) rfl rfl (Nat.le_of_ble_eq_true rfl) (.inr ⟨rfl, List.mem_of_getElem? (i := 0) rfl⟩) dX9_factor_54 (fun H locs hB => ?_)
      have hB : Bx B0 D _ [(w, .inr (9, [.int f4073_0, .ref bu, .int (nI ((κ w).2.2.1)), .int (nI tl), .int (nI (p3921 + 1)), .int er, .int f4073_6, .int f4073_7, .ref (κ w).2.2.2, .ref f4073_9, .ref dr, .ref f4073_11, .int (nI f4073_12), .int f4073_13, .int 1, .int f4073_15, .int f4073_16, .ref f4073_17])), (dr, .inl (cs 0, 1383, .inl f3915))] [w] _ _ := hB
      refine lv_aload_n hx hb dX9_factor_57 rfl (lv_at hl 1 rfl) ?_
      have hT : WT B0 D cs T κ _ := hT.close hB ⟨⟨0, _, rfl, ok_10 hw.1 ⟨_, _, _, _, _, _, _, _, _, _, _, _, _, _, _, _, rfl, (by omega), (by omega), (by omega), (by omega), hbT, t4073_8, t4073_9, c4073_sd, hdT, t4073_11, t4073_17⟩⟩, trivial⟩
      have hF : Fr B0 [12, 17] κ H0 _ := hF.close hB (fa_c (by simp [hw.2]) fa_n)
      have hL : OkL B0 _ := hB.2.2.2.2.2
      have hP : va_P D vwCl [(w, .inr (9, [.int f4073_0, .ref bu, .int (nI ((κ w).2.2.1)), .int (nI tl), .int (nI (p3921 + 1)), .int er, .int f4073_6, .int f4073_7, .ref (κ w).2.2.2, .ref f4073_9, .ref dr, .ref f4073_11, .int (nI f4073_12), .int f4073_13, .int 1, .int f4073_15, .int f4073_16, .ref f4073_17])), (dr, .inl (cs 0, 1383, .inl f3915))] _ := hB.1
      have hbu9 := (hm.2.2.2.2.2.2.1).kept (hB.2.2.2.1 _ hm.2.2.2.2.2.2.1.lt (by simp only [List.mem_cons, List.not_mem_nil, or_false, not_or]; exact ne_c hbT.1 hw.1 (by decide)))
      have hm : MF D cs w _ ((p3921 + 1)) (tl) (er) (1) dr bu g := ⟨⟨_, hP 0 _ rfl, rfl⟩, ⟨_, hP 0 _ rfl, rfl⟩, ⟨_, hP 0 _ rfl, rfl⟩, ⟨_, hP 0 _ rfl, rfl⟩, ⟨_, hP 0 _ rfl, rfl⟩, ⟨_, hP 0 _ rfl, rfl⟩, hbu9, (by omega), (by omega)⟩
      have hps : PS D cs w _ ((p3921 + 1)) (tl) (er) (1) dr bu g (N) (h) := ⟨hm, f3915, hP 1 _ rfl, e3915, by omega, v3915⟩
      refine cv_v (As := []) (rest := []) (b := w) ⟨hx, hb, hml, hown, hts⟩ (c_X9_readSum_d1 hT (w := w) hw hbT hdT hps) (cwV 0 hts gX9_factor_X9_readSum rfl rfl rfl hdX9_readSum_v ⟨Nat.le_of_ble_eq_true rfl, Nat.le_of_ble_eq_true rfl⟩) hN hE hL (rcv10 hN hT hw.1) rfl rfl hl.1 (Nat.le_of_ble_eq_true rfl) dX9_factor_58 (Nat.zero_le _) (Nat.zero_le _) (fun H1 locs hL hqr4074 => ?_)
      obtain ⟨hT1, hF1, hqr4074⟩ := hqr4074
      have hF := hF.tr (hF1.mono (by simp))
      have hT := hT1
      obtain ⟨N4075, p4076, er4077, a4078, b4079, z4080, m4081, f4082, d4083, e4084, n4085, v4086⟩ := hqr4074
      have hm := m4081
      have hm8 := hm.2.2.2.2.2.2.2
      have hbd : B0 ≤ dr := (hT.o26 hdT.1).1
      have hDR := hT.dr hdT d4083
      have hP : va_P D vwCl [(dr, .inl (cs 0, 1383, .inl f4082))] _ := va_P.cons d4083 va_P.nil
      refine lv_aload_n hx hb dX9_factor_61 rfl (lv_at hl 1 rfl) ?_
      refine lv_bipush (v := 41) hx hb dX9_factor_62 (by decide) ?_
      refine cv_v (As := [.int 41]) (rest := []) (b := w) ⟨hx, hb, hml, hown, hts⟩ (c_X9_expect hT (w := w) hw (x := 41) hbT hdT hm ((by decide))) (cwV 1 hts gX9_factor_X9_expect rfl rfl rfl hdX9_expect_v ⟨Nat.le_of_ble_eq_true rfl, Nat.le_of_ble_eq_true rfl⟩) hN hE hL (rcv10 hN hT hw.1) rfl rfl hl.1 (Nat.le_of_ble_eq_true rfl) dX9_factor_64 (Nat.zero_le _) (Nat.zero_le _) (fun H1 locs hL hqr4088 => ?_)
      obtain ⟨hT1, hF1, hqr4088⟩ := hqr4088
      have hP : va_P D vwCl [(dr, .inl (cs 0, 1383, .inl f4082))] _ := hF1.hP (hP.sub [0] rfl) (fa_c ⟨by rw [hdT.1]; decide, by rw [hdT.2]; first | decide | (simp; done) | (simp [h15a, h15b, h15c]; done) | (simp; omega)⟩ fa_n)
      have hF := hF.tr (hF1.mono (by simp))
      have hT := hT1
      obtain ⟨p4089, er4090, a4091, z4092, m4093⟩ := hqr4088
      have hm := m4093
      have hm8 := hm.2.2.2.2.2.2.2
      refine lv_aload_n hx hb dX9_factor_67 rfl (lv_at hl 1 rfl) ?_
      refine lv_dup hx hb dX9_factor_68 rfl ?_
      obtain ⟨hb4094, e4094, hat4094, hk4094⟩ := hT.o10 hw.1
      obtain ⟨f4094_0, f4094_1, f4094_3, f4094_4, f4094_5, f4094_6, f4094_7, f4094_9, f4094_10, f4094_11, f4094_12, f4094_13, f4094_14, f4094_15, f4094_16, f4094_17, rfl, c4094_2, c4094_3, c4094_4, c4094_12, t4094_1, t4094_8, t4094_9, c4094_sd, t4094_10, t4094_11, t4094_17⟩ := hk4094
      obtain ⟨rfl, rfl, rfl, rfl, rfl, rfl⟩ := hm.at hat4094 c4094_3 (by omega)
      have hm8 := hm.2.2.2.2.2.2.2
      have hP : va_P D vwCl [(w, .inr (9, [.int f4094_0, .ref bu, .int (nI ((κ w).2.2.1)), .int (nI tl), .int (nI p4089), .int er4090, .int f4094_6, .int f4094_7, .ref (κ w).2.2.2, .ref f4094_9, .ref dr, .ref f4094_11, .int (nI f4094_12), .int f4094_13, .int 1, .int f4094_15, .int f4094_16, .ref f4094_17])), (dr, .inl (cs 0, 1383, .inl f4082))] _ := va_P.cons hat4094 hP
      refine va_get (D := D) (ci := 9) (v := .int 1) (C := RX9) (T := TX9) (N := 18) hx hb hts iX9_factor_9 hown hN.1 hP 0 rfl rfl 14 (by decide) (hts _ mX9_factor_1) (fun _ h9 => h9) rfl dX9_factor_69 ?_
      refine lv_iconst (v := 1) hx hb dX9_factor_72 (by decide) ?_
      refine lv_isub hx hb dX9_factor_73 ?_
      refine tp_i 0 (by decide) ?_
      have hB : Bx B0 D _ [(w, .inr (9, [.int f4094_0, .ref bu, .int (nI ((κ w).2.2.1)), .int (nI tl), .int (nI p4089), .int er4090, .int f4094_6, .int f4094_7, .ref (κ w).2.2.2, .ref f4094_9, .ref dr, .ref f4094_11, .int (nI f4094_12), .int f4094_13, .int 1, .int f4094_15, .int f4094_16, .ref f4094_17])), (dr, .inl (cs 0, 1383, .inl f4082))] [] _ _ := Bx.of (fun a => (κ a).1) hL hP (fa_c hb4094 (fa_c hbd fa_n)) (by simp only [List.map_cons, List.map_nil, hw.1, hdT.1]; decide)
      refine b_put (D := D) (ci := 9) (v := .int 0) (ty := .int) (C := RX9) (T := TX9) (N := 18) hx hb hts iX9_factor_9 tyX9 tyX9_ok nmX9 hown hN hB 0 rfl rfl 14 (by decide) (hts _ mX9_factor_1) (fun _ h9 => h9) rfl (by decide +kernel) rfl rfl (Nat.le_of_ble_eq_true rfl) (.inl rfl) dX9_factor_74 (fun H locs hB => ?_)
      have hB : Bx B0 D _ [(w, .inr (9, [.int f4094_0, .ref bu, .int (nI ((κ w).2.2.1)), .int (nI tl), .int (nI p4089), .int er4090, .int f4094_6, .int f4094_7, .ref (κ w).2.2.2, .ref f4094_9, .ref dr, .ref f4094_11, .int (nI f4094_12), .int f4094_13, .int 0, .int f4094_15, .int f4094_16, .ref f4094_17])), (dr, .inl (cs 0, 1383, .inl f4082))] [w] _ _ := hB
      have hT : WT B0 D cs T κ _ := hT.close hB ⟨⟨0, _, rfl, ok_10 hw.1 ⟨_, _, _, _, _, _, _, _, _, _, _, _, _, _, _, _, rfl, (by omega), (by omega), (by omega), (by omega), hbT, t4094_8, t4094_9, c4094_sd, hdT, t4094_11, t4094_17⟩⟩, trivial⟩
      have hF : Fr B0 [12, 17] κ H0 _ := hF.close hB (fa_c (by simp [hw.2]) fa_n)
      have hL : OkL B0 _ := hB.2.2.2.2.2
      have hP : va_P D vwCl [(w, .inr (9, [.int f4094_0, .ref bu, .int (nI ((κ w).2.2.1)), .int (nI tl), .int (nI p4089), .int er4090, .int f4094_6, .int f4094_7, .ref (κ w).2.2.2, .ref f4094_9, .ref dr, .ref f4094_11, .int (nI f4094_12), .int f4094_13, .int 0, .int f4094_15, .int f4094_16, .ref f4094_17])), (dr, .inl (cs 0, 1383, .inl f4082))] _ := hB.1
      have hbu9 := (hm.2.2.2.2.2.2.1).kept (hB.2.2.2.1 _ hm.2.2.2.2.2.2.1.lt (by simp only [List.mem_cons, List.not_mem_nil, or_false, not_or]; exact ne_c hbT.1 hw.1 (by decide)))
      have hm : MF D cs w _ (p4089) (tl) (er4090) (0) dr bu g := ⟨⟨_, hP 0 _ rfl, rfl⟩, ⟨_, hP 0 _ rfl, rfl⟩, ⟨_, hP 0 _ rfl, rfl⟩, ⟨_, hP 0 _ rfl, rfl⟩, ⟨_, hP 0 _ rfl, rfl⟩, ⟨_, hP 0 _ rfl, rfl⟩, hbu9, (by omega), (by omega)⟩
      exact en_v hx hb hr hlocks hL (Nat.zero_le _) (Nat.zero_le _) dX9_factor_77 (⟨hT, hF, N4075, p4089, er4090, (by omega), (by omega), (fun e9 => (fun e9 => id (z4080 e9)) (z4092 e9)), hm, _, hP 1 _ rfl, e4084, (by omega), (fun e9 => v4086 (z4092 e9))⟩)
  · refine lv_if_ne (tgt := 8) hx hb dX9_factor_4 (by decide) (fun c9 => absurd (by decide) c9) (fun _ => ?_)
    exact en_v hx hb hr hlocks hL (Nat.zero_le _) (Nat.zero_le _) dX9_factor_7 (⟨hT, hF, N, pos, er, (by omega), (by omega), id, hm, f3915, hP 0 _ rfl, e3915, (by omega), (fun e9 => absurd e9 e3919)⟩)
set_option maxHeartbeats 4000000 in
set_option maxRecDepth 100000 in
theorem c_X9_term_d0 {l : Launch} {D : va_G} {cs : Nat → ClassId} {B0 T : Nat} {κ : KM} {H0 : Heap} (hT : WT B0 D cs T κ H0) {w : Nat} (hw : T2 κ w 10 12) {pos tl : Nat} {er : Int32} {dr bu : Nat} {g : Nat → Int32} {N h : Nat} (hbT : T2 κ bu 23 14) (hdT : T2 κ dr 26 17) (hps : PS D cs w H0 pos tl er 0 dr bu g N h) : KC l yX9_term wsX9_term 18 390 0 0 D cs B0 H0 [.ref w] (Qv (fun H => WT B0 D cs T κ H ∧ Fr B0 [12, 17] κ H0 H ∧ ∃ N1 pos1 er1, N1 + 2 * pos ≤ N + 2 * pos1 ∧ pos ≤ pos1 ∧ (er1 = 0 → er = 0) ∧ PS D cs w H pos1 tl er1 0 dr bu g N1 (h + 1))) := by
  refine KC.of cX9_term 2 none (by decide) rfl (Nat.le_of_ble_eq_true rfl) ?_
  intro p e s m below meth c ls hx hb hr hml hown hts hlocks hin hN hE hH0 hl
  have hown : s.vm.findClass RX9 = some m.cls := hown
  have hl : lv_has ls 2 [(0, .ref w)] := hl
  have hL : OkL B0 [] := OkL.nil
  have hF : Fr B0 [12, 17] κ H0 H0 := Fr.rf
  obtain ⟨hm, f4095, hd4095, e4095, n4095, v4095⟩ := hps
  have hm8 := hm.2.2.2.2.2.2.2
  have hbd : B0 ≤ dr := (hT.o26 hdT.1).1
  have hDR := hT.dr hdT hd4095
  have hP : va_P D vwCl [(dr, .inl (cs 0, 1383, .inl f4095))] _ := va_P.cons hd4095 va_P.nil
  refine lv_aload_n hx hb dX9_term_0 rfl (lv_at hl 0 rfl) ?_
  have hps : PS D cs w _ (pos) (tl) (er) (0) dr bu g (N) (h) := ⟨hm, f4095, hP 0 _ rfl, e4095, by omega, v4095⟩
  refine cv_v (As := []) (rest := []) (b := w) ⟨hx, hb, hml, hown, hts⟩ (c_X9_factor_d0 hT (w := w) hw hbT hdT hps) (cwV 0 hts gX9_term_X9_factor rfl rfl rfl hdX9_factor_v ⟨Nat.le_of_ble_eq_true rfl, Nat.le_of_ble_eq_true rfl⟩) hN hE hL (rcv10 hN hT hw.1) rfl rfl hl.1 (Nat.le_of_ble_eq_true rfl) dX9_term_1 (Nat.zero_le _) (Nat.zero_le _) (fun H1 locs hL hqr4097 => ?_)
  obtain ⟨hT1, hF1, hqr4097⟩ := hqr4097
  have hF := hF.tr (hF1.mono (by simp))
  have hT := hT1
  obtain ⟨N4098, p4099, er4100, a4101, b4102, z4103, m4104, f4105, d4106, e4107, n4108, v4109⟩ := hqr4097
  have hm := m4104
  have hm8 := hm.2.2.2.2.2.2.2
  have hbd : B0 ≤ dr := (hT.o26 hdT.1).1
  have hDR := hT.dr hdT d4106
  have hP : va_P D vwCl [(dr, .inl (cs 0, 1383, .inl f4105))] _ := va_P.cons d4106 va_P.nil
  have hps : PS D cs w _ (p4099) (tl) (er4100) (0) dr bu g (N4098) ((h + 1)) := ⟨hm, f4105, hP 0 _ rfl, e4107, by omega, v4109⟩
  refine lp_m (α := Nat × Nat × Int32) (nL := 2) (fun a9 => 600 - a9.1) (fun a9 H9 l9 => (PS D cs w H9 a9.1 tl a9.2.2 0 dr bu g a9.2.1 (h + 1)) ∧ (a9.2.1 + 2 * pos ≤ N + 2 * a9.1) ∧ (pos ≤ a9.1) ∧ (a9.2.2 = 0 → er = 0) ∧ (WT B0 D cs T κ H9) ∧ (Fr B0 [12, 17] κ H0 H9) ∧ (OkL B0 l9)) (fun a9 => [(0, .ref w)]) ?_ (p4099, N4098, er4100) _ _ _ ⟨hps, (by show (N4098) + 2 * pos ≤ N + 2 * (p4099); omega), (by show pos ≤ (p4099); omega), (fun e9 => id (z4103 e9)), hT, hF, hL⟩ (lv_sub hl [0] rfl)
  rintro ⟨p, N1, er1⟩ H locs ls ih4111 ⟨hps, hb1, hb2, hz1, hT, hF, hL⟩ hl
  have hl : lv_has ls 2 [(0, .ref w)] := hl
  have hps : PS D cs w H p tl er1 0 dr bu g N1 (h + 1) := hps
  have hb1 : N1 + 2 * pos ≤ N + 2 * p := hb1
  have hb2 : pos ≤ p := hb2
  have hz1 : er1 = 0 → er = 0 := hz1
  obtain ⟨hm, f4112, hd4112, e4112, n4112, v4112⟩ := hps
  have hm8 := hm.2.2.2.2.2.2.2
  have hbd : B0 ≤ dr := (hT.o26 hdT.1).1
  have hDR := hT.dr hdT hd4112
  have hP : va_P D vwCl [(dr, .inl (cs 0, 1383, .inl f4112))] _ := va_P.cons hd4112 va_P.nil
  refine lv_aload_n hx hb dX9_term_4 rfl (lv_at hl 0 rfl) ?_
  refine cv_i (As := []) (rest := []) (b := w) ⟨hx, hb, hml, hown, hts⟩ (c_X9_isGood hT (w := w) hw hbT hdT hm) (cwV 0 hts gX9_term_X9_isGood rfl rfl rfl hdX9_isGood_v ⟨Nat.le_of_ble_eq_true rfl, Nat.le_of_ble_eq_true rfl⟩) hN hE hL (rcv10 hN hT hw.1) rfl rfl hl.1 (Nat.le_of_ble_eq_true rfl) dX9_term_5 (Nat.zero_le _) (Nat.zero_le _) (fun r4114 H1 locs hL hqr4114 => ?_)
  obtain ⟨h9, hqr4114⟩ := hqr4114; replace h9 := h9.symm; subst h9
  rcases hqr4114 with ⟨rfl, e4115⟩ | ⟨rfl, e4116⟩
  · refine lv_if_eq (tgt := 74) hx hb dX9_term_8 (by decide) (fun c9 => absurd c9 (by decide)) (fun _ => ?_)
    refine lv_aload_n hx hb dX9_term_11 rfl (lv_at hl 0 rfl) ?_
    refine cv_i (As := []) (rest := []) (b := w) ⟨hx, hb, hml, hown, hts⟩ (c_X9_ahead hT (w := w) hw hbT hdT hm) (cwV 0 hts gX9_term_X9_ahead rfl rfl rfl hdX9_ahead_v ⟨Nat.le_of_ble_eq_true rfl, Nat.le_of_ble_eq_true rfl⟩) hN hE hL (rcv10 hN hT hw.1) rfl rfl hl.1 (Nat.le_of_ble_eq_true rfl) dX9_term_12 (Nat.zero_le _) (Nat.zero_le _) (fun r4117 H1 locs hL hqr4117 => ?_)
    obtain ⟨hT1, hF1, hqr4117⟩ := hqr4117
    have hP : va_P D vwCl [(dr, .inl (cs 0, 1383, .inl f4112))] _ := hF1.hP (hP.sub [0] rfl) (fa_c ⟨by rw [hdT.1]; decide, by rw [hdT.2]; first | decide | (simp; done) | (simp [h15a, h15b, h15c]; done) | (simp; omega)⟩ fa_n)
    have hF := hF.tr (hF1.mono (by simp))
    have hT := hT1
    obtain ⟨p4118, h4119, m4120, n4121, s4122, rfl⟩ := hqr4117
    have hm := m4120
    have hm8 := hm.2.2.2.2.2.2.2
    refine lv_bipush (v := 42) hx hb dX9_term_15 (by decide) ?_
    refine lv_icmp_eq (tgt := 29) hx hb dX9_term_17 (by decide) (fun c4123 => ?_) (fun c4123 => ?_)
    · have hl9 := byF_c (c4123) (by decide)
      refine lv_aload_n hx hb dX9_term_29 rfl (lv_at hl 0 rfl) ?_
      refine cv_i (As := []) (rest := []) (b := w) ⟨hx, hb, hml, hown, hts⟩ (c_X9_ahead hT (w := w) hw hbT hdT hm) (cwV 0 hts gX9_term_X9_ahead rfl rfl rfl hdX9_ahead_v ⟨Nat.le_of_ble_eq_true rfl, Nat.le_of_ble_eq_true rfl⟩) hN hE hL (rcv10 hN hT hw.1) rfl rfl hl.1 (Nat.le_of_ble_eq_true rfl) dX9_term_30 (Nat.zero_le _) (Nat.zero_le _) (fun r4124 H1 locs hL hqr4124 => ?_)
      obtain ⟨hT1, hF1, hqr4124⟩ := hqr4124
      have hP : va_P D vwCl [(dr, .inl (cs 0, 1383, .inl f4112))] _ := hF1.hP (hP.sub [0] rfl) (fa_c ⟨by rw [hdT.1]; decide, by rw [hdT.2]; first | decide | (simp; done) | (simp [h15a, h15b, h15c]; done) | (simp; omega)⟩ fa_n)
      have hF := hF.tr (hF1.mono (by simp))
      have hT := hT1
      obtain ⟨p4125, h4126, m4127, n4128, s4129, rfl⟩ := hqr4124
      have hm := m4127
      have hpe := s4129 n4121
      rw [hpe] at hm
      refine tp_i (byF g tl p4118) (by rw [hpe]) ?_
      have hm8 := hm.2.2.2.2.2.2.2
      refine lv_bipush (v := 42) hx hb dX9_term_33 (by decide) ?_
      refine lv_icmp_ne (tgt := 42) hx hb dX9_term_35 (by decide) (fun c4130 => ?_) (fun c4130 => ?_)
      · refine lv_iconst (v := 0) hx hb dX9_term_42 (by decide) ?_
        refine lv_istore_n (lv' := [(1, .int 0), (0, .ref w)]) hx hb dX9_term_43 rfl hl (by decide) rfl (fun ls hl => ?_)
        refine lv_aload_n hx hb dX9_term_44 rfl (lv_at hl 1 rfl) ?_
        refine lv_dup hx hb dX9_term_45 rfl ?_
        obtain ⟨hb4131, e4131, hat4131, hk4131⟩ := hT.o10 hw.1
        obtain ⟨f4131_0, f4131_1, f4131_3, f4131_4, f4131_5, f4131_6, f4131_7, f4131_9, f4131_10, f4131_11, f4131_12, f4131_13, f4131_14, f4131_15, f4131_16, f4131_17, rfl, c4131_2, c4131_3, c4131_4, c4131_12, t4131_1, t4131_8, t4131_9, c4131_sd, t4131_10, t4131_11, t4131_17⟩ := hk4131
        obtain ⟨rfl, rfl, rfl, rfl, rfl, rfl⟩ := hm.at hat4131 c4131_3 (by omega)
        have hm8 := hm.2.2.2.2.2.2.2
        have hP : va_P D vwCl [(w, .inr (9, [.int f4131_0, .ref bu, .int (nI ((κ w).2.2.1)), .int (nI tl), .int (nI p4118), .int er1, .int f4131_6, .int f4131_7, .ref (κ w).2.2.2, .ref f4131_9, .ref dr, .ref f4131_11, .int (nI f4131_12), .int f4131_13, .int 0, .int f4131_15, .int f4131_16, .ref f4131_17])), (dr, .inl (cs 0, 1383, .inl f4112))] _ := va_P.cons hat4131 hP
        refine va_get (D := D) (ci := 9) (v := .int (nI p4118)) (C := RX9) (T := TX9) (N := 18) hx hb hts iX9_term_9 hown hN.1 hP 0 rfl rfl 4 (by decide) (hts _ mX9_term_1) (fun _ h9 => h9) rfl dX9_term_46 ?_
        refine lv_iconst (v := 1) hx hb dX9_term_49 (by decide) ?_
        refine lv_iadd hx hb dX9_term_50 ?_
        refine tp_i (nI (p4118 + 1)) (nI_add p4118 1) ?_
        have hB : Bx B0 D _ [(w, .inr (9, [.int f4131_0, .ref bu, .int (nI ((κ w).2.2.1)), .int (nI tl), .int (nI p4118), .int er1, .int f4131_6, .int f4131_7, .ref (κ w).2.2.2, .ref f4131_9, .ref dr, .ref f4131_11, .int (nI f4131_12), .int f4131_13, .int 0, .int f4131_15, .int f4131_16, .ref f4131_17])), (dr, .inl (cs 0, 1383, .inl f4112))] [] _ _ := Bx.of (fun a => (κ a).1) hL hP (fa_c hb4131 (fa_c hbd fa_n)) (by simp only [List.map_cons, List.map_nil, hw.1, hdT.1]; decide)
        refine b_put (D := D) (ci := 9) (v := .int (nI (p4118 + 1))) (ty := .int) (C := RX9) (T := TX9) (N := 18) hx hb hts iX9_term_9 tyX9 tyX9_ok nmX9 hown hN hB 0 rfl rfl 4 (by decide) (hts _ mX9_term_1) (fun _ h9 => h9) rfl (by decide +kernel) rfl rfl (Nat.le_of_ble_eq_true rfl) (.inl rfl) dX9_term_51 (fun H locs hB => ?_)
        have hB : Bx B0 D _ [(w, .inr (9, [.int f4131_0, .ref bu, .int (nI ((κ w).2.2.1)), .int (nI tl), .int (nI (p4118 + 1)), .int er1, .int f4131_6, .int f4131_7, .ref (κ w).2.2.2, .ref f4131_9, .ref dr, .ref f4131_11, .int (nI f4131_12), .int f4131_13, .int 0, .int f4131_15, .int f4131_16, .ref f4131_17])), (dr, .inl (cs 0, 1383, .inl f4112))] [w] _ _ := hB
        refine lv_aload_n hx hb dX9_term_54 rfl (lv_at hl 1 rfl) ?_
        have hT : WT B0 D cs T κ _ := hT.close hB ⟨⟨0, _, rfl, ok_10 hw.1 ⟨_, _, _, _, _, _, _, _, _, _, _, _, _, _, _, _, rfl, (by omega), (by omega), (by omega), (by omega), hbT, t4131_8, t4131_9, c4131_sd, hdT, t4131_11, t4131_17⟩⟩, trivial⟩
        have hF : Fr B0 [12, 17] κ H0 _ := hF.close hB (fa_c (by simp [hw.2]) fa_n)
        have hL : OkL B0 _ := hB.2.2.2.2.2
        have hP : va_P D vwCl [(w, .inr (9, [.int f4131_0, .ref bu, .int (nI ((κ w).2.2.1)), .int (nI tl), .int (nI (p4118 + 1)), .int er1, .int f4131_6, .int f4131_7, .ref (κ w).2.2.2, .ref f4131_9, .ref dr, .ref f4131_11, .int (nI f4131_12), .int f4131_13, .int 0, .int f4131_15, .int f4131_16, .ref f4131_17])), (dr, .inl (cs 0, 1383, .inl f4112))] _ := hB.1
        have hbu9 := (hm.2.2.2.2.2.2.1).kept (hB.2.2.2.1 _ hm.2.2.2.2.2.2.1.lt (by simp only [List.mem_cons, List.not_mem_nil, or_false, not_or]; exact ne_c hbT.1 hw.1 (by decide)))
        have hm : MF D cs w _ ((p4118 + 1)) (tl) (er1) (0) dr bu g := ⟨⟨_, hP 0 _ rfl, rfl⟩, ⟨_, hP 0 _ rfl, rfl⟩, ⟨_, hP 0 _ rfl, rfl⟩, ⟨_, hP 0 _ rfl, rfl⟩, ⟨_, hP 0 _ rfl, rfl⟩, ⟨_, hP 0 _ rfl, rfl⟩, hbu9, (by omega), (by omega)⟩
        have hps : PS D cs w _ ((p4118 + 1)) (tl) (er1) (0) dr bu g (N1) ((h + 1)) := ⟨hm, f4112, hP 1 _ rfl, e4112, by omega, v4112⟩
        refine cv_v (As := []) (rest := []) (b := w) ⟨hx, hb, hml, hown, hts⟩ (c_X9_factor_d0 hT (w := w) hw hbT hdT hps) (cwV 0 hts gX9_term_X9_factor rfl rfl rfl hdX9_factor_v ⟨Nat.le_of_ble_eq_true rfl, Nat.le_of_ble_eq_true rfl⟩) hN hE hL (rcv10 hN hT hw.1) rfl rfl hl.1 (Nat.le_of_ble_eq_true rfl) dX9_term_55 (Nat.zero_le _) (Nat.zero_le _) (fun H1 locs hL hqr4132 => ?_)
        obtain ⟨hT1, hF1, hqr4132⟩ := hqr4132
        have hF := hF.tr (hF1.mono (by simp))
        have hT := hT1
        obtain ⟨N4133, p4134, er4135, a4136, b4137, z4138, m4139, f4140, d4141, e4142, n4143, v4144⟩ := hqr4132
        have hm := m4139
        have hm8 := hm.2.2.2.2.2.2.2
        have hbd : B0 ≤ dr := (hT.o26 hdT.1).1
        have hDR := hT.dr hdT d4141
        have hP : va_P D vwCl [(dr, .inl (cs 0, 1383, .inl f4140))] _ := va_P.cons d4141 va_P.nil
        refine lv_aload_n hx hb dX9_term_58 rfl (lv_at hl 1 rfl) ?_
        refine lv_iload_n hx hb dX9_term_59 rfl (lv_at hl 0 rfl) ?_
        refine lv_if_eq (tgt := 67) hx hb dX9_term_60 (by decide) (fun _ => ?_) (fun c9 => absurd (by decide) c9)
        refine lv_iconst (v := 5) hx hb dX9_term_67 (by decide) ?_
        refine cv_v (As := [.int 5]) (rest := []) (b := w) ⟨hx, hb, hml, hown, hts⟩ (c_X9_emit hT (w := w) hw (x := 5) hbT hdT hm (hP 0 _ rfl) e4142 (fun _ => by omega)) (cwV 1 hts gX9_term_X9_emit rfl rfl rfl hdX9_emit_v ⟨Nat.le_of_ble_eq_true rfl, Nat.le_of_ble_eq_true rfl⟩) hN hE hL (rcv10 hN hT hw.1) rfl rfl hl.1 (Nat.le_of_ble_eq_true rfl) dX9_term_68 (Nat.zero_le _) (Nat.zero_le _) (fun H1 locs hL hqr4146 => ?_)
        obtain ⟨hT1, hF1, hqr4146⟩ := hqr4146
        have hF := hF.tr (hF1.mono (by simp))
        have hT := hT1
        obtain ⟨f4147, N4148, d4149, e4150, x4151, m4152⟩ := hqr4146
        have hm := m4152
        have hm8 := hm.2.2.2.2.2.2.2
        have nx4151 := x4151.n
        have ox4151 := nx4151.1
        have hbd : B0 ≤ dr := (hT.o26 hdT.1).1
        have hDR := hT.dr hdT d4149
        have hP : va_P D vwCl [(dr, .inl (cs 0, 1383, .inl f4147))] _ := va_P.cons d4149 va_P.nil
        refine lv_goto (tgt := 4) hx hb dX9_term_71 (by decide) ?_
        have hps : PS D cs w _ (p4134) (tl) (er4135) (0) dr bu g (N4148) ((h + 1)) := ⟨hm, f4147, hP 0 _ rfl, e4150, by omega, (EM.op x4151 (by decide) v4144)⟩
        exact ih4111 (p4134, N4148, er4135) _ _ _ (by show 600 - (p4134) < 600 - p; omega) ⟨hps, (by show (N4148) + 2 * pos ≤ N + 2 * (p4134); omega), (by show pos ≤ (p4134); omega), (fun e9 => hz1 (z4138 e9)), hT, hF, hL⟩ (lv_sub hl [1] rfl)
      · refine lv_iconst (v := 1) hx hb dX9_term_38 (by decide) ?_
        refine lv_goto (tgt := 43) hx hb dX9_term_39 (by decide) ?_
        refine lv_istore_n (lv' := [(1, .int 1), (0, .ref w)]) hx hb dX9_term_43 rfl hl (by decide) rfl (fun ls hl => ?_)
        refine lv_aload_n hx hb dX9_term_44 rfl (lv_at hl 1 rfl) ?_
        refine lv_dup hx hb dX9_term_45 rfl ?_
        obtain ⟨hb4154, e4154, hat4154, hk4154⟩ := hT.o10 hw.1
        obtain ⟨f4154_0, f4154_1, f4154_3, f4154_4, f4154_5, f4154_6, f4154_7, f4154_9, f4154_10, f4154_11, f4154_12, f4154_13, f4154_14, f4154_15, f4154_16, f4154_17, rfl, c4154_2, c4154_3, c4154_4, c4154_12, t4154_1, t4154_8, t4154_9, c4154_sd, t4154_10, t4154_11, t4154_17⟩ := hk4154
        obtain ⟨rfl, rfl, rfl, rfl, rfl, rfl⟩ := hm.at hat4154 c4154_3 (by omega)
        have hm8 := hm.2.2.2.2.2.2.2
        have hP : va_P D vwCl [(w, .inr (9, [.int f4154_0, .ref bu, .int (nI ((κ w).2.2.1)), .int (nI tl), .int (nI p4118), .int er1, .int f4154_6, .int f4154_7, .ref (κ w).2.2.2, .ref f4154_9, .ref dr, .ref f4154_11, .int (nI f4154_12), .int f4154_13, .int 0, .int f4154_15, .int f4154_16, .ref f4154_17])), (dr, .inl (cs 0, 1383, .inl f4112))] _ := va_P.cons hat4154 hP
        refine va_get (D := D) (ci := 9) (v := .int (nI p4118)) (C := RX9) (T := TX9) (N := 18) hx hb hts iX9_term_9 hown hN.1 hP 0 rfl rfl 4 (by decide) (hts _ mX9_term_1) (fun _ h9 => h9) rfl dX9_term_46 ?_
        refine lv_iconst (v := 1) hx hb dX9_term_49 (by decide) ?_
        refine lv_iadd hx hb dX9_term_50 ?_
        refine tp_i (nI (p4118 + 1)) (nI_add p4118 1) ?_
        have hB : Bx B0 D _ [(w, .inr (9, [.int f4154_0, .ref bu, .int (nI ((κ w).2.2.1)), .int (nI tl), .int (nI p4118), .int er1, .int f4154_6, .int f4154_7, .ref (κ w).2.2.2, .ref f4154_9, .ref dr, .ref f4154_11, .int (nI f4154_12), .int f4154_13, .int 0, .int f4154_15, .int f4154_16, .ref f4154_17])), (dr, .inl (cs 0, 1383, .inl f4112))] [] _ _ := Bx.of (fun a => (κ a).1) hL hP (fa_c hb4154 (fa_c hbd fa_n)) (by simp only [List.map_cons, List.map_nil, hw.1, hdT.1]; decide)
        refine b_put (D := D) (ci := 9) (v := .int (nI (p4118 + 1))) (ty := .int) (C := RX9) (T := TX9) (N := 18) hx hb hts iX9_term_9 tyX9 tyX9_ok nmX9 hown hN hB 0 rfl rfl 4 (by decide) (hts _ mX9_term_1) (fun _ h9 => h9) rfl (by decide +kernel) rfl rfl (Nat.le_of_ble_eq_true rfl) (.inl rfl) dX9_term_51 (fun H locs hB => ?_)
        have hB : Bx B0 D _ [(w, .inr (9, [.int f4154_0, .ref bu, .int (nI ((κ w).2.2.1)), .int (nI tl), .int (nI (p4118 + 1)), .int er1, .int f4154_6, .int f4154_7, .ref (κ w).2.2.2, .ref f4154_9, .ref dr, .ref f4154_11, .int (nI f4154_12), .int f4154_13, .int 0, .int f4154_15, .int f4154_16, .ref f4154_17])), (dr, .inl (cs 0, 1383, .inl f4112))] [w] _ _ := hB
        refine lv_aload_n hx hb dX9_term_54 rfl (lv_at hl 1 rfl) ?_
        have hT : WT B0 D cs T κ _ := hT.close hB ⟨⟨0, _, rfl, ok_10 hw.1 ⟨_, _, _, _, _, _, _, _, _, _, _, _, _, _, _, _, rfl, (by omega), (by omega), (by omega), (by omega), hbT, t4154_8, t4154_9, c4154_sd, hdT, t4154_11, t4154_17⟩⟩, trivial⟩
        have hF : Fr B0 [12, 17] κ H0 _ := hF.close hB (fa_c (by simp [hw.2]) fa_n)
        have hL : OkL B0 _ := hB.2.2.2.2.2
        have hP : va_P D vwCl [(w, .inr (9, [.int f4154_0, .ref bu, .int (nI ((κ w).2.2.1)), .int (nI tl), .int (nI (p4118 + 1)), .int er1, .int f4154_6, .int f4154_7, .ref (κ w).2.2.2, .ref f4154_9, .ref dr, .ref f4154_11, .int (nI f4154_12), .int f4154_13, .int 0, .int f4154_15, .int f4154_16, .ref f4154_17])), (dr, .inl (cs 0, 1383, .inl f4112))] _ := hB.1
        have hbu9 := (hm.2.2.2.2.2.2.1).kept (hB.2.2.2.1 _ hm.2.2.2.2.2.2.1.lt (by simp only [List.mem_cons, List.not_mem_nil, or_false, not_or]; exact ne_c hbT.1 hw.1 (by decide)))
        have hm : MF D cs w _ ((p4118 + 1)) (tl) (er1) (0) dr bu g := ⟨⟨_, hP 0 _ rfl, rfl⟩, ⟨_, hP 0 _ rfl, rfl⟩, ⟨_, hP 0 _ rfl, rfl⟩, ⟨_, hP 0 _ rfl, rfl⟩, ⟨_, hP 0 _ rfl, rfl⟩, ⟨_, hP 0 _ rfl, rfl⟩, hbu9, (by omega), (by omega)⟩
        have hps : PS D cs w _ ((p4118 + 1)) (tl) (er1) (0) dr bu g (N1) ((h + 1)) := ⟨hm, f4112, hP 1 _ rfl, e4112, by omega, v4112⟩
        refine cv_v (As := []) (rest := []) (b := w) ⟨hx, hb, hml, hown, hts⟩ (c_X9_factor_d0 hT (w := w) hw hbT hdT hps) (cwV 0 hts gX9_term_X9_factor rfl rfl rfl hdX9_factor_v ⟨Nat.le_of_ble_eq_true rfl, Nat.le_of_ble_eq_true rfl⟩) hN hE hL (rcv10 hN hT hw.1) rfl rfl hl.1 (Nat.le_of_ble_eq_true rfl) dX9_term_55 (Nat.zero_le _) (Nat.zero_le _) (fun H1 locs hL hqr4155 => ?_)
        obtain ⟨hT1, hF1, hqr4155⟩ := hqr4155
        have hF := hF.tr (hF1.mono (by simp))
        have hT := hT1
        obtain ⟨N4156, p4157, er4158, a4159, b4160, z4161, m4162, f4163, d4164, e4165, n4166, v4167⟩ := hqr4155
        have hm := m4162
        have hm8 := hm.2.2.2.2.2.2.2
        have hbd : B0 ≤ dr := (hT.o26 hdT.1).1
        have hDR := hT.dr hdT d4164
        have hP : va_P D vwCl [(dr, .inl (cs 0, 1383, .inl f4163))] _ := va_P.cons d4164 va_P.nil
        refine lv_aload_n hx hb dX9_term_58 rfl (lv_at hl 1 rfl) ?_
        refine lv_iload_n hx hb dX9_term_59 rfl (lv_at hl 0 rfl) ?_
        refine lv_if_eq (tgt := 67) hx hb dX9_term_60 (by decide) (fun c9 => absurd c9 (by decide)) (fun _ => ?_)
        refine lv_iconst (v := 4) hx hb dX9_term_63 (by decide) ?_
        refine lv_goto (tgt := 68) hx hb dX9_term_64 (by decide) ?_
        refine cv_v (As := [.int 4]) (rest := []) (b := w) ⟨hx, hb, hml, hown, hts⟩ (c_X9_emit hT (w := w) hw (x := 4) hbT hdT hm (hP 0 _ rfl) e4165 (fun _ => by omega)) (cwV 1 hts gX9_term_X9_emit rfl rfl rfl hdX9_emit_v ⟨Nat.le_of_ble_eq_true rfl, Nat.le_of_ble_eq_true rfl⟩) hN hE hL (rcv10 hN hT hw.1) rfl rfl hl.1 (Nat.le_of_ble_eq_true rfl) dX9_term_68 (Nat.zero_le _) (Nat.zero_le _) (fun H1 locs hL hqr4169 => ?_)
        obtain ⟨hT1, hF1, hqr4169⟩ := hqr4169
        have hF := hF.tr (hF1.mono (by simp))
        have hT := hT1
        obtain ⟨f4170, N4171, d4172, e4173, x4174, m4175⟩ := hqr4169
        have hm := m4175
        have hm8 := hm.2.2.2.2.2.2.2
        have nx4174 := x4174.n
        have ox4174 := nx4174.1
        have hbd : B0 ≤ dr := (hT.o26 hdT.1).1
        have hDR := hT.dr hdT d4172
        have hP : va_P D vwCl [(dr, .inl (cs 0, 1383, .inl f4170))] _ := va_P.cons d4172 va_P.nil
        refine lv_goto (tgt := 4) hx hb dX9_term_71 (by decide) ?_
        have hps : PS D cs w _ (p4157) (tl) (er4158) (0) dr bu g (N4171) ((h + 1)) := ⟨hm, f4170, hP 0 _ rfl, e4173, by omega, (EM.op x4174 (by decide) v4167)⟩
        exact ih4111 (p4157, N4171, er4158) _ _ _ (by show 600 - (p4157) < 600 - p; omega) ⟨hps, (by show (N4171) + 2 * pos ≤ N + 2 * (p4157); omega), (by show pos ≤ (p4157); omega), (fun e9 => hz1 (z4161 e9)), hT, hF, hL⟩ (lv_sub hl [1] rfl)
    · refine lv_aload_n hx hb dX9_term_20 rfl (lv_at hl 0 rfl) ?_
      refine cv_i (As := []) (rest := []) (b := w) ⟨hx, hb, hml, hown, hts⟩ (c_X9_ahead hT (w := w) hw hbT hdT hm) (cwV 0 hts gX9_term_X9_ahead rfl rfl rfl hdX9_ahead_v ⟨Nat.le_of_ble_eq_true rfl, Nat.le_of_ble_eq_true rfl⟩) hN hE hL (rcv10 hN hT hw.1) rfl rfl hl.1 (Nat.le_of_ble_eq_true rfl) dX9_term_21 (Nat.zero_le _) (Nat.zero_le _) (fun r4177 H1 locs hL hqr4177 => ?_)
      obtain ⟨hT1, hF1, hqr4177⟩ := hqr4177
      have hP : va_P D vwCl [(dr, .inl (cs 0, 1383, .inl f4112))] _ := hF1.hP (hP.sub [0] rfl) (fa_c ⟨by rw [hdT.1]; decide, by rw [hdT.2]; first | decide | (simp; done) | (simp [h15a, h15b, h15c]; done) | (simp; omega)⟩ fa_n)
      have hF := hF.tr (hF1.mono (by simp))
      have hT := hT1
      obtain ⟨p4178, h4179, m4180, n4181, s4182, rfl⟩ := hqr4177
      have hm := m4180
      have hpe := s4182 n4121
      rw [hpe] at hm
      refine tp_i (byF g tl p4118) (by rw [hpe]) ?_
      have hm8 := hm.2.2.2.2.2.2.2
      refine lv_bipush (v := 47) hx hb dX9_term_24 (by decide) ?_
      refine lv_icmp_ne (tgt := 74) hx hb dX9_term_26 (by decide) (fun c4183 => ?_) (fun c4183 => ?_)
      · have hps : PS D cs w _ (p4118) (tl) (er1) (0) dr bu g (N1) ((h + 1)) := ⟨hm, f4112, hP 0 _ rfl, e4112, by omega, v4112⟩
        exact en_v hx hb hr hlocks hL (Nat.zero_le _) (Nat.zero_le _) dX9_term_74 (⟨hT, hF, N1, p4118, er1, (by omega), (by omega), hz1, hps⟩)
      · have hl9 := byF_c (c4183) (by decide)
        refine lv_aload_n hx hb dX9_term_29 rfl (lv_at hl 0 rfl) ?_
        refine cv_i (As := []) (rest := []) (b := w) ⟨hx, hb, hml, hown, hts⟩ (c_X9_ahead hT (w := w) hw hbT hdT hm) (cwV 0 hts gX9_term_X9_ahead rfl rfl rfl hdX9_ahead_v ⟨Nat.le_of_ble_eq_true rfl, Nat.le_of_ble_eq_true rfl⟩) hN hE hL (rcv10 hN hT hw.1) rfl rfl hl.1 (Nat.le_of_ble_eq_true rfl) dX9_term_30 (Nat.zero_le _) (Nat.zero_le _) (fun r4184 H1 locs hL hqr4184 => ?_)
        obtain ⟨hT1, hF1, hqr4184⟩ := hqr4184
        have hP : va_P D vwCl [(dr, .inl (cs 0, 1383, .inl f4112))] _ := hF1.hP (hP.sub [0] rfl) (fa_c ⟨by rw [hdT.1]; decide, by rw [hdT.2]; first | decide | (simp; done) | (simp [h15a, h15b, h15c]; done) | (simp; omega)⟩ fa_n)
        have hF := hF.tr (hF1.mono (by simp))
        have hT := hT1
        obtain ⟨p4185, h4186, m4187, n4188, s4189, rfl⟩ := hqr4184
        have hm := m4187
        have hpe := s4189 n4121
        rw [hpe] at hm
        refine tp_i (byF g tl p4118) (by rw [hpe]) ?_
        have hm8 := hm.2.2.2.2.2.2.2
        refine lv_bipush (v := 42) hx hb dX9_term_33 (by decide) ?_
        refine lv_icmp_ne (tgt := 42) hx hb dX9_term_35 (by decide) (fun c4190 => ?_) (fun c4190 => ?_)
        · refine lv_iconst (v := 0) hx hb dX9_term_42 (by decide) ?_
          refine lv_istore_n (lv' := [(1, .int 0), (0, .ref w)]) hx hb dX9_term_43 rfl hl (by decide) rfl (fun ls hl => ?_)
          refine lv_aload_n hx hb dX9_term_44 rfl (lv_at hl 1 rfl) ?_
          refine lv_dup hx hb dX9_term_45 rfl ?_
          obtain ⟨hb4191, e4191, hat4191, hk4191⟩ := hT.o10 hw.1
          obtain ⟨f4191_0, f4191_1, f4191_3, f4191_4, f4191_5, f4191_6, f4191_7, f4191_9, f4191_10, f4191_11, f4191_12, f4191_13, f4191_14, f4191_15, f4191_16, f4191_17, rfl, c4191_2, c4191_3, c4191_4, c4191_12, t4191_1, t4191_8, t4191_9, c4191_sd, t4191_10, t4191_11, t4191_17⟩ := hk4191
          obtain ⟨rfl, rfl, rfl, rfl, rfl, rfl⟩ := hm.at hat4191 c4191_3 (by omega)
          have hm8 := hm.2.2.2.2.2.2.2
          have hP : va_P D vwCl [(w, .inr (9, [.int f4191_0, .ref bu, .int (nI ((κ w).2.2.1)), .int (nI tl), .int (nI p4118), .int er1, .int f4191_6, .int f4191_7, .ref (κ w).2.2.2, .ref f4191_9, .ref dr, .ref f4191_11, .int (nI f4191_12), .int f4191_13, .int 0, .int f4191_15, .int f4191_16, .ref f4191_17])), (dr, .inl (cs 0, 1383, .inl f4112))] _ := va_P.cons hat4191 hP
          refine va_get (D := D) (ci := 9) (v := .int (nI p4118)) (C := RX9) (T := TX9) (N := 18) hx hb hts iX9_term_9 hown hN.1 hP 0 rfl rfl 4 (by decide) (hts _ mX9_term_1) (fun _ h9 => h9) rfl dX9_term_46 ?_
          refine lv_iconst (v := 1) hx hb dX9_term_49 (by decide) ?_
          refine lv_iadd hx hb dX9_term_50 ?_
          refine tp_i (nI (p4118 + 1)) (nI_add p4118 1) ?_
          have hB : Bx B0 D _ [(w, .inr (9, [.int f4191_0, .ref bu, .int (nI ((κ w).2.2.1)), .int (nI tl), .int (nI p4118), .int er1, .int f4191_6, .int f4191_7, .ref (κ w).2.2.2, .ref f4191_9, .ref dr, .ref f4191_11, .int (nI f4191_12), .int f4191_13, .int 0, .int f4191_15, .int f4191_16, .ref f4191_17])), (dr, .inl (cs 0, 1383, .inl f4112))] [] _ _ := Bx.of (fun a => (κ a).1) hL hP (fa_c hb4191 (fa_c hbd fa_n)) (by simp only [List.map_cons, List.map_nil, hw.1, hdT.1]; decide)
          refine b_put (D := D) (ci := 9) (v := .int (nI (p4118 + 1))) (ty := .int) (C := RX9) (T := TX9) (N := 18) hx hb hts iX9_term_9 tyX9 tyX9_ok nmX9 hown hN hB 0 rfl rfl 4 (by decide) (hts _ mX9_term_1) (fun _ h9 => h9) rfl (by decide +kernel) rfl rfl (Nat.le_of_ble_eq_true rfl) (.inl rfl) dX9_term_51 (fun H locs hB => ?_)
          have hB : Bx B0 D _ [(w, .inr (9, [.int f4191_0, .ref bu, .int (nI ((κ w).2.2.1)), .int (nI tl), .int (nI (p4118 + 1)), .int er1, .int f4191_6, .int f4191_7, .ref (κ w).2.2.2, .ref f4191_9, .ref dr, .ref f4191_11, .int (nI f4191_12), .int f4191_13, .int 0, .int f4191_15, .int f4191_16, .ref f4191_17])), (dr, .inl (cs 0, 1383, .inl f4112))] [w] _ _ := hB
          refine lv_aload_n hx hb dX9_term_54 rfl (lv_at hl 1 rfl) ?_
          have hT : WT B0 D cs T κ _ := hT.close hB ⟨⟨0, _, rfl, ok_10 hw.1 ⟨_, _, _, _, _, _, _, _, _, _, _, _, _, _, _, _, rfl, (by omega), (by omega), (by omega), (by omega), hbT, t4191_8, t4191_9, c4191_sd, hdT, t4191_11, t4191_17⟩⟩, trivial⟩
          have hF : Fr B0 [12, 17] κ H0 _ := hF.close hB (fa_c (by simp [hw.2]) fa_n)
          have hL : OkL B0 _ := hB.2.2.2.2.2
          have hP : va_P D vwCl [(w, .inr (9, [.int f4191_0, .ref bu, .int (nI ((κ w).2.2.1)), .int (nI tl), .int (nI (p4118 + 1)), .int er1, .int f4191_6, .int f4191_7, .ref (κ w).2.2.2, .ref f4191_9, .ref dr, .ref f4191_11, .int (nI f4191_12), .int f4191_13, .int 0, .int f4191_15, .int f4191_16, .ref f4191_17])), (dr, .inl (cs 0, 1383, .inl f4112))] _ := hB.1
          have hbu9 := (hm.2.2.2.2.2.2.1).kept (hB.2.2.2.1 _ hm.2.2.2.2.2.2.1.lt (by simp only [List.mem_cons, List.not_mem_nil, or_false, not_or]; exact ne_c hbT.1 hw.1 (by decide)))
          have hm : MF D cs w _ ((p4118 + 1)) (tl) (er1) (0) dr bu g := ⟨⟨_, hP 0 _ rfl, rfl⟩, ⟨_, hP 0 _ rfl, rfl⟩, ⟨_, hP 0 _ rfl, rfl⟩, ⟨_, hP 0 _ rfl, rfl⟩, ⟨_, hP 0 _ rfl, rfl⟩, ⟨_, hP 0 _ rfl, rfl⟩, hbu9, (by omega), (by omega)⟩
          have hps : PS D cs w _ ((p4118 + 1)) (tl) (er1) (0) dr bu g (N1) ((h + 1)) := ⟨hm, f4112, hP 1 _ rfl, e4112, by omega, v4112⟩
          refine cv_v (As := []) (rest := []) (b := w) ⟨hx, hb, hml, hown, hts⟩ (c_X9_factor_d0 hT (w := w) hw hbT hdT hps) (cwV 0 hts gX9_term_X9_factor rfl rfl rfl hdX9_factor_v ⟨Nat.le_of_ble_eq_true rfl, Nat.le_of_ble_eq_true rfl⟩) hN hE hL (rcv10 hN hT hw.1) rfl rfl hl.1 (Nat.le_of_ble_eq_true rfl) dX9_term_55 (Nat.zero_le _) (Nat.zero_le _) (fun H1 locs hL hqr4192 => ?_)
          obtain ⟨hT1, hF1, hqr4192⟩ := hqr4192
          have hF := hF.tr (hF1.mono (by simp))
          have hT := hT1
          obtain ⟨N4193, p4194, er4195, a4196, b4197, z4198, m4199, f4200, d4201, e4202, n4203, v4204⟩ := hqr4192
          have hm := m4199
          have hm8 := hm.2.2.2.2.2.2.2
          have hbd : B0 ≤ dr := (hT.o26 hdT.1).1
          have hDR := hT.dr hdT d4201
          have hP : va_P D vwCl [(dr, .inl (cs 0, 1383, .inl f4200))] _ := va_P.cons d4201 va_P.nil
          refine lv_aload_n hx hb dX9_term_58 rfl (lv_at hl 1 rfl) ?_
          refine lv_iload_n hx hb dX9_term_59 rfl (lv_at hl 0 rfl) ?_
          refine lv_if_eq (tgt := 67) hx hb dX9_term_60 (by decide) (fun _ => ?_) (fun c9 => absurd (by decide) c9)
          refine lv_iconst (v := 5) hx hb dX9_term_67 (by decide) ?_
          refine cv_v (As := [.int 5]) (rest := []) (b := w) ⟨hx, hb, hml, hown, hts⟩ (c_X9_emit hT (w := w) hw (x := 5) hbT hdT hm (hP 0 _ rfl) e4202 (fun _ => by omega)) (cwV 1 hts gX9_term_X9_emit rfl rfl rfl hdX9_emit_v ⟨Nat.le_of_ble_eq_true rfl, Nat.le_of_ble_eq_true rfl⟩) hN hE hL (rcv10 hN hT hw.1) rfl rfl hl.1 (Nat.le_of_ble_eq_true rfl) dX9_term_68 (Nat.zero_le _) (Nat.zero_le _) (fun H1 locs hL hqr4206 => ?_)
          obtain ⟨hT1, hF1, hqr4206⟩ := hqr4206
          have hF := hF.tr (hF1.mono (by simp))
          have hT := hT1
          obtain ⟨f4207, N4208, d4209, e4210, x4211, m4212⟩ := hqr4206
          have hm := m4212
          have hm8 := hm.2.2.2.2.2.2.2
          have nx4211 := x4211.n
          have ox4211 := nx4211.1
          have hbd : B0 ≤ dr := (hT.o26 hdT.1).1
          have hDR := hT.dr hdT d4209
          have hP : va_P D vwCl [(dr, .inl (cs 0, 1383, .inl f4207))] _ := va_P.cons d4209 va_P.nil
          refine lv_goto (tgt := 4) hx hb dX9_term_71 (by decide) ?_
          have hps : PS D cs w _ (p4194) (tl) (er4195) (0) dr bu g (N4208) ((h + 1)) := ⟨hm, f4207, hP 0 _ rfl, e4210, by omega, (EM.op x4211 (by decide) v4204)⟩
          exact ih4111 (p4194, N4208, er4195) _ _ _ (by show 600 - (p4194) < 600 - p; omega) ⟨hps, (by show (N4208) + 2 * pos ≤ N + 2 * (p4194); omega), (by show pos ≤ (p4194); omega), (fun e9 => hz1 (z4198 e9)), hT, hF, hL⟩ (lv_sub hl [1] rfl)
        · refine lv_iconst (v := 1) hx hb dX9_term_38 (by decide) ?_
          refine lv_goto (tgt := 43) hx hb dX9_term_39 (by decide) ?_
          refine lv_istore_n (lv' := [(1, .int 1), (0, .ref w)]) hx hb dX9_term_43 rfl hl (by decide) rfl (fun ls hl => ?_)
          refine lv_aload_n hx hb dX9_term_44 rfl (lv_at hl 1 rfl) ?_
          refine lv_dup hx hb dX9_term_45 rfl ?_
          obtain ⟨hb4214, e4214, hat4214, hk4214⟩ := hT.o10 hw.1
          obtain ⟨f4214_0, f4214_1, f4214_3, f4214_4, f4214_5, f4214_6, f4214_7, f4214_9, f4214_10, f4214_11, f4214_12, f4214_13, f4214_14, f4214_15, f4214_16, f4214_17, rfl, c4214_2, c4214_3, c4214_4, c4214_12, t4214_1, t4214_8, t4214_9, c4214_sd, t4214_10, t4214_11, t4214_17⟩ := hk4214
          obtain ⟨rfl, rfl, rfl, rfl, rfl, rfl⟩ := hm.at hat4214 c4214_3 (by omega)
          have hm8 := hm.2.2.2.2.2.2.2
          have hP : va_P D vwCl [(w, .inr (9, [.int f4214_0, .ref bu, .int (nI ((κ w).2.2.1)), .int (nI tl), .int (nI p4118), .int er1, .int f4214_6, .int f4214_7, .ref (κ w).2.2.2, .ref f4214_9, .ref dr, .ref f4214_11, .int (nI f4214_12), .int f4214_13, .int 0, .int f4214_15, .int f4214_16, .ref f4214_17])), (dr, .inl (cs 0, 1383, .inl f4112))] _ := va_P.cons hat4214 hP
          refine va_get (D := D) (ci := 9) (v := .int (nI p4118)) (C := RX9) (T := TX9) (N := 18) hx hb hts iX9_term_9 hown hN.1 hP 0 rfl rfl 4 (by decide) (hts _ mX9_term_1) (fun _ h9 => h9) rfl dX9_term_46 ?_
          refine lv_iconst (v := 1) hx hb dX9_term_49 (by decide) ?_
          refine lv_iadd hx hb dX9_term_50 ?_
          refine tp_i (nI (p4118 + 1)) (nI_add p4118 1) ?_
          have hB : Bx B0 D _ [(w, .inr (9, [.int f4214_0, .ref bu, .int (nI ((κ w).2.2.1)), .int (nI tl), .int (nI p4118), .int er1, .int f4214_6, .int f4214_7, .ref (κ w).2.2.2, .ref f4214_9, .ref dr, .ref f4214_11, .int (nI f4214_12), .int f4214_13, .int 0, .int f4214_15, .int f4214_16, .ref f4214_17])), (dr, .inl (cs 0, 1383, .inl f4112))] [] _ _ := Bx.of (fun a => (κ a).1) hL hP (fa_c hb4214 (fa_c hbd fa_n)) (by simp only [List.map_cons, List.map_nil, hw.1, hdT.1]; decide)
          refine b_put (D := D) (ci := 9) (v := .int (nI (p4118 + 1))) (ty := .int) (C := RX9) (T := TX9) (N := 18) hx hb hts iX9_term_9 tyX9 tyX9_ok nmX9 hown hN hB 0 rfl rfl 4 (by decide) (hts _ mX9_term_1) (fun _ h9 => h9) rfl (by decide +kernel) rfl rfl (Nat.le_of_ble_eq_true rfl) (.inl rfl) dX9_term_51 (fun H locs hB => ?_)
          have hB : Bx B0 D _ [(w, .inr (9, [.int f4214_0, .ref bu, .int (nI ((κ w).2.2.1)), .int (nI tl), .int (nI (p4118 + 1)), .int er1, .int f4214_6, .int f4214_7, .ref (κ w).2.2.2, .ref f4214_9, .ref dr, .ref f4214_11, .int (nI f4214_12), .int f4214_13, .int 0, .int f4214_15, .int f4214_16, .ref f4214_17])), (dr, .inl (cs 0, 1383, .inl f4112))] [w] _ _ := hB
          refine lv_aload_n hx hb dX9_term_54 rfl (lv_at hl 1 rfl) ?_
          have hT : WT B0 D cs T κ _ := hT.close hB ⟨⟨0, _, rfl, ok_10 hw.1 ⟨_, _, _, _, _, _, _, _, _, _, _, _, _, _, _, _, rfl, (by omega), (by omega), (by omega), (by omega), hbT, t4214_8, t4214_9, c4214_sd, hdT, t4214_11, t4214_17⟩⟩, trivial⟩
          have hF : Fr B0 [12, 17] κ H0 _ := hF.close hB (fa_c (by simp [hw.2]) fa_n)
          have hL : OkL B0 _ := hB.2.2.2.2.2
          have hP : va_P D vwCl [(w, .inr (9, [.int f4214_0, .ref bu, .int (nI ((κ w).2.2.1)), .int (nI tl), .int (nI (p4118 + 1)), .int er1, .int f4214_6, .int f4214_7, .ref (κ w).2.2.2, .ref f4214_9, .ref dr, .ref f4214_11, .int (nI f4214_12), .int f4214_13, .int 0, .int f4214_15, .int f4214_16, .ref f4214_17])), (dr, .inl (cs 0, 1383, .inl f4112))] _ := hB.1
          have hbu9 := (hm.2.2.2.2.2.2.1).kept (hB.2.2.2.1 _ hm.2.2.2.2.2.2.1.lt (by simp only [List.mem_cons, List.not_mem_nil, or_false, not_or]; exact ne_c hbT.1 hw.1 (by decide)))
          have hm : MF D cs w _ ((p4118 + 1)) (tl) (er1) (0) dr bu g := ⟨⟨_, hP 0 _ rfl, rfl⟩, ⟨_, hP 0 _ rfl, rfl⟩, ⟨_, hP 0 _ rfl, rfl⟩, ⟨_, hP 0 _ rfl, rfl⟩, ⟨_, hP 0 _ rfl, rfl⟩, ⟨_, hP 0 _ rfl, rfl⟩, hbu9, (by omega), (by omega)⟩
          have hps : PS D cs w _ ((p4118 + 1)) (tl) (er1) (0) dr bu g (N1) ((h + 1)) := ⟨hm, f4112, hP 1 _ rfl, e4112, by omega, v4112⟩
          refine cv_v (As := []) (rest := []) (b := w) ⟨hx, hb, hml, hown, hts⟩ (c_X9_factor_d0 hT (w := w) hw hbT hdT hps) (cwV 0 hts gX9_term_X9_factor rfl rfl rfl hdX9_factor_v ⟨Nat.le_of_ble_eq_true rfl, Nat.le_of_ble_eq_true rfl⟩) hN hE hL (rcv10 hN hT hw.1) rfl rfl hl.1 (Nat.le_of_ble_eq_true rfl) dX9_term_55 (Nat.zero_le _) (Nat.zero_le _) (fun H1 locs hL hqr4215 => ?_)
          obtain ⟨hT1, hF1, hqr4215⟩ := hqr4215
          have hF := hF.tr (hF1.mono (by simp))
          have hT := hT1
          obtain ⟨N4216, p4217, er4218, a4219, b4220, z4221, m4222, f4223, d4224, e4225, n4226, v4227⟩ := hqr4215
          have hm := m4222
          have hm8 := hm.2.2.2.2.2.2.2
          have hbd : B0 ≤ dr := (hT.o26 hdT.1).1
          have hDR := hT.dr hdT d4224
          have hP : va_P D vwCl [(dr, .inl (cs 0, 1383, .inl f4223))] _ := va_P.cons d4224 va_P.nil
          refine lv_aload_n hx hb dX9_term_58 rfl (lv_at hl 1 rfl) ?_
          refine lv_iload_n hx hb dX9_term_59 rfl (lv_at hl 0 rfl) ?_
          refine lv_if_eq (tgt := 67) hx hb dX9_term_60 (by decide) (fun c9 => absurd c9 (by decide)) (fun _ => ?_)
          refine lv_iconst (v := 4) hx hb dX9_term_63 (by decide) ?_
          refine lv_goto (tgt := 68) hx hb dX9_term_64 (by decide) ?_
          refine cv_v (As := [.int 4]) (rest := []) (b := w) ⟨hx, hb, hml, hown, hts⟩ (c_X9_emit hT (w := w) hw (x := 4) hbT hdT hm (hP 0 _ rfl) e4225 (fun _ => by omega)) (cwV 1 hts gX9_term_X9_emit rfl rfl rfl hdX9_emit_v ⟨Nat.le_of_ble_eq_true rfl, Nat.le_of_ble_eq_true rfl⟩) hN hE hL (rcv10 hN hT hw.1) rfl rfl hl.1 (Nat.le_of_ble_eq_true rfl) dX9_term_68 (Nat.zero_le _) (Nat.zero_le _) (fun H1 locs hL hqr4229 => ?_)
          obtain ⟨hT1, hF1, hqr4229⟩ := hqr4229
          have hF := hF.tr (hF1.mono (by simp))
          have hT := hT1
          obtain ⟨f4230, N4231, d4232, e4233, x4234, m4235⟩ := hqr4229
          have hm := m4235
          have hm8 := hm.2.2.2.2.2.2.2
          have nx4234 := x4234.n
          have ox4234 := nx4234.1
          have hbd : B0 ≤ dr := (hT.o26 hdT.1).1
          have hDR := hT.dr hdT d4232
          have hP : va_P D vwCl [(dr, .inl (cs 0, 1383, .inl f4230))] _ := va_P.cons d4232 va_P.nil
          refine lv_goto (tgt := 4) hx hb dX9_term_71 (by decide) ?_
          have hps : PS D cs w _ (p4217) (tl) (er4218) (0) dr bu g (N4231) ((h + 1)) := ⟨hm, f4230, hP 0 _ rfl, e4233, by omega, (EM.op x4234 (by decide) v4227)⟩
          exact ih4111 (p4217, N4231, er4218) _ _ _ (by show 600 - (p4217) < 600 - p; omega) ⟨hps, (by show (N4231) + 2 * pos ≤ N + 2 * (p4217); omega), (by show pos ≤ (p4217); omega), (fun e9 => hz1 (z4221 e9)), hT, hF, hL⟩ (lv_sub hl [1] rfl)
  · refine lv_if_eq (tgt := 74) hx hb dX9_term_8 (by decide) (fun _ => ?_) (fun c9 => absurd (by decide) c9)
    have hps : PS D cs w _ (p) (tl) (er1) (0) dr bu g (N1) ((h + 1)) := ⟨hm, f4112, hP 0 _ rfl, e4112, by omega, v4112⟩
    exact en_v hx hb hr hlocks hL (Nat.zero_le _) (Nat.zero_le _) dX9_term_74 (⟨hT, hF, N1, p, er1, (by omega), (by omega), hz1, hps⟩)
set_option maxHeartbeats 4000000 in
set_option maxRecDepth 100000 in
theorem c_X9_readSum_d0 {l : Launch} {D : va_G} {cs : Nat → ClassId} {B0 T : Nat} {κ : KM} {H0 : Heap} (hT : WT B0 D cs T κ H0) {w : Nat} (hw : T2 κ w 10 12) {pos tl : Nat} {er : Int32} {dr bu : Nat} {g : Nat → Int32} {N h : Nat} (hbT : T2 κ bu 23 14) (hdT : T2 κ dr 26 17) (hps : PS D cs w H0 pos tl er 0 dr bu g N h) : KC l yX9_readSum wsX9_readSum 19 411 0 0 D cs B0 H0 [.ref w] (Qv (fun H => WT B0 D cs T κ H ∧ Fr B0 [12, 17] κ H0 H ∧ ∃ N1 pos1 er1, N1 + 2 * pos ≤ N + 2 * pos1 ∧ pos ≤ pos1 ∧ (er1 = 0 → er = 0) ∧ PS D cs w H pos1 tl er1 0 dr bu g N1 (h + 1))) := by
  refine KC.of cX9_readSum 2 none (by decide) rfl (Nat.le_of_ble_eq_true rfl) ?_
  intro p e s m below meth c ls hx hb hr hml hown hts hlocks hin hN hE hH0 hl
  have hown : s.vm.findClass RX9 = some m.cls := hown
  have hl : lv_has ls 2 [(0, .ref w)] := hl
  have hL : OkL B0 [] := OkL.nil
  have hF : Fr B0 [12, 17] κ H0 H0 := Fr.rf
  obtain ⟨hm, f4237, hd4237, e4237, n4237, v4237⟩ := hps
  have hm8 := hm.2.2.2.2.2.2.2
  have hbd : B0 ≤ dr := (hT.o26 hdT.1).1
  have hDR := hT.dr hdT hd4237
  have hP : va_P D vwCl [(dr, .inl (cs 0, 1383, .inl f4237))] _ := va_P.cons hd4237 va_P.nil
  refine lv_aload_n hx hb dX9_readSum_0 rfl (lv_at hl 0 rfl) ?_
  have hps : PS D cs w _ (pos) (tl) (er) (0) dr bu g (N) (h) := ⟨hm, f4237, hP 0 _ rfl, e4237, by omega, v4237⟩
  refine cv_v (As := []) (rest := []) (b := w) ⟨hx, hb, hml, hown, hts⟩ (c_X9_term_d0 hT (w := w) hw hbT hdT hps) (cwV 0 hts gX9_readSum_X9_term rfl rfl rfl hdX9_term_v ⟨Nat.le_of_ble_eq_true rfl, Nat.le_of_ble_eq_true rfl⟩) hN hE hL (rcv10 hN hT hw.1) rfl rfl hl.1 (Nat.le_of_ble_eq_true rfl) dX9_readSum_1 (Nat.zero_le _) (Nat.zero_le _) (fun H1 locs hL hqr4239 => ?_)
  obtain ⟨hT1, hF1, hqr4239⟩ := hqr4239
  have hF := hF.tr (hF1.mono (by simp))
  have hT := hT1
  obtain ⟨N4240, p4241, er4242, a4243, b4244, z4245, m4246, f4247, d4248, e4249, n4250, v4251⟩ := hqr4239
  have hm := m4246
  have hm8 := hm.2.2.2.2.2.2.2
  have hbd : B0 ≤ dr := (hT.o26 hdT.1).1
  have hDR := hT.dr hdT d4248
  have hP : va_P D vwCl [(dr, .inl (cs 0, 1383, .inl f4247))] _ := va_P.cons d4248 va_P.nil
  have hps : PS D cs w _ (p4241) (tl) (er4242) (0) dr bu g (N4240) ((h + 1)) := ⟨hm, f4247, hP 0 _ rfl, e4249, by omega, v4251⟩
  refine lp_m (α := Nat × Nat × Int32) (nL := 2) (fun a9 => 600 - a9.1) (fun a9 H9 l9 => (PS D cs w H9 a9.1 tl a9.2.2 0 dr bu g a9.2.1 (h + 1)) ∧ (a9.2.1 + 2 * pos ≤ N + 2 * a9.1) ∧ (pos ≤ a9.1) ∧ (a9.2.2 = 0 → er = 0) ∧ (WT B0 D cs T κ H9) ∧ (Fr B0 [12, 17] κ H0 H9) ∧ (OkL B0 l9)) (fun a9 => [(0, .ref w)]) ?_ (p4241, N4240, er4242) _ _ _ ⟨hps, (by show (N4240) + 2 * pos ≤ N + 2 * (p4241); omega), (by show pos ≤ (p4241); omega), (fun e9 => id (z4245 e9)), hT, hF, hL⟩ (lv_sub hl [0] rfl)
  rintro ⟨p, N1, er1⟩ H locs ls ih4253 ⟨hps, hb1, hb2, hz1, hT, hF, hL⟩ hl
  have hl : lv_has ls 2 [(0, .ref w)] := hl
  have hps : PS D cs w H p tl er1 0 dr bu g N1 (h + 1) := hps
  have hb1 : N1 + 2 * pos ≤ N + 2 * p := hb1
  have hb2 : pos ≤ p := hb2
  have hz1 : er1 = 0 → er = 0 := hz1
  obtain ⟨hm, f4254, hd4254, e4254, n4254, v4254⟩ := hps
  have hm8 := hm.2.2.2.2.2.2.2
  have hbd : B0 ≤ dr := (hT.o26 hdT.1).1
  have hDR := hT.dr hdT hd4254
  have hP : va_P D vwCl [(dr, .inl (cs 0, 1383, .inl f4254))] _ := va_P.cons hd4254 va_P.nil
  refine lv_aload_n hx hb dX9_readSum_4 rfl (lv_at hl 0 rfl) ?_
  refine cv_i (As := []) (rest := []) (b := w) ⟨hx, hb, hml, hown, hts⟩ (c_X9_isGood hT (w := w) hw hbT hdT hm) (cwV 0 hts gX9_readSum_X9_isGood rfl rfl rfl hdX9_isGood_v ⟨Nat.le_of_ble_eq_true rfl, Nat.le_of_ble_eq_true rfl⟩) hN hE hL (rcv10 hN hT hw.1) rfl rfl hl.1 (Nat.le_of_ble_eq_true rfl) dX9_readSum_5 (Nat.zero_le _) (Nat.zero_le _) (fun r4256 H1 locs hL hqr4256 => ?_)
  obtain ⟨h9, hqr4256⟩ := hqr4256; replace h9 := h9.symm; subst h9
  rcases hqr4256 with ⟨rfl, e4257⟩ | ⟨rfl, e4258⟩
  · refine lv_if_eq (tgt := 74) hx hb dX9_readSum_8 (by decide) (fun c9 => absurd c9 (by decide)) (fun _ => ?_)
    refine lv_aload_n hx hb dX9_readSum_11 rfl (lv_at hl 0 rfl) ?_
    refine cv_i (As := []) (rest := []) (b := w) ⟨hx, hb, hml, hown, hts⟩ (c_X9_ahead hT (w := w) hw hbT hdT hm) (cwV 0 hts gX9_readSum_X9_ahead rfl rfl rfl hdX9_ahead_v ⟨Nat.le_of_ble_eq_true rfl, Nat.le_of_ble_eq_true rfl⟩) hN hE hL (rcv10 hN hT hw.1) rfl rfl hl.1 (Nat.le_of_ble_eq_true rfl) dX9_readSum_12 (Nat.zero_le _) (Nat.zero_le _) (fun r4259 H1 locs hL hqr4259 => ?_)
    obtain ⟨hT1, hF1, hqr4259⟩ := hqr4259
    have hP : va_P D vwCl [(dr, .inl (cs 0, 1383, .inl f4254))] _ := hF1.hP (hP.sub [0] rfl) (fa_c ⟨by rw [hdT.1]; decide, by rw [hdT.2]; first | decide | (simp; done) | (simp [h15a, h15b, h15c]; done) | (simp; omega)⟩ fa_n)
    have hF := hF.tr (hF1.mono (by simp))
    have hT := hT1
    obtain ⟨p4260, h4261, m4262, n4263, s4264, rfl⟩ := hqr4259
    have hm := m4262
    have hm8 := hm.2.2.2.2.2.2.2
    refine lv_bipush (v := 43) hx hb dX9_readSum_15 (by decide) ?_
    refine lv_icmp_eq (tgt := 29) hx hb dX9_readSum_17 (by decide) (fun c4265 => ?_) (fun c4265 => ?_)
    · have hl9 := byF_c (c4265) (by decide)
      refine lv_aload_n hx hb dX9_readSum_29 rfl (lv_at hl 0 rfl) ?_
      refine cv_i (As := []) (rest := []) (b := w) ⟨hx, hb, hml, hown, hts⟩ (c_X9_ahead hT (w := w) hw hbT hdT hm) (cwV 0 hts gX9_readSum_X9_ahead rfl rfl rfl hdX9_ahead_v ⟨Nat.le_of_ble_eq_true rfl, Nat.le_of_ble_eq_true rfl⟩) hN hE hL (rcv10 hN hT hw.1) rfl rfl hl.1 (Nat.le_of_ble_eq_true rfl) dX9_readSum_30 (Nat.zero_le _) (Nat.zero_le _) (fun r4266 H1 locs hL hqr4266 => ?_)
      obtain ⟨hT1, hF1, hqr4266⟩ := hqr4266
      have hP : va_P D vwCl [(dr, .inl (cs 0, 1383, .inl f4254))] _ := hF1.hP (hP.sub [0] rfl) (fa_c ⟨by rw [hdT.1]; decide, by rw [hdT.2]; first | decide | (simp; done) | (simp [h15a, h15b, h15c]; done) | (simp; omega)⟩ fa_n)
      have hF := hF.tr (hF1.mono (by simp))
      have hT := hT1
      obtain ⟨p4267, h4268, m4269, n4270, s4271, rfl⟩ := hqr4266
      have hm := m4269
      have hpe := s4271 n4263
      rw [hpe] at hm
      refine tp_i (byF g tl p4260) (by rw [hpe]) ?_
      have hm8 := hm.2.2.2.2.2.2.2
      refine lv_bipush (v := 43) hx hb dX9_readSum_33 (by decide) ?_
      refine lv_icmp_ne (tgt := 42) hx hb dX9_readSum_35 (by decide) (fun c4272 => ?_) (fun c4272 => ?_)
      · refine lv_iconst (v := 0) hx hb dX9_readSum_42 (by decide) ?_
        refine lv_istore_n (lv' := [(1, .int 0), (0, .ref w)]) hx hb dX9_readSum_43 rfl hl (by decide) rfl (fun ls hl => ?_)
        refine lv_aload_n hx hb dX9_readSum_44 rfl (lv_at hl 1 rfl) ?_
        refine lv_dup hx hb dX9_readSum_45 rfl ?_
        obtain ⟨hb4273, e4273, hat4273, hk4273⟩ := hT.o10 hw.1
        obtain ⟨f4273_0, f4273_1, f4273_3, f4273_4, f4273_5, f4273_6, f4273_7, f4273_9, f4273_10, f4273_11, f4273_12, f4273_13, f4273_14, f4273_15, f4273_16, f4273_17, rfl, c4273_2, c4273_3, c4273_4, c4273_12, t4273_1, t4273_8, t4273_9, c4273_sd, t4273_10, t4273_11, t4273_17⟩ := hk4273
        obtain ⟨rfl, rfl, rfl, rfl, rfl, rfl⟩ := hm.at hat4273 c4273_3 (by omega)
        have hm8 := hm.2.2.2.2.2.2.2
        have hP : va_P D vwCl [(w, .inr (9, [.int f4273_0, .ref bu, .int (nI ((κ w).2.2.1)), .int (nI tl), .int (nI p4260), .int er1, .int f4273_6, .int f4273_7, .ref (κ w).2.2.2, .ref f4273_9, .ref dr, .ref f4273_11, .int (nI f4273_12), .int f4273_13, .int 0, .int f4273_15, .int f4273_16, .ref f4273_17])), (dr, .inl (cs 0, 1383, .inl f4254))] _ := va_P.cons hat4273 hP
        refine va_get (D := D) (ci := 9) (v := .int (nI p4260)) (C := RX9) (T := TX9) (N := 18) hx hb hts iX9_readSum_9 hown hN.1 hP 0 rfl rfl 4 (by decide) (hts _ mX9_readSum_1) (fun _ h9 => h9) rfl dX9_readSum_46 ?_
        refine lv_iconst (v := 1) hx hb dX9_readSum_49 (by decide) ?_
        refine lv_iadd hx hb dX9_readSum_50 ?_
        refine tp_i (nI (p4260 + 1)) (nI_add p4260 1) ?_
        have hB : Bx B0 D _ [(w, .inr (9, [.int f4273_0, .ref bu, .int (nI ((κ w).2.2.1)), .int (nI tl), .int (nI p4260), .int er1, .int f4273_6, .int f4273_7, .ref (κ w).2.2.2, .ref f4273_9, .ref dr, .ref f4273_11, .int (nI f4273_12), .int f4273_13, .int 0, .int f4273_15, .int f4273_16, .ref f4273_17])), (dr, .inl (cs 0, 1383, .inl f4254))] [] _ _ := Bx.of (fun a => (κ a).1) hL hP (fa_c hb4273 (fa_c hbd fa_n)) (by simp only [List.map_cons, List.map_nil, hw.1, hdT.1]; decide)
        refine b_put (D := D) (ci := 9) (v := .int (nI (p4260 + 1))) (ty := .int) (C := RX9) (T := TX9) (N := 18) hx hb hts iX9_readSum_9 tyX9 tyX9_ok nmX9 hown hN hB 0 rfl rfl 4 (by decide) (hts _ mX9_readSum_1) (fun _ h9 => h9) rfl (by decide +kernel) rfl rfl (Nat.le_of_ble_eq_true rfl) (.inl rfl) dX9_readSum_51 (fun H locs hB => ?_)
        have hB : Bx B0 D _ [(w, .inr (9, [.int f4273_0, .ref bu, .int (nI ((κ w).2.2.1)), .int (nI tl), .int (nI (p4260 + 1)), .int er1, .int f4273_6, .int f4273_7, .ref (κ w).2.2.2, .ref f4273_9, .ref dr, .ref f4273_11, .int (nI f4273_12), .int f4273_13, .int 0, .int f4273_15, .int f4273_16, .ref f4273_17])), (dr, .inl (cs 0, 1383, .inl f4254))] [w] _ _ := hB
        refine lv_aload_n hx hb dX9_readSum_54 rfl (lv_at hl 1 rfl) ?_
        have hT : WT B0 D cs T κ _ := hT.close hB ⟨⟨0, _, rfl, ok_10 hw.1 ⟨_, _, _, _, _, _, _, _, _, _, _, _, _, _, _, _, rfl, (by omega), (by omega), (by omega), (by omega), hbT, t4273_8, t4273_9, c4273_sd, hdT, t4273_11, t4273_17⟩⟩, trivial⟩
        have hF : Fr B0 [12, 17] κ H0 _ := hF.close hB (fa_c (by simp [hw.2]) fa_n)
        have hL : OkL B0 _ := hB.2.2.2.2.2
        have hP : va_P D vwCl [(w, .inr (9, [.int f4273_0, .ref bu, .int (nI ((κ w).2.2.1)), .int (nI tl), .int (nI (p4260 + 1)), .int er1, .int f4273_6, .int f4273_7, .ref (κ w).2.2.2, .ref f4273_9, .ref dr, .ref f4273_11, .int (nI f4273_12), .int f4273_13, .int 0, .int f4273_15, .int f4273_16, .ref f4273_17])), (dr, .inl (cs 0, 1383, .inl f4254))] _ := hB.1
        have hbu9 := (hm.2.2.2.2.2.2.1).kept (hB.2.2.2.1 _ hm.2.2.2.2.2.2.1.lt (by simp only [List.mem_cons, List.not_mem_nil, or_false, not_or]; exact ne_c hbT.1 hw.1 (by decide)))
        have hm : MF D cs w _ ((p4260 + 1)) (tl) (er1) (0) dr bu g := ⟨⟨_, hP 0 _ rfl, rfl⟩, ⟨_, hP 0 _ rfl, rfl⟩, ⟨_, hP 0 _ rfl, rfl⟩, ⟨_, hP 0 _ rfl, rfl⟩, ⟨_, hP 0 _ rfl, rfl⟩, ⟨_, hP 0 _ rfl, rfl⟩, hbu9, (by omega), (by omega)⟩
        have hps : PS D cs w _ ((p4260 + 1)) (tl) (er1) (0) dr bu g (N1) ((h + 1)) := ⟨hm, f4254, hP 1 _ rfl, e4254, by omega, v4254⟩
        refine cv_v (As := []) (rest := []) (b := w) ⟨hx, hb, hml, hown, hts⟩ (c_X9_term_d0 hT (w := w) hw hbT hdT hps) (cwV 0 hts gX9_readSum_X9_term rfl rfl rfl hdX9_term_v ⟨Nat.le_of_ble_eq_true rfl, Nat.le_of_ble_eq_true rfl⟩) hN hE hL (rcv10 hN hT hw.1) rfl rfl hl.1 (Nat.le_of_ble_eq_true rfl) dX9_readSum_55 (Nat.zero_le _) (Nat.zero_le _) (fun H1 locs hL hqr4274 => ?_)
        obtain ⟨hT1, hF1, hqr4274⟩ := hqr4274
        have hF := hF.tr (hF1.mono (by simp))
        have hT := hT1
        obtain ⟨N4275, p4276, er4277, a4278, b4279, z4280, m4281, f4282, d4283, e4284, n4285, v4286⟩ := hqr4274
        have hm := m4281
        have hm8 := hm.2.2.2.2.2.2.2
        have hbd : B0 ≤ dr := (hT.o26 hdT.1).1
        have hDR := hT.dr hdT d4283
        have hP : va_P D vwCl [(dr, .inl (cs 0, 1383, .inl f4282))] _ := va_P.cons d4283 va_P.nil
        refine lv_aload_n hx hb dX9_readSum_58 rfl (lv_at hl 1 rfl) ?_
        refine lv_iload_n hx hb dX9_readSum_59 rfl (lv_at hl 0 rfl) ?_
        refine lv_if_eq (tgt := 67) hx hb dX9_readSum_60 (by decide) (fun _ => ?_) (fun c9 => absurd (by decide) c9)
        refine lv_iconst (v := 3) hx hb dX9_readSum_67 (by decide) ?_
        refine cv_v (As := [.int 3]) (rest := []) (b := w) ⟨hx, hb, hml, hown, hts⟩ (c_X9_emit hT (w := w) hw (x := 3) hbT hdT hm (hP 0 _ rfl) e4284 (fun _ => by omega)) (cwV 1 hts gX9_readSum_X9_emit rfl rfl rfl hdX9_emit_v ⟨Nat.le_of_ble_eq_true rfl, Nat.le_of_ble_eq_true rfl⟩) hN hE hL (rcv10 hN hT hw.1) rfl rfl hl.1 (Nat.le_of_ble_eq_true rfl) dX9_readSum_68 (Nat.zero_le _) (Nat.zero_le _) (fun H1 locs hL hqr4288 => ?_)
        obtain ⟨hT1, hF1, hqr4288⟩ := hqr4288
        have hF := hF.tr (hF1.mono (by simp))
        have hT := hT1
        obtain ⟨f4289, N4290, d4291, e4292, x4293, m4294⟩ := hqr4288
        have hm := m4294
        have hm8 := hm.2.2.2.2.2.2.2
        have nx4293 := x4293.n
        have ox4293 := nx4293.1
        have hbd : B0 ≤ dr := (hT.o26 hdT.1).1
        have hDR := hT.dr hdT d4291
        have hP : va_P D vwCl [(dr, .inl (cs 0, 1383, .inl f4289))] _ := va_P.cons d4291 va_P.nil
        refine lv_goto (tgt := 4) hx hb dX9_readSum_71 (by decide) ?_
        have hps : PS D cs w _ (p4276) (tl) (er4277) (0) dr bu g (N4290) ((h + 1)) := ⟨hm, f4289, hP 0 _ rfl, e4292, by omega, (EM.op x4293 (by decide) v4286)⟩
        exact ih4253 (p4276, N4290, er4277) _ _ _ (by show 600 - (p4276) < 600 - p; omega) ⟨hps, (by show (N4290) + 2 * pos ≤ N + 2 * (p4276); omega), (by show pos ≤ (p4276); omega), (fun e9 => hz1 (z4280 e9)), hT, hF, hL⟩ (lv_sub hl [1] rfl)
      · refine lv_iconst (v := 1) hx hb dX9_readSum_38 (by decide) ?_
        refine lv_goto (tgt := 43) hx hb dX9_readSum_39 (by decide) ?_
        refine lv_istore_n (lv' := [(1, .int 1), (0, .ref w)]) hx hb dX9_readSum_43 rfl hl (by decide) rfl (fun ls hl => ?_)
        refine lv_aload_n hx hb dX9_readSum_44 rfl (lv_at hl 1 rfl) ?_
        refine lv_dup hx hb dX9_readSum_45 rfl ?_
        obtain ⟨hb4296, e4296, hat4296, hk4296⟩ := hT.o10 hw.1
        obtain ⟨f4296_0, f4296_1, f4296_3, f4296_4, f4296_5, f4296_6, f4296_7, f4296_9, f4296_10, f4296_11, f4296_12, f4296_13, f4296_14, f4296_15, f4296_16, f4296_17, rfl, c4296_2, c4296_3, c4296_4, c4296_12, t4296_1, t4296_8, t4296_9, c4296_sd, t4296_10, t4296_11, t4296_17⟩ := hk4296
        obtain ⟨rfl, rfl, rfl, rfl, rfl, rfl⟩ := hm.at hat4296 c4296_3 (by omega)
        have hm8 := hm.2.2.2.2.2.2.2
        have hP : va_P D vwCl [(w, .inr (9, [.int f4296_0, .ref bu, .int (nI ((κ w).2.2.1)), .int (nI tl), .int (nI p4260), .int er1, .int f4296_6, .int f4296_7, .ref (κ w).2.2.2, .ref f4296_9, .ref dr, .ref f4296_11, .int (nI f4296_12), .int f4296_13, .int 0, .int f4296_15, .int f4296_16, .ref f4296_17])), (dr, .inl (cs 0, 1383, .inl f4254))] _ := va_P.cons hat4296 hP
        refine va_get (D := D) (ci := 9) (v := .int (nI p4260)) (C := RX9) (T := TX9) (N := 18) hx hb hts iX9_readSum_9 hown hN.1 hP 0 rfl rfl 4 (by decide) (hts _ mX9_readSum_1) (fun _ h9 => h9) rfl dX9_readSum_46 ?_
        refine lv_iconst (v := 1) hx hb dX9_readSum_49 (by decide) ?_
        refine lv_iadd hx hb dX9_readSum_50 ?_
        refine tp_i (nI (p4260 + 1)) (nI_add p4260 1) ?_
        have hB : Bx B0 D _ [(w, .inr (9, [.int f4296_0, .ref bu, .int (nI ((κ w).2.2.1)), .int (nI tl), .int (nI p4260), .int er1, .int f4296_6, .int f4296_7, .ref (κ w).2.2.2, .ref f4296_9, .ref dr, .ref f4296_11, .int (nI f4296_12), .int f4296_13, .int 0, .int f4296_15, .int f4296_16, .ref f4296_17])), (dr, .inl (cs 0, 1383, .inl f4254))] [] _ _ := Bx.of (fun a => (κ a).1) hL hP (fa_c hb4296 (fa_c hbd fa_n)) (by simp only [List.map_cons, List.map_nil, hw.1, hdT.1]; decide)
        refine b_put (D := D) (ci := 9) (v := .int (nI (p4260 + 1))) (ty := .int) (C := RX9) (T := TX9) (N := 18) hx hb hts iX9_readSum_9 tyX9 tyX9_ok nmX9 hown hN hB 0 rfl rfl 4 (by decide) (hts _ mX9_readSum_1) (fun _ h9 => h9) rfl (by decide +kernel) rfl rfl (Nat.le_of_ble_eq_true rfl) (.inl rfl) dX9_readSum_51 (fun H locs hB => ?_)
        have hB : Bx B0 D _ [(w, .inr (9, [.int f4296_0, .ref bu, .int (nI ((κ w).2.2.1)), .int (nI tl), .int (nI (p4260 + 1)), .int er1, .int f4296_6, .int f4296_7, .ref (κ w).2.2.2, .ref f4296_9, .ref dr, .ref f4296_11, .int (nI f4296_12), .int f4296_13, .int 0, .int f4296_15, .int f4296_16, .ref f4296_17])), (dr, .inl (cs 0, 1383, .inl f4254))] [w] _ _ := hB
        refine lv_aload_n hx hb dX9_readSum_54 rfl (lv_at hl 1 rfl) ?_
        have hT : WT B0 D cs T κ _ := hT.close hB ⟨⟨0, _, rfl, ok_10 hw.1 ⟨_, _, _, _, _, _, _, _, _, _, _, _, _, _, _, _, rfl, (by omega), (by omega), (by omega), (by omega), hbT, t4296_8, t4296_9, c4296_sd, hdT, t4296_11, t4296_17⟩⟩, trivial⟩
        have hF : Fr B0 [12, 17] κ H0 _ := hF.close hB (fa_c (by simp [hw.2]) fa_n)
        have hL : OkL B0 _ := hB.2.2.2.2.2
        have hP : va_P D vwCl [(w, .inr (9, [.int f4296_0, .ref bu, .int (nI ((κ w).2.2.1)), .int (nI tl), .int (nI (p4260 + 1)), .int er1, .int f4296_6, .int f4296_7, .ref (κ w).2.2.2, .ref f4296_9, .ref dr, .ref f4296_11, .int (nI f4296_12), .int f4296_13, .int 0, .int f4296_15, .int f4296_16, .ref f4296_17])), (dr, .inl (cs 0, 1383, .inl f4254))] _ := hB.1
        have hbu9 := (hm.2.2.2.2.2.2.1).kept (hB.2.2.2.1 _ hm.2.2.2.2.2.2.1.lt (by simp only [List.mem_cons, List.not_mem_nil, or_false, not_or]; exact ne_c hbT.1 hw.1 (by decide)))
        have hm : MF D cs w _ ((p4260 + 1)) (tl) (er1) (0) dr bu g := ⟨⟨_, hP 0 _ rfl, rfl⟩, ⟨_, hP 0 _ rfl, rfl⟩, ⟨_, hP 0 _ rfl, rfl⟩, ⟨_, hP 0 _ rfl, rfl⟩, ⟨_, hP 0 _ rfl, rfl⟩, ⟨_, hP 0 _ rfl, rfl⟩, hbu9, (by omega), (by omega)⟩
        have hps : PS D cs w _ ((p4260 + 1)) (tl) (er1) (0) dr bu g (N1) ((h + 1)) := ⟨hm, f4254, hP 1 _ rfl, e4254, by omega, v4254⟩
        refine cv_v (As := []) (rest := []) (b := w) ⟨hx, hb, hml, hown, hts⟩ (c_X9_term_d0 hT (w := w) hw hbT hdT hps) (cwV 0 hts gX9_readSum_X9_term rfl rfl rfl hdX9_term_v ⟨Nat.le_of_ble_eq_true rfl, Nat.le_of_ble_eq_true rfl⟩) hN hE hL (rcv10 hN hT hw.1) rfl rfl hl.1 (Nat.le_of_ble_eq_true rfl) dX9_readSum_55 (Nat.zero_le _) (Nat.zero_le _) (fun H1 locs hL hqr4297 => ?_)
        obtain ⟨hT1, hF1, hqr4297⟩ := hqr4297
        have hF := hF.tr (hF1.mono (by simp))
        have hT := hT1
        obtain ⟨N4298, p4299, er4300, a4301, b4302, z4303, m4304, f4305, d4306, e4307, n4308, v4309⟩ := hqr4297
        have hm := m4304
        have hm8 := hm.2.2.2.2.2.2.2
        have hbd : B0 ≤ dr := (hT.o26 hdT.1).1
        have hDR := hT.dr hdT d4306
        have hP : va_P D vwCl [(dr, .inl (cs 0, 1383, .inl f4305))] _ := va_P.cons d4306 va_P.nil
        refine lv_aload_n hx hb dX9_readSum_58 rfl (lv_at hl 1 rfl) ?_
        refine lv_iload_n hx hb dX9_readSum_59 rfl (lv_at hl 0 rfl) ?_
        refine lv_if_eq (tgt := 67) hx hb dX9_readSum_60 (by decide) (fun c9 => absurd c9 (by decide)) (fun _ => ?_)
        refine lv_iconst (v := 2) hx hb dX9_readSum_63 (by decide) ?_
        refine lv_goto (tgt := 68) hx hb dX9_readSum_64 (by decide) ?_
        refine cv_v (As := [.int 2]) (rest := []) (b := w) ⟨hx, hb, hml, hown, hts⟩ (c_X9_emit hT (w := w) hw (x := 2) hbT hdT hm (hP 0 _ rfl) e4307 (fun _ => by omega)) (cwV 1 hts gX9_readSum_X9_emit rfl rfl rfl hdX9_emit_v ⟨Nat.le_of_ble_eq_true rfl, Nat.le_of_ble_eq_true rfl⟩) hN hE hL (rcv10 hN hT hw.1) rfl rfl hl.1 (Nat.le_of_ble_eq_true rfl) dX9_readSum_68 (Nat.zero_le _) (Nat.zero_le _) (fun H1 locs hL hqr4311 => ?_)
        obtain ⟨hT1, hF1, hqr4311⟩ := hqr4311
        have hF := hF.tr (hF1.mono (by simp))
        have hT := hT1
        obtain ⟨f4312, N4313, d4314, e4315, x4316, m4317⟩ := hqr4311
        have hm := m4317
        have hm8 := hm.2.2.2.2.2.2.2
        have nx4316 := x4316.n
        have ox4316 := nx4316.1
        have hbd : B0 ≤ dr := (hT.o26 hdT.1).1
        have hDR := hT.dr hdT d4314
        have hP : va_P D vwCl [(dr, .inl (cs 0, 1383, .inl f4312))] _ := va_P.cons d4314 va_P.nil
        refine lv_goto (tgt := 4) hx hb dX9_readSum_71 (by decide) ?_
        have hps : PS D cs w _ (p4299) (tl) (er4300) (0) dr bu g (N4313) ((h + 1)) := ⟨hm, f4312, hP 0 _ rfl, e4315, by omega, (EM.op x4316 (by decide) v4309)⟩
        exact ih4253 (p4299, N4313, er4300) _ _ _ (by show 600 - (p4299) < 600 - p; omega) ⟨hps, (by show (N4313) + 2 * pos ≤ N + 2 * (p4299); omega), (by show pos ≤ (p4299); omega), (fun e9 => hz1 (z4303 e9)), hT, hF, hL⟩ (lv_sub hl [1] rfl)
    · refine lv_aload_n hx hb dX9_readSum_20 rfl (lv_at hl 0 rfl) ?_
      refine cv_i (As := []) (rest := []) (b := w) ⟨hx, hb, hml, hown, hts⟩ (c_X9_ahead hT (w := w) hw hbT hdT hm) (cwV 0 hts gX9_readSum_X9_ahead rfl rfl rfl hdX9_ahead_v ⟨Nat.le_of_ble_eq_true rfl, Nat.le_of_ble_eq_true rfl⟩) hN hE hL (rcv10 hN hT hw.1) rfl rfl hl.1 (Nat.le_of_ble_eq_true rfl) dX9_readSum_21 (Nat.zero_le _) (Nat.zero_le _) (fun r4319 H1 locs hL hqr4319 => ?_)
      obtain ⟨hT1, hF1, hqr4319⟩ := hqr4319
      have hP : va_P D vwCl [(dr, .inl (cs 0, 1383, .inl f4254))] _ := hF1.hP (hP.sub [0] rfl) (fa_c ⟨by rw [hdT.1]; decide, by rw [hdT.2]; first | decide | (simp; done) | (simp [h15a, h15b, h15c]; done) | (simp; omega)⟩ fa_n)
      have hF := hF.tr (hF1.mono (by simp))
      have hT := hT1
      obtain ⟨p4320, h4321, m4322, n4323, s4324, rfl⟩ := hqr4319
      have hm := m4322
      have hpe := s4324 n4263
      rw [hpe] at hm
      refine tp_i (byF g tl p4260) (by rw [hpe]) ?_
      have hm8 := hm.2.2.2.2.2.2.2
      refine lv_bipush (v := 45) hx hb dX9_readSum_24 (by decide) ?_
      refine lv_icmp_ne (tgt := 74) hx hb dX9_readSum_26 (by decide) (fun c4325 => ?_) (fun c4325 => ?_)
      · have hps : PS D cs w _ (p4260) (tl) (er1) (0) dr bu g (N1) ((h + 1)) := ⟨hm, f4254, hP 0 _ rfl, e4254, by omega, v4254⟩
        exact en_v hx hb hr hlocks hL (Nat.zero_le _) (Nat.zero_le _) dX9_readSum_74 (⟨hT, hF, N1, p4260, er1, (by omega), (by omega), hz1, hps⟩)
      · have hl9 := byF_c (c4325) (by decide)
        refine lv_aload_n hx hb dX9_readSum_29 rfl (lv_at hl 0 rfl) ?_
        refine cv_i (As := []) (rest := []) (b := w) ⟨hx, hb, hml, hown, hts⟩ (c_X9_ahead hT (w := w) hw hbT hdT hm) (cwV 0 hts gX9_readSum_X9_ahead rfl rfl rfl hdX9_ahead_v ⟨Nat.le_of_ble_eq_true rfl, Nat.le_of_ble_eq_true rfl⟩) hN hE hL (rcv10 hN hT hw.1) rfl rfl hl.1 (Nat.le_of_ble_eq_true rfl) dX9_readSum_30 (Nat.zero_le _) (Nat.zero_le _) (fun r4326 H1 locs hL hqr4326 => ?_)
        obtain ⟨hT1, hF1, hqr4326⟩ := hqr4326
        have hP : va_P D vwCl [(dr, .inl (cs 0, 1383, .inl f4254))] _ := hF1.hP (hP.sub [0] rfl) (fa_c ⟨by rw [hdT.1]; decide, by rw [hdT.2]; first | decide | (simp; done) | (simp [h15a, h15b, h15c]; done) | (simp; omega)⟩ fa_n)
        have hF := hF.tr (hF1.mono (by simp))
        have hT := hT1
        obtain ⟨p4327, h4328, m4329, n4330, s4331, rfl⟩ := hqr4326
        have hm := m4329
        have hpe := s4331 n4263
        rw [hpe] at hm
        refine tp_i (byF g tl p4260) (by rw [hpe]) ?_
        have hm8 := hm.2.2.2.2.2.2.2
        refine lv_bipush (v := 43) hx hb dX9_readSum_33 (by decide) ?_
        refine lv_icmp_ne (tgt := 42) hx hb dX9_readSum_35 (by decide) (fun c4332 => ?_) (fun c4332 => ?_)
        · refine lv_iconst (v := 0) hx hb dX9_readSum_42 (by decide) ?_
          refine lv_istore_n (lv' := [(1, .int 0), (0, .ref w)]) hx hb dX9_readSum_43 rfl hl (by decide) rfl (fun ls hl => ?_)
          refine lv_aload_n hx hb dX9_readSum_44 rfl (lv_at hl 1 rfl) ?_
          refine lv_dup hx hb dX9_readSum_45 rfl ?_
          obtain ⟨hb4333, e4333, hat4333, hk4333⟩ := hT.o10 hw.1
          obtain ⟨f4333_0, f4333_1, f4333_3, f4333_4, f4333_5, f4333_6, f4333_7, f4333_9, f4333_10, f4333_11, f4333_12, f4333_13, f4333_14, f4333_15, f4333_16, f4333_17, rfl, c4333_2, c4333_3, c4333_4, c4333_12, t4333_1, t4333_8, t4333_9, c4333_sd, t4333_10, t4333_11, t4333_17⟩ := hk4333
          obtain ⟨rfl, rfl, rfl, rfl, rfl, rfl⟩ := hm.at hat4333 c4333_3 (by omega)
          have hm8 := hm.2.2.2.2.2.2.2
          have hP : va_P D vwCl [(w, .inr (9, [.int f4333_0, .ref bu, .int (nI ((κ w).2.2.1)), .int (nI tl), .int (nI p4260), .int er1, .int f4333_6, .int f4333_7, .ref (κ w).2.2.2, .ref f4333_9, .ref dr, .ref f4333_11, .int (nI f4333_12), .int f4333_13, .int 0, .int f4333_15, .int f4333_16, .ref f4333_17])), (dr, .inl (cs 0, 1383, .inl f4254))] _ := va_P.cons hat4333 hP
          refine va_get (D := D) (ci := 9) (v := .int (nI p4260)) (C := RX9) (T := TX9) (N := 18) hx hb hts iX9_readSum_9 hown hN.1 hP 0 rfl rfl 4 (by decide) (hts _ mX9_readSum_1) (fun _ h9 => h9) rfl dX9_readSum_46 ?_
          refine lv_iconst (v := 1) hx hb dX9_readSum_49 (by decide) ?_
          refine lv_iadd hx hb dX9_readSum_50 ?_
          refine tp_i (nI (p4260 + 1)) (nI_add p4260 1) ?_
          have hB : Bx B0 D _ [(w, .inr (9, [.int f4333_0, .ref bu, .int (nI ((κ w).2.2.1)), .int (nI tl), .int (nI p4260), .int er1, .int f4333_6, .int f4333_7, .ref (κ w).2.2.2, .ref f4333_9, .ref dr, .ref f4333_11, .int (nI f4333_12), .int f4333_13, .int 0, .int f4333_15, .int f4333_16, .ref f4333_17])), (dr, .inl (cs 0, 1383, .inl f4254))] [] _ _ := Bx.of (fun a => (κ a).1) hL hP (fa_c hb4333 (fa_c hbd fa_n)) (by simp only [List.map_cons, List.map_nil, hw.1, hdT.1]; decide)
          refine b_put (D := D) (ci := 9) (v := .int (nI (p4260 + 1))) (ty := .int) (C := RX9) (T := TX9) (N := 18) hx hb hts iX9_readSum_9 tyX9 tyX9_ok nmX9 hown hN hB 0 rfl rfl 4 (by decide) (hts _ mX9_readSum_1) (fun _ h9 => h9) rfl (by decide +kernel) rfl rfl (Nat.le_of_ble_eq_true rfl) (.inl rfl) dX9_readSum_51 (fun H locs hB => ?_)
          have hB : Bx B0 D _ [(w, .inr (9, [.int f4333_0, .ref bu, .int (nI ((κ w).2.2.1)), .int (nI tl), .int (nI (p4260 + 1)), .int er1, .int f4333_6, .int f4333_7, .ref (κ w).2.2.2, .ref f4333_9, .ref dr, .ref f4333_11, .int (nI f4333_12), .int f4333_13, .int 0, .int f4333_15, .int f4333_16, .ref f4333_17])), (dr, .inl (cs 0, 1383, .inl f4254))] [w] _ _ := hB
          refine lv_aload_n hx hb dX9_readSum_54 rfl (lv_at hl 1 rfl) ?_
          have hT : WT B0 D cs T κ _ := hT.close hB ⟨⟨0, _, rfl, ok_10 hw.1 ⟨_, _, _, _, _, _, _, _, _, _, _, _, _, _, _, _, rfl, (by omega), (by omega), (by omega), (by omega), hbT, t4333_8, t4333_9, c4333_sd, hdT, t4333_11, t4333_17⟩⟩, trivial⟩
          have hF : Fr B0 [12, 17] κ H0 _ := hF.close hB (fa_c (by simp [hw.2]) fa_n)
          have hL : OkL B0 _ := hB.2.2.2.2.2
          have hP : va_P D vwCl [(w, .inr (9, [.int f4333_0, .ref bu, .int (nI ((κ w).2.2.1)), .int (nI tl), .int (nI (p4260 + 1)), .int er1, .int f4333_6, .int f4333_7, .ref (κ w).2.2.2, .ref f4333_9, .ref dr, .ref f4333_11, .int (nI f4333_12), .int f4333_13, .int 0, .int f4333_15, .int f4333_16, .ref f4333_17])), (dr, .inl (cs 0, 1383, .inl f4254))] _ := hB.1
          have hbu9 := (hm.2.2.2.2.2.2.1).kept (hB.2.2.2.1 _ hm.2.2.2.2.2.2.1.lt (by simp only [List.mem_cons, List.not_mem_nil, or_false, not_or]; exact ne_c hbT.1 hw.1 (by decide)))
          have hm : MF D cs w _ ((p4260 + 1)) (tl) (er1) (0) dr bu g := ⟨⟨_, hP 0 _ rfl, rfl⟩, ⟨_, hP 0 _ rfl, rfl⟩, ⟨_, hP 0 _ rfl, rfl⟩, ⟨_, hP 0 _ rfl, rfl⟩, ⟨_, hP 0 _ rfl, rfl⟩, ⟨_, hP 0 _ rfl, rfl⟩, hbu9, (by omega), (by omega)⟩
          have hps : PS D cs w _ ((p4260 + 1)) (tl) (er1) (0) dr bu g (N1) ((h + 1)) := ⟨hm, f4254, hP 1 _ rfl, e4254, by omega, v4254⟩
          refine cv_v (As := []) (rest := []) (b := w) ⟨hx, hb, hml, hown, hts⟩ (c_X9_term_d0 hT (w := w) hw hbT hdT hps) (cwV 0 hts gX9_readSum_X9_term rfl rfl rfl hdX9_term_v ⟨Nat.le_of_ble_eq_true rfl, Nat.le_of_ble_eq_true rfl⟩) hN hE hL (rcv10 hN hT hw.1) rfl rfl hl.1 (Nat.le_of_ble_eq_true rfl) dX9_readSum_55 (Nat.zero_le _) (Nat.zero_le _) (fun H1 locs hL hqr4334 => ?_)
          obtain ⟨hT1, hF1, hqr4334⟩ := hqr4334
          have hF := hF.tr (hF1.mono (by simp))
          have hT := hT1
          obtain ⟨N4335, p4336, er4337, a4338, b4339, z4340, m4341, f4342, d4343, e4344, n4345, v4346⟩ := hqr4334
          have hm := m4341
          have hm8 := hm.2.2.2.2.2.2.2
          have hbd : B0 ≤ dr := (hT.o26 hdT.1).1
          have hDR := hT.dr hdT d4343
          have hP : va_P D vwCl [(dr, .inl (cs 0, 1383, .inl f4342))] _ := va_P.cons d4343 va_P.nil
          refine lv_aload_n hx hb dX9_readSum_58 rfl (lv_at hl 1 rfl) ?_
          refine lv_iload_n hx hb dX9_readSum_59 rfl (lv_at hl 0 rfl) ?_
          refine lv_if_eq (tgt := 67) hx hb dX9_readSum_60 (by decide) (fun _ => ?_) (fun c9 => absurd (by decide) c9)
          refine lv_iconst (v := 3) hx hb dX9_readSum_67 (by decide) ?_
          refine cv_v (As := [.int 3]) (rest := []) (b := w) ⟨hx, hb, hml, hown, hts⟩ (c_X9_emit hT (w := w) hw (x := 3) hbT hdT hm (hP 0 _ rfl) e4344 (fun _ => by omega)) (cwV 1 hts gX9_readSum_X9_emit rfl rfl rfl hdX9_emit_v ⟨Nat.le_of_ble_eq_true rfl, Nat.le_of_ble_eq_true rfl⟩) hN hE hL (rcv10 hN hT hw.1) rfl rfl hl.1 (Nat.le_of_ble_eq_true rfl) dX9_readSum_68 (Nat.zero_le _) (Nat.zero_le _) (fun H1 locs hL hqr4348 => ?_)
          obtain ⟨hT1, hF1, hqr4348⟩ := hqr4348
          have hF := hF.tr (hF1.mono (by simp))
          have hT := hT1
          obtain ⟨f4349, N4350, d4351, e4352, x4353, m4354⟩ := hqr4348
          have hm := m4354
          have hm8 := hm.2.2.2.2.2.2.2
          have nx4353 := x4353.n
          have ox4353 := nx4353.1
          have hbd : B0 ≤ dr := (hT.o26 hdT.1).1
          have hDR := hT.dr hdT d4351
          have hP : va_P D vwCl [(dr, .inl (cs 0, 1383, .inl f4349))] _ := va_P.cons d4351 va_P.nil
          refine lv_goto (tgt := 4) hx hb dX9_readSum_71 (by decide) ?_
          have hps : PS D cs w _ (p4336) (tl) (er4337) (0) dr bu g (N4350) ((h + 1)) := ⟨hm, f4349, hP 0 _ rfl, e4352, by omega, (EM.op x4353 (by decide) v4346)⟩
          exact ih4253 (p4336, N4350, er4337) _ _ _ (by show 600 - (p4336) < 600 - p; omega) ⟨hps, (by show (N4350) + 2 * pos ≤ N + 2 * (p4336); omega), (by show pos ≤ (p4336); omega), (fun e9 => hz1 (z4340 e9)), hT, hF, hL⟩ (lv_sub hl [1] rfl)
        · refine lv_iconst (v := 1) hx hb dX9_readSum_38 (by decide) ?_
          refine lv_goto (tgt := 43) hx hb dX9_readSum_39 (by decide) ?_
          refine lv_istore_n (lv' := [(1, .int 1), (0, .ref w)]) hx hb dX9_readSum_43 rfl hl (by decide) rfl (fun ls hl => ?_)
          refine lv_aload_n hx hb dX9_readSum_44 rfl (lv_at hl 1 rfl) ?_
          refine lv_dup hx hb dX9_readSum_45 rfl ?_
          obtain ⟨hb4356, e4356, hat4356, hk4356⟩ := hT.o10 hw.1
          obtain ⟨f4356_0, f4356_1, f4356_3, f4356_4, f4356_5, f4356_6, f4356_7, f4356_9, f4356_10, f4356_11, f4356_12, f4356_13, f4356_14, f4356_15, f4356_16, f4356_17, rfl, c4356_2, c4356_3, c4356_4, c4356_12, t4356_1, t4356_8, t4356_9, c4356_sd, t4356_10, t4356_11, t4356_17⟩ := hk4356
          obtain ⟨rfl, rfl, rfl, rfl, rfl, rfl⟩ := hm.at hat4356 c4356_3 (by omega)
          have hm8 := hm.2.2.2.2.2.2.2
          have hP : va_P D vwCl [(w, .inr (9, [.int f4356_0, .ref bu, .int (nI ((κ w).2.2.1)), .int (nI tl), .int (nI p4260), .int er1, .int f4356_6, .int f4356_7, .ref (κ w).2.2.2, .ref f4356_9, .ref dr, .ref f4356_11, .int (nI f4356_12), .int f4356_13, .int 0, .int f4356_15, .int f4356_16, .ref f4356_17])), (dr, .inl (cs 0, 1383, .inl f4254))] _ := va_P.cons hat4356 hP
          refine va_get (D := D) (ci := 9) (v := .int (nI p4260)) (C := RX9) (T := TX9) (N := 18) hx hb hts iX9_readSum_9 hown hN.1 hP 0 rfl rfl 4 (by decide) (hts _ mX9_readSum_1) (fun _ h9 => h9) rfl dX9_readSum_46 ?_
          refine lv_iconst (v := 1) hx hb dX9_readSum_49 (by decide) ?_
          refine lv_iadd hx hb dX9_readSum_50 ?_
          refine tp_i (nI (p4260 + 1)) (nI_add p4260 1) ?_
          have hB : Bx B0 D _ [(w, .inr (9, [.int f4356_0, .ref bu, .int (nI ((κ w).2.2.1)), .int (nI tl), .int (nI p4260), .int er1, .int f4356_6, .int f4356_7, .ref (κ w).2.2.2, .ref f4356_9, .ref dr, .ref f4356_11, .int (nI f4356_12), .int f4356_13, .int 0, .int f4356_15, .int f4356_16, .ref f4356_17])), (dr, .inl (cs 0, 1383, .inl f4254))] [] _ _ := Bx.of (fun a => (κ a).1) hL hP (fa_c hb4356 (fa_c hbd fa_n)) (by simp only [List.map_cons, List.map_nil, hw.1, hdT.1]; decide)
          refine b_put (D := D) (ci := 9) (v := .int (nI (p4260 + 1))) (ty := .int) (C := RX9) (T := TX9) (N := 18) hx hb hts iX9_readSum_9 tyX9 tyX9_ok nmX9 hown hN hB 0 rfl rfl 4 (by decide) (hts _ mX9_readSum_1) (fun _ h9 => h9) rfl (by decide +kernel) rfl rfl (Nat.le_of_ble_eq_true rfl) (.inl rfl) dX9_readSum_51 (fun H locs hB => ?_)
          have hB : Bx B0 D _ [(w, .inr (9, [.int f4356_0, .ref bu, .int (nI ((κ w).2.2.1)), .int (nI tl), .int (nI (p4260 + 1)), .int er1, .int f4356_6, .int f4356_7, .ref (κ w).2.2.2, .ref f4356_9, .ref dr, .ref f4356_11, .int (nI f4356_12), .int f4356_13, .int 0, .int f4356_15, .int f4356_16, .ref f4356_17])), (dr, .inl (cs 0, 1383, .inl f4254))] [w] _ _ := hB
          refine lv_aload_n hx hb dX9_readSum_54 rfl (lv_at hl 1 rfl) ?_
          have hT : WT B0 D cs T κ _ := hT.close hB ⟨⟨0, _, rfl, ok_10 hw.1 ⟨_, _, _, _, _, _, _, _, _, _, _, _, _, _, _, _, rfl, (by omega), (by omega), (by omega), (by omega), hbT, t4356_8, t4356_9, c4356_sd, hdT, t4356_11, t4356_17⟩⟩, trivial⟩
          have hF : Fr B0 [12, 17] κ H0 _ := hF.close hB (fa_c (by simp [hw.2]) fa_n)
          have hL : OkL B0 _ := hB.2.2.2.2.2
          have hP : va_P D vwCl [(w, .inr (9, [.int f4356_0, .ref bu, .int (nI ((κ w).2.2.1)), .int (nI tl), .int (nI (p4260 + 1)), .int er1, .int f4356_6, .int f4356_7, .ref (κ w).2.2.2, .ref f4356_9, .ref dr, .ref f4356_11, .int (nI f4356_12), .int f4356_13, .int 0, .int f4356_15, .int f4356_16, .ref f4356_17])), (dr, .inl (cs 0, 1383, .inl f4254))] _ := hB.1
          have hbu9 := (hm.2.2.2.2.2.2.1).kept (hB.2.2.2.1 _ hm.2.2.2.2.2.2.1.lt (by simp only [List.mem_cons, List.not_mem_nil, or_false, not_or]; exact ne_c hbT.1 hw.1 (by decide)))
          have hm : MF D cs w _ ((p4260 + 1)) (tl) (er1) (0) dr bu g := ⟨⟨_, hP 0 _ rfl, rfl⟩, ⟨_, hP 0 _ rfl, rfl⟩, ⟨_, hP 0 _ rfl, rfl⟩, ⟨_, hP 0 _ rfl, rfl⟩, ⟨_, hP 0 _ rfl, rfl⟩, ⟨_, hP 0 _ rfl, rfl⟩, hbu9, (by omega), (by omega)⟩
          have hps : PS D cs w _ ((p4260 + 1)) (tl) (er1) (0) dr bu g (N1) ((h + 1)) := ⟨hm, f4254, hP 1 _ rfl, e4254, by omega, v4254⟩
          refine cv_v (As := []) (rest := []) (b := w) ⟨hx, hb, hml, hown, hts⟩ (c_X9_term_d0 hT (w := w) hw hbT hdT hps) (cwV 0 hts gX9_readSum_X9_term rfl rfl rfl hdX9_term_v ⟨Nat.le_of_ble_eq_true rfl, Nat.le_of_ble_eq_true rfl⟩) hN hE hL (rcv10 hN hT hw.1) rfl rfl hl.1 (Nat.le_of_ble_eq_true rfl) dX9_readSum_55 (Nat.zero_le _) (Nat.zero_le _) (fun H1 locs hL hqr4357 => ?_)
          obtain ⟨hT1, hF1, hqr4357⟩ := hqr4357
          have hF := hF.tr (hF1.mono (by simp))
          have hT := hT1
          obtain ⟨N4358, p4359, er4360, a4361, b4362, z4363, m4364, f4365, d4366, e4367, n4368, v4369⟩ := hqr4357
          have hm := m4364
          have hm8 := hm.2.2.2.2.2.2.2
          have hbd : B0 ≤ dr := (hT.o26 hdT.1).1
          have hDR := hT.dr hdT d4366
          have hP : va_P D vwCl [(dr, .inl (cs 0, 1383, .inl f4365))] _ := va_P.cons d4366 va_P.nil
          refine lv_aload_n hx hb dX9_readSum_58 rfl (lv_at hl 1 rfl) ?_
          refine lv_iload_n hx hb dX9_readSum_59 rfl (lv_at hl 0 rfl) ?_
          refine lv_if_eq (tgt := 67) hx hb dX9_readSum_60 (by decide) (fun c9 => absurd c9 (by decide)) (fun _ => ?_)
          refine lv_iconst (v := 2) hx hb dX9_readSum_63 (by decide) ?_
          refine lv_goto (tgt := 68) hx hb dX9_readSum_64 (by decide) ?_
          refine cv_v (As := [.int 2]) (rest := []) (b := w) ⟨hx, hb, hml, hown, hts⟩ (c_X9_emit hT (w := w) hw (x := 2) hbT hdT hm (hP 0 _ rfl) e4367 (fun _ => by omega)) (cwV 1 hts gX9_readSum_X9_emit rfl rfl rfl hdX9_emit_v ⟨Nat.le_of_ble_eq_true rfl, Nat.le_of_ble_eq_true rfl⟩) hN hE hL (rcv10 hN hT hw.1) rfl rfl hl.1 (Nat.le_of_ble_eq_true rfl) dX9_readSum_68 (Nat.zero_le _) (Nat.zero_le _) (fun H1 locs hL hqr4371 => ?_)
          obtain ⟨hT1, hF1, hqr4371⟩ := hqr4371
          have hF := hF.tr (hF1.mono (by simp))
          have hT := hT1
          obtain ⟨f4372, N4373, d4374, e4375, x4376, m4377⟩ := hqr4371
          have hm := m4377
          have hm8 := hm.2.2.2.2.2.2.2
          have nx4376 := x4376.n
          have ox4376 := nx4376.1
          have hbd : B0 ≤ dr := (hT.o26 hdT.1).1
          have hDR := hT.dr hdT d4374
          have hP : va_P D vwCl [(dr, .inl (cs 0, 1383, .inl f4372))] _ := va_P.cons d4374 va_P.nil
          refine lv_goto (tgt := 4) hx hb dX9_readSum_71 (by decide) ?_
          have hps : PS D cs w _ (p4359) (tl) (er4360) (0) dr bu g (N4373) ((h + 1)) := ⟨hm, f4372, hP 0 _ rfl, e4375, by omega, (EM.op x4376 (by decide) v4369)⟩
          exact ih4253 (p4359, N4373, er4360) _ _ _ (by show 600 - (p4359) < 600 - p; omega) ⟨hps, (by show (N4373) + 2 * pos ≤ N + 2 * (p4359); omega), (by show pos ≤ (p4359); omega), (fun e9 => hz1 (z4363 e9)), hT, hF, hL⟩ (lv_sub hl [1] rfl)
  · refine lv_if_eq (tgt := 74) hx hb dX9_readSum_8 (by decide) (fun _ => ?_) (fun c9 => absurd (by decide) c9)
    have hps : PS D cs w _ (p) (tl) (er1) (0) dr bu g (N1) ((h + 1)) := ⟨hm, f4254, hP 0 _ rfl, e4254, by omega, v4254⟩
    exact en_v hx hb hr hlocks hL (Nat.zero_le _) (Nat.zero_le _) dX9_readSum_74 (⟨hT, hF, N1, p, er1, (by omega), (by omega), hz1, hps⟩)
theorem mX9_once_1 : (.fieldLink RX9 136 "OneBeatModel" "seen" "I" : Cond) ∈ wsX9_once := List.mem_of_getElem? (i := 1) (by decide +kernel)
theorem iX9_once_9 : ∀ w ∈ wsX90, w ∈ wsX9_once := fun w h => List.mem_of_mem_drop (List.mem_of_mem_take ((show wsX90 = (wsX9_once.drop 9).take 18 by decide +kernel) ▸ h))
set_option maxHeartbeats 4000000 in
set_option maxRecDepth 100000 in
theorem c_X9_once {l : Launch} {D : va_G} {cs : Nat → ClassId} {B0 T : Nat} {κ : KM} {H0 : Heap} (hT : WT B0 D cs T κ H0) {w : Nat} (hw : T2 κ w 10 12) {x : Int32} {y : Int32} {pos tl : Nat} {er ns : Int32} {dr bu : Nat} {g : Nat → Int32} (hbT : T2 κ bu 23 14) (hdT : T2 κ dr 26 17) (hm : MF D cs w H0 pos tl er ns dr bu g) : KC l yX9_once wsX9_once 1 22 0 0 D cs B0 H0 [.ref w, .int x, .int y] (Qv (fun H => WT B0 D cs T κ H ∧ Fr B0 [12] κ H0 H ∧ ∃ er1, (er1 = 0 → er = 0) ∧ MF D cs w H pos tl er1 ns dr bu g)) := by
  refine KC.of cX9_once 3 none (by decide) rfl (Nat.le_of_ble_eq_true rfl) ?_
  intro p e s m below meth c ls hx hb hr hml hown hts hlocks hin hN hE hH0 hl
  have hown : s.vm.findClass RX9 = some m.cls := hown
  have hl : lv_has ls 3 [(0, .ref w), (1, .int x), (2, .int y)] := hl
  have hL : OkL B0 [] := OkL.nil
  have hF : Fr B0 [12] κ H0 H0 := Fr.rf
  have hm8 := hm.2.2.2.2.2.2.2
  refine lv_aload_n hx hb dX9_once_0 rfl (lv_at hl 0 rfl) ?_
  obtain ⟨hb4379, e4379, hat4379, hk4379⟩ := hT.o10 hw.1
  obtain ⟨f4379_0, f4379_1, f4379_3, f4379_4, f4379_5, f4379_6, f4379_7, f4379_9, f4379_10, f4379_11, f4379_12, f4379_13, f4379_14, f4379_15, f4379_16, f4379_17, rfl, c4379_2, c4379_3, c4379_4, c4379_12, t4379_1, t4379_8, t4379_9, c4379_sd, t4379_10, t4379_11, t4379_17⟩ := hk4379
  obtain ⟨rfl, rfl, rfl, rfl, rfl, rfl⟩ := hm.at hat4379 c4379_3 (by omega)
  have hm8 := hm.2.2.2.2.2.2.2
  have hP : va_P D vwCl [(w, .inr (9, [.int f4379_0, .ref bu, .int (nI ((κ w).2.2.1)), .int (nI tl), .int (nI pos), .int er, .int f4379_6, .int f4379_7, .ref (κ w).2.2.2, .ref f4379_9, .ref dr, .ref f4379_11, .int (nI f4379_12), .int f4379_13, .int ns, .int f4379_15, .int f4379_16, .ref f4379_17]))] _ := va_P.cons hat4379 va_P.nil
  refine va_get (D := D) (ci := 9) (v := .int f4379_15) (C := RX9) (T := TX9) (N := 18) hx hb hts iX9_once_9 hown hN.1 hP 0 rfl rfl 15 (by decide) (hts _ mX9_once_1) (fun _ h9 => h9) rfl dX9_once_1 ?_
  refine lv_iload_n hx hb dX9_once_4 rfl (lv_at hl 1 rfl) ?_
  refine lv_ishr hx hb dX9_once_5 ?_
  refine gn_i (fun x4380 => ?_)
  refine lv_iconst (v := 1) hx hb dX9_once_6 (by decide) ?_
  refine lv_iand hx hb dX9_once_7 ?_
  refine gn_i (fun x4381 => ?_)
  refine lv_iconst (v := 1) hx hb dX9_once_8 (by decide) ?_
  refine lv_icmp_ne (tgt := 19) hx hb dX9_once_9 (by decide) (fun c4382 => ?_) (fun c4382 => ?_)
  · refine lv_aload_n hx hb dX9_once_19 rfl (lv_at hl 0 rfl) ?_
    refine lv_dup hx hb dX9_once_20 rfl ?_
    refine va_get (D := D) (ci := 9) (v := .int f4379_15) (C := RX9) (T := TX9) (N := 18) hx hb hts iX9_once_9 hown hN.1 hP 0 rfl rfl 15 (by decide) (hts _ mX9_once_1) (fun _ h9 => h9) rfl dX9_once_21 ?_
    refine lv_iconst (v := 1) hx hb dX9_once_24 (by decide) ?_
    refine lv_iload_n hx hb dX9_once_25 rfl (lv_at hl 1 rfl) ?_
    refine lv_ishl hx hb dX9_once_26 ?_
    refine gn_i (fun x4383 => ?_)
    refine lv_ior hx hb dX9_once_27 ?_
    refine gn_i (fun x4384 => ?_)
    have hB : Bx B0 D _ [(w, .inr (9, [.int f4379_0, .ref bu, .int (nI ((κ w).2.2.1)), .int (nI tl), .int (nI pos), .int er, .int f4379_6, .int f4379_7, .ref (κ w).2.2.2, .ref f4379_9, .ref dr, .ref f4379_11, .int (nI f4379_12), .int f4379_13, .int ns, .int f4379_15, .int f4379_16, .ref f4379_17]))] [] _ _ := Bx.of (fun a => (κ a).1) hL hP (fa_c hb4379 fa_n) (by simp only [List.map_cons, List.map_nil, hw.1]; decide)
    refine b_put (D := D) (ci := 9) (v := .int x4384) (ty := .int) (C := RX9) (T := TX9) (N := 18) hx hb hts iX9_once_9 tyX9 tyX9_ok nmX9 hown hN hB 0 rfl rfl 15 (by decide) (hts _ mX9_once_1) (fun _ h9 => h9) rfl (by decide +kernel) rfl rfl (Nat.le_of_ble_eq_true rfl) (.inl rfl) dX9_once_28 (fun H locs hB => ?_)
    have hB : Bx B0 D _ [(w, .inr (9, [.int f4379_0, .ref bu, .int (nI ((κ w).2.2.1)), .int (nI tl), .int (nI pos), .int er, .int f4379_6, .int f4379_7, .ref (κ w).2.2.2, .ref f4379_9, .ref dr, .ref f4379_11, .int (nI f4379_12), .int f4379_13, .int ns, .int x4384, .int f4379_16, .ref f4379_17]))] [w] _ _ := hB
    have hT : WT B0 D cs T κ _ := hT.close hB ⟨⟨0, _, rfl, ok_10 hw.1 ⟨_, _, _, _, _, _, _, _, _, _, _, _, _, _, _, _, rfl, (by omega), (by omega), (by omega), (by omega), hbT, t4379_8, t4379_9, c4379_sd, hdT, t4379_11, t4379_17⟩⟩, trivial⟩
    have hF : Fr B0 [12] κ H0 _ := hF.close hB (fa_c (by simp [hw.2]) fa_n)
    have hL : OkL B0 _ := hB.2.2.2.2.2
    have hP : va_P D vwCl [(w, .inr (9, [.int f4379_0, .ref bu, .int (nI ((κ w).2.2.1)), .int (nI tl), .int (nI pos), .int er, .int f4379_6, .int f4379_7, .ref (κ w).2.2.2, .ref f4379_9, .ref dr, .ref f4379_11, .int (nI f4379_12), .int f4379_13, .int ns, .int x4384, .int f4379_16, .ref f4379_17]))] _ := hB.1
    have hbu9 := (hm.2.2.2.2.2.2.1).kept (hB.2.2.2.1 _ hm.2.2.2.2.2.2.1.lt (by simp only [List.mem_cons, List.not_mem_nil, or_false, not_or]; exact ne_c hbT.1 hw.1 (by decide)))
    have hm : MF D cs w _ (pos) (tl) (er) (ns) dr bu g := ⟨⟨_, hP 0 _ rfl, rfl⟩, ⟨_, hP 0 _ rfl, rfl⟩, ⟨_, hP 0 _ rfl, rfl⟩, ⟨_, hP 0 _ rfl, rfl⟩, ⟨_, hP 0 _ rfl, rfl⟩, ⟨_, hP 0 _ rfl, rfl⟩, hbu9, (by omega), (by omega)⟩
    exact en_v hx hb hr hlocks hL (Nat.zero_le _) (Nat.zero_le _) dX9_once_31 (⟨hT, hF, _, id, hm⟩)
  · refine lv_aload_n hx hb dX9_once_12 rfl (lv_at hl 0 rfl) ?_
    refine lv_bipush (v := (-2)) hx hb dX9_once_13 (by decide) ?_
    refine lv_iload_n hx hb dX9_once_15 rfl (lv_at hl 2 rfl) ?_
    refine cv_v (As := [.int (-2), .int y]) (rest := []) (b := w) ⟨hx, hb, hml, hown, hts⟩ (c_X9_report hT (w := w) hw (x := (-2)) (y := y) hbT hdT hm ((by decide))) (cwV 2 hts gX9_once_X9_report rfl rfl rfl hdX9_report_v ⟨Nat.le_of_ble_eq_true rfl, Nat.le_of_ble_eq_true rfl⟩) hN hE hL (rcv10 hN hT hw.1) rfl rfl hl.1 (Nat.le_of_ble_eq_true rfl) dX9_once_16 (Nat.zero_le _) (Nat.zero_le _) (fun H1 locs hL hqr4385 => ?_)
    obtain ⟨hT1, hF1, hqr4385⟩ := hqr4385
    have hF := hF.tr (hF1.mono (by simp))
    have hT := hT1
    obtain ⟨er4386, z4387, m4388⟩ := hqr4385
    have hm := m4388
    have hm8 := hm.2.2.2.2.2.2.2
    refine lv_aload_n hx hb dX9_once_19 rfl (lv_at hl 0 rfl) ?_
    refine lv_dup hx hb dX9_once_20 rfl ?_
    obtain ⟨hb4389, e4389, hat4389, hk4389⟩ := hT.o10 hw.1
    obtain ⟨f4389_0, f4389_1, f4389_3, f4389_4, f4389_5, f4389_6, f4389_7, f4389_9, f4389_10, f4389_11, f4389_12, f4389_13, f4389_14, f4389_15, f4389_16, f4389_17, rfl, c4389_2, c4389_3, c4389_4, c4389_12, t4389_1, t4389_8, t4389_9, c4389_sd, t4389_10, t4389_11, t4389_17⟩ := hk4389
    obtain ⟨rfl, rfl, rfl, rfl, rfl, rfl⟩ := hm.at hat4389 c4389_3 (by omega)
    have hm8 := hm.2.2.2.2.2.2.2
    have hP : va_P D vwCl [(w, .inr (9, [.int f4389_0, .ref bu, .int (nI ((κ w).2.2.1)), .int (nI tl), .int (nI pos), .int er4386, .int f4389_6, .int f4389_7, .ref (κ w).2.2.2, .ref f4389_9, .ref dr, .ref f4389_11, .int (nI f4389_12), .int f4389_13, .int ns, .int f4389_15, .int f4389_16, .ref f4389_17]))] _ := va_P.cons hat4389 va_P.nil
    refine va_get (D := D) (ci := 9) (v := .int f4389_15) (C := RX9) (T := TX9) (N := 18) hx hb hts iX9_once_9 hown hN.1 hP 0 rfl rfl 15 (by decide) (hts _ mX9_once_1) (fun _ h9 => h9) rfl dX9_once_21 ?_
    refine lv_iconst (v := 1) hx hb dX9_once_24 (by decide) ?_
    refine lv_iload_n hx hb dX9_once_25 rfl (lv_at hl 1 rfl) ?_
    refine lv_ishl hx hb dX9_once_26 ?_
    refine gn_i (fun x4390 => ?_)
    refine lv_ior hx hb dX9_once_27 ?_
    refine gn_i (fun x4391 => ?_)
    have hB : Bx B0 D _ [(w, .inr (9, [.int f4389_0, .ref bu, .int (nI ((κ w).2.2.1)), .int (nI tl), .int (nI pos), .int er4386, .int f4389_6, .int f4389_7, .ref (κ w).2.2.2, .ref f4389_9, .ref dr, .ref f4389_11, .int (nI f4389_12), .int f4389_13, .int ns, .int f4389_15, .int f4389_16, .ref f4389_17]))] [] _ _ := Bx.of (fun a => (κ a).1) hL hP (fa_c hb4389 fa_n) (by simp only [List.map_cons, List.map_nil, hw.1]; decide)
    refine b_put (D := D) (ci := 9) (v := .int x4391) (ty := .int) (C := RX9) (T := TX9) (N := 18) hx hb hts iX9_once_9 tyX9 tyX9_ok nmX9 hown hN hB 0 rfl rfl 15 (by decide) (hts _ mX9_once_1) (fun _ h9 => h9) rfl (by decide +kernel) rfl rfl (Nat.le_of_ble_eq_true rfl) (.inl rfl) dX9_once_28 (fun H locs hB => ?_)
    have hB : Bx B0 D _ [(w, .inr (9, [.int f4389_0, .ref bu, .int (nI ((κ w).2.2.1)), .int (nI tl), .int (nI pos), .int er4386, .int f4389_6, .int f4389_7, .ref (κ w).2.2.2, .ref f4389_9, .ref dr, .ref f4389_11, .int (nI f4389_12), .int f4389_13, .int ns, .int x4391, .int f4389_16, .ref f4389_17]))] [w] _ _ := hB
    have hT : WT B0 D cs T κ _ := hT.close hB ⟨⟨0, _, rfl, ok_10 hw.1 ⟨_, _, _, _, _, _, _, _, _, _, _, _, _, _, _, _, rfl, (by omega), (by omega), (by omega), (by omega), hbT, t4389_8, t4389_9, c4389_sd, hdT, t4389_11, t4389_17⟩⟩, trivial⟩
    have hF : Fr B0 [12] κ H0 _ := hF.close hB (fa_c (by simp [hw.2]) fa_n)
    have hL : OkL B0 _ := hB.2.2.2.2.2
    have hP : va_P D vwCl [(w, .inr (9, [.int f4389_0, .ref bu, .int (nI ((κ w).2.2.1)), .int (nI tl), .int (nI pos), .int er4386, .int f4389_6, .int f4389_7, .ref (κ w).2.2.2, .ref f4389_9, .ref dr, .ref f4389_11, .int (nI f4389_12), .int f4389_13, .int ns, .int x4391, .int f4389_16, .ref f4389_17]))] _ := hB.1
    have hbu9 := (hm.2.2.2.2.2.2.1).kept (hB.2.2.2.1 _ hm.2.2.2.2.2.2.1.lt (by simp only [List.mem_cons, List.not_mem_nil, or_false, not_or]; exact ne_c hbT.1 hw.1 (by decide)))
    have hm : MF D cs w _ (pos) (tl) (er4386) (ns) dr bu g := ⟨⟨_, hP 0 _ rfl, rfl⟩, ⟨_, hP 0 _ rfl, rfl⟩, ⟨_, hP 0 _ rfl, rfl⟩, ⟨_, hP 0 _ rfl, rfl⟩, ⟨_, hP 0 _ rfl, rfl⟩, ⟨_, hP 0 _ rfl, rfl⟩, hbu9, (by omega), (by omega)⟩
    exact en_v hx hb hr hlocks hL (Nat.zero_le _) (Nat.zero_le _) dX9_once_31 (⟨hT, hF, _, (fun e9 => id ((fun e9 => absurd e9 z4387) e9)), hm⟩)
theorem mX9_signed_1 : (.fieldLink RX9 53 "OneBeatModel" "position" "I" : Cond) ∈ wsX9_signed := List.mem_of_getElem? (i := 1) (by decide +kernel)
theorem iX9_signed_9 : ∀ w ∈ wsX90, w ∈ wsX9_signed := fun w h => List.mem_of_mem_drop (List.mem_of_mem_take ((show wsX90 = (wsX9_signed.drop 38).take 18 by decide +kernel) ▸ h))
theorem mX9_signed_2 : (.constant RX9 97 (100000000) : Cond) ∈ wsX9_signed := List.mem_of_getElem? (i := 2) (by decide +kernel)
set_option maxHeartbeats 4000000 in
set_option maxRecDepth 100000 in
theorem c_X9_signed {l : Launch} {D : va_G} {cs : Nat → ClassId} {B0 T : Nat} {κ : KM} {H0 : Heap} (hT : WT B0 D cs T κ H0) {w : Nat} (hw : T2 κ w 10 12) {x : Int32} {pos tl : Nat} {er ns : Int32} {dr bu : Nat} {g : Nat → Int32} (hbT : T2 κ bu 23 14) (hdT : T2 κ dr 26 17) (hm : MF D cs w H0 pos tl er ns dr bu g) : KC l yX9_signed wsX9_signed 3 65 0 0 D cs B0 H0 [.ref w, .int x] (Qi (fun r H => WT B0 D cs T κ H ∧ Fr B0 [12] κ H0 H ∧ ∃ pos1 er1, pos ≤ pos1 ∧ (er1 = 0 → er = 0) ∧ MF D cs w H pos1 tl er1 ns dr bu g)) := by
  refine KC.of cX9_signed 5 (some .int) (by decide) rfl (Nat.le_of_ble_eq_true rfl) ?_
  intro p e s m below meth c ls hx hb hr hml hown hts hlocks hin hN hE hH0 hl
  have hown : s.vm.findClass RX9 = some m.cls := hown
  have hl : lv_has ls 5 [(0, .ref w), (1, .int x)] := hl
  have hL : OkL B0 [] := OkL.nil
  have hF : Fr B0 [12] κ H0 H0 := Fr.rf
  have hm8 := hm.2.2.2.2.2.2.2
  refine lv_aload_n hx hb dX9_signed_0 rfl (lv_at hl 0 rfl) ?_
  refine cv_i (As := []) (rest := []) (b := w) ⟨hx, hb, hml, hown, hts⟩ (c_X9_isGood hT (w := w) hw hbT hdT hm) (cwV 0 hts gX9_signed_X9_isGood rfl rfl rfl hdX9_isGood_v ⟨Nat.le_of_ble_eq_true rfl, Nat.le_of_ble_eq_true rfl⟩) hN hE hL (rcv10 hN hT hw.1) rfl rfl hl.1 (Nat.le_of_ble_eq_true rfl) dX9_signed_1 (Nat.zero_le _) (Nat.zero_le _) (fun r4392 H1 locs hL hqr4392 => ?_)
  obtain ⟨h9, hqr4392⟩ := hqr4392; replace h9 := h9.symm; subst h9
  rcases hqr4392 with ⟨rfl, e4393⟩ | ⟨rfl, e4394⟩
  · refine lv_if_ne (tgt := 9) hx hb dX9_signed_4 (by decide) (fun _ => ?_) (fun c9 => absurd c9 (by decide))
    refine lv_aload_n hx hb dX9_signed_9 rfl (lv_at hl 0 rfl) ?_
    refine cv_i (As := []) (rest := []) (b := w) ⟨hx, hb, hml, hown, hts⟩ (c_X9_ahead hT (w := w) hw hbT hdT hm) (cwV 0 hts gX9_signed_X9_ahead rfl rfl rfl hdX9_ahead_v ⟨Nat.le_of_ble_eq_true rfl, Nat.le_of_ble_eq_true rfl⟩) hN hE hL (rcv10 hN hT hw.1) rfl rfl hl.1 (Nat.le_of_ble_eq_true rfl) dX9_signed_10 (Nat.zero_le _) (Nat.zero_le _) (fun r4395 H1 locs hL hqr4395 => ?_)
    obtain ⟨hT1, hF1, hqr4395⟩ := hqr4395
    have hF := hF.tr (hF1.mono (by simp))
    have hT := hT1
    obtain ⟨p4396, h4397, m4398, n4399, s4400, rfl⟩ := hqr4395
    have hm := m4398
    have hm8 := hm.2.2.2.2.2.2.2
    refine lv_istore_n (lv' := [(2, .int (byF g tl p4396)), (0, .ref w), (1, .int x)]) hx hb dX9_signed_13 rfl hl (by decide) rfl (fun ls hl => ?_)
    refine lv_aload_n hx hb dX9_signed_14 rfl (lv_at hl 1 rfl) ?_
    obtain ⟨hb4401, e4401, hat4401, hk4401⟩ := hT.o10 hw.1
    obtain ⟨f4401_0, f4401_1, f4401_3, f4401_4, f4401_5, f4401_6, f4401_7, f4401_9, f4401_10, f4401_11, f4401_12, f4401_13, f4401_14, f4401_15, f4401_16, f4401_17, rfl, c4401_2, c4401_3, c4401_4, c4401_12, t4401_1, t4401_8, t4401_9, c4401_sd, t4401_10, t4401_11, t4401_17⟩ := hk4401
    obtain ⟨rfl, rfl, rfl, rfl, rfl, rfl⟩ := hm.at hat4401 c4401_3 (by omega)
    have hm8 := hm.2.2.2.2.2.2.2
    have hP : va_P D vwCl [(w, .inr (9, [.int f4401_0, .ref bu, .int (nI ((κ w).2.2.1)), .int (nI tl), .int (nI p4396), .int er, .int f4401_6, .int f4401_7, .ref (κ w).2.2.2, .ref f4401_9, .ref dr, .ref f4401_11, .int (nI f4401_12), .int f4401_13, .int ns, .int f4401_15, .int f4401_16, .ref f4401_17]))] _ := va_P.cons hat4401 va_P.nil
    refine va_get (D := D) (ci := 9) (v := .int (nI p4396)) (C := RX9) (T := TX9) (N := 18) hx hb hts iX9_signed_9 hown hN.1 hP 0 rfl rfl 4 (by decide) (hts _ mX9_signed_1) (fun _ h9 => h9) rfl dX9_signed_15 ?_
    refine lv_istore_n (lv' := [(3, .int (nI p4396)), (2, .int (byF g tl p4396)), (0, .ref w), (1, .int x)]) hx hb dX9_signed_18 rfl hl (by decide) rfl (fun ls hl => ?_)
    refine lv_iload_n hx hb dX9_signed_19 rfl (lv_at hl 1 rfl) ?_
    refine lv_bipush (v := 45) hx hb dX9_signed_20 (by decide) ?_
    refine lv_icmp_eq (tgt := 32) hx hb dX9_signed_22 (by decide) (fun c4402 => ?_) (fun c4402 => ?_)
    · have hl9 := byF_c (c4402) (by decide)
      refine lv_aload_n hx hb dX9_signed_32 rfl (lv_at hl 2 rfl) ?_
      refine lv_dup hx hb dX9_signed_33 rfl ?_
      refine va_get (D := D) (ci := 9) (v := .int (nI p4396)) (C := RX9) (T := TX9) (N := 18) hx hb hts iX9_signed_9 hown hN.1 hP 0 rfl rfl 4 (by decide) (hts _ mX9_signed_1) (fun _ h9 => h9) rfl dX9_signed_34 ?_
      refine lv_iconst (v := 1) hx hb dX9_signed_37 (by decide) ?_
      refine lv_iadd hx hb dX9_signed_38 ?_
      refine tp_i (nI (p4396 + 1)) (nI_add p4396 1) ?_
      have hB : Bx B0 D _ [(w, .inr (9, [.int f4401_0, .ref bu, .int (nI ((κ w).2.2.1)), .int (nI tl), .int (nI p4396), .int er, .int f4401_6, .int f4401_7, .ref (κ w).2.2.2, .ref f4401_9, .ref dr, .ref f4401_11, .int (nI f4401_12), .int f4401_13, .int ns, .int f4401_15, .int f4401_16, .ref f4401_17]))] [] _ _ := Bx.of (fun a => (κ a).1) hL hP (fa_c hb4401 fa_n) (by simp only [List.map_cons, List.map_nil, hw.1]; decide)
      refine b_put (D := D) (ci := 9) (v := .int (nI (p4396 + 1))) (ty := .int) (C := RX9) (T := TX9) (N := 18) hx hb hts iX9_signed_9 tyX9 tyX9_ok nmX9 hown hN hB 0 rfl rfl 4 (by decide) (hts _ mX9_signed_1) (fun _ h9 => h9) rfl (by decide +kernel) rfl rfl (Nat.le_of_ble_eq_true rfl) (.inl rfl) dX9_signed_39 (fun H locs hB => ?_)
      have hB : Bx B0 D _ [(w, .inr (9, [.int f4401_0, .ref bu, .int (nI ((κ w).2.2.1)), .int (nI tl), .int (nI (p4396 + 1)), .int er, .int f4401_6, .int f4401_7, .ref (κ w).2.2.2, .ref f4401_9, .ref dr, .ref f4401_11, .int (nI f4401_12), .int f4401_13, .int ns, .int f4401_15, .int f4401_16, .ref f4401_17]))] [w] _ _ := hB
      refine lv_aload_n hx hb dX9_signed_42 rfl (lv_at hl 2 rfl) ?_
      refine lv_iconst (v := 0) hx hb dX9_signed_43 (by decide) ?_
      refine lv_ldc (v := 100000000) hx hb hown (hts _ mX9_signed_2) dX9_signed_44 ?_
      have hT : WT B0 D cs T κ _ := hT.close hB ⟨⟨0, _, rfl, ok_10 hw.1 ⟨_, _, _, _, _, _, _, _, _, _, _, _, _, _, _, _, rfl, (by omega), (by omega), (by omega), (by omega), hbT, t4401_8, t4401_9, c4401_sd, hdT, t4401_11, t4401_17⟩⟩, trivial⟩
      have hF : Fr B0 [12] κ H0 _ := hF.close hB (fa_c (by simp [hw.2]) fa_n)
      have hL : OkL B0 _ := hB.2.2.2.2.2
      have hP : va_P D vwCl [(w, .inr (9, [.int f4401_0, .ref bu, .int (nI ((κ w).2.2.1)), .int (nI tl), .int (nI (p4396 + 1)), .int er, .int f4401_6, .int f4401_7, .ref (κ w).2.2.2, .ref f4401_9, .ref dr, .ref f4401_11, .int (nI f4401_12), .int f4401_13, .int ns, .int f4401_15, .int f4401_16, .ref f4401_17]))] _ := hB.1
      have hbu9 := (hm.2.2.2.2.2.2.1).kept (hB.2.2.2.1 _ hm.2.2.2.2.2.2.1.lt (by simp only [List.mem_cons, List.not_mem_nil, or_false, not_or]; exact ne_c hbT.1 hw.1 (by decide)))
      have hm : MF D cs w _ ((p4396 + 1)) (tl) (er) (ns) dr bu g := ⟨⟨_, hP 0 _ rfl, rfl⟩, ⟨_, hP 0 _ rfl, rfl⟩, ⟨_, hP 0 _ rfl, rfl⟩, ⟨_, hP 0 _ rfl, rfl⟩, ⟨_, hP 0 _ rfl, rfl⟩, ⟨_, hP 0 _ rfl, rfl⟩, hbu9, (by omega), (by omega)⟩
      refine cv_i (As := [.int 0, .int 100000000]) (rest := []) (b := w) ⟨hx, hb, hml, hown, hts⟩ (c_X9_number hT (w := w) hw (x := 0) (y := 100000000) hbT hdT hm) (cwV 2 hts gX9_signed_X9_number rfl rfl rfl hdX9_number_v ⟨Nat.le_of_ble_eq_true rfl, Nat.le_of_ble_eq_true rfl⟩) hN hE hL (rcv10 hN hT hw.1) rfl rfl hl.1 (Nat.le_of_ble_eq_true rfl) dX9_signed_46 (Nat.zero_le _) (Nat.zero_le _) (fun r4403 H1 locs hL hqr4403 => ?_)
      obtain ⟨hT1, hF1, hqr4403⟩ := hqr4403
      have hF := hF.tr (hF1.mono (by simp))
      have hT := hT1
      obtain ⟨p4404, er4405, a4406, z4407, m4408, q4409⟩ := hqr4403
      have hm := m4408
      have hm8 := hm.2.2.2.2.2.2.2
      refine lv_istore (lv' := [(4, .int r4403), (3, .int (nI p4396)), (2, .int (byF g tl p4396)), (0, .ref w), (1, .int x)]) hx hb dX9_signed_49 hl (by decide) rfl (fun ls hl => ?_)
      refine lv_aload_n hx hb dX9_signed_51 rfl (lv_at hl 3 rfl) ?_
      refine cv_i (As := []) (rest := []) (b := w) ⟨hx, hb, hml, hown, hts⟩ (c_X9_isGood hT (w := w) hw hbT hdT hm) (cwV 0 hts gX9_signed_X9_isGood rfl rfl rfl hdX9_isGood_v ⟨Nat.le_of_ble_eq_true rfl, Nat.le_of_ble_eq_true rfl⟩) hN hE hL (rcv10 hN hT hw.1) rfl rfl hl.1 (Nat.le_of_ble_eq_true rfl) dX9_signed_52 (Nat.zero_le _) (Nat.zero_le _) (fun r4410 H1 locs hL hqr4410 => ?_)
      obtain ⟨h9, hqr4410⟩ := hqr4410; replace h9 := h9.symm; subst h9
      rcases hqr4410 with ⟨rfl, e4411⟩ | ⟨rfl, e4412⟩
      · refine lv_if_eq (tgt := 71) hx hb dX9_signed_55 (by decide) (fun c9 => absurd c9 (by decide)) (fun _ => ?_)
        refine lv_iload hx hb dX9_signed_58 (lv_at hl 0 rfl) ?_
        refine lv_iload_n hx hb dX9_signed_60 rfl (lv_at hl 4 rfl) ?_
        refine lv_icmp_le (tgt := 71) hx hb dX9_signed_61 (by decide) (fun c4413 => ?_) (fun c4413 => ?_)
        · refine lv_iload hx hb dX9_signed_71 (lv_at hl 0 rfl) ?_
          refine lv_ineg hx hb dX9_signed_73 ?_
          refine gn_i (fun x4414 => ?_)
          exact en_i hx hb hr hlocks hL rfl (Nat.zero_le _) (Nat.zero_le _) dX9_signed_74 (⟨hT, hF, p4404, er4405, (by omega), (fun e9 => id ((fun e9 => (z4407 e9).1) e9)), hm⟩)
        · refine lv_aload_n hx hb dX9_signed_64 rfl (lv_at hl 3 rfl) ?_
          refine lv_bipush (v := (-3)) hx hb dX9_signed_65 (by decide) ?_
          refine lv_iload_n hx hb dX9_signed_67 rfl (lv_at hl 1 rfl) ?_
          refine cv_v (As := [.int (-3), .int (nI p4396)]) (rest := []) (b := w) ⟨hx, hb, hml, hown, hts⟩ (c_X9_report hT (w := w) hw (x := (-3)) (y := (nI p4396)) hbT hdT hm ((by decide))) (cwV 2 hts gX9_signed_X9_report rfl rfl rfl hdX9_report_v ⟨Nat.le_of_ble_eq_true rfl, Nat.le_of_ble_eq_true rfl⟩) hN hE hL (rcv10 hN hT hw.1) rfl rfl hl.1 (Nat.le_of_ble_eq_true rfl) dX9_signed_68 (Nat.zero_le _) (Nat.zero_le _) (fun H1 locs hL hqr4415 => ?_)
          obtain ⟨hT1, hF1, hqr4415⟩ := hqr4415
          have hF := hF.tr (hF1.mono (by simp))
          have hT := hT1
          obtain ⟨er4416, z4417, m4418⟩ := hqr4415
          have hm := m4418
          have hm8 := hm.2.2.2.2.2.2.2
          refine lv_iload hx hb dX9_signed_71 (lv_at hl 0 rfl) ?_
          refine lv_ineg hx hb dX9_signed_73 ?_
          refine gn_i (fun x4419 => ?_)
          exact en_i hx hb hr hlocks hL rfl (Nat.zero_le _) (Nat.zero_le _) dX9_signed_74 (⟨hT, hF, p4404, er4416, (by omega), (fun e9 => (fun e9 => id ((fun e9 => (z4407 e9).1) e9)) ((fun e9 => absurd e9 z4417) e9)), hm⟩)
      · refine lv_if_eq (tgt := 71) hx hb dX9_signed_55 (by decide) (fun _ => ?_) (fun c9 => absurd (by decide) c9)
        refine lv_iload hx hb dX9_signed_71 (lv_at hl 0 rfl) ?_
        refine lv_ineg hx hb dX9_signed_73 ?_
        refine gn_i (fun x4420 => ?_)
        exact en_i hx hb hr hlocks hL rfl (Nat.zero_le _) (Nat.zero_le _) dX9_signed_74 (⟨hT, hF, p4404, er4405, (by omega), (fun e9 => id ((fun e9 => (z4407 e9).1) e9)), hm⟩)
    · refine lv_aload_n hx hb dX9_signed_25 rfl (lv_at hl 2 rfl) ?_
      refine lv_iconst (v := 0) hx hb dX9_signed_26 (by decide) ?_
      refine lv_iload_n hx hb dX9_signed_27 rfl (lv_at hl 3 rfl) ?_
      refine cv_i (As := [.int 0, .int x]) (rest := []) (b := w) ⟨hx, hb, hml, hown, hts⟩ (c_X9_number hT (w := w) hw (x := 0) (y := x) hbT hdT hm) (cwV 2 hts gX9_signed_X9_number rfl rfl rfl hdX9_number_v ⟨Nat.le_of_ble_eq_true rfl, Nat.le_of_ble_eq_true rfl⟩) hN hE hL (rcv10 hN hT hw.1) rfl rfl hl.1 (Nat.le_of_ble_eq_true rfl) dX9_signed_28 (Nat.zero_le _) (Nat.zero_le _) (fun r4421 H1 locs hL hqr4421 => ?_)
      obtain ⟨hT1, hF1, hqr4421⟩ := hqr4421
      have hF := hF.tr (hF1.mono (by simp))
      have hT := hT1
      obtain ⟨p4422, er4423, a4424, z4425, m4426, q4427⟩ := hqr4421
      have hm := m4426
      have hm8 := hm.2.2.2.2.2.2.2
      exact en_i hx hb hr hlocks hL rfl (Nat.zero_le _) (Nat.zero_le _) dX9_signed_31 (⟨hT, hF, p4422, er4423, (by omega), (fun e9 => id ((fun e9 => (z4425 e9).1) e9)), hm⟩)
  · refine lv_if_ne (tgt := 9) hx hb dX9_signed_4 (by decide) (fun c9 => absurd (by decide) c9) (fun _ => ?_)
    refine lv_iconst (v := 0) hx hb dX9_signed_7 (by decide) ?_
    exact en_i hx hb hr hlocks hL rfl (Nat.zero_le _) (Nat.zero_le _) dX9_signed_8 (⟨hT, hF, pos, er, (by omega), id, hm⟩)
theorem mX9_readClock_1 : (.fieldLink RX9 24 "OneBeatModel" "draft" "[I" : Cond) ∈ wsX9_readClock := List.mem_of_getElem? (i := 1) (by decide +kernel)
theorem iX9_readClock_9 : ∀ w ∈ wsX90, w ∈ wsX9_readClock := fun w h => List.mem_of_mem_drop (List.mem_of_mem_take ((show wsX90 = (wsX9_readClock.drop 47).take 18 by decide +kernel) ▸ h))
theorem mX9_readClock_2 : (.fieldLink RX9 139 "OneBeatModel" "toldClocks" "I" : Cond) ∈ wsX9_readClock := List.mem_of_getElem? (i := 2) (by decide +kernel)
theorem hdX9_signed_v : yX9_signed.cls = RX9 ∧ yX9_signed.cls ≠ "java/lang/invoke/MethodHandle" ∧ yX9_signed.cls ≠ "java/lang/invoke/VarHandle" ∧ (parseMethodDescriptor yX9_signed.desc).map (fun d => d.parameters.length) = some 1 := by decide +kernel
theorem mX9_readClock_3 : (.fieldLink RX9 94 "OneBeatModel" "numberStart" "I" : Cond) ∈ wsX9_readClock := List.mem_of_getElem? (i := 3) (by decide +kernel)
set_option maxHeartbeats 4000000 in
set_option maxRecDepth 100000 in
theorem c_X9_readClock {l : Launch} {D : va_G} {cs : Nat → ClassId} {B0 T : Nat} {κ : KM} {H0 : Heap} (hT : WT B0 D cs T κ H0) {w : Nat} (hw : T2 κ w 10 12) {pos tl : Nat} {er ns : Int32} {dr bu : Nat} {g : Nat → Int32} {N h : Nat} (hbT : T2 κ bu 23 14) (hdT : T2 κ dr 26 17) (hps : PS D cs w H0 pos tl er ns dr bu g N h) : KC l yX9_readClock wsX9_readClock 4 89 0 0 D cs B0 H0 [.ref w] (Qv (fun H => WT B0 D cs T κ H ∧ Fr B0 [12, 17] κ H0 H ∧ ∃ pos1 er1, pos ≤ pos1 ∧ (er1 = 0 → er = 0) ∧ PS D cs w H pos1 tl er1 ns dr bu g N h)) := by
  refine KC.of cX9_readClock 4 none (by decide) rfl (Nat.le_of_ble_eq_true rfl) ?_
  intro p e s m below meth c ls hx hb hr hml hown hts hlocks hin hN hE hH0 hl
  have hown : s.vm.findClass RX9 = some m.cls := hown
  have hl : lv_has ls 4 [(0, .ref w)] := hl
  have hL : OkL B0 [] := OkL.nil
  have hF : Fr B0 [12, 17] κ H0 H0 := Fr.rf
  obtain ⟨hm, f4428, hd4428, e4428, n4428, v4428⟩ := hps
  have hm8 := hm.2.2.2.2.2.2.2
  have hbd : B0 ≤ dr := (hT.o26 hdT.1).1
  have hDR := hT.dr hdT hd4428
  have hP : va_P D vwCl [(dr, .inl (cs 0, 1383, .inl f4428))] _ := va_P.cons hd4428 va_P.nil
  refine lv_aload_n hx hb dX9_readClock_0 rfl (lv_at hl 0 rfl) ?_
  refine lv_iconst (v := 0) hx hb dX9_readClock_1 (by decide) ?_
  refine lv_aload_n hx hb dX9_readClock_2 rfl (lv_at hl 0 rfl) ?_
  obtain ⟨hb4430, e4430, hat4430, hk4430⟩ := hT.o10 hw.1
  obtain ⟨f4430_0, f4430_1, f4430_3, f4430_4, f4430_5, f4430_6, f4430_7, f4430_9, f4430_10, f4430_11, f4430_12, f4430_13, f4430_14, f4430_15, f4430_16, f4430_17, rfl, c4430_2, c4430_3, c4430_4, c4430_12, t4430_1, t4430_8, t4430_9, c4430_sd, t4430_10, t4430_11, t4430_17⟩ := hk4430
  obtain ⟨rfl, rfl, rfl, rfl, rfl, rfl⟩ := hm.at hat4430 c4430_3 (by omega)
  have hm8 := hm.2.2.2.2.2.2.2
  have hP : va_P D vwCl [(w, .inr (9, [.int f4430_0, .ref bu, .int (nI ((κ w).2.2.1)), .int (nI tl), .int (nI pos), .int er, .int f4430_6, .int f4430_7, .ref (κ w).2.2.2, .ref f4430_9, .ref dr, .ref f4430_11, .int (nI f4430_12), .int f4430_13, .int ns, .int f4430_15, .int f4430_16, .ref f4430_17])), (dr, .inl (cs 0, 1383, .inl f4428))] _ := va_P.cons hat4430 hP
  refine va_get (D := D) (ci := 9) (v := .ref dr) (C := RX9) (T := TX9) (N := 18) hx hb hts iX9_readClock_9 hown hN.1 hP 0 rfl rfl 10 (by decide) (hts _ mX9_readClock_1) (fun _ h9 => h9) rfl dX9_readClock_3 ?_
  refine lv_iconst (v := 0) hx hb dX9_readClock_6 (by decide) ?_
  refine ld_i (v := (f4428 0)) hx hb hN hP 1 rfl (vp_in_nI (n := 0) (N := 1383) (by omega) (by omega)) (by rw [(show (0 : Int32).toNatClampNeg = 0 from nI_clamp (n := 0) (by omega))]) dX9_readClock_7 ?_
  obtain ⟨n4431, hn4431, en4431⟩ := hDR.1
  refine tp_i (nI n4431) en4431 ?_
  refine lv_iconst (v := 1) hx hb dX9_readClock_8 (by decide) ?_
  refine lv_isub hx hb dX9_readClock_9 ?_
  refine cv_i (As := [.int 0, .int ((nI n4431) - 1)]) (rest := []) (b := w) ⟨hx, hb, hml, hown, hts⟩ (c_X9_number hT (w := w) hw (x := 0) (y := ((nI n4431) - 1)) hbT hdT hm) (cwV 2 hts gX9_readClock_X9_number rfl rfl rfl hdX9_number_v ⟨Nat.le_of_ble_eq_true rfl, Nat.le_of_ble_eq_true rfl⟩) hN hE hL (rcv10 hN hT hw.1) rfl rfl hl.1 (Nat.le_of_ble_eq_true rfl) dX9_readClock_10 (Nat.zero_le _) (Nat.zero_le _) (fun r4432 H1 locs hL hqr4432 => ?_)
  obtain ⟨hT1, hF1, hqr4432⟩ := hqr4432
  have hP : va_P D vwCl [(dr, .inl (cs 0, 1383, .inl f4428))] _ := hF1.hP (hP.sub [1] rfl) (fa_c ⟨by rw [hdT.1]; decide, by rw [hdT.2]; first | decide | (simp; done) | (simp [h15a, h15b, h15c]; done) | (simp; omega)⟩ fa_n)
  have hF := hF.tr (hF1.mono (by simp))
  have hT := hT1
  obtain ⟨p4433, er4434, a4435, z4436, m4437, q4438⟩ := hqr4432
  have hm := m4437
  have hm8 := hm.2.2.2.2.2.2.2
  obtain ⟨n4439, hn4439, rfl⟩ := num_p (by omega) q4438
  refine lv_istore_n (lv' := [(1, .int (nI n4439)), (0, .ref w)]) hx hb dX9_readClock_13 rfl hl (by decide) rfl (fun ls hl => ?_)
  refine lv_aload_n hx hb dX9_readClock_14 rfl (lv_at hl 1 rfl) ?_
  refine cv_i (As := []) (rest := []) (b := w) ⟨hx, hb, hml, hown, hts⟩ (c_X9_isGood hT (w := w) hw hbT hdT hm) (cwV 0 hts gX9_readClock_X9_isGood rfl rfl rfl hdX9_isGood_v ⟨Nat.le_of_ble_eq_true rfl, Nat.le_of_ble_eq_true rfl⟩) hN hE hL (rcv10 hN hT hw.1) rfl rfl hl.1 (Nat.le_of_ble_eq_true rfl) dX9_readClock_15 (Nat.zero_le _) (Nat.zero_le _) (fun r4440 H1 locs hL hqr4440 => ?_)
  obtain ⟨h9, hqr4440⟩ := hqr4440; replace h9 := h9.symm; subst h9
  rcases hqr4440 with ⟨rfl, e4441⟩ | ⟨rfl, e4442⟩
  · refine lv_if_eq (tgt := 43) hx hb dX9_readClock_18 (by decide) (fun c9 => absurd c9 (by decide)) (fun _ => ?_)
    refine lv_aload_n hx hb dX9_readClock_21 rfl (lv_at hl 1 rfl) ?_
    obtain ⟨hb4443, e4443, hat4443, hk4443⟩ := hT.o10 hw.1
    obtain ⟨f4443_0, f4443_1, f4443_3, f4443_4, f4443_5, f4443_6, f4443_7, f4443_9, f4443_10, f4443_11, f4443_12, f4443_13, f4443_14, f4443_15, f4443_16, f4443_17, rfl, c4443_2, c4443_3, c4443_4, c4443_12, t4443_1, t4443_8, t4443_9, c4443_sd, t4443_10, t4443_11, t4443_17⟩ := hk4443
    obtain ⟨rfl, rfl, rfl, rfl, rfl, rfl⟩ := hm.at hat4443 c4443_3 (by omega)
    have hm8 := hm.2.2.2.2.2.2.2
    have hP : va_P D vwCl [(w, .inr (9, [.int f4443_0, .ref bu, .int (nI ((κ w).2.2.1)), .int (nI tl), .int (nI p4433), .int er4434, .int f4443_6, .int f4443_7, .ref (κ w).2.2.2, .ref f4443_9, .ref dr, .ref f4443_11, .int (nI f4443_12), .int f4443_13, .int ns, .int f4443_15, .int f4443_16, .ref f4443_17])), (dr, .inl (cs 0, 1383, .inl f4428))] _ := va_P.cons hat4443 hP
    refine va_get (D := D) (ci := 9) (v := .int f4443_16) (C := RX9) (T := TX9) (N := 18) hx hb hts iX9_readClock_9 hown hN.1 hP 0 rfl rfl 16 (by decide) (hts _ mX9_readClock_2) (fun _ h9 => h9) rfl dX9_readClock_22 ?_
    refine lv_iload_n hx hb dX9_readClock_25 rfl (lv_at hl 0 rfl) ?_
    refine lv_ishr hx hb dX9_readClock_26 ?_
    refine gn_i (fun x4444 => ?_)
    refine lv_iconst (v := 1) hx hb dX9_readClock_27 (by decide) ?_
    refine lv_iand hx hb dX9_readClock_28 ?_
    refine gn_i (fun x4445 => ?_)
    refine lv_iconst (v := 1) hx hb dX9_readClock_29 (by decide) ?_
    refine lv_icmp_ne (tgt := 43) hx hb dX9_readClock_30 (by decide) (fun c4446 => ?_) (fun c4446 => ?_)
    · refine lv_aload_n hx hb dX9_readClock_43 rfl (lv_at hl 1 rfl) ?_
      refine lv_sipush (v := 999) hx hb dX9_readClock_44 (by decide) ?_
      refine cv_i (As := [.int 999]) (rest := []) (b := w) ⟨hx, hb, hml, hown, hts⟩ (c_X9_signed hT (w := w) hw (x := 999) hbT hdT hm) (cwV 1 hts gX9_readClock_X9_signed rfl rfl rfl hdX9_signed_v ⟨Nat.le_of_ble_eq_true rfl, Nat.le_of_ble_eq_true rfl⟩) hN hE hL (rcv10 hN hT hw.1) rfl rfl hl.1 (Nat.le_of_ble_eq_true rfl) dX9_readClock_47 (Nat.zero_le _) (Nat.zero_le _) (fun r4447 H1 locs hL hqr4447 => ?_)
      obtain ⟨hT1, hF1, hqr4447⟩ := hqr4447
      have hP : va_P D vwCl [(dr, .inl (cs 0, 1383, .inl f4428))] _ := hF1.hP (hP.sub [1] rfl) (fa_c ⟨by rw [hdT.1]; decide, by rw [hdT.2]; first | decide | (simp; done) | (simp [h15a, h15b, h15c]; done) | (simp; omega)⟩ fa_n)
      have hF := hF.tr (hF1.mono (by simp))
      have hT := hT1
      obtain ⟨p4448, er4449, a4450, z4451, m4452⟩ := hqr4447
      have hm := m4452
      have hm8 := hm.2.2.2.2.2.2.2
      refine lv_istore_n (lv' := [(2, .int r4447), (1, .int (nI n4439)), (0, .ref w)]) hx hb dX9_readClock_50 rfl hl (by decide) rfl (fun ls hl => ?_)
      refine lv_aload_n hx hb dX9_readClock_51 rfl (lv_at hl 2 rfl) ?_
      refine lv_bipush (v := 50) hx hb dX9_readClock_52 (by decide) ?_
      refine cv_i (As := [.int 50]) (rest := []) (b := w) ⟨hx, hb, hml, hown, hts⟩ (c_X9_signed hT (w := w) hw (x := 50) hbT hdT hm) (cwV 1 hts gX9_readClock_X9_signed rfl rfl rfl hdX9_signed_v ⟨Nat.le_of_ble_eq_true rfl, Nat.le_of_ble_eq_true rfl⟩) hN hE hL (rcv10 hN hT hw.1) rfl rfl hl.1 (Nat.le_of_ble_eq_true rfl) dX9_readClock_54 (Nat.zero_le _) (Nat.zero_le _) (fun r4453 H1 locs hL hqr4453 => ?_)
      obtain ⟨hT1, hF1, hqr4453⟩ := hqr4453
      have hP : va_P D vwCl [(dr, .inl (cs 0, 1383, .inl f4428))] _ := hF1.hP (hP.sub [0] rfl) (fa_c ⟨by rw [hdT.1]; decide, by rw [hdT.2]; first | decide | (simp; done) | (simp [h15a, h15b, h15c]; done) | (simp; omega)⟩ fa_n)
      have hF := hF.tr (hF1.mono (by simp))
      have hT := hT1
      obtain ⟨p4454, er4455, a4456, z4457, m4458⟩ := hqr4453
      have hm := m4458
      have hm8 := hm.2.2.2.2.2.2.2
      refine lv_istore_n (lv' := [(3, .int r4453), (2, .int r4447), (1, .int (nI n4439)), (0, .ref w)]) hx hb dX9_readClock_57 rfl hl (by decide) rfl (fun ls hl => ?_)
      refine lv_aload_n hx hb dX9_readClock_58 rfl (lv_at hl 3 rfl) ?_
      refine cv_i (As := []) (rest := []) (b := w) ⟨hx, hb, hml, hown, hts⟩ (c_X9_isGood hT (w := w) hw hbT hdT hm) (cwV 0 hts gX9_readClock_X9_isGood rfl rfl rfl hdX9_isGood_v ⟨Nat.le_of_ble_eq_true rfl, Nat.le_of_ble_eq_true rfl⟩) hN hE hL (rcv10 hN hT hw.1) rfl rfl hl.1 (Nat.le_of_ble_eq_true rfl) dX9_readClock_59 (Nat.zero_le _) (Nat.zero_le _) (fun r4459 H1 locs hL hqr4459 => ?_)
      obtain ⟨h9, hqr4459⟩ := hqr4459; replace h9 := h9.symm; subst h9
      rcases hqr4459 with ⟨rfl, e4460⟩ | ⟨rfl, e4461⟩
      · refine lv_if_ne (tgt := 66) hx hb dX9_readClock_62 (by decide) (fun _ => ?_) (fun c9 => absurd c9 (by decide))
        refine lv_aload_n hx hb dX9_readClock_66 rfl (lv_at hl 3 rfl) ?_
        refine lv_dup hx hb dX9_readClock_67 rfl ?_
        obtain ⟨hb4462, e4462, hat4462, hk4462⟩ := hT.o10 hw.1
        obtain ⟨f4462_0, f4462_1, f4462_3, f4462_4, f4462_5, f4462_6, f4462_7, f4462_9, f4462_10, f4462_11, f4462_12, f4462_13, f4462_14, f4462_15, f4462_16, f4462_17, rfl, c4462_2, c4462_3, c4462_4, c4462_12, t4462_1, t4462_8, t4462_9, c4462_sd, t4462_10, t4462_11, t4462_17⟩ := hk4462
        obtain ⟨rfl, rfl, rfl, rfl, rfl, rfl⟩ := hm.at hat4462 c4462_3 (by omega)
        have hm8 := hm.2.2.2.2.2.2.2
        have hP : va_P D vwCl [(w, .inr (9, [.int f4462_0, .ref bu, .int (nI ((κ w).2.2.1)), .int (nI tl), .int (nI p4454), .int er4455, .int f4462_6, .int f4462_7, .ref (κ w).2.2.2, .ref f4462_9, .ref dr, .ref f4462_11, .int (nI f4462_12), .int f4462_13, .int ns, .int f4462_15, .int f4462_16, .ref f4462_17])), (dr, .inl (cs 0, 1383, .inl f4428))] _ := va_P.cons hat4462 hP
        refine va_get (D := D) (ci := 9) (v := .int f4462_16) (C := RX9) (T := TX9) (N := 18) hx hb hts iX9_readClock_9 hown hN.1 hP 0 rfl rfl 16 (by decide) (hts _ mX9_readClock_2) (fun _ h9 => h9) rfl dX9_readClock_68 ?_
        refine lv_iconst (v := 1) hx hb dX9_readClock_71 (by decide) ?_
        refine lv_iload_n hx hb dX9_readClock_72 rfl (lv_at hl 2 rfl) ?_
        refine lv_ishl hx hb dX9_readClock_73 ?_
        refine gn_i (fun x4463 => ?_)
        refine lv_ior hx hb dX9_readClock_74 ?_
        refine gn_i (fun x4464 => ?_)
        have hB : Bx B0 D _ [(w, .inr (9, [.int f4462_0, .ref bu, .int (nI ((κ w).2.2.1)), .int (nI tl), .int (nI p4454), .int er4455, .int f4462_6, .int f4462_7, .ref (κ w).2.2.2, .ref f4462_9, .ref dr, .ref f4462_11, .int (nI f4462_12), .int f4462_13, .int ns, .int f4462_15, .int f4462_16, .ref f4462_17])), (dr, .inl (cs 0, 1383, .inl f4428))] [] _ _ := Bx.of (fun a => (κ a).1) hL hP (fa_c hb4462 (fa_c hbd fa_n)) (by simp only [List.map_cons, List.map_nil, hw.1, hdT.1]; decide)
        refine b_put (D := D) (ci := 9) (v := .int x4464) (ty := .int) (C := RX9) (T := TX9) (N := 18) hx hb hts iX9_readClock_9 tyX9 tyX9_ok nmX9 hown hN hB 0 rfl rfl 16 (by decide) (hts _ mX9_readClock_2) (fun _ h9 => h9) rfl (by decide +kernel) rfl rfl (Nat.le_of_ble_eq_true rfl) (.inl rfl) dX9_readClock_75 (fun H locs hB => ?_)
        have hB : Bx B0 D _ [(w, .inr (9, [.int f4462_0, .ref bu, .int (nI ((κ w).2.2.1)), .int (nI tl), .int (nI p4454), .int er4455, .int f4462_6, .int f4462_7, .ref (κ w).2.2.2, .ref f4462_9, .ref dr, .ref f4462_11, .int (nI f4462_12), .int f4462_13, .int ns, .int f4462_15, .int x4464, .ref f4462_17])), (dr, .inl (cs 0, 1383, .inl f4428))] [w] _ _ := hB
        refine lv_aload_n hx hb dX9_readClock_78 rfl (lv_at hl 3 rfl) ?_
        refine va_get (D := D) (ci := 9) (v := .ref dr) (C := RX9) (T := TX9) (N := 18) hx hb hts iX9_readClock_9 hown hN.1 hB.1 0 rfl rfl 10 (by decide) (hts _ mX9_readClock_1) (fun _ h9 => h9) rfl dX9_readClock_79 ?_
        refine lv_iload_n hx hb dX9_readClock_82 rfl (lv_at hl 2 rfl) ?_
        have hT : WT B0 D cs T κ _ := hT.close hB ⟨⟨0, _, rfl, ok_10 hw.1 ⟨_, _, _, _, _, _, _, _, _, _, _, _, _, _, _, _, rfl, (by omega), (by omega), (by omega), (by omega), hbT, t4462_8, t4462_9, c4462_sd, hdT, t4462_11, t4462_17⟩⟩, trivial⟩
        have hF : Fr B0 [12, 17] κ H0 _ := hF.close hB (fa_c (by simp [hw.2]) fa_n)
        have hL : OkL B0 _ := hB.2.2.2.2.2
        have hP : va_P D vwCl [(w, .inr (9, [.int f4462_0, .ref bu, .int (nI ((κ w).2.2.1)), .int (nI tl), .int (nI p4454), .int er4455, .int f4462_6, .int f4462_7, .ref (κ w).2.2.2, .ref f4462_9, .ref dr, .ref f4462_11, .int (nI f4462_12), .int f4462_13, .int ns, .int f4462_15, .int x4464, .ref f4462_17])), (dr, .inl (cs 0, 1383, .inl f4428))] _ := hB.1
        have hbu9 := (hm.2.2.2.2.2.2.1).kept (hB.2.2.2.1 _ hm.2.2.2.2.2.2.1.lt (by simp only [List.mem_cons, List.not_mem_nil, or_false, not_or]; exact ne_c hbT.1 hw.1 (by decide)))
        have hm : MF D cs w _ (p4454) (tl) (er4455) (ns) dr bu g := ⟨⟨_, hP 0 _ rfl, rfl⟩, ⟨_, hP 0 _ rfl, rfl⟩, ⟨_, hP 0 _ rfl, rfl⟩, ⟨_, hP 0 _ rfl, rfl⟩, ⟨_, hP 0 _ rfl, rfl⟩, ⟨_, hP 0 _ rfl, rfl⟩, hbu9, (by omega), (by omega)⟩
        refine cs_i (As := [.int (nI n4439)]) (rest := [.ref dr]) ⟨hx, hb, hml, hown, hts⟩ (c_X9_playerAt hT (n := n4439) (by first | omega | decide | assumption)) (va_cwS 1 hts gX9_readClock_X9_playerAt rfl rfl rfl hdX9_playerAt_o ⟨Nat.le_of_ble_eq_true rfl, Nat.le_of_ble_eq_true rfl⟩) hN hE hL rfl rfl hl.1 (Nat.le_of_ble_eq_true rfl) dX9_readClock_83 (Nat.zero_le _) (Nat.zero_le _) (fun r4465 H1 locs hL hqr4465 => ?_)
        obtain ⟨h9, hqr4465⟩ := hqr4465; replace h9 := h9.symm; subst h9
        obtain rfl := hqr4465
        refine lv_iconst (v := 1) hx hb dX9_readClock_86 (by decide) ?_
        refine lv_iadd hx hb dX9_readClock_87 ?_
        refine tp_i (nI ((23 + 12 * n4439) + 1)) (nI_add (23 + 12 * n4439) 1) ?_
        refine lv_iload_n hx hb dX9_readClock_88 rfl (lv_at hl 1 rfl) ?_
        have hB : Bx B0 D _ [(w, .inr (9, [.int f4462_0, .ref bu, .int (nI ((κ w).2.2.1)), .int (nI tl), .int (nI p4454), .int er4455, .int f4462_6, .int f4462_7, .ref (κ w).2.2.2, .ref f4462_9, .ref dr, .ref f4462_11, .int (nI f4462_12), .int f4462_13, .int ns, .int f4462_15, .int x4464, .ref f4462_17])), (dr, .inl (cs 0, 1383, .inl f4428))] [] _ _ := Bx.of (fun a => (κ a).1) hL hP (fa_c hb4462 (fa_c hbd fa_n)) (by simp only [List.map_cons, List.map_nil, hw.1, hdT.1]; decide)
        refine b_i hx hb hN hB 1 rfl (vp_in_nI (n := ((23 + 12 * n4439) + 1)) (N := 1383) (by omega) (by omega)) (.inl rfl) dX9_readClock_89 (fun H locs hB => ?_)
        rw [(show ((nI ((23 + 12 * n4439) + 1)) : Int32).toNatClampNeg = ((23 + 12 * n4439) + 1) from nI_clamp (n := ((23 + 12 * n4439) + 1)) (by omega))] at hB
        have hB : Bx B0 D _ [(w, .inr (9, [.int f4462_0, .ref bu, .int (nI ((κ w).2.2.1)), .int (nI tl), .int (nI p4454), .int er4455, .int f4462_6, .int f4462_7, .ref (κ w).2.2.2, .ref f4462_9, .ref dr, .ref f4462_11, .int (nI f4462_12), .int f4462_13, .int ns, .int f4462_15, .int x4464, .ref f4462_17])), (dr, .inl (cs 0, 1383, .inl (upd f4428 ((23 + 12 * n4439) + 1) r4447)))] [dr] _ _ := hB
        have z4466 := DRK.sf hDR (k := ((23 + 12 * n4439) + 1)) (by omega) (x := r4447)
        have e4467 := (pk_un (f := f4428) (x := r4447) (show 14 ≠ ((23 + 12 * n4439) + 1) by omega)).trans e4428
        have e4468 := (pk_un (f := f4428) (x := r4447) (show 0 ≠ ((23 + 12 * n4439) + 1) by omega)).trans en4431
        refine lv_aload_n hx hb dX9_readClock_90 rfl (lv_at hl 3 rfl) ?_
        refine va_get (D := D) (ci := 9) (v := .ref dr) (C := RX9) (T := TX9) (N := 18) hx hb hts iX9_readClock_9 hown hN.1 hB.1 0 rfl rfl 10 (by decide) (hts _ mX9_readClock_1) (fun _ h9 => h9) rfl dX9_readClock_91 ?_
        refine lv_iload_n hx hb dX9_readClock_94 rfl (lv_at hl 2 rfl) ?_
        have hT : WT B0 D cs T κ _ := hT.close hB ⟨⟨1, _, rfl, ok_26 hdT.1 ⟨_, rfl, z4466⟩⟩, trivial⟩
        have hF : Fr B0 [12, 17] κ H0 _ := hF.close hB (fa_c (by simp [hdT.2]) fa_n)
        have hL : OkL B0 _ := hB.2.2.2.2.2
        have hP : va_P D vwCl [(w, .inr (9, [.int f4462_0, .ref bu, .int (nI ((κ w).2.2.1)), .int (nI tl), .int (nI p4454), .int er4455, .int f4462_6, .int f4462_7, .ref (κ w).2.2.2, .ref f4462_9, .ref dr, .ref f4462_11, .int (nI f4462_12), .int f4462_13, .int ns, .int f4462_15, .int x4464, .ref f4462_17])), (dr, .inl (cs 0, 1383, .inl (upd f4428 ((23 + 12 * n4439) + 1) r4447)))] _ := hB.1
        have hm := hm.kp hB (by simp only [List.mem_cons, List.not_mem_nil, or_false, not_or]; exact ne_c hbT.1 hdT.1 (by decide)) (by simp only [List.mem_cons, List.not_mem_nil, or_false, not_or]; exact ne_c hw.1 hdT.1 (by decide))
        refine cs_i (As := [.int (nI n4439)]) (rest := [.ref dr]) ⟨hx, hb, hml, hown, hts⟩ (c_X9_playerAt hT (n := n4439) (by first | omega | decide | assumption)) (va_cwS 1 hts gX9_readClock_X9_playerAt rfl rfl rfl hdX9_playerAt_o ⟨Nat.le_of_ble_eq_true rfl, Nat.le_of_ble_eq_true rfl⟩) hN hE hL rfl rfl hl.1 (Nat.le_of_ble_eq_true rfl) dX9_readClock_95 (Nat.zero_le _) (Nat.zero_le _) (fun r4469 H1 locs hL hqr4469 => ?_)
        obtain ⟨h9, hqr4469⟩ := hqr4469; replace h9 := h9.symm; subst h9
        obtain rfl := hqr4469
        refine lv_iconst (v := 2) hx hb dX9_readClock_98 (by decide) ?_
        refine lv_iadd hx hb dX9_readClock_99 ?_
        refine tp_i (nI ((23 + 12 * n4439) + 2)) (nI_add (23 + 12 * n4439) 2) ?_
        refine lv_iload_n hx hb dX9_readClock_100 rfl (lv_at hl 0 rfl) ?_
        have hB : Bx B0 D _ [(w, .inr (9, [.int f4462_0, .ref bu, .int (nI ((κ w).2.2.1)), .int (nI tl), .int (nI p4454), .int er4455, .int f4462_6, .int f4462_7, .ref (κ w).2.2.2, .ref f4462_9, .ref dr, .ref f4462_11, .int (nI f4462_12), .int f4462_13, .int ns, .int f4462_15, .int x4464, .ref f4462_17])), (dr, .inl (cs 0, 1383, .inl (upd f4428 ((23 + 12 * n4439) + 1) r4447)))] [] _ _ := Bx.of (fun a => (κ a).1) hL hP (fa_c hb4462 (fa_c hbd fa_n)) (by simp only [List.map_cons, List.map_nil, hw.1, hdT.1]; decide)
        refine b_i hx hb hN hB 1 rfl (vp_in_nI (n := ((23 + 12 * n4439) + 2)) (N := 1383) (by omega) (by omega)) (.inl rfl) dX9_readClock_101 (fun H locs hB => ?_)
        rw [(show ((nI ((23 + 12 * n4439) + 2)) : Int32).toNatClampNeg = ((23 + 12 * n4439) + 2) from nI_clamp (n := ((23 + 12 * n4439) + 2)) (by omega))] at hB
        have hB : Bx B0 D _ [(w, .inr (9, [.int f4462_0, .ref bu, .int (nI ((κ w).2.2.1)), .int (nI tl), .int (nI p4454), .int er4455, .int f4462_6, .int f4462_7, .ref (κ w).2.2.2, .ref f4462_9, .ref dr, .ref f4462_11, .int (nI f4462_12), .int f4462_13, .int ns, .int f4462_15, .int x4464, .ref f4462_17])), (dr, .inl (cs 0, 1383, .inl (upd (upd f4428 ((23 + 12 * n4439) + 1) r4447) ((23 + 12 * n4439) + 2) r4453)))] [dr] _ _ := hB
        have z4470 := DRK.sf z4466 (k := ((23 + 12 * n4439) + 2)) (by omega) (x := r4453)
        have e4471 := (pk_un (f := (upd f4428 ((23 + 12 * n4439) + 1) r4447)) (x := r4453) (show 14 ≠ ((23 + 12 * n4439) + 2) by omega)).trans e4467
        have e4472 := (pk_un (f := (upd f4428 ((23 + 12 * n4439) + 1) r4447)) (x := r4453) (show 0 ≠ ((23 + 12 * n4439) + 2) by omega)).trans e4468
        have hT : WT B0 D cs T κ _ := hT.close hB ⟨⟨1, _, rfl, ok_26 hdT.1 ⟨_, rfl, z4470⟩⟩, trivial⟩
        have hF : Fr B0 [12, 17] κ H0 _ := hF.close hB (fa_c (by simp [hdT.2]) fa_n)
        have hL : OkL B0 _ := hB.2.2.2.2.2
        have hP : va_P D vwCl [(w, .inr (9, [.int f4462_0, .ref bu, .int (nI ((κ w).2.2.1)), .int (nI tl), .int (nI p4454), .int er4455, .int f4462_6, .int f4462_7, .ref (κ w).2.2.2, .ref f4462_9, .ref dr, .ref f4462_11, .int (nI f4462_12), .int f4462_13, .int ns, .int f4462_15, .int x4464, .ref f4462_17])), (dr, .inl (cs 0, 1383, .inl (upd (upd f4428 ((23 + 12 * n4439) + 1) r4447) ((23 + 12 * n4439) + 2) r4453)))] _ := hB.1
        have hm := hm.kp hB (by simp only [List.mem_cons, List.not_mem_nil, or_false, not_or]; exact ne_c hbT.1 hdT.1 (by decide)) (by simp only [List.mem_cons, List.not_mem_nil, or_false, not_or]; exact ne_c hw.1 hdT.1 (by decide))
        have hps : PS D cs w _ (p4454) (tl) (er4455) (ns) dr bu g (N) (h) := ⟨hm, (upd (upd f4428 ((23 + 12 * n4439) + 1) r4447) ((23 + 12 * n4439) + 2) r4453), hP 1 _ rfl, e4471, by omega, (CVu (by omega) (CVu (by omega) (fun e9 => (fun e9 => (fun e9 => v4428 ((fun e9 => (z4436 e9).1) e9)) (z4451 e9)) (z4457 e9))))⟩
        exact en_v hx hb hr hlocks hL (Nat.zero_le _) (Nat.zero_le _) dX9_readClock_102 (⟨hT, hF, p4454, er4455, (by omega), (fun e9 => (fun e9 => (fun e9 => id ((fun e9 => (z4436 e9).1) e9)) (z4451 e9)) (z4457 e9)), hps⟩)
      · refine lv_if_ne (tgt := 66) hx hb dX9_readClock_62 (by decide) (fun c9 => absurd (by decide) c9) (fun _ => ?_)
        have hps : PS D cs w _ (p4454) (tl) (er4455) (ns) dr bu g (N) (h) := ⟨hm, f4428, hP 0 _ rfl, e4428, by omega, (fun e9 => (fun e9 => (fun e9 => v4428 ((fun e9 => (z4436 e9).1) e9)) (z4451 e9)) (z4457 e9))⟩
        exact en_v hx hb hr hlocks hL (Nat.zero_le _) (Nat.zero_le _) dX9_readClock_65 (⟨hT, hF, p4454, er4455, (by omega), (fun e9 => (fun e9 => (fun e9 => id ((fun e9 => (z4436 e9).1) e9)) (z4451 e9)) (z4457 e9)), hps⟩)
    · refine lv_aload_n hx hb dX9_readClock_33 rfl (lv_at hl 1 rfl) ?_
      refine lv_bipush (v := (-4)) hx hb dX9_readClock_34 (by decide) ?_
      refine lv_aload_n hx hb dX9_readClock_36 rfl (lv_at hl 1 rfl) ?_
      refine va_get (D := D) (ci := 9) (v := .int f4443_13) (C := RX9) (T := TX9) (N := 18) hx hb hts iX9_readClock_9 hown hN.1 hP 0 rfl rfl 13 (by decide) (hts _ mX9_readClock_3) (fun _ h9 => h9) rfl dX9_readClock_37 ?_
      refine cv_v (As := [.int (-4), .int f4443_13]) (rest := []) (b := w) ⟨hx, hb, hml, hown, hts⟩ (c_X9_report hT (w := w) hw (x := (-4)) (y := f4443_13) hbT hdT hm ((by decide))) (cwV 2 hts gX9_readClock_X9_report rfl rfl rfl hdX9_report_v ⟨Nat.le_of_ble_eq_true rfl, Nat.le_of_ble_eq_true rfl⟩) hN hE hL (rcv10 hN hT hw.1) rfl rfl hl.1 (Nat.le_of_ble_eq_true rfl) dX9_readClock_40 (Nat.zero_le _) (Nat.zero_le _) (fun H1 locs hL hqr4473 => ?_)
      obtain ⟨hT1, hF1, hqr4473⟩ := hqr4473
      have hP : va_P D vwCl [(dr, .inl (cs 0, 1383, .inl f4428))] _ := hF1.hP (hP.sub [1] rfl) (fa_c ⟨by rw [hdT.1]; decide, by rw [hdT.2]; first | decide | (simp; done) | (simp [h15a, h15b, h15c]; done) | (simp; omega)⟩ fa_n)
      have hF := hF.tr (hF1.mono (by simp))
      have hT := hT1
      obtain ⟨er4474, z4475, m4476⟩ := hqr4473
      have hm := m4476
      have hm8 := hm.2.2.2.2.2.2.2
      refine lv_aload_n hx hb dX9_readClock_43 rfl (lv_at hl 1 rfl) ?_
      refine lv_sipush (v := 999) hx hb dX9_readClock_44 (by decide) ?_
      refine cv_i (As := [.int 999]) (rest := []) (b := w) ⟨hx, hb, hml, hown, hts⟩ (c_X9_signed hT (w := w) hw (x := 999) hbT hdT hm) (cwV 1 hts gX9_readClock_X9_signed rfl rfl rfl hdX9_signed_v ⟨Nat.le_of_ble_eq_true rfl, Nat.le_of_ble_eq_true rfl⟩) hN hE hL (rcv10 hN hT hw.1) rfl rfl hl.1 (Nat.le_of_ble_eq_true rfl) dX9_readClock_47 (Nat.zero_le _) (Nat.zero_le _) (fun r4477 H1 locs hL hqr4477 => ?_)
      obtain ⟨hT1, hF1, hqr4477⟩ := hqr4477
      have hP : va_P D vwCl [(dr, .inl (cs 0, 1383, .inl f4428))] _ := hF1.hP (hP.sub [0] rfl) (fa_c ⟨by rw [hdT.1]; decide, by rw [hdT.2]; first | decide | (simp; done) | (simp [h15a, h15b, h15c]; done) | (simp; omega)⟩ fa_n)
      have hF := hF.tr (hF1.mono (by simp))
      have hT := hT1
      obtain ⟨p4478, er4479, a4480, z4481, m4482⟩ := hqr4477
      have hm := m4482
      have hm8 := hm.2.2.2.2.2.2.2
      refine lv_istore_n (lv' := [(2, .int r4477), (1, .int (nI n4439)), (0, .ref w)]) hx hb dX9_readClock_50 rfl hl (by decide) rfl (fun ls hl => ?_)
      refine lv_aload_n hx hb dX9_readClock_51 rfl (lv_at hl 2 rfl) ?_
      refine lv_bipush (v := 50) hx hb dX9_readClock_52 (by decide) ?_
      refine cv_i (As := [.int 50]) (rest := []) (b := w) ⟨hx, hb, hml, hown, hts⟩ (c_X9_signed hT (w := w) hw (x := 50) hbT hdT hm) (cwV 1 hts gX9_readClock_X9_signed rfl rfl rfl hdX9_signed_v ⟨Nat.le_of_ble_eq_true rfl, Nat.le_of_ble_eq_true rfl⟩) hN hE hL (rcv10 hN hT hw.1) rfl rfl hl.1 (Nat.le_of_ble_eq_true rfl) dX9_readClock_54 (Nat.zero_le _) (Nat.zero_le _) (fun r4483 H1 locs hL hqr4483 => ?_)
      obtain ⟨hT1, hF1, hqr4483⟩ := hqr4483
      have hP : va_P D vwCl [(dr, .inl (cs 0, 1383, .inl f4428))] _ := hF1.hP (hP.sub [0] rfl) (fa_c ⟨by rw [hdT.1]; decide, by rw [hdT.2]; first | decide | (simp; done) | (simp [h15a, h15b, h15c]; done) | (simp; omega)⟩ fa_n)
      have hF := hF.tr (hF1.mono (by simp))
      have hT := hT1
      obtain ⟨p4484, er4485, a4486, z4487, m4488⟩ := hqr4483
      have hm := m4488
      have hm8 := hm.2.2.2.2.2.2.2
      refine lv_istore_n (lv' := [(3, .int r4483), (2, .int r4477), (1, .int (nI n4439)), (0, .ref w)]) hx hb dX9_readClock_57 rfl hl (by decide) rfl (fun ls hl => ?_)
      refine lv_aload_n hx hb dX9_readClock_58 rfl (lv_at hl 3 rfl) ?_
      refine cv_i (As := []) (rest := []) (b := w) ⟨hx, hb, hml, hown, hts⟩ (c_X9_isGood hT (w := w) hw hbT hdT hm) (cwV 0 hts gX9_readClock_X9_isGood rfl rfl rfl hdX9_isGood_v ⟨Nat.le_of_ble_eq_true rfl, Nat.le_of_ble_eq_true rfl⟩) hN hE hL (rcv10 hN hT hw.1) rfl rfl hl.1 (Nat.le_of_ble_eq_true rfl) dX9_readClock_59 (Nat.zero_le _) (Nat.zero_le _) (fun r4489 H1 locs hL hqr4489 => ?_)
      obtain ⟨h9, hqr4489⟩ := hqr4489; replace h9 := h9.symm; subst h9
      rcases hqr4489 with ⟨rfl, e4490⟩ | ⟨rfl, e4491⟩
      · refine lv_if_ne (tgt := 66) hx hb dX9_readClock_62 (by decide) (fun _ => ?_) (fun c9 => absurd c9 (by decide))
        refine lv_aload_n hx hb dX9_readClock_66 rfl (lv_at hl 3 rfl) ?_
        refine lv_dup hx hb dX9_readClock_67 rfl ?_
        obtain ⟨hb4492, e4492, hat4492, hk4492⟩ := hT.o10 hw.1
        obtain ⟨f4492_0, f4492_1, f4492_3, f4492_4, f4492_5, f4492_6, f4492_7, f4492_9, f4492_10, f4492_11, f4492_12, f4492_13, f4492_14, f4492_15, f4492_16, f4492_17, rfl, c4492_2, c4492_3, c4492_4, c4492_12, t4492_1, t4492_8, t4492_9, c4492_sd, t4492_10, t4492_11, t4492_17⟩ := hk4492
        obtain ⟨rfl, rfl, rfl, rfl, rfl, rfl⟩ := hm.at hat4492 c4492_3 (by omega)
        have hm8 := hm.2.2.2.2.2.2.2
        have hP : va_P D vwCl [(w, .inr (9, [.int f4492_0, .ref bu, .int (nI ((κ w).2.2.1)), .int (nI tl), .int (nI p4484), .int er4485, .int f4492_6, .int f4492_7, .ref (κ w).2.2.2, .ref f4492_9, .ref dr, .ref f4492_11, .int (nI f4492_12), .int f4492_13, .int ns, .int f4492_15, .int f4492_16, .ref f4492_17])), (dr, .inl (cs 0, 1383, .inl f4428))] _ := va_P.cons hat4492 hP
        refine va_get (D := D) (ci := 9) (v := .int f4492_16) (C := RX9) (T := TX9) (N := 18) hx hb hts iX9_readClock_9 hown hN.1 hP 0 rfl rfl 16 (by decide) (hts _ mX9_readClock_2) (fun _ h9 => h9) rfl dX9_readClock_68 ?_
        refine lv_iconst (v := 1) hx hb dX9_readClock_71 (by decide) ?_
        refine lv_iload_n hx hb dX9_readClock_72 rfl (lv_at hl 2 rfl) ?_
        refine lv_ishl hx hb dX9_readClock_73 ?_
        refine gn_i (fun x4493 => ?_)
        refine lv_ior hx hb dX9_readClock_74 ?_
        refine gn_i (fun x4494 => ?_)
        have hB : Bx B0 D _ [(w, .inr (9, [.int f4492_0, .ref bu, .int (nI ((κ w).2.2.1)), .int (nI tl), .int (nI p4484), .int er4485, .int f4492_6, .int f4492_7, .ref (κ w).2.2.2, .ref f4492_9, .ref dr, .ref f4492_11, .int (nI f4492_12), .int f4492_13, .int ns, .int f4492_15, .int f4492_16, .ref f4492_17])), (dr, .inl (cs 0, 1383, .inl f4428))] [] _ _ := Bx.of (fun a => (κ a).1) hL hP (fa_c hb4492 (fa_c hbd fa_n)) (by simp only [List.map_cons, List.map_nil, hw.1, hdT.1]; decide)
        refine b_put (D := D) (ci := 9) (v := .int x4494) (ty := .int) (C := RX9) (T := TX9) (N := 18) hx hb hts iX9_readClock_9 tyX9 tyX9_ok nmX9 hown hN hB 0 rfl rfl 16 (by decide) (hts _ mX9_readClock_2) (fun _ h9 => h9) rfl (by decide +kernel) rfl rfl (Nat.le_of_ble_eq_true rfl) (.inl rfl) dX9_readClock_75 (fun H locs hB => ?_)
        have hB : Bx B0 D _ [(w, .inr (9, [.int f4492_0, .ref bu, .int (nI ((κ w).2.2.1)), .int (nI tl), .int (nI p4484), .int er4485, .int f4492_6, .int f4492_7, .ref (κ w).2.2.2, .ref f4492_9, .ref dr, .ref f4492_11, .int (nI f4492_12), .int f4492_13, .int ns, .int f4492_15, .int x4494, .ref f4492_17])), (dr, .inl (cs 0, 1383, .inl f4428))] [w] _ _ := hB
        refine lv_aload_n hx hb dX9_readClock_78 rfl (lv_at hl 3 rfl) ?_
        refine va_get (D := D) (ci := 9) (v := .ref dr) (C := RX9) (T := TX9) (N := 18) hx hb hts iX9_readClock_9 hown hN.1 hB.1 0 rfl rfl 10 (by decide) (hts _ mX9_readClock_1) (fun _ h9 => h9) rfl dX9_readClock_79 ?_
        refine lv_iload_n hx hb dX9_readClock_82 rfl (lv_at hl 2 rfl) ?_
        have hT : WT B0 D cs T κ _ := hT.close hB ⟨⟨0, _, rfl, ok_10 hw.1 ⟨_, _, _, _, _, _, _, _, _, _, _, _, _, _, _, _, rfl, (by omega), (by omega), (by omega), (by omega), hbT, t4492_8, t4492_9, c4492_sd, hdT, t4492_11, t4492_17⟩⟩, trivial⟩
        have hF : Fr B0 [12, 17] κ H0 _ := hF.close hB (fa_c (by simp [hw.2]) fa_n)
        have hL : OkL B0 _ := hB.2.2.2.2.2
        have hP : va_P D vwCl [(w, .inr (9, [.int f4492_0, .ref bu, .int (nI ((κ w).2.2.1)), .int (nI tl), .int (nI p4484), .int er4485, .int f4492_6, .int f4492_7, .ref (κ w).2.2.2, .ref f4492_9, .ref dr, .ref f4492_11, .int (nI f4492_12), .int f4492_13, .int ns, .int f4492_15, .int x4494, .ref f4492_17])), (dr, .inl (cs 0, 1383, .inl f4428))] _ := hB.1
        have hbu9 := (hm.2.2.2.2.2.2.1).kept (hB.2.2.2.1 _ hm.2.2.2.2.2.2.1.lt (by simp only [List.mem_cons, List.not_mem_nil, or_false, not_or]; exact ne_c hbT.1 hw.1 (by decide)))
        have hm : MF D cs w _ (p4484) (tl) (er4485) (ns) dr bu g := ⟨⟨_, hP 0 _ rfl, rfl⟩, ⟨_, hP 0 _ rfl, rfl⟩, ⟨_, hP 0 _ rfl, rfl⟩, ⟨_, hP 0 _ rfl, rfl⟩, ⟨_, hP 0 _ rfl, rfl⟩, ⟨_, hP 0 _ rfl, rfl⟩, hbu9, (by omega), (by omega)⟩
        refine cs_i (As := [.int (nI n4439)]) (rest := [.ref dr]) ⟨hx, hb, hml, hown, hts⟩ (c_X9_playerAt hT (n := n4439) (by first | omega | decide | assumption)) (va_cwS 1 hts gX9_readClock_X9_playerAt rfl rfl rfl hdX9_playerAt_o ⟨Nat.le_of_ble_eq_true rfl, Nat.le_of_ble_eq_true rfl⟩) hN hE hL rfl rfl hl.1 (Nat.le_of_ble_eq_true rfl) dX9_readClock_83 (Nat.zero_le _) (Nat.zero_le _) (fun r4495 H1 locs hL hqr4495 => ?_)
        obtain ⟨h9, hqr4495⟩ := hqr4495; replace h9 := h9.symm; subst h9
        obtain rfl := hqr4495
        refine lv_iconst (v := 1) hx hb dX9_readClock_86 (by decide) ?_
        refine lv_iadd hx hb dX9_readClock_87 ?_
        refine tp_i (nI ((23 + 12 * n4439) + 1)) (nI_add (23 + 12 * n4439) 1) ?_
        refine lv_iload_n hx hb dX9_readClock_88 rfl (lv_at hl 1 rfl) ?_
        have hB : Bx B0 D _ [(w, .inr (9, [.int f4492_0, .ref bu, .int (nI ((κ w).2.2.1)), .int (nI tl), .int (nI p4484), .int er4485, .int f4492_6, .int f4492_7, .ref (κ w).2.2.2, .ref f4492_9, .ref dr, .ref f4492_11, .int (nI f4492_12), .int f4492_13, .int ns, .int f4492_15, .int x4494, .ref f4492_17])), (dr, .inl (cs 0, 1383, .inl f4428))] [] _ _ := Bx.of (fun a => (κ a).1) hL hP (fa_c hb4492 (fa_c hbd fa_n)) (by simp only [List.map_cons, List.map_nil, hw.1, hdT.1]; decide)
        refine b_i hx hb hN hB 1 rfl (vp_in_nI (n := ((23 + 12 * n4439) + 1)) (N := 1383) (by omega) (by omega)) (.inl rfl) dX9_readClock_89 (fun H locs hB => ?_)
        rw [(show ((nI ((23 + 12 * n4439) + 1)) : Int32).toNatClampNeg = ((23 + 12 * n4439) + 1) from nI_clamp (n := ((23 + 12 * n4439) + 1)) (by omega))] at hB
        have hB : Bx B0 D _ [(w, .inr (9, [.int f4492_0, .ref bu, .int (nI ((κ w).2.2.1)), .int (nI tl), .int (nI p4484), .int er4485, .int f4492_6, .int f4492_7, .ref (κ w).2.2.2, .ref f4492_9, .ref dr, .ref f4492_11, .int (nI f4492_12), .int f4492_13, .int ns, .int f4492_15, .int x4494, .ref f4492_17])), (dr, .inl (cs 0, 1383, .inl (upd f4428 ((23 + 12 * n4439) + 1) r4477)))] [dr] _ _ := hB
        have z4496 := DRK.sf hDR (k := ((23 + 12 * n4439) + 1)) (by omega) (x := r4477)
        have e4497 := (pk_un (f := f4428) (x := r4477) (show 14 ≠ ((23 + 12 * n4439) + 1) by omega)).trans e4428
        have e4498 := (pk_un (f := f4428) (x := r4477) (show 0 ≠ ((23 + 12 * n4439) + 1) by omega)).trans en4431
        refine lv_aload_n hx hb dX9_readClock_90 rfl (lv_at hl 3 rfl) ?_
        refine va_get (D := D) (ci := 9) (v := .ref dr) (C := RX9) (T := TX9) (N := 18) hx hb hts iX9_readClock_9 hown hN.1 hB.1 0 rfl rfl 10 (by decide) (hts _ mX9_readClock_1) (fun _ h9 => h9) rfl dX9_readClock_91 ?_
        refine lv_iload_n hx hb dX9_readClock_94 rfl (lv_at hl 2 rfl) ?_
        have hT : WT B0 D cs T κ _ := hT.close hB ⟨⟨1, _, rfl, ok_26 hdT.1 ⟨_, rfl, z4496⟩⟩, trivial⟩
        have hF : Fr B0 [12, 17] κ H0 _ := hF.close hB (fa_c (by simp [hdT.2]) fa_n)
        have hL : OkL B0 _ := hB.2.2.2.2.2
        have hP : va_P D vwCl [(w, .inr (9, [.int f4492_0, .ref bu, .int (nI ((κ w).2.2.1)), .int (nI tl), .int (nI p4484), .int er4485, .int f4492_6, .int f4492_7, .ref (κ w).2.2.2, .ref f4492_9, .ref dr, .ref f4492_11, .int (nI f4492_12), .int f4492_13, .int ns, .int f4492_15, .int x4494, .ref f4492_17])), (dr, .inl (cs 0, 1383, .inl (upd f4428 ((23 + 12 * n4439) + 1) r4477)))] _ := hB.1
        have hm := hm.kp hB (by simp only [List.mem_cons, List.not_mem_nil, or_false, not_or]; exact ne_c hbT.1 hdT.1 (by decide)) (by simp only [List.mem_cons, List.not_mem_nil, or_false, not_or]; exact ne_c hw.1 hdT.1 (by decide))
        refine cs_i (As := [.int (nI n4439)]) (rest := [.ref dr]) ⟨hx, hb, hml, hown, hts⟩ (c_X9_playerAt hT (n := n4439) (by first | omega | decide | assumption)) (va_cwS 1 hts gX9_readClock_X9_playerAt rfl rfl rfl hdX9_playerAt_o ⟨Nat.le_of_ble_eq_true rfl, Nat.le_of_ble_eq_true rfl⟩) hN hE hL rfl rfl hl.1 (Nat.le_of_ble_eq_true rfl) dX9_readClock_95 (Nat.zero_le _) (Nat.zero_le _) (fun r4499 H1 locs hL hqr4499 => ?_)
        obtain ⟨h9, hqr4499⟩ := hqr4499; replace h9 := h9.symm; subst h9
        obtain rfl := hqr4499
        refine lv_iconst (v := 2) hx hb dX9_readClock_98 (by decide) ?_
        refine lv_iadd hx hb dX9_readClock_99 ?_
        refine tp_i (nI ((23 + 12 * n4439) + 2)) (nI_add (23 + 12 * n4439) 2) ?_
        refine lv_iload_n hx hb dX9_readClock_100 rfl (lv_at hl 0 rfl) ?_
        have hB : Bx B0 D _ [(w, .inr (9, [.int f4492_0, .ref bu, .int (nI ((κ w).2.2.1)), .int (nI tl), .int (nI p4484), .int er4485, .int f4492_6, .int f4492_7, .ref (κ w).2.2.2, .ref f4492_9, .ref dr, .ref f4492_11, .int (nI f4492_12), .int f4492_13, .int ns, .int f4492_15, .int x4494, .ref f4492_17])), (dr, .inl (cs 0, 1383, .inl (upd f4428 ((23 + 12 * n4439) + 1) r4477)))] [] _ _ := Bx.of (fun a => (κ a).1) hL hP (fa_c hb4492 (fa_c hbd fa_n)) (by simp only [List.map_cons, List.map_nil, hw.1, hdT.1]; decide)
        refine b_i hx hb hN hB 1 rfl (vp_in_nI (n := ((23 + 12 * n4439) + 2)) (N := 1383) (by omega) (by omega)) (.inl rfl) dX9_readClock_101 (fun H locs hB => ?_)
        rw [(show ((nI ((23 + 12 * n4439) + 2)) : Int32).toNatClampNeg = ((23 + 12 * n4439) + 2) from nI_clamp (n := ((23 + 12 * n4439) + 2)) (by omega))] at hB
        have hB : Bx B0 D _ [(w, .inr (9, [.int f4492_0, .ref bu, .int (nI ((κ w).2.2.1)), .int (nI tl), .int (nI p4484), .int er4485, .int f4492_6, .int f4492_7, .ref (κ w).2.2.2, .ref f4492_9, .ref dr, .ref f4492_11, .int (nI f4492_12), .int f4492_13, .int ns, .int f4492_15, .int x4494, .ref f4492_17])), (dr, .inl (cs 0, 1383, .inl (upd (upd f4428 ((23 + 12 * n4439) + 1) r4477) ((23 + 12 * n4439) + 2) r4483)))] [dr] _ _ := hB
        have z4500 := DRK.sf z4496 (k := ((23 + 12 * n4439) + 2)) (by omega) (x := r4483)
        have e4501 := (pk_un (f := (upd f4428 ((23 + 12 * n4439) + 1) r4477)) (x := r4483) (show 14 ≠ ((23 + 12 * n4439) + 2) by omega)).trans e4497
        have e4502 := (pk_un (f := (upd f4428 ((23 + 12 * n4439) + 1) r4477)) (x := r4483) (show 0 ≠ ((23 + 12 * n4439) + 2) by omega)).trans e4498
        have hT : WT B0 D cs T κ _ := hT.close hB ⟨⟨1, _, rfl, ok_26 hdT.1 ⟨_, rfl, z4500⟩⟩, trivial⟩
        have hF : Fr B0 [12, 17] κ H0 _ := hF.close hB (fa_c (by simp [hdT.2]) fa_n)
        have hL : OkL B0 _ := hB.2.2.2.2.2
        have hP : va_P D vwCl [(w, .inr (9, [.int f4492_0, .ref bu, .int (nI ((κ w).2.2.1)), .int (nI tl), .int (nI p4484), .int er4485, .int f4492_6, .int f4492_7, .ref (κ w).2.2.2, .ref f4492_9, .ref dr, .ref f4492_11, .int (nI f4492_12), .int f4492_13, .int ns, .int f4492_15, .int x4494, .ref f4492_17])), (dr, .inl (cs 0, 1383, .inl (upd (upd f4428 ((23 + 12 * n4439) + 1) r4477) ((23 + 12 * n4439) + 2) r4483)))] _ := hB.1
        have hm := hm.kp hB (by simp only [List.mem_cons, List.not_mem_nil, or_false, not_or]; exact ne_c hbT.1 hdT.1 (by decide)) (by simp only [List.mem_cons, List.not_mem_nil, or_false, not_or]; exact ne_c hw.1 hdT.1 (by decide))
        have hps : PS D cs w _ (p4484) (tl) (er4485) (ns) dr bu g (N) (h) := ⟨hm, (upd (upd f4428 ((23 + 12 * n4439) + 1) r4477) ((23 + 12 * n4439) + 2) r4483), hP 1 _ rfl, e4501, by omega, (CVu (by omega) (CVu (by omega) (fun e9 => (fun e9 => (fun e9 => absurd e9 z4475) (z4481 e9)) (z4487 e9))))⟩
        exact en_v hx hb hr hlocks hL (Nat.zero_le _) (Nat.zero_le _) dX9_readClock_102 (⟨hT, hF, p4484, er4485, (by omega), (fun e9 => (fun e9 => (fun e9 => (fun e9 => id ((fun e9 => (z4436 e9).1) e9)) ((fun e9 => absurd e9 z4475) e9)) (z4481 e9)) (z4487 e9)), hps⟩)
      · refine lv_if_ne (tgt := 66) hx hb dX9_readClock_62 (by decide) (fun c9 => absurd (by decide) c9) (fun _ => ?_)
        have hps : PS D cs w _ (p4484) (tl) (er4485) (ns) dr bu g (N) (h) := ⟨hm, f4428, hP 0 _ rfl, e4428, by omega, (fun e9 => (fun e9 => (fun e9 => absurd e9 z4475) (z4481 e9)) (z4487 e9))⟩
        exact en_v hx hb hr hlocks hL (Nat.zero_le _) (Nat.zero_le _) dX9_readClock_65 (⟨hT, hF, p4484, er4485, (by omega), (fun e9 => (fun e9 => (fun e9 => (fun e9 => id ((fun e9 => (z4436 e9).1) e9)) ((fun e9 => absurd e9 z4475) e9)) (z4481 e9)) (z4487 e9)), hps⟩)
  · refine lv_if_eq (tgt := 43) hx hb dX9_readClock_18 (by decide) (fun _ => ?_) (fun c9 => absurd (by decide) c9)
    refine lv_aload_n hx hb dX9_readClock_43 rfl (lv_at hl 1 rfl) ?_
    refine lv_sipush (v := 999) hx hb dX9_readClock_44 (by decide) ?_
    refine cv_i (As := [.int 999]) (rest := []) (b := w) ⟨hx, hb, hml, hown, hts⟩ (c_X9_signed hT (w := w) hw (x := 999) hbT hdT hm) (cwV 1 hts gX9_readClock_X9_signed rfl rfl rfl hdX9_signed_v ⟨Nat.le_of_ble_eq_true rfl, Nat.le_of_ble_eq_true rfl⟩) hN hE hL (rcv10 hN hT hw.1) rfl rfl hl.1 (Nat.le_of_ble_eq_true rfl) dX9_readClock_47 (Nat.zero_le _) (Nat.zero_le _) (fun r4503 H1 locs hL hqr4503 => ?_)
    obtain ⟨hT1, hF1, hqr4503⟩ := hqr4503
    have hP : va_P D vwCl [(dr, .inl (cs 0, 1383, .inl f4428))] _ := hF1.hP (hP.sub [0] rfl) (fa_c ⟨by rw [hdT.1]; decide, by rw [hdT.2]; first | decide | (simp; done) | (simp [h15a, h15b, h15c]; done) | (simp; omega)⟩ fa_n)
    have hF := hF.tr (hF1.mono (by simp))
    have hT := hT1
    obtain ⟨p4504, er4505, a4506, z4507, m4508⟩ := hqr4503
    have hm := m4508
    have hm8 := hm.2.2.2.2.2.2.2
    refine lv_istore_n (lv' := [(2, .int r4503), (1, .int (nI n4439)), (0, .ref w)]) hx hb dX9_readClock_50 rfl hl (by decide) rfl (fun ls hl => ?_)
    refine lv_aload_n hx hb dX9_readClock_51 rfl (lv_at hl 2 rfl) ?_
    refine lv_bipush (v := 50) hx hb dX9_readClock_52 (by decide) ?_
    refine cv_i (As := [.int 50]) (rest := []) (b := w) ⟨hx, hb, hml, hown, hts⟩ (c_X9_signed hT (w := w) hw (x := 50) hbT hdT hm) (cwV 1 hts gX9_readClock_X9_signed rfl rfl rfl hdX9_signed_v ⟨Nat.le_of_ble_eq_true rfl, Nat.le_of_ble_eq_true rfl⟩) hN hE hL (rcv10 hN hT hw.1) rfl rfl hl.1 (Nat.le_of_ble_eq_true rfl) dX9_readClock_54 (Nat.zero_le _) (Nat.zero_le _) (fun r4509 H1 locs hL hqr4509 => ?_)
    obtain ⟨hT1, hF1, hqr4509⟩ := hqr4509
    have hP : va_P D vwCl [(dr, .inl (cs 0, 1383, .inl f4428))] _ := hF1.hP (hP.sub [0] rfl) (fa_c ⟨by rw [hdT.1]; decide, by rw [hdT.2]; first | decide | (simp; done) | (simp [h15a, h15b, h15c]; done) | (simp; omega)⟩ fa_n)
    have hF := hF.tr (hF1.mono (by simp))
    have hT := hT1
    obtain ⟨p4510, er4511, a4512, z4513, m4514⟩ := hqr4509
    have hm := m4514
    have hm8 := hm.2.2.2.2.2.2.2
    refine lv_istore_n (lv' := [(3, .int r4509), (2, .int r4503), (1, .int (nI n4439)), (0, .ref w)]) hx hb dX9_readClock_57 rfl hl (by decide) rfl (fun ls hl => ?_)
    refine lv_aload_n hx hb dX9_readClock_58 rfl (lv_at hl 3 rfl) ?_
    refine cv_i (As := []) (rest := []) (b := w) ⟨hx, hb, hml, hown, hts⟩ (c_X9_isGood hT (w := w) hw hbT hdT hm) (cwV 0 hts gX9_readClock_X9_isGood rfl rfl rfl hdX9_isGood_v ⟨Nat.le_of_ble_eq_true rfl, Nat.le_of_ble_eq_true rfl⟩) hN hE hL (rcv10 hN hT hw.1) rfl rfl hl.1 (Nat.le_of_ble_eq_true rfl) dX9_readClock_59 (Nat.zero_le _) (Nat.zero_le _) (fun r4515 H1 locs hL hqr4515 => ?_)
    obtain ⟨h9, hqr4515⟩ := hqr4515; replace h9 := h9.symm; subst h9
    rcases hqr4515 with ⟨rfl, e4516⟩ | ⟨rfl, e4517⟩
    · refine lv_if_ne (tgt := 66) hx hb dX9_readClock_62 (by decide) (fun _ => ?_) (fun c9 => absurd c9 (by decide))
      refine lv_aload_n hx hb dX9_readClock_66 rfl (lv_at hl 3 rfl) ?_
      refine lv_dup hx hb dX9_readClock_67 rfl ?_
      obtain ⟨hb4518, e4518, hat4518, hk4518⟩ := hT.o10 hw.1
      obtain ⟨f4518_0, f4518_1, f4518_3, f4518_4, f4518_5, f4518_6, f4518_7, f4518_9, f4518_10, f4518_11, f4518_12, f4518_13, f4518_14, f4518_15, f4518_16, f4518_17, rfl, c4518_2, c4518_3, c4518_4, c4518_12, t4518_1, t4518_8, t4518_9, c4518_sd, t4518_10, t4518_11, t4518_17⟩ := hk4518
      obtain ⟨rfl, rfl, rfl, rfl, rfl, rfl⟩ := hm.at hat4518 c4518_3 (by omega)
      have hm8 := hm.2.2.2.2.2.2.2
      have hP : va_P D vwCl [(w, .inr (9, [.int f4518_0, .ref bu, .int (nI ((κ w).2.2.1)), .int (nI tl), .int (nI p4510), .int er4511, .int f4518_6, .int f4518_7, .ref (κ w).2.2.2, .ref f4518_9, .ref dr, .ref f4518_11, .int (nI f4518_12), .int f4518_13, .int ns, .int f4518_15, .int f4518_16, .ref f4518_17])), (dr, .inl (cs 0, 1383, .inl f4428))] _ := va_P.cons hat4518 hP
      refine va_get (D := D) (ci := 9) (v := .int f4518_16) (C := RX9) (T := TX9) (N := 18) hx hb hts iX9_readClock_9 hown hN.1 hP 0 rfl rfl 16 (by decide) (hts _ mX9_readClock_2) (fun _ h9 => h9) rfl dX9_readClock_68 ?_
      refine lv_iconst (v := 1) hx hb dX9_readClock_71 (by decide) ?_
      refine lv_iload_n hx hb dX9_readClock_72 rfl (lv_at hl 2 rfl) ?_
      refine lv_ishl hx hb dX9_readClock_73 ?_
      refine gn_i (fun x4519 => ?_)
      refine lv_ior hx hb dX9_readClock_74 ?_
      refine gn_i (fun x4520 => ?_)
      have hB : Bx B0 D _ [(w, .inr (9, [.int f4518_0, .ref bu, .int (nI ((κ w).2.2.1)), .int (nI tl), .int (nI p4510), .int er4511, .int f4518_6, .int f4518_7, .ref (κ w).2.2.2, .ref f4518_9, .ref dr, .ref f4518_11, .int (nI f4518_12), .int f4518_13, .int ns, .int f4518_15, .int f4518_16, .ref f4518_17])), (dr, .inl (cs 0, 1383, .inl f4428))] [] _ _ := Bx.of (fun a => (κ a).1) hL hP (fa_c hb4518 (fa_c hbd fa_n)) (by simp only [List.map_cons, List.map_nil, hw.1, hdT.1]; decide)
      refine b_put (D := D) (ci := 9) (v := .int x4520) (ty := .int) (C := RX9) (T := TX9) (N := 18) hx hb hts iX9_readClock_9 tyX9 tyX9_ok nmX9 hown hN hB 0 rfl rfl 16 (by decide) (hts _ mX9_readClock_2) (fun _ h9 => h9) rfl (by decide +kernel) rfl rfl (Nat.le_of_ble_eq_true rfl) (.inl rfl) dX9_readClock_75 (fun H locs hB => ?_)
      have hB : Bx B0 D _ [(w, .inr (9, [.int f4518_0, .ref bu, .int (nI ((κ w).2.2.1)), .int (nI tl), .int (nI p4510), .int er4511, .int f4518_6, .int f4518_7, .ref (κ w).2.2.2, .ref f4518_9, .ref dr, .ref f4518_11, .int (nI f4518_12), .int f4518_13, .int ns, .int f4518_15, .int x4520, .ref f4518_17])), (dr, .inl (cs 0, 1383, .inl f4428))] [w] _ _ := hB
      refine lv_aload_n hx hb dX9_readClock_78 rfl (lv_at hl 3 rfl) ?_
      refine va_get (D := D) (ci := 9) (v := .ref dr) (C := RX9) (T := TX9) (N := 18) hx hb hts iX9_readClock_9 hown hN.1 hB.1 0 rfl rfl 10 (by decide) (hts _ mX9_readClock_1) (fun _ h9 => h9) rfl dX9_readClock_79 ?_
      refine lv_iload_n hx hb dX9_readClock_82 rfl (lv_at hl 2 rfl) ?_
      have hT : WT B0 D cs T κ _ := hT.close hB ⟨⟨0, _, rfl, ok_10 hw.1 ⟨_, _, _, _, _, _, _, _, _, _, _, _, _, _, _, _, rfl, (by omega), (by omega), (by omega), (by omega), hbT, t4518_8, t4518_9, c4518_sd, hdT, t4518_11, t4518_17⟩⟩, trivial⟩
      have hF : Fr B0 [12, 17] κ H0 _ := hF.close hB (fa_c (by simp [hw.2]) fa_n)
      have hL : OkL B0 _ := hB.2.2.2.2.2
      have hP : va_P D vwCl [(w, .inr (9, [.int f4518_0, .ref bu, .int (nI ((κ w).2.2.1)), .int (nI tl), .int (nI p4510), .int er4511, .int f4518_6, .int f4518_7, .ref (κ w).2.2.2, .ref f4518_9, .ref dr, .ref f4518_11, .int (nI f4518_12), .int f4518_13, .int ns, .int f4518_15, .int x4520, .ref f4518_17])), (dr, .inl (cs 0, 1383, .inl f4428))] _ := hB.1
      have hbu9 := (hm.2.2.2.2.2.2.1).kept (hB.2.2.2.1 _ hm.2.2.2.2.2.2.1.lt (by simp only [List.mem_cons, List.not_mem_nil, or_false, not_or]; exact ne_c hbT.1 hw.1 (by decide)))
      have hm : MF D cs w _ (p4510) (tl) (er4511) (ns) dr bu g := ⟨⟨_, hP 0 _ rfl, rfl⟩, ⟨_, hP 0 _ rfl, rfl⟩, ⟨_, hP 0 _ rfl, rfl⟩, ⟨_, hP 0 _ rfl, rfl⟩, ⟨_, hP 0 _ rfl, rfl⟩, ⟨_, hP 0 _ rfl, rfl⟩, hbu9, (by omega), (by omega)⟩
      refine cs_i (As := [.int (nI n4439)]) (rest := [.ref dr]) ⟨hx, hb, hml, hown, hts⟩ (c_X9_playerAt hT (n := n4439) (by first | omega | decide | assumption)) (va_cwS 1 hts gX9_readClock_X9_playerAt rfl rfl rfl hdX9_playerAt_o ⟨Nat.le_of_ble_eq_true rfl, Nat.le_of_ble_eq_true rfl⟩) hN hE hL rfl rfl hl.1 (Nat.le_of_ble_eq_true rfl) dX9_readClock_83 (Nat.zero_le _) (Nat.zero_le _) (fun r4521 H1 locs hL hqr4521 => ?_)
      obtain ⟨h9, hqr4521⟩ := hqr4521; replace h9 := h9.symm; subst h9
      obtain rfl := hqr4521
      refine lv_iconst (v := 1) hx hb dX9_readClock_86 (by decide) ?_
      refine lv_iadd hx hb dX9_readClock_87 ?_
      refine tp_i (nI ((23 + 12 * n4439) + 1)) (nI_add (23 + 12 * n4439) 1) ?_
      refine lv_iload_n hx hb dX9_readClock_88 rfl (lv_at hl 1 rfl) ?_
      have hB : Bx B0 D _ [(w, .inr (9, [.int f4518_0, .ref bu, .int (nI ((κ w).2.2.1)), .int (nI tl), .int (nI p4510), .int er4511, .int f4518_6, .int f4518_7, .ref (κ w).2.2.2, .ref f4518_9, .ref dr, .ref f4518_11, .int (nI f4518_12), .int f4518_13, .int ns, .int f4518_15, .int x4520, .ref f4518_17])), (dr, .inl (cs 0, 1383, .inl f4428))] [] _ _ := Bx.of (fun a => (κ a).1) hL hP (fa_c hb4518 (fa_c hbd fa_n)) (by simp only [List.map_cons, List.map_nil, hw.1, hdT.1]; decide)
      refine b_i hx hb hN hB 1 rfl (vp_in_nI (n := ((23 + 12 * n4439) + 1)) (N := 1383) (by omega) (by omega)) (.inl rfl) dX9_readClock_89 (fun H locs hB => ?_)
      rw [(show ((nI ((23 + 12 * n4439) + 1)) : Int32).toNatClampNeg = ((23 + 12 * n4439) + 1) from nI_clamp (n := ((23 + 12 * n4439) + 1)) (by omega))] at hB
      have hB : Bx B0 D _ [(w, .inr (9, [.int f4518_0, .ref bu, .int (nI ((κ w).2.2.1)), .int (nI tl), .int (nI p4510), .int er4511, .int f4518_6, .int f4518_7, .ref (κ w).2.2.2, .ref f4518_9, .ref dr, .ref f4518_11, .int (nI f4518_12), .int f4518_13, .int ns, .int f4518_15, .int x4520, .ref f4518_17])), (dr, .inl (cs 0, 1383, .inl (upd f4428 ((23 + 12 * n4439) + 1) r4503)))] [dr] _ _ := hB
      have z4522 := DRK.sf hDR (k := ((23 + 12 * n4439) + 1)) (by omega) (x := r4503)
      have e4523 := (pk_un (f := f4428) (x := r4503) (show 14 ≠ ((23 + 12 * n4439) + 1) by omega)).trans e4428
      have e4524 := (pk_un (f := f4428) (x := r4503) (show 0 ≠ ((23 + 12 * n4439) + 1) by omega)).trans en4431
      refine lv_aload_n hx hb dX9_readClock_90 rfl (lv_at hl 3 rfl) ?_
      refine va_get (D := D) (ci := 9) (v := .ref dr) (C := RX9) (T := TX9) (N := 18) hx hb hts iX9_readClock_9 hown hN.1 hB.1 0 rfl rfl 10 (by decide) (hts _ mX9_readClock_1) (fun _ h9 => h9) rfl dX9_readClock_91 ?_
      refine lv_iload_n hx hb dX9_readClock_94 rfl (lv_at hl 2 rfl) ?_
      have hT : WT B0 D cs T κ _ := hT.close hB ⟨⟨1, _, rfl, ok_26 hdT.1 ⟨_, rfl, z4522⟩⟩, trivial⟩
      have hF : Fr B0 [12, 17] κ H0 _ := hF.close hB (fa_c (by simp [hdT.2]) fa_n)
      have hL : OkL B0 _ := hB.2.2.2.2.2
      have hP : va_P D vwCl [(w, .inr (9, [.int f4518_0, .ref bu, .int (nI ((κ w).2.2.1)), .int (nI tl), .int (nI p4510), .int er4511, .int f4518_6, .int f4518_7, .ref (κ w).2.2.2, .ref f4518_9, .ref dr, .ref f4518_11, .int (nI f4518_12), .int f4518_13, .int ns, .int f4518_15, .int x4520, .ref f4518_17])), (dr, .inl (cs 0, 1383, .inl (upd f4428 ((23 + 12 * n4439) + 1) r4503)))] _ := hB.1
      have hm := hm.kp hB (by simp only [List.mem_cons, List.not_mem_nil, or_false, not_or]; exact ne_c hbT.1 hdT.1 (by decide)) (by simp only [List.mem_cons, List.not_mem_nil, or_false, not_or]; exact ne_c hw.1 hdT.1 (by decide))
      refine cs_i (As := [.int (nI n4439)]) (rest := [.ref dr]) ⟨hx, hb, hml, hown, hts⟩ (c_X9_playerAt hT (n := n4439) (by first | omega | decide | assumption)) (va_cwS 1 hts gX9_readClock_X9_playerAt rfl rfl rfl hdX9_playerAt_o ⟨Nat.le_of_ble_eq_true rfl, Nat.le_of_ble_eq_true rfl⟩) hN hE hL rfl rfl hl.1 (Nat.le_of_ble_eq_true rfl) dX9_readClock_95 (Nat.zero_le _) (Nat.zero_le _) (fun r4525 H1 locs hL hqr4525 => ?_)
      obtain ⟨h9, hqr4525⟩ := hqr4525; replace h9 := h9.symm; subst h9
      obtain rfl := hqr4525
      refine lv_iconst (v := 2) hx hb dX9_readClock_98 (by decide) ?_
      refine lv_iadd hx hb dX9_readClock_99 ?_
      refine tp_i (nI ((23 + 12 * n4439) + 2)) (nI_add (23 + 12 * n4439) 2) ?_
      refine lv_iload_n hx hb dX9_readClock_100 rfl (lv_at hl 0 rfl) ?_
      have hB : Bx B0 D _ [(w, .inr (9, [.int f4518_0, .ref bu, .int (nI ((κ w).2.2.1)), .int (nI tl), .int (nI p4510), .int er4511, .int f4518_6, .int f4518_7, .ref (κ w).2.2.2, .ref f4518_9, .ref dr, .ref f4518_11, .int (nI f4518_12), .int f4518_13, .int ns, .int f4518_15, .int x4520, .ref f4518_17])), (dr, .inl (cs 0, 1383, .inl (upd f4428 ((23 + 12 * n4439) + 1) r4503)))] [] _ _ := Bx.of (fun a => (κ a).1) hL hP (fa_c hb4518 (fa_c hbd fa_n)) (by simp only [List.map_cons, List.map_nil, hw.1, hdT.1]; decide)
      refine b_i hx hb hN hB 1 rfl (vp_in_nI (n := ((23 + 12 * n4439) + 2)) (N := 1383) (by omega) (by omega)) (.inl rfl) dX9_readClock_101 (fun H locs hB => ?_)
      rw [(show ((nI ((23 + 12 * n4439) + 2)) : Int32).toNatClampNeg = ((23 + 12 * n4439) + 2) from nI_clamp (n := ((23 + 12 * n4439) + 2)) (by omega))] at hB
      have hB : Bx B0 D _ [(w, .inr (9, [.int f4518_0, .ref bu, .int (nI ((κ w).2.2.1)), .int (nI tl), .int (nI p4510), .int er4511, .int f4518_6, .int f4518_7, .ref (κ w).2.2.2, .ref f4518_9, .ref dr, .ref f4518_11, .int (nI f4518_12), .int f4518_13, .int ns, .int f4518_15, .int x4520, .ref f4518_17])), (dr, .inl (cs 0, 1383, .inl (upd (upd f4428 ((23 + 12 * n4439) + 1) r4503) ((23 + 12 * n4439) + 2) r4509)))] [dr] _ _ := hB
      have z4526 := DRK.sf z4522 (k := ((23 + 12 * n4439) + 2)) (by omega) (x := r4509)
      have e4527 := (pk_un (f := (upd f4428 ((23 + 12 * n4439) + 1) r4503)) (x := r4509) (show 14 ≠ ((23 + 12 * n4439) + 2) by omega)).trans e4523
      have e4528 := (pk_un (f := (upd f4428 ((23 + 12 * n4439) + 1) r4503)) (x := r4509) (show 0 ≠ ((23 + 12 * n4439) + 2) by omega)).trans e4524
      have hT : WT B0 D cs T κ _ := hT.close hB ⟨⟨1, _, rfl, ok_26 hdT.1 ⟨_, rfl, z4526⟩⟩, trivial⟩
      have hF : Fr B0 [12, 17] κ H0 _ := hF.close hB (fa_c (by simp [hdT.2]) fa_n)
      have hL : OkL B0 _ := hB.2.2.2.2.2
      have hP : va_P D vwCl [(w, .inr (9, [.int f4518_0, .ref bu, .int (nI ((κ w).2.2.1)), .int (nI tl), .int (nI p4510), .int er4511, .int f4518_6, .int f4518_7, .ref (κ w).2.2.2, .ref f4518_9, .ref dr, .ref f4518_11, .int (nI f4518_12), .int f4518_13, .int ns, .int f4518_15, .int x4520, .ref f4518_17])), (dr, .inl (cs 0, 1383, .inl (upd (upd f4428 ((23 + 12 * n4439) + 1) r4503) ((23 + 12 * n4439) + 2) r4509)))] _ := hB.1
      have hm := hm.kp hB (by simp only [List.mem_cons, List.not_mem_nil, or_false, not_or]; exact ne_c hbT.1 hdT.1 (by decide)) (by simp only [List.mem_cons, List.not_mem_nil, or_false, not_or]; exact ne_c hw.1 hdT.1 (by decide))
      have hps : PS D cs w _ (p4510) (tl) (er4511) (ns) dr bu g (N) (h) := ⟨hm, (upd (upd f4428 ((23 + 12 * n4439) + 1) r4503) ((23 + 12 * n4439) + 2) r4509), hP 1 _ rfl, e4527, by omega, (CVu (by omega) (CVu (by omega) (fun e9 => (fun e9 => (fun e9 => v4428 ((fun e9 => (z4436 e9).1) e9)) (z4507 e9)) (z4513 e9))))⟩
      exact en_v hx hb hr hlocks hL (Nat.zero_le _) (Nat.zero_le _) dX9_readClock_102 (⟨hT, hF, p4510, er4511, (by omega), (fun e9 => (fun e9 => (fun e9 => id ((fun e9 => (z4436 e9).1) e9)) (z4507 e9)) (z4513 e9)), hps⟩)
    · refine lv_if_ne (tgt := 66) hx hb dX9_readClock_62 (by decide) (fun c9 => absurd (by decide) c9) (fun _ => ?_)
      have hps : PS D cs w _ (p4510) (tl) (er4511) (ns) dr bu g (N) (h) := ⟨hm, f4428, hP 0 _ rfl, e4428, by omega, (fun e9 => (fun e9 => (fun e9 => v4428 ((fun e9 => (z4436 e9).1) e9)) (z4507 e9)) (z4513 e9))⟩
      exact en_v hx hb hr hlocks hL (Nat.zero_le _) (Nat.zero_le _) dX9_readClock_65 (⟨hT, hF, p4510, er4511, (by omega), (fun e9 => (fun e9 => (fun e9 => id ((fun e9 => (z4436 e9).1) e9)) (z4507 e9)) (z4513 e9)), hps⟩)
theorem mX9_readLink_1 : (.fieldLink RX9 24 "OneBeatModel" "draft" "[I" : Cond) ∈ wsX9_readLink := List.mem_of_getElem? (i := 1) (by decide +kernel)
theorem iX9_readLink_9 : ∀ w ∈ wsX90, w ∈ wsX9_readLink := fun w h => List.mem_of_mem_drop (List.mem_of_mem_take ((show wsX90 = (wsX9_readLink.drop 42).take 18 by decide +kernel) ▸ h))
theorem mX9_readLink_2 : (.fieldLink RX9 94 "OneBeatModel" "numberStart" "I" : Cond) ∈ wsX9_readLink := List.mem_of_getElem? (i := 2) (by decide +kernel)
