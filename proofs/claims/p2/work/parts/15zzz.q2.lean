set_option maxHeartbeats 4000000 in
set_option maxRecDepth 100000 in
theorem c_X9_readSum_d1 {l : Launch} {D : va_G} {cs : Nat → ClassId} {B0 T : Nat} {κ : KM} {H0 : Heap} (hT : WT B0 D cs T κ H0) {w : Nat} (hw : T2 κ w 10 12) {pos tl : Nat} {er : Int32} {dr bu : Nat} {g : Nat → Int32} {N h : Nat} (hbT : T2 κ bu 23 14) (hdT : T2 κ dr 26 17) (hps : PS D cs w H0 pos tl er 1 dr bu g N h) : KC l yX9_readSum wsX9_readSum 16 346 0 0 D cs B0 H0 [.ref w] (Qv (fun H => WT B0 D cs T κ H ∧ Fr B0 [12, 17] κ H0 H ∧ ∃ N1 pos1 er1, N1 + 2 * pos ≤ N + 2 * pos1 ∧ pos ≤ pos1 ∧ (er1 = 0 → er = 0) ∧ PS D cs w H pos1 tl er1 1 dr bu g N1 (h + 1))) := by
  refine KC.of cX9_readSum 2 none (by decide) rfl (Nat.le_of_ble_eq_true rfl) ?_
  intro p e s m below meth c ls hx hb hr hml hown hts hlocks hin hN hE hH0 hl
  have hown : s.vm.findClass RX9 = some m.cls := hown
  have hl : lv_has ls 2 [(0, .ref w)] := hl
  have hL : OkL B0 [] := OkL.nil
  have hF : Fr B0 [12, 17] κ H0 H0 := Fr.rf
  obtain ⟨hm, f3775, hd3775, e3775, n3775, v3775⟩ := hps
  have hm8 := hm.2.2.2.2.2.2.2
  have hbd : B0 ≤ dr := (hT.o26 hdT.1).1
  have hDR := hT.dr hdT hd3775
  have hP : va_P D vwCl [(dr, .inl (cs 0, 1383, .inl f3775))] _ := va_P.cons hd3775 va_P.nil
  refine lv_aload_n hx hb dX9_readSum_0 rfl (lv_at hl 0 rfl) ?_
  have hps : PS D cs w _ (pos) (tl) (er) (1) dr bu g (N) (h) := ⟨hm, f3775, hP 0 _ rfl, e3775, by omega, v3775⟩
  refine cv_v (As := []) (rest := []) (b := w) ⟨hx, hb, hml, hown, hts⟩ (c_X9_term_d1 hT (w := w) hw hbT hdT hps) (cwV 0 hts gX9_readSum_X9_term rfl rfl rfl hdX9_term_v ⟨Nat.le_of_ble_eq_true rfl, Nat.le_of_ble_eq_true rfl⟩) hN hE hL (rcv10 hN hT hw.1) rfl rfl hl.1 (Nat.le_of_ble_eq_true rfl) dX9_readSum_1 (Nat.zero_le _) (Nat.zero_le _) (fun H1 locs hL hqr3777 => ?_)
  obtain ⟨hT1, hF1, hqr3777⟩ := hqr3777
  have hF := hF.tr (hF1.mono (by simp))
  have hT := hT1
  obtain ⟨N3778, p3779, er3780, a3781, b3782, z3783, m3784, f3785, d3786, e3787, n3788, v3789⟩ := hqr3777
  have hm := m3784
  have hm8 := hm.2.2.2.2.2.2.2
  have hbd : B0 ≤ dr := (hT.o26 hdT.1).1
  have hDR := hT.dr hdT d3786
  have hP : va_P D vwCl [(dr, .inl (cs 0, 1383, .inl f3785))] _ := va_P.cons d3786 va_P.nil
  have hps : PS D cs w _ (p3779) (tl) (er3780) (1) dr bu g (N3778) ((h + 1)) := ⟨hm, f3785, hP 0 _ rfl, e3787, by omega, v3789⟩
  refine lp_m (α := Nat × Nat × Int32) (nL := 2) (fun a9 => 600 - a9.1) (fun a9 H9 l9 => (PS D cs w H9 a9.1 tl a9.2.2 1 dr bu g a9.2.1 (h + 1)) ∧ (a9.2.1 + 2 * pos ≤ N + 2 * a9.1) ∧ (pos ≤ a9.1) ∧ (a9.2.2 = 0 → er = 0) ∧ (WT B0 D cs T κ H9) ∧ (Fr B0 [12, 17] κ H0 H9) ∧ (OkL B0 l9)) (fun a9 => [(0, .ref w)]) ?_ (p3779, N3778, er3780) _ _ _ ⟨hps, (by show (N3778) + 2 * pos ≤ N + 2 * (p3779); omega), (by show pos ≤ (p3779); omega), (fun e9 => id (z3783 e9)), hT, hF, hL⟩ (lv_sub hl [0] rfl)
  rintro ⟨p, N1, er1⟩ H locs ls ih3791 ⟨hps, hb1, hb2, hz1, hT, hF, hL⟩ hl
  have hl : lv_has ls 2 [(0, .ref w)] := hl
  have hps : PS D cs w H p tl er1 1 dr bu g N1 (h + 1) := hps
  have hb1 : N1 + 2 * pos ≤ N + 2 * p := hb1
  have hb2 : pos ≤ p := hb2
  have hz1 : er1 = 0 → er = 0 := hz1
  obtain ⟨hm, f3792, hd3792, e3792, n3792, v3792⟩ := hps
  have hm8 := hm.2.2.2.2.2.2.2
  have hbd : B0 ≤ dr := (hT.o26 hdT.1).1
  have hDR := hT.dr hdT hd3792
  have hP : va_P D vwCl [(dr, .inl (cs 0, 1383, .inl f3792))] _ := va_P.cons hd3792 va_P.nil
  refine lv_aload_n hx hb dX9_readSum_4 rfl (lv_at hl 0 rfl) ?_
  refine cv_i (As := []) (rest := []) (b := w) ⟨hx, hb, hml, hown, hts⟩ (c_X9_isGood hT (w := w) hw hbT hdT hm) (cwV 0 hts gX9_readSum_X9_isGood rfl rfl rfl hdX9_isGood_v ⟨Nat.le_of_ble_eq_true rfl, Nat.le_of_ble_eq_true rfl⟩) hN hE hL (rcv10 hN hT hw.1) rfl rfl hl.1 (Nat.le_of_ble_eq_true rfl) dX9_readSum_5 (Nat.zero_le _) (Nat.zero_le _) (fun r3794 H1 locs hL hqr3794 => ?_)
  obtain ⟨h9, hqr3794⟩ := hqr3794; replace h9 := h9.symm; subst h9
  rcases hqr3794 with ⟨rfl, e3795⟩ | ⟨rfl, e3796⟩
  · refine lv_if_eq (tgt := 74) hx hb dX9_readSum_8 (by decide) (fun c9 => absurd c9 (by decide)) (fun _ => ?_)
    refine lv_aload_n hx hb dX9_readSum_11 rfl (lv_at hl 0 rfl) ?_
    refine cv_i (As := []) (rest := []) (b := w) ⟨hx, hb, hml, hown, hts⟩ (c_X9_ahead hT (w := w) hw hbT hdT hm) (cwV 0 hts gX9_readSum_X9_ahead rfl rfl rfl hdX9_ahead_v ⟨Nat.le_of_ble_eq_true rfl, Nat.le_of_ble_eq_true rfl⟩) hN hE hL (rcv10 hN hT hw.1) rfl rfl hl.1 (Nat.le_of_ble_eq_true rfl) dX9_readSum_12 (Nat.zero_le _) (Nat.zero_le _) (fun r3797 H1 locs hL hqr3797 => ?_)
    obtain ⟨hT1, hF1, hqr3797⟩ := hqr3797
    have hP : va_P D vwCl [(dr, .inl (cs 0, 1383, .inl f3792))] _ := hF1.hP (hP.sub [0] rfl) (fa_c ⟨by rw [hdT.1]; decide, by rw [hdT.2]; first | decide | (simp; done) | (simp; omega)⟩ fa_n)
    have hF := hF.tr (hF1.mono (by simp))
    have hT := hT1
    obtain ⟨p3798, h3799, m3800, n3801, s3802, rfl⟩ := hqr3797
    have hm := m3800
    have hm8 := hm.2.2.2.2.2.2.2
    refine lv_bipush (v := 43) hx hb dX9_readSum_15 (by decide) ?_
    refine lv_icmp_eq (tgt := 29) hx hb dX9_readSum_17 (by decide) (fun c3803 => ?_) (fun c3803 => ?_)
    · have hl9 := byF_c (c3803) (by decide)
      refine lv_aload_n hx hb dX9_readSum_29 rfl (lv_at hl 0 rfl) ?_
      refine cv_i (As := []) (rest := []) (b := w) ⟨hx, hb, hml, hown, hts⟩ (c_X9_ahead hT (w := w) hw hbT hdT hm) (cwV 0 hts gX9_readSum_X9_ahead rfl rfl rfl hdX9_ahead_v ⟨Nat.le_of_ble_eq_true rfl, Nat.le_of_ble_eq_true rfl⟩) hN hE hL (rcv10 hN hT hw.1) rfl rfl hl.1 (Nat.le_of_ble_eq_true rfl) dX9_readSum_30 (Nat.zero_le _) (Nat.zero_le _) (fun r3804 H1 locs hL hqr3804 => ?_)
      obtain ⟨hT1, hF1, hqr3804⟩ := hqr3804
      have hP : va_P D vwCl [(dr, .inl (cs 0, 1383, .inl f3792))] _ := hF1.hP (hP.sub [0] rfl) (fa_c ⟨by rw [hdT.1]; decide, by rw [hdT.2]; first | decide | (simp; done) | (simp; omega)⟩ fa_n)
      have hF := hF.tr (hF1.mono (by simp))
      have hT := hT1
      obtain ⟨p3805, h3806, m3807, n3808, s3809, rfl⟩ := hqr3804
      have hm := m3807
      have hpe := s3809 n3801
      rw [hpe] at hm
      refine tp_i (byF g tl p3798) (by rw [hpe]) ?_
      have hm8 := hm.2.2.2.2.2.2.2
      refine lv_bipush (v := 43) hx hb dX9_readSum_33 (by decide) ?_
      refine lv_icmp_ne (tgt := 42) hx hb dX9_readSum_35 (by decide) (fun c3810 => ?_) (fun c3810 => ?_)
      · refine lv_iconst (v := 0) hx hb dX9_readSum_42 (by decide) ?_
        refine lv_istore_n (lv' := [(1, .int 0), (0, .ref w)]) hx hb dX9_readSum_43 rfl hl (by decide) rfl (fun ls hl => ?_)
        refine lv_aload_n hx hb dX9_readSum_44 rfl (lv_at hl 1 rfl) ?_
        refine lv_dup hx hb dX9_readSum_45 rfl ?_
        obtain ⟨hb3811, e3811, hat3811, hk3811⟩ := hT.o10 hw.1
        obtain ⟨f3811_0, f3811_1, f3811_3, f3811_4, f3811_5, f3811_6, f3811_7, f3811_9, f3811_10, f3811_11, f3811_12, f3811_13, f3811_14, f3811_15, f3811_16, f3811_17, rfl, c3811_2, c3811_3, c3811_4, c3811_12, t3811_1, t3811_8, t3811_9, c3811_sd, t3811_10, t3811_11, t3811_17⟩ := hk3811
        obtain ⟨rfl, rfl, rfl, rfl, rfl, rfl⟩ := hm.at hat3811 c3811_3 (by omega)
        have hm8 := hm.2.2.2.2.2.2.2
        have hP : va_P D vwCl [(w, .inr (9, [.int f3811_0, .ref bu, .int (nI ((κ w).2.2.1)), .int (nI tl), .int (nI p3798), .int er1, .int f3811_6, .int f3811_7, .ref (κ w).2.2.2, .ref f3811_9, .ref dr, .ref f3811_11, .int (nI f3811_12), .int f3811_13, .int 1, .int f3811_15, .int f3811_16, .ref f3811_17])), (dr, .inl (cs 0, 1383, .inl f3792))] _ := va_P.cons hat3811 hP
        refine va_get (D := D) (ci := 9) (v := .int (nI p3798)) (C := RX9) (T := TX9) (N := 18) hx hb hts iX9_readSum_9 hown hN.1 hP 0 rfl rfl 4 (by decide) (hts _ mX9_readSum_1) (fun _ h9 => h9) rfl dX9_readSum_46 ?_
        refine lv_iconst (v := 1) hx hb dX9_readSum_49 (by decide) ?_
        refine lv_iadd hx hb dX9_readSum_50 ?_
        refine tp_i (nI (p3798 + 1)) (nI_add p3798 1) ?_
        have hB : Bx B0 D _ [(w, .inr (9, [.int f3811_0, .ref bu, .int (nI ((κ w).2.2.1)), .int (nI tl), .int (nI p3798), .int er1, .int f3811_6, .int f3811_7, .ref (κ w).2.2.2, .ref f3811_9, .ref dr, .ref f3811_11, .int (nI f3811_12), .int f3811_13, .int 1, .int f3811_15, .int f3811_16, .ref f3811_17])), (dr, .inl (cs 0, 1383, .inl f3792))] [] _ _ := Bx.of (fun a => (κ a).1) hL hP (fa_c hb3811 (fa_c hbd fa_n)) (by simp only [List.map_cons, List.map_nil, hw.1, hdT.1]; decide)
        refine b_put (D := D) (ci := 9) (v := .int (nI (p3798 + 1))) (ty := .int) (C := RX9) (T := TX9) (N := 18) hx hb hts iX9_readSum_9 tyX9 tyX9_ok nmX9 hown hN hB 0 rfl rfl 4 (by decide) (hts _ mX9_readSum_1) (fun _ h9 => h9) rfl (by decide +kernel) rfl rfl (Nat.le_of_ble_eq_true rfl) (.inl rfl) dX9_readSum_51 (fun H locs hB => ?_)
        have hB : Bx B0 D _ [(w, .inr (9, [.int f3811_0, .ref bu, .int (nI ((κ w).2.2.1)), .int (nI tl), .int (nI (p3798 + 1)), .int er1, .int f3811_6, .int f3811_7, .ref (κ w).2.2.2, .ref f3811_9, .ref dr, .ref f3811_11, .int (nI f3811_12), .int f3811_13, .int 1, .int f3811_15, .int f3811_16, .ref f3811_17])), (dr, .inl (cs 0, 1383, .inl f3792))] [w] _ _ := hB
        refine lv_aload_n hx hb dX9_readSum_54 rfl (lv_at hl 1 rfl) ?_
        have hT : WT B0 D cs T κ _ := hT.close hB ⟨⟨0, _, rfl, ok_10 hw.1 ⟨_, _, _, _, _, _, _, _, _, _, _, _, _, _, _, _, rfl, (by omega), (by omega), (by omega), (by omega), hbT, t3811_8, t3811_9, c3811_sd, hdT, t3811_11, t3811_17⟩⟩, trivial⟩
        have hF : Fr B0 [12, 17] κ H0 _ := hF.close hB (fa_c (by simp [hw.2]) fa_n)
        have hL : OkL B0 _ := hB.2.2.2.2.2
        have hP : va_P D vwCl [(w, .inr (9, [.int f3811_0, .ref bu, .int (nI ((κ w).2.2.1)), .int (nI tl), .int (nI (p3798 + 1)), .int er1, .int f3811_6, .int f3811_7, .ref (κ w).2.2.2, .ref f3811_9, .ref dr, .ref f3811_11, .int (nI f3811_12), .int f3811_13, .int 1, .int f3811_15, .int f3811_16, .ref f3811_17])), (dr, .inl (cs 0, 1383, .inl f3792))] _ := hB.1
        have hbu9 := (hm.2.2.2.2.2.2.1).kept (hB.2.2.2.1 _ hm.2.2.2.2.2.2.1.lt (by simp only [List.mem_cons, List.not_mem_nil, or_false, not_or]; exact ne_c hbT.1 hw.1 (by decide)))
        have hm : MF D cs w _ ((p3798 + 1)) (tl) (er1) (1) dr bu g := ⟨⟨_, hP 0 _ rfl, rfl⟩, ⟨_, hP 0 _ rfl, rfl⟩, ⟨_, hP 0 _ rfl, rfl⟩, ⟨_, hP 0 _ rfl, rfl⟩, ⟨_, hP 0 _ rfl, rfl⟩, ⟨_, hP 0 _ rfl, rfl⟩, hbu9, (by omega), (by omega)⟩
        have hps : PS D cs w _ ((p3798 + 1)) (tl) (er1) (1) dr bu g (N1) ((h + 1)) := ⟨hm, f3792, hP 1 _ rfl, e3792, by omega, v3792⟩
        refine cv_v (As := []) (rest := []) (b := w) ⟨hx, hb, hml, hown, hts⟩ (c_X9_term_d1 hT (w := w) hw hbT hdT hps) (cwV 0 hts gX9_readSum_X9_term rfl rfl rfl hdX9_term_v ⟨Nat.le_of_ble_eq_true rfl, Nat.le_of_ble_eq_true rfl⟩) hN hE hL (rcv10 hN hT hw.1) rfl rfl hl.1 (Nat.le_of_ble_eq_true rfl) dX9_readSum_55 (Nat.zero_le _) (Nat.zero_le _) (fun H1 locs hL hqr3812 => ?_)
        obtain ⟨hT1, hF1, hqr3812⟩ := hqr3812
        have hF := hF.tr (hF1.mono (by simp))
        have hT := hT1
        obtain ⟨N3813, p3814, er3815, a3816, b3817, z3818, m3819, f3820, d3821, e3822, n3823, v3824⟩ := hqr3812
        have hm := m3819
        have hm8 := hm.2.2.2.2.2.2.2
        have hbd : B0 ≤ dr := (hT.o26 hdT.1).1
        have hDR := hT.dr hdT d3821
        have hP : va_P D vwCl [(dr, .inl (cs 0, 1383, .inl f3820))] _ := va_P.cons d3821 va_P.nil
        refine lv_aload_n hx hb dX9_readSum_58 rfl (lv_at hl 1 rfl) ?_
        refine lv_iload_n hx hb dX9_readSum_59 rfl (lv_at hl 0 rfl) ?_
        refine lv_if_eq (tgt := 67) hx hb dX9_readSum_60 (by decide) (fun _ => ?_) (fun c9 => absurd (by decide) c9)
        refine lv_iconst (v := 3) hx hb dX9_readSum_67 (by decide) ?_
        refine cv_v (As := [.int 3]) (rest := []) (b := w) ⟨hx, hb, hml, hown, hts⟩ (c_X9_emit hT (w := w) hw (x := 3) hbT hdT hm (hP 0 _ rfl) e3822 (fun _ => by omega)) (cwV 1 hts gX9_readSum_X9_emit rfl rfl rfl hdX9_emit_v ⟨Nat.le_of_ble_eq_true rfl, Nat.le_of_ble_eq_true rfl⟩) hN hE hL (rcv10 hN hT hw.1) rfl rfl hl.1 (Nat.le_of_ble_eq_true rfl) dX9_readSum_68 (Nat.zero_le _) (Nat.zero_le _) (fun H1 locs hL hqr3826 => ?_)
        obtain ⟨hT1, hF1, hqr3826⟩ := hqr3826
        have hF := hF.tr (hF1.mono (by simp))
        have hT := hT1
        obtain ⟨f3827, N3828, d3829, e3830, x3831, m3832⟩ := hqr3826
        have hm := m3832
        have hm8 := hm.2.2.2.2.2.2.2
        have nx3831 := x3831.n
        have ox3831 := nx3831.1
        have hbd : B0 ≤ dr := (hT.o26 hdT.1).1
        have hDR := hT.dr hdT d3829
        have hP : va_P D vwCl [(dr, .inl (cs 0, 1383, .inl f3827))] _ := va_P.cons d3829 va_P.nil
        refine lv_goto (tgt := 4) hx hb dX9_readSum_71 (by decide) ?_
        have hps : PS D cs w _ (p3814) (tl) (er3815) (1) dr bu g (N3828) ((h + 1)) := ⟨hm, f3827, hP 0 _ rfl, e3830, by omega, (EM.op x3831 (by decide) v3824)⟩
        exact ih3791 (p3814, N3828, er3815) _ _ _ (by show 600 - (p3814) < 600 - p; omega) ⟨hps, (by show (N3828) + 2 * pos ≤ N + 2 * (p3814); omega), (by show pos ≤ (p3814); omega), (fun e9 => hz1 (z3818 e9)), hT, hF, hL⟩ (lv_sub hl [1] rfl)
      · refine lv_iconst (v := 1) hx hb dX9_readSum_38 (by decide) ?_
        refine lv_goto (tgt := 43) hx hb dX9_readSum_39 (by decide) ?_
        refine lv_istore_n (lv' := [(1, .int 1), (0, .ref w)]) hx hb dX9_readSum_43 rfl hl (by decide) rfl (fun ls hl => ?_)
        refine lv_aload_n hx hb dX9_readSum_44 rfl (lv_at hl 1 rfl) ?_
        refine lv_dup hx hb dX9_readSum_45 rfl ?_
        obtain ⟨hb3834, e3834, hat3834, hk3834⟩ := hT.o10 hw.1
        obtain ⟨f3834_0, f3834_1, f3834_3, f3834_4, f3834_5, f3834_6, f3834_7, f3834_9, f3834_10, f3834_11, f3834_12, f3834_13, f3834_14, f3834_15, f3834_16, f3834_17, rfl, c3834_2, c3834_3, c3834_4, c3834_12, t3834_1, t3834_8, t3834_9, c3834_sd, t3834_10, t3834_11, t3834_17⟩ := hk3834
        obtain ⟨rfl, rfl, rfl, rfl, rfl, rfl⟩ := hm.at hat3834 c3834_3 (by omega)
        have hm8 := hm.2.2.2.2.2.2.2
        have hP : va_P D vwCl [(w, .inr (9, [.int f3834_0, .ref bu, .int (nI ((κ w).2.2.1)), .int (nI tl), .int (nI p3798), .int er1, .int f3834_6, .int f3834_7, .ref (κ w).2.2.2, .ref f3834_9, .ref dr, .ref f3834_11, .int (nI f3834_12), .int f3834_13, .int 1, .int f3834_15, .int f3834_16, .ref f3834_17])), (dr, .inl (cs 0, 1383, .inl f3792))] _ := va_P.cons hat3834 hP
        refine va_get (D := D) (ci := 9) (v := .int (nI p3798)) (C := RX9) (T := TX9) (N := 18) hx hb hts iX9_readSum_9 hown hN.1 hP 0 rfl rfl 4 (by decide) (hts _ mX9_readSum_1) (fun _ h9 => h9) rfl dX9_readSum_46 ?_
        refine lv_iconst (v := 1) hx hb dX9_readSum_49 (by decide) ?_
        refine lv_iadd hx hb dX9_readSum_50 ?_
        refine tp_i (nI (p3798 + 1)) (nI_add p3798 1) ?_
        have hB : Bx B0 D _ [(w, .inr (9, [.int f3834_0, .ref bu, .int (nI ((κ w).2.2.1)), .int (nI tl), .int (nI p3798), .int er1, .int f3834_6, .int f3834_7, .ref (κ w).2.2.2, .ref f3834_9, .ref dr, .ref f3834_11, .int (nI f3834_12), .int f3834_13, .int 1, .int f3834_15, .int f3834_16, .ref f3834_17])), (dr, .inl (cs 0, 1383, .inl f3792))] [] _ _ := Bx.of (fun a => (κ a).1) hL hP (fa_c hb3834 (fa_c hbd fa_n)) (by simp only [List.map_cons, List.map_nil, hw.1, hdT.1]; decide)
        refine b_put (D := D) (ci := 9) (v := .int (nI (p3798 + 1))) (ty := .int) (C := RX9) (T := TX9) (N := 18) hx hb hts iX9_readSum_9 tyX9 tyX9_ok nmX9 hown hN hB 0 rfl rfl 4 (by decide) (hts _ mX9_readSum_1) (fun _ h9 => h9) rfl (by decide +kernel) rfl rfl (Nat.le_of_ble_eq_true rfl) (.inl rfl) dX9_readSum_51 (fun H locs hB => ?_)
        have hB : Bx B0 D _ [(w, .inr (9, [.int f3834_0, .ref bu, .int (nI ((κ w).2.2.1)), .int (nI tl), .int (nI (p3798 + 1)), .int er1, .int f3834_6, .int f3834_7, .ref (κ w).2.2.2, .ref f3834_9, .ref dr, .ref f3834_11, .int (nI f3834_12), .int f3834_13, .int 1, .int f3834_15, .int f3834_16, .ref f3834_17])), (dr, .inl (cs 0, 1383, .inl f3792))] [w] _ _ := hB
        refine lv_aload_n hx hb dX9_readSum_54 rfl (lv_at hl 1 rfl) ?_
        have hT : WT B0 D cs T κ _ := hT.close hB ⟨⟨0, _, rfl, ok_10 hw.1 ⟨_, _, _, _, _, _, _, _, _, _, _, _, _, _, _, _, rfl, (by omega), (by omega), (by omega), (by omega), hbT, t3834_8, t3834_9, c3834_sd, hdT, t3834_11, t3834_17⟩⟩, trivial⟩
        have hF : Fr B0 [12, 17] κ H0 _ := hF.close hB (fa_c (by simp [hw.2]) fa_n)
        have hL : OkL B0 _ := hB.2.2.2.2.2
        have hP : va_P D vwCl [(w, .inr (9, [.int f3834_0, .ref bu, .int (nI ((κ w).2.2.1)), .int (nI tl), .int (nI (p3798 + 1)), .int er1, .int f3834_6, .int f3834_7, .ref (κ w).2.2.2, .ref f3834_9, .ref dr, .ref f3834_11, .int (nI f3834_12), .int f3834_13, .int 1, .int f3834_15, .int f3834_16, .ref f3834_17])), (dr, .inl (cs 0, 1383, .inl f3792))] _ := hB.1
        have hbu9 := (hm.2.2.2.2.2.2.1).kept (hB.2.2.2.1 _ hm.2.2.2.2.2.2.1.lt (by simp only [List.mem_cons, List.not_mem_nil, or_false, not_or]; exact ne_c hbT.1 hw.1 (by decide)))
        have hm : MF D cs w _ ((p3798 + 1)) (tl) (er1) (1) dr bu g := ⟨⟨_, hP 0 _ rfl, rfl⟩, ⟨_, hP 0 _ rfl, rfl⟩, ⟨_, hP 0 _ rfl, rfl⟩, ⟨_, hP 0 _ rfl, rfl⟩, ⟨_, hP 0 _ rfl, rfl⟩, ⟨_, hP 0 _ rfl, rfl⟩, hbu9, (by omega), (by omega)⟩
        have hps : PS D cs w _ ((p3798 + 1)) (tl) (er1) (1) dr bu g (N1) ((h + 1)) := ⟨hm, f3792, hP 1 _ rfl, e3792, by omega, v3792⟩
        refine cv_v (As := []) (rest := []) (b := w) ⟨hx, hb, hml, hown, hts⟩ (c_X9_term_d1 hT (w := w) hw hbT hdT hps) (cwV 0 hts gX9_readSum_X9_term rfl rfl rfl hdX9_term_v ⟨Nat.le_of_ble_eq_true rfl, Nat.le_of_ble_eq_true rfl⟩) hN hE hL (rcv10 hN hT hw.1) rfl rfl hl.1 (Nat.le_of_ble_eq_true rfl) dX9_readSum_55 (Nat.zero_le _) (Nat.zero_le _) (fun H1 locs hL hqr3835 => ?_)
        obtain ⟨hT1, hF1, hqr3835⟩ := hqr3835
        have hF := hF.tr (hF1.mono (by simp))
        have hT := hT1
        obtain ⟨N3836, p3837, er3838, a3839, b3840, z3841, m3842, f3843, d3844, e3845, n3846, v3847⟩ := hqr3835
        have hm := m3842
        have hm8 := hm.2.2.2.2.2.2.2
        have hbd : B0 ≤ dr := (hT.o26 hdT.1).1
        have hDR := hT.dr hdT d3844
        have hP : va_P D vwCl [(dr, .inl (cs 0, 1383, .inl f3843))] _ := va_P.cons d3844 va_P.nil
        refine lv_aload_n hx hb dX9_readSum_58 rfl (lv_at hl 1 rfl) ?_
        refine lv_iload_n hx hb dX9_readSum_59 rfl (lv_at hl 0 rfl) ?_
        refine lv_if_eq (tgt := 67) hx hb dX9_readSum_60 (by decide) (fun c9 => absurd c9 (by decide)) (fun _ => ?_)
        refine lv_iconst (v := 2) hx hb dX9_readSum_63 (by decide) ?_
        refine lv_goto (tgt := 68) hx hb dX9_readSum_64 (by decide) ?_
        refine cv_v (As := [.int 2]) (rest := []) (b := w) ⟨hx, hb, hml, hown, hts⟩ (c_X9_emit hT (w := w) hw (x := 2) hbT hdT hm (hP 0 _ rfl) e3845 (fun _ => by omega)) (cwV 1 hts gX9_readSum_X9_emit rfl rfl rfl hdX9_emit_v ⟨Nat.le_of_ble_eq_true rfl, Nat.le_of_ble_eq_true rfl⟩) hN hE hL (rcv10 hN hT hw.1) rfl rfl hl.1 (Nat.le_of_ble_eq_true rfl) dX9_readSum_68 (Nat.zero_le _) (Nat.zero_le _) (fun H1 locs hL hqr3849 => ?_)
        obtain ⟨hT1, hF1, hqr3849⟩ := hqr3849
        have hF := hF.tr (hF1.mono (by simp))
        have hT := hT1
        obtain ⟨f3850, N3851, d3852, e3853, x3854, m3855⟩ := hqr3849
        have hm := m3855
        have hm8 := hm.2.2.2.2.2.2.2
        have nx3854 := x3854.n
        have ox3854 := nx3854.1
        have hbd : B0 ≤ dr := (hT.o26 hdT.1).1
        have hDR := hT.dr hdT d3852
        have hP : va_P D vwCl [(dr, .inl (cs 0, 1383, .inl f3850))] _ := va_P.cons d3852 va_P.nil
        refine lv_goto (tgt := 4) hx hb dX9_readSum_71 (by decide) ?_
        have hps : PS D cs w _ (p3837) (tl) (er3838) (1) dr bu g (N3851) ((h + 1)) := ⟨hm, f3850, hP 0 _ rfl, e3853, by omega, (EM.op x3854 (by decide) v3847)⟩
        exact ih3791 (p3837, N3851, er3838) _ _ _ (by show 600 - (p3837) < 600 - p; omega) ⟨hps, (by show (N3851) + 2 * pos ≤ N + 2 * (p3837); omega), (by show pos ≤ (p3837); omega), (fun e9 => hz1 (z3841 e9)), hT, hF, hL⟩ (lv_sub hl [1] rfl)
    · refine lv_aload_n hx hb dX9_readSum_20 rfl (lv_at hl 0 rfl) ?_
      refine cv_i (As := []) (rest := []) (b := w) ⟨hx, hb, hml, hown, hts⟩ (c_X9_ahead hT (w := w) hw hbT hdT hm) (cwV 0 hts gX9_readSum_X9_ahead rfl rfl rfl hdX9_ahead_v ⟨Nat.le_of_ble_eq_true rfl, Nat.le_of_ble_eq_true rfl⟩) hN hE hL (rcv10 hN hT hw.1) rfl rfl hl.1 (Nat.le_of_ble_eq_true rfl) dX9_readSum_21 (Nat.zero_le _) (Nat.zero_le _) (fun r3857 H1 locs hL hqr3857 => ?_)
      obtain ⟨hT1, hF1, hqr3857⟩ := hqr3857
      have hP : va_P D vwCl [(dr, .inl (cs 0, 1383, .inl f3792))] _ := hF1.hP (hP.sub [0] rfl) (fa_c ⟨by rw [hdT.1]; decide, by rw [hdT.2]; first | decide | (simp; done) | (simp; omega)⟩ fa_n)
      have hF := hF.tr (hF1.mono (by simp))
      have hT := hT1
      obtain ⟨p3858, h3859, m3860, n3861, s3862, rfl⟩ := hqr3857
      have hm := m3860
      have hpe := s3862 n3801
      rw [hpe] at hm
      refine tp_i (byF g tl p3798) (by rw [hpe]) ?_
      have hm8 := hm.2.2.2.2.2.2.2
      refine lv_bipush (v := 45) hx hb dX9_readSum_24 (by decide) ?_
      refine lv_icmp_ne (tgt := 74) hx hb dX9_readSum_26 (by decide) (fun c3863 => ?_) (fun c3863 => ?_)
      · have hps : PS D cs w _ (p3798) (tl) (er1) (1) dr bu g (N1) ((h + 1)) := ⟨hm, f3792, hP 0 _ rfl, e3792, by omega, v3792⟩
        exact en_v hx hb hr hlocks hL (Nat.zero_le _) (Nat.zero_le _) dX9_readSum_74 (⟨hT, hF, N1, p3798, er1, (by omega), (by omega), hz1, hps⟩)
      · have hl9 := byF_c (c3863) (by decide)
        refine lv_aload_n hx hb dX9_readSum_29 rfl (lv_at hl 0 rfl) ?_
        refine cv_i (As := []) (rest := []) (b := w) ⟨hx, hb, hml, hown, hts⟩ (c_X9_ahead hT (w := w) hw hbT hdT hm) (cwV 0 hts gX9_readSum_X9_ahead rfl rfl rfl hdX9_ahead_v ⟨Nat.le_of_ble_eq_true rfl, Nat.le_of_ble_eq_true rfl⟩) hN hE hL (rcv10 hN hT hw.1) rfl rfl hl.1 (Nat.le_of_ble_eq_true rfl) dX9_readSum_30 (Nat.zero_le _) (Nat.zero_le _) (fun r3864 H1 locs hL hqr3864 => ?_)
        obtain ⟨hT1, hF1, hqr3864⟩ := hqr3864
        have hP : va_P D vwCl [(dr, .inl (cs 0, 1383, .inl f3792))] _ := hF1.hP (hP.sub [0] rfl) (fa_c ⟨by rw [hdT.1]; decide, by rw [hdT.2]; first | decide | (simp; done) | (simp; omega)⟩ fa_n)
        have hF := hF.tr (hF1.mono (by simp))
        have hT := hT1
        obtain ⟨p3865, h3866, m3867, n3868, s3869, rfl⟩ := hqr3864
        have hm := m3867
        have hpe := s3869 n3801
        rw [hpe] at hm
        refine tp_i (byF g tl p3798) (by rw [hpe]) ?_
        have hm8 := hm.2.2.2.2.2.2.2
        refine lv_bipush (v := 43) hx hb dX9_readSum_33 (by decide) ?_
        refine lv_icmp_ne (tgt := 42) hx hb dX9_readSum_35 (by decide) (fun c3870 => ?_) (fun c3870 => ?_)
        · refine lv_iconst (v := 0) hx hb dX9_readSum_42 (by decide) ?_
          refine lv_istore_n (lv' := [(1, .int 0), (0, .ref w)]) hx hb dX9_readSum_43 rfl hl (by decide) rfl (fun ls hl => ?_)
          refine lv_aload_n hx hb dX9_readSum_44 rfl (lv_at hl 1 rfl) ?_
          refine lv_dup hx hb dX9_readSum_45 rfl ?_
          obtain ⟨hb3871, e3871, hat3871, hk3871⟩ := hT.o10 hw.1
          obtain ⟨f3871_0, f3871_1, f3871_3, f3871_4, f3871_5, f3871_6, f3871_7, f3871_9, f3871_10, f3871_11, f3871_12, f3871_13, f3871_14, f3871_15, f3871_16, f3871_17, rfl, c3871_2, c3871_3, c3871_4, c3871_12, t3871_1, t3871_8, t3871_9, c3871_sd, t3871_10, t3871_11, t3871_17⟩ := hk3871
          obtain ⟨rfl, rfl, rfl, rfl, rfl, rfl⟩ := hm.at hat3871 c3871_3 (by omega)
          have hm8 := hm.2.2.2.2.2.2.2
          have hP : va_P D vwCl [(w, .inr (9, [.int f3871_0, .ref bu, .int (nI ((κ w).2.2.1)), .int (nI tl), .int (nI p3798), .int er1, .int f3871_6, .int f3871_7, .ref (κ w).2.2.2, .ref f3871_9, .ref dr, .ref f3871_11, .int (nI f3871_12), .int f3871_13, .int 1, .int f3871_15, .int f3871_16, .ref f3871_17])), (dr, .inl (cs 0, 1383, .inl f3792))] _ := va_P.cons hat3871 hP
          refine va_get (D := D) (ci := 9) (v := .int (nI p3798)) (C := RX9) (T := TX9) (N := 18) hx hb hts iX9_readSum_9 hown hN.1 hP 0 rfl rfl 4 (by decide) (hts _ mX9_readSum_1) (fun _ h9 => h9) rfl dX9_readSum_46 ?_
          refine lv_iconst (v := 1) hx hb dX9_readSum_49 (by decide) ?_
          refine lv_iadd hx hb dX9_readSum_50 ?_
          refine tp_i (nI (p3798 + 1)) (nI_add p3798 1) ?_
          have hB : Bx B0 D _ [(w, .inr (9, [.int f3871_0, .ref bu, .int (nI ((κ w).2.2.1)), .int (nI tl), .int (nI p3798), .int er1, .int f3871_6, .int f3871_7, .ref (κ w).2.2.2, .ref f3871_9, .ref dr, .ref f3871_11, .int (nI f3871_12), .int f3871_13, .int 1, .int f3871_15, .int f3871_16, .ref f3871_17])), (dr, .inl (cs 0, 1383, .inl f3792))] [] _ _ := Bx.of (fun a => (κ a).1) hL hP (fa_c hb3871 (fa_c hbd fa_n)) (by simp only [List.map_cons, List.map_nil, hw.1, hdT.1]; decide)
          refine b_put (D := D) (ci := 9) (v := .int (nI (p3798 + 1))) (ty := .int) (C := RX9) (T := TX9) (N := 18) hx hb hts iX9_readSum_9 tyX9 tyX9_ok nmX9 hown hN hB 0 rfl rfl 4 (by decide) (hts _ mX9_readSum_1) (fun _ h9 => h9) rfl (by decide +kernel) rfl rfl (Nat.le_of_ble_eq_true rfl) (.inl rfl) dX9_readSum_51 (fun H locs hB => ?_)
          have hB : Bx B0 D _ [(w, .inr (9, [.int f3871_0, .ref bu, .int (nI ((κ w).2.2.1)), .int (nI tl), .int (nI (p3798 + 1)), .int er1, .int f3871_6, .int f3871_7, .ref (κ w).2.2.2, .ref f3871_9, .ref dr, .ref f3871_11, .int (nI f3871_12), .int f3871_13, .int 1, .int f3871_15, .int f3871_16, .ref f3871_17])), (dr, .inl (cs 0, 1383, .inl f3792))] [w] _ _ := hB
          refine lv_aload_n hx hb dX9_readSum_54 rfl (lv_at hl 1 rfl) ?_
          have hT : WT B0 D cs T κ _ := hT.close hB ⟨⟨0, _, rfl, ok_10 hw.1 ⟨_, _, _, _, _, _, _, _, _, _, _, _, _, _, _, _, rfl, (by omega), (by omega), (by omega), (by omega), hbT, t3871_8, t3871_9, c3871_sd, hdT, t3871_11, t3871_17⟩⟩, trivial⟩
          have hF : Fr B0 [12, 17] κ H0 _ := hF.close hB (fa_c (by simp [hw.2]) fa_n)
          have hL : OkL B0 _ := hB.2.2.2.2.2
          have hP : va_P D vwCl [(w, .inr (9, [.int f3871_0, .ref bu, .int (nI ((κ w).2.2.1)), .int (nI tl), .int (nI (p3798 + 1)), .int er1, .int f3871_6, .int f3871_7, .ref (κ w).2.2.2, .ref f3871_9, .ref dr, .ref f3871_11, .int (nI f3871_12), .int f3871_13, .int 1, .int f3871_15, .int f3871_16, .ref f3871_17])), (dr, .inl (cs 0, 1383, .inl f3792))] _ := hB.1
          have hbu9 := (hm.2.2.2.2.2.2.1).kept (hB.2.2.2.1 _ hm.2.2.2.2.2.2.1.lt (by simp only [List.mem_cons, List.not_mem_nil, or_false, not_or]; exact ne_c hbT.1 hw.1 (by decide)))
          have hm : MF D cs w _ ((p3798 + 1)) (tl) (er1) (1) dr bu g := ⟨⟨_, hP 0 _ rfl, rfl⟩, ⟨_, hP 0 _ rfl, rfl⟩, ⟨_, hP 0 _ rfl, rfl⟩, ⟨_, hP 0 _ rfl, rfl⟩, ⟨_, hP 0 _ rfl, rfl⟩, ⟨_, hP 0 _ rfl, rfl⟩, hbu9, (by omega), (by omega)⟩
          have hps : PS D cs w _ ((p3798 + 1)) (tl) (er1) (1) dr bu g (N1) ((h + 1)) := ⟨hm, f3792, hP 1 _ rfl, e3792, by omega, v3792⟩
          refine cv_v (As := []) (rest := []) (b := w) ⟨hx, hb, hml, hown, hts⟩ (c_X9_term_d1 hT (w := w) hw hbT hdT hps) (cwV 0 hts gX9_readSum_X9_term rfl rfl rfl hdX9_term_v ⟨Nat.le_of_ble_eq_true rfl, Nat.le_of_ble_eq_true rfl⟩) hN hE hL (rcv10 hN hT hw.1) rfl rfl hl.1 (Nat.le_of_ble_eq_true rfl) dX9_readSum_55 (Nat.zero_le _) (Nat.zero_le _) (fun H1 locs hL hqr3872 => ?_)
          obtain ⟨hT1, hF1, hqr3872⟩ := hqr3872
          have hF := hF.tr (hF1.mono (by simp))
          have hT := hT1
          obtain ⟨N3873, p3874, er3875, a3876, b3877, z3878, m3879, f3880, d3881, e3882, n3883, v3884⟩ := hqr3872
          have hm := m3879
          have hm8 := hm.2.2.2.2.2.2.2
          have hbd : B0 ≤ dr := (hT.o26 hdT.1).1
          have hDR := hT.dr hdT d3881
          have hP : va_P D vwCl [(dr, .inl (cs 0, 1383, .inl f3880))] _ := va_P.cons d3881 va_P.nil
          refine lv_aload_n hx hb dX9_readSum_58 rfl (lv_at hl 1 rfl) ?_
          refine lv_iload_n hx hb dX9_readSum_59 rfl (lv_at hl 0 rfl) ?_
          refine lv_if_eq (tgt := 67) hx hb dX9_readSum_60 (by decide) (fun _ => ?_) (fun c9 => absurd (by decide) c9)
          refine lv_iconst (v := 3) hx hb dX9_readSum_67 (by decide) ?_
          refine cv_v (As := [.int 3]) (rest := []) (b := w) ⟨hx, hb, hml, hown, hts⟩ (c_X9_emit hT (w := w) hw (x := 3) hbT hdT hm (hP 0 _ rfl) e3882 (fun _ => by omega)) (cwV 1 hts gX9_readSum_X9_emit rfl rfl rfl hdX9_emit_v ⟨Nat.le_of_ble_eq_true rfl, Nat.le_of_ble_eq_true rfl⟩) hN hE hL (rcv10 hN hT hw.1) rfl rfl hl.1 (Nat.le_of_ble_eq_true rfl) dX9_readSum_68 (Nat.zero_le _) (Nat.zero_le _) (fun H1 locs hL hqr3886 => ?_)
          obtain ⟨hT1, hF1, hqr3886⟩ := hqr3886
          have hF := hF.tr (hF1.mono (by simp))
          have hT := hT1
          obtain ⟨f3887, N3888, d3889, e3890, x3891, m3892⟩ := hqr3886
          have hm := m3892
          have hm8 := hm.2.2.2.2.2.2.2
          have nx3891 := x3891.n
          have ox3891 := nx3891.1
          have hbd : B0 ≤ dr := (hT.o26 hdT.1).1
          have hDR := hT.dr hdT d3889
          have hP : va_P D vwCl [(dr, .inl (cs 0, 1383, .inl f3887))] _ := va_P.cons d3889 va_P.nil
          refine lv_goto (tgt := 4) hx hb dX9_readSum_71 (by decide) ?_
          have hps : PS D cs w _ (p3874) (tl) (er3875) (1) dr bu g (N3888) ((h + 1)) := ⟨hm, f3887, hP 0 _ rfl, e3890, by omega, (EM.op x3891 (by decide) v3884)⟩
          exact ih3791 (p3874, N3888, er3875) _ _ _ (by show 600 - (p3874) < 600 - p; omega) ⟨hps, (by show (N3888) + 2 * pos ≤ N + 2 * (p3874); omega), (by show pos ≤ (p3874); omega), (fun e9 => hz1 (z3878 e9)), hT, hF, hL⟩ (lv_sub hl [1] rfl)
        · refine lv_iconst (v := 1) hx hb dX9_readSum_38 (by decide) ?_
          refine lv_goto (tgt := 43) hx hb dX9_readSum_39 (by decide) ?_
          refine lv_istore_n (lv' := [(1, .int 1), (0, .ref w)]) hx hb dX9_readSum_43 rfl hl (by decide) rfl (fun ls hl => ?_)
          refine lv_aload_n hx hb dX9_readSum_44 rfl (lv_at hl 1 rfl) ?_
          refine lv_dup hx hb dX9_readSum_45 rfl ?_
          obtain ⟨hb3894, e3894, hat3894, hk3894⟩ := hT.o10 hw.1
          obtain ⟨f3894_0, f3894_1, f3894_3, f3894_4, f3894_5, f3894_6, f3894_7, f3894_9, f3894_10, f3894_11, f3894_12, f3894_13, f3894_14, f3894_15, f3894_16, f3894_17, rfl, c3894_2, c3894_3, c3894_4, c3894_12, t3894_1, t3894_8, t3894_9, c3894_sd, t3894_10, t3894_11, t3894_17⟩ := hk3894
          obtain ⟨rfl, rfl, rfl, rfl, rfl, rfl⟩ := hm.at hat3894 c3894_3 (by omega)
          have hm8 := hm.2.2.2.2.2.2.2
          have hP : va_P D vwCl [(w, .inr (9, [.int f3894_0, .ref bu, .int (nI ((κ w).2.2.1)), .int (nI tl), .int (nI p3798), .int er1, .int f3894_6, .int f3894_7, .ref (κ w).2.2.2, .ref f3894_9, .ref dr, .ref f3894_11, .int (nI f3894_12), .int f3894_13, .int 1, .int f3894_15, .int f3894_16, .ref f3894_17])), (dr, .inl (cs 0, 1383, .inl f3792))] _ := va_P.cons hat3894 hP
          refine va_get (D := D) (ci := 9) (v := .int (nI p3798)) (C := RX9) (T := TX9) (N := 18) hx hb hts iX9_readSum_9 hown hN.1 hP 0 rfl rfl 4 (by decide) (hts _ mX9_readSum_1) (fun _ h9 => h9) rfl dX9_readSum_46 ?_
          refine lv_iconst (v := 1) hx hb dX9_readSum_49 (by decide) ?_
          refine lv_iadd hx hb dX9_readSum_50 ?_
          refine tp_i (nI (p3798 + 1)) (nI_add p3798 1) ?_
          have hB : Bx B0 D _ [(w, .inr (9, [.int f3894_0, .ref bu, .int (nI ((κ w).2.2.1)), .int (nI tl), .int (nI p3798), .int er1, .int f3894_6, .int f3894_7, .ref (κ w).2.2.2, .ref f3894_9, .ref dr, .ref f3894_11, .int (nI f3894_12), .int f3894_13, .int 1, .int f3894_15, .int f3894_16, .ref f3894_17])), (dr, .inl (cs 0, 1383, .inl f3792))] [] _ _ := Bx.of (fun a => (κ a).1) hL hP (fa_c hb3894 (fa_c hbd fa_n)) (by simp only [List.map_cons, List.map_nil, hw.1, hdT.1]; decide)
          refine b_put (D := D) (ci := 9) (v := .int (nI (p3798 + 1))) (ty := .int) (C := RX9) (T := TX9) (N := 18) hx hb hts iX9_readSum_9 tyX9 tyX9_ok nmX9 hown hN hB 0 rfl rfl 4 (by decide) (hts _ mX9_readSum_1) (fun _ h9 => h9) rfl (by decide +kernel) rfl rfl (Nat.le_of_ble_eq_true rfl) (.inl rfl) dX9_readSum_51 (fun H locs hB => ?_)
          have hB : Bx B0 D _ [(w, .inr (9, [.int f3894_0, .ref bu, .int (nI ((κ w).2.2.1)), .int (nI tl), .int (nI (p3798 + 1)), .int er1, .int f3894_6, .int f3894_7, .ref (κ w).2.2.2, .ref f3894_9, .ref dr, .ref f3894_11, .int (nI f3894_12), .int f3894_13, .int 1, .int f3894_15, .int f3894_16, .ref f3894_17])), (dr, .inl (cs 0, 1383, .inl f3792))] [w] _ _ := hB
          refine lv_aload_n hx hb dX9_readSum_54 rfl (lv_at hl 1 rfl) ?_
          have hT : WT B0 D cs T κ _ := hT.close hB ⟨⟨0, _, rfl, ok_10 hw.1 ⟨_, _, _, _, _, _, _, _, _, _, _, _, _, _, _, _, rfl, (by omega), (by omega), (by omega), (by omega), hbT, t3894_8, t3894_9, c3894_sd, hdT, t3894_11, t3894_17⟩⟩, trivial⟩
          have hF : Fr B0 [12, 17] κ H0 _ := hF.close hB (fa_c (by simp [hw.2]) fa_n)
          have hL : OkL B0 _ := hB.2.2.2.2.2
          have hP : va_P D vwCl [(w, .inr (9, [.int f3894_0, .ref bu, .int (nI ((κ w).2.2.1)), .int (nI tl), .int (nI (p3798 + 1)), .int er1, .int f3894_6, .int f3894_7, .ref (κ w).2.2.2, .ref f3894_9, .ref dr, .ref f3894_11, .int (nI f3894_12), .int f3894_13, .int 1, .int f3894_15, .int f3894_16, .ref f3894_17])), (dr, .inl (cs 0, 1383, .inl f3792))] _ := hB.1
          have hbu9 := (hm.2.2.2.2.2.2.1).kept (hB.2.2.2.1 _ hm.2.2.2.2.2.2.1.lt (by simp only [List.mem_cons, List.not_mem_nil, or_false, not_or]; exact ne_c hbT.1 hw.1 (by decide)))
          have hm : MF D cs w _ ((p3798 + 1)) (tl) (er1) (1) dr bu g := ⟨⟨_, hP 0 _ rfl, rfl⟩, ⟨_, hP 0 _ rfl, rfl⟩, ⟨_, hP 0 _ rfl, rfl⟩, ⟨_, hP 0 _ rfl, rfl⟩, ⟨_, hP 0 _ rfl, rfl⟩, ⟨_, hP 0 _ rfl, rfl⟩, hbu9, (by omega), (by omega)⟩
          have hps : PS D cs w _ ((p3798 + 1)) (tl) (er1) (1) dr bu g (N1) ((h + 1)) := ⟨hm, f3792, hP 1 _ rfl, e3792, by omega, v3792⟩
          refine cv_v (As := []) (rest := []) (b := w) ⟨hx, hb, hml, hown, hts⟩ (c_X9_term_d1 hT (w := w) hw hbT hdT hps) (cwV 0 hts gX9_readSum_X9_term rfl rfl rfl hdX9_term_v ⟨Nat.le_of_ble_eq_true rfl, Nat.le_of_ble_eq_true rfl⟩) hN hE hL (rcv10 hN hT hw.1) rfl rfl hl.1 (Nat.le_of_ble_eq_true rfl) dX9_readSum_55 (Nat.zero_le _) (Nat.zero_le _) (fun H1 locs hL hqr3895 => ?_)
          obtain ⟨hT1, hF1, hqr3895⟩ := hqr3895
          have hF := hF.tr (hF1.mono (by simp))
          have hT := hT1
          obtain ⟨N3896, p3897, er3898, a3899, b3900, z3901, m3902, f3903, d3904, e3905, n3906, v3907⟩ := hqr3895
          have hm := m3902
          have hm8 := hm.2.2.2.2.2.2.2
          have hbd : B0 ≤ dr := (hT.o26 hdT.1).1
          have hDR := hT.dr hdT d3904
          have hP : va_P D vwCl [(dr, .inl (cs 0, 1383, .inl f3903))] _ := va_P.cons d3904 va_P.nil
          refine lv_aload_n hx hb dX9_readSum_58 rfl (lv_at hl 1 rfl) ?_
          refine lv_iload_n hx hb dX9_readSum_59 rfl (lv_at hl 0 rfl) ?_
          refine lv_if_eq (tgt := 67) hx hb dX9_readSum_60 (by decide) (fun c9 => absurd c9 (by decide)) (fun _ => ?_)
          refine lv_iconst (v := 2) hx hb dX9_readSum_63 (by decide) ?_
          refine lv_goto (tgt := 68) hx hb dX9_readSum_64 (by decide) ?_
          refine cv_v (As := [.int 2]) (rest := []) (b := w) ⟨hx, hb, hml, hown, hts⟩ (c_X9_emit hT (w := w) hw (x := 2) hbT hdT hm (hP 0 _ rfl) e3905 (fun _ => by omega)) (cwV 1 hts gX9_readSum_X9_emit rfl rfl rfl hdX9_emit_v ⟨Nat.le_of_ble_eq_true rfl, Nat.le_of_ble_eq_true rfl⟩) hN hE hL (rcv10 hN hT hw.1) rfl rfl hl.1 (Nat.le_of_ble_eq_true rfl) dX9_readSum_68 (Nat.zero_le _) (Nat.zero_le _) (fun H1 locs hL hqr3909 => ?_)
          obtain ⟨hT1, hF1, hqr3909⟩ := hqr3909
          have hF := hF.tr (hF1.mono (by simp))
          have hT := hT1
          obtain ⟨f3910, N3911, d3912, e3913, x3914, m3915⟩ := hqr3909
          have hm := m3915
          have hm8 := hm.2.2.2.2.2.2.2
          have nx3914 := x3914.n
          have ox3914 := nx3914.1
          have hbd : B0 ≤ dr := (hT.o26 hdT.1).1
          have hDR := hT.dr hdT d3912
          have hP : va_P D vwCl [(dr, .inl (cs 0, 1383, .inl f3910))] _ := va_P.cons d3912 va_P.nil
          refine lv_goto (tgt := 4) hx hb dX9_readSum_71 (by decide) ?_
          have hps : PS D cs w _ (p3897) (tl) (er3898) (1) dr bu g (N3911) ((h + 1)) := ⟨hm, f3910, hP 0 _ rfl, e3913, by omega, (EM.op x3914 (by decide) v3907)⟩
          exact ih3791 (p3897, N3911, er3898) _ _ _ (by show 600 - (p3897) < 600 - p; omega) ⟨hps, (by show (N3911) + 2 * pos ≤ N + 2 * (p3897); omega), (by show pos ≤ (p3897); omega), (fun e9 => hz1 (z3901 e9)), hT, hF, hL⟩ (lv_sub hl [1] rfl)
  · refine lv_if_eq (tgt := 74) hx hb dX9_readSum_8 (by decide) (fun _ => ?_) (fun c9 => absurd (by decide) c9)
    have hps : PS D cs w _ (p) (tl) (er1) (1) dr bu g (N1) ((h + 1)) := ⟨hm, f3792, hP 0 _ rfl, e3792, by omega, v3792⟩
    exact en_v hx hb hr hlocks hL (Nat.zero_le _) (Nat.zero_le _) dX9_readSum_74 (⟨hT, hF, N1, p, er1, (by omega), (by omega), hz1, hps⟩)
set_option maxHeartbeats 4000000 in
set_option maxRecDepth 100000 in
theorem c_X9_factor_d0 {l : Launch} {D : va_G} {cs : Nat → ClassId} {B0 T : Nat} {κ : KM} {H0 : Heap} (hT : WT B0 D cs T κ H0) {w : Nat} (hw : T2 κ w 10 12) {pos tl : Nat} {er : Int32} {dr bu : Nat} {g : Nat → Int32} {N h : Nat} (hbT : T2 κ bu 23 14) (hdT : T2 κ dr 26 17) (hps : PS D cs w H0 pos tl er 0 dr bu g N h) : KC l yX9_factor wsX9_factor 17 367 0 0 D cs B0 H0 [.ref w] (Qv (fun H => WT B0 D cs T κ H ∧ Fr B0 [12, 17] κ H0 H ∧ ∃ N1 pos1 er1, N1 + 2 * pos ≤ N + 2 * pos1 ∧ pos ≤ pos1 ∧ (er1 = 0 → er = 0) ∧ PS D cs w H pos1 tl er1 0 dr bu g N1 (h + 1))) := by
  refine KC.of cX9_factor 4 none (by decide) rfl (Nat.le_of_ble_eq_true rfl) ?_
  intro p e s m below meth c ls hx hb hr hml hown hts hlocks hin hN hE hH0 hl
  have hown : s.vm.findClass RX9 = some m.cls := hown
  have hl : lv_has ls 4 [(0, .ref w)] := hl
  have hL : OkL B0 [] := OkL.nil
  have hF : Fr B0 [12, 17] κ H0 H0 := Fr.rf
  obtain ⟨hm, f3917, hd3917, e3917, n3917, v3917⟩ := hps
  have hm8 := hm.2.2.2.2.2.2.2
  have hbd : B0 ≤ dr := (hT.o26 hdT.1).1
  have hDR := hT.dr hdT hd3917
  have hP : va_P D vwCl [(dr, .inl (cs 0, 1383, .inl f3917))] _ := va_P.cons hd3917 va_P.nil
  refine lv_aload_n hx hb dX9_factor_0 rfl (lv_at hl 0 rfl) ?_
  refine cv_i (As := []) (rest := []) (b := w) ⟨hx, hb, hml, hown, hts⟩ (c_X9_isGood hT (w := w) hw hbT hdT hm) (cwV 0 hts gX9_factor_X9_isGood rfl rfl rfl hdX9_isGood_v ⟨Nat.le_of_ble_eq_true rfl, Nat.le_of_ble_eq_true rfl⟩) hN hE hL (rcv10 hN hT hw.1) rfl rfl hl.1 (Nat.le_of_ble_eq_true rfl) dX9_factor_1 (Nat.zero_le _) (Nat.zero_le _) (fun r3919 H1 locs hL hqr3919 => ?_)
  obtain ⟨h9, hqr3919⟩ := hqr3919; replace h9 := h9.symm; subst h9
  rcases hqr3919 with ⟨rfl, e3920⟩ | ⟨rfl, e3921⟩
  · refine lv_if_ne (tgt := 8) hx hb dX9_factor_4 (by decide) (fun _ => ?_) (fun c9 => absurd c9 (by decide))
    refine lv_aload_n hx hb dX9_factor_8 rfl (lv_at hl 0 rfl) ?_
    refine cv_i (As := []) (rest := []) (b := w) ⟨hx, hb, hml, hown, hts⟩ (c_X9_ahead hT (w := w) hw hbT hdT hm) (cwV 0 hts gX9_factor_X9_ahead rfl rfl rfl hdX9_ahead_v ⟨Nat.le_of_ble_eq_true rfl, Nat.le_of_ble_eq_true rfl⟩) hN hE hL (rcv10 hN hT hw.1) rfl rfl hl.1 (Nat.le_of_ble_eq_true rfl) dX9_factor_9 (Nat.zero_le _) (Nat.zero_le _) (fun r3922 H1 locs hL hqr3922 => ?_)
    obtain ⟨hT1, hF1, hqr3922⟩ := hqr3922
    have hP : va_P D vwCl [(dr, .inl (cs 0, 1383, .inl f3917))] _ := hF1.hP (hP.sub [0] rfl) (fa_c ⟨by rw [hdT.1]; decide, by rw [hdT.2]; first | decide | (simp; done) | (simp; omega)⟩ fa_n)
    have hF := hF.tr (hF1.mono (by simp))
    have hT := hT1
    obtain ⟨p3923, h3924, m3925, n3926, s3927, rfl⟩ := hqr3922
    have hm := m3925
    have hm8 := hm.2.2.2.2.2.2.2
    refine lv_istore_n (lv' := [(1, .int (byF g tl p3923)), (0, .ref w)]) hx hb dX9_factor_12 rfl hl (by decide) rfl (fun ls hl => ?_)
    refine lv_iload_n hx hb dX9_factor_13 rfl (lv_at hl 0 rfl) ?_
    refine lv_bipush (v := 40) hx hb dX9_factor_14 (by decide) ?_
    refine lv_icmp_ne (tgt := 78) hx hb dX9_factor_16 (by decide) (fun c3928 => ?_) (fun c3928 => ?_)
    · refine lv_iload_n hx hb dX9_factor_78 rfl (lv_at hl 0 rfl) ?_
      refine cs_i (As := [.int (byF g tl p3923)]) (rest := []) ⟨hx, hb, hml, hown, hts⟩ (c_X9_isDigit hT (x := (byF g tl p3923))) (va_cwS 1 hts gX9_factor_X9_isDigit rfl rfl rfl hdX9_isDigit_o ⟨Nat.le_of_ble_eq_true rfl, Nat.le_of_ble_eq_true rfl⟩) hN hE hL rfl rfl hl.1 (Nat.le_of_ble_eq_true rfl) dX9_factor_79 (Nat.zero_le _) (Nat.zero_le _) (fun r3929 H1 locs hL hqr3929 => ?_)
      obtain ⟨h9, hqr3929⟩ := hqr3929; replace h9 := h9.symm; subst h9
      rcases hqr3929 with ⟨rfl, o3930⟩ | ⟨rfl, l3931, g3932⟩
      · refine lv_if_eq (tgt := 89) hx hb dX9_factor_82 (by decide) (fun _ => ?_) (fun c9 => absurd (by decide) c9)
        refine lv_aload_n hx hb dX9_factor_89 rfl (lv_at hl 1 rfl) ?_
        refine va_ldcS hx hb hown (hN.s 19 rfl) dX9_factor_90 ?_
        refine cv_i (As := [.ref (cs 119)]) (rest := []) (b := w) ⟨hx, hb, hml, hown, hts⟩ (c_X9_takeWord hT (w := w) hw (i := 19) (by decide) hbT hdT hm) (cwV 1 hts gX9_factor_X9_takeWord rfl rfl rfl hdX9_takeWord_v ⟨Nat.le_of_ble_eq_true rfl, Nat.le_of_ble_eq_true rfl⟩) hN hE hL (rcv10 hN hT hw.1) rfl rfl hl.1 (Nat.le_of_ble_eq_true rfl) dX9_factor_92 (Nat.zero_le _) (Nat.zero_le _) (fun r3933 H1 locs hL hqr3933 => ?_)
        obtain ⟨hT1, hF1, hqr3933⟩ := hqr3933
        have hP : va_P D vwCl [(dr, .inl (cs 0, 1383, .inl f3917))] _ := hF1.hP (hP.sub [0] rfl) (fa_c ⟨by rw [hdT.1]; decide, by rw [hdT.2]; first | decide | (simp; done) | (simp; omega)⟩ fa_n)
        have hF := hF.tr (hF1.mono (by simp))
        have hT := hT1
        rcases hqr3933 with ⟨rfl, p3934, h3935, m3936⟩ | ⟨rfl, p3937, q3938, e3939, m3940⟩
        · have hm := m3936
          have hm8 := hm.2.2.2.2.2.2.2
          refine lv_if_eq (tgt := 102) hx hb dX9_factor_95 (by decide) (fun _ => ?_) (fun c9 => absurd (by decide) c9)
          refine lv_aload_n hx hb dX9_factor_102 rfl (lv_at hl 1 rfl) ?_
          refine va_ldcS hx hb hown (hN.s 25 rfl) dX9_factor_103 ?_
          refine cv_i (As := [.ref (cs 125)]) (rest := []) (b := w) ⟨hx, hb, hml, hown, hts⟩ (c_X9_takeWord hT (w := w) hw (i := 25) (by decide) hbT hdT hm) (cwV 1 hts gX9_factor_X9_takeWord rfl rfl rfl hdX9_takeWord_v ⟨Nat.le_of_ble_eq_true rfl, Nat.le_of_ble_eq_true rfl⟩) hN hE hL (rcv10 hN hT hw.1) rfl rfl hl.1 (Nat.le_of_ble_eq_true rfl) dX9_factor_105 (Nat.zero_le _) (Nat.zero_le _) (fun r3941 H1 locs hL hqr3941 => ?_)
          obtain ⟨hT1, hF1, hqr3941⟩ := hqr3941
          have hP : va_P D vwCl [(dr, .inl (cs 0, 1383, .inl f3917))] _ := hF1.hP (hP.sub [0] rfl) (fa_c ⟨by rw [hdT.1]; decide, by rw [hdT.2]; first | decide | (simp; done) | (simp; omega)⟩ fa_n)
          have hF := hF.tr (hF1.mono (by simp))
          have hT := hT1
          rcases hqr3941 with ⟨rfl, p3942, h3943, m3944⟩ | ⟨rfl, p3945, q3946, e3947, m3948⟩
          · have hm := m3944
            have hm8 := hm.2.2.2.2.2.2.2
            refine lv_if_eq (tgt := 115) hx hb dX9_factor_108 (by decide) (fun _ => ?_) (fun c9 => absurd (by decide) c9)
            refine lv_aload_n hx hb dX9_factor_115 rfl (lv_at hl 1 rfl) ?_
            refine va_ldcS hx hb hown (hN.s 26 rfl) dX9_factor_116 ?_
            refine cv_i (As := [.ref (cs 126)]) (rest := []) (b := w) ⟨hx, hb, hml, hown, hts⟩ (c_X9_takeWord hT (w := w) hw (i := 26) (by decide) hbT hdT hm) (cwV 1 hts gX9_factor_X9_takeWord rfl rfl rfl hdX9_takeWord_v ⟨Nat.le_of_ble_eq_true rfl, Nat.le_of_ble_eq_true rfl⟩) hN hE hL (rcv10 hN hT hw.1) rfl rfl hl.1 (Nat.le_of_ble_eq_true rfl) dX9_factor_118 (Nat.zero_le _) (Nat.zero_le _) (fun r3949 H1 locs hL hqr3949 => ?_)
            obtain ⟨hT1, hF1, hqr3949⟩ := hqr3949
            have hP : va_P D vwCl [(dr, .inl (cs 0, 1383, .inl f3917))] _ := hF1.hP (hP.sub [0] rfl) (fa_c ⟨by rw [hdT.1]; decide, by rw [hdT.2]; first | decide | (simp; done) | (simp; omega)⟩ fa_n)
            have hF := hF.tr (hF1.mono (by simp))
            have hT := hT1
            rcases hqr3949 with ⟨rfl, p3950, h3951, m3952⟩ | ⟨rfl, p3953, q3954, e3955, m3956⟩
            · have hm := m3952
              have hm8 := hm.2.2.2.2.2.2.2
              refine lv_if_eq (tgt := 128) hx hb dX9_factor_121 (by decide) (fun _ => ?_) (fun c9 => absurd (by decide) c9)
              refine lv_aload_n hx hb dX9_factor_128 rfl (lv_at hl 1 rfl) ?_
              refine va_ldcS hx hb hown (hN.s 27 rfl) dX9_factor_129 ?_
              refine cv_i (As := [.ref (cs 127)]) (rest := []) (b := w) ⟨hx, hb, hml, hown, hts⟩ (c_X9_takeWord hT (w := w) hw (i := 27) (by decide) hbT hdT hm) (cwV 1 hts gX9_factor_X9_takeWord rfl rfl rfl hdX9_takeWord_v ⟨Nat.le_of_ble_eq_true rfl, Nat.le_of_ble_eq_true rfl⟩) hN hE hL (rcv10 hN hT hw.1) rfl rfl hl.1 (Nat.le_of_ble_eq_true rfl) dX9_factor_131 (Nat.zero_le _) (Nat.zero_le _) (fun r3957 H1 locs hL hqr3957 => ?_)
              obtain ⟨hT1, hF1, hqr3957⟩ := hqr3957
              have hP : va_P D vwCl [(dr, .inl (cs 0, 1383, .inl f3917))] _ := hF1.hP (hP.sub [0] rfl) (fa_c ⟨by rw [hdT.1]; decide, by rw [hdT.2]; first | decide | (simp; done) | (simp; omega)⟩ fa_n)
              have hF := hF.tr (hF1.mono (by simp))
              have hT := hT1
              rcases hqr3957 with ⟨rfl, p3958, h3959, m3960⟩ | ⟨rfl, p3961, q3962, e3963, m3964⟩
              · have hm := m3960
                have hm8 := hm.2.2.2.2.2.2.2
                refine lv_if_eq (tgt := 141) hx hb dX9_factor_134 (by decide) (fun _ => ?_) (fun c9 => absurd (by decide) c9)
                refine lv_iconst (v := (-1)) hx hb dX9_factor_141 (by decide) ?_
                refine lv_istore_n (lv' := [(2, .int (-1)), (1, .int (byF g tl p3923)), (0, .ref w)]) hx hb dX9_factor_142 rfl hl (by decide) rfl (fun ls hl => ?_)
                refine lv_iload_n hx hb dX9_factor_143 rfl (lv_at hl 0 rfl) ?_
                refine lv_if_ge (tgt := 158) hx hb dX9_factor_144 (by decide) (fun c9 => absurd c9 (by decide)) (fun _ => ?_)
                refine lv_aload_n hx hb dX9_factor_147 rfl (lv_at hl 2 rfl) ?_
                refine lv_iconst (v := 0) hx hb dX9_factor_148 (by decide) ?_
                refine lv_sipush (v := 9999) hx hb dX9_factor_149 (by decide) ?_
                refine cv_i (As := [.int 0, .int 9999]) (rest := []) (b := w) ⟨hx, hb, hml, hown, hts⟩ (c_X9_number hT (w := w) hw (x := 0) (y := 9999) hbT hdT hm) (cwV 2 hts gX9_factor_X9_number rfl rfl rfl hdX9_number_v ⟨Nat.le_of_ble_eq_true rfl, Nat.le_of_ble_eq_true rfl⟩) hN hE hL (rcv10 hN hT hw.1) rfl rfl hl.1 (Nat.le_of_ble_eq_true rfl) dX9_factor_152 (Nat.zero_le _) (Nat.zero_le _) (fun r3965 H1 locs hL hqr3965 => ?_)
                obtain ⟨hT1, hF1, hqr3965⟩ := hqr3965
                have hP : va_P D vwCl [(dr, .inl (cs 0, 1383, .inl f3917))] _ := hF1.hP (hP.sub [0] rfl) (fa_c ⟨by rw [hdT.1]; decide, by rw [hdT.2]; first | decide | (simp; done) | (simp; omega)⟩ fa_n)
                have hF := hF.tr (hF1.mono (by simp))
                have hT := hT1
                obtain ⟨p3966, er3967, a3968, z3969, m3970, q3971⟩ := hqr3965
                have hm := m3970
                have hm8 := hm.2.2.2.2.2.2.2
                refine lv_goto (tgt := 159) hx hb dX9_factor_155 (by decide) ?_
                refine lv_istore_n (lv' := [(3, .int r3965), (2, .int (-1)), (1, .int (byF g tl p3923)), (0, .ref w)]) hx hb dX9_factor_159 rfl hl (by decide) rfl (fun ls hl => ?_)
                refine lv_aload_n hx hb dX9_factor_160 rfl (lv_at hl 3 rfl) ?_
                refine lv_iload_n hx hb dX9_factor_161 rfl (lv_at hl 1 rfl) ?_
                refine lv_if_ge (tgt := 169) hx hb dX9_factor_162 (by decide) (fun c9 => absurd c9 (by decide)) (fun _ => ?_)
                refine lv_iconst (v := 0) hx hb dX9_factor_165 (by decide) ?_
                refine lv_goto (tgt := 170) hx hb dX9_factor_166 (by decide) ?_
                refine cv_v (As := [.int 0]) (rest := []) (b := w) ⟨hx, hb, hml, hown, hts⟩ (c_X9_emit hT (w := w) hw (x := 0) hbT hdT hm (hP 0 _ rfl) e3917 (fun e9 => by have q9 := (z3969 e9).2; omega)) (cwV 1 hts gX9_factor_X9_emit rfl rfl rfl hdX9_emit_v ⟨Nat.le_of_ble_eq_true rfl, Nat.le_of_ble_eq_true rfl⟩) hN hE hL (rcv10 hN hT hw.1) rfl rfl hl.1 (Nat.le_of_ble_eq_true rfl) dX9_factor_170 (Nat.zero_le _) (Nat.zero_le _) (fun H1 locs hL hqr3972 => ?_)
                obtain ⟨hT1, hF1, hqr3972⟩ := hqr3972
                have hF := hF.tr (hF1.mono (by simp))
                have hT := hT1
                obtain ⟨f3973, N3974, d3975, e3976, x3977, m3978⟩ := hqr3972
                have hm := m3978
                have hm8 := hm.2.2.2.2.2.2.2
                have nx3977 := x3977.n
                have ox3977 := nx3977.1
                have hbd : B0 ≤ dr := (hT.o26 hdT.1).1
                have hDR := hT.dr hdT d3975
                have hP : va_P D vwCl [(dr, .inl (cs 0, 1383, .inl f3973))] _ := va_P.cons d3975 va_P.nil
                refine lv_aload_n hx hb dX9_factor_173 rfl (lv_at hl 3 rfl) ?_
                refine lv_iload_n hx hb dX9_factor_174 rfl (lv_at hl 0 rfl) ?_
                refine cv_v (As := [.int r3965]) (rest := []) (b := w) ⟨hx, hb, hml, hown, hts⟩ (c_X9_emit hT (w := w) hw (x := r3965) hbT hdT hm (hP 0 _ rfl) e3976 (fun e9 => by have q9 := (z3969 e9).2; omega)) (cwV 1 hts gX9_factor_X9_emit rfl rfl rfl hdX9_emit_v ⟨Nat.le_of_ble_eq_true rfl, Nat.le_of_ble_eq_true rfl⟩) hN hE hL (rcv10 hN hT hw.1) rfl rfl hl.1 (Nat.le_of_ble_eq_true rfl) dX9_factor_175 (Nat.zero_le _) (Nat.zero_le _) (fun H1 locs hL hqr3980 => ?_)
                obtain ⟨hT1, hF1, hqr3980⟩ := hqr3980
                have hF := hF.tr (hF1.mono (by simp))
                have hT := hT1
                obtain ⟨f3981, N3982, d3983, e3984, x3985, m3986⟩ := hqr3980
                have hm := m3986
                have hm8 := hm.2.2.2.2.2.2.2
                have nx3985 := x3985.n
                have ox3985 := nx3985.1
                have hbd : B0 ≤ dr := (hT.o26 hdT.1).1
                have hDR := hT.dr hdT d3983
                have hP : va_P D vwCl [(dr, .inl (cs 0, 1383, .inl f3981))] _ := va_P.cons d3983 va_P.nil
                have bx3977 := nx3977.2.1
                have bx3985 := nx3985.2.1
                have hbn : N3982 + 2 * pos ≤ N + 2 * p3966 ∧ N3982 ≤ 2 * p3966 := by
                  by_cases e9 : er3967 = 0
                  · have q9 := (z3969 e9).2; omega
                  · have q9 := bx3977 e9; have q8 := bx3985 e9; omega
                exact en_v hx hb hr hlocks hL (Nat.zero_le _) (Nat.zero_le _) dX9_factor_178 (⟨hT, hF, _, p3966, er3967, hbn.1, (by omega), (fun e9 => id ((fun e9 => (z3969 e9).1) e9)), hm, _, hP 0 _ rfl, e3984, hbn.2, (EM.lit x3977 x3985 (by decide) (fun e9 => v3917 ((fun e9 => (z3969 e9).1) e9)))⟩)
              · have hm := m3964
                have hm8 := hm.2.2.2.2.2.2.2
                refine lv_if_eq (tgt := 141) hx hb dX9_factor_134 (by decide) (fun c9 => absurd c9 (by decide)) (fun _ => ?_)
                refine lv_iconst (v := 3) hx hb dX9_factor_137 (by decide) ?_
                refine lv_goto (tgt := 142) hx hb dX9_factor_138 (by decide) ?_
                refine lv_istore_n (lv' := [(2, .int 3), (1, .int (byF g tl p3923)), (0, .ref w)]) hx hb dX9_factor_142 rfl hl (by decide) rfl (fun ls hl => ?_)
                refine lv_iload_n hx hb dX9_factor_143 rfl (lv_at hl 0 rfl) ?_
                refine lv_if_ge (tgt := 158) hx hb dX9_factor_144 (by decide) (fun _ => ?_) (fun c9 => absurd (by decide) c9)
                refine lv_iload_n hx hb dX9_factor_158 rfl (lv_at hl 0 rfl) ?_
                refine lv_istore_n (lv' := [(3, .int 3), (2, .int 3), (1, .int (byF g tl p3923)), (0, .ref w)]) hx hb dX9_factor_159 rfl hl (by decide) rfl (fun ls hl => ?_)
                refine lv_aload_n hx hb dX9_factor_160 rfl (lv_at hl 3 rfl) ?_
                refine lv_iload_n hx hb dX9_factor_161 rfl (lv_at hl 1 rfl) ?_
                refine lv_if_ge (tgt := 169) hx hb dX9_factor_162 (by decide) (fun _ => ?_) (fun c9 => absurd (by decide) c9)
                refine lv_iconst (v := 1) hx hb dX9_factor_169 (by decide) ?_
                refine cv_v (As := [.int 1]) (rest := []) (b := w) ⟨hx, hb, hml, hown, hts⟩ (c_X9_emit hT (w := w) hw (x := 1) hbT hdT hm (hP 0 _ rfl) e3917 (fun e9 => by omega)) (cwV 1 hts gX9_factor_X9_emit rfl rfl rfl hdX9_emit_v ⟨Nat.le_of_ble_eq_true rfl, Nat.le_of_ble_eq_true rfl⟩) hN hE hL (rcv10 hN hT hw.1) rfl rfl hl.1 (Nat.le_of_ble_eq_true rfl) dX9_factor_170 (Nat.zero_le _) (Nat.zero_le _) (fun H1 locs hL hqr3988 => ?_)
                obtain ⟨hT1, hF1, hqr3988⟩ := hqr3988
                have hF := hF.tr (hF1.mono (by simp))
                have hT := hT1
                obtain ⟨f3989, N3990, d3991, e3992, x3993, m3994⟩ := hqr3988
                have hm := m3994
                have hm8 := hm.2.2.2.2.2.2.2
                have nx3993 := x3993.n
                have ox3993 := nx3993.1
                have hbd : B0 ≤ dr := (hT.o26 hdT.1).1
                have hDR := hT.dr hdT d3991
                have hP : va_P D vwCl [(dr, .inl (cs 0, 1383, .inl f3989))] _ := va_P.cons d3991 va_P.nil
                refine lv_aload_n hx hb dX9_factor_173 rfl (lv_at hl 3 rfl) ?_
                refine lv_iload_n hx hb dX9_factor_174 rfl (lv_at hl 0 rfl) ?_
                refine cv_v (As := [.int 3]) (rest := []) (b := w) ⟨hx, hb, hml, hown, hts⟩ (c_X9_emit hT (w := w) hw (x := 3) hbT hdT hm (hP 0 _ rfl) e3992 (fun e9 => by omega)) (cwV 1 hts gX9_factor_X9_emit rfl rfl rfl hdX9_emit_v ⟨Nat.le_of_ble_eq_true rfl, Nat.le_of_ble_eq_true rfl⟩) hN hE hL (rcv10 hN hT hw.1) rfl rfl hl.1 (Nat.le_of_ble_eq_true rfl) dX9_factor_175 (Nat.zero_le _) (Nat.zero_le _) (fun H1 locs hL hqr3996 => ?_)
                obtain ⟨hT1, hF1, hqr3996⟩ := hqr3996
                have hF := hF.tr (hF1.mono (by simp))
                have hT := hT1
                obtain ⟨f3997, N3998, d3999, e4000, x4001, m4002⟩ := hqr3996
                have hm := m4002
                have hm8 := hm.2.2.2.2.2.2.2
                have nx4001 := x4001.n
                have ox4001 := nx4001.1
                have hbd : B0 ≤ dr := (hT.o26 hdT.1).1
                have hDR := hT.dr hdT d3999
                have hP : va_P D vwCl [(dr, .inl (cs 0, 1383, .inl f3997))] _ := va_P.cons d3999 va_P.nil
                have bx3993 := nx3993.2.1
                have bx4001 := nx4001.2.1
                have hbn : N3998 + 2 * pos ≤ N + 2 * p3961 ∧ N3998 ≤ 2 * p3961 := by
                  by_cases e9 : er = 0
                  · omega
                  · have q9 := bx3993 e9; have q8 := bx4001 e9; omega
                exact en_v hx hb hr hlocks hL (Nat.zero_le _) (Nat.zero_le _) dX9_factor_178 (⟨hT, hF, _, p3961, er, hbn.1, (by omega), id, hm, _, hP 0 _ rfl, e4000, hbn.2, (EM.lit x3993 x4001 (by decide) v3917)⟩)
            · have hm := m3956
              have hm8 := hm.2.2.2.2.2.2.2
              refine lv_if_eq (tgt := 128) hx hb dX9_factor_121 (by decide) (fun c9 => absurd c9 (by decide)) (fun _ => ?_)
              refine lv_iconst (v := 2) hx hb dX9_factor_124 (by decide) ?_
              refine lv_goto (tgt := 142) hx hb dX9_factor_125 (by decide) ?_
              refine lv_istore_n (lv' := [(2, .int 2), (1, .int (byF g tl p3923)), (0, .ref w)]) hx hb dX9_factor_142 rfl hl (by decide) rfl (fun ls hl => ?_)
              refine lv_iload_n hx hb dX9_factor_143 rfl (lv_at hl 0 rfl) ?_
              refine lv_if_ge (tgt := 158) hx hb dX9_factor_144 (by decide) (fun _ => ?_) (fun c9 => absurd (by decide) c9)
              refine lv_iload_n hx hb dX9_factor_158 rfl (lv_at hl 0 rfl) ?_
              refine lv_istore_n (lv' := [(3, .int 2), (2, .int 2), (1, .int (byF g tl p3923)), (0, .ref w)]) hx hb dX9_factor_159 rfl hl (by decide) rfl (fun ls hl => ?_)
              refine lv_aload_n hx hb dX9_factor_160 rfl (lv_at hl 3 rfl) ?_
              refine lv_iload_n hx hb dX9_factor_161 rfl (lv_at hl 1 rfl) ?_
              refine lv_if_ge (tgt := 169) hx hb dX9_factor_162 (by decide) (fun _ => ?_) (fun c9 => absurd (by decide) c9)
              refine lv_iconst (v := 1) hx hb dX9_factor_169 (by decide) ?_
              refine cv_v (As := [.int 1]) (rest := []) (b := w) ⟨hx, hb, hml, hown, hts⟩ (c_X9_emit hT (w := w) hw (x := 1) hbT hdT hm (hP 0 _ rfl) e3917 (fun e9 => by omega)) (cwV 1 hts gX9_factor_X9_emit rfl rfl rfl hdX9_emit_v ⟨Nat.le_of_ble_eq_true rfl, Nat.le_of_ble_eq_true rfl⟩) hN hE hL (rcv10 hN hT hw.1) rfl rfl hl.1 (Nat.le_of_ble_eq_true rfl) dX9_factor_170 (Nat.zero_le _) (Nat.zero_le _) (fun H1 locs hL hqr4004 => ?_)
              obtain ⟨hT1, hF1, hqr4004⟩ := hqr4004
              have hF := hF.tr (hF1.mono (by simp))
              have hT := hT1
              obtain ⟨f4005, N4006, d4007, e4008, x4009, m4010⟩ := hqr4004
              have hm := m4010
              have hm8 := hm.2.2.2.2.2.2.2
              have nx4009 := x4009.n
              have ox4009 := nx4009.1
              have hbd : B0 ≤ dr := (hT.o26 hdT.1).1
              have hDR := hT.dr hdT d4007
              have hP : va_P D vwCl [(dr, .inl (cs 0, 1383, .inl f4005))] _ := va_P.cons d4007 va_P.nil
              refine lv_aload_n hx hb dX9_factor_173 rfl (lv_at hl 3 rfl) ?_
              refine lv_iload_n hx hb dX9_factor_174 rfl (lv_at hl 0 rfl) ?_
              refine cv_v (As := [.int 2]) (rest := []) (b := w) ⟨hx, hb, hml, hown, hts⟩ (c_X9_emit hT (w := w) hw (x := 2) hbT hdT hm (hP 0 _ rfl) e4008 (fun e9 => by omega)) (cwV 1 hts gX9_factor_X9_emit rfl rfl rfl hdX9_emit_v ⟨Nat.le_of_ble_eq_true rfl, Nat.le_of_ble_eq_true rfl⟩) hN hE hL (rcv10 hN hT hw.1) rfl rfl hl.1 (Nat.le_of_ble_eq_true rfl) dX9_factor_175 (Nat.zero_le _) (Nat.zero_le _) (fun H1 locs hL hqr4012 => ?_)
              obtain ⟨hT1, hF1, hqr4012⟩ := hqr4012
              have hF := hF.tr (hF1.mono (by simp))
              have hT := hT1
              obtain ⟨f4013, N4014, d4015, e4016, x4017, m4018⟩ := hqr4012
              have hm := m4018
              have hm8 := hm.2.2.2.2.2.2.2
              have nx4017 := x4017.n
              have ox4017 := nx4017.1
              have hbd : B0 ≤ dr := (hT.o26 hdT.1).1
              have hDR := hT.dr hdT d4015
              have hP : va_P D vwCl [(dr, .inl (cs 0, 1383, .inl f4013))] _ := va_P.cons d4015 va_P.nil
              have bx4009 := nx4009.2.1
              have bx4017 := nx4017.2.1
              have hbn : N4014 + 2 * pos ≤ N + 2 * p3953 ∧ N4014 ≤ 2 * p3953 := by
                by_cases e9 : er = 0
                · omega
                · have q9 := bx4009 e9; have q8 := bx4017 e9; omega
              exact en_v hx hb hr hlocks hL (Nat.zero_le _) (Nat.zero_le _) dX9_factor_178 (⟨hT, hF, _, p3953, er, hbn.1, (by omega), id, hm, _, hP 0 _ rfl, e4016, hbn.2, (EM.lit x4009 x4017 (by decide) v3917)⟩)
          · have hm := m3948
            have hm8 := hm.2.2.2.2.2.2.2
            refine lv_if_eq (tgt := 115) hx hb dX9_factor_108 (by decide) (fun c9 => absurd c9 (by decide)) (fun _ => ?_)
            refine lv_iconst (v := 1) hx hb dX9_factor_111 (by decide) ?_
            refine lv_goto (tgt := 142) hx hb dX9_factor_112 (by decide) ?_
            refine lv_istore_n (lv' := [(2, .int 1), (1, .int (byF g tl p3923)), (0, .ref w)]) hx hb dX9_factor_142 rfl hl (by decide) rfl (fun ls hl => ?_)
            refine lv_iload_n hx hb dX9_factor_143 rfl (lv_at hl 0 rfl) ?_
            refine lv_if_ge (tgt := 158) hx hb dX9_factor_144 (by decide) (fun _ => ?_) (fun c9 => absurd (by decide) c9)
            refine lv_iload_n hx hb dX9_factor_158 rfl (lv_at hl 0 rfl) ?_
            refine lv_istore_n (lv' := [(3, .int 1), (2, .int 1), (1, .int (byF g tl p3923)), (0, .ref w)]) hx hb dX9_factor_159 rfl hl (by decide) rfl (fun ls hl => ?_)
            refine lv_aload_n hx hb dX9_factor_160 rfl (lv_at hl 3 rfl) ?_
            refine lv_iload_n hx hb dX9_factor_161 rfl (lv_at hl 1 rfl) ?_
            refine lv_if_ge (tgt := 169) hx hb dX9_factor_162 (by decide) (fun _ => ?_) (fun c9 => absurd (by decide) c9)
            refine lv_iconst (v := 1) hx hb dX9_factor_169 (by decide) ?_
            refine cv_v (As := [.int 1]) (rest := []) (b := w) ⟨hx, hb, hml, hown, hts⟩ (c_X9_emit hT (w := w) hw (x := 1) hbT hdT hm (hP 0 _ rfl) e3917 (fun e9 => by omega)) (cwV 1 hts gX9_factor_X9_emit rfl rfl rfl hdX9_emit_v ⟨Nat.le_of_ble_eq_true rfl, Nat.le_of_ble_eq_true rfl⟩) hN hE hL (rcv10 hN hT hw.1) rfl rfl hl.1 (Nat.le_of_ble_eq_true rfl) dX9_factor_170 (Nat.zero_le _) (Nat.zero_le _) (fun H1 locs hL hqr4020 => ?_)
            obtain ⟨hT1, hF1, hqr4020⟩ := hqr4020
            have hF := hF.tr (hF1.mono (by simp))
            have hT := hT1
            obtain ⟨f4021, N4022, d4023, e4024, x4025, m4026⟩ := hqr4020
            have hm := m4026
            have hm8 := hm.2.2.2.2.2.2.2
            have nx4025 := x4025.n
            have ox4025 := nx4025.1
            have hbd : B0 ≤ dr := (hT.o26 hdT.1).1
            have hDR := hT.dr hdT d4023
            have hP : va_P D vwCl [(dr, .inl (cs 0, 1383, .inl f4021))] _ := va_P.cons d4023 va_P.nil
            refine lv_aload_n hx hb dX9_factor_173 rfl (lv_at hl 3 rfl) ?_
            refine lv_iload_n hx hb dX9_factor_174 rfl (lv_at hl 0 rfl) ?_
            refine cv_v (As := [.int 1]) (rest := []) (b := w) ⟨hx, hb, hml, hown, hts⟩ (c_X9_emit hT (w := w) hw (x := 1) hbT hdT hm (hP 0 _ rfl) e4024 (fun e9 => by omega)) (cwV 1 hts gX9_factor_X9_emit rfl rfl rfl hdX9_emit_v ⟨Nat.le_of_ble_eq_true rfl, Nat.le_of_ble_eq_true rfl⟩) hN hE hL (rcv10 hN hT hw.1) rfl rfl hl.1 (Nat.le_of_ble_eq_true rfl) dX9_factor_175 (Nat.zero_le _) (Nat.zero_le _) (fun H1 locs hL hqr4028 => ?_)
            obtain ⟨hT1, hF1, hqr4028⟩ := hqr4028
            have hF := hF.tr (hF1.mono (by simp))
            have hT := hT1
            obtain ⟨f4029, N4030, d4031, e4032, x4033, m4034⟩ := hqr4028
            have hm := m4034
            have hm8 := hm.2.2.2.2.2.2.2
            have nx4033 := x4033.n
            have ox4033 := nx4033.1
            have hbd : B0 ≤ dr := (hT.o26 hdT.1).1
            have hDR := hT.dr hdT d4031
            have hP : va_P D vwCl [(dr, .inl (cs 0, 1383, .inl f4029))] _ := va_P.cons d4031 va_P.nil
            have bx4025 := nx4025.2.1
            have bx4033 := nx4033.2.1
            have hbn : N4030 + 2 * pos ≤ N + 2 * p3945 ∧ N4030 ≤ 2 * p3945 := by
              by_cases e9 : er = 0
              · omega
              · have q9 := bx4025 e9; have q8 := bx4033 e9; omega
            exact en_v hx hb hr hlocks hL (Nat.zero_le _) (Nat.zero_le _) dX9_factor_178 (⟨hT, hF, _, p3945, er, hbn.1, (by omega), id, hm, _, hP 0 _ rfl, e4032, hbn.2, (EM.lit x4025 x4033 (by decide) v3917)⟩)
        · have hm := m3940
          have hm8 := hm.2.2.2.2.2.2.2
          refine lv_if_eq (tgt := 102) hx hb dX9_factor_95 (by decide) (fun c9 => absurd c9 (by decide)) (fun _ => ?_)
          refine lv_iconst (v := 0) hx hb dX9_factor_98 (by decide) ?_
          refine lv_goto (tgt := 142) hx hb dX9_factor_99 (by decide) ?_
          refine lv_istore_n (lv' := [(2, .int 0), (1, .int (byF g tl p3923)), (0, .ref w)]) hx hb dX9_factor_142 rfl hl (by decide) rfl (fun ls hl => ?_)
          refine lv_iload_n hx hb dX9_factor_143 rfl (lv_at hl 0 rfl) ?_
          refine lv_if_ge (tgt := 158) hx hb dX9_factor_144 (by decide) (fun _ => ?_) (fun c9 => absurd (by decide) c9)
          refine lv_iload_n hx hb dX9_factor_158 rfl (lv_at hl 0 rfl) ?_
          refine lv_istore_n (lv' := [(3, .int 0), (2, .int 0), (1, .int (byF g tl p3923)), (0, .ref w)]) hx hb dX9_factor_159 rfl hl (by decide) rfl (fun ls hl => ?_)
          refine lv_aload_n hx hb dX9_factor_160 rfl (lv_at hl 3 rfl) ?_
          refine lv_iload_n hx hb dX9_factor_161 rfl (lv_at hl 1 rfl) ?_
          refine lv_if_ge (tgt := 169) hx hb dX9_factor_162 (by decide) (fun _ => ?_) (fun c9 => absurd (by decide) c9)
          refine lv_iconst (v := 1) hx hb dX9_factor_169 (by decide) ?_
          refine cv_v (As := [.int 1]) (rest := []) (b := w) ⟨hx, hb, hml, hown, hts⟩ (c_X9_emit hT (w := w) hw (x := 1) hbT hdT hm (hP 0 _ rfl) e3917 (fun e9 => by omega)) (cwV 1 hts gX9_factor_X9_emit rfl rfl rfl hdX9_emit_v ⟨Nat.le_of_ble_eq_true rfl, Nat.le_of_ble_eq_true rfl⟩) hN hE hL (rcv10 hN hT hw.1) rfl rfl hl.1 (Nat.le_of_ble_eq_true rfl) dX9_factor_170 (Nat.zero_le _) (Nat.zero_le _) (fun H1 locs hL hqr4036 => ?_)
          obtain ⟨hT1, hF1, hqr4036⟩ := hqr4036
          have hF := hF.tr (hF1.mono (by simp))
          have hT := hT1
          obtain ⟨f4037, N4038, d4039, e4040, x4041, m4042⟩ := hqr4036
          have hm := m4042
          have hm8 := hm.2.2.2.2.2.2.2
          have nx4041 := x4041.n
          have ox4041 := nx4041.1
          have hbd : B0 ≤ dr := (hT.o26 hdT.1).1
          have hDR := hT.dr hdT d4039
          have hP : va_P D vwCl [(dr, .inl (cs 0, 1383, .inl f4037))] _ := va_P.cons d4039 va_P.nil
          refine lv_aload_n hx hb dX9_factor_173 rfl (lv_at hl 3 rfl) ?_
          refine lv_iload_n hx hb dX9_factor_174 rfl (lv_at hl 0 rfl) ?_
          refine cv_v (As := [.int 0]) (rest := []) (b := w) ⟨hx, hb, hml, hown, hts⟩ (c_X9_emit hT (w := w) hw (x := 0) hbT hdT hm (hP 0 _ rfl) e4040 (fun e9 => by omega)) (cwV 1 hts gX9_factor_X9_emit rfl rfl rfl hdX9_emit_v ⟨Nat.le_of_ble_eq_true rfl, Nat.le_of_ble_eq_true rfl⟩) hN hE hL (rcv10 hN hT hw.1) rfl rfl hl.1 (Nat.le_of_ble_eq_true rfl) dX9_factor_175 (Nat.zero_le _) (Nat.zero_le _) (fun H1 locs hL hqr4044 => ?_)
          obtain ⟨hT1, hF1, hqr4044⟩ := hqr4044
          have hF := hF.tr (hF1.mono (by simp))
          have hT := hT1
          obtain ⟨f4045, N4046, d4047, e4048, x4049, m4050⟩ := hqr4044
          have hm := m4050
          have hm8 := hm.2.2.2.2.2.2.2
          have nx4049 := x4049.n
          have ox4049 := nx4049.1
          have hbd : B0 ≤ dr := (hT.o26 hdT.1).1
          have hDR := hT.dr hdT d4047
          have hP : va_P D vwCl [(dr, .inl (cs 0, 1383, .inl f4045))] _ := va_P.cons d4047 va_P.nil
          have bx4041 := nx4041.2.1
          have bx4049 := nx4049.2.1
          have hbn : N4046 + 2 * pos ≤ N + 2 * p3937 ∧ N4046 ≤ 2 * p3937 := by
            by_cases e9 : er = 0
            · omega
            · have q9 := bx4041 e9; have q8 := bx4049 e9; omega
          exact en_v hx hb hr hlocks hL (Nat.zero_le _) (Nat.zero_le _) dX9_factor_178 (⟨hT, hF, _, p3937, er, hbn.1, (by omega), id, hm, _, hP 0 _ rfl, e4048, hbn.2, (EM.lit x4041 x4049 (by decide) v3917)⟩)
      · refine lv_if_eq (tgt := 89) hx hb dX9_factor_82 (by decide) (fun c9 => absurd c9 (by decide)) (fun _ => ?_)
        refine lv_iconst (v := (-1)) hx hb dX9_factor_85 (by decide) ?_
        refine lv_goto (tgt := 142) hx hb dX9_factor_86 (by decide) ?_
        refine lv_istore_n (lv' := [(2, .int (-1)), (1, .int (byF g tl p3923)), (0, .ref w)]) hx hb dX9_factor_142 rfl hl (by decide) rfl (fun ls hl => ?_)
        refine lv_iload_n hx hb dX9_factor_143 rfl (lv_at hl 0 rfl) ?_
        refine lv_if_ge (tgt := 158) hx hb dX9_factor_144 (by decide) (fun c9 => absurd c9 (by decide)) (fun _ => ?_)
        refine lv_aload_n hx hb dX9_factor_147 rfl (lv_at hl 2 rfl) ?_
        refine lv_iconst (v := 0) hx hb dX9_factor_148 (by decide) ?_
        refine lv_sipush (v := 9999) hx hb dX9_factor_149 (by decide) ?_
        refine cv_i (As := [.int 0, .int 9999]) (rest := []) (b := w) ⟨hx, hb, hml, hown, hts⟩ (c_X9_number hT (w := w) hw (x := 0) (y := 9999) hbT hdT hm) (cwV 2 hts gX9_factor_X9_number rfl rfl rfl hdX9_number_v ⟨Nat.le_of_ble_eq_true rfl, Nat.le_of_ble_eq_true rfl⟩) hN hE hL (rcv10 hN hT hw.1) rfl rfl hl.1 (Nat.le_of_ble_eq_true rfl) dX9_factor_152 (Nat.zero_le _) (Nat.zero_le _) (fun r4052 H1 locs hL hqr4052 => ?_)
        obtain ⟨hT1, hF1, hqr4052⟩ := hqr4052
        have hP : va_P D vwCl [(dr, .inl (cs 0, 1383, .inl f3917))] _ := hF1.hP (hP.sub [0] rfl) (fa_c ⟨by rw [hdT.1]; decide, by rw [hdT.2]; first | decide | (simp; done) | (simp; omega)⟩ fa_n)
        have hF := hF.tr (hF1.mono (by simp))
        have hT := hT1
        obtain ⟨p4053, er4054, a4055, z4056, m4057, q4058⟩ := hqr4052
        have hm := m4057
        have hm8 := hm.2.2.2.2.2.2.2
        refine lv_goto (tgt := 159) hx hb dX9_factor_155 (by decide) ?_
        refine lv_istore_n (lv' := [(3, .int r4052), (2, .int (-1)), (1, .int (byF g tl p3923)), (0, .ref w)]) hx hb dX9_factor_159 rfl hl (by decide) rfl (fun ls hl => ?_)
        refine lv_aload_n hx hb dX9_factor_160 rfl (lv_at hl 3 rfl) ?_
        refine lv_iload_n hx hb dX9_factor_161 rfl (lv_at hl 1 rfl) ?_
        refine lv_if_ge (tgt := 169) hx hb dX9_factor_162 (by decide) (fun c9 => absurd c9 (by decide)) (fun _ => ?_)
        refine lv_iconst (v := 0) hx hb dX9_factor_165 (by decide) ?_
        refine lv_goto (tgt := 170) hx hb dX9_factor_166 (by decide) ?_
        refine cv_v (As := [.int 0]) (rest := []) (b := w) ⟨hx, hb, hml, hown, hts⟩ (c_X9_emit hT (w := w) hw (x := 0) hbT hdT hm (hP 0 _ rfl) e3917 (fun e9 => by have q9 := (z4056 e9).2; omega)) (cwV 1 hts gX9_factor_X9_emit rfl rfl rfl hdX9_emit_v ⟨Nat.le_of_ble_eq_true rfl, Nat.le_of_ble_eq_true rfl⟩) hN hE hL (rcv10 hN hT hw.1) rfl rfl hl.1 (Nat.le_of_ble_eq_true rfl) dX9_factor_170 (Nat.zero_le _) (Nat.zero_le _) (fun H1 locs hL hqr4059 => ?_)
        obtain ⟨hT1, hF1, hqr4059⟩ := hqr4059
        have hF := hF.tr (hF1.mono (by simp))
        have hT := hT1
        obtain ⟨f4060, N4061, d4062, e4063, x4064, m4065⟩ := hqr4059
        have hm := m4065
        have hm8 := hm.2.2.2.2.2.2.2
        have nx4064 := x4064.n
        have ox4064 := nx4064.1
        have hbd : B0 ≤ dr := (hT.o26 hdT.1).1
        have hDR := hT.dr hdT d4062
        have hP : va_P D vwCl [(dr, .inl (cs 0, 1383, .inl f4060))] _ := va_P.cons d4062 va_P.nil
        refine lv_aload_n hx hb dX9_factor_173 rfl (lv_at hl 3 rfl) ?_
        refine lv_iload_n hx hb dX9_factor_174 rfl (lv_at hl 0 rfl) ?_
        refine cv_v (As := [.int r4052]) (rest := []) (b := w) ⟨hx, hb, hml, hown, hts⟩ (c_X9_emit hT (w := w) hw (x := r4052) hbT hdT hm (hP 0 _ rfl) e4063 (fun e9 => by have q9 := (z4056 e9).2; omega)) (cwV 1 hts gX9_factor_X9_emit rfl rfl rfl hdX9_emit_v ⟨Nat.le_of_ble_eq_true rfl, Nat.le_of_ble_eq_true rfl⟩) hN hE hL (rcv10 hN hT hw.1) rfl rfl hl.1 (Nat.le_of_ble_eq_true rfl) dX9_factor_175 (Nat.zero_le _) (Nat.zero_le _) (fun H1 locs hL hqr4067 => ?_)
        obtain ⟨hT1, hF1, hqr4067⟩ := hqr4067
        have hF := hF.tr (hF1.mono (by simp))
        have hT := hT1
        obtain ⟨f4068, N4069, d4070, e4071, x4072, m4073⟩ := hqr4067
        have hm := m4073
        have hm8 := hm.2.2.2.2.2.2.2
        have nx4072 := x4072.n
        have ox4072 := nx4072.1
        have hbd : B0 ≤ dr := (hT.o26 hdT.1).1
        have hDR := hT.dr hdT d4070
        have hP : va_P D vwCl [(dr, .inl (cs 0, 1383, .inl f4068))] _ := va_P.cons d4070 va_P.nil
        have bx4064 := nx4064.2.1
        have bx4072 := nx4072.2.1
        have hbn : N4069 + 2 * pos ≤ N + 2 * p4053 ∧ N4069 ≤ 2 * p4053 := by
          by_cases e9 : er4054 = 0
          · have q9 := (z4056 e9).2; omega
          · have q9 := bx4064 e9; have q8 := bx4072 e9; omega
        exact en_v hx hb hr hlocks hL (Nat.zero_le _) (Nat.zero_le _) dX9_factor_178 (⟨hT, hF, _, p4053, er4054, hbn.1, (by omega), (fun e9 => id ((fun e9 => (z4056 e9).1) e9)), hm, _, hP 0 _ rfl, e4071, hbn.2, (EM.lit x4064 x4072 (by decide) (fun e9 => v3917 ((fun e9 => (z4056 e9).1) e9)))⟩)
    · have hl9 := byF_c (c3928) (by decide)
      refine lv_aload_n hx hb dX9_factor_19 rfl (lv_at hl 1 rfl) ?_
      obtain ⟨hb4075, e4075, hat4075, hk4075⟩ := hT.o10 hw.1
      obtain ⟨f4075_0, f4075_1, f4075_3, f4075_4, f4075_5, f4075_6, f4075_7, f4075_9, f4075_10, f4075_11, f4075_12, f4075_13, f4075_14, f4075_15, f4075_16, f4075_17, rfl, c4075_2, c4075_3, c4075_4, c4075_12, t4075_1, t4075_8, t4075_9, c4075_sd, t4075_10, t4075_11, t4075_17⟩ := hk4075
      obtain ⟨rfl, rfl, rfl, rfl, rfl, rfl⟩ := hm.at hat4075 c4075_3 (by omega)
      have hm8 := hm.2.2.2.2.2.2.2
      have hP : va_P D vwCl [(w, .inr (9, [.int f4075_0, .ref bu, .int (nI ((κ w).2.2.1)), .int (nI tl), .int (nI p3923), .int er, .int f4075_6, .int f4075_7, .ref (κ w).2.2.2, .ref f4075_9, .ref dr, .ref f4075_11, .int (nI f4075_12), .int f4075_13, .int 0, .int f4075_15, .int f4075_16, .ref f4075_17])), (dr, .inl (cs 0, 1383, .inl f3917))] _ := va_P.cons hat4075 hP
      refine va_get (D := D) (ci := 9) (v := .int 0) (C := RX9) (T := TX9) (N := 18) hx hb hts iX9_factor_9 hown hN.1 hP 0 rfl rfl 14 (by decide) (hts _ mX9_factor_1) (fun _ h9 => h9) rfl dX9_factor_20 ?_
      refine lv_iconst (v := 4) hx hb dX9_factor_23 (by decide) ?_
      refine lv_icmp_ne (tgt := 37) hx hb dX9_factor_24 (by decide) (fun _ => ?_) (fun c9 => absurd c9 (by decide))
      refine lv_aload_n hx hb dX9_factor_37 rfl (lv_at hl 1 rfl) ?_
      refine lv_dup hx hb dX9_factor_38 rfl ?_
      refine va_get (D := D) (ci := 9) (v := .int (nI p3923)) (C := RX9) (T := TX9) (N := 18) hx hb hts iX9_factor_9 hown hN.1 hP 0 rfl rfl 4 (by decide) (hts _ mX9_factor_2) (fun _ h9 => h9) rfl dX9_factor_39 ?_
      refine lv_iconst (v := 1) hx hb dX9_factor_42 (by decide) ?_
      refine lv_iadd hx hb dX9_factor_43 ?_
      refine tp_i (nI (p3923 + 1)) (nI_add p3923 1) ?_
      have hB : Bx B0 D _ [(w, .inr (9, [.int f4075_0, .ref bu, .int (nI ((κ w).2.2.1)), .int (nI tl), .int (nI p3923), .int er, .int f4075_6, .int f4075_7, .ref (κ w).2.2.2, .ref f4075_9, .ref dr, .ref f4075_11, .int (nI f4075_12), .int f4075_13, .int 0, .int f4075_15, .int f4075_16, .ref f4075_17])), (dr, .inl (cs 0, 1383, .inl f3917))] [] _ _ := Bx.of (fun a => (κ a).1) hL hP (fa_c hb4075 (fa_c hbd fa_n)) (by simp only [List.map_cons, List.map_nil, hw.1, hdT.1]; decide)
      refine b_put (D := D) (ci := 9) (v := .int (nI (p3923 + 1))) (ty := .int) (C := RX9) (T := TX9) (N := 18) hx hb hts iX9_factor_9 tyX9 tyX9_ok nmX9 hown hN hB 0 rfl rfl 4 (by decide) (hts _ mX9_factor_2) (fun _ h9 => h9) rfl (by decide +kernel) rfl rfl (Nat.le_of_ble_eq_true rfl) (.inl rfl) dX9_factor_44 (fun H locs hB => ?_)
      have hB : Bx B0 D _ [(w, .inr (9, [.int f4075_0, .ref bu, .int (nI ((κ w).2.2.1)), .int (nI tl), .int (nI (p3923 + 1)), .int er, .int f4075_6, .int f4075_7, .ref (κ w).2.2.2, .ref f4075_9, .ref dr, .ref f4075_11, .int (nI f4075_12), .int f4075_13, .int 0, .int f4075_15, .int f4075_16, .ref f4075_17])), (dr, .inl (cs 0, 1383, .inl f3917))] [w] _ _ := hB
      refine lv_aload_n hx hb dX9_factor_47 rfl (lv_at hl 1 rfl) ?_
      refine lv_dup hx hb dX9_factor_48 rfl ?_
      refine va_get (D := D) (ci := 9) (v := .int 0) (C := RX9) (T := TX9) (N := 18) hx hb hts iX9_factor_9 hown hN.1 hB.1 0 rfl rfl 14 (by decide) (hts _ mX9_factor_1) (fun _ h9 => h9) rfl dX9_factor_49 ?_
      refine lv_iconst (v := 1) hx hb dX9_factor_52 (by decide) ?_
      refine lv_iadd hx hb dX9_factor_53 ?_
      refine tp_i 1 (by decide) ?_
      refine b_put (D := D) (ci := 9) (v := .int 1) (ty := .int) (C := RX9) (T := TX9) (N := 18) hx hb hts iX9_factor_9 tyX9 tyX9_ok nmX9 hown hN hB 0 rfl rfl 14 (by decide) (hts _ mX9_factor_1) (fun _ h9 => h9) rfl (by decide +kernel) rfl rfl (Nat.le_of_ble_eq_true rfl) (.inr ⟨rfl, List.mem_of_getElem? (i := 0) rfl⟩) dX9_factor_54 (fun H locs hB => ?_)
      have hB : Bx B0 D _ [(w, .inr (9, [.int f4075_0, .ref bu, .int (nI ((κ w).2.2.1)), .int (nI tl), .int (nI (p3923 + 1)), .int er, .int f4075_6, .int f4075_7, .ref (κ w).2.2.2, .ref f4075_9, .ref dr, .ref f4075_11, .int (nI f4075_12), .int f4075_13, .int 1, .int f4075_15, .int f4075_16, .ref f4075_17])), (dr, .inl (cs 0, 1383, .inl f3917))] [w] _ _ := hB
      refine lv_aload_n hx hb dX9_factor_57 rfl (lv_at hl 1 rfl) ?_
      have hT : WT B0 D cs T κ _ := hT.close hB ⟨⟨0, _, rfl, ok_10 hw.1 ⟨_, _, _, _, _, _, _, _, _, _, _, _, _, _, _, _, rfl, (by omega), (by omega), (by omega), (by omega), hbT, t4075_8, t4075_9, c4075_sd, hdT, t4075_11, t4075_17⟩⟩, trivial⟩
      have hF : Fr B0 [12, 17] κ H0 _ := hF.close hB (fa_c (by simp [hw.2]) fa_n)
      have hL : OkL B0 _ := hB.2.2.2.2.2
      have hP : va_P D vwCl [(w, .inr (9, [.int f4075_0, .ref bu, .int (nI ((κ w).2.2.1)), .int (nI tl), .int (nI (p3923 + 1)), .int er, .int f4075_6, .int f4075_7, .ref (κ w).2.2.2, .ref f4075_9, .ref dr, .ref f4075_11, .int (nI f4075_12), .int f4075_13, .int 1, .int f4075_15, .int f4075_16, .ref f4075_17])), (dr, .inl (cs 0, 1383, .inl f3917))] _ := hB.1
      have hbu9 := (hm.2.2.2.2.2.2.1).kept (hB.2.2.2.1 _ hm.2.2.2.2.2.2.1.lt (by simp only [List.mem_cons, List.not_mem_nil, or_false, not_or]; exact ne_c hbT.1 hw.1 (by decide)))
      have hm : MF D cs w _ ((p3923 + 1)) (tl) (er) (1) dr bu g := ⟨⟨_, hP 0 _ rfl, rfl⟩, ⟨_, hP 0 _ rfl, rfl⟩, ⟨_, hP 0 _ rfl, rfl⟩, ⟨_, hP 0 _ rfl, rfl⟩, ⟨_, hP 0 _ rfl, rfl⟩, ⟨_, hP 0 _ rfl, rfl⟩, hbu9, (by omega), (by omega)⟩
      have hps : PS D cs w _ ((p3923 + 1)) (tl) (er) (1) dr bu g (N) (h) := ⟨hm, f3917, hP 1 _ rfl, e3917, by omega, v3917⟩
      refine cv_v (As := []) (rest := []) (b := w) ⟨hx, hb, hml, hown, hts⟩ (c_X9_readSum_d1 hT (w := w) hw hbT hdT hps) (cwV 0 hts gX9_factor_X9_readSum rfl rfl rfl hdX9_readSum_v ⟨Nat.le_of_ble_eq_true rfl, Nat.le_of_ble_eq_true rfl⟩) hN hE hL (rcv10 hN hT hw.1) rfl rfl hl.1 (Nat.le_of_ble_eq_true rfl) dX9_factor_58 (Nat.zero_le _) (Nat.zero_le _) (fun H1 locs hL hqr4076 => ?_)
      obtain ⟨hT1, hF1, hqr4076⟩ := hqr4076
      have hF := hF.tr (hF1.mono (by simp))
      have hT := hT1
      obtain ⟨N4077, p4078, er4079, a4080, b4081, z4082, m4083, f4084, d4085, e4086, n4087, v4088⟩ := hqr4076
      have hm := m4083
      have hm8 := hm.2.2.2.2.2.2.2
      have hbd : B0 ≤ dr := (hT.o26 hdT.1).1
      have hDR := hT.dr hdT d4085
      have hP : va_P D vwCl [(dr, .inl (cs 0, 1383, .inl f4084))] _ := va_P.cons d4085 va_P.nil
      refine lv_aload_n hx hb dX9_factor_61 rfl (lv_at hl 1 rfl) ?_
      refine lv_bipush (v := 41) hx hb dX9_factor_62 (by decide) ?_
      refine cv_v (As := [.int 41]) (rest := []) (b := w) ⟨hx, hb, hml, hown, hts⟩ (c_X9_expect hT (w := w) hw (x := 41) hbT hdT hm ((by decide))) (cwV 1 hts gX9_factor_X9_expect rfl rfl rfl hdX9_expect_v ⟨Nat.le_of_ble_eq_true rfl, Nat.le_of_ble_eq_true rfl⟩) hN hE hL (rcv10 hN hT hw.1) rfl rfl hl.1 (Nat.le_of_ble_eq_true rfl) dX9_factor_64 (Nat.zero_le _) (Nat.zero_le _) (fun H1 locs hL hqr4090 => ?_)
      obtain ⟨hT1, hF1, hqr4090⟩ := hqr4090
      have hP : va_P D vwCl [(dr, .inl (cs 0, 1383, .inl f4084))] _ := hF1.hP (hP.sub [0] rfl) (fa_c ⟨by rw [hdT.1]; decide, by rw [hdT.2]; first | decide | (simp; done) | (simp; omega)⟩ fa_n)
      have hF := hF.tr (hF1.mono (by simp))
      have hT := hT1
      obtain ⟨p4091, er4092, a4093, z4094, m4095⟩ := hqr4090
      have hm := m4095
      have hm8 := hm.2.2.2.2.2.2.2
      refine lv_aload_n hx hb dX9_factor_67 rfl (lv_at hl 1 rfl) ?_
      refine lv_dup hx hb dX9_factor_68 rfl ?_
      obtain ⟨hb4096, e4096, hat4096, hk4096⟩ := hT.o10 hw.1
      obtain ⟨f4096_0, f4096_1, f4096_3, f4096_4, f4096_5, f4096_6, f4096_7, f4096_9, f4096_10, f4096_11, f4096_12, f4096_13, f4096_14, f4096_15, f4096_16, f4096_17, rfl, c4096_2, c4096_3, c4096_4, c4096_12, t4096_1, t4096_8, t4096_9, c4096_sd, t4096_10, t4096_11, t4096_17⟩ := hk4096
      obtain ⟨rfl, rfl, rfl, rfl, rfl, rfl⟩ := hm.at hat4096 c4096_3 (by omega)
      have hm8 := hm.2.2.2.2.2.2.2
      have hP : va_P D vwCl [(w, .inr (9, [.int f4096_0, .ref bu, .int (nI ((κ w).2.2.1)), .int (nI tl), .int (nI p4091), .int er4092, .int f4096_6, .int f4096_7, .ref (κ w).2.2.2, .ref f4096_9, .ref dr, .ref f4096_11, .int (nI f4096_12), .int f4096_13, .int 1, .int f4096_15, .int f4096_16, .ref f4096_17])), (dr, .inl (cs 0, 1383, .inl f4084))] _ := va_P.cons hat4096 hP
      refine va_get (D := D) (ci := 9) (v := .int 1) (C := RX9) (T := TX9) (N := 18) hx hb hts iX9_factor_9 hown hN.1 hP 0 rfl rfl 14 (by decide) (hts _ mX9_factor_1) (fun _ h9 => h9) rfl dX9_factor_69 ?_
      refine lv_iconst (v := 1) hx hb dX9_factor_72 (by decide) ?_
      refine lv_isub hx hb dX9_factor_73 ?_
      refine tp_i 0 (by decide) ?_
      have hB : Bx B0 D _ [(w, .inr (9, [.int f4096_0, .ref bu, .int (nI ((κ w).2.2.1)), .int (nI tl), .int (nI p4091), .int er4092, .int f4096_6, .int f4096_7, .ref (κ w).2.2.2, .ref f4096_9, .ref dr, .ref f4096_11, .int (nI f4096_12), .int f4096_13, .int 1, .int f4096_15, .int f4096_16, .ref f4096_17])), (dr, .inl (cs 0, 1383, .inl f4084))] [] _ _ := Bx.of (fun a => (κ a).1) hL hP (fa_c hb4096 (fa_c hbd fa_n)) (by simp only [List.map_cons, List.map_nil, hw.1, hdT.1]; decide)
      refine b_put (D := D) (ci := 9) (v := .int 0) (ty := .int) (C := RX9) (T := TX9) (N := 18) hx hb hts iX9_factor_9 tyX9 tyX9_ok nmX9 hown hN hB 0 rfl rfl 14 (by decide) (hts _ mX9_factor_1) (fun _ h9 => h9) rfl (by decide +kernel) rfl rfl (Nat.le_of_ble_eq_true rfl) (.inl rfl) dX9_factor_74 (fun H locs hB => ?_)
      have hB : Bx B0 D _ [(w, .inr (9, [.int f4096_0, .ref bu, .int (nI ((κ w).2.2.1)), .int (nI tl), .int (nI p4091), .int er4092, .int f4096_6, .int f4096_7, .ref (κ w).2.2.2, .ref f4096_9, .ref dr, .ref f4096_11, .int (nI f4096_12), .int f4096_13, .int 0, .int f4096_15, .int f4096_16, .ref f4096_17])), (dr, .inl (cs 0, 1383, .inl f4084))] [w] _ _ := hB
      have hT : WT B0 D cs T κ _ := hT.close hB ⟨⟨0, _, rfl, ok_10 hw.1 ⟨_, _, _, _, _, _, _, _, _, _, _, _, _, _, _, _, rfl, (by omega), (by omega), (by omega), (by omega), hbT, t4096_8, t4096_9, c4096_sd, hdT, t4096_11, t4096_17⟩⟩, trivial⟩
      have hF : Fr B0 [12, 17] κ H0 _ := hF.close hB (fa_c (by simp [hw.2]) fa_n)
      have hL : OkL B0 _ := hB.2.2.2.2.2
      have hP : va_P D vwCl [(w, .inr (9, [.int f4096_0, .ref bu, .int (nI ((κ w).2.2.1)), .int (nI tl), .int (nI p4091), .int er4092, .int f4096_6, .int f4096_7, .ref (κ w).2.2.2, .ref f4096_9, .ref dr, .ref f4096_11, .int (nI f4096_12), .int f4096_13, .int 0, .int f4096_15, .int f4096_16, .ref f4096_17])), (dr, .inl (cs 0, 1383, .inl f4084))] _ := hB.1
      have hbu9 := (hm.2.2.2.2.2.2.1).kept (hB.2.2.2.1 _ hm.2.2.2.2.2.2.1.lt (by simp only [List.mem_cons, List.not_mem_nil, or_false, not_or]; exact ne_c hbT.1 hw.1 (by decide)))
      have hm : MF D cs w _ (p4091) (tl) (er4092) (0) dr bu g := ⟨⟨_, hP 0 _ rfl, rfl⟩, ⟨_, hP 0 _ rfl, rfl⟩, ⟨_, hP 0 _ rfl, rfl⟩, ⟨_, hP 0 _ rfl, rfl⟩, ⟨_, hP 0 _ rfl, rfl⟩, ⟨_, hP 0 _ rfl, rfl⟩, hbu9, (by omega), (by omega)⟩
      exact en_v hx hb hr hlocks hL (Nat.zero_le _) (Nat.zero_le _) dX9_factor_77 (⟨hT, hF, N4077, p4091, er4092, (by omega), (by omega), (fun e9 => (fun e9 => id (z4082 e9)) (z4094 e9)), hm, _, hP 1 _ rfl, e4086, (by omega), (fun e9 => v4088 (z4094 e9))⟩)
  · refine lv_if_ne (tgt := 8) hx hb dX9_factor_4 (by decide) (fun c9 => absurd (by decide) c9) (fun _ => ?_)
    exact en_v hx hb hr hlocks hL (Nat.zero_le _) (Nat.zero_le _) dX9_factor_7 (⟨hT, hF, N, pos, er, (by omega), (by omega), id, hm, f3917, hP 0 _ rfl, e3917, (by omega), (fun e9 => absurd e9 e3921)⟩)
set_option maxHeartbeats 4000000 in
set_option maxRecDepth 100000 in
theorem c_X9_term_d0 {l : Launch} {D : va_G} {cs : Nat → ClassId} {B0 T : Nat} {κ : KM} {H0 : Heap} (hT : WT B0 D cs T κ H0) {w : Nat} (hw : T2 κ w 10 12) {pos tl : Nat} {er : Int32} {dr bu : Nat} {g : Nat → Int32} {N h : Nat} (hbT : T2 κ bu 23 14) (hdT : T2 κ dr 26 17) (hps : PS D cs w H0 pos tl er 0 dr bu g N h) : KC l yX9_term wsX9_term 18 390 0 0 D cs B0 H0 [.ref w] (Qv (fun H => WT B0 D cs T κ H ∧ Fr B0 [12, 17] κ H0 H ∧ ∃ N1 pos1 er1, N1 + 2 * pos ≤ N + 2 * pos1 ∧ pos ≤ pos1 ∧ (er1 = 0 → er = 0) ∧ PS D cs w H pos1 tl er1 0 dr bu g N1 (h + 1))) := by
  refine KC.of cX9_term 2 none (by decide) rfl (Nat.le_of_ble_eq_true rfl) ?_
  intro p e s m below meth c ls hx hb hr hml hown hts hlocks hin hN hE hH0 hl
  have hown : s.vm.findClass RX9 = some m.cls := hown
  have hl : lv_has ls 2 [(0, .ref w)] := hl
  have hL : OkL B0 [] := OkL.nil
  have hF : Fr B0 [12, 17] κ H0 H0 := Fr.rf
  obtain ⟨hm, f4097, hd4097, e4097, n4097, v4097⟩ := hps
  have hm8 := hm.2.2.2.2.2.2.2
  have hbd : B0 ≤ dr := (hT.o26 hdT.1).1
  have hDR := hT.dr hdT hd4097
  have hP : va_P D vwCl [(dr, .inl (cs 0, 1383, .inl f4097))] _ := va_P.cons hd4097 va_P.nil
  refine lv_aload_n hx hb dX9_term_0 rfl (lv_at hl 0 rfl) ?_
  have hps : PS D cs w _ (pos) (tl) (er) (0) dr bu g (N) (h) := ⟨hm, f4097, hP 0 _ rfl, e4097, by omega, v4097⟩
  refine cv_v (As := []) (rest := []) (b := w) ⟨hx, hb, hml, hown, hts⟩ (c_X9_factor_d0 hT (w := w) hw hbT hdT hps) (cwV 0 hts gX9_term_X9_factor rfl rfl rfl hdX9_factor_v ⟨Nat.le_of_ble_eq_true rfl, Nat.le_of_ble_eq_true rfl⟩) hN hE hL (rcv10 hN hT hw.1) rfl rfl hl.1 (Nat.le_of_ble_eq_true rfl) dX9_term_1 (Nat.zero_le _) (Nat.zero_le _) (fun H1 locs hL hqr4099 => ?_)
  obtain ⟨hT1, hF1, hqr4099⟩ := hqr4099
  have hF := hF.tr (hF1.mono (by simp))
  have hT := hT1
  obtain ⟨N4100, p4101, er4102, a4103, b4104, z4105, m4106, f4107, d4108, e4109, n4110, v4111⟩ := hqr4099
  have hm := m4106
  have hm8 := hm.2.2.2.2.2.2.2
  have hbd : B0 ≤ dr := (hT.o26 hdT.1).1
  have hDR := hT.dr hdT d4108
  have hP : va_P D vwCl [(dr, .inl (cs 0, 1383, .inl f4107))] _ := va_P.cons d4108 va_P.nil
  have hps : PS D cs w _ (p4101) (tl) (er4102) (0) dr bu g (N4100) ((h + 1)) := ⟨hm, f4107, hP 0 _ rfl, e4109, by omega, v4111⟩
  refine lp_m (α := Nat × Nat × Int32) (nL := 2) (fun a9 => 600 - a9.1) (fun a9 H9 l9 => (PS D cs w H9 a9.1 tl a9.2.2 0 dr bu g a9.2.1 (h + 1)) ∧ (a9.2.1 + 2 * pos ≤ N + 2 * a9.1) ∧ (pos ≤ a9.1) ∧ (a9.2.2 = 0 → er = 0) ∧ (WT B0 D cs T κ H9) ∧ (Fr B0 [12, 17] κ H0 H9) ∧ (OkL B0 l9)) (fun a9 => [(0, .ref w)]) ?_ (p4101, N4100, er4102) _ _ _ ⟨hps, (by show (N4100) + 2 * pos ≤ N + 2 * (p4101); omega), (by show pos ≤ (p4101); omega), (fun e9 => id (z4105 e9)), hT, hF, hL⟩ (lv_sub hl [0] rfl)
  rintro ⟨p, N1, er1⟩ H locs ls ih4113 ⟨hps, hb1, hb2, hz1, hT, hF, hL⟩ hl
  have hl : lv_has ls 2 [(0, .ref w)] := hl
  have hps : PS D cs w H p tl er1 0 dr bu g N1 (h + 1) := hps
  have hb1 : N1 + 2 * pos ≤ N + 2 * p := hb1
  have hb2 : pos ≤ p := hb2
  have hz1 : er1 = 0 → er = 0 := hz1
  obtain ⟨hm, f4114, hd4114, e4114, n4114, v4114⟩ := hps
  have hm8 := hm.2.2.2.2.2.2.2
  have hbd : B0 ≤ dr := (hT.o26 hdT.1).1
  have hDR := hT.dr hdT hd4114
  have hP : va_P D vwCl [(dr, .inl (cs 0, 1383, .inl f4114))] _ := va_P.cons hd4114 va_P.nil
  refine lv_aload_n hx hb dX9_term_4 rfl (lv_at hl 0 rfl) ?_
  refine cv_i (As := []) (rest := []) (b := w) ⟨hx, hb, hml, hown, hts⟩ (c_X9_isGood hT (w := w) hw hbT hdT hm) (cwV 0 hts gX9_term_X9_isGood rfl rfl rfl hdX9_isGood_v ⟨Nat.le_of_ble_eq_true rfl, Nat.le_of_ble_eq_true rfl⟩) hN hE hL (rcv10 hN hT hw.1) rfl rfl hl.1 (Nat.le_of_ble_eq_true rfl) dX9_term_5 (Nat.zero_le _) (Nat.zero_le _) (fun r4116 H1 locs hL hqr4116 => ?_)
  obtain ⟨h9, hqr4116⟩ := hqr4116; replace h9 := h9.symm; subst h9
  rcases hqr4116 with ⟨rfl, e4117⟩ | ⟨rfl, e4118⟩
  · refine lv_if_eq (tgt := 74) hx hb dX9_term_8 (by decide) (fun c9 => absurd c9 (by decide)) (fun _ => ?_)
    refine lv_aload_n hx hb dX9_term_11 rfl (lv_at hl 0 rfl) ?_
    refine cv_i (As := []) (rest := []) (b := w) ⟨hx, hb, hml, hown, hts⟩ (c_X9_ahead hT (w := w) hw hbT hdT hm) (cwV 0 hts gX9_term_X9_ahead rfl rfl rfl hdX9_ahead_v ⟨Nat.le_of_ble_eq_true rfl, Nat.le_of_ble_eq_true rfl⟩) hN hE hL (rcv10 hN hT hw.1) rfl rfl hl.1 (Nat.le_of_ble_eq_true rfl) dX9_term_12 (Nat.zero_le _) (Nat.zero_le _) (fun r4119 H1 locs hL hqr4119 => ?_)
    obtain ⟨hT1, hF1, hqr4119⟩ := hqr4119
    have hP : va_P D vwCl [(dr, .inl (cs 0, 1383, .inl f4114))] _ := hF1.hP (hP.sub [0] rfl) (fa_c ⟨by rw [hdT.1]; decide, by rw [hdT.2]; first | decide | (simp; done) | (simp; omega)⟩ fa_n)
    have hF := hF.tr (hF1.mono (by simp))
    have hT := hT1
    obtain ⟨p4120, h4121, m4122, n4123, s4124, rfl⟩ := hqr4119
    have hm := m4122
    have hm8 := hm.2.2.2.2.2.2.2
    refine lv_bipush (v := 42) hx hb dX9_term_15 (by decide) ?_
    refine lv_icmp_eq (tgt := 29) hx hb dX9_term_17 (by decide) (fun c4125 => ?_) (fun c4125 => ?_)
    · have hl9 := byF_c (c4125) (by decide)
      refine lv_aload_n hx hb dX9_term_29 rfl (lv_at hl 0 rfl) ?_
      refine cv_i (As := []) (rest := []) (b := w) ⟨hx, hb, hml, hown, hts⟩ (c_X9_ahead hT (w := w) hw hbT hdT hm) (cwV 0 hts gX9_term_X9_ahead rfl rfl rfl hdX9_ahead_v ⟨Nat.le_of_ble_eq_true rfl, Nat.le_of_ble_eq_true rfl⟩) hN hE hL (rcv10 hN hT hw.1) rfl rfl hl.1 (Nat.le_of_ble_eq_true rfl) dX9_term_30 (Nat.zero_le _) (Nat.zero_le _) (fun r4126 H1 locs hL hqr4126 => ?_)
      obtain ⟨hT1, hF1, hqr4126⟩ := hqr4126
      have hP : va_P D vwCl [(dr, .inl (cs 0, 1383, .inl f4114))] _ := hF1.hP (hP.sub [0] rfl) (fa_c ⟨by rw [hdT.1]; decide, by rw [hdT.2]; first | decide | (simp; done) | (simp; omega)⟩ fa_n)
      have hF := hF.tr (hF1.mono (by simp))
      have hT := hT1
      obtain ⟨p4127, h4128, m4129, n4130, s4131, rfl⟩ := hqr4126
      have hm := m4129
      have hpe := s4131 n4123
      rw [hpe] at hm
      refine tp_i (byF g tl p4120) (by rw [hpe]) ?_
      have hm8 := hm.2.2.2.2.2.2.2
      refine lv_bipush (v := 42) hx hb dX9_term_33 (by decide) ?_
      refine lv_icmp_ne (tgt := 42) hx hb dX9_term_35 (by decide) (fun c4132 => ?_) (fun c4132 => ?_)
      · refine lv_iconst (v := 0) hx hb dX9_term_42 (by decide) ?_
        refine lv_istore_n (lv' := [(1, .int 0), (0, .ref w)]) hx hb dX9_term_43 rfl hl (by decide) rfl (fun ls hl => ?_)
        refine lv_aload_n hx hb dX9_term_44 rfl (lv_at hl 1 rfl) ?_
        refine lv_dup hx hb dX9_term_45 rfl ?_
        obtain ⟨hb4133, e4133, hat4133, hk4133⟩ := hT.o10 hw.1
        obtain ⟨f4133_0, f4133_1, f4133_3, f4133_4, f4133_5, f4133_6, f4133_7, f4133_9, f4133_10, f4133_11, f4133_12, f4133_13, f4133_14, f4133_15, f4133_16, f4133_17, rfl, c4133_2, c4133_3, c4133_4, c4133_12, t4133_1, t4133_8, t4133_9, c4133_sd, t4133_10, t4133_11, t4133_17⟩ := hk4133
        obtain ⟨rfl, rfl, rfl, rfl, rfl, rfl⟩ := hm.at hat4133 c4133_3 (by omega)
        have hm8 := hm.2.2.2.2.2.2.2
        have hP : va_P D vwCl [(w, .inr (9, [.int f4133_0, .ref bu, .int (nI ((κ w).2.2.1)), .int (nI tl), .int (nI p4120), .int er1, .int f4133_6, .int f4133_7, .ref (κ w).2.2.2, .ref f4133_9, .ref dr, .ref f4133_11, .int (nI f4133_12), .int f4133_13, .int 0, .int f4133_15, .int f4133_16, .ref f4133_17])), (dr, .inl (cs 0, 1383, .inl f4114))] _ := va_P.cons hat4133 hP
        refine va_get (D := D) (ci := 9) (v := .int (nI p4120)) (C := RX9) (T := TX9) (N := 18) hx hb hts iX9_term_9 hown hN.1 hP 0 rfl rfl 4 (by decide) (hts _ mX9_term_1) (fun _ h9 => h9) rfl dX9_term_46 ?_
        refine lv_iconst (v := 1) hx hb dX9_term_49 (by decide) ?_
        refine lv_iadd hx hb dX9_term_50 ?_
        refine tp_i (nI (p4120 + 1)) (nI_add p4120 1) ?_
        have hB : Bx B0 D _ [(w, .inr (9, [.int f4133_0, .ref bu, .int (nI ((κ w).2.2.1)), .int (nI tl), .int (nI p4120), .int er1, .int f4133_6, .int f4133_7, .ref (κ w).2.2.2, .ref f4133_9, .ref dr, .ref f4133_11, .int (nI f4133_12), .int f4133_13, .int 0, .int f4133_15, .int f4133_16, .ref f4133_17])), (dr, .inl (cs 0, 1383, .inl f4114))] [] _ _ := Bx.of (fun a => (κ a).1) hL hP (fa_c hb4133 (fa_c hbd fa_n)) (by simp only [List.map_cons, List.map_nil, hw.1, hdT.1]; decide)
        refine b_put (D := D) (ci := 9) (v := .int (nI (p4120 + 1))) (ty := .int) (C := RX9) (T := TX9) (N := 18) hx hb hts iX9_term_9 tyX9 tyX9_ok nmX9 hown hN hB 0 rfl rfl 4 (by decide) (hts _ mX9_term_1) (fun _ h9 => h9) rfl (by decide +kernel) rfl rfl (Nat.le_of_ble_eq_true rfl) (.inl rfl) dX9_term_51 (fun H locs hB => ?_)
        have hB : Bx B0 D _ [(w, .inr (9, [.int f4133_0, .ref bu, .int (nI ((κ w).2.2.1)), .int (nI tl), .int (nI (p4120 + 1)), .int er1, .int f4133_6, .int f4133_7, .ref (κ w).2.2.2, .ref f4133_9, .ref dr, .ref f4133_11, .int (nI f4133_12), .int f4133_13, .int 0, .int f4133_15, .int f4133_16, .ref f4133_17])), (dr, .inl (cs 0, 1383, .inl f4114))] [w] _ _ := hB
        refine lv_aload_n hx hb dX9_term_54 rfl (lv_at hl 1 rfl) ?_
        have hT : WT B0 D cs T κ _ := hT.close hB ⟨⟨0, _, rfl, ok_10 hw.1 ⟨_, _, _, _, _, _, _, _, _, _, _, _, _, _, _, _, rfl, (by omega), (by omega), (by omega), (by omega), hbT, t4133_8, t4133_9, c4133_sd, hdT, t4133_11, t4133_17⟩⟩, trivial⟩
        have hF : Fr B0 [12, 17] κ H0 _ := hF.close hB (fa_c (by simp [hw.2]) fa_n)
        have hL : OkL B0 _ := hB.2.2.2.2.2
        have hP : va_P D vwCl [(w, .inr (9, [.int f4133_0, .ref bu, .int (nI ((κ w).2.2.1)), .int (nI tl), .int (nI (p4120 + 1)), .int er1, .int f4133_6, .int f4133_7, .ref (κ w).2.2.2, .ref f4133_9, .ref dr, .ref f4133_11, .int (nI f4133_12), .int f4133_13, .int 0, .int f4133_15, .int f4133_16, .ref f4133_17])), (dr, .inl (cs 0, 1383, .inl f4114))] _ := hB.1
        have hbu9 := (hm.2.2.2.2.2.2.1).kept (hB.2.2.2.1 _ hm.2.2.2.2.2.2.1.lt (by simp only [List.mem_cons, List.not_mem_nil, or_false, not_or]; exact ne_c hbT.1 hw.1 (by decide)))
        have hm : MF D cs w _ ((p4120 + 1)) (tl) (er1) (0) dr bu g := ⟨⟨_, hP 0 _ rfl, rfl⟩, ⟨_, hP 0 _ rfl, rfl⟩, ⟨_, hP 0 _ rfl, rfl⟩, ⟨_, hP 0 _ rfl, rfl⟩, ⟨_, hP 0 _ rfl, rfl⟩, ⟨_, hP 0 _ rfl, rfl⟩, hbu9, (by omega), (by omega)⟩
        have hps : PS D cs w _ ((p4120 + 1)) (tl) (er1) (0) dr bu g (N1) ((h + 1)) := ⟨hm, f4114, hP 1 _ rfl, e4114, by omega, v4114⟩
        refine cv_v (As := []) (rest := []) (b := w) ⟨hx, hb, hml, hown, hts⟩ (c_X9_factor_d0 hT (w := w) hw hbT hdT hps) (cwV 0 hts gX9_term_X9_factor rfl rfl rfl hdX9_factor_v ⟨Nat.le_of_ble_eq_true rfl, Nat.le_of_ble_eq_true rfl⟩) hN hE hL (rcv10 hN hT hw.1) rfl rfl hl.1 (Nat.le_of_ble_eq_true rfl) dX9_term_55 (Nat.zero_le _) (Nat.zero_le _) (fun H1 locs hL hqr4134 => ?_)
        obtain ⟨hT1, hF1, hqr4134⟩ := hqr4134
        have hF := hF.tr (hF1.mono (by simp))
        have hT := hT1
        obtain ⟨N4135, p4136, er4137, a4138, b4139, z4140, m4141, f4142, d4143, e4144, n4145, v4146⟩ := hqr4134
        have hm := m4141
        have hm8 := hm.2.2.2.2.2.2.2
        have hbd : B0 ≤ dr := (hT.o26 hdT.1).1
        have hDR := hT.dr hdT d4143
        have hP : va_P D vwCl [(dr, .inl (cs 0, 1383, .inl f4142))] _ := va_P.cons d4143 va_P.nil
        refine lv_aload_n hx hb dX9_term_58 rfl (lv_at hl 1 rfl) ?_
        refine lv_iload_n hx hb dX9_term_59 rfl (lv_at hl 0 rfl) ?_
        refine lv_if_eq (tgt := 67) hx hb dX9_term_60 (by decide) (fun _ => ?_) (fun c9 => absurd (by decide) c9)
        refine lv_iconst (v := 5) hx hb dX9_term_67 (by decide) ?_
        refine cv_v (As := [.int 5]) (rest := []) (b := w) ⟨hx, hb, hml, hown, hts⟩ (c_X9_emit hT (w := w) hw (x := 5) hbT hdT hm (hP 0 _ rfl) e4144 (fun _ => by omega)) (cwV 1 hts gX9_term_X9_emit rfl rfl rfl hdX9_emit_v ⟨Nat.le_of_ble_eq_true rfl, Nat.le_of_ble_eq_true rfl⟩) hN hE hL (rcv10 hN hT hw.1) rfl rfl hl.1 (Nat.le_of_ble_eq_true rfl) dX9_term_68 (Nat.zero_le _) (Nat.zero_le _) (fun H1 locs hL hqr4148 => ?_)
        obtain ⟨hT1, hF1, hqr4148⟩ := hqr4148
        have hF := hF.tr (hF1.mono (by simp))
        have hT := hT1
        obtain ⟨f4149, N4150, d4151, e4152, x4153, m4154⟩ := hqr4148
        have hm := m4154
        have hm8 := hm.2.2.2.2.2.2.2
        have nx4153 := x4153.n
        have ox4153 := nx4153.1
        have hbd : B0 ≤ dr := (hT.o26 hdT.1).1
        have hDR := hT.dr hdT d4151
        have hP : va_P D vwCl [(dr, .inl (cs 0, 1383, .inl f4149))] _ := va_P.cons d4151 va_P.nil
        refine lv_goto (tgt := 4) hx hb dX9_term_71 (by decide) ?_
        have hps : PS D cs w _ (p4136) (tl) (er4137) (0) dr bu g (N4150) ((h + 1)) := ⟨hm, f4149, hP 0 _ rfl, e4152, by omega, (EM.op x4153 (by decide) v4146)⟩
        exact ih4113 (p4136, N4150, er4137) _ _ _ (by show 600 - (p4136) < 600 - p; omega) ⟨hps, (by show (N4150) + 2 * pos ≤ N + 2 * (p4136); omega), (by show pos ≤ (p4136); omega), (fun e9 => hz1 (z4140 e9)), hT, hF, hL⟩ (lv_sub hl [1] rfl)
      · refine lv_iconst (v := 1) hx hb dX9_term_38 (by decide) ?_
        refine lv_goto (tgt := 43) hx hb dX9_term_39 (by decide) ?_
        refine lv_istore_n (lv' := [(1, .int 1), (0, .ref w)]) hx hb dX9_term_43 rfl hl (by decide) rfl (fun ls hl => ?_)
        refine lv_aload_n hx hb dX9_term_44 rfl (lv_at hl 1 rfl) ?_
        refine lv_dup hx hb dX9_term_45 rfl ?_
        obtain ⟨hb4156, e4156, hat4156, hk4156⟩ := hT.o10 hw.1
        obtain ⟨f4156_0, f4156_1, f4156_3, f4156_4, f4156_5, f4156_6, f4156_7, f4156_9, f4156_10, f4156_11, f4156_12, f4156_13, f4156_14, f4156_15, f4156_16, f4156_17, rfl, c4156_2, c4156_3, c4156_4, c4156_12, t4156_1, t4156_8, t4156_9, c4156_sd, t4156_10, t4156_11, t4156_17⟩ := hk4156
        obtain ⟨rfl, rfl, rfl, rfl, rfl, rfl⟩ := hm.at hat4156 c4156_3 (by omega)
        have hm8 := hm.2.2.2.2.2.2.2
        have hP : va_P D vwCl [(w, .inr (9, [.int f4156_0, .ref bu, .int (nI ((κ w).2.2.1)), .int (nI tl), .int (nI p4120), .int er1, .int f4156_6, .int f4156_7, .ref (κ w).2.2.2, .ref f4156_9, .ref dr, .ref f4156_11, .int (nI f4156_12), .int f4156_13, .int 0, .int f4156_15, .int f4156_16, .ref f4156_17])), (dr, .inl (cs 0, 1383, .inl f4114))] _ := va_P.cons hat4156 hP
        refine va_get (D := D) (ci := 9) (v := .int (nI p4120)) (C := RX9) (T := TX9) (N := 18) hx hb hts iX9_term_9 hown hN.1 hP 0 rfl rfl 4 (by decide) (hts _ mX9_term_1) (fun _ h9 => h9) rfl dX9_term_46 ?_
        refine lv_iconst (v := 1) hx hb dX9_term_49 (by decide) ?_
        refine lv_iadd hx hb dX9_term_50 ?_
        refine tp_i (nI (p4120 + 1)) (nI_add p4120 1) ?_
        have hB : Bx B0 D _ [(w, .inr (9, [.int f4156_0, .ref bu, .int (nI ((κ w).2.2.1)), .int (nI tl), .int (nI p4120), .int er1, .int f4156_6, .int f4156_7, .ref (κ w).2.2.2, .ref f4156_9, .ref dr, .ref f4156_11, .int (nI f4156_12), .int f4156_13, .int 0, .int f4156_15, .int f4156_16, .ref f4156_17])), (dr, .inl (cs 0, 1383, .inl f4114))] [] _ _ := Bx.of (fun a => (κ a).1) hL hP (fa_c hb4156 (fa_c hbd fa_n)) (by simp only [List.map_cons, List.map_nil, hw.1, hdT.1]; decide)
        refine b_put (D := D) (ci := 9) (v := .int (nI (p4120 + 1))) (ty := .int) (C := RX9) (T := TX9) (N := 18) hx hb hts iX9_term_9 tyX9 tyX9_ok nmX9 hown hN hB 0 rfl rfl 4 (by decide) (hts _ mX9_term_1) (fun _ h9 => h9) rfl (by decide +kernel) rfl rfl (Nat.le_of_ble_eq_true rfl) (.inl rfl) dX9_term_51 (fun H locs hB => ?_)
        have hB : Bx B0 D _ [(w, .inr (9, [.int f4156_0, .ref bu, .int (nI ((κ w).2.2.1)), .int (nI tl), .int (nI (p4120 + 1)), .int er1, .int f4156_6, .int f4156_7, .ref (κ w).2.2.2, .ref f4156_9, .ref dr, .ref f4156_11, .int (nI f4156_12), .int f4156_13, .int 0, .int f4156_15, .int f4156_16, .ref f4156_17])), (dr, .inl (cs 0, 1383, .inl f4114))] [w] _ _ := hB
        refine lv_aload_n hx hb dX9_term_54 rfl (lv_at hl 1 rfl) ?_
        have hT : WT B0 D cs T κ _ := hT.close hB ⟨⟨0, _, rfl, ok_10 hw.1 ⟨_, _, _, _, _, _, _, _, _, _, _, _, _, _, _, _, rfl, (by omega), (by omega), (by omega), (by omega), hbT, t4156_8, t4156_9, c4156_sd, hdT, t4156_11, t4156_17⟩⟩, trivial⟩
        have hF : Fr B0 [12, 17] κ H0 _ := hF.close hB (fa_c (by simp [hw.2]) fa_n)
        have hL : OkL B0 _ := hB.2.2.2.2.2
        have hP : va_P D vwCl [(w, .inr (9, [.int f4156_0, .ref bu, .int (nI ((κ w).2.2.1)), .int (nI tl), .int (nI (p4120 + 1)), .int er1, .int f4156_6, .int f4156_7, .ref (κ w).2.2.2, .ref f4156_9, .ref dr, .ref f4156_11, .int (nI f4156_12), .int f4156_13, .int 0, .int f4156_15, .int f4156_16, .ref f4156_17])), (dr, .inl (cs 0, 1383, .inl f4114))] _ := hB.1
        have hbu9 := (hm.2.2.2.2.2.2.1).kept (hB.2.2.2.1 _ hm.2.2.2.2.2.2.1.lt (by simp only [List.mem_cons, List.not_mem_nil, or_false, not_or]; exact ne_c hbT.1 hw.1 (by decide)))
        have hm : MF D cs w _ ((p4120 + 1)) (tl) (er1) (0) dr bu g := ⟨⟨_, hP 0 _ rfl, rfl⟩, ⟨_, hP 0 _ rfl, rfl⟩, ⟨_, hP 0 _ rfl, rfl⟩, ⟨_, hP 0 _ rfl, rfl⟩, ⟨_, hP 0 _ rfl, rfl⟩, ⟨_, hP 0 _ rfl, rfl⟩, hbu9, (by omega), (by omega)⟩
        have hps : PS D cs w _ ((p4120 + 1)) (tl) (er1) (0) dr bu g (N1) ((h + 1)) := ⟨hm, f4114, hP 1 _ rfl, e4114, by omega, v4114⟩
        refine cv_v (As := []) (rest := []) (b := w) ⟨hx, hb, hml, hown, hts⟩ (c_X9_factor_d0 hT (w := w) hw hbT hdT hps) (cwV 0 hts gX9_term_X9_factor rfl rfl rfl hdX9_factor_v ⟨Nat.le_of_ble_eq_true rfl, Nat.le_of_ble_eq_true rfl⟩) hN hE hL (rcv10 hN hT hw.1) rfl rfl hl.1 (Nat.le_of_ble_eq_true rfl) dX9_term_55 (Nat.zero_le _) (Nat.zero_le _) (fun H1 locs hL hqr4157 => ?_)
        obtain ⟨hT1, hF1, hqr4157⟩ := hqr4157
        have hF := hF.tr (hF1.mono (by simp))
        have hT := hT1
        obtain ⟨N4158, p4159, er4160, a4161, b4162, z4163, m4164, f4165, d4166, e4167, n4168, v4169⟩ := hqr4157
        have hm := m4164
        have hm8 := hm.2.2.2.2.2.2.2
        have hbd : B0 ≤ dr := (hT.o26 hdT.1).1
        have hDR := hT.dr hdT d4166
        have hP : va_P D vwCl [(dr, .inl (cs 0, 1383, .inl f4165))] _ := va_P.cons d4166 va_P.nil
        refine lv_aload_n hx hb dX9_term_58 rfl (lv_at hl 1 rfl) ?_
        refine lv_iload_n hx hb dX9_term_59 rfl (lv_at hl 0 rfl) ?_
        refine lv_if_eq (tgt := 67) hx hb dX9_term_60 (by decide) (fun c9 => absurd c9 (by decide)) (fun _ => ?_)
        refine lv_iconst (v := 4) hx hb dX9_term_63 (by decide) ?_
        refine lv_goto (tgt := 68) hx hb dX9_term_64 (by decide) ?_
        refine cv_v (As := [.int 4]) (rest := []) (b := w) ⟨hx, hb, hml, hown, hts⟩ (c_X9_emit hT (w := w) hw (x := 4) hbT hdT hm (hP 0 _ rfl) e4167 (fun _ => by omega)) (cwV 1 hts gX9_term_X9_emit rfl rfl rfl hdX9_emit_v ⟨Nat.le_of_ble_eq_true rfl, Nat.le_of_ble_eq_true rfl⟩) hN hE hL (rcv10 hN hT hw.1) rfl rfl hl.1 (Nat.le_of_ble_eq_true rfl) dX9_term_68 (Nat.zero_le _) (Nat.zero_le _) (fun H1 locs hL hqr4171 => ?_)
        obtain ⟨hT1, hF1, hqr4171⟩ := hqr4171
        have hF := hF.tr (hF1.mono (by simp))
        have hT := hT1
        obtain ⟨f4172, N4173, d4174, e4175, x4176, m4177⟩ := hqr4171
        have hm := m4177
        have hm8 := hm.2.2.2.2.2.2.2
        have nx4176 := x4176.n
        have ox4176 := nx4176.1
        have hbd : B0 ≤ dr := (hT.o26 hdT.1).1
        have hDR := hT.dr hdT d4174
        have hP : va_P D vwCl [(dr, .inl (cs 0, 1383, .inl f4172))] _ := va_P.cons d4174 va_P.nil
        refine lv_goto (tgt := 4) hx hb dX9_term_71 (by decide) ?_
        have hps : PS D cs w _ (p4159) (tl) (er4160) (0) dr bu g (N4173) ((h + 1)) := ⟨hm, f4172, hP 0 _ rfl, e4175, by omega, (EM.op x4176 (by decide) v4169)⟩
        exact ih4113 (p4159, N4173, er4160) _ _ _ (by show 600 - (p4159) < 600 - p; omega) ⟨hps, (by show (N4173) + 2 * pos ≤ N + 2 * (p4159); omega), (by show pos ≤ (p4159); omega), (fun e9 => hz1 (z4163 e9)), hT, hF, hL⟩ (lv_sub hl [1] rfl)
    · refine lv_aload_n hx hb dX9_term_20 rfl (lv_at hl 0 rfl) ?_
      refine cv_i (As := []) (rest := []) (b := w) ⟨hx, hb, hml, hown, hts⟩ (c_X9_ahead hT (w := w) hw hbT hdT hm) (cwV 0 hts gX9_term_X9_ahead rfl rfl rfl hdX9_ahead_v ⟨Nat.le_of_ble_eq_true rfl, Nat.le_of_ble_eq_true rfl⟩) hN hE hL (rcv10 hN hT hw.1) rfl rfl hl.1 (Nat.le_of_ble_eq_true rfl) dX9_term_21 (Nat.zero_le _) (Nat.zero_le _) (fun r4179 H1 locs hL hqr4179 => ?_)
      obtain ⟨hT1, hF1, hqr4179⟩ := hqr4179
      have hP : va_P D vwCl [(dr, .inl (cs 0, 1383, .inl f4114))] _ := hF1.hP (hP.sub [0] rfl) (fa_c ⟨by rw [hdT.1]; decide, by rw [hdT.2]; first | decide | (simp; done) | (simp; omega)⟩ fa_n)
      have hF := hF.tr (hF1.mono (by simp))
      have hT := hT1
      obtain ⟨p4180, h4181, m4182, n4183, s4184, rfl⟩ := hqr4179
      have hm := m4182
      have hpe := s4184 n4123
      rw [hpe] at hm
      refine tp_i (byF g tl p4120) (by rw [hpe]) ?_
      have hm8 := hm.2.2.2.2.2.2.2
      refine lv_bipush (v := 47) hx hb dX9_term_24 (by decide) ?_
      refine lv_icmp_ne (tgt := 74) hx hb dX9_term_26 (by decide) (fun c4185 => ?_) (fun c4185 => ?_)
      · have hps : PS D cs w _ (p4120) (tl) (er1) (0) dr bu g (N1) ((h + 1)) := ⟨hm, f4114, hP 0 _ rfl, e4114, by omega, v4114⟩
        exact en_v hx hb hr hlocks hL (Nat.zero_le _) (Nat.zero_le _) dX9_term_74 (⟨hT, hF, N1, p4120, er1, (by omega), (by omega), hz1, hps⟩)
      · have hl9 := byF_c (c4185) (by decide)
        refine lv_aload_n hx hb dX9_term_29 rfl (lv_at hl 0 rfl) ?_
        refine cv_i (As := []) (rest := []) (b := w) ⟨hx, hb, hml, hown, hts⟩ (c_X9_ahead hT (w := w) hw hbT hdT hm) (cwV 0 hts gX9_term_X9_ahead rfl rfl rfl hdX9_ahead_v ⟨Nat.le_of_ble_eq_true rfl, Nat.le_of_ble_eq_true rfl⟩) hN hE hL (rcv10 hN hT hw.1) rfl rfl hl.1 (Nat.le_of_ble_eq_true rfl) dX9_term_30 (Nat.zero_le _) (Nat.zero_le _) (fun r4186 H1 locs hL hqr4186 => ?_)
        obtain ⟨hT1, hF1, hqr4186⟩ := hqr4186
        have hP : va_P D vwCl [(dr, .inl (cs 0, 1383, .inl f4114))] _ := hF1.hP (hP.sub [0] rfl) (fa_c ⟨by rw [hdT.1]; decide, by rw [hdT.2]; first | decide | (simp; done) | (simp; omega)⟩ fa_n)
        have hF := hF.tr (hF1.mono (by simp))
        have hT := hT1
        obtain ⟨p4187, h4188, m4189, n4190, s4191, rfl⟩ := hqr4186
        have hm := m4189
        have hpe := s4191 n4123
        rw [hpe] at hm
        refine tp_i (byF g tl p4120) (by rw [hpe]) ?_
        have hm8 := hm.2.2.2.2.2.2.2
        refine lv_bipush (v := 42) hx hb dX9_term_33 (by decide) ?_
        refine lv_icmp_ne (tgt := 42) hx hb dX9_term_35 (by decide) (fun c4192 => ?_) (fun c4192 => ?_)
        · refine lv_iconst (v := 0) hx hb dX9_term_42 (by decide) ?_
          refine lv_istore_n (lv' := [(1, .int 0), (0, .ref w)]) hx hb dX9_term_43 rfl hl (by decide) rfl (fun ls hl => ?_)
          refine lv_aload_n hx hb dX9_term_44 rfl (lv_at hl 1 rfl) ?_
          refine lv_dup hx hb dX9_term_45 rfl ?_
          obtain ⟨hb4193, e4193, hat4193, hk4193⟩ := hT.o10 hw.1
          obtain ⟨f4193_0, f4193_1, f4193_3, f4193_4, f4193_5, f4193_6, f4193_7, f4193_9, f4193_10, f4193_11, f4193_12, f4193_13, f4193_14, f4193_15, f4193_16, f4193_17, rfl, c4193_2, c4193_3, c4193_4, c4193_12, t4193_1, t4193_8, t4193_9, c4193_sd, t4193_10, t4193_11, t4193_17⟩ := hk4193
          obtain ⟨rfl, rfl, rfl, rfl, rfl, rfl⟩ := hm.at hat4193 c4193_3 (by omega)
          have hm8 := hm.2.2.2.2.2.2.2
          have hP : va_P D vwCl [(w, .inr (9, [.int f4193_0, .ref bu, .int (nI ((κ w).2.2.1)), .int (nI tl), .int (nI p4120), .int er1, .int f4193_6, .int f4193_7, .ref (κ w).2.2.2, .ref f4193_9, .ref dr, .ref f4193_11, .int (nI f4193_12), .int f4193_13, .int 0, .int f4193_15, .int f4193_16, .ref f4193_17])), (dr, .inl (cs 0, 1383, .inl f4114))] _ := va_P.cons hat4193 hP
          refine va_get (D := D) (ci := 9) (v := .int (nI p4120)) (C := RX9) (T := TX9) (N := 18) hx hb hts iX9_term_9 hown hN.1 hP 0 rfl rfl 4 (by decide) (hts _ mX9_term_1) (fun _ h9 => h9) rfl dX9_term_46 ?_
          refine lv_iconst (v := 1) hx hb dX9_term_49 (by decide) ?_
          refine lv_iadd hx hb dX9_term_50 ?_
          refine tp_i (nI (p4120 + 1)) (nI_add p4120 1) ?_
          have hB : Bx B0 D _ [(w, .inr (9, [.int f4193_0, .ref bu, .int (nI ((κ w).2.2.1)), .int (nI tl), .int (nI p4120), .int er1, .int f4193_6, .int f4193_7, .ref (κ w).2.2.2, .ref f4193_9, .ref dr, .ref f4193_11, .int (nI f4193_12), .int f4193_13, .int 0, .int f4193_15, .int f4193_16, .ref f4193_17])), (dr, .inl (cs 0, 1383, .inl f4114))] [] _ _ := Bx.of (fun a => (κ a).1) hL hP (fa_c hb4193 (fa_c hbd fa_n)) (by simp only [List.map_cons, List.map_nil, hw.1, hdT.1]; decide)
          refine b_put (D := D) (ci := 9) (v := .int (nI (p4120 + 1))) (ty := .int) (C := RX9) (T := TX9) (N := 18) hx hb hts iX9_term_9 tyX9 tyX9_ok nmX9 hown hN hB 0 rfl rfl 4 (by decide) (hts _ mX9_term_1) (fun _ h9 => h9) rfl (by decide +kernel) rfl rfl (Nat.le_of_ble_eq_true rfl) (.inl rfl) dX9_term_51 (fun H locs hB => ?_)
          have hB : Bx B0 D _ [(w, .inr (9, [.int f4193_0, .ref bu, .int (nI ((κ w).2.2.1)), .int (nI tl), .int (nI (p4120 + 1)), .int er1, .int f4193_6, .int f4193_7, .ref (κ w).2.2.2, .ref f4193_9, .ref dr, .ref f4193_11, .int (nI f4193_12), .int f4193_13, .int 0, .int f4193_15, .int f4193_16, .ref f4193_17])), (dr, .inl (cs 0, 1383, .inl f4114))] [w] _ _ := hB
          refine lv_aload_n hx hb dX9_term_54 rfl (lv_at hl 1 rfl) ?_
          have hT : WT B0 D cs T κ _ := hT.close hB ⟨⟨0, _, rfl, ok_10 hw.1 ⟨_, _, _, _, _, _, _, _, _, _, _, _, _, _, _, _, rfl, (by omega), (by omega), (by omega), (by omega), hbT, t4193_8, t4193_9, c4193_sd, hdT, t4193_11, t4193_17⟩⟩, trivial⟩
          have hF : Fr B0 [12, 17] κ H0 _ := hF.close hB (fa_c (by simp [hw.2]) fa_n)
          have hL : OkL B0 _ := hB.2.2.2.2.2
          have hP : va_P D vwCl [(w, .inr (9, [.int f4193_0, .ref bu, .int (nI ((κ w).2.2.1)), .int (nI tl), .int (nI (p4120 + 1)), .int er1, .int f4193_6, .int f4193_7, .ref (κ w).2.2.2, .ref f4193_9, .ref dr, .ref f4193_11, .int (nI f4193_12), .int f4193_13, .int 0, .int f4193_15, .int f4193_16, .ref f4193_17])), (dr, .inl (cs 0, 1383, .inl f4114))] _ := hB.1
          have hbu9 := (hm.2.2.2.2.2.2.1).kept (hB.2.2.2.1 _ hm.2.2.2.2.2.2.1.lt (by simp only [List.mem_cons, List.not_mem_nil, or_false, not_or]; exact ne_c hbT.1 hw.1 (by decide)))
          have hm : MF D cs w _ ((p4120 + 1)) (tl) (er1) (0) dr bu g := ⟨⟨_, hP 0 _ rfl, rfl⟩, ⟨_, hP 0 _ rfl, rfl⟩, ⟨_, hP 0 _ rfl, rfl⟩, ⟨_, hP 0 _ rfl, rfl⟩, ⟨_, hP 0 _ rfl, rfl⟩, ⟨_, hP 0 _ rfl, rfl⟩, hbu9, (by omega), (by omega)⟩
          have hps : PS D cs w _ ((p4120 + 1)) (tl) (er1) (0) dr bu g (N1) ((h + 1)) := ⟨hm, f4114, hP 1 _ rfl, e4114, by omega, v4114⟩
          refine cv_v (As := []) (rest := []) (b := w) ⟨hx, hb, hml, hown, hts⟩ (c_X9_factor_d0 hT (w := w) hw hbT hdT hps) (cwV 0 hts gX9_term_X9_factor rfl rfl rfl hdX9_factor_v ⟨Nat.le_of_ble_eq_true rfl, Nat.le_of_ble_eq_true rfl⟩) hN hE hL (rcv10 hN hT hw.1) rfl rfl hl.1 (Nat.le_of_ble_eq_true rfl) dX9_term_55 (Nat.zero_le _) (Nat.zero_le _) (fun H1 locs hL hqr4194 => ?_)
          obtain ⟨hT1, hF1, hqr4194⟩ := hqr4194
          have hF := hF.tr (hF1.mono (by simp))
          have hT := hT1
          obtain ⟨N4195, p4196, er4197, a4198, b4199, z4200, m4201, f4202, d4203, e4204, n4205, v4206⟩ := hqr4194
          have hm := m4201
          have hm8 := hm.2.2.2.2.2.2.2
          have hbd : B0 ≤ dr := (hT.o26 hdT.1).1
          have hDR := hT.dr hdT d4203
          have hP : va_P D vwCl [(dr, .inl (cs 0, 1383, .inl f4202))] _ := va_P.cons d4203 va_P.nil
          refine lv_aload_n hx hb dX9_term_58 rfl (lv_at hl 1 rfl) ?_
          refine lv_iload_n hx hb dX9_term_59 rfl (lv_at hl 0 rfl) ?_
          refine lv_if_eq (tgt := 67) hx hb dX9_term_60 (by decide) (fun _ => ?_) (fun c9 => absurd (by decide) c9)
          refine lv_iconst (v := 5) hx hb dX9_term_67 (by decide) ?_
          refine cv_v (As := [.int 5]) (rest := []) (b := w) ⟨hx, hb, hml, hown, hts⟩ (c_X9_emit hT (w := w) hw (x := 5) hbT hdT hm (hP 0 _ rfl) e4204 (fun _ => by omega)) (cwV 1 hts gX9_term_X9_emit rfl rfl rfl hdX9_emit_v ⟨Nat.le_of_ble_eq_true rfl, Nat.le_of_ble_eq_true rfl⟩) hN hE hL (rcv10 hN hT hw.1) rfl rfl hl.1 (Nat.le_of_ble_eq_true rfl) dX9_term_68 (Nat.zero_le _) (Nat.zero_le _) (fun H1 locs hL hqr4208 => ?_)
          obtain ⟨hT1, hF1, hqr4208⟩ := hqr4208
          have hF := hF.tr (hF1.mono (by simp))
          have hT := hT1
          obtain ⟨f4209, N4210, d4211, e4212, x4213, m4214⟩ := hqr4208
          have hm := m4214
          have hm8 := hm.2.2.2.2.2.2.2
          have nx4213 := x4213.n
          have ox4213 := nx4213.1
          have hbd : B0 ≤ dr := (hT.o26 hdT.1).1
          have hDR := hT.dr hdT d4211
          have hP : va_P D vwCl [(dr, .inl (cs 0, 1383, .inl f4209))] _ := va_P.cons d4211 va_P.nil
          refine lv_goto (tgt := 4) hx hb dX9_term_71 (by decide) ?_
          have hps : PS D cs w _ (p4196) (tl) (er4197) (0) dr bu g (N4210) ((h + 1)) := ⟨hm, f4209, hP 0 _ rfl, e4212, by omega, (EM.op x4213 (by decide) v4206)⟩
          exact ih4113 (p4196, N4210, er4197) _ _ _ (by show 600 - (p4196) < 600 - p; omega) ⟨hps, (by show (N4210) + 2 * pos ≤ N + 2 * (p4196); omega), (by show pos ≤ (p4196); omega), (fun e9 => hz1 (z4200 e9)), hT, hF, hL⟩ (lv_sub hl [1] rfl)
        · refine lv_iconst (v := 1) hx hb dX9_term_38 (by decide) ?_
          refine lv_goto (tgt := 43) hx hb dX9_term_39 (by decide) ?_
          refine lv_istore_n (lv' := [(1, .int 1), (0, .ref w)]) hx hb dX9_term_43 rfl hl (by decide) rfl (fun ls hl => ?_)
          refine lv_aload_n hx hb dX9_term_44 rfl (lv_at hl 1 rfl) ?_
          refine lv_dup hx hb dX9_term_45 rfl ?_
          obtain ⟨hb4216, e4216, hat4216, hk4216⟩ := hT.o10 hw.1
          obtain ⟨f4216_0, f4216_1, f4216_3, f4216_4, f4216_5, f4216_6, f4216_7, f4216_9, f4216_10, f4216_11, f4216_12, f4216_13, f4216_14, f4216_15, f4216_16, f4216_17, rfl, c4216_2, c4216_3, c4216_4, c4216_12, t4216_1, t4216_8, t4216_9, c4216_sd, t4216_10, t4216_11, t4216_17⟩ := hk4216
          obtain ⟨rfl, rfl, rfl, rfl, rfl, rfl⟩ := hm.at hat4216 c4216_3 (by omega)
          have hm8 := hm.2.2.2.2.2.2.2
          have hP : va_P D vwCl [(w, .inr (9, [.int f4216_0, .ref bu, .int (nI ((κ w).2.2.1)), .int (nI tl), .int (nI p4120), .int er1, .int f4216_6, .int f4216_7, .ref (κ w).2.2.2, .ref f4216_9, .ref dr, .ref f4216_11, .int (nI f4216_12), .int f4216_13, .int 0, .int f4216_15, .int f4216_16, .ref f4216_17])), (dr, .inl (cs 0, 1383, .inl f4114))] _ := va_P.cons hat4216 hP
          refine va_get (D := D) (ci := 9) (v := .int (nI p4120)) (C := RX9) (T := TX9) (N := 18) hx hb hts iX9_term_9 hown hN.1 hP 0 rfl rfl 4 (by decide) (hts _ mX9_term_1) (fun _ h9 => h9) rfl dX9_term_46 ?_
          refine lv_iconst (v := 1) hx hb dX9_term_49 (by decide) ?_
          refine lv_iadd hx hb dX9_term_50 ?_
          refine tp_i (nI (p4120 + 1)) (nI_add p4120 1) ?_
          have hB : Bx B0 D _ [(w, .inr (9, [.int f4216_0, .ref bu, .int (nI ((κ w).2.2.1)), .int (nI tl), .int (nI p4120), .int er1, .int f4216_6, .int f4216_7, .ref (κ w).2.2.2, .ref f4216_9, .ref dr, .ref f4216_11, .int (nI f4216_12), .int f4216_13, .int 0, .int f4216_15, .int f4216_16, .ref f4216_17])), (dr, .inl (cs 0, 1383, .inl f4114))] [] _ _ := Bx.of (fun a => (κ a).1) hL hP (fa_c hb4216 (fa_c hbd fa_n)) (by simp only [List.map_cons, List.map_nil, hw.1, hdT.1]; decide)
          refine b_put (D := D) (ci := 9) (v := .int (nI (p4120 + 1))) (ty := .int) (C := RX9) (T := TX9) (N := 18) hx hb hts iX9_term_9 tyX9 tyX9_ok nmX9 hown hN hB 0 rfl rfl 4 (by decide) (hts _ mX9_term_1) (fun _ h9 => h9) rfl (by decide +kernel) rfl rfl (Nat.le_of_ble_eq_true rfl) (.inl rfl) dX9_term_51 (fun H locs hB => ?_)
          have hB : Bx B0 D _ [(w, .inr (9, [.int f4216_0, .ref bu, .int (nI ((κ w).2.2.1)), .int (nI tl), .int (nI (p4120 + 1)), .int er1, .int f4216_6, .int f4216_7, .ref (κ w).2.2.2, .ref f4216_9, .ref dr, .ref f4216_11, .int (nI f4216_12), .int f4216_13, .int 0, .int f4216_15, .int f4216_16, .ref f4216_17])), (dr, .inl (cs 0, 1383, .inl f4114))] [w] _ _ := hB
          refine lv_aload_n hx hb dX9_term_54 rfl (lv_at hl 1 rfl) ?_
          have hT : WT B0 D cs T κ _ := hT.close hB ⟨⟨0, _, rfl, ok_10 hw.1 ⟨_, _, _, _, _, _, _, _, _, _, _, _, _, _, _, _, rfl, (by omega), (by omega), (by omega), (by omega), hbT, t4216_8, t4216_9, c4216_sd, hdT, t4216_11, t4216_17⟩⟩, trivial⟩
          have hF : Fr B0 [12, 17] κ H0 _ := hF.close hB (fa_c (by simp [hw.2]) fa_n)
          have hL : OkL B0 _ := hB.2.2.2.2.2
          have hP : va_P D vwCl [(w, .inr (9, [.int f4216_0, .ref bu, .int (nI ((κ w).2.2.1)), .int (nI tl), .int (nI (p4120 + 1)), .int er1, .int f4216_6, .int f4216_7, .ref (κ w).2.2.2, .ref f4216_9, .ref dr, .ref f4216_11, .int (nI f4216_12), .int f4216_13, .int 0, .int f4216_15, .int f4216_16, .ref f4216_17])), (dr, .inl (cs 0, 1383, .inl f4114))] _ := hB.1
          have hbu9 := (hm.2.2.2.2.2.2.1).kept (hB.2.2.2.1 _ hm.2.2.2.2.2.2.1.lt (by simp only [List.mem_cons, List.not_mem_nil, or_false, not_or]; exact ne_c hbT.1 hw.1 (by decide)))
          have hm : MF D cs w _ ((p4120 + 1)) (tl) (er1) (0) dr bu g := ⟨⟨_, hP 0 _ rfl, rfl⟩, ⟨_, hP 0 _ rfl, rfl⟩, ⟨_, hP 0 _ rfl, rfl⟩, ⟨_, hP 0 _ rfl, rfl⟩, ⟨_, hP 0 _ rfl, rfl⟩, ⟨_, hP 0 _ rfl, rfl⟩, hbu9, (by omega), (by omega)⟩
          have hps : PS D cs w _ ((p4120 + 1)) (tl) (er1) (0) dr bu g (N1) ((h + 1)) := ⟨hm, f4114, hP 1 _ rfl, e4114, by omega, v4114⟩
          refine cv_v (As := []) (rest := []) (b := w) ⟨hx, hb, hml, hown, hts⟩ (c_X9_factor_d0 hT (w := w) hw hbT hdT hps) (cwV 0 hts gX9_term_X9_factor rfl rfl rfl hdX9_factor_v ⟨Nat.le_of_ble_eq_true rfl, Nat.le_of_ble_eq_true rfl⟩) hN hE hL (rcv10 hN hT hw.1) rfl rfl hl.1 (Nat.le_of_ble_eq_true rfl) dX9_term_55 (Nat.zero_le _) (Nat.zero_le _) (fun H1 locs hL hqr4217 => ?_)
          obtain ⟨hT1, hF1, hqr4217⟩ := hqr4217
          have hF := hF.tr (hF1.mono (by simp))
          have hT := hT1
          obtain ⟨N4218, p4219, er4220, a4221, b4222, z4223, m4224, f4225, d4226, e4227, n4228, v4229⟩ := hqr4217
          have hm := m4224
          have hm8 := hm.2.2.2.2.2.2.2
          have hbd : B0 ≤ dr := (hT.o26 hdT.1).1
          have hDR := hT.dr hdT d4226
          have hP : va_P D vwCl [(dr, .inl (cs 0, 1383, .inl f4225))] _ := va_P.cons d4226 va_P.nil
          refine lv_aload_n hx hb dX9_term_58 rfl (lv_at hl 1 rfl) ?_
          refine lv_iload_n hx hb dX9_term_59 rfl (lv_at hl 0 rfl) ?_
          refine lv_if_eq (tgt := 67) hx hb dX9_term_60 (by decide) (fun c9 => absurd c9 (by decide)) (fun _ => ?_)
          refine lv_iconst (v := 4) hx hb dX9_term_63 (by decide) ?_
          refine lv_goto (tgt := 68) hx hb dX9_term_64 (by decide) ?_
          refine cv_v (As := [.int 4]) (rest := []) (b := w) ⟨hx, hb, hml, hown, hts⟩ (c_X9_emit hT (w := w) hw (x := 4) hbT hdT hm (hP 0 _ rfl) e4227 (fun _ => by omega)) (cwV 1 hts gX9_term_X9_emit rfl rfl rfl hdX9_emit_v ⟨Nat.le_of_ble_eq_true rfl, Nat.le_of_ble_eq_true rfl⟩) hN hE hL (rcv10 hN hT hw.1) rfl rfl hl.1 (Nat.le_of_ble_eq_true rfl) dX9_term_68 (Nat.zero_le _) (Nat.zero_le _) (fun H1 locs hL hqr4231 => ?_)
          obtain ⟨hT1, hF1, hqr4231⟩ := hqr4231
          have hF := hF.tr (hF1.mono (by simp))
          have hT := hT1
          obtain ⟨f4232, N4233, d4234, e4235, x4236, m4237⟩ := hqr4231
          have hm := m4237
          have hm8 := hm.2.2.2.2.2.2.2
          have nx4236 := x4236.n
          have ox4236 := nx4236.1
          have hbd : B0 ≤ dr := (hT.o26 hdT.1).1
          have hDR := hT.dr hdT d4234
          have hP : va_P D vwCl [(dr, .inl (cs 0, 1383, .inl f4232))] _ := va_P.cons d4234 va_P.nil
          refine lv_goto (tgt := 4) hx hb dX9_term_71 (by decide) ?_
          have hps : PS D cs w _ (p4219) (tl) (er4220) (0) dr bu g (N4233) ((h + 1)) := ⟨hm, f4232, hP 0 _ rfl, e4235, by omega, (EM.op x4236 (by decide) v4229)⟩
          exact ih4113 (p4219, N4233, er4220) _ _ _ (by show 600 - (p4219) < 600 - p; omega) ⟨hps, (by show (N4233) + 2 * pos ≤ N + 2 * (p4219); omega), (by show pos ≤ (p4219); omega), (fun e9 => hz1 (z4223 e9)), hT, hF, hL⟩ (lv_sub hl [1] rfl)
  · refine lv_if_eq (tgt := 74) hx hb dX9_term_8 (by decide) (fun _ => ?_) (fun c9 => absurd (by decide) c9)
    have hps : PS D cs w _ (p) (tl) (er1) (0) dr bu g (N1) ((h + 1)) := ⟨hm, f4114, hP 0 _ rfl, e4114, by omega, v4114⟩
    exact en_v hx hb hr hlocks hL (Nat.zero_le _) (Nat.zero_le _) dX9_term_74 (⟨hT, hF, N1, p, er1, (by omega), (by omega), hz1, hps⟩)
set_option maxHeartbeats 4000000 in
set_option maxRecDepth 100000 in
theorem c_X9_readSum_d0 {l : Launch} {D : va_G} {cs : Nat → ClassId} {B0 T : Nat} {κ : KM} {H0 : Heap} (hT : WT B0 D cs T κ H0) {w : Nat} (hw : T2 κ w 10 12) {pos tl : Nat} {er : Int32} {dr bu : Nat} {g : Nat → Int32} {N h : Nat} (hbT : T2 κ bu 23 14) (hdT : T2 κ dr 26 17) (hps : PS D cs w H0 pos tl er 0 dr bu g N h) : KC l yX9_readSum wsX9_readSum 19 411 0 0 D cs B0 H0 [.ref w] (Qv (fun H => WT B0 D cs T κ H ∧ Fr B0 [12, 17] κ H0 H ∧ ∃ N1 pos1 er1, N1 + 2 * pos ≤ N + 2 * pos1 ∧ pos ≤ pos1 ∧ (er1 = 0 → er = 0) ∧ PS D cs w H pos1 tl er1 0 dr bu g N1 (h + 1))) := by
  refine KC.of cX9_readSum 2 none (by decide) rfl (Nat.le_of_ble_eq_true rfl) ?_
  intro p e s m below meth c ls hx hb hr hml hown hts hlocks hin hN hE hH0 hl
  have hown : s.vm.findClass RX9 = some m.cls := hown
  have hl : lv_has ls 2 [(0, .ref w)] := hl
  have hL : OkL B0 [] := OkL.nil
  have hF : Fr B0 [12, 17] κ H0 H0 := Fr.rf
  obtain ⟨hm, f4239, hd4239, e4239, n4239, v4239⟩ := hps
  have hm8 := hm.2.2.2.2.2.2.2
  have hbd : B0 ≤ dr := (hT.o26 hdT.1).1
  have hDR := hT.dr hdT hd4239
  have hP : va_P D vwCl [(dr, .inl (cs 0, 1383, .inl f4239))] _ := va_P.cons hd4239 va_P.nil
  refine lv_aload_n hx hb dX9_readSum_0 rfl (lv_at hl 0 rfl) ?_
  have hps : PS D cs w _ (pos) (tl) (er) (0) dr bu g (N) (h) := ⟨hm, f4239, hP 0 _ rfl, e4239, by omega, v4239⟩
  refine cv_v (As := []) (rest := []) (b := w) ⟨hx, hb, hml, hown, hts⟩ (c_X9_term_d0 hT (w := w) hw hbT hdT hps) (cwV 0 hts gX9_readSum_X9_term rfl rfl rfl hdX9_term_v ⟨Nat.le_of_ble_eq_true rfl, Nat.le_of_ble_eq_true rfl⟩) hN hE hL (rcv10 hN hT hw.1) rfl rfl hl.1 (Nat.le_of_ble_eq_true rfl) dX9_readSum_1 (Nat.zero_le _) (Nat.zero_le _) (fun H1 locs hL hqr4241 => ?_)
  obtain ⟨hT1, hF1, hqr4241⟩ := hqr4241
  have hF := hF.tr (hF1.mono (by simp))
  have hT := hT1
  obtain ⟨N4242, p4243, er4244, a4245, b4246, z4247, m4248, f4249, d4250, e4251, n4252, v4253⟩ := hqr4241
  have hm := m4248
  have hm8 := hm.2.2.2.2.2.2.2
  have hbd : B0 ≤ dr := (hT.o26 hdT.1).1
  have hDR := hT.dr hdT d4250
  have hP : va_P D vwCl [(dr, .inl (cs 0, 1383, .inl f4249))] _ := va_P.cons d4250 va_P.nil
  have hps : PS D cs w _ (p4243) (tl) (er4244) (0) dr bu g (N4242) ((h + 1)) := ⟨hm, f4249, hP 0 _ rfl, e4251, by omega, v4253⟩
  refine lp_m (α := Nat × Nat × Int32) (nL := 2) (fun a9 => 600 - a9.1) (fun a9 H9 l9 => (PS D cs w H9 a9.1 tl a9.2.2 0 dr bu g a9.2.1 (h + 1)) ∧ (a9.2.1 + 2 * pos ≤ N + 2 * a9.1) ∧ (pos ≤ a9.1) ∧ (a9.2.2 = 0 → er = 0) ∧ (WT B0 D cs T κ H9) ∧ (Fr B0 [12, 17] κ H0 H9) ∧ (OkL B0 l9)) (fun a9 => [(0, .ref w)]) ?_ (p4243, N4242, er4244) _ _ _ ⟨hps, (by show (N4242) + 2 * pos ≤ N + 2 * (p4243); omega), (by show pos ≤ (p4243); omega), (fun e9 => id (z4247 e9)), hT, hF, hL⟩ (lv_sub hl [0] rfl)
  rintro ⟨p, N1, er1⟩ H locs ls ih4255 ⟨hps, hb1, hb2, hz1, hT, hF, hL⟩ hl
  have hl : lv_has ls 2 [(0, .ref w)] := hl
  have hps : PS D cs w H p tl er1 0 dr bu g N1 (h + 1) := hps
  have hb1 : N1 + 2 * pos ≤ N + 2 * p := hb1
  have hb2 : pos ≤ p := hb2
  have hz1 : er1 = 0 → er = 0 := hz1
  obtain ⟨hm, f4256, hd4256, e4256, n4256, v4256⟩ := hps
  have hm8 := hm.2.2.2.2.2.2.2
  have hbd : B0 ≤ dr := (hT.o26 hdT.1).1
  have hDR := hT.dr hdT hd4256
  have hP : va_P D vwCl [(dr, .inl (cs 0, 1383, .inl f4256))] _ := va_P.cons hd4256 va_P.nil
  refine lv_aload_n hx hb dX9_readSum_4 rfl (lv_at hl 0 rfl) ?_
  refine cv_i (As := []) (rest := []) (b := w) ⟨hx, hb, hml, hown, hts⟩ (c_X9_isGood hT (w := w) hw hbT hdT hm) (cwV 0 hts gX9_readSum_X9_isGood rfl rfl rfl hdX9_isGood_v ⟨Nat.le_of_ble_eq_true rfl, Nat.le_of_ble_eq_true rfl⟩) hN hE hL (rcv10 hN hT hw.1) rfl rfl hl.1 (Nat.le_of_ble_eq_true rfl) dX9_readSum_5 (Nat.zero_le _) (Nat.zero_le _) (fun r4258 H1 locs hL hqr4258 => ?_)
  obtain ⟨h9, hqr4258⟩ := hqr4258; replace h9 := h9.symm; subst h9
  rcases hqr4258 with ⟨rfl, e4259⟩ | ⟨rfl, e4260⟩
  · refine lv_if_eq (tgt := 74) hx hb dX9_readSum_8 (by decide) (fun c9 => absurd c9 (by decide)) (fun _ => ?_)
    refine lv_aload_n hx hb dX9_readSum_11 rfl (lv_at hl 0 rfl) ?_
    refine cv_i (As := []) (rest := []) (b := w) ⟨hx, hb, hml, hown, hts⟩ (c_X9_ahead hT (w := w) hw hbT hdT hm) (cwV 0 hts gX9_readSum_X9_ahead rfl rfl rfl hdX9_ahead_v ⟨Nat.le_of_ble_eq_true rfl, Nat.le_of_ble_eq_true rfl⟩) hN hE hL (rcv10 hN hT hw.1) rfl rfl hl.1 (Nat.le_of_ble_eq_true rfl) dX9_readSum_12 (Nat.zero_le _) (Nat.zero_le _) (fun r4261 H1 locs hL hqr4261 => ?_)
    obtain ⟨hT1, hF1, hqr4261⟩ := hqr4261
    have hP : va_P D vwCl [(dr, .inl (cs 0, 1383, .inl f4256))] _ := hF1.hP (hP.sub [0] rfl) (fa_c ⟨by rw [hdT.1]; decide, by rw [hdT.2]; first | decide | (simp; done) | (simp; omega)⟩ fa_n)
    have hF := hF.tr (hF1.mono (by simp))
    have hT := hT1
    obtain ⟨p4262, h4263, m4264, n4265, s4266, rfl⟩ := hqr4261
    have hm := m4264
    have hm8 := hm.2.2.2.2.2.2.2
    refine lv_bipush (v := 43) hx hb dX9_readSum_15 (by decide) ?_
    refine lv_icmp_eq (tgt := 29) hx hb dX9_readSum_17 (by decide) (fun c4267 => ?_) (fun c4267 => ?_)
    · have hl9 := byF_c (c4267) (by decide)
      refine lv_aload_n hx hb dX9_readSum_29 rfl (lv_at hl 0 rfl) ?_
      refine cv_i (As := []) (rest := []) (b := w) ⟨hx, hb, hml, hown, hts⟩ (c_X9_ahead hT (w := w) hw hbT hdT hm) (cwV 0 hts gX9_readSum_X9_ahead rfl rfl rfl hdX9_ahead_v ⟨Nat.le_of_ble_eq_true rfl, Nat.le_of_ble_eq_true rfl⟩) hN hE hL (rcv10 hN hT hw.1) rfl rfl hl.1 (Nat.le_of_ble_eq_true rfl) dX9_readSum_30 (Nat.zero_le _) (Nat.zero_le _) (fun r4268 H1 locs hL hqr4268 => ?_)
      obtain ⟨hT1, hF1, hqr4268⟩ := hqr4268
      have hP : va_P D vwCl [(dr, .inl (cs 0, 1383, .inl f4256))] _ := hF1.hP (hP.sub [0] rfl) (fa_c ⟨by rw [hdT.1]; decide, by rw [hdT.2]; first | decide | (simp; done) | (simp; omega)⟩ fa_n)
      have hF := hF.tr (hF1.mono (by simp))
      have hT := hT1
      obtain ⟨p4269, h4270, m4271, n4272, s4273, rfl⟩ := hqr4268
      have hm := m4271
      have hpe := s4273 n4265
      rw [hpe] at hm
      refine tp_i (byF g tl p4262) (by rw [hpe]) ?_
      have hm8 := hm.2.2.2.2.2.2.2
      refine lv_bipush (v := 43) hx hb dX9_readSum_33 (by decide) ?_
      refine lv_icmp_ne (tgt := 42) hx hb dX9_readSum_35 (by decide) (fun c4274 => ?_) (fun c4274 => ?_)
      · refine lv_iconst (v := 0) hx hb dX9_readSum_42 (by decide) ?_
        refine lv_istore_n (lv' := [(1, .int 0), (0, .ref w)]) hx hb dX9_readSum_43 rfl hl (by decide) rfl (fun ls hl => ?_)
        refine lv_aload_n hx hb dX9_readSum_44 rfl (lv_at hl 1 rfl) ?_
        refine lv_dup hx hb dX9_readSum_45 rfl ?_
        obtain ⟨hb4275, e4275, hat4275, hk4275⟩ := hT.o10 hw.1
        obtain ⟨f4275_0, f4275_1, f4275_3, f4275_4, f4275_5, f4275_6, f4275_7, f4275_9, f4275_10, f4275_11, f4275_12, f4275_13, f4275_14, f4275_15, f4275_16, f4275_17, rfl, c4275_2, c4275_3, c4275_4, c4275_12, t4275_1, t4275_8, t4275_9, c4275_sd, t4275_10, t4275_11, t4275_17⟩ := hk4275
        obtain ⟨rfl, rfl, rfl, rfl, rfl, rfl⟩ := hm.at hat4275 c4275_3 (by omega)
        have hm8 := hm.2.2.2.2.2.2.2
        have hP : va_P D vwCl [(w, .inr (9, [.int f4275_0, .ref bu, .int (nI ((κ w).2.2.1)), .int (nI tl), .int (nI p4262), .int er1, .int f4275_6, .int f4275_7, .ref (κ w).2.2.2, .ref f4275_9, .ref dr, .ref f4275_11, .int (nI f4275_12), .int f4275_13, .int 0, .int f4275_15, .int f4275_16, .ref f4275_17])), (dr, .inl (cs 0, 1383, .inl f4256))] _ := va_P.cons hat4275 hP
        refine va_get (D := D) (ci := 9) (v := .int (nI p4262)) (C := RX9) (T := TX9) (N := 18) hx hb hts iX9_readSum_9 hown hN.1 hP 0 rfl rfl 4 (by decide) (hts _ mX9_readSum_1) (fun _ h9 => h9) rfl dX9_readSum_46 ?_
        refine lv_iconst (v := 1) hx hb dX9_readSum_49 (by decide) ?_
        refine lv_iadd hx hb dX9_readSum_50 ?_
        refine tp_i (nI (p4262 + 1)) (nI_add p4262 1) ?_
        have hB : Bx B0 D _ [(w, .inr (9, [.int f4275_0, .ref bu, .int (nI ((κ w).2.2.1)), .int (nI tl), .int (nI p4262), .int er1, .int f4275_6, .int f4275_7, .ref (κ w).2.2.2, .ref f4275_9, .ref dr, .ref f4275_11, .int (nI f4275_12), .int f4275_13, .int 0, .int f4275_15, .int f4275_16, .ref f4275_17])), (dr, .inl (cs 0, 1383, .inl f4256))] [] _ _ := Bx.of (fun a => (κ a).1) hL hP (fa_c hb4275 (fa_c hbd fa_n)) (by simp only [List.map_cons, List.map_nil, hw.1, hdT.1]; decide)
        refine b_put (D := D) (ci := 9) (v := .int (nI (p4262 + 1))) (ty := .int) (C := RX9) (T := TX9) (N := 18) hx hb hts iX9_readSum_9 tyX9 tyX9_ok nmX9 hown hN hB 0 rfl rfl 4 (by decide) (hts _ mX9_readSum_1) (fun _ h9 => h9) rfl (by decide +kernel) rfl rfl (Nat.le_of_ble_eq_true rfl) (.inl rfl) dX9_readSum_51 (fun H locs hB => ?_)
        have hB : Bx B0 D _ [(w, .inr (9, [.int f4275_0, .ref bu, .int (nI ((κ w).2.2.1)), .int (nI tl), .int (nI (p4262 + 1)), .int er1, .int f4275_6, .int f4275_7, .ref (κ w).2.2.2, .ref f4275_9, .ref dr, .ref f4275_11, .int (nI f4275_12), .int f4275_13, .int 0, .int f4275_15, .int f4275_16, .ref f4275_17])), (dr, .inl (cs 0, 1383, .inl f4256))] [w] _ _ := hB
        refine lv_aload_n hx hb dX9_readSum_54 rfl (lv_at hl 1 rfl) ?_
        have hT : WT B0 D cs T κ _ := hT.close hB ⟨⟨0, _, rfl, ok_10 hw.1 ⟨_, _, _, _, _, _, _, _, _, _, _, _, _, _, _, _, rfl, (by omega), (by omega), (by omega), (by omega), hbT, t4275_8, t4275_9, c4275_sd, hdT, t4275_11, t4275_17⟩⟩, trivial⟩
        have hF : Fr B0 [12, 17] κ H0 _ := hF.close hB (fa_c (by simp [hw.2]) fa_n)
        have hL : OkL B0 _ := hB.2.2.2.2.2
        have hP : va_P D vwCl [(w, .inr (9, [.int f4275_0, .ref bu, .int (nI ((κ w).2.2.1)), .int (nI tl), .int (nI (p4262 + 1)), .int er1, .int f4275_6, .int f4275_7, .ref (κ w).2.2.2, .ref f4275_9, .ref dr, .ref f4275_11, .int (nI f4275_12), .int f4275_13, .int 0, .int f4275_15, .int f4275_16, .ref f4275_17])), (dr, .inl (cs 0, 1383, .inl f4256))] _ := hB.1
        have hbu9 := (hm.2.2.2.2.2.2.1).kept (hB.2.2.2.1 _ hm.2.2.2.2.2.2.1.lt (by simp only [List.mem_cons, List.not_mem_nil, or_false, not_or]; exact ne_c hbT.1 hw.1 (by decide)))
        have hm : MF D cs w _ ((p4262 + 1)) (tl) (er1) (0) dr bu g := ⟨⟨_, hP 0 _ rfl, rfl⟩, ⟨_, hP 0 _ rfl, rfl⟩, ⟨_, hP 0 _ rfl, rfl⟩, ⟨_, hP 0 _ rfl, rfl⟩, ⟨_, hP 0 _ rfl, rfl⟩, ⟨_, hP 0 _ rfl, rfl⟩, hbu9, (by omega), (by omega)⟩
        have hps : PS D cs w _ ((p4262 + 1)) (tl) (er1) (0) dr bu g (N1) ((h + 1)) := ⟨hm, f4256, hP 1 _ rfl, e4256, by omega, v4256⟩
        refine cv_v (As := []) (rest := []) (b := w) ⟨hx, hb, hml, hown, hts⟩ (c_X9_term_d0 hT (w := w) hw hbT hdT hps) (cwV 0 hts gX9_readSum_X9_term rfl rfl rfl hdX9_term_v ⟨Nat.le_of_ble_eq_true rfl, Nat.le_of_ble_eq_true rfl⟩) hN hE hL (rcv10 hN hT hw.1) rfl rfl hl.1 (Nat.le_of_ble_eq_true rfl) dX9_readSum_55 (Nat.zero_le _) (Nat.zero_le _) (fun H1 locs hL hqr4276 => ?_)
        obtain ⟨hT1, hF1, hqr4276⟩ := hqr4276
        have hF := hF.tr (hF1.mono (by simp))
        have hT := hT1
        obtain ⟨N4277, p4278, er4279, a4280, b4281, z4282, m4283, f4284, d4285, e4286, n4287, v4288⟩ := hqr4276
        have hm := m4283
        have hm8 := hm.2.2.2.2.2.2.2
        have hbd : B0 ≤ dr := (hT.o26 hdT.1).1
        have hDR := hT.dr hdT d4285
        have hP : va_P D vwCl [(dr, .inl (cs 0, 1383, .inl f4284))] _ := va_P.cons d4285 va_P.nil
        refine lv_aload_n hx hb dX9_readSum_58 rfl (lv_at hl 1 rfl) ?_
        refine lv_iload_n hx hb dX9_readSum_59 rfl (lv_at hl 0 rfl) ?_
        refine lv_if_eq (tgt := 67) hx hb dX9_readSum_60 (by decide) (fun _ => ?_) (fun c9 => absurd (by decide) c9)
        refine lv_iconst (v := 3) hx hb dX9_readSum_67 (by decide) ?_
        refine cv_v (As := [.int 3]) (rest := []) (b := w) ⟨hx, hb, hml, hown, hts⟩ (c_X9_emit hT (w := w) hw (x := 3) hbT hdT hm (hP 0 _ rfl) e4286 (fun _ => by omega)) (cwV 1 hts gX9_readSum_X9_emit rfl rfl rfl hdX9_emit_v ⟨Nat.le_of_ble_eq_true rfl, Nat.le_of_ble_eq_true rfl⟩) hN hE hL (rcv10 hN hT hw.1) rfl rfl hl.1 (Nat.le_of_ble_eq_true rfl) dX9_readSum_68 (Nat.zero_le _) (Nat.zero_le _) (fun H1 locs hL hqr4290 => ?_)
        obtain ⟨hT1, hF1, hqr4290⟩ := hqr4290
        have hF := hF.tr (hF1.mono (by simp))
        have hT := hT1
        obtain ⟨f4291, N4292, d4293, e4294, x4295, m4296⟩ := hqr4290
        have hm := m4296
        have hm8 := hm.2.2.2.2.2.2.2
        have nx4295 := x4295.n
        have ox4295 := nx4295.1
        have hbd : B0 ≤ dr := (hT.o26 hdT.1).1
        have hDR := hT.dr hdT d4293
        have hP : va_P D vwCl [(dr, .inl (cs 0, 1383, .inl f4291))] _ := va_P.cons d4293 va_P.nil
        refine lv_goto (tgt := 4) hx hb dX9_readSum_71 (by decide) ?_
        have hps : PS D cs w _ (p4278) (tl) (er4279) (0) dr bu g (N4292) ((h + 1)) := ⟨hm, f4291, hP 0 _ rfl, e4294, by omega, (EM.op x4295 (by decide) v4288)⟩
        exact ih4255 (p4278, N4292, er4279) _ _ _ (by show 600 - (p4278) < 600 - p; omega) ⟨hps, (by show (N4292) + 2 * pos ≤ N + 2 * (p4278); omega), (by show pos ≤ (p4278); omega), (fun e9 => hz1 (z4282 e9)), hT, hF, hL⟩ (lv_sub hl [1] rfl)
      · refine lv_iconst (v := 1) hx hb dX9_readSum_38 (by decide) ?_
        refine lv_goto (tgt := 43) hx hb dX9_readSum_39 (by decide) ?_
        refine lv_istore_n (lv' := [(1, .int 1), (0, .ref w)]) hx hb dX9_readSum_43 rfl hl (by decide) rfl (fun ls hl => ?_)
        refine lv_aload_n hx hb dX9_readSum_44 rfl (lv_at hl 1 rfl) ?_
        refine lv_dup hx hb dX9_readSum_45 rfl ?_
        obtain ⟨hb4298, e4298, hat4298, hk4298⟩ := hT.o10 hw.1
        obtain ⟨f4298_0, f4298_1, f4298_3, f4298_4, f4298_5, f4298_6, f4298_7, f4298_9, f4298_10, f4298_11, f4298_12, f4298_13, f4298_14, f4298_15, f4298_16, f4298_17, rfl, c4298_2, c4298_3, c4298_4, c4298_12, t4298_1, t4298_8, t4298_9, c4298_sd, t4298_10, t4298_11, t4298_17⟩ := hk4298
        obtain ⟨rfl, rfl, rfl, rfl, rfl, rfl⟩ := hm.at hat4298 c4298_3 (by omega)
        have hm8 := hm.2.2.2.2.2.2.2
        have hP : va_P D vwCl [(w, .inr (9, [.int f4298_0, .ref bu, .int (nI ((κ w).2.2.1)), .int (nI tl), .int (nI p4262), .int er1, .int f4298_6, .int f4298_7, .ref (κ w).2.2.2, .ref f4298_9, .ref dr, .ref f4298_11, .int (nI f4298_12), .int f4298_13, .int 0, .int f4298_15, .int f4298_16, .ref f4298_17])), (dr, .inl (cs 0, 1383, .inl f4256))] _ := va_P.cons hat4298 hP
        refine va_get (D := D) (ci := 9) (v := .int (nI p4262)) (C := RX9) (T := TX9) (N := 18) hx hb hts iX9_readSum_9 hown hN.1 hP 0 rfl rfl 4 (by decide) (hts _ mX9_readSum_1) (fun _ h9 => h9) rfl dX9_readSum_46 ?_
        refine lv_iconst (v := 1) hx hb dX9_readSum_49 (by decide) ?_
        refine lv_iadd hx hb dX9_readSum_50 ?_
        refine tp_i (nI (p4262 + 1)) (nI_add p4262 1) ?_
        have hB : Bx B0 D _ [(w, .inr (9, [.int f4298_0, .ref bu, .int (nI ((κ w).2.2.1)), .int (nI tl), .int (nI p4262), .int er1, .int f4298_6, .int f4298_7, .ref (κ w).2.2.2, .ref f4298_9, .ref dr, .ref f4298_11, .int (nI f4298_12), .int f4298_13, .int 0, .int f4298_15, .int f4298_16, .ref f4298_17])), (dr, .inl (cs 0, 1383, .inl f4256))] [] _ _ := Bx.of (fun a => (κ a).1) hL hP (fa_c hb4298 (fa_c hbd fa_n)) (by simp only [List.map_cons, List.map_nil, hw.1, hdT.1]; decide)
        refine b_put (D := D) (ci := 9) (v := .int (nI (p4262 + 1))) (ty := .int) (C := RX9) (T := TX9) (N := 18) hx hb hts iX9_readSum_9 tyX9 tyX9_ok nmX9 hown hN hB 0 rfl rfl 4 (by decide) (hts _ mX9_readSum_1) (fun _ h9 => h9) rfl (by decide +kernel) rfl rfl (Nat.le_of_ble_eq_true rfl) (.inl rfl) dX9_readSum_51 (fun H locs hB => ?_)
        have hB : Bx B0 D _ [(w, .inr (9, [.int f4298_0, .ref bu, .int (nI ((κ w).2.2.1)), .int (nI tl), .int (nI (p4262 + 1)), .int er1, .int f4298_6, .int f4298_7, .ref (κ w).2.2.2, .ref f4298_9, .ref dr, .ref f4298_11, .int (nI f4298_12), .int f4298_13, .int 0, .int f4298_15, .int f4298_16, .ref f4298_17])), (dr, .inl (cs 0, 1383, .inl f4256))] [w] _ _ := hB
        refine lv_aload_n hx hb dX9_readSum_54 rfl (lv_at hl 1 rfl) ?_
        have hT : WT B0 D cs T κ _ := hT.close hB ⟨⟨0, _, rfl, ok_10 hw.1 ⟨_, _, _, _, _, _, _, _, _, _, _, _, _, _, _, _, rfl, (by omega), (by omega), (by omega), (by omega), hbT, t4298_8, t4298_9, c4298_sd, hdT, t4298_11, t4298_17⟩⟩, trivial⟩
        have hF : Fr B0 [12, 17] κ H0 _ := hF.close hB (fa_c (by simp [hw.2]) fa_n)
        have hL : OkL B0 _ := hB.2.2.2.2.2
        have hP : va_P D vwCl [(w, .inr (9, [.int f4298_0, .ref bu, .int (nI ((κ w).2.2.1)), .int (nI tl), .int (nI (p4262 + 1)), .int er1, .int f4298_6, .int f4298_7, .ref (κ w).2.2.2, .ref f4298_9, .ref dr, .ref f4298_11, .int (nI f4298_12), .int f4298_13, .int 0, .int f4298_15, .int f4298_16, .ref f4298_17])), (dr, .inl (cs 0, 1383, .inl f4256))] _ := hB.1
        have hbu9 := (hm.2.2.2.2.2.2.1).kept (hB.2.2.2.1 _ hm.2.2.2.2.2.2.1.lt (by simp only [List.mem_cons, List.not_mem_nil, or_false, not_or]; exact ne_c hbT.1 hw.1 (by decide)))
        have hm : MF D cs w _ ((p4262 + 1)) (tl) (er1) (0) dr bu g := ⟨⟨_, hP 0 _ rfl, rfl⟩, ⟨_, hP 0 _ rfl, rfl⟩, ⟨_, hP 0 _ rfl, rfl⟩, ⟨_, hP 0 _ rfl, rfl⟩, ⟨_, hP 0 _ rfl, rfl⟩, ⟨_, hP 0 _ rfl, rfl⟩, hbu9, (by omega), (by omega)⟩
        have hps : PS D cs w _ ((p4262 + 1)) (tl) (er1) (0) dr bu g (N1) ((h + 1)) := ⟨hm, f4256, hP 1 _ rfl, e4256, by omega, v4256⟩
        refine cv_v (As := []) (rest := []) (b := w) ⟨hx, hb, hml, hown, hts⟩ (c_X9_term_d0 hT (w := w) hw hbT hdT hps) (cwV 0 hts gX9_readSum_X9_term rfl rfl rfl hdX9_term_v ⟨Nat.le_of_ble_eq_true rfl, Nat.le_of_ble_eq_true rfl⟩) hN hE hL (rcv10 hN hT hw.1) rfl rfl hl.1 (Nat.le_of_ble_eq_true rfl) dX9_readSum_55 (Nat.zero_le _) (Nat.zero_le _) (fun H1 locs hL hqr4299 => ?_)
        obtain ⟨hT1, hF1, hqr4299⟩ := hqr4299
        have hF := hF.tr (hF1.mono (by simp))
        have hT := hT1
        obtain ⟨N4300, p4301, er4302, a4303, b4304, z4305, m4306, f4307, d4308, e4309, n4310, v4311⟩ := hqr4299
        have hm := m4306
        have hm8 := hm.2.2.2.2.2.2.2
        have hbd : B0 ≤ dr := (hT.o26 hdT.1).1
        have hDR := hT.dr hdT d4308
        have hP : va_P D vwCl [(dr, .inl (cs 0, 1383, .inl f4307))] _ := va_P.cons d4308 va_P.nil
        refine lv_aload_n hx hb dX9_readSum_58 rfl (lv_at hl 1 rfl) ?_
        refine lv_iload_n hx hb dX9_readSum_59 rfl (lv_at hl 0 rfl) ?_
        refine lv_if_eq (tgt := 67) hx hb dX9_readSum_60 (by decide) (fun c9 => absurd c9 (by decide)) (fun _ => ?_)
        refine lv_iconst (v := 2) hx hb dX9_readSum_63 (by decide) ?_
        refine lv_goto (tgt := 68) hx hb dX9_readSum_64 (by decide) ?_
        refine cv_v (As := [.int 2]) (rest := []) (b := w) ⟨hx, hb, hml, hown, hts⟩ (c_X9_emit hT (w := w) hw (x := 2) hbT hdT hm (hP 0 _ rfl) e4309 (fun _ => by omega)) (cwV 1 hts gX9_readSum_X9_emit rfl rfl rfl hdX9_emit_v ⟨Nat.le_of_ble_eq_true rfl, Nat.le_of_ble_eq_true rfl⟩) hN hE hL (rcv10 hN hT hw.1) rfl rfl hl.1 (Nat.le_of_ble_eq_true rfl) dX9_readSum_68 (Nat.zero_le _) (Nat.zero_le _) (fun H1 locs hL hqr4313 => ?_)
        obtain ⟨hT1, hF1, hqr4313⟩ := hqr4313
        have hF := hF.tr (hF1.mono (by simp))
        have hT := hT1
        obtain ⟨f4314, N4315, d4316, e4317, x4318, m4319⟩ := hqr4313
        have hm := m4319
        have hm8 := hm.2.2.2.2.2.2.2
        have nx4318 := x4318.n
        have ox4318 := nx4318.1
        have hbd : B0 ≤ dr := (hT.o26 hdT.1).1
        have hDR := hT.dr hdT d4316
        have hP : va_P D vwCl [(dr, .inl (cs 0, 1383, .inl f4314))] _ := va_P.cons d4316 va_P.nil
        refine lv_goto (tgt := 4) hx hb dX9_readSum_71 (by decide) ?_
        have hps : PS D cs w _ (p4301) (tl) (er4302) (0) dr bu g (N4315) ((h + 1)) := ⟨hm, f4314, hP 0 _ rfl, e4317, by omega, (EM.op x4318 (by decide) v4311)⟩
        exact ih4255 (p4301, N4315, er4302) _ _ _ (by show 600 - (p4301) < 600 - p; omega) ⟨hps, (by show (N4315) + 2 * pos ≤ N + 2 * (p4301); omega), (by show pos ≤ (p4301); omega), (fun e9 => hz1 (z4305 e9)), hT, hF, hL⟩ (lv_sub hl [1] rfl)
    · refine lv_aload_n hx hb dX9_readSum_20 rfl (lv_at hl 0 rfl) ?_
      refine cv_i (As := []) (rest := []) (b := w) ⟨hx, hb, hml, hown, hts⟩ (c_X9_ahead hT (w := w) hw hbT hdT hm) (cwV 0 hts gX9_readSum_X9_ahead rfl rfl rfl hdX9_ahead_v ⟨Nat.le_of_ble_eq_true rfl, Nat.le_of_ble_eq_true rfl⟩) hN hE hL (rcv10 hN hT hw.1) rfl rfl hl.1 (Nat.le_of_ble_eq_true rfl) dX9_readSum_21 (Nat.zero_le _) (Nat.zero_le _) (fun r4321 H1 locs hL hqr4321 => ?_)
      obtain ⟨hT1, hF1, hqr4321⟩ := hqr4321
      have hP : va_P D vwCl [(dr, .inl (cs 0, 1383, .inl f4256))] _ := hF1.hP (hP.sub [0] rfl) (fa_c ⟨by rw [hdT.1]; decide, by rw [hdT.2]; first | decide | (simp; done) | (simp; omega)⟩ fa_n)
      have hF := hF.tr (hF1.mono (by simp))
      have hT := hT1
      obtain ⟨p4322, h4323, m4324, n4325, s4326, rfl⟩ := hqr4321
      have hm := m4324
      have hpe := s4326 n4265
      rw [hpe] at hm
      refine tp_i (byF g tl p4262) (by rw [hpe]) ?_
      have hm8 := hm.2.2.2.2.2.2.2
      refine lv_bipush (v := 45) hx hb dX9_readSum_24 (by decide) ?_
      refine lv_icmp_ne (tgt := 74) hx hb dX9_readSum_26 (by decide) (fun c4327 => ?_) (fun c4327 => ?_)
      · have hps : PS D cs w _ (p4262) (tl) (er1) (0) dr bu g (N1) ((h + 1)) := ⟨hm, f4256, hP 0 _ rfl, e4256, by omega, v4256⟩
        exact en_v hx hb hr hlocks hL (Nat.zero_le _) (Nat.zero_le _) dX9_readSum_74 (⟨hT, hF, N1, p4262, er1, (by omega), (by omega), hz1, hps⟩)
      · have hl9 := byF_c (c4327) (by decide)
        refine lv_aload_n hx hb dX9_readSum_29 rfl (lv_at hl 0 rfl) ?_
        refine cv_i (As := []) (rest := []) (b := w) ⟨hx, hb, hml, hown, hts⟩ (c_X9_ahead hT (w := w) hw hbT hdT hm) (cwV 0 hts gX9_readSum_X9_ahead rfl rfl rfl hdX9_ahead_v ⟨Nat.le_of_ble_eq_true rfl, Nat.le_of_ble_eq_true rfl⟩) hN hE hL (rcv10 hN hT hw.1) rfl rfl hl.1 (Nat.le_of_ble_eq_true rfl) dX9_readSum_30 (Nat.zero_le _) (Nat.zero_le _) (fun r4328 H1 locs hL hqr4328 => ?_)
        obtain ⟨hT1, hF1, hqr4328⟩ := hqr4328
        have hP : va_P D vwCl [(dr, .inl (cs 0, 1383, .inl f4256))] _ := hF1.hP (hP.sub [0] rfl) (fa_c ⟨by rw [hdT.1]; decide, by rw [hdT.2]; first | decide | (simp; done) | (simp; omega)⟩ fa_n)
        have hF := hF.tr (hF1.mono (by simp))
        have hT := hT1
        obtain ⟨p4329, h4330, m4331, n4332, s4333, rfl⟩ := hqr4328
        have hm := m4331
        have hpe := s4333 n4265
        rw [hpe] at hm
        refine tp_i (byF g tl p4262) (by rw [hpe]) ?_
        have hm8 := hm.2.2.2.2.2.2.2
        refine lv_bipush (v := 43) hx hb dX9_readSum_33 (by decide) ?_
        refine lv_icmp_ne (tgt := 42) hx hb dX9_readSum_35 (by decide) (fun c4334 => ?_) (fun c4334 => ?_)
        · refine lv_iconst (v := 0) hx hb dX9_readSum_42 (by decide) ?_
          refine lv_istore_n (lv' := [(1, .int 0), (0, .ref w)]) hx hb dX9_readSum_43 rfl hl (by decide) rfl (fun ls hl => ?_)
          refine lv_aload_n hx hb dX9_readSum_44 rfl (lv_at hl 1 rfl) ?_
          refine lv_dup hx hb dX9_readSum_45 rfl ?_
          obtain ⟨hb4335, e4335, hat4335, hk4335⟩ := hT.o10 hw.1
          obtain ⟨f4335_0, f4335_1, f4335_3, f4335_4, f4335_5, f4335_6, f4335_7, f4335_9, f4335_10, f4335_11, f4335_12, f4335_13, f4335_14, f4335_15, f4335_16, f4335_17, rfl, c4335_2, c4335_3, c4335_4, c4335_12, t4335_1, t4335_8, t4335_9, c4335_sd, t4335_10, t4335_11, t4335_17⟩ := hk4335
          obtain ⟨rfl, rfl, rfl, rfl, rfl, rfl⟩ := hm.at hat4335 c4335_3 (by omega)
          have hm8 := hm.2.2.2.2.2.2.2
          have hP : va_P D vwCl [(w, .inr (9, [.int f4335_0, .ref bu, .int (nI ((κ w).2.2.1)), .int (nI tl), .int (nI p4262), .int er1, .int f4335_6, .int f4335_7, .ref (κ w).2.2.2, .ref f4335_9, .ref dr, .ref f4335_11, .int (nI f4335_12), .int f4335_13, .int 0, .int f4335_15, .int f4335_16, .ref f4335_17])), (dr, .inl (cs 0, 1383, .inl f4256))] _ := va_P.cons hat4335 hP
          refine va_get (D := D) (ci := 9) (v := .int (nI p4262)) (C := RX9) (T := TX9) (N := 18) hx hb hts iX9_readSum_9 hown hN.1 hP 0 rfl rfl 4 (by decide) (hts _ mX9_readSum_1) (fun _ h9 => h9) rfl dX9_readSum_46 ?_
          refine lv_iconst (v := 1) hx hb dX9_readSum_49 (by decide) ?_
          refine lv_iadd hx hb dX9_readSum_50 ?_
          refine tp_i (nI (p4262 + 1)) (nI_add p4262 1) ?_
          have hB : Bx B0 D _ [(w, .inr (9, [.int f4335_0, .ref bu, .int (nI ((κ w).2.2.1)), .int (nI tl), .int (nI p4262), .int er1, .int f4335_6, .int f4335_7, .ref (κ w).2.2.2, .ref f4335_9, .ref dr, .ref f4335_11, .int (nI f4335_12), .int f4335_13, .int 0, .int f4335_15, .int f4335_16, .ref f4335_17])), (dr, .inl (cs 0, 1383, .inl f4256))] [] _ _ := Bx.of (fun a => (κ a).1) hL hP (fa_c hb4335 (fa_c hbd fa_n)) (by simp only [List.map_cons, List.map_nil, hw.1, hdT.1]; decide)
          refine b_put (D := D) (ci := 9) (v := .int (nI (p4262 + 1))) (ty := .int) (C := RX9) (T := TX9) (N := 18) hx hb hts iX9_readSum_9 tyX9 tyX9_ok nmX9 hown hN hB 0 rfl rfl 4 (by decide) (hts _ mX9_readSum_1) (fun _ h9 => h9) rfl (by decide +kernel) rfl rfl (Nat.le_of_ble_eq_true rfl) (.inl rfl) dX9_readSum_51 (fun H locs hB => ?_)
          have hB : Bx B0 D _ [(w, .inr (9, [.int f4335_0, .ref bu, .int (nI ((κ w).2.2.1)), .int (nI tl), .int (nI (p4262 + 1)), .int er1, .int f4335_6, .int f4335_7, .ref (κ w).2.2.2, .ref f4335_9, .ref dr, .ref f4335_11, .int (nI f4335_12), .int f4335_13, .int 0, .int f4335_15, .int f4335_16, .ref f4335_17])), (dr, .inl (cs 0, 1383, .inl f4256))] [w] _ _ := hB
          refine lv_aload_n hx hb dX9_readSum_54 rfl (lv_at hl 1 rfl) ?_
          have hT : WT B0 D cs T κ _ := hT.close hB ⟨⟨0, _, rfl, ok_10 hw.1 ⟨_, _, _, _, _, _, _, _, _, _, _, _, _, _, _, _, rfl, (by omega), (by omega), (by omega), (by omega), hbT, t4335_8, t4335_9, c4335_sd, hdT, t4335_11, t4335_17⟩⟩, trivial⟩
          have hF : Fr B0 [12, 17] κ H0 _ := hF.close hB (fa_c (by simp [hw.2]) fa_n)
          have hL : OkL B0 _ := hB.2.2.2.2.2
          have hP : va_P D vwCl [(w, .inr (9, [.int f4335_0, .ref bu, .int (nI ((κ w).2.2.1)), .int (nI tl), .int (nI (p4262 + 1)), .int er1, .int f4335_6, .int f4335_7, .ref (κ w).2.2.2, .ref f4335_9, .ref dr, .ref f4335_11, .int (nI f4335_12), .int f4335_13, .int 0, .int f4335_15, .int f4335_16, .ref f4335_17])), (dr, .inl (cs 0, 1383, .inl f4256))] _ := hB.1
          have hbu9 := (hm.2.2.2.2.2.2.1).kept (hB.2.2.2.1 _ hm.2.2.2.2.2.2.1.lt (by simp only [List.mem_cons, List.not_mem_nil, or_false, not_or]; exact ne_c hbT.1 hw.1 (by decide)))
          have hm : MF D cs w _ ((p4262 + 1)) (tl) (er1) (0) dr bu g := ⟨⟨_, hP 0 _ rfl, rfl⟩, ⟨_, hP 0 _ rfl, rfl⟩, ⟨_, hP 0 _ rfl, rfl⟩, ⟨_, hP 0 _ rfl, rfl⟩, ⟨_, hP 0 _ rfl, rfl⟩, ⟨_, hP 0 _ rfl, rfl⟩, hbu9, (by omega), (by omega)⟩
          have hps : PS D cs w _ ((p4262 + 1)) (tl) (er1) (0) dr bu g (N1) ((h + 1)) := ⟨hm, f4256, hP 1 _ rfl, e4256, by omega, v4256⟩
          refine cv_v (As := []) (rest := []) (b := w) ⟨hx, hb, hml, hown, hts⟩ (c_X9_term_d0 hT (w := w) hw hbT hdT hps) (cwV 0 hts gX9_readSum_X9_term rfl rfl rfl hdX9_term_v ⟨Nat.le_of_ble_eq_true rfl, Nat.le_of_ble_eq_true rfl⟩) hN hE hL (rcv10 hN hT hw.1) rfl rfl hl.1 (Nat.le_of_ble_eq_true rfl) dX9_readSum_55 (Nat.zero_le _) (Nat.zero_le _) (fun H1 locs hL hqr4336 => ?_)
          obtain ⟨hT1, hF1, hqr4336⟩ := hqr4336
          have hF := hF.tr (hF1.mono (by simp))
          have hT := hT1
          obtain ⟨N4337, p4338, er4339, a4340, b4341, z4342, m4343, f4344, d4345, e4346, n4347, v4348⟩ := hqr4336
          have hm := m4343
          have hm8 := hm.2.2.2.2.2.2.2
          have hbd : B0 ≤ dr := (hT.o26 hdT.1).1
          have hDR := hT.dr hdT d4345
          have hP : va_P D vwCl [(dr, .inl (cs 0, 1383, .inl f4344))] _ := va_P.cons d4345 va_P.nil
          refine lv_aload_n hx hb dX9_readSum_58 rfl (lv_at hl 1 rfl) ?_
          refine lv_iload_n hx hb dX9_readSum_59 rfl (lv_at hl 0 rfl) ?_
          refine lv_if_eq (tgt := 67) hx hb dX9_readSum_60 (by decide) (fun _ => ?_) (fun c9 => absurd (by decide) c9)
          refine lv_iconst (v := 3) hx hb dX9_readSum_67 (by decide) ?_
          refine cv_v (As := [.int 3]) (rest := []) (b := w) ⟨hx, hb, hml, hown, hts⟩ (c_X9_emit hT (w := w) hw (x := 3) hbT hdT hm (hP 0 _ rfl) e4346 (fun _ => by omega)) (cwV 1 hts gX9_readSum_X9_emit rfl rfl rfl hdX9_emit_v ⟨Nat.le_of_ble_eq_true rfl, Nat.le_of_ble_eq_true rfl⟩) hN hE hL (rcv10 hN hT hw.1) rfl rfl hl.1 (Nat.le_of_ble_eq_true rfl) dX9_readSum_68 (Nat.zero_le _) (Nat.zero_le _) (fun H1 locs hL hqr4350 => ?_)
          obtain ⟨hT1, hF1, hqr4350⟩ := hqr4350
          have hF := hF.tr (hF1.mono (by simp))
          have hT := hT1
          obtain ⟨f4351, N4352, d4353, e4354, x4355, m4356⟩ := hqr4350
          have hm := m4356
          have hm8 := hm.2.2.2.2.2.2.2
          have nx4355 := x4355.n
          have ox4355 := nx4355.1
          have hbd : B0 ≤ dr := (hT.o26 hdT.1).1
          have hDR := hT.dr hdT d4353
          have hP : va_P D vwCl [(dr, .inl (cs 0, 1383, .inl f4351))] _ := va_P.cons d4353 va_P.nil
          refine lv_goto (tgt := 4) hx hb dX9_readSum_71 (by decide) ?_
          have hps : PS D cs w _ (p4338) (tl) (er4339) (0) dr bu g (N4352) ((h + 1)) := ⟨hm, f4351, hP 0 _ rfl, e4354, by omega, (EM.op x4355 (by decide) v4348)⟩
          exact ih4255 (p4338, N4352, er4339) _ _ _ (by show 600 - (p4338) < 600 - p; omega) ⟨hps, (by show (N4352) + 2 * pos ≤ N + 2 * (p4338); omega), (by show pos ≤ (p4338); omega), (fun e9 => hz1 (z4342 e9)), hT, hF, hL⟩ (lv_sub hl [1] rfl)
        · refine lv_iconst (v := 1) hx hb dX9_readSum_38 (by decide) ?_
          refine lv_goto (tgt := 43) hx hb dX9_readSum_39 (by decide) ?_
          refine lv_istore_n (lv' := [(1, .int 1), (0, .ref w)]) hx hb dX9_readSum_43 rfl hl (by decide) rfl (fun ls hl => ?_)
          refine lv_aload_n hx hb dX9_readSum_44 rfl (lv_at hl 1 rfl) ?_
          refine lv_dup hx hb dX9_readSum_45 rfl ?_
          obtain ⟨hb4358, e4358, hat4358, hk4358⟩ := hT.o10 hw.1
          obtain ⟨f4358_0, f4358_1, f4358_3, f4358_4, f4358_5, f4358_6, f4358_7, f4358_9, f4358_10, f4358_11, f4358_12, f4358_13, f4358_14, f4358_15, f4358_16, f4358_17, rfl, c4358_2, c4358_3, c4358_4, c4358_12, t4358_1, t4358_8, t4358_9, c4358_sd, t4358_10, t4358_11, t4358_17⟩ := hk4358
          obtain ⟨rfl, rfl, rfl, rfl, rfl, rfl⟩ := hm.at hat4358 c4358_3 (by omega)
          have hm8 := hm.2.2.2.2.2.2.2
          have hP : va_P D vwCl [(w, .inr (9, [.int f4358_0, .ref bu, .int (nI ((κ w).2.2.1)), .int (nI tl), .int (nI p4262), .int er1, .int f4358_6, .int f4358_7, .ref (κ w).2.2.2, .ref f4358_9, .ref dr, .ref f4358_11, .int (nI f4358_12), .int f4358_13, .int 0, .int f4358_15, .int f4358_16, .ref f4358_17])), (dr, .inl (cs 0, 1383, .inl f4256))] _ := va_P.cons hat4358 hP
          refine va_get (D := D) (ci := 9) (v := .int (nI p4262)) (C := RX9) (T := TX9) (N := 18) hx hb hts iX9_readSum_9 hown hN.1 hP 0 rfl rfl 4 (by decide) (hts _ mX9_readSum_1) (fun _ h9 => h9) rfl dX9_readSum_46 ?_
          refine lv_iconst (v := 1) hx hb dX9_readSum_49 (by decide) ?_
          refine lv_iadd hx hb dX9_readSum_50 ?_
          refine tp_i (nI (p4262 + 1)) (nI_add p4262 1) ?_
          have hB : Bx B0 D _ [(w, .inr (9, [.int f4358_0, .ref bu, .int (nI ((κ w).2.2.1)), .int (nI tl), .int (nI p4262), .int er1, .int f4358_6, .int f4358_7, .ref (κ w).2.2.2, .ref f4358_9, .ref dr, .ref f4358_11, .int (nI f4358_12), .int f4358_13, .int 0, .int f4358_15, .int f4358_16, .ref f4358_17])), (dr, .inl (cs 0, 1383, .inl f4256))] [] _ _ := Bx.of (fun a => (κ a).1) hL hP (fa_c hb4358 (fa_c hbd fa_n)) (by simp only [List.map_cons, List.map_nil, hw.1, hdT.1]; decide)
          refine b_put (D := D) (ci := 9) (v := .int (nI (p4262 + 1))) (ty := .int) (C := RX9) (T := TX9) (N := 18) hx hb hts iX9_readSum_9 tyX9 tyX9_ok nmX9 hown hN hB 0 rfl rfl 4 (by decide) (hts _ mX9_readSum_1) (fun _ h9 => h9) rfl (by decide +kernel) rfl rfl (Nat.le_of_ble_eq_true rfl) (.inl rfl) dX9_readSum_51 (fun H locs hB => ?_)
          have hB : Bx B0 D _ [(w, .inr (9, [.int f4358_0, .ref bu, .int (nI ((κ w).2.2.1)), .int (nI tl), .int (nI (p4262 + 1)), .int er1, .int f4358_6, .int f4358_7, .ref (κ w).2.2.2, .ref f4358_9, .ref dr, .ref f4358_11, .int (nI f4358_12), .int f4358_13, .int 0, .int f4358_15, .int f4358_16, .ref f4358_17])), (dr, .inl (cs 0, 1383, .inl f4256))] [w] _ _ := hB
          refine lv_aload_n hx hb dX9_readSum_54 rfl (lv_at hl 1 rfl) ?_
          have hT : WT B0 D cs T κ _ := hT.close hB ⟨⟨0, _, rfl, ok_10 hw.1 ⟨_, _, _, _, _, _, _, _, _, _, _, _, _, _, _, _, rfl, (by omega), (by omega), (by omega), (by omega), hbT, t4358_8, t4358_9, c4358_sd, hdT, t4358_11, t4358_17⟩⟩, trivial⟩
          have hF : Fr B0 [12, 17] κ H0 _ := hF.close hB (fa_c (by simp [hw.2]) fa_n)
          have hL : OkL B0 _ := hB.2.2.2.2.2
          have hP : va_P D vwCl [(w, .inr (9, [.int f4358_0, .ref bu, .int (nI ((κ w).2.2.1)), .int (nI tl), .int (nI (p4262 + 1)), .int er1, .int f4358_6, .int f4358_7, .ref (κ w).2.2.2, .ref f4358_9, .ref dr, .ref f4358_11, .int (nI f4358_12), .int f4358_13, .int 0, .int f4358_15, .int f4358_16, .ref f4358_17])), (dr, .inl (cs 0, 1383, .inl f4256))] _ := hB.1
          have hbu9 := (hm.2.2.2.2.2.2.1).kept (hB.2.2.2.1 _ hm.2.2.2.2.2.2.1.lt (by simp only [List.mem_cons, List.not_mem_nil, or_false, not_or]; exact ne_c hbT.1 hw.1 (by decide)))
          have hm : MF D cs w _ ((p4262 + 1)) (tl) (er1) (0) dr bu g := ⟨⟨_, hP 0 _ rfl, rfl⟩, ⟨_, hP 0 _ rfl, rfl⟩, ⟨_, hP 0 _ rfl, rfl⟩, ⟨_, hP 0 _ rfl, rfl⟩, ⟨_, hP 0 _ rfl, rfl⟩, ⟨_, hP 0 _ rfl, rfl⟩, hbu9, (by omega), (by omega)⟩
          have hps : PS D cs w _ ((p4262 + 1)) (tl) (er1) (0) dr bu g (N1) ((h + 1)) := ⟨hm, f4256, hP 1 _ rfl, e4256, by omega, v4256⟩
          refine cv_v (As := []) (rest := []) (b := w) ⟨hx, hb, hml, hown, hts⟩ (c_X9_term_d0 hT (w := w) hw hbT hdT hps) (cwV 0 hts gX9_readSum_X9_term rfl rfl rfl hdX9_term_v ⟨Nat.le_of_ble_eq_true rfl, Nat.le_of_ble_eq_true rfl⟩) hN hE hL (rcv10 hN hT hw.1) rfl rfl hl.1 (Nat.le_of_ble_eq_true rfl) dX9_readSum_55 (Nat.zero_le _) (Nat.zero_le _) (fun H1 locs hL hqr4359 => ?_)
          obtain ⟨hT1, hF1, hqr4359⟩ := hqr4359
          have hF := hF.tr (hF1.mono (by simp))
          have hT := hT1
          obtain ⟨N4360, p4361, er4362, a4363, b4364, z4365, m4366, f4367, d4368, e4369, n4370, v4371⟩ := hqr4359
          have hm := m4366
          have hm8 := hm.2.2.2.2.2.2.2
          have hbd : B0 ≤ dr := (hT.o26 hdT.1).1
          have hDR := hT.dr hdT d4368
          have hP : va_P D vwCl [(dr, .inl (cs 0, 1383, .inl f4367))] _ := va_P.cons d4368 va_P.nil
          refine lv_aload_n hx hb dX9_readSum_58 rfl (lv_at hl 1 rfl) ?_
          refine lv_iload_n hx hb dX9_readSum_59 rfl (lv_at hl 0 rfl) ?_
          refine lv_if_eq (tgt := 67) hx hb dX9_readSum_60 (by decide) (fun c9 => absurd c9 (by decide)) (fun _ => ?_)
          refine lv_iconst (v := 2) hx hb dX9_readSum_63 (by decide) ?_
          refine lv_goto (tgt := 68) hx hb dX9_readSum_64 (by decide) ?_
          refine cv_v (As := [.int 2]) (rest := []) (b := w) ⟨hx, hb, hml, hown, hts⟩ (c_X9_emit hT (w := w) hw (x := 2) hbT hdT hm (hP 0 _ rfl) e4369 (fun _ => by omega)) (cwV 1 hts gX9_readSum_X9_emit rfl rfl rfl hdX9_emit_v ⟨Nat.le_of_ble_eq_true rfl, Nat.le_of_ble_eq_true rfl⟩) hN hE hL (rcv10 hN hT hw.1) rfl rfl hl.1 (Nat.le_of_ble_eq_true rfl) dX9_readSum_68 (Nat.zero_le _) (Nat.zero_le _) (fun H1 locs hL hqr4373 => ?_)
          obtain ⟨hT1, hF1, hqr4373⟩ := hqr4373
          have hF := hF.tr (hF1.mono (by simp))
          have hT := hT1
          obtain ⟨f4374, N4375, d4376, e4377, x4378, m4379⟩ := hqr4373
          have hm := m4379
          have hm8 := hm.2.2.2.2.2.2.2
          have nx4378 := x4378.n
          have ox4378 := nx4378.1
          have hbd : B0 ≤ dr := (hT.o26 hdT.1).1
          have hDR := hT.dr hdT d4376
          have hP : va_P D vwCl [(dr, .inl (cs 0, 1383, .inl f4374))] _ := va_P.cons d4376 va_P.nil
          refine lv_goto (tgt := 4) hx hb dX9_readSum_71 (by decide) ?_
          have hps : PS D cs w _ (p4361) (tl) (er4362) (0) dr bu g (N4375) ((h + 1)) := ⟨hm, f4374, hP 0 _ rfl, e4377, by omega, (EM.op x4378 (by decide) v4371)⟩
          exact ih4255 (p4361, N4375, er4362) _ _ _ (by show 600 - (p4361) < 600 - p; omega) ⟨hps, (by show (N4375) + 2 * pos ≤ N + 2 * (p4361); omega), (by show pos ≤ (p4361); omega), (fun e9 => hz1 (z4365 e9)), hT, hF, hL⟩ (lv_sub hl [1] rfl)
  · refine lv_if_eq (tgt := 74) hx hb dX9_readSum_8 (by decide) (fun _ => ?_) (fun c9 => absurd (by decide) c9)
    have hps : PS D cs w _ (p) (tl) (er1) (0) dr bu g (N1) ((h + 1)) := ⟨hm, f4256, hP 0 _ rfl, e4256, by omega, v4256⟩
    exact en_v hx hb hr hlocks hL (Nat.zero_le _) (Nat.zero_le _) dX9_readSum_74 (⟨hT, hF, N1, p, er1, (by omega), (by omega), hz1, hps⟩)
theorem mX9_once_1 : (.fieldLink RX9 136 "OneBeatModel" "seen" "I" : Cond) ∈ wsX9_once := List.mem_of_getElem? (i := 1) (by decide +kernel)
theorem iX9_once_9 : ∀ w ∈ wsX90, w ∈ wsX9_once := fun w h => List.mem_of_mem_drop (List.mem_of_mem_take ((show wsX90 = (wsX9_once.drop 9).take 18 by decide +kernel) ▸ h))
set_option maxHeartbeats 4000000 in
set_option maxRecDepth 100000 in
theorem c_X9_once {l : Launch} {D : va_G} {cs : Nat → ClassId} {B0 T : Nat} {κ : KM} {H0 : Heap} (hT : WT B0 D cs T κ H0) {w : Nat} (hw : T2 κ w 10 12) {x : Int32} {y : Int32} {pos tl : Nat} {er ns : Int32} {dr bu : Nat} {g : Nat → Int32} (hbT : T2 κ bu 23 14) (hdT : T2 κ dr 26 17) (hm : MF D cs w H0 pos tl er ns dr bu g) : KC l yX9_once wsX9_once 1 22 0 0 D cs B0 H0 [.ref w, .int x, .int y] (Qv (fun H => WT B0 D cs T κ H ∧ Fr B0 [12] κ H0 H ∧ ∃ er1, (er1 = 0 → er = 0) ∧ MF D cs w H pos tl er1 ns dr bu g)) := by
  refine KC.of cX9_once 3 none (by decide) rfl (Nat.le_of_ble_eq_true rfl) ?_
  intro p e s m below meth c ls hx hb hr hml hown hts hlocks hin hN hE hH0 hl
  have hown : s.vm.findClass RX9 = some m.cls := hown
  have hl : lv_has ls 3 [(0, .ref w), (1, .int x), (2, .int y)] := hl
  have hL : OkL B0 [] := OkL.nil
  have hF : Fr B0 [12] κ H0 H0 := Fr.rf
  have hm8 := hm.2.2.2.2.2.2.2
  refine lv_aload_n hx hb dX9_once_0 rfl (lv_at hl 0 rfl) ?_
  obtain ⟨hb4381, e4381, hat4381, hk4381⟩ := hT.o10 hw.1
  obtain ⟨f4381_0, f4381_1, f4381_3, f4381_4, f4381_5, f4381_6, f4381_7, f4381_9, f4381_10, f4381_11, f4381_12, f4381_13, f4381_14, f4381_15, f4381_16, f4381_17, rfl, c4381_2, c4381_3, c4381_4, c4381_12, t4381_1, t4381_8, t4381_9, c4381_sd, t4381_10, t4381_11, t4381_17⟩ := hk4381
  obtain ⟨rfl, rfl, rfl, rfl, rfl, rfl⟩ := hm.at hat4381 c4381_3 (by omega)
  have hm8 := hm.2.2.2.2.2.2.2
  have hP : va_P D vwCl [(w, .inr (9, [.int f4381_0, .ref bu, .int (nI ((κ w).2.2.1)), .int (nI tl), .int (nI pos), .int er, .int f4381_6, .int f4381_7, .ref (κ w).2.2.2, .ref f4381_9, .ref dr, .ref f4381_11, .int (nI f4381_12), .int f4381_13, .int ns, .int f4381_15, .int f4381_16, .ref f4381_17]))] _ := va_P.cons hat4381 va_P.nil
  refine va_get (D := D) (ci := 9) (v := .int f4381_15) (C := RX9) (T := TX9) (N := 18) hx hb hts iX9_once_9 hown hN.1 hP 0 rfl rfl 15 (by decide) (hts _ mX9_once_1) (fun _ h9 => h9) rfl dX9_once_1 ?_
  refine lv_iload_n hx hb dX9_once_4 rfl (lv_at hl 1 rfl) ?_
  refine lv_ishr hx hb dX9_once_5 ?_
  refine gn_i (fun x4382 => ?_)
  refine lv_iconst (v := 1) hx hb dX9_once_6 (by decide) ?_
  refine lv_iand hx hb dX9_once_7 ?_
  refine gn_i (fun x4383 => ?_)
  refine lv_iconst (v := 1) hx hb dX9_once_8 (by decide) ?_
  refine lv_icmp_ne (tgt := 19) hx hb dX9_once_9 (by decide) (fun c4384 => ?_) (fun c4384 => ?_)
  · refine lv_aload_n hx hb dX9_once_19 rfl (lv_at hl 0 rfl) ?_
    refine lv_dup hx hb dX9_once_20 rfl ?_
    refine va_get (D := D) (ci := 9) (v := .int f4381_15) (C := RX9) (T := TX9) (N := 18) hx hb hts iX9_once_9 hown hN.1 hP 0 rfl rfl 15 (by decide) (hts _ mX9_once_1) (fun _ h9 => h9) rfl dX9_once_21 ?_
    refine lv_iconst (v := 1) hx hb dX9_once_24 (by decide) ?_
    refine lv_iload_n hx hb dX9_once_25 rfl (lv_at hl 1 rfl) ?_
    refine lv_ishl hx hb dX9_once_26 ?_
    refine gn_i (fun x4385 => ?_)
    refine lv_ior hx hb dX9_once_27 ?_
    refine gn_i (fun x4386 => ?_)
    have hB : Bx B0 D _ [(w, .inr (9, [.int f4381_0, .ref bu, .int (nI ((κ w).2.2.1)), .int (nI tl), .int (nI pos), .int er, .int f4381_6, .int f4381_7, .ref (κ w).2.2.2, .ref f4381_9, .ref dr, .ref f4381_11, .int (nI f4381_12), .int f4381_13, .int ns, .int f4381_15, .int f4381_16, .ref f4381_17]))] [] _ _ := Bx.of (fun a => (κ a).1) hL hP (fa_c hb4381 fa_n) (by simp only [List.map_cons, List.map_nil, hw.1]; decide)
    refine b_put (D := D) (ci := 9) (v := .int x4386) (ty := .int) (C := RX9) (T := TX9) (N := 18) hx hb hts iX9_once_9 tyX9 tyX9_ok nmX9 hown hN hB 0 rfl rfl 15 (by decide) (hts _ mX9_once_1) (fun _ h9 => h9) rfl (by decide +kernel) rfl rfl (Nat.le_of_ble_eq_true rfl) (.inl rfl) dX9_once_28 (fun H locs hB => ?_)
    have hB : Bx B0 D _ [(w, .inr (9, [.int f4381_0, .ref bu, .int (nI ((κ w).2.2.1)), .int (nI tl), .int (nI pos), .int er, .int f4381_6, .int f4381_7, .ref (κ w).2.2.2, .ref f4381_9, .ref dr, .ref f4381_11, .int (nI f4381_12), .int f4381_13, .int ns, .int x4386, .int f4381_16, .ref f4381_17]))] [w] _ _ := hB
    have hT : WT B0 D cs T κ _ := hT.close hB ⟨⟨0, _, rfl, ok_10 hw.1 ⟨_, _, _, _, _, _, _, _, _, _, _, _, _, _, _, _, rfl, (by omega), (by omega), (by omega), (by omega), hbT, t4381_8, t4381_9, c4381_sd, hdT, t4381_11, t4381_17⟩⟩, trivial⟩
    have hF : Fr B0 [12] κ H0 _ := hF.close hB (fa_c (by simp [hw.2]) fa_n)
    have hL : OkL B0 _ := hB.2.2.2.2.2
    have hP : va_P D vwCl [(w, .inr (9, [.int f4381_0, .ref bu, .int (nI ((κ w).2.2.1)), .int (nI tl), .int (nI pos), .int er, .int f4381_6, .int f4381_7, .ref (κ w).2.2.2, .ref f4381_9, .ref dr, .ref f4381_11, .int (nI f4381_12), .int f4381_13, .int ns, .int x4386, .int f4381_16, .ref f4381_17]))] _ := hB.1
    have hbu9 := (hm.2.2.2.2.2.2.1).kept (hB.2.2.2.1 _ hm.2.2.2.2.2.2.1.lt (by simp only [List.mem_cons, List.not_mem_nil, or_false, not_or]; exact ne_c hbT.1 hw.1 (by decide)))
    have hm : MF D cs w _ (pos) (tl) (er) (ns) dr bu g := ⟨⟨_, hP 0 _ rfl, rfl⟩, ⟨_, hP 0 _ rfl, rfl⟩, ⟨_, hP 0 _ rfl, rfl⟩, ⟨_, hP 0 _ rfl, rfl⟩, ⟨_, hP 0 _ rfl, rfl⟩, ⟨_, hP 0 _ rfl, rfl⟩, hbu9, (by omega), (by omega)⟩
    exact en_v hx hb hr hlocks hL (Nat.zero_le _) (Nat.zero_le _) dX9_once_31 (⟨hT, hF, _, id, hm⟩)
  · refine lv_aload_n hx hb dX9_once_12 rfl (lv_at hl 0 rfl) ?_
    refine lv_bipush (v := (-2)) hx hb dX9_once_13 (by decide) ?_
    refine lv_iload_n hx hb dX9_once_15 rfl (lv_at hl 2 rfl) ?_
    refine cv_v (As := [.int (-2), .int y]) (rest := []) (b := w) ⟨hx, hb, hml, hown, hts⟩ (c_X9_report hT (w := w) hw (x := (-2)) (y := y) hbT hdT hm ((by decide))) (cwV 2 hts gX9_once_X9_report rfl rfl rfl hdX9_report_v ⟨Nat.le_of_ble_eq_true rfl, Nat.le_of_ble_eq_true rfl⟩) hN hE hL (rcv10 hN hT hw.1) rfl rfl hl.1 (Nat.le_of_ble_eq_true rfl) dX9_once_16 (Nat.zero_le _) (Nat.zero_le _) (fun H1 locs hL hqr4387 => ?_)
    obtain ⟨hT1, hF1, hqr4387⟩ := hqr4387
    have hF := hF.tr (hF1.mono (by simp))
    have hT := hT1
    obtain ⟨er4388, z4389, m4390⟩ := hqr4387
    have hm := m4390
    have hm8 := hm.2.2.2.2.2.2.2
    refine lv_aload_n hx hb dX9_once_19 rfl (lv_at hl 0 rfl) ?_
    refine lv_dup hx hb dX9_once_20 rfl ?_
    obtain ⟨hb4391, e4391, hat4391, hk4391⟩ := hT.o10 hw.1
    obtain ⟨f4391_0, f4391_1, f4391_3, f4391_4, f4391_5, f4391_6, f4391_7, f4391_9, f4391_10, f4391_11, f4391_12, f4391_13, f4391_14, f4391_15, f4391_16, f4391_17, rfl, c4391_2, c4391_3, c4391_4, c4391_12, t4391_1, t4391_8, t4391_9, c4391_sd, t4391_10, t4391_11, t4391_17⟩ := hk4391
    obtain ⟨rfl, rfl, rfl, rfl, rfl, rfl⟩ := hm.at hat4391 c4391_3 (by omega)
    have hm8 := hm.2.2.2.2.2.2.2
    have hP : va_P D vwCl [(w, .inr (9, [.int f4391_0, .ref bu, .int (nI ((κ w).2.2.1)), .int (nI tl), .int (nI pos), .int er4388, .int f4391_6, .int f4391_7, .ref (κ w).2.2.2, .ref f4391_9, .ref dr, .ref f4391_11, .int (nI f4391_12), .int f4391_13, .int ns, .int f4391_15, .int f4391_16, .ref f4391_17]))] _ := va_P.cons hat4391 va_P.nil
    refine va_get (D := D) (ci := 9) (v := .int f4391_15) (C := RX9) (T := TX9) (N := 18) hx hb hts iX9_once_9 hown hN.1 hP 0 rfl rfl 15 (by decide) (hts _ mX9_once_1) (fun _ h9 => h9) rfl dX9_once_21 ?_
    refine lv_iconst (v := 1) hx hb dX9_once_24 (by decide) ?_
    refine lv_iload_n hx hb dX9_once_25 rfl (lv_at hl 1 rfl) ?_
    refine lv_ishl hx hb dX9_once_26 ?_
    refine gn_i (fun x4392 => ?_)
    refine lv_ior hx hb dX9_once_27 ?_
    refine gn_i (fun x4393 => ?_)
    have hB : Bx B0 D _ [(w, .inr (9, [.int f4391_0, .ref bu, .int (nI ((κ w).2.2.1)), .int (nI tl), .int (nI pos), .int er4388, .int f4391_6, .int f4391_7, .ref (κ w).2.2.2, .ref f4391_9, .ref dr, .ref f4391_11, .int (nI f4391_12), .int f4391_13, .int ns, .int f4391_15, .int f4391_16, .ref f4391_17]))] [] _ _ := Bx.of (fun a => (κ a).1) hL hP (fa_c hb4391 fa_n) (by simp only [List.map_cons, List.map_nil, hw.1]; decide)
    refine b_put (D := D) (ci := 9) (v := .int x4393) (ty := .int) (C := RX9) (T := TX9) (N := 18) hx hb hts iX9_once_9 tyX9 tyX9_ok nmX9 hown hN hB 0 rfl rfl 15 (by decide) (hts _ mX9_once_1) (fun _ h9 => h9) rfl (by decide +kernel) rfl rfl (Nat.le_of_ble_eq_true rfl) (.inl rfl) dX9_once_28 (fun H locs hB => ?_)
    have hB : Bx B0 D _ [(w, .inr (9, [.int f4391_0, .ref bu, .int (nI ((κ w).2.2.1)), .int (nI tl), .int (nI pos), .int er4388, .int f4391_6, .int f4391_7, .ref (κ w).2.2.2, .ref f4391_9, .ref dr, .ref f4391_11, .int (nI f4391_12), .int f4391_13, .int ns, .int x4393, .int f4391_16, .ref f4391_17]))] [w] _ _ := hB
    have hT : WT B0 D cs T κ _ := hT.close hB ⟨⟨0, _, rfl, ok_10 hw.1 ⟨_, _, _, _, _, _, _, _, _, _, _, _, _, _, _, _, rfl, (by omega), (by omega), (by omega), (by omega), hbT, t4391_8, t4391_9, c4391_sd, hdT, t4391_11, t4391_17⟩⟩, trivial⟩
    have hF : Fr B0 [12] κ H0 _ := hF.close hB (fa_c (by simp [hw.2]) fa_n)
    have hL : OkL B0 _ := hB.2.2.2.2.2
    have hP : va_P D vwCl [(w, .inr (9, [.int f4391_0, .ref bu, .int (nI ((κ w).2.2.1)), .int (nI tl), .int (nI pos), .int er4388, .int f4391_6, .int f4391_7, .ref (κ w).2.2.2, .ref f4391_9, .ref dr, .ref f4391_11, .int (nI f4391_12), .int f4391_13, .int ns, .int x4393, .int f4391_16, .ref f4391_17]))] _ := hB.1
    have hbu9 := (hm.2.2.2.2.2.2.1).kept (hB.2.2.2.1 _ hm.2.2.2.2.2.2.1.lt (by simp only [List.mem_cons, List.not_mem_nil, or_false, not_or]; exact ne_c hbT.1 hw.1 (by decide)))
    have hm : MF D cs w _ (pos) (tl) (er4388) (ns) dr bu g := ⟨⟨_, hP 0 _ rfl, rfl⟩, ⟨_, hP 0 _ rfl, rfl⟩, ⟨_, hP 0 _ rfl, rfl⟩, ⟨_, hP 0 _ rfl, rfl⟩, ⟨_, hP 0 _ rfl, rfl⟩, ⟨_, hP 0 _ rfl, rfl⟩, hbu9, (by omega), (by omega)⟩
    exact en_v hx hb hr hlocks hL (Nat.zero_le _) (Nat.zero_le _) dX9_once_31 (⟨hT, hF, _, (fun e9 => id ((fun e9 => absurd e9 z4389) e9)), hm⟩)
theorem mX9_signed_1 : (.fieldLink RX9 53 "OneBeatModel" "position" "I" : Cond) ∈ wsX9_signed := List.mem_of_getElem? (i := 1) (by decide +kernel)
theorem iX9_signed_9 : ∀ w ∈ wsX90, w ∈ wsX9_signed := fun w h => List.mem_of_mem_drop (List.mem_of_mem_take ((show wsX90 = (wsX9_signed.drop 38).take 18 by decide +kernel) ▸ h))
theorem mX9_signed_2 : (.constant RX9 97 (100000000) : Cond) ∈ wsX9_signed := List.mem_of_getElem? (i := 2) (by decide +kernel)
set_option maxHeartbeats 4000000 in
set_option maxRecDepth 100000 in
theorem c_X9_signed {l : Launch} {D : va_G} {cs : Nat → ClassId} {B0 T : Nat} {κ : KM} {H0 : Heap} (hT : WT B0 D cs T κ H0) {w : Nat} (hw : T2 κ w 10 12) {x : Int32} {pos tl : Nat} {er ns : Int32} {dr bu : Nat} {g : Nat → Int32} (hbT : T2 κ bu 23 14) (hdT : T2 κ dr 26 17) (hm : MF D cs w H0 pos tl er ns dr bu g) : KC l yX9_signed wsX9_signed 3 65 0 0 D cs B0 H0 [.ref w, .int x] (Qi (fun r H => WT B0 D cs T κ H ∧ Fr B0 [12] κ H0 H ∧ ∃ pos1 er1, pos ≤ pos1 ∧ (er1 = 0 → er = 0) ∧ MF D cs w H pos1 tl er1 ns dr bu g)) := by
  refine KC.of cX9_signed 5 (some .int) (by decide) rfl (Nat.le_of_ble_eq_true rfl) ?_
  intro p e s m below meth c ls hx hb hr hml hown hts hlocks hin hN hE hH0 hl
  have hown : s.vm.findClass RX9 = some m.cls := hown
  have hl : lv_has ls 5 [(0, .ref w), (1, .int x)] := hl
  have hL : OkL B0 [] := OkL.nil
  have hF : Fr B0 [12] κ H0 H0 := Fr.rf
  have hm8 := hm.2.2.2.2.2.2.2
  refine lv_aload_n hx hb dX9_signed_0 rfl (lv_at hl 0 rfl) ?_
  refine cv_i (As := []) (rest := []) (b := w) ⟨hx, hb, hml, hown, hts⟩ (c_X9_isGood hT (w := w) hw hbT hdT hm) (cwV 0 hts gX9_signed_X9_isGood rfl rfl rfl hdX9_isGood_v ⟨Nat.le_of_ble_eq_true rfl, Nat.le_of_ble_eq_true rfl⟩) hN hE hL (rcv10 hN hT hw.1) rfl rfl hl.1 (Nat.le_of_ble_eq_true rfl) dX9_signed_1 (Nat.zero_le _) (Nat.zero_le _) (fun r4394 H1 locs hL hqr4394 => ?_)
  obtain ⟨h9, hqr4394⟩ := hqr4394; replace h9 := h9.symm; subst h9
  rcases hqr4394 with ⟨rfl, e4395⟩ | ⟨rfl, e4396⟩
  · refine lv_if_ne (tgt := 9) hx hb dX9_signed_4 (by decide) (fun _ => ?_) (fun c9 => absurd c9 (by decide))
    refine lv_aload_n hx hb dX9_signed_9 rfl (lv_at hl 0 rfl) ?_
    refine cv_i (As := []) (rest := []) (b := w) ⟨hx, hb, hml, hown, hts⟩ (c_X9_ahead hT (w := w) hw hbT hdT hm) (cwV 0 hts gX9_signed_X9_ahead rfl rfl rfl hdX9_ahead_v ⟨Nat.le_of_ble_eq_true rfl, Nat.le_of_ble_eq_true rfl⟩) hN hE hL (rcv10 hN hT hw.1) rfl rfl hl.1 (Nat.le_of_ble_eq_true rfl) dX9_signed_10 (Nat.zero_le _) (Nat.zero_le _) (fun r4397 H1 locs hL hqr4397 => ?_)
    obtain ⟨hT1, hF1, hqr4397⟩ := hqr4397
    have hF := hF.tr (hF1.mono (by simp))
    have hT := hT1
    obtain ⟨p4398, h4399, m4400, n4401, s4402, rfl⟩ := hqr4397
    have hm := m4400
    have hm8 := hm.2.2.2.2.2.2.2
    refine lv_istore_n (lv' := [(2, .int (byF g tl p4398)), (0, .ref w), (1, .int x)]) hx hb dX9_signed_13 rfl hl (by decide) rfl (fun ls hl => ?_)
    refine lv_aload_n hx hb dX9_signed_14 rfl (lv_at hl 1 rfl) ?_
    obtain ⟨hb4403, e4403, hat4403, hk4403⟩ := hT.o10 hw.1
    obtain ⟨f4403_0, f4403_1, f4403_3, f4403_4, f4403_5, f4403_6, f4403_7, f4403_9, f4403_10, f4403_11, f4403_12, f4403_13, f4403_14, f4403_15, f4403_16, f4403_17, rfl, c4403_2, c4403_3, c4403_4, c4403_12, t4403_1, t4403_8, t4403_9, c4403_sd, t4403_10, t4403_11, t4403_17⟩ := hk4403
    obtain ⟨rfl, rfl, rfl, rfl, rfl, rfl⟩ := hm.at hat4403 c4403_3 (by omega)
    have hm8 := hm.2.2.2.2.2.2.2
    have hP : va_P D vwCl [(w, .inr (9, [.int f4403_0, .ref bu, .int (nI ((κ w).2.2.1)), .int (nI tl), .int (nI p4398), .int er, .int f4403_6, .int f4403_7, .ref (κ w).2.2.2, .ref f4403_9, .ref dr, .ref f4403_11, .int (nI f4403_12), .int f4403_13, .int ns, .int f4403_15, .int f4403_16, .ref f4403_17]))] _ := va_P.cons hat4403 va_P.nil
    refine va_get (D := D) (ci := 9) (v := .int (nI p4398)) (C := RX9) (T := TX9) (N := 18) hx hb hts iX9_signed_9 hown hN.1 hP 0 rfl rfl 4 (by decide) (hts _ mX9_signed_1) (fun _ h9 => h9) rfl dX9_signed_15 ?_
    refine lv_istore_n (lv' := [(3, .int (nI p4398)), (2, .int (byF g tl p4398)), (0, .ref w), (1, .int x)]) hx hb dX9_signed_18 rfl hl (by decide) rfl (fun ls hl => ?_)
    refine lv_iload_n hx hb dX9_signed_19 rfl (lv_at hl 1 rfl) ?_
    refine lv_bipush (v := 45) hx hb dX9_signed_20 (by decide) ?_
    refine lv_icmp_eq (tgt := 32) hx hb dX9_signed_22 (by decide) (fun c4404 => ?_) (fun c4404 => ?_)
    · refine lv_aload_n hx hb dX9_signed_32 rfl (lv_at hl 2 rfl) ?_
      refine lv_dup hx hb dX9_signed_33 rfl ?_
      refine va_get (D := D) (ci := 9) (v := .int (nI p4398)) (C := RX9) (T := TX9) (N := 18) hx hb hts iX9_signed_9 hown hN.1 hP 0 rfl rfl 4 (by decide) (hts _ mX9_signed_1) (fun _ h9 => h9) rfl dX9_signed_34 ?_
      refine lv_iconst (v := 1) hx hb dX9_signed_37 (by decide) ?_
      refine lv_iadd hx hb dX9_signed_38 ?_
      refine tp_i (nI (p4398 + 1)) (nI_add p4398 1) ?_
      have hB : Bx B0 D _ [(w, .inr (9, [.int f4403_0, .ref bu, .int (nI ((κ w).2.2.1)), .int (nI tl), .int (nI p4398), .int er, .int f4403_6, .int f4403_7, .ref (κ w).2.2.2, .ref f4403_9, .ref dr, .ref f4403_11, .int (nI f4403_12), .int f4403_13, .int ns, .int f4403_15, .int f4403_16, .ref f4403_17]))] [] _ _ := Bx.of (fun a => (κ a).1) hL hP (fa_c hb4403 fa_n) (by simp only [List.map_cons, List.map_nil, hw.1]; decide)
      refine b_put (D := D) (ci := 9) (v := .int (nI (p4398 + 1))) (ty := .int) (C := RX9) (T := TX9) (N := 18) hx hb hts iX9_signed_9 tyX9 tyX9_ok nmX9 hown hN hB 0 rfl rfl 4 (by decide) (hts _ mX9_signed_1) (fun _ h9 => h9) rfl (by decide +kernel) rfl rfl (Nat.le_of_ble_eq_true rfl) (.inl rfl) dX9_signed_39 (fun H locs hB => ?_)
      have hB : Bx B0 D _ [(w, .inr (9, [.int f4403_0, .ref bu, .int (nI ((κ w).2.2.1)), .int (nI tl), .int (nI (p4398 + 1)), .int er, .int f4403_6, .int f4403_7, .ref (κ w).2.2.2, .ref f4403_9, .ref dr, .ref f4403_11, .int (nI f4403_12), .int f4403_13, .int ns, .int f4403_15, .int f4403_16, .ref f4403_17]))] [w] _ _ := hB
      refine lv_aload_n hx hb dX9_signed_42 rfl (lv_at hl 2 rfl) ?_
      refine lv_iconst (v := 0) hx hb dX9_signed_43 (by decide) ?_
      refine lv_ldc (v := 100000000) hx hb hown (hts _ mX9_signed_2) dX9_signed_44 ?_
      have hT : WT B0 D cs T κ _ := hT.close hB ⟨⟨0, _, rfl, ok_10 hw.1 ⟨_, _, _, _, _, _, _, _, _, _, _, _, _, _, _, _, rfl, (by omega), (by omega), (by omega), (by omega), hbT, t4403_8, t4403_9, c4403_sd, hdT, t4403_11, t4403_17⟩⟩, trivial⟩
      have hF : Fr B0 [12] κ H0 _ := hF.close hB (fa_c (by simp [hw.2]) fa_n)
      have hL : OkL B0 _ := hB.2.2.2.2.2
      have hP : va_P D vwCl [(w, .inr (9, [.int f4403_0, .ref bu, .int (nI ((κ w).2.2.1)), .int (nI tl), .int (nI (p4398 + 1)), .int er, .int f4403_6, .int f4403_7, .ref (κ w).2.2.2, .ref f4403_9, .ref dr, .ref f4403_11, .int (nI f4403_12), .int f4403_13, .int ns, .int f4403_15, .int f4403_16, .ref f4403_17]))] _ := hB.1
      have hbu9 := (hm.2.2.2.2.2.2.1).kept (hB.2.2.2.1 _ hm.2.2.2.2.2.2.1.lt (by simp only [List.mem_cons, List.not_mem_nil, or_false, not_or]; exact ne_c hbT.1 hw.1 (by decide)))
      have hm : MF D cs w _ ((p4398 + 1)) (tl) (er) (ns) dr bu g := ⟨⟨_, hP 0 _ rfl, rfl⟩, ⟨_, hP 0 _ rfl, rfl⟩, ⟨_, hP 0 _ rfl, rfl⟩, ⟨_, hP 0 _ rfl, rfl⟩, ⟨_, hP 0 _ rfl, rfl⟩, ⟨_, hP 0 _ rfl, rfl⟩, hbu9, (by omega), (by omega)⟩
      refine cv_i (As := [.int 0, .int 100000000]) (rest := []) (b := w) ⟨hx, hb, hml, hown, hts⟩ (c_X9_number hT (w := w) hw (x := 0) (y := 100000000) hbT hdT hm) (cwV 2 hts gX9_signed_X9_number rfl rfl rfl hdX9_number_v ⟨Nat.le_of_ble_eq_true rfl, Nat.le_of_ble_eq_true rfl⟩) hN hE hL (rcv10 hN hT hw.1) rfl rfl hl.1 (Nat.le_of_ble_eq_true rfl) dX9_signed_46 (Nat.zero_le _) (Nat.zero_le _) (fun r4405 H1 locs hL hqr4405 => ?_)
      obtain ⟨hT1, hF1, hqr4405⟩ := hqr4405
      have hF := hF.tr (hF1.mono (by simp))
      have hT := hT1
      obtain ⟨p4406, er4407, a4408, z4409, m4410, q4411⟩ := hqr4405
      have hm := m4410
      have hm8 := hm.2.2.2.2.2.2.2
      refine lv_istore (lv' := [(4, .int r4405), (3, .int (nI p4398)), (2, .int (byF g tl p4398)), (0, .ref w), (1, .int x)]) hx hb dX9_signed_49 hl (by decide) rfl (fun ls hl => ?_)
      refine lv_aload_n hx hb dX9_signed_51 rfl (lv_at hl 3 rfl) ?_
      refine cv_i (As := []) (rest := []) (b := w) ⟨hx, hb, hml, hown, hts⟩ (c_X9_isGood hT (w := w) hw hbT hdT hm) (cwV 0 hts gX9_signed_X9_isGood rfl rfl rfl hdX9_isGood_v ⟨Nat.le_of_ble_eq_true rfl, Nat.le_of_ble_eq_true rfl⟩) hN hE hL (rcv10 hN hT hw.1) rfl rfl hl.1 (Nat.le_of_ble_eq_true rfl) dX9_signed_52 (Nat.zero_le _) (Nat.zero_le _) (fun r4412 H1 locs hL hqr4412 => ?_)
      obtain ⟨h9, hqr4412⟩ := hqr4412; replace h9 := h9.symm; subst h9
      rcases hqr4412 with ⟨rfl, e4413⟩ | ⟨rfl, e4414⟩
      · refine lv_if_eq (tgt := 71) hx hb dX9_signed_55 (by decide) (fun c9 => absurd c9 (by decide)) (fun _ => ?_)
        refine lv_iload hx hb dX9_signed_58 (lv_at hl 0 rfl) ?_
        refine lv_iload_n hx hb dX9_signed_60 rfl (lv_at hl 4 rfl) ?_
        refine lv_icmp_le (tgt := 71) hx hb dX9_signed_61 (by decide) (fun c4415 => ?_) (fun c4415 => ?_)
        · refine lv_iload hx hb dX9_signed_71 (lv_at hl 0 rfl) ?_
          refine lv_ineg hx hb dX9_signed_73 ?_
          refine gn_i (fun x4416 => ?_)
          exact en_i hx hb hr hlocks hL rfl (Nat.zero_le _) (Nat.zero_le _) dX9_signed_74 (⟨hT, hF, p4406, er4407, (by omega), (fun e9 => id ((fun e9 => (z4409 e9).1) e9)), hm⟩)
        · refine lv_aload_n hx hb dX9_signed_64 rfl (lv_at hl 3 rfl) ?_
          refine lv_bipush (v := (-3)) hx hb dX9_signed_65 (by decide) ?_
          refine lv_iload_n hx hb dX9_signed_67 rfl (lv_at hl 1 rfl) ?_
          refine cv_v (As := [.int (-3), .int (nI p4398)]) (rest := []) (b := w) ⟨hx, hb, hml, hown, hts⟩ (c_X9_report hT (w := w) hw (x := (-3)) (y := (nI p4398)) hbT hdT hm ((by decide))) (cwV 2 hts gX9_signed_X9_report rfl rfl rfl hdX9_report_v ⟨Nat.le_of_ble_eq_true rfl, Nat.le_of_ble_eq_true rfl⟩) hN hE hL (rcv10 hN hT hw.1) rfl rfl hl.1 (Nat.le_of_ble_eq_true rfl) dX9_signed_68 (Nat.zero_le _) (Nat.zero_le _) (fun H1 locs hL hqr4417 => ?_)
          obtain ⟨hT1, hF1, hqr4417⟩ := hqr4417
          have hF := hF.tr (hF1.mono (by simp))
          have hT := hT1
          obtain ⟨er4418, z4419, m4420⟩ := hqr4417
          have hm := m4420
          have hm8 := hm.2.2.2.2.2.2.2
          refine lv_iload hx hb dX9_signed_71 (lv_at hl 0 rfl) ?_
          refine lv_ineg hx hb dX9_signed_73 ?_
          refine gn_i (fun x4421 => ?_)
          exact en_i hx hb hr hlocks hL rfl (Nat.zero_le _) (Nat.zero_le _) dX9_signed_74 (⟨hT, hF, p4406, er4418, (by omega), (fun e9 => (fun e9 => id ((fun e9 => (z4409 e9).1) e9)) ((fun e9 => absurd e9 z4419) e9)), hm⟩)
      · refine lv_if_eq (tgt := 71) hx hb dX9_signed_55 (by decide) (fun _ => ?_) (fun c9 => absurd (by decide) c9)
        refine lv_iload hx hb dX9_signed_71 (lv_at hl 0 rfl) ?_
        refine lv_ineg hx hb dX9_signed_73 ?_
        refine gn_i (fun x4422 => ?_)
        exact en_i hx hb hr hlocks hL rfl (Nat.zero_le _) (Nat.zero_le _) dX9_signed_74 (⟨hT, hF, p4406, er4407, (by omega), (fun e9 => id ((fun e9 => (z4409 e9).1) e9)), hm⟩)
    · refine lv_aload_n hx hb dX9_signed_25 rfl (lv_at hl 2 rfl) ?_
      refine lv_iconst (v := 0) hx hb dX9_signed_26 (by decide) ?_
      refine lv_iload_n hx hb dX9_signed_27 rfl (lv_at hl 3 rfl) ?_
      refine cv_i (As := [.int 0, .int x]) (rest := []) (b := w) ⟨hx, hb, hml, hown, hts⟩ (c_X9_number hT (w := w) hw (x := 0) (y := x) hbT hdT hm) (cwV 2 hts gX9_signed_X9_number rfl rfl rfl hdX9_number_v ⟨Nat.le_of_ble_eq_true rfl, Nat.le_of_ble_eq_true rfl⟩) hN hE hL (rcv10 hN hT hw.1) rfl rfl hl.1 (Nat.le_of_ble_eq_true rfl) dX9_signed_28 (Nat.zero_le _) (Nat.zero_le _) (fun r4423 H1 locs hL hqr4423 => ?_)
      obtain ⟨hT1, hF1, hqr4423⟩ := hqr4423
      have hF := hF.tr (hF1.mono (by simp))
      have hT := hT1
      obtain ⟨p4424, er4425, a4426, z4427, m4428, q4429⟩ := hqr4423
      have hm := m4428
      have hm8 := hm.2.2.2.2.2.2.2
      exact en_i hx hb hr hlocks hL rfl (Nat.zero_le _) (Nat.zero_le _) dX9_signed_31 (⟨hT, hF, p4424, er4425, (by omega), (fun e9 => id ((fun e9 => (z4427 e9).1) e9)), hm⟩)
  · refine lv_if_ne (tgt := 9) hx hb dX9_signed_4 (by decide) (fun c9 => absurd (by decide) c9) (fun _ => ?_)
    refine lv_iconst (v := 0) hx hb dX9_signed_7 (by decide) ?_
    exact en_i hx hb hr hlocks hL rfl (Nat.zero_le _) (Nat.zero_le _) dX9_signed_8 (⟨hT, hF, pos, er, (by omega), id, hm⟩)
theorem mX9_readClock_1 : (.fieldLink RX9 24 "OneBeatModel" "draft" "[I" : Cond) ∈ wsX9_readClock := List.mem_of_getElem? (i := 1) (by decide +kernel)
theorem iX9_readClock_9 : ∀ w ∈ wsX90, w ∈ wsX9_readClock := fun w h => List.mem_of_mem_drop (List.mem_of_mem_take ((show wsX90 = (wsX9_readClock.drop 47).take 18 by decide +kernel) ▸ h))
theorem mX9_readClock_2 : (.fieldLink RX9 139 "OneBeatModel" "toldClocks" "I" : Cond) ∈ wsX9_readClock := List.mem_of_getElem? (i := 2) (by decide +kernel)
theorem hdX9_signed_v : yX9_signed.cls = RX9 ∧ yX9_signed.cls ≠ "java/lang/invoke/MethodHandle" ∧ yX9_signed.cls ≠ "java/lang/invoke/VarHandle" ∧ (parseMethodDescriptor yX9_signed.desc).map (fun d => d.parameters.length) = some 1 := by decide +kernel
theorem mX9_readClock_3 : (.fieldLink RX9 94 "OneBeatModel" "numberStart" "I" : Cond) ∈ wsX9_readClock := List.mem_of_getElem? (i := 3) (by decide +kernel)
set_option maxHeartbeats 4000000 in
set_option maxRecDepth 100000 in
theorem c_X9_readClock {l : Launch} {D : va_G} {cs : Nat → ClassId} {B0 T : Nat} {κ : KM} {H0 : Heap} (hT : WT B0 D cs T κ H0) {w : Nat} (hw : T2 κ w 10 12) {pos tl : Nat} {er ns : Int32} {dr bu : Nat} {g : Nat → Int32} {N h : Nat} (hbT : T2 κ bu 23 14) (hdT : T2 κ dr 26 17) (hps : PS D cs w H0 pos tl er ns dr bu g N h) : KC l yX9_readClock wsX9_readClock 4 89 0 0 D cs B0 H0 [.ref w] (Qv (fun H => WT B0 D cs T κ H ∧ Fr B0 [12, 17] κ H0 H ∧ ∃ pos1 er1, pos ≤ pos1 ∧ (er1 = 0 → er = 0) ∧ PS D cs w H pos1 tl er1 ns dr bu g N h)) := by
  refine KC.of cX9_readClock 4 none (by decide) rfl (Nat.le_of_ble_eq_true rfl) ?_
  intro p e s m below meth c ls hx hb hr hml hown hts hlocks hin hN hE hH0 hl
  have hown : s.vm.findClass RX9 = some m.cls := hown
  have hl : lv_has ls 4 [(0, .ref w)] := hl
  have hL : OkL B0 [] := OkL.nil
  have hF : Fr B0 [12, 17] κ H0 H0 := Fr.rf
  obtain ⟨hm, f4430, hd4430, e4430, n4430, v4430⟩ := hps
  have hm8 := hm.2.2.2.2.2.2.2
  have hbd : B0 ≤ dr := (hT.o26 hdT.1).1
  have hDR := hT.dr hdT hd4430
  have hP : va_P D vwCl [(dr, .inl (cs 0, 1383, .inl f4430))] _ := va_P.cons hd4430 va_P.nil
  refine lv_aload_n hx hb dX9_readClock_0 rfl (lv_at hl 0 rfl) ?_
  refine lv_iconst (v := 0) hx hb dX9_readClock_1 (by decide) ?_
  refine lv_aload_n hx hb dX9_readClock_2 rfl (lv_at hl 0 rfl) ?_
  obtain ⟨hb4432, e4432, hat4432, hk4432⟩ := hT.o10 hw.1
  obtain ⟨f4432_0, f4432_1, f4432_3, f4432_4, f4432_5, f4432_6, f4432_7, f4432_9, f4432_10, f4432_11, f4432_12, f4432_13, f4432_14, f4432_15, f4432_16, f4432_17, rfl, c4432_2, c4432_3, c4432_4, c4432_12, t4432_1, t4432_8, t4432_9, c4432_sd, t4432_10, t4432_11, t4432_17⟩ := hk4432
  obtain ⟨rfl, rfl, rfl, rfl, rfl, rfl⟩ := hm.at hat4432 c4432_3 (by omega)
  have hm8 := hm.2.2.2.2.2.2.2
  have hP : va_P D vwCl [(w, .inr (9, [.int f4432_0, .ref bu, .int (nI ((κ w).2.2.1)), .int (nI tl), .int (nI pos), .int er, .int f4432_6, .int f4432_7, .ref (κ w).2.2.2, .ref f4432_9, .ref dr, .ref f4432_11, .int (nI f4432_12), .int f4432_13, .int ns, .int f4432_15, .int f4432_16, .ref f4432_17])), (dr, .inl (cs 0, 1383, .inl f4430))] _ := va_P.cons hat4432 hP
  refine va_get (D := D) (ci := 9) (v := .ref dr) (C := RX9) (T := TX9) (N := 18) hx hb hts iX9_readClock_9 hown hN.1 hP 0 rfl rfl 10 (by decide) (hts _ mX9_readClock_1) (fun _ h9 => h9) rfl dX9_readClock_3 ?_
  refine lv_iconst (v := 0) hx hb dX9_readClock_6 (by decide) ?_
  refine ld_i (v := (f4430 0)) hx hb hN hP 1 rfl (vp_in_nI (n := 0) (N := 1383) (by omega) (by omega)) (by rw [(show (0 : Int32).toNatClampNeg = 0 from nI_clamp (n := 0) (by omega))]) dX9_readClock_7 ?_
  obtain ⟨n4433, hn4433, en4433⟩ := hDR.1
  refine tp_i (nI n4433) en4433 ?_
  refine lv_iconst (v := 1) hx hb dX9_readClock_8 (by decide) ?_
  refine lv_isub hx hb dX9_readClock_9 ?_
  refine cv_i (As := [.int 0, .int ((nI n4433) - 1)]) (rest := []) (b := w) ⟨hx, hb, hml, hown, hts⟩ (c_X9_number hT (w := w) hw (x := 0) (y := ((nI n4433) - 1)) hbT hdT hm) (cwV 2 hts gX9_readClock_X9_number rfl rfl rfl hdX9_number_v ⟨Nat.le_of_ble_eq_true rfl, Nat.le_of_ble_eq_true rfl⟩) hN hE hL (rcv10 hN hT hw.1) rfl rfl hl.1 (Nat.le_of_ble_eq_true rfl) dX9_readClock_10 (Nat.zero_le _) (Nat.zero_le _) (fun r4434 H1 locs hL hqr4434 => ?_)
  obtain ⟨hT1, hF1, hqr4434⟩ := hqr4434
  have hP : va_P D vwCl [(dr, .inl (cs 0, 1383, .inl f4430))] _ := hF1.hP (hP.sub [1] rfl) (fa_c ⟨by rw [hdT.1]; decide, by rw [hdT.2]; first | decide | (simp; done) | (simp; omega)⟩ fa_n)
  have hF := hF.tr (hF1.mono (by simp))
  have hT := hT1
  obtain ⟨p4435, er4436, a4437, z4438, m4439, q4440⟩ := hqr4434
  have hm := m4439
  have hm8 := hm.2.2.2.2.2.2.2
  obtain ⟨n4441, hn4441, rfl⟩ := num_p (by omega) q4440
  refine lv_istore_n (lv' := [(1, .int (nI n4441)), (0, .ref w)]) hx hb dX9_readClock_13 rfl hl (by decide) rfl (fun ls hl => ?_)
  refine lv_aload_n hx hb dX9_readClock_14 rfl (lv_at hl 1 rfl) ?_
  refine cv_i (As := []) (rest := []) (b := w) ⟨hx, hb, hml, hown, hts⟩ (c_X9_isGood hT (w := w) hw hbT hdT hm) (cwV 0 hts gX9_readClock_X9_isGood rfl rfl rfl hdX9_isGood_v ⟨Nat.le_of_ble_eq_true rfl, Nat.le_of_ble_eq_true rfl⟩) hN hE hL (rcv10 hN hT hw.1) rfl rfl hl.1 (Nat.le_of_ble_eq_true rfl) dX9_readClock_15 (Nat.zero_le _) (Nat.zero_le _) (fun r4442 H1 locs hL hqr4442 => ?_)
  obtain ⟨h9, hqr4442⟩ := hqr4442; replace h9 := h9.symm; subst h9
  rcases hqr4442 with ⟨rfl, e4443⟩ | ⟨rfl, e4444⟩
  · refine lv_if_eq (tgt := 43) hx hb dX9_readClock_18 (by decide) (fun c9 => absurd c9 (by decide)) (fun _ => ?_)
    refine lv_aload_n hx hb dX9_readClock_21 rfl (lv_at hl 1 rfl) ?_
    obtain ⟨hb4445, e4445, hat4445, hk4445⟩ := hT.o10 hw.1
    obtain ⟨f4445_0, f4445_1, f4445_3, f4445_4, f4445_5, f4445_6, f4445_7, f4445_9, f4445_10, f4445_11, f4445_12, f4445_13, f4445_14, f4445_15, f4445_16, f4445_17, rfl, c4445_2, c4445_3, c4445_4, c4445_12, t4445_1, t4445_8, t4445_9, c4445_sd, t4445_10, t4445_11, t4445_17⟩ := hk4445
    obtain ⟨rfl, rfl, rfl, rfl, rfl, rfl⟩ := hm.at hat4445 c4445_3 (by omega)
    have hm8 := hm.2.2.2.2.2.2.2
    have hP : va_P D vwCl [(w, .inr (9, [.int f4445_0, .ref bu, .int (nI ((κ w).2.2.1)), .int (nI tl), .int (nI p4435), .int er4436, .int f4445_6, .int f4445_7, .ref (κ w).2.2.2, .ref f4445_9, .ref dr, .ref f4445_11, .int (nI f4445_12), .int f4445_13, .int ns, .int f4445_15, .int f4445_16, .ref f4445_17])), (dr, .inl (cs 0, 1383, .inl f4430))] _ := va_P.cons hat4445 hP
    refine va_get (D := D) (ci := 9) (v := .int f4445_16) (C := RX9) (T := TX9) (N := 18) hx hb hts iX9_readClock_9 hown hN.1 hP 0 rfl rfl 16 (by decide) (hts _ mX9_readClock_2) (fun _ h9 => h9) rfl dX9_readClock_22 ?_
    refine lv_iload_n hx hb dX9_readClock_25 rfl (lv_at hl 0 rfl) ?_
    refine lv_ishr hx hb dX9_readClock_26 ?_
    refine gn_i (fun x4446 => ?_)
    refine lv_iconst (v := 1) hx hb dX9_readClock_27 (by decide) ?_
    refine lv_iand hx hb dX9_readClock_28 ?_
    refine gn_i (fun x4447 => ?_)
    refine lv_iconst (v := 1) hx hb dX9_readClock_29 (by decide) ?_
    refine lv_icmp_ne (tgt := 43) hx hb dX9_readClock_30 (by decide) (fun c4448 => ?_) (fun c4448 => ?_)
    · refine lv_aload_n hx hb dX9_readClock_43 rfl (lv_at hl 1 rfl) ?_
      refine lv_sipush (v := 999) hx hb dX9_readClock_44 (by decide) ?_
      refine cv_i (As := [.int 999]) (rest := []) (b := w) ⟨hx, hb, hml, hown, hts⟩ (c_X9_signed hT (w := w) hw (x := 999) hbT hdT hm) (cwV 1 hts gX9_readClock_X9_signed rfl rfl rfl hdX9_signed_v ⟨Nat.le_of_ble_eq_true rfl, Nat.le_of_ble_eq_true rfl⟩) hN hE hL (rcv10 hN hT hw.1) rfl rfl hl.1 (Nat.le_of_ble_eq_true rfl) dX9_readClock_47 (Nat.zero_le _) (Nat.zero_le _) (fun r4449 H1 locs hL hqr4449 => ?_)
      obtain ⟨hT1, hF1, hqr4449⟩ := hqr4449
      have hP : va_P D vwCl [(dr, .inl (cs 0, 1383, .inl f4430))] _ := hF1.hP (hP.sub [1] rfl) (fa_c ⟨by rw [hdT.1]; decide, by rw [hdT.2]; first | decide | (simp; done) | (simp; omega)⟩ fa_n)
      have hF := hF.tr (hF1.mono (by simp))
      have hT := hT1
      obtain ⟨p4450, er4451, a4452, z4453, m4454⟩ := hqr4449
      have hm := m4454
      have hm8 := hm.2.2.2.2.2.2.2
      refine lv_istore_n (lv' := [(2, .int r4449), (1, .int (nI n4441)), (0, .ref w)]) hx hb dX9_readClock_50 rfl hl (by decide) rfl (fun ls hl => ?_)
      refine lv_aload_n hx hb dX9_readClock_51 rfl (lv_at hl 2 rfl) ?_
      refine lv_bipush (v := 50) hx hb dX9_readClock_52 (by decide) ?_
      refine cv_i (As := [.int 50]) (rest := []) (b := w) ⟨hx, hb, hml, hown, hts⟩ (c_X9_signed hT (w := w) hw (x := 50) hbT hdT hm) (cwV 1 hts gX9_readClock_X9_signed rfl rfl rfl hdX9_signed_v ⟨Nat.le_of_ble_eq_true rfl, Nat.le_of_ble_eq_true rfl⟩) hN hE hL (rcv10 hN hT hw.1) rfl rfl hl.1 (Nat.le_of_ble_eq_true rfl) dX9_readClock_54 (Nat.zero_le _) (Nat.zero_le _) (fun r4455 H1 locs hL hqr4455 => ?_)
      obtain ⟨hT1, hF1, hqr4455⟩ := hqr4455
      have hP : va_P D vwCl [(dr, .inl (cs 0, 1383, .inl f4430))] _ := hF1.hP (hP.sub [0] rfl) (fa_c ⟨by rw [hdT.1]; decide, by rw [hdT.2]; first | decide | (simp; done) | (simp; omega)⟩ fa_n)
      have hF := hF.tr (hF1.mono (by simp))
      have hT := hT1
      obtain ⟨p4456, er4457, a4458, z4459, m4460⟩ := hqr4455
      have hm := m4460
      have hm8 := hm.2.2.2.2.2.2.2
      refine lv_istore_n (lv' := [(3, .int r4455), (2, .int r4449), (1, .int (nI n4441)), (0, .ref w)]) hx hb dX9_readClock_57 rfl hl (by decide) rfl (fun ls hl => ?_)
      refine lv_aload_n hx hb dX9_readClock_58 rfl (lv_at hl 3 rfl) ?_
      refine cv_i (As := []) (rest := []) (b := w) ⟨hx, hb, hml, hown, hts⟩ (c_X9_isGood hT (w := w) hw hbT hdT hm) (cwV 0 hts gX9_readClock_X9_isGood rfl rfl rfl hdX9_isGood_v ⟨Nat.le_of_ble_eq_true rfl, Nat.le_of_ble_eq_true rfl⟩) hN hE hL (rcv10 hN hT hw.1) rfl rfl hl.1 (Nat.le_of_ble_eq_true rfl) dX9_readClock_59 (Nat.zero_le _) (Nat.zero_le _) (fun r4461 H1 locs hL hqr4461 => ?_)
      obtain ⟨h9, hqr4461⟩ := hqr4461; replace h9 := h9.symm; subst h9
      rcases hqr4461 with ⟨rfl, e4462⟩ | ⟨rfl, e4463⟩
      · refine lv_if_ne (tgt := 66) hx hb dX9_readClock_62 (by decide) (fun _ => ?_) (fun c9 => absurd c9 (by decide))
        refine lv_aload_n hx hb dX9_readClock_66 rfl (lv_at hl 3 rfl) ?_
        refine lv_dup hx hb dX9_readClock_67 rfl ?_
        obtain ⟨hb4464, e4464, hat4464, hk4464⟩ := hT.o10 hw.1
        obtain ⟨f4464_0, f4464_1, f4464_3, f4464_4, f4464_5, f4464_6, f4464_7, f4464_9, f4464_10, f4464_11, f4464_12, f4464_13, f4464_14, f4464_15, f4464_16, f4464_17, rfl, c4464_2, c4464_3, c4464_4, c4464_12, t4464_1, t4464_8, t4464_9, c4464_sd, t4464_10, t4464_11, t4464_17⟩ := hk4464
        obtain ⟨rfl, rfl, rfl, rfl, rfl, rfl⟩ := hm.at hat4464 c4464_3 (by omega)
        have hm8 := hm.2.2.2.2.2.2.2
        have hP : va_P D vwCl [(w, .inr (9, [.int f4464_0, .ref bu, .int (nI ((κ w).2.2.1)), .int (nI tl), .int (nI p4456), .int er4457, .int f4464_6, .int f4464_7, .ref (κ w).2.2.2, .ref f4464_9, .ref dr, .ref f4464_11, .int (nI f4464_12), .int f4464_13, .int ns, .int f4464_15, .int f4464_16, .ref f4464_17])), (dr, .inl (cs 0, 1383, .inl f4430))] _ := va_P.cons hat4464 hP
        refine va_get (D := D) (ci := 9) (v := .int f4464_16) (C := RX9) (T := TX9) (N := 18) hx hb hts iX9_readClock_9 hown hN.1 hP 0 rfl rfl 16 (by decide) (hts _ mX9_readClock_2) (fun _ h9 => h9) rfl dX9_readClock_68 ?_
        refine lv_iconst (v := 1) hx hb dX9_readClock_71 (by decide) ?_
        refine lv_iload_n hx hb dX9_readClock_72 rfl (lv_at hl 2 rfl) ?_
        refine lv_ishl hx hb dX9_readClock_73 ?_
        refine gn_i (fun x4465 => ?_)
        refine lv_ior hx hb dX9_readClock_74 ?_
        refine gn_i (fun x4466 => ?_)
        have hB : Bx B0 D _ [(w, .inr (9, [.int f4464_0, .ref bu, .int (nI ((κ w).2.2.1)), .int (nI tl), .int (nI p4456), .int er4457, .int f4464_6, .int f4464_7, .ref (κ w).2.2.2, .ref f4464_9, .ref dr, .ref f4464_11, .int (nI f4464_12), .int f4464_13, .int ns, .int f4464_15, .int f4464_16, .ref f4464_17])), (dr, .inl (cs 0, 1383, .inl f4430))] [] _ _ := Bx.of (fun a => (κ a).1) hL hP (fa_c hb4464 (fa_c hbd fa_n)) (by simp only [List.map_cons, List.map_nil, hw.1, hdT.1]; decide)
        refine b_put (D := D) (ci := 9) (v := .int x4466) (ty := .int) (C := RX9) (T := TX9) (N := 18) hx hb hts iX9_readClock_9 tyX9 tyX9_ok nmX9 hown hN hB 0 rfl rfl 16 (by decide) (hts _ mX9_readClock_2) (fun _ h9 => h9) rfl (by decide +kernel) rfl rfl (Nat.le_of_ble_eq_true rfl) (.inl rfl) dX9_readClock_75 (fun H locs hB => ?_)
        have hB : Bx B0 D _ [(w, .inr (9, [.int f4464_0, .ref bu, .int (nI ((κ w).2.2.1)), .int (nI tl), .int (nI p4456), .int er4457, .int f4464_6, .int f4464_7, .ref (κ w).2.2.2, .ref f4464_9, .ref dr, .ref f4464_11, .int (nI f4464_12), .int f4464_13, .int ns, .int f4464_15, .int x4466, .ref f4464_17])), (dr, .inl (cs 0, 1383, .inl f4430))] [w] _ _ := hB
        refine lv_aload_n hx hb dX9_readClock_78 rfl (lv_at hl 3 rfl) ?_
        refine va_get (D := D) (ci := 9) (v := .ref dr) (C := RX9) (T := TX9) (N := 18) hx hb hts iX9_readClock_9 hown hN.1 hB.1 0 rfl rfl 10 (by decide) (hts _ mX9_readClock_1) (fun _ h9 => h9) rfl dX9_readClock_79 ?_
        refine lv_iload_n hx hb dX9_readClock_82 rfl (lv_at hl 2 rfl) ?_
        have hT : WT B0 D cs T κ _ := hT.close hB ⟨⟨0, _, rfl, ok_10 hw.1 ⟨_, _, _, _, _, _, _, _, _, _, _, _, _, _, _, _, rfl, (by omega), (by omega), (by omega), (by omega), hbT, t4464_8, t4464_9, c4464_sd, hdT, t4464_11, t4464_17⟩⟩, trivial⟩
        have hF : Fr B0 [12, 17] κ H0 _ := hF.close hB (fa_c (by simp [hw.2]) fa_n)
        have hL : OkL B0 _ := hB.2.2.2.2.2
        have hP : va_P D vwCl [(w, .inr (9, [.int f4464_0, .ref bu, .int (nI ((κ w).2.2.1)), .int (nI tl), .int (nI p4456), .int er4457, .int f4464_6, .int f4464_7, .ref (κ w).2.2.2, .ref f4464_9, .ref dr, .ref f4464_11, .int (nI f4464_12), .int f4464_13, .int ns, .int f4464_15, .int x4466, .ref f4464_17])), (dr, .inl (cs 0, 1383, .inl f4430))] _ := hB.1
        have hbu9 := (hm.2.2.2.2.2.2.1).kept (hB.2.2.2.1 _ hm.2.2.2.2.2.2.1.lt (by simp only [List.mem_cons, List.not_mem_nil, or_false, not_or]; exact ne_c hbT.1 hw.1 (by decide)))
        have hm : MF D cs w _ (p4456) (tl) (er4457) (ns) dr bu g := ⟨⟨_, hP 0 _ rfl, rfl⟩, ⟨_, hP 0 _ rfl, rfl⟩, ⟨_, hP 0 _ rfl, rfl⟩, ⟨_, hP 0 _ rfl, rfl⟩, ⟨_, hP 0 _ rfl, rfl⟩, ⟨_, hP 0 _ rfl, rfl⟩, hbu9, (by omega), (by omega)⟩
        refine cs_i (As := [.int (nI n4441)]) (rest := [.ref dr]) ⟨hx, hb, hml, hown, hts⟩ (c_X9_playerAt hT (n := n4441) (by first | omega | decide | assumption)) (va_cwS 1 hts gX9_readClock_X9_playerAt rfl rfl rfl hdX9_playerAt_o ⟨Nat.le_of_ble_eq_true rfl, Nat.le_of_ble_eq_true rfl⟩) hN hE hL rfl rfl hl.1 (Nat.le_of_ble_eq_true rfl) dX9_readClock_83 (Nat.zero_le _) (Nat.zero_le _) (fun r4467 H1 locs hL hqr4467 => ?_)
        obtain ⟨h9, hqr4467⟩ := hqr4467; replace h9 := h9.symm; subst h9
        obtain rfl := hqr4467
        refine lv_iconst (v := 1) hx hb dX9_readClock_86 (by decide) ?_
        refine lv_iadd hx hb dX9_readClock_87 ?_
        refine tp_i (nI ((23 + 12 * n4441) + 1)) (nI_add (23 + 12 * n4441) 1) ?_
        refine lv_iload_n hx hb dX9_readClock_88 rfl (lv_at hl 1 rfl) ?_
        have hB : Bx B0 D _ [(w, .inr (9, [.int f4464_0, .ref bu, .int (nI ((κ w).2.2.1)), .int (nI tl), .int (nI p4456), .int er4457, .int f4464_6, .int f4464_7, .ref (κ w).2.2.2, .ref f4464_9, .ref dr, .ref f4464_11, .int (nI f4464_12), .int f4464_13, .int ns, .int f4464_15, .int x4466, .ref f4464_17])), (dr, .inl (cs 0, 1383, .inl f4430))] [] _ _ := Bx.of (fun a => (κ a).1) hL hP (fa_c hb4464 (fa_c hbd fa_n)) (by simp only [List.map_cons, List.map_nil, hw.1, hdT.1]; decide)
        refine b_i hx hb hN hB 1 rfl (vp_in_nI (n := ((23 + 12 * n4441) + 1)) (N := 1383) (by omega) (by omega)) (.inl rfl) dX9_readClock_89 (fun H locs hB => ?_)
        rw [(show ((nI ((23 + 12 * n4441) + 1)) : Int32).toNatClampNeg = ((23 + 12 * n4441) + 1) from nI_clamp (n := ((23 + 12 * n4441) + 1)) (by omega))] at hB
        have hB : Bx B0 D _ [(w, .inr (9, [.int f4464_0, .ref bu, .int (nI ((κ w).2.2.1)), .int (nI tl), .int (nI p4456), .int er4457, .int f4464_6, .int f4464_7, .ref (κ w).2.2.2, .ref f4464_9, .ref dr, .ref f4464_11, .int (nI f4464_12), .int f4464_13, .int ns, .int f4464_15, .int x4466, .ref f4464_17])), (dr, .inl (cs 0, 1383, .inl (upd f4430 ((23 + 12 * n4441) + 1) r4449)))] [dr] _ _ := hB
        have z4468 := DRK.sf hDR (k := ((23 + 12 * n4441) + 1)) (by omega) (x := r4449)
        have e4469 := (pk_un (f := f4430) (x := r4449) (show 14 ≠ ((23 + 12 * n4441) + 1) by omega)).trans e4430
        have e4470 := (pk_un (f := f4430) (x := r4449) (show 0 ≠ ((23 + 12 * n4441) + 1) by omega)).trans en4433
        refine lv_aload_n hx hb dX9_readClock_90 rfl (lv_at hl 3 rfl) ?_
        refine va_get (D := D) (ci := 9) (v := .ref dr) (C := RX9) (T := TX9) (N := 18) hx hb hts iX9_readClock_9 hown hN.1 hB.1 0 rfl rfl 10 (by decide) (hts _ mX9_readClock_1) (fun _ h9 => h9) rfl dX9_readClock_91 ?_
        refine lv_iload_n hx hb dX9_readClock_94 rfl (lv_at hl 2 rfl) ?_
        have hT : WT B0 D cs T κ _ := hT.close hB ⟨⟨1, _, rfl, ok_26 hdT.1 ⟨_, rfl, z4468⟩⟩, trivial⟩
        have hF : Fr B0 [12, 17] κ H0 _ := hF.close hB (fa_c (by simp [hdT.2]) fa_n)
        have hL : OkL B0 _ := hB.2.2.2.2.2
        have hP : va_P D vwCl [(w, .inr (9, [.int f4464_0, .ref bu, .int (nI ((κ w).2.2.1)), .int (nI tl), .int (nI p4456), .int er4457, .int f4464_6, .int f4464_7, .ref (κ w).2.2.2, .ref f4464_9, .ref dr, .ref f4464_11, .int (nI f4464_12), .int f4464_13, .int ns, .int f4464_15, .int x4466, .ref f4464_17])), (dr, .inl (cs 0, 1383, .inl (upd f4430 ((23 + 12 * n4441) + 1) r4449)))] _ := hB.1
        have hm := hm.kp hB (by simp only [List.mem_cons, List.not_mem_nil, or_false, not_or]; exact ne_c hbT.1 hdT.1 (by decide)) (by simp only [List.mem_cons, List.not_mem_nil, or_false, not_or]; exact ne_c hw.1 hdT.1 (by decide))
        refine cs_i (As := [.int (nI n4441)]) (rest := [.ref dr]) ⟨hx, hb, hml, hown, hts⟩ (c_X9_playerAt hT (n := n4441) (by first | omega | decide | assumption)) (va_cwS 1 hts gX9_readClock_X9_playerAt rfl rfl rfl hdX9_playerAt_o ⟨Nat.le_of_ble_eq_true rfl, Nat.le_of_ble_eq_true rfl⟩) hN hE hL rfl rfl hl.1 (Nat.le_of_ble_eq_true rfl) dX9_readClock_95 (Nat.zero_le _) (Nat.zero_le _) (fun r4471 H1 locs hL hqr4471 => ?_)
        obtain ⟨h9, hqr4471⟩ := hqr4471; replace h9 := h9.symm; subst h9
        obtain rfl := hqr4471
        refine lv_iconst (v := 2) hx hb dX9_readClock_98 (by decide) ?_
        refine lv_iadd hx hb dX9_readClock_99 ?_
        refine tp_i (nI ((23 + 12 * n4441) + 2)) (nI_add (23 + 12 * n4441) 2) ?_
        refine lv_iload_n hx hb dX9_readClock_100 rfl (lv_at hl 0 rfl) ?_
        have hB : Bx B0 D _ [(w, .inr (9, [.int f4464_0, .ref bu, .int (nI ((κ w).2.2.1)), .int (nI tl), .int (nI p4456), .int er4457, .int f4464_6, .int f4464_7, .ref (κ w).2.2.2, .ref f4464_9, .ref dr, .ref f4464_11, .int (nI f4464_12), .int f4464_13, .int ns, .int f4464_15, .int x4466, .ref f4464_17])), (dr, .inl (cs 0, 1383, .inl (upd f4430 ((23 + 12 * n4441) + 1) r4449)))] [] _ _ := Bx.of (fun a => (κ a).1) hL hP (fa_c hb4464 (fa_c hbd fa_n)) (by simp only [List.map_cons, List.map_nil, hw.1, hdT.1]; decide)
        refine b_i hx hb hN hB 1 rfl (vp_in_nI (n := ((23 + 12 * n4441) + 2)) (N := 1383) (by omega) (by omega)) (.inl rfl) dX9_readClock_101 (fun H locs hB => ?_)
        rw [(show ((nI ((23 + 12 * n4441) + 2)) : Int32).toNatClampNeg = ((23 + 12 * n4441) + 2) from nI_clamp (n := ((23 + 12 * n4441) + 2)) (by omega))] at hB
        have hB : Bx B0 D _ [(w, .inr (9, [.int f4464_0, .ref bu, .int (nI ((κ w).2.2.1)), .int (nI tl), .int (nI p4456), .int er4457, .int f4464_6, .int f4464_7, .ref (κ w).2.2.2, .ref f4464_9, .ref dr, .ref f4464_11, .int (nI f4464_12), .int f4464_13, .int ns, .int f4464_15, .int x4466, .ref f4464_17])), (dr, .inl (cs 0, 1383, .inl (upd (upd f4430 ((23 + 12 * n4441) + 1) r4449) ((23 + 12 * n4441) + 2) r4455)))] [dr] _ _ := hB
        have z4472 := DRK.sf z4468 (k := ((23 + 12 * n4441) + 2)) (by omega) (x := r4455)
        have e4473 := (pk_un (f := (upd f4430 ((23 + 12 * n4441) + 1) r4449)) (x := r4455) (show 14 ≠ ((23 + 12 * n4441) + 2) by omega)).trans e4469
        have e4474 := (pk_un (f := (upd f4430 ((23 + 12 * n4441) + 1) r4449)) (x := r4455) (show 0 ≠ ((23 + 12 * n4441) + 2) by omega)).trans e4470
        have hT : WT B0 D cs T κ _ := hT.close hB ⟨⟨1, _, rfl, ok_26 hdT.1 ⟨_, rfl, z4472⟩⟩, trivial⟩
        have hF : Fr B0 [12, 17] κ H0 _ := hF.close hB (fa_c (by simp [hdT.2]) fa_n)
        have hL : OkL B0 _ := hB.2.2.2.2.2
        have hP : va_P D vwCl [(w, .inr (9, [.int f4464_0, .ref bu, .int (nI ((κ w).2.2.1)), .int (nI tl), .int (nI p4456), .int er4457, .int f4464_6, .int f4464_7, .ref (κ w).2.2.2, .ref f4464_9, .ref dr, .ref f4464_11, .int (nI f4464_12), .int f4464_13, .int ns, .int f4464_15, .int x4466, .ref f4464_17])), (dr, .inl (cs 0, 1383, .inl (upd (upd f4430 ((23 + 12 * n4441) + 1) r4449) ((23 + 12 * n4441) + 2) r4455)))] _ := hB.1
        have hm := hm.kp hB (by simp only [List.mem_cons, List.not_mem_nil, or_false, not_or]; exact ne_c hbT.1 hdT.1 (by decide)) (by simp only [List.mem_cons, List.not_mem_nil, or_false, not_or]; exact ne_c hw.1 hdT.1 (by decide))
        have hps : PS D cs w _ (p4456) (tl) (er4457) (ns) dr bu g (N) (h) := ⟨hm, (upd (upd f4430 ((23 + 12 * n4441) + 1) r4449) ((23 + 12 * n4441) + 2) r4455), hP 1 _ rfl, e4473, by omega, (CVu (by omega) (CVu (by omega) (fun e9 => (fun e9 => (fun e9 => v4430 ((fun e9 => (z4438 e9).1) e9)) (z4453 e9)) (z4459 e9))))⟩
        exact en_v hx hb hr hlocks hL (Nat.zero_le _) (Nat.zero_le _) dX9_readClock_102 (⟨hT, hF, p4456, er4457, (by omega), (fun e9 => (fun e9 => (fun e9 => id ((fun e9 => (z4438 e9).1) e9)) (z4453 e9)) (z4459 e9)), hps⟩)
      · refine lv_if_ne (tgt := 66) hx hb dX9_readClock_62 (by decide) (fun c9 => absurd (by decide) c9) (fun _ => ?_)
        have hps : PS D cs w _ (p4456) (tl) (er4457) (ns) dr bu g (N) (h) := ⟨hm, f4430, hP 0 _ rfl, e4430, by omega, (fun e9 => (fun e9 => (fun e9 => v4430 ((fun e9 => (z4438 e9).1) e9)) (z4453 e9)) (z4459 e9))⟩
        exact en_v hx hb hr hlocks hL (Nat.zero_le _) (Nat.zero_le _) dX9_readClock_65 (⟨hT, hF, p4456, er4457, (by omega), (fun e9 => (fun e9 => (fun e9 => id ((fun e9 => (z4438 e9).1) e9)) (z4453 e9)) (z4459 e9)), hps⟩)
    · refine lv_aload_n hx hb dX9_readClock_33 rfl (lv_at hl 1 rfl) ?_
      refine lv_bipush (v := (-4)) hx hb dX9_readClock_34 (by decide) ?_
      refine lv_aload_n hx hb dX9_readClock_36 rfl (lv_at hl 1 rfl) ?_
      refine va_get (D := D) (ci := 9) (v := .int f4445_13) (C := RX9) (T := TX9) (N := 18) hx hb hts iX9_readClock_9 hown hN.1 hP 0 rfl rfl 13 (by decide) (hts _ mX9_readClock_3) (fun _ h9 => h9) rfl dX9_readClock_37 ?_
      refine cv_v (As := [.int (-4), .int f4445_13]) (rest := []) (b := w) ⟨hx, hb, hml, hown, hts⟩ (c_X9_report hT (w := w) hw (x := (-4)) (y := f4445_13) hbT hdT hm ((by decide))) (cwV 2 hts gX9_readClock_X9_report rfl rfl rfl hdX9_report_v ⟨Nat.le_of_ble_eq_true rfl, Nat.le_of_ble_eq_true rfl⟩) hN hE hL (rcv10 hN hT hw.1) rfl rfl hl.1 (Nat.le_of_ble_eq_true rfl) dX9_readClock_40 (Nat.zero_le _) (Nat.zero_le _) (fun H1 locs hL hqr4475 => ?_)
      obtain ⟨hT1, hF1, hqr4475⟩ := hqr4475
      have hP : va_P D vwCl [(dr, .inl (cs 0, 1383, .inl f4430))] _ := hF1.hP (hP.sub [1] rfl) (fa_c ⟨by rw [hdT.1]; decide, by rw [hdT.2]; first | decide | (simp; done) | (simp; omega)⟩ fa_n)
      have hF := hF.tr (hF1.mono (by simp))
      have hT := hT1
      obtain ⟨er4476, z4477, m4478⟩ := hqr4475
      have hm := m4478
      have hm8 := hm.2.2.2.2.2.2.2
      refine lv_aload_n hx hb dX9_readClock_43 rfl (lv_at hl 1 rfl) ?_
      refine lv_sipush (v := 999) hx hb dX9_readClock_44 (by decide) ?_
      refine cv_i (As := [.int 999]) (rest := []) (b := w) ⟨hx, hb, hml, hown, hts⟩ (c_X9_signed hT (w := w) hw (x := 999) hbT hdT hm) (cwV 1 hts gX9_readClock_X9_signed rfl rfl rfl hdX9_signed_v ⟨Nat.le_of_ble_eq_true rfl, Nat.le_of_ble_eq_true rfl⟩) hN hE hL (rcv10 hN hT hw.1) rfl rfl hl.1 (Nat.le_of_ble_eq_true rfl) dX9_readClock_47 (Nat.zero_le _) (Nat.zero_le _) (fun r4479 H1 locs hL hqr4479 => ?_)
      obtain ⟨hT1, hF1, hqr4479⟩ := hqr4479
      have hP : va_P D vwCl [(dr, .inl (cs 0, 1383, .inl f4430))] _ := hF1.hP (hP.sub [0] rfl) (fa_c ⟨by rw [hdT.1]; decide, by rw [hdT.2]; first | decide | (simp; done) | (simp; omega)⟩ fa_n)
      have hF := hF.tr (hF1.mono (by simp))
      have hT := hT1
      obtain ⟨p4480, er4481, a4482, z4483, m4484⟩ := hqr4479
      have hm := m4484
      have hm8 := hm.2.2.2.2.2.2.2
      refine lv_istore_n (lv' := [(2, .int r4479), (1, .int (nI n4441)), (0, .ref w)]) hx hb dX9_readClock_50 rfl hl (by decide) rfl (fun ls hl => ?_)
      refine lv_aload_n hx hb dX9_readClock_51 rfl (lv_at hl 2 rfl) ?_
      refine lv_bipush (v := 50) hx hb dX9_readClock_52 (by decide) ?_
      refine cv_i (As := [.int 50]) (rest := []) (b := w) ⟨hx, hb, hml, hown, hts⟩ (c_X9_signed hT (w := w) hw (x := 50) hbT hdT hm) (cwV 1 hts gX9_readClock_X9_signed rfl rfl rfl hdX9_signed_v ⟨Nat.le_of_ble_eq_true rfl, Nat.le_of_ble_eq_true rfl⟩) hN hE hL (rcv10 hN hT hw.1) rfl rfl hl.1 (Nat.le_of_ble_eq_true rfl) dX9_readClock_54 (Nat.zero_le _) (Nat.zero_le _) (fun r4485 H1 locs hL hqr4485 => ?_)
      obtain ⟨hT1, hF1, hqr4485⟩ := hqr4485
      have hP : va_P D vwCl [(dr, .inl (cs 0, 1383, .inl f4430))] _ := hF1.hP (hP.sub [0] rfl) (fa_c ⟨by rw [hdT.1]; decide, by rw [hdT.2]; first | decide | (simp; done) | (simp; omega)⟩ fa_n)
      have hF := hF.tr (hF1.mono (by simp))
      have hT := hT1
      obtain ⟨p4486, er4487, a4488, z4489, m4490⟩ := hqr4485
      have hm := m4490
      have hm8 := hm.2.2.2.2.2.2.2
      refine lv_istore_n (lv' := [(3, .int r4485), (2, .int r4479), (1, .int (nI n4441)), (0, .ref w)]) hx hb dX9_readClock_57 rfl hl (by decide) rfl (fun ls hl => ?_)
      refine lv_aload_n hx hb dX9_readClock_58 rfl (lv_at hl 3 rfl) ?_
      refine cv_i (As := []) (rest := []) (b := w) ⟨hx, hb, hml, hown, hts⟩ (c_X9_isGood hT (w := w) hw hbT hdT hm) (cwV 0 hts gX9_readClock_X9_isGood rfl rfl rfl hdX9_isGood_v ⟨Nat.le_of_ble_eq_true rfl, Nat.le_of_ble_eq_true rfl⟩) hN hE hL (rcv10 hN hT hw.1) rfl rfl hl.1 (Nat.le_of_ble_eq_true rfl) dX9_readClock_59 (Nat.zero_le _) (Nat.zero_le _) (fun r4491 H1 locs hL hqr4491 => ?_)
      obtain ⟨h9, hqr4491⟩ := hqr4491; replace h9 := h9.symm; subst h9
      rcases hqr4491 with ⟨rfl, e4492⟩ | ⟨rfl, e4493⟩
      · refine lv_if_ne (tgt := 66) hx hb dX9_readClock_62 (by decide) (fun _ => ?_) (fun c9 => absurd c9 (by decide))
        refine lv_aload_n hx hb dX9_readClock_66 rfl (lv_at hl 3 rfl) ?_
        refine lv_dup hx hb dX9_readClock_67 rfl ?_
        obtain ⟨hb4494, e4494, hat4494, hk4494⟩ := hT.o10 hw.1
        obtain ⟨f4494_0, f4494_1, f4494_3, f4494_4, f4494_5, f4494_6, f4494_7, f4494_9, f4494_10, f4494_11, f4494_12, f4494_13, f4494_14, f4494_15, f4494_16, f4494_17, rfl, c4494_2, c4494_3, c4494_4, c4494_12, t4494_1, t4494_8, t4494_9, c4494_sd, t4494_10, t4494_11, t4494_17⟩ := hk4494
        obtain ⟨rfl, rfl, rfl, rfl, rfl, rfl⟩ := hm.at hat4494 c4494_3 (by omega)
        have hm8 := hm.2.2.2.2.2.2.2
        have hP : va_P D vwCl [(w, .inr (9, [.int f4494_0, .ref bu, .int (nI ((κ w).2.2.1)), .int (nI tl), .int (nI p4486), .int er4487, .int f4494_6, .int f4494_7, .ref (κ w).2.2.2, .ref f4494_9, .ref dr, .ref f4494_11, .int (nI f4494_12), .int f4494_13, .int ns, .int f4494_15, .int f4494_16, .ref f4494_17])), (dr, .inl (cs 0, 1383, .inl f4430))] _ := va_P.cons hat4494 hP
        refine va_get (D := D) (ci := 9) (v := .int f4494_16) (C := RX9) (T := TX9) (N := 18) hx hb hts iX9_readClock_9 hown hN.1 hP 0 rfl rfl 16 (by decide) (hts _ mX9_readClock_2) (fun _ h9 => h9) rfl dX9_readClock_68 ?_
        refine lv_iconst (v := 1) hx hb dX9_readClock_71 (by decide) ?_
        refine lv_iload_n hx hb dX9_readClock_72 rfl (lv_at hl 2 rfl) ?_
        refine lv_ishl hx hb dX9_readClock_73 ?_
        refine gn_i (fun x4495 => ?_)
        refine lv_ior hx hb dX9_readClock_74 ?_
        refine gn_i (fun x4496 => ?_)
        have hB : Bx B0 D _ [(w, .inr (9, [.int f4494_0, .ref bu, .int (nI ((κ w).2.2.1)), .int (nI tl), .int (nI p4486), .int er4487, .int f4494_6, .int f4494_7, .ref (κ w).2.2.2, .ref f4494_9, .ref dr, .ref f4494_11, .int (nI f4494_12), .int f4494_13, .int ns, .int f4494_15, .int f4494_16, .ref f4494_17])), (dr, .inl (cs 0, 1383, .inl f4430))] [] _ _ := Bx.of (fun a => (κ a).1) hL hP (fa_c hb4494 (fa_c hbd fa_n)) (by simp only [List.map_cons, List.map_nil, hw.1, hdT.1]; decide)
        refine b_put (D := D) (ci := 9) (v := .int x4496) (ty := .int) (C := RX9) (T := TX9) (N := 18) hx hb hts iX9_readClock_9 tyX9 tyX9_ok nmX9 hown hN hB 0 rfl rfl 16 (by decide) (hts _ mX9_readClock_2) (fun _ h9 => h9) rfl (by decide +kernel) rfl rfl (Nat.le_of_ble_eq_true rfl) (.inl rfl) dX9_readClock_75 (fun H locs hB => ?_)
        have hB : Bx B0 D _ [(w, .inr (9, [.int f4494_0, .ref bu, .int (nI ((κ w).2.2.1)), .int (nI tl), .int (nI p4486), .int er4487, .int f4494_6, .int f4494_7, .ref (κ w).2.2.2, .ref f4494_9, .ref dr, .ref f4494_11, .int (nI f4494_12), .int f4494_13, .int ns, .int f4494_15, .int x4496, .ref f4494_17])), (dr, .inl (cs 0, 1383, .inl f4430))] [w] _ _ := hB
        refine lv_aload_n hx hb dX9_readClock_78 rfl (lv_at hl 3 rfl) ?_
        refine va_get (D := D) (ci := 9) (v := .ref dr) (C := RX9) (T := TX9) (N := 18) hx hb hts iX9_readClock_9 hown hN.1 hB.1 0 rfl rfl 10 (by decide) (hts _ mX9_readClock_1) (fun _ h9 => h9) rfl dX9_readClock_79 ?_
        refine lv_iload_n hx hb dX9_readClock_82 rfl (lv_at hl 2 rfl) ?_
        have hT : WT B0 D cs T κ _ := hT.close hB ⟨⟨0, _, rfl, ok_10 hw.1 ⟨_, _, _, _, _, _, _, _, _, _, _, _, _, _, _, _, rfl, (by omega), (by omega), (by omega), (by omega), hbT, t4494_8, t4494_9, c4494_sd, hdT, t4494_11, t4494_17⟩⟩, trivial⟩
        have hF : Fr B0 [12, 17] κ H0 _ := hF.close hB (fa_c (by simp [hw.2]) fa_n)
        have hL : OkL B0 _ := hB.2.2.2.2.2
        have hP : va_P D vwCl [(w, .inr (9, [.int f4494_0, .ref bu, .int (nI ((κ w).2.2.1)), .int (nI tl), .int (nI p4486), .int er4487, .int f4494_6, .int f4494_7, .ref (κ w).2.2.2, .ref f4494_9, .ref dr, .ref f4494_11, .int (nI f4494_12), .int f4494_13, .int ns, .int f4494_15, .int x4496, .ref f4494_17])), (dr, .inl (cs 0, 1383, .inl f4430))] _ := hB.1
        have hbu9 := (hm.2.2.2.2.2.2.1).kept (hB.2.2.2.1 _ hm.2.2.2.2.2.2.1.lt (by simp only [List.mem_cons, List.not_mem_nil, or_false, not_or]; exact ne_c hbT.1 hw.1 (by decide)))
        have hm : MF D cs w _ (p4486) (tl) (er4487) (ns) dr bu g := ⟨⟨_, hP 0 _ rfl, rfl⟩, ⟨_, hP 0 _ rfl, rfl⟩, ⟨_, hP 0 _ rfl, rfl⟩, ⟨_, hP 0 _ rfl, rfl⟩, ⟨_, hP 0 _ rfl, rfl⟩, ⟨_, hP 0 _ rfl, rfl⟩, hbu9, (by omega), (by omega)⟩
        refine cs_i (As := [.int (nI n4441)]) (rest := [.ref dr]) ⟨hx, hb, hml, hown, hts⟩ (c_X9_playerAt hT (n := n4441) (by first | omega | decide | assumption)) (va_cwS 1 hts gX9_readClock_X9_playerAt rfl rfl rfl hdX9_playerAt_o ⟨Nat.le_of_ble_eq_true rfl, Nat.le_of_ble_eq_true rfl⟩) hN hE hL rfl rfl hl.1 (Nat.le_of_ble_eq_true rfl) dX9_readClock_83 (Nat.zero_le _) (Nat.zero_le _) (fun r4497 H1 locs hL hqr4497 => ?_)
        obtain ⟨h9, hqr4497⟩ := hqr4497; replace h9 := h9.symm; subst h9
        obtain rfl := hqr4497
        refine lv_iconst (v := 1) hx hb dX9_readClock_86 (by decide) ?_
        refine lv_iadd hx hb dX9_readClock_87 ?_
        refine tp_i (nI ((23 + 12 * n4441) + 1)) (nI_add (23 + 12 * n4441) 1) ?_
        refine lv_iload_n hx hb dX9_readClock_88 rfl (lv_at hl 1 rfl) ?_
        have hB : Bx B0 D _ [(w, .inr (9, [.int f4494_0, .ref bu, .int (nI ((κ w).2.2.1)), .int (nI tl), .int (nI p4486), .int er4487, .int f4494_6, .int f4494_7, .ref (κ w).2.2.2, .ref f4494_9, .ref dr, .ref f4494_11, .int (nI f4494_12), .int f4494_13, .int ns, .int f4494_15, .int x4496, .ref f4494_17])), (dr, .inl (cs 0, 1383, .inl f4430))] [] _ _ := Bx.of (fun a => (κ a).1) hL hP (fa_c hb4494 (fa_c hbd fa_n)) (by simp only [List.map_cons, List.map_nil, hw.1, hdT.1]; decide)
        refine b_i hx hb hN hB 1 rfl (vp_in_nI (n := ((23 + 12 * n4441) + 1)) (N := 1383) (by omega) (by omega)) (.inl rfl) dX9_readClock_89 (fun H locs hB => ?_)
        rw [(show ((nI ((23 + 12 * n4441) + 1)) : Int32).toNatClampNeg = ((23 + 12 * n4441) + 1) from nI_clamp (n := ((23 + 12 * n4441) + 1)) (by omega))] at hB
        have hB : Bx B0 D _ [(w, .inr (9, [.int f4494_0, .ref bu, .int (nI ((κ w).2.2.1)), .int (nI tl), .int (nI p4486), .int er4487, .int f4494_6, .int f4494_7, .ref (κ w).2.2.2, .ref f4494_9, .ref dr, .ref f4494_11, .int (nI f4494_12), .int f4494_13, .int ns, .int f4494_15, .int x4496, .ref f4494_17])), (dr, .inl (cs 0, 1383, .inl (upd f4430 ((23 + 12 * n4441) + 1) r4479)))] [dr] _ _ := hB
        have z4498 := DRK.sf hDR (k := ((23 + 12 * n4441) + 1)) (by omega) (x := r4479)
        have e4499 := (pk_un (f := f4430) (x := r4479) (show 14 ≠ ((23 + 12 * n4441) + 1) by omega)).trans e4430
        have e4500 := (pk_un (f := f4430) (x := r4479) (show 0 ≠ ((23 + 12 * n4441) + 1) by omega)).trans en4433
        refine lv_aload_n hx hb dX9_readClock_90 rfl (lv_at hl 3 rfl) ?_
        refine va_get (D := D) (ci := 9) (v := .ref dr) (C := RX9) (T := TX9) (N := 18) hx hb hts iX9_readClock_9 hown hN.1 hB.1 0 rfl rfl 10 (by decide) (hts _ mX9_readClock_1) (fun _ h9 => h9) rfl dX9_readClock_91 ?_
        refine lv_iload_n hx hb dX9_readClock_94 rfl (lv_at hl 2 rfl) ?_
        have hT : WT B0 D cs T κ _ := hT.close hB ⟨⟨1, _, rfl, ok_26 hdT.1 ⟨_, rfl, z4498⟩⟩, trivial⟩
        have hF : Fr B0 [12, 17] κ H0 _ := hF.close hB (fa_c (by simp [hdT.2]) fa_n)
        have hL : OkL B0 _ := hB.2.2.2.2.2
        have hP : va_P D vwCl [(w, .inr (9, [.int f4494_0, .ref bu, .int (nI ((κ w).2.2.1)), .int (nI tl), .int (nI p4486), .int er4487, .int f4494_6, .int f4494_7, .ref (κ w).2.2.2, .ref f4494_9, .ref dr, .ref f4494_11, .int (nI f4494_12), .int f4494_13, .int ns, .int f4494_15, .int x4496, .ref f4494_17])), (dr, .inl (cs 0, 1383, .inl (upd f4430 ((23 + 12 * n4441) + 1) r4479)))] _ := hB.1
        have hm := hm.kp hB (by simp only [List.mem_cons, List.not_mem_nil, or_false, not_or]; exact ne_c hbT.1 hdT.1 (by decide)) (by simp only [List.mem_cons, List.not_mem_nil, or_false, not_or]; exact ne_c hw.1 hdT.1 (by decide))
        refine cs_i (As := [.int (nI n4441)]) (rest := [.ref dr]) ⟨hx, hb, hml, hown, hts⟩ (c_X9_playerAt hT (n := n4441) (by first | omega | decide | assumption)) (va_cwS 1 hts gX9_readClock_X9_playerAt rfl rfl rfl hdX9_playerAt_o ⟨Nat.le_of_ble_eq_true rfl, Nat.le_of_ble_eq_true rfl⟩) hN hE hL rfl rfl hl.1 (Nat.le_of_ble_eq_true rfl) dX9_readClock_95 (Nat.zero_le _) (Nat.zero_le _) (fun r4501 H1 locs hL hqr4501 => ?_)
        obtain ⟨h9, hqr4501⟩ := hqr4501; replace h9 := h9.symm; subst h9
        obtain rfl := hqr4501
        refine lv_iconst (v := 2) hx hb dX9_readClock_98 (by decide) ?_
        refine lv_iadd hx hb dX9_readClock_99 ?_
        refine tp_i (nI ((23 + 12 * n4441) + 2)) (nI_add (23 + 12 * n4441) 2) ?_
        refine lv_iload_n hx hb dX9_readClock_100 rfl (lv_at hl 0 rfl) ?_
        have hB : Bx B0 D _ [(w, .inr (9, [.int f4494_0, .ref bu, .int (nI ((κ w).2.2.1)), .int (nI tl), .int (nI p4486), .int er4487, .int f4494_6, .int f4494_7, .ref (κ w).2.2.2, .ref f4494_9, .ref dr, .ref f4494_11, .int (nI f4494_12), .int f4494_13, .int ns, .int f4494_15, .int x4496, .ref f4494_17])), (dr, .inl (cs 0, 1383, .inl (upd f4430 ((23 + 12 * n4441) + 1) r4479)))] [] _ _ := Bx.of (fun a => (κ a).1) hL hP (fa_c hb4494 (fa_c hbd fa_n)) (by simp only [List.map_cons, List.map_nil, hw.1, hdT.1]; decide)
        refine b_i hx hb hN hB 1 rfl (vp_in_nI (n := ((23 + 12 * n4441) + 2)) (N := 1383) (by omega) (by omega)) (.inl rfl) dX9_readClock_101 (fun H locs hB => ?_)
        rw [(show ((nI ((23 + 12 * n4441) + 2)) : Int32).toNatClampNeg = ((23 + 12 * n4441) + 2) from nI_clamp (n := ((23 + 12 * n4441) + 2)) (by omega))] at hB
        have hB : Bx B0 D _ [(w, .inr (9, [.int f4494_0, .ref bu, .int (nI ((κ w).2.2.1)), .int (nI tl), .int (nI p4486), .int er4487, .int f4494_6, .int f4494_7, .ref (κ w).2.2.2, .ref f4494_9, .ref dr, .ref f4494_11, .int (nI f4494_12), .int f4494_13, .int ns, .int f4494_15, .int x4496, .ref f4494_17])), (dr, .inl (cs 0, 1383, .inl (upd (upd f4430 ((23 + 12 * n4441) + 1) r4479) ((23 + 12 * n4441) + 2) r4485)))] [dr] _ _ := hB
        have z4502 := DRK.sf z4498 (k := ((23 + 12 * n4441) + 2)) (by omega) (x := r4485)
        have e4503 := (pk_un (f := (upd f4430 ((23 + 12 * n4441) + 1) r4479)) (x := r4485) (show 14 ≠ ((23 + 12 * n4441) + 2) by omega)).trans e4499
        have e4504 := (pk_un (f := (upd f4430 ((23 + 12 * n4441) + 1) r4479)) (x := r4485) (show 0 ≠ ((23 + 12 * n4441) + 2) by omega)).trans e4500
        have hT : WT B0 D cs T κ _ := hT.close hB ⟨⟨1, _, rfl, ok_26 hdT.1 ⟨_, rfl, z4502⟩⟩, trivial⟩
        have hF : Fr B0 [12, 17] κ H0 _ := hF.close hB (fa_c (by simp [hdT.2]) fa_n)
        have hL : OkL B0 _ := hB.2.2.2.2.2
        have hP : va_P D vwCl [(w, .inr (9, [.int f4494_0, .ref bu, .int (nI ((κ w).2.2.1)), .int (nI tl), .int (nI p4486), .int er4487, .int f4494_6, .int f4494_7, .ref (κ w).2.2.2, .ref f4494_9, .ref dr, .ref f4494_11, .int (nI f4494_12), .int f4494_13, .int ns, .int f4494_15, .int x4496, .ref f4494_17])), (dr, .inl (cs 0, 1383, .inl (upd (upd f4430 ((23 + 12 * n4441) + 1) r4479) ((23 + 12 * n4441) + 2) r4485)))] _ := hB.1
        have hm := hm.kp hB (by simp only [List.mem_cons, List.not_mem_nil, or_false, not_or]; exact ne_c hbT.1 hdT.1 (by decide)) (by simp only [List.mem_cons, List.not_mem_nil, or_false, not_or]; exact ne_c hw.1 hdT.1 (by decide))
        have hps : PS D cs w _ (p4486) (tl) (er4487) (ns) dr bu g (N) (h) := ⟨hm, (upd (upd f4430 ((23 + 12 * n4441) + 1) r4479) ((23 + 12 * n4441) + 2) r4485), hP 1 _ rfl, e4503, by omega, (CVu (by omega) (CVu (by omega) (fun e9 => (fun e9 => (fun e9 => absurd e9 z4477) (z4483 e9)) (z4489 e9))))⟩
        exact en_v hx hb hr hlocks hL (Nat.zero_le _) (Nat.zero_le _) dX9_readClock_102 (⟨hT, hF, p4486, er4487, (by omega), (fun e9 => (fun e9 => (fun e9 => (fun e9 => id ((fun e9 => (z4438 e9).1) e9)) ((fun e9 => absurd e9 z4477) e9)) (z4483 e9)) (z4489 e9)), hps⟩)
      · refine lv_if_ne (tgt := 66) hx hb dX9_readClock_62 (by decide) (fun c9 => absurd (by decide) c9) (fun _ => ?_)
        have hps : PS D cs w _ (p4486) (tl) (er4487) (ns) dr bu g (N) (h) := ⟨hm, f4430, hP 0 _ rfl, e4430, by omega, (fun e9 => (fun e9 => (fun e9 => absurd e9 z4477) (z4483 e9)) (z4489 e9))⟩
        exact en_v hx hb hr hlocks hL (Nat.zero_le _) (Nat.zero_le _) dX9_readClock_65 (⟨hT, hF, p4486, er4487, (by omega), (fun e9 => (fun e9 => (fun e9 => (fun e9 => id ((fun e9 => (z4438 e9).1) e9)) ((fun e9 => absurd e9 z4477) e9)) (z4483 e9)) (z4489 e9)), hps⟩)
  · refine lv_if_eq (tgt := 43) hx hb dX9_readClock_18 (by decide) (fun _ => ?_) (fun c9 => absurd (by decide) c9)
    refine lv_aload_n hx hb dX9_readClock_43 rfl (lv_at hl 1 rfl) ?_
    refine lv_sipush (v := 999) hx hb dX9_readClock_44 (by decide) ?_
    refine cv_i (As := [.int 999]) (rest := []) (b := w) ⟨hx, hb, hml, hown, hts⟩ (c_X9_signed hT (w := w) hw (x := 999) hbT hdT hm) (cwV 1 hts gX9_readClock_X9_signed rfl rfl rfl hdX9_signed_v ⟨Nat.le_of_ble_eq_true rfl, Nat.le_of_ble_eq_true rfl⟩) hN hE hL (rcv10 hN hT hw.1) rfl rfl hl.1 (Nat.le_of_ble_eq_true rfl) dX9_readClock_47 (Nat.zero_le _) (Nat.zero_le _) (fun r4505 H1 locs hL hqr4505 => ?_)
    obtain ⟨hT1, hF1, hqr4505⟩ := hqr4505
    have hP : va_P D vwCl [(dr, .inl (cs 0, 1383, .inl f4430))] _ := hF1.hP (hP.sub [0] rfl) (fa_c ⟨by rw [hdT.1]; decide, by rw [hdT.2]; first | decide | (simp; done) | (simp; omega)⟩ fa_n)
    have hF := hF.tr (hF1.mono (by simp))
    have hT := hT1
    obtain ⟨p4506, er4507, a4508, z4509, m4510⟩ := hqr4505
    have hm := m4510
    have hm8 := hm.2.2.2.2.2.2.2
    refine lv_istore_n (lv' := [(2, .int r4505), (1, .int (nI n4441)), (0, .ref w)]) hx hb dX9_readClock_50 rfl hl (by decide) rfl (fun ls hl => ?_)
    refine lv_aload_n hx hb dX9_readClock_51 rfl (lv_at hl 2 rfl) ?_
    refine lv_bipush (v := 50) hx hb dX9_readClock_52 (by decide) ?_
    refine cv_i (As := [.int 50]) (rest := []) (b := w) ⟨hx, hb, hml, hown, hts⟩ (c_X9_signed hT (w := w) hw (x := 50) hbT hdT hm) (cwV 1 hts gX9_readClock_X9_signed rfl rfl rfl hdX9_signed_v ⟨Nat.le_of_ble_eq_true rfl, Nat.le_of_ble_eq_true rfl⟩) hN hE hL (rcv10 hN hT hw.1) rfl rfl hl.1 (Nat.le_of_ble_eq_true rfl) dX9_readClock_54 (Nat.zero_le _) (Nat.zero_le _) (fun r4511 H1 locs hL hqr4511 => ?_)
    obtain ⟨hT1, hF1, hqr4511⟩ := hqr4511
    have hP : va_P D vwCl [(dr, .inl (cs 0, 1383, .inl f4430))] _ := hF1.hP (hP.sub [0] rfl) (fa_c ⟨by rw [hdT.1]; decide, by rw [hdT.2]; first | decide | (simp; done) | (simp; omega)⟩ fa_n)
    have hF := hF.tr (hF1.mono (by simp))
    have hT := hT1
    obtain ⟨p4512, er4513, a4514, z4515, m4516⟩ := hqr4511
    have hm := m4516
    have hm8 := hm.2.2.2.2.2.2.2
    refine lv_istore_n (lv' := [(3, .int r4511), (2, .int r4505), (1, .int (nI n4441)), (0, .ref w)]) hx hb dX9_readClock_57 rfl hl (by decide) rfl (fun ls hl => ?_)
    refine lv_aload_n hx hb dX9_readClock_58 rfl (lv_at hl 3 rfl) ?_
    refine cv_i (As := []) (rest := []) (b := w) ⟨hx, hb, hml, hown, hts⟩ (c_X9_isGood hT (w := w) hw hbT hdT hm) (cwV 0 hts gX9_readClock_X9_isGood rfl rfl rfl hdX9_isGood_v ⟨Nat.le_of_ble_eq_true rfl, Nat.le_of_ble_eq_true rfl⟩) hN hE hL (rcv10 hN hT hw.1) rfl rfl hl.1 (Nat.le_of_ble_eq_true rfl) dX9_readClock_59 (Nat.zero_le _) (Nat.zero_le _) (fun r4517 H1 locs hL hqr4517 => ?_)
    obtain ⟨h9, hqr4517⟩ := hqr4517; replace h9 := h9.symm; subst h9
    rcases hqr4517 with ⟨rfl, e4518⟩ | ⟨rfl, e4519⟩
    · refine lv_if_ne (tgt := 66) hx hb dX9_readClock_62 (by decide) (fun _ => ?_) (fun c9 => absurd c9 (by decide))
      refine lv_aload_n hx hb dX9_readClock_66 rfl (lv_at hl 3 rfl) ?_
      refine lv_dup hx hb dX9_readClock_67 rfl ?_
      obtain ⟨hb4520, e4520, hat4520, hk4520⟩ := hT.o10 hw.1
      obtain ⟨f4520_0, f4520_1, f4520_3, f4520_4, f4520_5, f4520_6, f4520_7, f4520_9, f4520_10, f4520_11, f4520_12, f4520_13, f4520_14, f4520_15, f4520_16, f4520_17, rfl, c4520_2, c4520_3, c4520_4, c4520_12, t4520_1, t4520_8, t4520_9, c4520_sd, t4520_10, t4520_11, t4520_17⟩ := hk4520
      obtain ⟨rfl, rfl, rfl, rfl, rfl, rfl⟩ := hm.at hat4520 c4520_3 (by omega)
      have hm8 := hm.2.2.2.2.2.2.2
      have hP : va_P D vwCl [(w, .inr (9, [.int f4520_0, .ref bu, .int (nI ((κ w).2.2.1)), .int (nI tl), .int (nI p4512), .int er4513, .int f4520_6, .int f4520_7, .ref (κ w).2.2.2, .ref f4520_9, .ref dr, .ref f4520_11, .int (nI f4520_12), .int f4520_13, .int ns, .int f4520_15, .int f4520_16, .ref f4520_17])), (dr, .inl (cs 0, 1383, .inl f4430))] _ := va_P.cons hat4520 hP
      refine va_get (D := D) (ci := 9) (v := .int f4520_16) (C := RX9) (T := TX9) (N := 18) hx hb hts iX9_readClock_9 hown hN.1 hP 0 rfl rfl 16 (by decide) (hts _ mX9_readClock_2) (fun _ h9 => h9) rfl dX9_readClock_68 ?_
      refine lv_iconst (v := 1) hx hb dX9_readClock_71 (by decide) ?_
      refine lv_iload_n hx hb dX9_readClock_72 rfl (lv_at hl 2 rfl) ?_
      refine lv_ishl hx hb dX9_readClock_73 ?_
      refine gn_i (fun x4521 => ?_)
      refine lv_ior hx hb dX9_readClock_74 ?_
      refine gn_i (fun x4522 => ?_)
      have hB : Bx B0 D _ [(w, .inr (9, [.int f4520_0, .ref bu, .int (nI ((κ w).2.2.1)), .int (nI tl), .int (nI p4512), .int er4513, .int f4520_6, .int f4520_7, .ref (κ w).2.2.2, .ref f4520_9, .ref dr, .ref f4520_11, .int (nI f4520_12), .int f4520_13, .int ns, .int f4520_15, .int f4520_16, .ref f4520_17])), (dr, .inl (cs 0, 1383, .inl f4430))] [] _ _ := Bx.of (fun a => (κ a).1) hL hP (fa_c hb4520 (fa_c hbd fa_n)) (by simp only [List.map_cons, List.map_nil, hw.1, hdT.1]; decide)
      refine b_put (D := D) (ci := 9) (v := .int x4522) (ty := .int) (C := RX9) (T := TX9) (N := 18) hx hb hts iX9_readClock_9 tyX9 tyX9_ok nmX9 hown hN hB 0 rfl rfl 16 (by decide) (hts _ mX9_readClock_2) (fun _ h9 => h9) rfl (by decide +kernel) rfl rfl (Nat.le_of_ble_eq_true rfl) (.inl rfl) dX9_readClock_75 (fun H locs hB => ?_)
      have hB : Bx B0 D _ [(w, .inr (9, [.int f4520_0, .ref bu, .int (nI ((κ w).2.2.1)), .int (nI tl), .int (nI p4512), .int er4513, .int f4520_6, .int f4520_7, .ref (κ w).2.2.2, .ref f4520_9, .ref dr, .ref f4520_11, .int (nI f4520_12), .int f4520_13, .int ns, .int f4520_15, .int x4522, .ref f4520_17])), (dr, .inl (cs 0, 1383, .inl f4430))] [w] _ _ := hB
      refine lv_aload_n hx hb dX9_readClock_78 rfl (lv_at hl 3 rfl) ?_
      refine va_get (D := D) (ci := 9) (v := .ref dr) (C := RX9) (T := TX9) (N := 18) hx hb hts iX9_readClock_9 hown hN.1 hB.1 0 rfl rfl 10 (by decide) (hts _ mX9_readClock_1) (fun _ h9 => h9) rfl dX9_readClock_79 ?_
      refine lv_iload_n hx hb dX9_readClock_82 rfl (lv_at hl 2 rfl) ?_
      have hT : WT B0 D cs T κ _ := hT.close hB ⟨⟨0, _, rfl, ok_10 hw.1 ⟨_, _, _, _, _, _, _, _, _, _, _, _, _, _, _, _, rfl, (by omega), (by omega), (by omega), (by omega), hbT, t4520_8, t4520_9, c4520_sd, hdT, t4520_11, t4520_17⟩⟩, trivial⟩
      have hF : Fr B0 [12, 17] κ H0 _ := hF.close hB (fa_c (by simp [hw.2]) fa_n)
      have hL : OkL B0 _ := hB.2.2.2.2.2
      have hP : va_P D vwCl [(w, .inr (9, [.int f4520_0, .ref bu, .int (nI ((κ w).2.2.1)), .int (nI tl), .int (nI p4512), .int er4513, .int f4520_6, .int f4520_7, .ref (κ w).2.2.2, .ref f4520_9, .ref dr, .ref f4520_11, .int (nI f4520_12), .int f4520_13, .int ns, .int f4520_15, .int x4522, .ref f4520_17])), (dr, .inl (cs 0, 1383, .inl f4430))] _ := hB.1
      have hbu9 := (hm.2.2.2.2.2.2.1).kept (hB.2.2.2.1 _ hm.2.2.2.2.2.2.1.lt (by simp only [List.mem_cons, List.not_mem_nil, or_false, not_or]; exact ne_c hbT.1 hw.1 (by decide)))
      have hm : MF D cs w _ (p4512) (tl) (er4513) (ns) dr bu g := ⟨⟨_, hP 0 _ rfl, rfl⟩, ⟨_, hP 0 _ rfl, rfl⟩, ⟨_, hP 0 _ rfl, rfl⟩, ⟨_, hP 0 _ rfl, rfl⟩, ⟨_, hP 0 _ rfl, rfl⟩, ⟨_, hP 0 _ rfl, rfl⟩, hbu9, (by omega), (by omega)⟩
      refine cs_i (As := [.int (nI n4441)]) (rest := [.ref dr]) ⟨hx, hb, hml, hown, hts⟩ (c_X9_playerAt hT (n := n4441) (by first | omega | decide | assumption)) (va_cwS 1 hts gX9_readClock_X9_playerAt rfl rfl rfl hdX9_playerAt_o ⟨Nat.le_of_ble_eq_true rfl, Nat.le_of_ble_eq_true rfl⟩) hN hE hL rfl rfl hl.1 (Nat.le_of_ble_eq_true rfl) dX9_readClock_83 (Nat.zero_le _) (Nat.zero_le _) (fun r4523 H1 locs hL hqr4523 => ?_)
      obtain ⟨h9, hqr4523⟩ := hqr4523; replace h9 := h9.symm; subst h9
      obtain rfl := hqr4523
      refine lv_iconst (v := 1) hx hb dX9_readClock_86 (by decide) ?_
      refine lv_iadd hx hb dX9_readClock_87 ?_
      refine tp_i (nI ((23 + 12 * n4441) + 1)) (nI_add (23 + 12 * n4441) 1) ?_
      refine lv_iload_n hx hb dX9_readClock_88 rfl (lv_at hl 1 rfl) ?_
      have hB : Bx B0 D _ [(w, .inr (9, [.int f4520_0, .ref bu, .int (nI ((κ w).2.2.1)), .int (nI tl), .int (nI p4512), .int er4513, .int f4520_6, .int f4520_7, .ref (κ w).2.2.2, .ref f4520_9, .ref dr, .ref f4520_11, .int (nI f4520_12), .int f4520_13, .int ns, .int f4520_15, .int x4522, .ref f4520_17])), (dr, .inl (cs 0, 1383, .inl f4430))] [] _ _ := Bx.of (fun a => (κ a).1) hL hP (fa_c hb4520 (fa_c hbd fa_n)) (by simp only [List.map_cons, List.map_nil, hw.1, hdT.1]; decide)
      refine b_i hx hb hN hB 1 rfl (vp_in_nI (n := ((23 + 12 * n4441) + 1)) (N := 1383) (by omega) (by omega)) (.inl rfl) dX9_readClock_89 (fun H locs hB => ?_)
      rw [(show ((nI ((23 + 12 * n4441) + 1)) : Int32).toNatClampNeg = ((23 + 12 * n4441) + 1) from nI_clamp (n := ((23 + 12 * n4441) + 1)) (by omega))] at hB
      have hB : Bx B0 D _ [(w, .inr (9, [.int f4520_0, .ref bu, .int (nI ((κ w).2.2.1)), .int (nI tl), .int (nI p4512), .int er4513, .int f4520_6, .int f4520_7, .ref (κ w).2.2.2, .ref f4520_9, .ref dr, .ref f4520_11, .int (nI f4520_12), .int f4520_13, .int ns, .int f4520_15, .int x4522, .ref f4520_17])), (dr, .inl (cs 0, 1383, .inl (upd f4430 ((23 + 12 * n4441) + 1) r4505)))] [dr] _ _ := hB
      have z4524 := DRK.sf hDR (k := ((23 + 12 * n4441) + 1)) (by omega) (x := r4505)
      have e4525 := (pk_un (f := f4430) (x := r4505) (show 14 ≠ ((23 + 12 * n4441) + 1) by omega)).trans e4430
      have e4526 := (pk_un (f := f4430) (x := r4505) (show 0 ≠ ((23 + 12 * n4441) + 1) by omega)).trans en4433
      refine lv_aload_n hx hb dX9_readClock_90 rfl (lv_at hl 3 rfl) ?_
      refine va_get (D := D) (ci := 9) (v := .ref dr) (C := RX9) (T := TX9) (N := 18) hx hb hts iX9_readClock_9 hown hN.1 hB.1 0 rfl rfl 10 (by decide) (hts _ mX9_readClock_1) (fun _ h9 => h9) rfl dX9_readClock_91 ?_
      refine lv_iload_n hx hb dX9_readClock_94 rfl (lv_at hl 2 rfl) ?_
      have hT : WT B0 D cs T κ _ := hT.close hB ⟨⟨1, _, rfl, ok_26 hdT.1 ⟨_, rfl, z4524⟩⟩, trivial⟩
      have hF : Fr B0 [12, 17] κ H0 _ := hF.close hB (fa_c (by simp [hdT.2]) fa_n)
      have hL : OkL B0 _ := hB.2.2.2.2.2
      have hP : va_P D vwCl [(w, .inr (9, [.int f4520_0, .ref bu, .int (nI ((κ w).2.2.1)), .int (nI tl), .int (nI p4512), .int er4513, .int f4520_6, .int f4520_7, .ref (κ w).2.2.2, .ref f4520_9, .ref dr, .ref f4520_11, .int (nI f4520_12), .int f4520_13, .int ns, .int f4520_15, .int x4522, .ref f4520_17])), (dr, .inl (cs 0, 1383, .inl (upd f4430 ((23 + 12 * n4441) + 1) r4505)))] _ := hB.1
      have hm := hm.kp hB (by simp only [List.mem_cons, List.not_mem_nil, or_false, not_or]; exact ne_c hbT.1 hdT.1 (by decide)) (by simp only [List.mem_cons, List.not_mem_nil, or_false, not_or]; exact ne_c hw.1 hdT.1 (by decide))
      refine cs_i (As := [.int (nI n4441)]) (rest := [.ref dr]) ⟨hx, hb, hml, hown, hts⟩ (c_X9_playerAt hT (n := n4441) (by first | omega | decide | assumption)) (va_cwS 1 hts gX9_readClock_X9_playerAt rfl rfl rfl hdX9_playerAt_o ⟨Nat.le_of_ble_eq_true rfl, Nat.le_of_ble_eq_true rfl⟩) hN hE hL rfl rfl hl.1 (Nat.le_of_ble_eq_true rfl) dX9_readClock_95 (Nat.zero_le _) (Nat.zero_le _) (fun r4527 H1 locs hL hqr4527 => ?_)
      obtain ⟨h9, hqr4527⟩ := hqr4527; replace h9 := h9.symm; subst h9
      obtain rfl := hqr4527
      refine lv_iconst (v := 2) hx hb dX9_readClock_98 (by decide) ?_
      refine lv_iadd hx hb dX9_readClock_99 ?_
      refine tp_i (nI ((23 + 12 * n4441) + 2)) (nI_add (23 + 12 * n4441) 2) ?_
      refine lv_iload_n hx hb dX9_readClock_100 rfl (lv_at hl 0 rfl) ?_
      have hB : Bx B0 D _ [(w, .inr (9, [.int f4520_0, .ref bu, .int (nI ((κ w).2.2.1)), .int (nI tl), .int (nI p4512), .int er4513, .int f4520_6, .int f4520_7, .ref (κ w).2.2.2, .ref f4520_9, .ref dr, .ref f4520_11, .int (nI f4520_12), .int f4520_13, .int ns, .int f4520_15, .int x4522, .ref f4520_17])), (dr, .inl (cs 0, 1383, .inl (upd f4430 ((23 + 12 * n4441) + 1) r4505)))] [] _ _ := Bx.of (fun a => (κ a).1) hL hP (fa_c hb4520 (fa_c hbd fa_n)) (by simp only [List.map_cons, List.map_nil, hw.1, hdT.1]; decide)
      refine b_i hx hb hN hB 1 rfl (vp_in_nI (n := ((23 + 12 * n4441) + 2)) (N := 1383) (by omega) (by omega)) (.inl rfl) dX9_readClock_101 (fun H locs hB => ?_)
      rw [(show ((nI ((23 + 12 * n4441) + 2)) : Int32).toNatClampNeg = ((23 + 12 * n4441) + 2) from nI_clamp (n := ((23 + 12 * n4441) + 2)) (by omega))] at hB
      have hB : Bx B0 D _ [(w, .inr (9, [.int f4520_0, .ref bu, .int (nI ((κ w).2.2.1)), .int (nI tl), .int (nI p4512), .int er4513, .int f4520_6, .int f4520_7, .ref (κ w).2.2.2, .ref f4520_9, .ref dr, .ref f4520_11, .int (nI f4520_12), .int f4520_13, .int ns, .int f4520_15, .int x4522, .ref f4520_17])), (dr, .inl (cs 0, 1383, .inl (upd (upd f4430 ((23 + 12 * n4441) + 1) r4505) ((23 + 12 * n4441) + 2) r4511)))] [dr] _ _ := hB
      have z4528 := DRK.sf z4524 (k := ((23 + 12 * n4441) + 2)) (by omega) (x := r4511)
      have e4529 := (pk_un (f := (upd f4430 ((23 + 12 * n4441) + 1) r4505)) (x := r4511) (show 14 ≠ ((23 + 12 * n4441) + 2) by omega)).trans e4525
      have e4530 := (pk_un (f := (upd f4430 ((23 + 12 * n4441) + 1) r4505)) (x := r4511) (show 0 ≠ ((23 + 12 * n4441) + 2) by omega)).trans e4526
      have hT : WT B0 D cs T κ _ := hT.close hB ⟨⟨1, _, rfl, ok_26 hdT.1 ⟨_, rfl, z4528⟩⟩, trivial⟩
      have hF : Fr B0 [12, 17] κ H0 _ := hF.close hB (fa_c (by simp [hdT.2]) fa_n)
      have hL : OkL B0 _ := hB.2.2.2.2.2
      have hP : va_P D vwCl [(w, .inr (9, [.int f4520_0, .ref bu, .int (nI ((κ w).2.2.1)), .int (nI tl), .int (nI p4512), .int er4513, .int f4520_6, .int f4520_7, .ref (κ w).2.2.2, .ref f4520_9, .ref dr, .ref f4520_11, .int (nI f4520_12), .int f4520_13, .int ns, .int f4520_15, .int x4522, .ref f4520_17])), (dr, .inl (cs 0, 1383, .inl (upd (upd f4430 ((23 + 12 * n4441) + 1) r4505) ((23 + 12 * n4441) + 2) r4511)))] _ := hB.1
      have hm := hm.kp hB (by simp only [List.mem_cons, List.not_mem_nil, or_false, not_or]; exact ne_c hbT.1 hdT.1 (by decide)) (by simp only [List.mem_cons, List.not_mem_nil, or_false, not_or]; exact ne_c hw.1 hdT.1 (by decide))
      have hps : PS D cs w _ (p4512) (tl) (er4513) (ns) dr bu g (N) (h) := ⟨hm, (upd (upd f4430 ((23 + 12 * n4441) + 1) r4505) ((23 + 12 * n4441) + 2) r4511), hP 1 _ rfl, e4529, by omega, (CVu (by omega) (CVu (by omega) (fun e9 => (fun e9 => (fun e9 => v4430 ((fun e9 => (z4438 e9).1) e9)) (z4509 e9)) (z4515 e9))))⟩
      exact en_v hx hb hr hlocks hL (Nat.zero_le _) (Nat.zero_le _) dX9_readClock_102 (⟨hT, hF, p4512, er4513, (by omega), (fun e9 => (fun e9 => (fun e9 => id ((fun e9 => (z4438 e9).1) e9)) (z4509 e9)) (z4515 e9)), hps⟩)
    · refine lv_if_ne (tgt := 66) hx hb dX9_readClock_62 (by decide) (fun c9 => absurd (by decide) c9) (fun _ => ?_)
      have hps : PS D cs w _ (p4512) (tl) (er4513) (ns) dr bu g (N) (h) := ⟨hm, f4430, hP 0 _ rfl, e4430, by omega, (fun e9 => (fun e9 => (fun e9 => v4430 ((fun e9 => (z4438 e9).1) e9)) (z4509 e9)) (z4515 e9))⟩
      exact en_v hx hb hr hlocks hL (Nat.zero_le _) (Nat.zero_le _) dX9_readClock_65 (⟨hT, hF, p4512, er4513, (by omega), (fun e9 => (fun e9 => (fun e9 => id ((fun e9 => (z4438 e9).1) e9)) (z4509 e9)) (z4515 e9)), hps⟩)
theorem mX9_readLink_1 : (.fieldLink RX9 24 "OneBeatModel" "draft" "[I" : Cond) ∈ wsX9_readLink := List.mem_of_getElem? (i := 1) (by decide +kernel)
theorem iX9_readLink_9 : ∀ w ∈ wsX90, w ∈ wsX9_readLink := fun w h => List.mem_of_mem_drop (List.mem_of_mem_take ((show wsX90 = (wsX9_readLink.drop 42).take 18 by decide +kernel) ▸ h))
theorem mX9_readLink_2 : (.fieldLink RX9 94 "OneBeatModel" "numberStart" "I" : Cond) ∈ wsX9_readLink := List.mem_of_getElem? (i := 2) (by decide +kernel)
