set_option maxHeartbeats 4000000 in
set_option maxRecDepth 100000 in
theorem c_X9_readSum_d3 {l : Launch} {D : va_G} {cs : Nat → ClassId} {B0 T : Nat} {κ : KM} {H0 : Heap} (hT : WT B0 D cs T κ H0) {w : Nat} (hw : T2 κ w 10 12) {pos tl : Nat} {er : Int32} {dr bu : Nat} {g : Nat → Int32} {N h : Nat} (hbT : T2 κ bu 23 14) (hdT : T2 κ dr 26 17) (hps : PS D cs w H0 pos tl er 3 dr bu g N h) : KC l yX9_readSum wsX9_readSum 10 216 0 0 D cs B0 H0 [.ref w] (Qv (fun H => WT B0 D cs T κ H ∧ Fr B0 [12, 17] κ H0 H ∧ ∃ N1 pos1 er1, N1 + 2 * pos ≤ N + 2 * pos1 ∧ pos ≤ pos1 ∧ (er1 = 0 → er = 0) ∧ PS D cs w H pos1 tl er1 3 dr bu g N1 (h + 1))) := by
  refine KC.of cX9_readSum 2 none (by decide) rfl (Nat.le_of_ble_eq_true rfl) ?_
  intro p e s m below meth c ls hx hb hr hml hown hts hlocks hin hN hE hH0 hl
  have hown : s.vm.findClass RX9 = some m.cls := hown
  have hl : lv_has ls 2 [(0, .ref w)] := hl
  have hL : OkL B0 [] := OkL.nil
  have hF : Fr B0 [12, 17] κ H0 H0 := Fr.rf
  obtain ⟨hm, f2845, hd2845, e2845, n2845, v2845⟩ := hps
  have hm8 := hm.2.2.2.2.2.2.2
  have hbd : B0 ≤ dr := (hT.o26 hdT.1).1
  have hDR := hT.dr hdT hd2845
  have hP : va_P D vwCl [(dr, .inl (cs 0, 1383, .inl f2845))] _ := va_P.cons hd2845 va_P.nil
  refine lv_aload_n hx hb dX9_readSum_0 rfl (lv_at hl 0 rfl) ?_
  have hps : PS D cs w _ (pos) (tl) (er) (3) dr bu g (N) (h) := ⟨hm, f2845, hP 0 _ rfl, e2845, by omega, v2845⟩
  refine cv_v (As := []) (rest := []) (b := w) ⟨hx, hb, hml, hown, hts⟩ (c_X9_term_d3 hT (w := w) hw hbT hdT hps) (cwV 0 hts gX9_readSum_X9_term rfl rfl rfl hdX9_term_v ⟨Nat.le_of_ble_eq_true rfl, Nat.le_of_ble_eq_true rfl⟩) hN hE hL (rcv10 hN hT hw.1) rfl rfl hl.1 (Nat.le_of_ble_eq_true rfl) dX9_readSum_1 (Nat.zero_le _) (Nat.zero_le _) (fun H1 locs hL hqr2847 => ?_)
  obtain ⟨hT1, hF1, hqr2847⟩ := hqr2847
  have hF := hF.tr (hF1.mono (by simp))
  have hT := hT1
  obtain ⟨N2848, p2849, er2850, a2851, b2852, z2853, m2854, f2855, d2856, e2857, n2858, v2859⟩ := hqr2847
  have hm := m2854
  have hm8 := hm.2.2.2.2.2.2.2
  have hbd : B0 ≤ dr := (hT.o26 hdT.1).1
  have hDR := hT.dr hdT d2856
  have hP : va_P D vwCl [(dr, .inl (cs 0, 1383, .inl f2855))] _ := va_P.cons d2856 va_P.nil
  have hps : PS D cs w _ (p2849) (tl) (er2850) (3) dr bu g (N2848) ((h + 1)) := ⟨hm, f2855, hP 0 _ rfl, e2857, by omega, v2859⟩
  refine lp_m (α := Nat × Nat × Int32) (nL := 2) (fun a9 => 600 - a9.1) (fun a9 H9 l9 => (PS D cs w H9 a9.1 tl a9.2.2 3 dr bu g a9.2.1 (h + 1)) ∧ (a9.2.1 + 2 * pos ≤ N + 2 * a9.1) ∧ (pos ≤ a9.1) ∧ (a9.2.2 = 0 → er = 0) ∧ (WT B0 D cs T κ H9) ∧ (Fr B0 [12, 17] κ H0 H9) ∧ (OkL B0 l9)) (fun a9 => [(0, .ref w)]) ?_ (p2849, N2848, er2850) _ _ _ ⟨hps, (by show (N2848) + 2 * pos ≤ N + 2 * (p2849); omega), (by show pos ≤ (p2849); omega), (fun e9 => id (z2853 e9)), hT, hF, hL⟩ (lv_sub hl [0] rfl)
  rintro ⟨p, N1, er1⟩ H locs ls ih2861 ⟨hps, hb1, hb2, hz1, hT, hF, hL⟩ hl
  have hl : lv_has ls 2 [(0, .ref w)] := hl
  have hps : PS D cs w H p tl er1 3 dr bu g N1 (h + 1) := hps
  have hb1 : N1 + 2 * pos ≤ N + 2 * p := hb1
  have hb2 : pos ≤ p := hb2
  have hz1 : er1 = 0 → er = 0 := hz1
  obtain ⟨hm, f2862, hd2862, e2862, n2862, v2862⟩ := hps
  have hm8 := hm.2.2.2.2.2.2.2
  have hbd : B0 ≤ dr := (hT.o26 hdT.1).1
  have hDR := hT.dr hdT hd2862
  have hP : va_P D vwCl [(dr, .inl (cs 0, 1383, .inl f2862))] _ := va_P.cons hd2862 va_P.nil
  refine lv_aload_n hx hb dX9_readSum_4 rfl (lv_at hl 0 rfl) ?_
  refine cv_i (As := []) (rest := []) (b := w) ⟨hx, hb, hml, hown, hts⟩ (c_X9_isGood hT (w := w) hw hbT hdT hm) (cwV 0 hts gX9_readSum_X9_isGood rfl rfl rfl hdX9_isGood_v ⟨Nat.le_of_ble_eq_true rfl, Nat.le_of_ble_eq_true rfl⟩) hN hE hL (rcv10 hN hT hw.1) rfl rfl hl.1 (Nat.le_of_ble_eq_true rfl) dX9_readSum_5 (Nat.zero_le _) (Nat.zero_le _) (fun r2864 H1 locs hL hqr2864 => ?_)
  obtain ⟨h9, hqr2864⟩ := hqr2864; replace h9 := h9.symm; subst h9
  rcases hqr2864 with ⟨rfl, e2865⟩ | ⟨rfl, e2866⟩
  · refine lv_if_eq (tgt := 74) hx hb dX9_readSum_8 (by decide) (fun c9 => absurd c9 (by decide)) (fun _ => ?_)
    refine lv_aload_n hx hb dX9_readSum_11 rfl (lv_at hl 0 rfl) ?_
    refine cv_i (As := []) (rest := []) (b := w) ⟨hx, hb, hml, hown, hts⟩ (c_X9_ahead hT (w := w) hw hbT hdT hm) (cwV 0 hts gX9_readSum_X9_ahead rfl rfl rfl hdX9_ahead_v ⟨Nat.le_of_ble_eq_true rfl, Nat.le_of_ble_eq_true rfl⟩) hN hE hL (rcv10 hN hT hw.1) rfl rfl hl.1 (Nat.le_of_ble_eq_true rfl) dX9_readSum_12 (Nat.zero_le _) (Nat.zero_le _) (fun r2867 H1 locs hL hqr2867 => ?_)
    obtain ⟨hT1, hF1, hqr2867⟩ := hqr2867
    have hP : va_P D vwCl [(dr, .inl (cs 0, 1383, .inl f2862))] _ := hF1.hP (hP.sub [0] rfl) (fa_c ⟨by rw [hdT.1]; decide, by rw [hdT.2]; first | decide | (simp; done) | (simp [h15a, h15b, h15c]; done) | (simp; omega)⟩ fa_n)
    have hF := hF.tr (hF1.mono (by simp))
    have hT := hT1
    obtain ⟨p2868, h2869, m2870, n2871, s2872, rfl⟩ := hqr2867
    have hm := m2870
    have hm8 := hm.2.2.2.2.2.2.2
    refine lv_bipush (v := 43) hx hb dX9_readSum_15 (by decide) ?_
    refine lv_icmp_eq (tgt := 29) hx hb dX9_readSum_17 (by decide) (fun c2873 => ?_) (fun c2873 => ?_)
    · have hl9 := byF_c (c2873) (by decide)
      refine lv_aload_n hx hb dX9_readSum_29 rfl (lv_at hl 0 rfl) ?_
      refine cv_i (As := []) (rest := []) (b := w) ⟨hx, hb, hml, hown, hts⟩ (c_X9_ahead hT (w := w) hw hbT hdT hm) (cwV 0 hts gX9_readSum_X9_ahead rfl rfl rfl hdX9_ahead_v ⟨Nat.le_of_ble_eq_true rfl, Nat.le_of_ble_eq_true rfl⟩) hN hE hL (rcv10 hN hT hw.1) rfl rfl hl.1 (Nat.le_of_ble_eq_true rfl) dX9_readSum_30 (Nat.zero_le _) (Nat.zero_le _) (fun r2874 H1 locs hL hqr2874 => ?_)
      obtain ⟨hT1, hF1, hqr2874⟩ := hqr2874
      have hP : va_P D vwCl [(dr, .inl (cs 0, 1383, .inl f2862))] _ := hF1.hP (hP.sub [0] rfl) (fa_c ⟨by rw [hdT.1]; decide, by rw [hdT.2]; first | decide | (simp; done) | (simp [h15a, h15b, h15c]; done) | (simp; omega)⟩ fa_n)
      have hF := hF.tr (hF1.mono (by simp))
      have hT := hT1
      obtain ⟨p2875, h2876, m2877, n2878, s2879, rfl⟩ := hqr2874
      have hm := m2877
      have hpe := s2879 n2871
      rw [hpe] at hm
      refine tp_i (byF g tl p2868) (by rw [hpe]) ?_
      have hm8 := hm.2.2.2.2.2.2.2
      refine lv_bipush (v := 43) hx hb dX9_readSum_33 (by decide) ?_
      refine lv_icmp_ne (tgt := 42) hx hb dX9_readSum_35 (by decide) (fun c2880 => ?_) (fun c2880 => ?_)
      · refine lv_iconst (v := 0) hx hb dX9_readSum_42 (by decide) ?_
        refine lv_istore_n (lv' := [(1, .int 0), (0, .ref w)]) hx hb dX9_readSum_43 rfl hl (by decide) rfl (fun ls hl => ?_)
        refine lv_aload_n hx hb dX9_readSum_44 rfl (lv_at hl 1 rfl) ?_
        refine lv_dup hx hb dX9_readSum_45 rfl ?_
        obtain ⟨hb2881, e2881, hat2881, hk2881⟩ := hT.o10 hw.1
        obtain ⟨f2881_0, f2881_1, f2881_3, f2881_4, f2881_5, f2881_6, f2881_7, f2881_9, f2881_10, f2881_11, f2881_12, f2881_13, f2881_14, f2881_15, f2881_16, f2881_17, rfl, c2881_2, c2881_3, c2881_4, c2881_12, t2881_1, t2881_8, t2881_9, c2881_sd, t2881_10, t2881_11, t2881_17⟩ := hk2881
        obtain ⟨rfl, rfl, rfl, rfl, rfl, rfl⟩ := hm.at hat2881 c2881_3 (by omega)
        have hm8 := hm.2.2.2.2.2.2.2
        have hP : va_P D vwCl [(w, .inr (9, [.int f2881_0, .ref bu, .int (nI ((κ w).2.2.1)), .int (nI tl), .int (nI p2868), .int er1, .int f2881_6, .int f2881_7, .ref (κ w).2.2.2, .ref f2881_9, .ref dr, .ref f2881_11, .int (nI f2881_12), .int f2881_13, .int 3, .int f2881_15, .int f2881_16, .ref f2881_17])), (dr, .inl (cs 0, 1383, .inl f2862))] _ := va_P.cons hat2881 hP
        refine va_get (D := D) (ci := 9) (v := .int (nI p2868)) (C := RX9) (T := TX9) (N := 18) hx hb hts iX9_readSum_9 hown hN.1 hP 0 rfl rfl 4 (by decide) (hts _ mX9_readSum_1) (fun _ h9 => h9) rfl dX9_readSum_46 ?_
        refine lv_iconst (v := 1) hx hb dX9_readSum_49 (by decide) ?_
        refine lv_iadd hx hb dX9_readSum_50 ?_
        refine tp_i (nI (p2868 + 1)) (nI_add p2868 1) ?_
        have hB : Bx B0 D _ [(w, .inr (9, [.int f2881_0, .ref bu, .int (nI ((κ w).2.2.1)), .int (nI tl), .int (nI p2868), .int er1, .int f2881_6, .int f2881_7, .ref (κ w).2.2.2, .ref f2881_9, .ref dr, .ref f2881_11, .int (nI f2881_12), .int f2881_13, .int 3, .int f2881_15, .int f2881_16, .ref f2881_17])), (dr, .inl (cs 0, 1383, .inl f2862))] [] _ _ := Bx.of (fun a => (κ a).1) hL hP (fa_c hb2881 (fa_c hbd fa_n)) (by simp only [List.map_cons, List.map_nil, hw.1, hdT.1]; decide)
        refine b_put (D := D) (ci := 9) (v := .int (nI (p2868 + 1))) (ty := .int) (C := RX9) (T := TX9) (N := 18) hx hb hts iX9_readSum_9 tyX9 tyX9_ok nmX9 hown hN hB 0 rfl rfl 4 (by decide) (hts _ mX9_readSum_1) (fun _ h9 => h9) rfl (by decide +kernel) rfl rfl (Nat.le_of_ble_eq_true rfl) (.inl rfl) dX9_readSum_51 (fun H locs hB => ?_)
        have hB : Bx B0 D _ [(w, .inr (9, [.int f2881_0, .ref bu, .int (nI ((κ w).2.2.1)), .int (nI tl), .int (nI (p2868 + 1)), .int er1, .int f2881_6, .int f2881_7, .ref (κ w).2.2.2, .ref f2881_9, .ref dr, .ref f2881_11, .int (nI f2881_12), .int f2881_13, .int 3, .int f2881_15, .int f2881_16, .ref f2881_17])), (dr, .inl (cs 0, 1383, .inl f2862))] [w] _ _ := hB
        refine lv_aload_n hx hb dX9_readSum_54 rfl (lv_at hl 1 rfl) ?_
        have hT : WT B0 D cs T κ _ := hT.close hB ⟨⟨0, _, rfl, ok_10 hw.1 ⟨_, _, _, _, _, _, _, _, _, _, _, _, _, _, _, _, rfl, (by omega), (by omega), (by omega), (by omega), hbT, t2881_8, t2881_9, c2881_sd, hdT, t2881_11, t2881_17⟩⟩, trivial⟩
        have hF : Fr B0 [12, 17] κ H0 _ := hF.close hB (fa_c (by simp [hw.2]) fa_n)
        have hL : OkL B0 _ := hB.2.2.2.2.2
        have hP : va_P D vwCl [(w, .inr (9, [.int f2881_0, .ref bu, .int (nI ((κ w).2.2.1)), .int (nI tl), .int (nI (p2868 + 1)), .int er1, .int f2881_6, .int f2881_7, .ref (κ w).2.2.2, .ref f2881_9, .ref dr, .ref f2881_11, .int (nI f2881_12), .int f2881_13, .int 3, .int f2881_15, .int f2881_16, .ref f2881_17])), (dr, .inl (cs 0, 1383, .inl f2862))] _ := hB.1
        have hbu9 := (hm.2.2.2.2.2.2.1).kept (hB.2.2.2.1 _ hm.2.2.2.2.2.2.1.lt (by simp only [List.mem_cons, List.not_mem_nil, or_false, not_or]; exact ne_c hbT.1 hw.1 (by decide)))
        have hm : MF D cs w _ ((p2868 + 1)) (tl) (er1) (3) dr bu g := ⟨⟨_, hP 0 _ rfl, rfl⟩, ⟨_, hP 0 _ rfl, rfl⟩, ⟨_, hP 0 _ rfl, rfl⟩, ⟨_, hP 0 _ rfl, rfl⟩, ⟨_, hP 0 _ rfl, rfl⟩, ⟨_, hP 0 _ rfl, rfl⟩, hbu9, (by omega), (by omega)⟩
        have hps : PS D cs w _ ((p2868 + 1)) (tl) (er1) (3) dr bu g (N1) ((h + 1)) := ⟨hm, f2862, hP 1 _ rfl, e2862, by omega, v2862⟩
        refine cv_v (As := []) (rest := []) (b := w) ⟨hx, hb, hml, hown, hts⟩ (c_X9_term_d3 hT (w := w) hw hbT hdT hps) (cwV 0 hts gX9_readSum_X9_term rfl rfl rfl hdX9_term_v ⟨Nat.le_of_ble_eq_true rfl, Nat.le_of_ble_eq_true rfl⟩) hN hE hL (rcv10 hN hT hw.1) rfl rfl hl.1 (Nat.le_of_ble_eq_true rfl) dX9_readSum_55 (Nat.zero_le _) (Nat.zero_le _) (fun H1 locs hL hqr2882 => ?_)
        obtain ⟨hT1, hF1, hqr2882⟩ := hqr2882
        have hF := hF.tr (hF1.mono (by simp))
        have hT := hT1
        obtain ⟨N2883, p2884, er2885, a2886, b2887, z2888, m2889, f2890, d2891, e2892, n2893, v2894⟩ := hqr2882
        have hm := m2889
        have hm8 := hm.2.2.2.2.2.2.2
        have hbd : B0 ≤ dr := (hT.o26 hdT.1).1
        have hDR := hT.dr hdT d2891
        have hP : va_P D vwCl [(dr, .inl (cs 0, 1383, .inl f2890))] _ := va_P.cons d2891 va_P.nil
        refine lv_aload_n hx hb dX9_readSum_58 rfl (lv_at hl 1 rfl) ?_
        refine lv_iload_n hx hb dX9_readSum_59 rfl (lv_at hl 0 rfl) ?_
        refine lv_if_eq (tgt := 67) hx hb dX9_readSum_60 (by decide) (fun _ => ?_) (fun c9 => absurd (by decide) c9)
        refine lv_iconst (v := 3) hx hb dX9_readSum_67 (by decide) ?_
        refine cv_v (As := [.int 3]) (rest := []) (b := w) ⟨hx, hb, hml, hown, hts⟩ (c_X9_emit hT (w := w) hw (x := 3) hbT hdT hm (hP 0 _ rfl) e2892 (fun _ => by omega)) (cwV 1 hts gX9_readSum_X9_emit rfl rfl rfl hdX9_emit_v ⟨Nat.le_of_ble_eq_true rfl, Nat.le_of_ble_eq_true rfl⟩) hN hE hL (rcv10 hN hT hw.1) rfl rfl hl.1 (Nat.le_of_ble_eq_true rfl) dX9_readSum_68 (Nat.zero_le _) (Nat.zero_le _) (fun H1 locs hL hqr2896 => ?_)
        obtain ⟨hT1, hF1, hqr2896⟩ := hqr2896
        have hF := hF.tr (hF1.mono (by simp))
        have hT := hT1
        obtain ⟨f2897, N2898, d2899, e2900, x2901, m2902⟩ := hqr2896
        have hm := m2902
        have hm8 := hm.2.2.2.2.2.2.2
        have nx2901 := x2901.n
        have ox2901 := nx2901.1
        have hbd : B0 ≤ dr := (hT.o26 hdT.1).1
        have hDR := hT.dr hdT d2899
        have hP : va_P D vwCl [(dr, .inl (cs 0, 1383, .inl f2897))] _ := va_P.cons d2899 va_P.nil
        refine lv_goto (tgt := 4) hx hb dX9_readSum_71 (by decide) ?_
        have hps : PS D cs w _ (p2884) (tl) (er2885) (3) dr bu g (N2898) ((h + 1)) := ⟨hm, f2897, hP 0 _ rfl, e2900, by omega, (EM.op x2901 (by decide) v2894)⟩
        exact ih2861 (p2884, N2898, er2885) _ _ _ (by show 600 - (p2884) < 600 - p; omega) ⟨hps, (by show (N2898) + 2 * pos ≤ N + 2 * (p2884); omega), (by show pos ≤ (p2884); omega), (fun e9 => hz1 (z2888 e9)), hT, hF, hL⟩ (lv_sub hl [1] rfl)
      · refine lv_iconst (v := 1) hx hb dX9_readSum_38 (by decide) ?_
        refine lv_goto (tgt := 43) hx hb dX9_readSum_39 (by decide) ?_
        refine lv_istore_n (lv' := [(1, .int 1), (0, .ref w)]) hx hb dX9_readSum_43 rfl hl (by decide) rfl (fun ls hl => ?_)
        refine lv_aload_n hx hb dX9_readSum_44 rfl (lv_at hl 1 rfl) ?_
        refine lv_dup hx hb dX9_readSum_45 rfl ?_
        obtain ⟨hb2904, e2904, hat2904, hk2904⟩ := hT.o10 hw.1
        obtain ⟨f2904_0, f2904_1, f2904_3, f2904_4, f2904_5, f2904_6, f2904_7, f2904_9, f2904_10, f2904_11, f2904_12, f2904_13, f2904_14, f2904_15, f2904_16, f2904_17, rfl, c2904_2, c2904_3, c2904_4, c2904_12, t2904_1, t2904_8, t2904_9, c2904_sd, t2904_10, t2904_11, t2904_17⟩ := hk2904
        obtain ⟨rfl, rfl, rfl, rfl, rfl, rfl⟩ := hm.at hat2904 c2904_3 (by omega)
        have hm8 := hm.2.2.2.2.2.2.2
        have hP : va_P D vwCl [(w, .inr (9, [.int f2904_0, .ref bu, .int (nI ((κ w).2.2.1)), .int (nI tl), .int (nI p2868), .int er1, .int f2904_6, .int f2904_7, .ref (κ w).2.2.2, .ref f2904_9, .ref dr, .ref f2904_11, .int (nI f2904_12), .int f2904_13, .int 3, .int f2904_15, .int f2904_16, .ref f2904_17])), (dr, .inl (cs 0, 1383, .inl f2862))] _ := va_P.cons hat2904 hP
        refine va_get (D := D) (ci := 9) (v := .int (nI p2868)) (C := RX9) (T := TX9) (N := 18) hx hb hts iX9_readSum_9 hown hN.1 hP 0 rfl rfl 4 (by decide) (hts _ mX9_readSum_1) (fun _ h9 => h9) rfl dX9_readSum_46 ?_
        refine lv_iconst (v := 1) hx hb dX9_readSum_49 (by decide) ?_
        refine lv_iadd hx hb dX9_readSum_50 ?_
        refine tp_i (nI (p2868 + 1)) (nI_add p2868 1) ?_
        have hB : Bx B0 D _ [(w, .inr (9, [.int f2904_0, .ref bu, .int (nI ((κ w).2.2.1)), .int (nI tl), .int (nI p2868), .int er1, .int f2904_6, .int f2904_7, .ref (κ w).2.2.2, .ref f2904_9, .ref dr, .ref f2904_11, .int (nI f2904_12), .int f2904_13, .int 3, .int f2904_15, .int f2904_16, .ref f2904_17])), (dr, .inl (cs 0, 1383, .inl f2862))] [] _ _ := Bx.of (fun a => (κ a).1) hL hP (fa_c hb2904 (fa_c hbd fa_n)) (by simp only [List.map_cons, List.map_nil, hw.1, hdT.1]; decide)
        refine b_put (D := D) (ci := 9) (v := .int (nI (p2868 + 1))) (ty := .int) (C := RX9) (T := TX9) (N := 18) hx hb hts iX9_readSum_9 tyX9 tyX9_ok nmX9 hown hN hB 0 rfl rfl 4 (by decide) (hts _ mX9_readSum_1) (fun _ h9 => h9) rfl (by decide +kernel) rfl rfl (Nat.le_of_ble_eq_true rfl) (.inl rfl) dX9_readSum_51 (fun H locs hB => ?_)
        have hB : Bx B0 D _ [(w, .inr (9, [.int f2904_0, .ref bu, .int (nI ((κ w).2.2.1)), .int (nI tl), .int (nI (p2868 + 1)), .int er1, .int f2904_6, .int f2904_7, .ref (κ w).2.2.2, .ref f2904_9, .ref dr, .ref f2904_11, .int (nI f2904_12), .int f2904_13, .int 3, .int f2904_15, .int f2904_16, .ref f2904_17])), (dr, .inl (cs 0, 1383, .inl f2862))] [w] _ _ := hB
        refine lv_aload_n hx hb dX9_readSum_54 rfl (lv_at hl 1 rfl) ?_
        have hT : WT B0 D cs T κ _ := hT.close hB ⟨⟨0, _, rfl, ok_10 hw.1 ⟨_, _, _, _, _, _, _, _, _, _, _, _, _, _, _, _, rfl, (by omega), (by omega), (by omega), (by omega), hbT, t2904_8, t2904_9, c2904_sd, hdT, t2904_11, t2904_17⟩⟩, trivial⟩
        have hF : Fr B0 [12, 17] κ H0 _ := hF.close hB (fa_c (by simp [hw.2]) fa_n)
        have hL : OkL B0 _ := hB.2.2.2.2.2
        have hP : va_P D vwCl [(w, .inr (9, [.int f2904_0, .ref bu, .int (nI ((κ w).2.2.1)), .int (nI tl), .int (nI (p2868 + 1)), .int er1, .int f2904_6, .int f2904_7, .ref (κ w).2.2.2, .ref f2904_9, .ref dr, .ref f2904_11, .int (nI f2904_12), .int f2904_13, .int 3, .int f2904_15, .int f2904_16, .ref f2904_17])), (dr, .inl (cs 0, 1383, .inl f2862))] _ := hB.1
        have hbu9 := (hm.2.2.2.2.2.2.1).kept (hB.2.2.2.1 _ hm.2.2.2.2.2.2.1.lt (by simp only [List.mem_cons, List.not_mem_nil, or_false, not_or]; exact ne_c hbT.1 hw.1 (by decide)))
        have hm : MF D cs w _ ((p2868 + 1)) (tl) (er1) (3) dr bu g := ⟨⟨_, hP 0 _ rfl, rfl⟩, ⟨_, hP 0 _ rfl, rfl⟩, ⟨_, hP 0 _ rfl, rfl⟩, ⟨_, hP 0 _ rfl, rfl⟩, ⟨_, hP 0 _ rfl, rfl⟩, ⟨_, hP 0 _ rfl, rfl⟩, hbu9, (by omega), (by omega)⟩
        have hps : PS D cs w _ ((p2868 + 1)) (tl) (er1) (3) dr bu g (N1) ((h + 1)) := ⟨hm, f2862, hP 1 _ rfl, e2862, by omega, v2862⟩
        refine cv_v (As := []) (rest := []) (b := w) ⟨hx, hb, hml, hown, hts⟩ (c_X9_term_d3 hT (w := w) hw hbT hdT hps) (cwV 0 hts gX9_readSum_X9_term rfl rfl rfl hdX9_term_v ⟨Nat.le_of_ble_eq_true rfl, Nat.le_of_ble_eq_true rfl⟩) hN hE hL (rcv10 hN hT hw.1) rfl rfl hl.1 (Nat.le_of_ble_eq_true rfl) dX9_readSum_55 (Nat.zero_le _) (Nat.zero_le _) (fun H1 locs hL hqr2905 => ?_)
        obtain ⟨hT1, hF1, hqr2905⟩ := hqr2905
        have hF := hF.tr (hF1.mono (by simp))
        have hT := hT1
        obtain ⟨N2906, p2907, er2908, a2909, b2910, z2911, m2912, f2913, d2914, e2915, n2916, v2917⟩ := hqr2905
        have hm := m2912
        have hm8 := hm.2.2.2.2.2.2.2
        have hbd : B0 ≤ dr := (hT.o26 hdT.1).1
        have hDR := hT.dr hdT d2914
        have hP : va_P D vwCl [(dr, .inl (cs 0, 1383, .inl f2913))] _ := va_P.cons d2914 va_P.nil
        refine lv_aload_n hx hb dX9_readSum_58 rfl (lv_at hl 1 rfl) ?_
        refine lv_iload_n hx hb dX9_readSum_59 rfl (lv_at hl 0 rfl) ?_
        refine lv_if_eq (tgt := 67) hx hb dX9_readSum_60 (by decide) (fun c9 => absurd c9 (by decide)) (fun _ => ?_)
        refine lv_iconst (v := 2) hx hb dX9_readSum_63 (by decide) ?_
        refine lv_goto (tgt := 68) hx hb dX9_readSum_64 (by decide) ?_
        refine cv_v (As := [.int 2]) (rest := []) (b := w) ⟨hx, hb, hml, hown, hts⟩ (c_X9_emit hT (w := w) hw (x := 2) hbT hdT hm (hP 0 _ rfl) e2915 (fun _ => by omega)) (cwV 1 hts gX9_readSum_X9_emit rfl rfl rfl hdX9_emit_v ⟨Nat.le_of_ble_eq_true rfl, Nat.le_of_ble_eq_true rfl⟩) hN hE hL (rcv10 hN hT hw.1) rfl rfl hl.1 (Nat.le_of_ble_eq_true rfl) dX9_readSum_68 (Nat.zero_le _) (Nat.zero_le _) (fun H1 locs hL hqr2919 => ?_)
        obtain ⟨hT1, hF1, hqr2919⟩ := hqr2919
        have hF := hF.tr (hF1.mono (by simp))
        have hT := hT1
        obtain ⟨f2920, N2921, d2922, e2923, x2924, m2925⟩ := hqr2919
        have hm := m2925
        have hm8 := hm.2.2.2.2.2.2.2
        have nx2924 := x2924.n
        have ox2924 := nx2924.1
        have hbd : B0 ≤ dr := (hT.o26 hdT.1).1
        have hDR := hT.dr hdT d2922
        have hP : va_P D vwCl [(dr, .inl (cs 0, 1383, .inl f2920))] _ := va_P.cons d2922 va_P.nil
        refine lv_goto (tgt := 4) hx hb dX9_readSum_71 (by decide) ?_
        have hps : PS D cs w _ (p2907) (tl) (er2908) (3) dr bu g (N2921) ((h + 1)) := ⟨hm, f2920, hP 0 _ rfl, e2923, by omega, (EM.op x2924 (by decide) v2917)⟩
        exact ih2861 (p2907, N2921, er2908) _ _ _ (by show 600 - (p2907) < 600 - p; omega) ⟨hps, (by show (N2921) + 2 * pos ≤ N + 2 * (p2907); omega), (by show pos ≤ (p2907); omega), (fun e9 => hz1 (z2911 e9)), hT, hF, hL⟩ (lv_sub hl [1] rfl)
    · refine lv_aload_n hx hb dX9_readSum_20 rfl (lv_at hl 0 rfl) ?_
      refine cv_i (As := []) (rest := []) (b := w) ⟨hx, hb, hml, hown, hts⟩ (c_X9_ahead hT (w := w) hw hbT hdT hm) (cwV 0 hts gX9_readSum_X9_ahead rfl rfl rfl hdX9_ahead_v ⟨Nat.le_of_ble_eq_true rfl, Nat.le_of_ble_eq_true rfl⟩) hN hE hL (rcv10 hN hT hw.1) rfl rfl hl.1 (Nat.le_of_ble_eq_true rfl) dX9_readSum_21 (Nat.zero_le _) (Nat.zero_le _) (fun r2927 H1 locs hL hqr2927 => ?_)
      obtain ⟨hT1, hF1, hqr2927⟩ := hqr2927
      have hP : va_P D vwCl [(dr, .inl (cs 0, 1383, .inl f2862))] _ := hF1.hP (hP.sub [0] rfl) (fa_c ⟨by rw [hdT.1]; decide, by rw [hdT.2]; first | decide | (simp; done) | (simp [h15a, h15b, h15c]; done) | (simp; omega)⟩ fa_n)
      have hF := hF.tr (hF1.mono (by simp))
      have hT := hT1
      obtain ⟨p2928, h2929, m2930, n2931, s2932, rfl⟩ := hqr2927
      have hm := m2930
      have hpe := s2932 n2871
      rw [hpe] at hm
      refine tp_i (byF g tl p2868) (by rw [hpe]) ?_
      have hm8 := hm.2.2.2.2.2.2.2
      refine lv_bipush (v := 45) hx hb dX9_readSum_24 (by decide) ?_
      refine lv_icmp_ne (tgt := 74) hx hb dX9_readSum_26 (by decide) (fun c2933 => ?_) (fun c2933 => ?_)
      · have hps : PS D cs w _ (p2868) (tl) (er1) (3) dr bu g (N1) ((h + 1)) := ⟨hm, f2862, hP 0 _ rfl, e2862, by omega, v2862⟩
        exact en_v hx hb hr hlocks hL (Nat.zero_le _) (Nat.zero_le _) dX9_readSum_74 (⟨hT, hF, N1, p2868, er1, (by omega), (by omega), hz1, hps⟩)
      · have hl9 := byF_c (c2933) (by decide)
        refine lv_aload_n hx hb dX9_readSum_29 rfl (lv_at hl 0 rfl) ?_
        refine cv_i (As := []) (rest := []) (b := w) ⟨hx, hb, hml, hown, hts⟩ (c_X9_ahead hT (w := w) hw hbT hdT hm) (cwV 0 hts gX9_readSum_X9_ahead rfl rfl rfl hdX9_ahead_v ⟨Nat.le_of_ble_eq_true rfl, Nat.le_of_ble_eq_true rfl⟩) hN hE hL (rcv10 hN hT hw.1) rfl rfl hl.1 (Nat.le_of_ble_eq_true rfl) dX9_readSum_30 (Nat.zero_le _) (Nat.zero_le _) (fun r2934 H1 locs hL hqr2934 => ?_)
        obtain ⟨hT1, hF1, hqr2934⟩ := hqr2934
        have hP : va_P D vwCl [(dr, .inl (cs 0, 1383, .inl f2862))] _ := hF1.hP (hP.sub [0] rfl) (fa_c ⟨by rw [hdT.1]; decide, by rw [hdT.2]; first | decide | (simp; done) | (simp [h15a, h15b, h15c]; done) | (simp; omega)⟩ fa_n)
        have hF := hF.tr (hF1.mono (by simp))
        have hT := hT1
        obtain ⟨p2935, h2936, m2937, n2938, s2939, rfl⟩ := hqr2934
        have hm := m2937
        have hpe := s2939 n2871
        rw [hpe] at hm
        refine tp_i (byF g tl p2868) (by rw [hpe]) ?_
        have hm8 := hm.2.2.2.2.2.2.2
        refine lv_bipush (v := 43) hx hb dX9_readSum_33 (by decide) ?_
        refine lv_icmp_ne (tgt := 42) hx hb dX9_readSum_35 (by decide) (fun c2940 => ?_) (fun c2940 => ?_)
        · refine lv_iconst (v := 0) hx hb dX9_readSum_42 (by decide) ?_
          refine lv_istore_n (lv' := [(1, .int 0), (0, .ref w)]) hx hb dX9_readSum_43 rfl hl (by decide) rfl (fun ls hl => ?_)
          refine lv_aload_n hx hb dX9_readSum_44 rfl (lv_at hl 1 rfl) ?_
          refine lv_dup hx hb dX9_readSum_45 rfl ?_
          obtain ⟨hb2941, e2941, hat2941, hk2941⟩ := hT.o10 hw.1
          obtain ⟨f2941_0, f2941_1, f2941_3, f2941_4, f2941_5, f2941_6, f2941_7, f2941_9, f2941_10, f2941_11, f2941_12, f2941_13, f2941_14, f2941_15, f2941_16, f2941_17, rfl, c2941_2, c2941_3, c2941_4, c2941_12, t2941_1, t2941_8, t2941_9, c2941_sd, t2941_10, t2941_11, t2941_17⟩ := hk2941
          obtain ⟨rfl, rfl, rfl, rfl, rfl, rfl⟩ := hm.at hat2941 c2941_3 (by omega)
          have hm8 := hm.2.2.2.2.2.2.2
          have hP : va_P D vwCl [(w, .inr (9, [.int f2941_0, .ref bu, .int (nI ((κ w).2.2.1)), .int (nI tl), .int (nI p2868), .int er1, .int f2941_6, .int f2941_7, .ref (κ w).2.2.2, .ref f2941_9, .ref dr, .ref f2941_11, .int (nI f2941_12), .int f2941_13, .int 3, .int f2941_15, .int f2941_16, .ref f2941_17])), (dr, .inl (cs 0, 1383, .inl f2862))] _ := va_P.cons hat2941 hP
          refine va_get (D := D) (ci := 9) (v := .int (nI p2868)) (C := RX9) (T := TX9) (N := 18) hx hb hts iX9_readSum_9 hown hN.1 hP 0 rfl rfl 4 (by decide) (hts _ mX9_readSum_1) (fun _ h9 => h9) rfl dX9_readSum_46 ?_
          refine lv_iconst (v := 1) hx hb dX9_readSum_49 (by decide) ?_
          refine lv_iadd hx hb dX9_readSum_50 ?_
          refine tp_i (nI (p2868 + 1)) (nI_add p2868 1) ?_
          have hB : Bx B0 D _ [(w, .inr (9, [.int f2941_0, .ref bu, .int (nI ((κ w).2.2.1)), .int (nI tl), .int (nI p2868), .int er1, .int f2941_6, .int f2941_7, .ref (κ w).2.2.2, .ref f2941_9, .ref dr, .ref f2941_11, .int (nI f2941_12), .int f2941_13, .int 3, .int f2941_15, .int f2941_16, .ref f2941_17])), (dr, .inl (cs 0, 1383, .inl f2862))] [] _ _ := Bx.of (fun a => (κ a).1) hL hP (fa_c hb2941 (fa_c hbd fa_n)) (by simp only [List.map_cons, List.map_nil, hw.1, hdT.1]; decide)
          refine b_put (D := D) (ci := 9) (v := .int (nI (p2868 + 1))) (ty := .int) (C := RX9) (T := TX9) (N := 18) hx hb hts iX9_readSum_9 tyX9 tyX9_ok nmX9 hown hN hB 0 rfl rfl 4 (by decide) (hts _ mX9_readSum_1) (fun _ h9 => h9) rfl (by decide +kernel) rfl rfl (Nat.le_of_ble_eq_true rfl) (.inl rfl) dX9_readSum_51 (fun H locs hB => ?_)
          have hB : Bx B0 D _ [(w, .inr (9, [.int f2941_0, .ref bu, .int (nI ((κ w).2.2.1)), .int (nI tl), .int (nI (p2868 + 1)), .int er1, .int f2941_6, .int f2941_7, .ref (κ w).2.2.2, .ref f2941_9, .ref dr, .ref f2941_11, .int (nI f2941_12), .int f2941_13, .int 3, .int f2941_15, .int f2941_16, .ref f2941_17])), (dr, .inl (cs 0, 1383, .inl f2862))] [w] _ _ := hB
          refine lv_aload_n hx hb dX9_readSum_54 rfl (lv_at hl 1 rfl) ?_
          have hT : WT B0 D cs T κ _ := hT.close hB ⟨⟨0, _, rfl, ok_10 hw.1 ⟨_, _, _, _, _, _, _, _, _, _, _, _, _, _, _, _, rfl, (by omega), (by omega), (by omega), (by omega), hbT, t2941_8, t2941_9, c2941_sd, hdT, t2941_11, t2941_17⟩⟩, trivial⟩
          have hF : Fr B0 [12, 17] κ H0 _ := hF.close hB (fa_c (by simp [hw.2]) fa_n)
          have hL : OkL B0 _ := hB.2.2.2.2.2
          have hP : va_P D vwCl [(w, .inr (9, [.int f2941_0, .ref bu, .int (nI ((κ w).2.2.1)), .int (nI tl), .int (nI (p2868 + 1)), .int er1, .int f2941_6, .int f2941_7, .ref (κ w).2.2.2, .ref f2941_9, .ref dr, .ref f2941_11, .int (nI f2941_12), .int f2941_13, .int 3, .int f2941_15, .int f2941_16, .ref f2941_17])), (dr, .inl (cs 0, 1383, .inl f2862))] _ := hB.1
          have hbu9 := (hm.2.2.2.2.2.2.1).kept (hB.2.2.2.1 _ hm.2.2.2.2.2.2.1.lt (by simp only [List.mem_cons, List.not_mem_nil, or_false, not_or]; exact ne_c hbT.1 hw.1 (by decide)))
          have hm : MF D cs w _ ((p2868 + 1)) (tl) (er1) (3) dr bu g := ⟨⟨_, hP 0 _ rfl, rfl⟩, ⟨_, hP 0 _ rfl, rfl⟩, ⟨_, hP 0 _ rfl, rfl⟩, ⟨_, hP 0 _ rfl, rfl⟩, ⟨_, hP 0 _ rfl, rfl⟩, ⟨_, hP 0 _ rfl, rfl⟩, hbu9, (by omega), (by omega)⟩
          have hps : PS D cs w _ ((p2868 + 1)) (tl) (er1) (3) dr bu g (N1) ((h + 1)) := ⟨hm, f2862, hP 1 _ rfl, e2862, by omega, v2862⟩
          refine cv_v (As := []) (rest := []) (b := w) ⟨hx, hb, hml, hown, hts⟩ (c_X9_term_d3 hT (w := w) hw hbT hdT hps) (cwV 0 hts gX9_readSum_X9_term rfl rfl rfl hdX9_term_v ⟨Nat.le_of_ble_eq_true rfl, Nat.le_of_ble_eq_true rfl⟩) hN hE hL (rcv10 hN hT hw.1) rfl rfl hl.1 (Nat.le_of_ble_eq_true rfl) dX9_readSum_55 (Nat.zero_le _) (Nat.zero_le _) (fun H1 locs hL hqr2942 => ?_)
          obtain ⟨hT1, hF1, hqr2942⟩ := hqr2942
          have hF := hF.tr (hF1.mono (by simp))
          have hT := hT1
          obtain ⟨N2943, p2944, er2945, a2946, b2947, z2948, m2949, f2950, d2951, e2952, n2953, v2954⟩ := hqr2942
          have hm := m2949
          have hm8 := hm.2.2.2.2.2.2.2
          have hbd : B0 ≤ dr := (hT.o26 hdT.1).1
          have hDR := hT.dr hdT d2951
          have hP : va_P D vwCl [(dr, .inl (cs 0, 1383, .inl f2950))] _ := va_P.cons d2951 va_P.nil
          refine lv_aload_n hx hb dX9_readSum_58 rfl (lv_at hl 1 rfl) ?_
          refine lv_iload_n hx hb dX9_readSum_59 rfl (lv_at hl 0 rfl) ?_
          refine lv_if_eq (tgt := 67) hx hb dX9_readSum_60 (by decide) (fun _ => ?_) (fun c9 => absurd (by decide) c9)
          refine lv_iconst (v := 3) hx hb dX9_readSum_67 (by decide) ?_
          refine cv_v (As := [.int 3]) (rest := []) (b := w) ⟨hx, hb, hml, hown, hts⟩ (c_X9_emit hT (w := w) hw (x := 3) hbT hdT hm (hP 0 _ rfl) e2952 (fun _ => by omega)) (cwV 1 hts gX9_readSum_X9_emit rfl rfl rfl hdX9_emit_v ⟨Nat.le_of_ble_eq_true rfl, Nat.le_of_ble_eq_true rfl⟩) hN hE hL (rcv10 hN hT hw.1) rfl rfl hl.1 (Nat.le_of_ble_eq_true rfl) dX9_readSum_68 (Nat.zero_le _) (Nat.zero_le _) (fun H1 locs hL hqr2956 => ?_)
          obtain ⟨hT1, hF1, hqr2956⟩ := hqr2956
          have hF := hF.tr (hF1.mono (by simp))
          have hT := hT1
          obtain ⟨f2957, N2958, d2959, e2960, x2961, m2962⟩ := hqr2956
          have hm := m2962
          have hm8 := hm.2.2.2.2.2.2.2
          have nx2961 := x2961.n
          have ox2961 := nx2961.1
          have hbd : B0 ≤ dr := (hT.o26 hdT.1).1
          have hDR := hT.dr hdT d2959
          have hP : va_P D vwCl [(dr, .inl (cs 0, 1383, .inl f2957))] _ := va_P.cons d2959 va_P.nil
          refine lv_goto (tgt := 4) hx hb dX9_readSum_71 (by decide) ?_
          have hps : PS D cs w _ (p2944) (tl) (er2945) (3) dr bu g (N2958) ((h + 1)) := ⟨hm, f2957, hP 0 _ rfl, e2960, by omega, (EM.op x2961 (by decide) v2954)⟩
          exact ih2861 (p2944, N2958, er2945) _ _ _ (by show 600 - (p2944) < 600 - p; omega) ⟨hps, (by show (N2958) + 2 * pos ≤ N + 2 * (p2944); omega), (by show pos ≤ (p2944); omega), (fun e9 => hz1 (z2948 e9)), hT, hF, hL⟩ (lv_sub hl [1] rfl)
        · refine lv_iconst (v := 1) hx hb dX9_readSum_38 (by decide) ?_
          refine lv_goto (tgt := 43) hx hb dX9_readSum_39 (by decide) ?_
          refine lv_istore_n (lv' := [(1, .int 1), (0, .ref w)]) hx hb dX9_readSum_43 rfl hl (by decide) rfl (fun ls hl => ?_)
          refine lv_aload_n hx hb dX9_readSum_44 rfl (lv_at hl 1 rfl) ?_
          refine lv_dup hx hb dX9_readSum_45 rfl ?_
          obtain ⟨hb2964, e2964, hat2964, hk2964⟩ := hT.o10 hw.1
          obtain ⟨f2964_0, f2964_1, f2964_3, f2964_4, f2964_5, f2964_6, f2964_7, f2964_9, f2964_10, f2964_11, f2964_12, f2964_13, f2964_14, f2964_15, f2964_16, f2964_17, rfl, c2964_2, c2964_3, c2964_4, c2964_12, t2964_1, t2964_8, t2964_9, c2964_sd, t2964_10, t2964_11, t2964_17⟩ := hk2964
          obtain ⟨rfl, rfl, rfl, rfl, rfl, rfl⟩ := hm.at hat2964 c2964_3 (by omega)
          have hm8 := hm.2.2.2.2.2.2.2
          have hP : va_P D vwCl [(w, .inr (9, [.int f2964_0, .ref bu, .int (nI ((κ w).2.2.1)), .int (nI tl), .int (nI p2868), .int er1, .int f2964_6, .int f2964_7, .ref (κ w).2.2.2, .ref f2964_9, .ref dr, .ref f2964_11, .int (nI f2964_12), .int f2964_13, .int 3, .int f2964_15, .int f2964_16, .ref f2964_17])), (dr, .inl (cs 0, 1383, .inl f2862))] _ := va_P.cons hat2964 hP
          refine va_get (D := D) (ci := 9) (v := .int (nI p2868)) (C := RX9) (T := TX9) (N := 18) hx hb hts iX9_readSum_9 hown hN.1 hP 0 rfl rfl 4 (by decide) (hts _ mX9_readSum_1) (fun _ h9 => h9) rfl dX9_readSum_46 ?_
          refine lv_iconst (v := 1) hx hb dX9_readSum_49 (by decide) ?_
          refine lv_iadd hx hb dX9_readSum_50 ?_
          refine tp_i (nI (p2868 + 1)) (nI_add p2868 1) ?_
          have hB : Bx B0 D _ [(w, .inr (9, [.int f2964_0, .ref bu, .int (nI ((κ w).2.2.1)), .int (nI tl), .int (nI p2868), .int er1, .int f2964_6, .int f2964_7, .ref (κ w).2.2.2, .ref f2964_9, .ref dr, .ref f2964_11, .int (nI f2964_12), .int f2964_13, .int 3, .int f2964_15, .int f2964_16, .ref f2964_17])), (dr, .inl (cs 0, 1383, .inl f2862))] [] _ _ := Bx.of (fun a => (κ a).1) hL hP (fa_c hb2964 (fa_c hbd fa_n)) (by simp only [List.map_cons, List.map_nil, hw.1, hdT.1]; decide)
          refine b_put (D := D) (ci := 9) (v := .int (nI (p2868 + 1))) (ty := .int) (C := RX9) (T := TX9) (N := 18) hx hb hts iX9_readSum_9 tyX9 tyX9_ok nmX9 hown hN hB 0 rfl rfl 4 (by decide) (hts _ mX9_readSum_1) (fun _ h9 => h9) rfl (by decide +kernel) rfl rfl (Nat.le_of_ble_eq_true rfl) (.inl rfl) dX9_readSum_51 (fun H locs hB => ?_)
          have hB : Bx B0 D _ [(w, .inr (9, [.int f2964_0, .ref bu, .int (nI ((κ w).2.2.1)), .int (nI tl), .int (nI (p2868 + 1)), .int er1, .int f2964_6, .int f2964_7, .ref (κ w).2.2.2, .ref f2964_9, .ref dr, .ref f2964_11, .int (nI f2964_12), .int f2964_13, .int 3, .int f2964_15, .int f2964_16, .ref f2964_17])), (dr, .inl (cs 0, 1383, .inl f2862))] [w] _ _ := hB
          refine lv_aload_n hx hb dX9_readSum_54 rfl (lv_at hl 1 rfl) ?_
          have hT : WT B0 D cs T κ _ := hT.close hB ⟨⟨0, _, rfl, ok_10 hw.1 ⟨_, _, _, _, _, _, _, _, _, _, _, _, _, _, _, _, rfl, (by omega), (by omega), (by omega), (by omega), hbT, t2964_8, t2964_9, c2964_sd, hdT, t2964_11, t2964_17⟩⟩, trivial⟩
          have hF : Fr B0 [12, 17] κ H0 _ := hF.close hB (fa_c (by simp [hw.2]) fa_n)
          have hL : OkL B0 _ := hB.2.2.2.2.2
          have hP : va_P D vwCl [(w, .inr (9, [.int f2964_0, .ref bu, .int (nI ((κ w).2.2.1)), .int (nI tl), .int (nI (p2868 + 1)), .int er1, .int f2964_6, .int f2964_7, .ref (κ w).2.2.2, .ref f2964_9, .ref dr, .ref f2964_11, .int (nI f2964_12), .int f2964_13, .int 3, .int f2964_15, .int f2964_16, .ref f2964_17])), (dr, .inl (cs 0, 1383, .inl f2862))] _ := hB.1
          have hbu9 := (hm.2.2.2.2.2.2.1).kept (hB.2.2.2.1 _ hm.2.2.2.2.2.2.1.lt (by simp only [List.mem_cons, List.not_mem_nil, or_false, not_or]; exact ne_c hbT.1 hw.1 (by decide)))
          have hm : MF D cs w _ ((p2868 + 1)) (tl) (er1) (3) dr bu g := ⟨⟨_, hP 0 _ rfl, rfl⟩, ⟨_, hP 0 _ rfl, rfl⟩, ⟨_, hP 0 _ rfl, rfl⟩, ⟨_, hP 0 _ rfl, rfl⟩, ⟨_, hP 0 _ rfl, rfl⟩, ⟨_, hP 0 _ rfl, rfl⟩, hbu9, (by omega), (by omega)⟩
          have hps : PS D cs w _ ((p2868 + 1)) (tl) (er1) (3) dr bu g (N1) ((h + 1)) := ⟨hm, f2862, hP 1 _ rfl, e2862, by omega, v2862⟩
          refine cv_v (As := []) (rest := []) (b := w) ⟨hx, hb, hml, hown, hts⟩ (c_X9_term_d3 hT (w := w) hw hbT hdT hps) (cwV 0 hts gX9_readSum_X9_term rfl rfl rfl hdX9_term_v ⟨Nat.le_of_ble_eq_true rfl, Nat.le_of_ble_eq_true rfl⟩) hN hE hL (rcv10 hN hT hw.1) rfl rfl hl.1 (Nat.le_of_ble_eq_true rfl) dX9_readSum_55 (Nat.zero_le _) (Nat.zero_le _) (fun H1 locs hL hqr2965 => ?_)
          obtain ⟨hT1, hF1, hqr2965⟩ := hqr2965
          have hF := hF.tr (hF1.mono (by simp))
          have hT := hT1
          obtain ⟨N2966, p2967, er2968, a2969, b2970, z2971, m2972, f2973, d2974, e2975, n2976, v2977⟩ := hqr2965
          have hm := m2972
          have hm8 := hm.2.2.2.2.2.2.2
          have hbd : B0 ≤ dr := (hT.o26 hdT.1).1
          have hDR := hT.dr hdT d2974
          have hP : va_P D vwCl [(dr, .inl (cs 0, 1383, .inl f2973))] _ := va_P.cons d2974 va_P.nil
          refine lv_aload_n hx hb dX9_readSum_58 rfl (lv_at hl 1 rfl) ?_
          refine lv_iload_n hx hb dX9_readSum_59 rfl (lv_at hl 0 rfl) ?_
          refine lv_if_eq (tgt := 67) hx hb dX9_readSum_60 (by decide) (fun c9 => absurd c9 (by decide)) (fun _ => ?_)
          refine lv_iconst (v := 2) hx hb dX9_readSum_63 (by decide) ?_
          refine lv_goto (tgt := 68) hx hb dX9_readSum_64 (by decide) ?_
          refine cv_v (As := [.int 2]) (rest := []) (b := w) ⟨hx, hb, hml, hown, hts⟩ (c_X9_emit hT (w := w) hw (x := 2) hbT hdT hm (hP 0 _ rfl) e2975 (fun _ => by omega)) (cwV 1 hts gX9_readSum_X9_emit rfl rfl rfl hdX9_emit_v ⟨Nat.le_of_ble_eq_true rfl, Nat.le_of_ble_eq_true rfl⟩) hN hE hL (rcv10 hN hT hw.1) rfl rfl hl.1 (Nat.le_of_ble_eq_true rfl) dX9_readSum_68 (Nat.zero_le _) (Nat.zero_le _) (fun H1 locs hL hqr2979 => ?_)
          obtain ⟨hT1, hF1, hqr2979⟩ := hqr2979
          have hF := hF.tr (hF1.mono (by simp))
          have hT := hT1
          obtain ⟨f2980, N2981, d2982, e2983, x2984, m2985⟩ := hqr2979
          have hm := m2985
          have hm8 := hm.2.2.2.2.2.2.2
          have nx2984 := x2984.n
          have ox2984 := nx2984.1
          have hbd : B0 ≤ dr := (hT.o26 hdT.1).1
          have hDR := hT.dr hdT d2982
          have hP : va_P D vwCl [(dr, .inl (cs 0, 1383, .inl f2980))] _ := va_P.cons d2982 va_P.nil
          refine lv_goto (tgt := 4) hx hb dX9_readSum_71 (by decide) ?_
          have hps : PS D cs w _ (p2967) (tl) (er2968) (3) dr bu g (N2981) ((h + 1)) := ⟨hm, f2980, hP 0 _ rfl, e2983, by omega, (EM.op x2984 (by decide) v2977)⟩
          exact ih2861 (p2967, N2981, er2968) _ _ _ (by show 600 - (p2967) < 600 - p; omega) ⟨hps, (by show (N2981) + 2 * pos ≤ N + 2 * (p2967); omega), (by show pos ≤ (p2967); omega), (fun e9 => hz1 (z2971 e9)), hT, hF, hL⟩ (lv_sub hl [1] rfl)
  · refine lv_if_eq (tgt := 74) hx hb dX9_readSum_8 (by decide) (fun _ => ?_) (fun c9 => absurd (by decide) c9)
    have hps : PS D cs w _ (p) (tl) (er1) (3) dr bu g (N1) ((h + 1)) := ⟨hm, f2862, hP 0 _ rfl, e2862, by omega, v2862⟩
    exact en_v hx hb hr hlocks hL (Nat.zero_le _) (Nat.zero_le _) dX9_readSum_74 (⟨hT, hF, N1, p, er1, (by omega), (by omega), hz1, hps⟩)
set_option maxHeartbeats 4000000 in
set_option maxRecDepth 100000 in
theorem c_X9_factor_d2 {l : Launch} {D : va_G} {cs : Nat → ClassId} {B0 T : Nat} {κ : KM} {H0 : Heap} (hT : WT B0 D cs T κ H0) {w : Nat} (hw : T2 κ w 10 12) {pos tl : Nat} {er : Int32} {dr bu : Nat} {g : Nat → Int32} {N h : Nat} (hbT : T2 κ bu 23 14) (hdT : T2 κ dr 26 17) (hps : PS D cs w H0 pos tl er 2 dr bu g N h) : KC l yX9_factor wsX9_factor 11 237 0 0 D cs B0 H0 [.ref w] (Qv (fun H => WT B0 D cs T κ H ∧ Fr B0 [12, 17] κ H0 H ∧ ∃ N1 pos1 er1, N1 + 2 * pos ≤ N + 2 * pos1 ∧ pos ≤ pos1 ∧ (er1 = 0 → er = 0) ∧ PS D cs w H pos1 tl er1 2 dr bu g N1 (h + 1))) := by
  refine KC.of cX9_factor 4 none (by decide) rfl (Nat.le_of_ble_eq_true rfl) ?_
  intro p e s m below meth c ls hx hb hr hml hown hts hlocks hin hN hE hH0 hl
  have hown : s.vm.findClass RX9 = some m.cls := hown
  have hl : lv_has ls 4 [(0, .ref w)] := hl
  have hL : OkL B0 [] := OkL.nil
  have hF : Fr B0 [12, 17] κ H0 H0 := Fr.rf
  obtain ⟨hm, f2987, hd2987, e2987, n2987, v2987⟩ := hps
  have hm8 := hm.2.2.2.2.2.2.2
  have hbd : B0 ≤ dr := (hT.o26 hdT.1).1
  have hDR := hT.dr hdT hd2987
  have hP : va_P D vwCl [(dr, .inl (cs 0, 1383, .inl f2987))] _ := va_P.cons hd2987 va_P.nil
  refine lv_aload_n hx hb dX9_factor_0 rfl (lv_at hl 0 rfl) ?_
  refine cv_i (As := []) (rest := []) (b := w) ⟨hx, hb, hml, hown, hts⟩ (c_X9_isGood hT (w := w) hw hbT hdT hm) (cwV 0 hts gX9_factor_X9_isGood rfl rfl rfl hdX9_isGood_v ⟨Nat.le_of_ble_eq_true rfl, Nat.le_of_ble_eq_true rfl⟩) hN hE hL (rcv10 hN hT hw.1) rfl rfl hl.1 (Nat.le_of_ble_eq_true rfl) dX9_factor_1 (Nat.zero_le _) (Nat.zero_le _) (fun r2989 H1 locs hL hqr2989 => ?_)
  obtain ⟨h9, hqr2989⟩ := hqr2989; replace h9 := h9.symm; subst h9
  rcases hqr2989 with ⟨rfl, e2990⟩ | ⟨rfl, e2991⟩
  · refine lv_if_ne (tgt := 8) hx hb dX9_factor_4 (by decide) (fun _ => ?_) (fun c9 => absurd c9 (by decide))
    refine lv_aload_n hx hb dX9_factor_8 rfl (lv_at hl 0 rfl) ?_
    refine cv_i (As := []) (rest := []) (b := w) ⟨hx, hb, hml, hown, hts⟩ (c_X9_ahead hT (w := w) hw hbT hdT hm) (cwV 0 hts gX9_factor_X9_ahead rfl rfl rfl hdX9_ahead_v ⟨Nat.le_of_ble_eq_true rfl, Nat.le_of_ble_eq_true rfl⟩) hN hE hL (rcv10 hN hT hw.1) rfl rfl hl.1 (Nat.le_of_ble_eq_true rfl) dX9_factor_9 (Nat.zero_le _) (Nat.zero_le _) (fun r2992 H1 locs hL hqr2992 => ?_)
    obtain ⟨hT1, hF1, hqr2992⟩ := hqr2992
    have hP : va_P D vwCl [(dr, .inl (cs 0, 1383, .inl f2987))] _ := hF1.hP (hP.sub [0] rfl) (fa_c ⟨by rw [hdT.1]; decide, by rw [hdT.2]; first | decide | (simp; done) | (simp [h15a, h15b, h15c]; done) | (simp; omega)⟩ fa_n)
    have hF := hF.tr (hF1.mono (by simp))
    have hT := hT1
    obtain ⟨p2993, h2994, m2995, n2996, s2997, rfl⟩ := hqr2992
    have hm := m2995
    have hm8 := hm.2.2.2.2.2.2.2
    refine lv_istore_n (lv' := [(1, .int (byF g tl p2993)), (0, .ref w)]) hx hb dX9_factor_12 rfl hl (by decide) rfl (fun ls hl => ?_)
    refine lv_iload_n hx hb dX9_factor_13 rfl (lv_at hl 0 rfl) ?_
    refine lv_bipush (v := 40) hx hb dX9_factor_14 (by decide) ?_
    refine lv_icmp_ne (tgt := 78) hx hb dX9_factor_16 (by decide) (fun c2998 => ?_) (fun c2998 => ?_)
    · refine lv_iload_n hx hb dX9_factor_78 rfl (lv_at hl 0 rfl) ?_
      refine cs_i (As := [.int (byF g tl p2993)]) (rest := []) ⟨hx, hb, hml, hown, hts⟩ (c_X9_isDigit hT (x := (byF g tl p2993))) (va_cwS 1 hts gX9_factor_X9_isDigit rfl rfl rfl hdX9_isDigit_o ⟨Nat.le_of_ble_eq_true rfl, Nat.le_of_ble_eq_true rfl⟩) hN hE hL rfl rfl hl.1 (Nat.le_of_ble_eq_true rfl) dX9_factor_79 (Nat.zero_le _) (Nat.zero_le _) (fun r2999 H1 locs hL hqr2999 => ?_)
      obtain ⟨h9, hqr2999⟩ := hqr2999; replace h9 := h9.symm; subst h9
      rcases hqr2999 with ⟨rfl, o3000⟩ | ⟨rfl, l3001, g3002⟩
      · refine lv_if_eq (tgt := 89) hx hb dX9_factor_82 (by decide) (fun _ => ?_) (fun c9 => absurd (by decide) c9)
        refine lv_aload_n hx hb dX9_factor_89 rfl (lv_at hl 1 rfl) ?_
        refine va_ldcS hx hb hown (hN.s 19 rfl) dX9_factor_90 ?_
        refine cv_i (As := [.ref (cs 119)]) (rest := []) (b := w) ⟨hx, hb, hml, hown, hts⟩ (c_X9_takeWord hT (w := w) hw (i := 19) (by decide) hbT hdT hm) (cwV 1 hts gX9_factor_X9_takeWord rfl rfl rfl hdX9_takeWord_v ⟨Nat.le_of_ble_eq_true rfl, Nat.le_of_ble_eq_true rfl⟩) hN hE hL (rcv10 hN hT hw.1) rfl rfl hl.1 (Nat.le_of_ble_eq_true rfl) dX9_factor_92 (Nat.zero_le _) (Nat.zero_le _) (fun r3003 H1 locs hL hqr3003 => ?_)
        obtain ⟨hT1, hF1, hqr3003⟩ := hqr3003
        have hP : va_P D vwCl [(dr, .inl (cs 0, 1383, .inl f2987))] _ := hF1.hP (hP.sub [0] rfl) (fa_c ⟨by rw [hdT.1]; decide, by rw [hdT.2]; first | decide | (simp; done) | (simp [h15a, h15b, h15c]; done) | (simp; omega)⟩ fa_n)
        have hF := hF.tr (hF1.mono (by simp))
        have hT := hT1
        rcases hqr3003 with ⟨rfl, p3004, h3005, m3006⟩ | ⟨rfl, p3007, q3008, e3009, m3010⟩
        · have hm := m3006
          have hm8 := hm.2.2.2.2.2.2.2
          refine lv_if_eq (tgt := 102) hx hb dX9_factor_95 (by decide) (fun _ => ?_) (fun c9 => absurd (by decide) c9)
          refine lv_aload_n hx hb dX9_factor_102 rfl (lv_at hl 1 rfl) ?_
          refine va_ldcS hx hb hown (hN.s 25 rfl) dX9_factor_103 ?_
          refine cv_i (As := [.ref (cs 125)]) (rest := []) (b := w) ⟨hx, hb, hml, hown, hts⟩ (c_X9_takeWord hT (w := w) hw (i := 25) (by decide) hbT hdT hm) (cwV 1 hts gX9_factor_X9_takeWord rfl rfl rfl hdX9_takeWord_v ⟨Nat.le_of_ble_eq_true rfl, Nat.le_of_ble_eq_true rfl⟩) hN hE hL (rcv10 hN hT hw.1) rfl rfl hl.1 (Nat.le_of_ble_eq_true rfl) dX9_factor_105 (Nat.zero_le _) (Nat.zero_le _) (fun r3011 H1 locs hL hqr3011 => ?_)
          obtain ⟨hT1, hF1, hqr3011⟩ := hqr3011
          have hP : va_P D vwCl [(dr, .inl (cs 0, 1383, .inl f2987))] _ := hF1.hP (hP.sub [0] rfl) (fa_c ⟨by rw [hdT.1]; decide, by rw [hdT.2]; first | decide | (simp; done) | (simp [h15a, h15b, h15c]; done) | (simp; omega)⟩ fa_n)
          have hF := hF.tr (hF1.mono (by simp))
          have hT := hT1
          rcases hqr3011 with ⟨rfl, p3012, h3013, m3014⟩ | ⟨rfl, p3015, q3016, e3017, m3018⟩
          · have hm := m3014
            have hm8 := hm.2.2.2.2.2.2.2
            refine lv_if_eq (tgt := 115) hx hb dX9_factor_108 (by decide) (fun _ => ?_) (fun c9 => absurd (by decide) c9)
            refine lv_aload_n hx hb dX9_factor_115 rfl (lv_at hl 1 rfl) ?_
            refine va_ldcS hx hb hown (hN.s 26 rfl) dX9_factor_116 ?_
            refine cv_i (As := [.ref (cs 126)]) (rest := []) (b := w) ⟨hx, hb, hml, hown, hts⟩ (c_X9_takeWord hT (w := w) hw (i := 26) (by decide) hbT hdT hm) (cwV 1 hts gX9_factor_X9_takeWord rfl rfl rfl hdX9_takeWord_v ⟨Nat.le_of_ble_eq_true rfl, Nat.le_of_ble_eq_true rfl⟩) hN hE hL (rcv10 hN hT hw.1) rfl rfl hl.1 (Nat.le_of_ble_eq_true rfl) dX9_factor_118 (Nat.zero_le _) (Nat.zero_le _) (fun r3019 H1 locs hL hqr3019 => ?_)
            obtain ⟨hT1, hF1, hqr3019⟩ := hqr3019
            have hP : va_P D vwCl [(dr, .inl (cs 0, 1383, .inl f2987))] _ := hF1.hP (hP.sub [0] rfl) (fa_c ⟨by rw [hdT.1]; decide, by rw [hdT.2]; first | decide | (simp; done) | (simp [h15a, h15b, h15c]; done) | (simp; omega)⟩ fa_n)
            have hF := hF.tr (hF1.mono (by simp))
            have hT := hT1
            rcases hqr3019 with ⟨rfl, p3020, h3021, m3022⟩ | ⟨rfl, p3023, q3024, e3025, m3026⟩
            · have hm := m3022
              have hm8 := hm.2.2.2.2.2.2.2
              refine lv_if_eq (tgt := 128) hx hb dX9_factor_121 (by decide) (fun _ => ?_) (fun c9 => absurd (by decide) c9)
              refine lv_aload_n hx hb dX9_factor_128 rfl (lv_at hl 1 rfl) ?_
              refine va_ldcS hx hb hown (hN.s 27 rfl) dX9_factor_129 ?_
              refine cv_i (As := [.ref (cs 127)]) (rest := []) (b := w) ⟨hx, hb, hml, hown, hts⟩ (c_X9_takeWord hT (w := w) hw (i := 27) (by decide) hbT hdT hm) (cwV 1 hts gX9_factor_X9_takeWord rfl rfl rfl hdX9_takeWord_v ⟨Nat.le_of_ble_eq_true rfl, Nat.le_of_ble_eq_true rfl⟩) hN hE hL (rcv10 hN hT hw.1) rfl rfl hl.1 (Nat.le_of_ble_eq_true rfl) dX9_factor_131 (Nat.zero_le _) (Nat.zero_le _) (fun r3027 H1 locs hL hqr3027 => ?_)
              obtain ⟨hT1, hF1, hqr3027⟩ := hqr3027
              have hP : va_P D vwCl [(dr, .inl (cs 0, 1383, .inl f2987))] _ := hF1.hP (hP.sub [0] rfl) (fa_c ⟨by rw [hdT.1]; decide, by rw [hdT.2]; first | decide | (simp; done) | (simp [h15a, h15b, h15c]; done) | (simp; omega)⟩ fa_n)
              have hF := hF.tr (hF1.mono (by simp))
              have hT := hT1
              rcases hqr3027 with ⟨rfl, p3028, h3029, m3030⟩ | ⟨rfl, p3031, q3032, e3033, m3034⟩
              · have hm := m3030
                have hm8 := hm.2.2.2.2.2.2.2
                refine lv_if_eq (tgt := 141) hx hb dX9_factor_134 (by decide) (fun _ => ?_) (fun c9 => absurd (by decide) c9)
                refine lv_iconst (v := (-1)) hx hb dX9_factor_141 (by decide) ?_
                refine lv_istore_n (lv' := [(2, .int (-1)), (1, .int (byF g tl p2993)), (0, .ref w)]) hx hb dX9_factor_142 rfl hl (by decide) rfl (fun ls hl => ?_)
                refine lv_iload_n hx hb dX9_factor_143 rfl (lv_at hl 0 rfl) ?_
                refine lv_if_ge (tgt := 158) hx hb dX9_factor_144 (by decide) (fun c9 => absurd c9 (by decide)) (fun _ => ?_)
                refine lv_aload_n hx hb dX9_factor_147 rfl (lv_at hl 2 rfl) ?_
                refine lv_iconst (v := 0) hx hb dX9_factor_148 (by decide) ?_
                refine lv_sipush (v := 9999) hx hb dX9_factor_149 (by decide) ?_
                refine cv_i (As := [.int 0, .int 9999]) (rest := []) (b := w) ⟨hx, hb, hml, hown, hts⟩ (c_X9_number hT (w := w) hw (x := 0) (y := 9999) hbT hdT hm) (cwV 2 hts gX9_factor_X9_number rfl rfl rfl hdX9_number_v ⟨Nat.le_of_ble_eq_true rfl, Nat.le_of_ble_eq_true rfl⟩) hN hE hL (rcv10 hN hT hw.1) rfl rfl hl.1 (Nat.le_of_ble_eq_true rfl) dX9_factor_152 (Nat.zero_le _) (Nat.zero_le _) (fun r3035 H1 locs hL hqr3035 => ?_)
                obtain ⟨hT1, hF1, hqr3035⟩ := hqr3035
                have hP : va_P D vwCl [(dr, .inl (cs 0, 1383, .inl f2987))] _ := hF1.hP (hP.sub [0] rfl) (fa_c ⟨by rw [hdT.1]; decide, by rw [hdT.2]; first | decide | (simp; done) | (simp [h15a, h15b, h15c]; done) | (simp; omega)⟩ fa_n)
                have hF := hF.tr (hF1.mono (by simp))
                have hT := hT1
                obtain ⟨p3036, er3037, a3038, z3039, m3040, q3041⟩ := hqr3035
                have hm := m3040
                have hm8 := hm.2.2.2.2.2.2.2
                refine lv_goto (tgt := 159) hx hb dX9_factor_155 (by decide) ?_
                refine lv_istore_n (lv' := [(3, .int r3035), (2, .int (-1)), (1, .int (byF g tl p2993)), (0, .ref w)]) hx hb dX9_factor_159 rfl hl (by decide) rfl (fun ls hl => ?_)
                refine lv_aload_n hx hb dX9_factor_160 rfl (lv_at hl 3 rfl) ?_
                refine lv_iload_n hx hb dX9_factor_161 rfl (lv_at hl 1 rfl) ?_
                refine lv_if_ge (tgt := 169) hx hb dX9_factor_162 (by decide) (fun c9 => absurd c9 (by decide)) (fun _ => ?_)
                refine lv_iconst (v := 0) hx hb dX9_factor_165 (by decide) ?_
                refine lv_goto (tgt := 170) hx hb dX9_factor_166 (by decide) ?_
                refine cv_v (As := [.int 0]) (rest := []) (b := w) ⟨hx, hb, hml, hown, hts⟩ (c_X9_emit hT (w := w) hw (x := 0) hbT hdT hm (hP 0 _ rfl) e2987 (fun e9 => by have q9 := (z3039 e9).2; omega)) (cwV 1 hts gX9_factor_X9_emit rfl rfl rfl hdX9_emit_v ⟨Nat.le_of_ble_eq_true rfl, Nat.le_of_ble_eq_true rfl⟩) hN hE hL (rcv10 hN hT hw.1) rfl rfl hl.1 (Nat.le_of_ble_eq_true rfl) dX9_factor_170 (Nat.zero_le _) (Nat.zero_le _) (fun H1 locs hL hqr3042 => ?_)
                obtain ⟨hT1, hF1, hqr3042⟩ := hqr3042
                have hF := hF.tr (hF1.mono (by simp))
                have hT := hT1
                obtain ⟨f3043, N3044, d3045, e3046, x3047, m3048⟩ := hqr3042
                have hm := m3048
                have hm8 := hm.2.2.2.2.2.2.2
                have nx3047 := x3047.n
                have ox3047 := nx3047.1
                have hbd : B0 ≤ dr := (hT.o26 hdT.1).1
                have hDR := hT.dr hdT d3045
                have hP : va_P D vwCl [(dr, .inl (cs 0, 1383, .inl f3043))] _ := va_P.cons d3045 va_P.nil
                refine lv_aload_n hx hb dX9_factor_173 rfl (lv_at hl 3 rfl) ?_
                refine lv_iload_n hx hb dX9_factor_174 rfl (lv_at hl 0 rfl) ?_
                refine cv_v (As := [.int r3035]) (rest := []) (b := w) ⟨hx, hb, hml, hown, hts⟩ (c_X9_emit hT (w := w) hw (x := r3035) hbT hdT hm (hP 0 _ rfl) e3046 (fun e9 => by have q9 := (z3039 e9).2; omega)) (cwV 1 hts gX9_factor_X9_emit rfl rfl rfl hdX9_emit_v ⟨Nat.le_of_ble_eq_true rfl, Nat.le_of_ble_eq_true rfl⟩) hN hE hL (rcv10 hN hT hw.1) rfl rfl hl.1 (Nat.le_of_ble_eq_true rfl) dX9_factor_175 (Nat.zero_le _) (Nat.zero_le _) (fun H1 locs hL hqr3050 => ?_)
                obtain ⟨hT1, hF1, hqr3050⟩ := hqr3050
                have hF := hF.tr (hF1.mono (by simp))
                have hT := hT1
                obtain ⟨f3051, N3052, d3053, e3054, x3055, m3056⟩ := hqr3050
                have hm := m3056
                have hm8 := hm.2.2.2.2.2.2.2
                have nx3055 := x3055.n
                have ox3055 := nx3055.1
                have hbd : B0 ≤ dr := (hT.o26 hdT.1).1
                have hDR := hT.dr hdT d3053
                have hP : va_P D vwCl [(dr, .inl (cs 0, 1383, .inl f3051))] _ := va_P.cons d3053 va_P.nil
                have bx3047 := nx3047.2.1
                have bx3055 := nx3055.2.1
                have hbn : N3052 + 2 * pos ≤ N + 2 * p3036 ∧ N3052 ≤ 2 * p3036 := by
                  by_cases e9 : er3037 = 0
                  · have q9 := (z3039 e9).2; omega
                  · have q9 := bx3047 e9; have q8 := bx3055 e9; omega
                exact en_v hx hb hr hlocks hL (Nat.zero_le _) (Nat.zero_le _) dX9_factor_178 (⟨hT, hF, _, p3036, er3037, hbn.1, (by omega), (fun e9 => id ((fun e9 => (z3039 e9).1) e9)), hm, _, hP 0 _ rfl, e3054, hbn.2, (EM.lit x3047 x3055 (by decide) (fun e9 => v2987 ((fun e9 => (z3039 e9).1) e9)))⟩)
              · have hm := m3034
                have hm8 := hm.2.2.2.2.2.2.2
                refine lv_if_eq (tgt := 141) hx hb dX9_factor_134 (by decide) (fun c9 => absurd c9 (by decide)) (fun _ => ?_)
                refine lv_iconst (v := 3) hx hb dX9_factor_137 (by decide) ?_
                refine lv_goto (tgt := 142) hx hb dX9_factor_138 (by decide) ?_
                refine lv_istore_n (lv' := [(2, .int 3), (1, .int (byF g tl p2993)), (0, .ref w)]) hx hb dX9_factor_142 rfl hl (by decide) rfl (fun ls hl => ?_)
                refine lv_iload_n hx hb dX9_factor_143 rfl (lv_at hl 0 rfl) ?_
                refine lv_if_ge (tgt := 158) hx hb dX9_factor_144 (by decide) (fun _ => ?_) (fun c9 => absurd (by decide) c9)
                refine lv_iload_n hx hb dX9_factor_158 rfl (lv_at hl 0 rfl) ?_
                refine lv_istore_n (lv' := [(3, .int 3), (2, .int 3), (1, .int (byF g tl p2993)), (0, .ref w)]) hx hb dX9_factor_159 rfl hl (by decide) rfl (fun ls hl => ?_)
                refine lv_aload_n hx hb dX9_factor_160 rfl (lv_at hl 3 rfl) ?_
                refine lv_iload_n hx hb dX9_factor_161 rfl (lv_at hl 1 rfl) ?_
                refine lv_if_ge (tgt := 169) hx hb dX9_factor_162 (by decide) (fun _ => ?_) (fun c9 => absurd (by decide) c9)
                refine lv_iconst (v := 1) hx hb dX9_factor_169 (by decide) ?_
                refine cv_v (As := [.int 1]) (rest := []) (b := w) ⟨hx, hb, hml, hown, hts⟩ (c_X9_emit hT (w := w) hw (x := 1) hbT hdT hm (hP 0 _ rfl) e2987 (fun e9 => by omega)) (cwV 1 hts gX9_factor_X9_emit rfl rfl rfl hdX9_emit_v ⟨Nat.le_of_ble_eq_true rfl, Nat.le_of_ble_eq_true rfl⟩) hN hE hL (rcv10 hN hT hw.1) rfl rfl hl.1 (Nat.le_of_ble_eq_true rfl) dX9_factor_170 (Nat.zero_le _) (Nat.zero_le _) (fun H1 locs hL hqr3058 => ?_)
                obtain ⟨hT1, hF1, hqr3058⟩ := hqr3058
                have hF := hF.tr (hF1.mono (by simp))
                have hT := hT1
                obtain ⟨f3059, N3060, d3061, e3062, x3063, m3064⟩ := hqr3058
                have hm := m3064
                have hm8 := hm.2.2.2.2.2.2.2
                have nx3063 := x3063.n
                have ox3063 := nx3063.1
                have hbd : B0 ≤ dr := (hT.o26 hdT.1).1
                have hDR := hT.dr hdT d3061
                have hP : va_P D vwCl [(dr, .inl (cs 0, 1383, .inl f3059))] _ := va_P.cons d3061 va_P.nil
                refine lv_aload_n hx hb dX9_factor_173 rfl (lv_at hl 3 rfl) ?_
                refine lv_iload_n hx hb dX9_factor_174 rfl (lv_at hl 0 rfl) ?_
                refine cv_v (As := [.int 3]) (rest := []) (b := w) ⟨hx, hb, hml, hown, hts⟩ (c_X9_emit hT (w := w) hw (x := 3) hbT hdT hm (hP 0 _ rfl) e3062 (fun e9 => by omega)) (cwV 1 hts gX9_factor_X9_emit rfl rfl rfl hdX9_emit_v ⟨Nat.le_of_ble_eq_true rfl, Nat.le_of_ble_eq_true rfl⟩) hN hE hL (rcv10 hN hT hw.1) rfl rfl hl.1 (Nat.le_of_ble_eq_true rfl) dX9_factor_175 (Nat.zero_le _) (Nat.zero_le _) (fun H1 locs hL hqr3066 => ?_)
                obtain ⟨hT1, hF1, hqr3066⟩ := hqr3066
                have hF := hF.tr (hF1.mono (by simp))
                have hT := hT1
                obtain ⟨f3067, N3068, d3069, e3070, x3071, m3072⟩ := hqr3066
                have hm := m3072
                have hm8 := hm.2.2.2.2.2.2.2
                have nx3071 := x3071.n
                have ox3071 := nx3071.1
                have hbd : B0 ≤ dr := (hT.o26 hdT.1).1
                have hDR := hT.dr hdT d3069
                have hP : va_P D vwCl [(dr, .inl (cs 0, 1383, .inl f3067))] _ := va_P.cons d3069 va_P.nil
                have bx3063 := nx3063.2.1
                have bx3071 := nx3071.2.1
                have hbn : N3068 + 2 * pos ≤ N + 2 * p3031 ∧ N3068 ≤ 2 * p3031 := by
                  by_cases e9 : er = 0
                  · omega
                  · have q9 := bx3063 e9; have q8 := bx3071 e9; omega
                exact en_v hx hb hr hlocks hL (Nat.zero_le _) (Nat.zero_le _) dX9_factor_178 (⟨hT, hF, _, p3031, er, hbn.1, (by omega), id, hm, _, hP 0 _ rfl, e3070, hbn.2, (EM.lit x3063 x3071 (by decide) v2987)⟩)
            · have hm := m3026
              have hm8 := hm.2.2.2.2.2.2.2
              refine lv_if_eq (tgt := 128) hx hb dX9_factor_121 (by decide) (fun c9 => absurd c9 (by decide)) (fun _ => ?_)
              refine lv_iconst (v := 2) hx hb dX9_factor_124 (by decide) ?_
              refine lv_goto (tgt := 142) hx hb dX9_factor_125 (by decide) ?_
              refine lv_istore_n (lv' := [(2, .int 2), (1, .int (byF g tl p2993)), (0, .ref w)]) hx hb dX9_factor_142 rfl hl (by decide) rfl (fun ls hl => ?_)
              refine lv_iload_n hx hb dX9_factor_143 rfl (lv_at hl 0 rfl) ?_
              refine lv_if_ge (tgt := 158) hx hb dX9_factor_144 (by decide) (fun _ => ?_) (fun c9 => absurd (by decide) c9)
              refine lv_iload_n hx hb dX9_factor_158 rfl (lv_at hl 0 rfl) ?_
              refine lv_istore_n (lv' := [(3, .int 2), (2, .int 2), (1, .int (byF g tl p2993)), (0, .ref w)]) hx hb dX9_factor_159 rfl hl (by decide) rfl (fun ls hl => ?_)
              refine lv_aload_n hx hb dX9_factor_160 rfl (lv_at hl 3 rfl) ?_
              refine lv_iload_n hx hb dX9_factor_161 rfl (lv_at hl 1 rfl) ?_
              refine lv_if_ge (tgt := 169) hx hb dX9_factor_162 (by decide) (fun _ => ?_) (fun c9 => absurd (by decide) c9)
              refine lv_iconst (v := 1) hx hb dX9_factor_169 (by decide) ?_
              refine cv_v (As := [.int 1]) (rest := []) (b := w) ⟨hx, hb, hml, hown, hts⟩ (c_X9_emit hT (w := w) hw (x := 1) hbT hdT hm (hP 0 _ rfl) e2987 (fun e9 => by omega)) (cwV 1 hts gX9_factor_X9_emit rfl rfl rfl hdX9_emit_v ⟨Nat.le_of_ble_eq_true rfl, Nat.le_of_ble_eq_true rfl⟩) hN hE hL (rcv10 hN hT hw.1) rfl rfl hl.1 (Nat.le_of_ble_eq_true rfl) dX9_factor_170 (Nat.zero_le _) (Nat.zero_le _) (fun H1 locs hL hqr3074 => ?_)
              obtain ⟨hT1, hF1, hqr3074⟩ := hqr3074
              have hF := hF.tr (hF1.mono (by simp))
              have hT := hT1
              obtain ⟨f3075, N3076, d3077, e3078, x3079, m3080⟩ := hqr3074
              have hm := m3080
              have hm8 := hm.2.2.2.2.2.2.2
              have nx3079 := x3079.n
              have ox3079 := nx3079.1
              have hbd : B0 ≤ dr := (hT.o26 hdT.1).1
              have hDR := hT.dr hdT d3077
              have hP : va_P D vwCl [(dr, .inl (cs 0, 1383, .inl f3075))] _ := va_P.cons d3077 va_P.nil
              refine lv_aload_n hx hb dX9_factor_173 rfl (lv_at hl 3 rfl) ?_
              refine lv_iload_n hx hb dX9_factor_174 rfl (lv_at hl 0 rfl) ?_
              refine cv_v (As := [.int 2]) (rest := []) (b := w) ⟨hx, hb, hml, hown, hts⟩ (c_X9_emit hT (w := w) hw (x := 2) hbT hdT hm (hP 0 _ rfl) e3078 (fun e9 => by omega)) (cwV 1 hts gX9_factor_X9_emit rfl rfl rfl hdX9_emit_v ⟨Nat.le_of_ble_eq_true rfl, Nat.le_of_ble_eq_true rfl⟩) hN hE hL (rcv10 hN hT hw.1) rfl rfl hl.1 (Nat.le_of_ble_eq_true rfl) dX9_factor_175 (Nat.zero_le _) (Nat.zero_le _) (fun H1 locs hL hqr3082 => ?_)
              obtain ⟨hT1, hF1, hqr3082⟩ := hqr3082
              have hF := hF.tr (hF1.mono (by simp))
              have hT := hT1
              obtain ⟨f3083, N3084, d3085, e3086, x3087, m3088⟩ := hqr3082
              have hm := m3088
              have hm8 := hm.2.2.2.2.2.2.2
              have nx3087 := x3087.n
              have ox3087 := nx3087.1
              have hbd : B0 ≤ dr := (hT.o26 hdT.1).1
              have hDR := hT.dr hdT d3085
              have hP : va_P D vwCl [(dr, .inl (cs 0, 1383, .inl f3083))] _ := va_P.cons d3085 va_P.nil
              have bx3079 := nx3079.2.1
              have bx3087 := nx3087.2.1
              have hbn : N3084 + 2 * pos ≤ N + 2 * p3023 ∧ N3084 ≤ 2 * p3023 := by
                by_cases e9 : er = 0
                · omega
                · have q9 := bx3079 e9; have q8 := bx3087 e9; omega
              exact en_v hx hb hr hlocks hL (Nat.zero_le _) (Nat.zero_le _) dX9_factor_178 (⟨hT, hF, _, p3023, er, hbn.1, (by omega), id, hm, _, hP 0 _ rfl, e3086, hbn.2, (EM.lit x3079 x3087 (by decide) v2987)⟩)
          · have hm := m3018
            have hm8 := hm.2.2.2.2.2.2.2
            refine lv_if_eq (tgt := 115) hx hb dX9_factor_108 (by decide) (fun c9 => absurd c9 (by decide)) (fun _ => ?_)
            refine lv_iconst (v := 1) hx hb dX9_factor_111 (by decide) ?_
            refine lv_goto (tgt := 142) hx hb dX9_factor_112 (by decide) ?_
            refine lv_istore_n (lv' := [(2, .int 1), (1, .int (byF g tl p2993)), (0, .ref w)]) hx hb dX9_factor_142 rfl hl (by decide) rfl (fun ls hl => ?_)
            refine lv_iload_n hx hb dX9_factor_143 rfl (lv_at hl 0 rfl) ?_
            refine lv_if_ge (tgt := 158) hx hb dX9_factor_144 (by decide) (fun _ => ?_) (fun c9 => absurd (by decide) c9)
            refine lv_iload_n hx hb dX9_factor_158 rfl (lv_at hl 0 rfl) ?_
            refine lv_istore_n (lv' := [(3, .int 1), (2, .int 1), (1, .int (byF g tl p2993)), (0, .ref w)]) hx hb dX9_factor_159 rfl hl (by decide) rfl (fun ls hl => ?_)
            refine lv_aload_n hx hb dX9_factor_160 rfl (lv_at hl 3 rfl) ?_
            refine lv_iload_n hx hb dX9_factor_161 rfl (lv_at hl 1 rfl) ?_
            refine lv_if_ge (tgt := 169) hx hb dX9_factor_162 (by decide) (fun _ => ?_) (fun c9 => absurd (by decide) c9)
            refine lv_iconst (v := 1) hx hb dX9_factor_169 (by decide) ?_
            refine cv_v (As := [.int 1]) (rest := []) (b := w) ⟨hx, hb, hml, hown, hts⟩ (c_X9_emit hT (w := w) hw (x := 1) hbT hdT hm (hP 0 _ rfl) e2987 (fun e9 => by omega)) (cwV 1 hts gX9_factor_X9_emit rfl rfl rfl hdX9_emit_v ⟨Nat.le_of_ble_eq_true rfl, Nat.le_of_ble_eq_true rfl⟩) hN hE hL (rcv10 hN hT hw.1) rfl rfl hl.1 (Nat.le_of_ble_eq_true rfl) dX9_factor_170 (Nat.zero_le _) (Nat.zero_le _) (fun H1 locs hL hqr3090 => ?_)
            obtain ⟨hT1, hF1, hqr3090⟩ := hqr3090
            have hF := hF.tr (hF1.mono (by simp))
            have hT := hT1
            obtain ⟨f3091, N3092, d3093, e3094, x3095, m3096⟩ := hqr3090
            have hm := m3096
            have hm8 := hm.2.2.2.2.2.2.2
            have nx3095 := x3095.n
            have ox3095 := nx3095.1
            have hbd : B0 ≤ dr := (hT.o26 hdT.1).1
            have hDR := hT.dr hdT d3093
            have hP : va_P D vwCl [(dr, .inl (cs 0, 1383, .inl f3091))] _ := va_P.cons d3093 va_P.nil
            refine lv_aload_n hx hb dX9_factor_173 rfl (lv_at hl 3 rfl) ?_
            refine lv_iload_n hx hb dX9_factor_174 rfl (lv_at hl 0 rfl) ?_
            refine cv_v (As := [.int 1]) (rest := []) (b := w) ⟨hx, hb, hml, hown, hts⟩ (c_X9_emit hT (w := w) hw (x := 1) hbT hdT hm (hP 0 _ rfl) e3094 (fun e9 => by omega)) (cwV 1 hts gX9_factor_X9_emit rfl rfl rfl hdX9_emit_v ⟨Nat.le_of_ble_eq_true rfl, Nat.le_of_ble_eq_true rfl⟩) hN hE hL (rcv10 hN hT hw.1) rfl rfl hl.1 (Nat.le_of_ble_eq_true rfl) dX9_factor_175 (Nat.zero_le _) (Nat.zero_le _) (fun H1 locs hL hqr3098 => ?_)
            obtain ⟨hT1, hF1, hqr3098⟩ := hqr3098
            have hF := hF.tr (hF1.mono (by simp))
            have hT := hT1
            obtain ⟨f3099, N3100, d3101, e3102, x3103, m3104⟩ := hqr3098
            have hm := m3104
            have hm8 := hm.2.2.2.2.2.2.2
            have nx3103 := x3103.n
            have ox3103 := nx3103.1
            have hbd : B0 ≤ dr := (hT.o26 hdT.1).1
            have hDR := hT.dr hdT d3101
            have hP : va_P D vwCl [(dr, .inl (cs 0, 1383, .inl f3099))] _ := va_P.cons d3101 va_P.nil
            have bx3095 := nx3095.2.1
            have bx3103 := nx3103.2.1
            have hbn : N3100 + 2 * pos ≤ N + 2 * p3015 ∧ N3100 ≤ 2 * p3015 := by
              by_cases e9 : er = 0
              · omega
              · have q9 := bx3095 e9; have q8 := bx3103 e9; omega
            exact en_v hx hb hr hlocks hL (Nat.zero_le _) (Nat.zero_le _) dX9_factor_178 (⟨hT, hF, _, p3015, er, hbn.1, (by omega), id, hm, _, hP 0 _ rfl, e3102, hbn.2, (EM.lit x3095 x3103 (by decide) v2987)⟩)
        · have hm := m3010
          have hm8 := hm.2.2.2.2.2.2.2
          refine lv_if_eq (tgt := 102) hx hb dX9_factor_95 (by decide) (fun c9 => absurd c9 (by decide)) (fun _ => ?_)
          refine lv_iconst (v := 0) hx hb dX9_factor_98 (by decide) ?_
          refine lv_goto (tgt := 142) hx hb dX9_factor_99 (by decide) ?_
          refine lv_istore_n (lv' := [(2, .int 0), (1, .int (byF g tl p2993)), (0, .ref w)]) hx hb dX9_factor_142 rfl hl (by decide) rfl (fun ls hl => ?_)
          refine lv_iload_n hx hb dX9_factor_143 rfl (lv_at hl 0 rfl) ?_
          refine lv_if_ge (tgt := 158) hx hb dX9_factor_144 (by decide) (fun _ => ?_) (fun c9 => absurd (by decide) c9)
          refine lv_iload_n hx hb dX9_factor_158 rfl (lv_at hl 0 rfl) ?_
          refine lv_istore_n (lv' := [(3, .int 0), (2, .int 0), (1, .int (byF g tl p2993)), (0, .ref w)]) hx hb dX9_factor_159 rfl hl (by decide) rfl (fun ls hl => ?_)
          refine lv_aload_n hx hb dX9_factor_160 rfl (lv_at hl 3 rfl) ?_
          refine lv_iload_n hx hb dX9_factor_161 rfl (lv_at hl 1 rfl) ?_
          refine lv_if_ge (tgt := 169) hx hb dX9_factor_162 (by decide) (fun _ => ?_) (fun c9 => absurd (by decide) c9)
          refine lv_iconst (v := 1) hx hb dX9_factor_169 (by decide) ?_
          refine cv_v (As := [.int 1]) (rest := []) (b := w) ⟨hx, hb, hml, hown, hts⟩ (c_X9_emit hT (w := w) hw (x := 1) hbT hdT hm (hP 0 _ rfl) e2987 (fun e9 => by omega)) (cwV 1 hts gX9_factor_X9_emit rfl rfl rfl hdX9_emit_v ⟨Nat.le_of_ble_eq_true rfl, Nat.le_of_ble_eq_true rfl⟩) hN hE hL (rcv10 hN hT hw.1) rfl rfl hl.1 (Nat.le_of_ble_eq_true rfl) dX9_factor_170 (Nat.zero_le _) (Nat.zero_le _) (fun H1 locs hL hqr3106 => ?_)
          obtain ⟨hT1, hF1, hqr3106⟩ := hqr3106
          have hF := hF.tr (hF1.mono (by simp))
          have hT := hT1
          obtain ⟨f3107, N3108, d3109, e3110, x3111, m3112⟩ := hqr3106
          have hm := m3112
          have hm8 := hm.2.2.2.2.2.2.2
          have nx3111 := x3111.n
          have ox3111 := nx3111.1
          have hbd : B0 ≤ dr := (hT.o26 hdT.1).1
          have hDR := hT.dr hdT d3109
          have hP : va_P D vwCl [(dr, .inl (cs 0, 1383, .inl f3107))] _ := va_P.cons d3109 va_P.nil
          refine lv_aload_n hx hb dX9_factor_173 rfl (lv_at hl 3 rfl) ?_
          refine lv_iload_n hx hb dX9_factor_174 rfl (lv_at hl 0 rfl) ?_
          refine cv_v (As := [.int 0]) (rest := []) (b := w) ⟨hx, hb, hml, hown, hts⟩ (c_X9_emit hT (w := w) hw (x := 0) hbT hdT hm (hP 0 _ rfl) e3110 (fun e9 => by omega)) (cwV 1 hts gX9_factor_X9_emit rfl rfl rfl hdX9_emit_v ⟨Nat.le_of_ble_eq_true rfl, Nat.le_of_ble_eq_true rfl⟩) hN hE hL (rcv10 hN hT hw.1) rfl rfl hl.1 (Nat.le_of_ble_eq_true rfl) dX9_factor_175 (Nat.zero_le _) (Nat.zero_le _) (fun H1 locs hL hqr3114 => ?_)
          obtain ⟨hT1, hF1, hqr3114⟩ := hqr3114
          have hF := hF.tr (hF1.mono (by simp))
          have hT := hT1
          obtain ⟨f3115, N3116, d3117, e3118, x3119, m3120⟩ := hqr3114
          have hm := m3120
          have hm8 := hm.2.2.2.2.2.2.2
          have nx3119 := x3119.n
          have ox3119 := nx3119.1
          have hbd : B0 ≤ dr := (hT.o26 hdT.1).1
          have hDR := hT.dr hdT d3117
          have hP : va_P D vwCl [(dr, .inl (cs 0, 1383, .inl f3115))] _ := va_P.cons d3117 va_P.nil
          have bx3111 := nx3111.2.1
          have bx3119 := nx3119.2.1
          have hbn : N3116 + 2 * pos ≤ N + 2 * p3007 ∧ N3116 ≤ 2 * p3007 := by
            by_cases e9 : er = 0
            · omega
            · have q9 := bx3111 e9; have q8 := bx3119 e9; omega
          exact en_v hx hb hr hlocks hL (Nat.zero_le _) (Nat.zero_le _) dX9_factor_178 (⟨hT, hF, _, p3007, er, hbn.1, (by omega), id, hm, _, hP 0 _ rfl, e3118, hbn.2, (EM.lit x3111 x3119 (by decide) v2987)⟩)
      · refine lv_if_eq (tgt := 89) hx hb dX9_factor_82 (by decide) (fun c9 => absurd c9 (by decide)) (fun _ => ?_)
        refine lv_iconst (v := (-1)) hx hb dX9_factor_85 (by decide) ?_
        refine lv_goto (tgt := 142) hx hb dX9_factor_86 (by decide) ?_
        refine lv_istore_n (lv' := [(2, .int (-1)), (1, .int (byF g tl p2993)), (0, .ref w)]) hx hb dX9_factor_142 rfl hl (by decide) rfl (fun ls hl => ?_)
        refine lv_iload_n hx hb dX9_factor_143 rfl (lv_at hl 0 rfl) ?_
        refine lv_if_ge (tgt := 158) hx hb dX9_factor_144 (by decide) (fun c9 => absurd c9 (by decide)) (fun _ => ?_)
        refine lv_aload_n hx hb dX9_factor_147 rfl (lv_at hl 2 rfl) ?_
        refine lv_iconst (v := 0) hx hb dX9_factor_148 (by decide) ?_
        refine lv_sipush (v := 9999) hx hb dX9_factor_149 (by decide) ?_
        refine cv_i (As := [.int 0, .int 9999]) (rest := []) (b := w) ⟨hx, hb, hml, hown, hts⟩ (c_X9_number hT (w := w) hw (x := 0) (y := 9999) hbT hdT hm) (cwV 2 hts gX9_factor_X9_number rfl rfl rfl hdX9_number_v ⟨Nat.le_of_ble_eq_true rfl, Nat.le_of_ble_eq_true rfl⟩) hN hE hL (rcv10 hN hT hw.1) rfl rfl hl.1 (Nat.le_of_ble_eq_true rfl) dX9_factor_152 (Nat.zero_le _) (Nat.zero_le _) (fun r3122 H1 locs hL hqr3122 => ?_)
        obtain ⟨hT1, hF1, hqr3122⟩ := hqr3122
        have hP : va_P D vwCl [(dr, .inl (cs 0, 1383, .inl f2987))] _ := hF1.hP (hP.sub [0] rfl) (fa_c ⟨by rw [hdT.1]; decide, by rw [hdT.2]; first | decide | (simp; done) | (simp [h15a, h15b, h15c]; done) | (simp; omega)⟩ fa_n)
        have hF := hF.tr (hF1.mono (by simp))
        have hT := hT1
        obtain ⟨p3123, er3124, a3125, z3126, m3127, q3128⟩ := hqr3122
        have hm := m3127
        have hm8 := hm.2.2.2.2.2.2.2
        refine lv_goto (tgt := 159) hx hb dX9_factor_155 (by decide) ?_
        refine lv_istore_n (lv' := [(3, .int r3122), (2, .int (-1)), (1, .int (byF g tl p2993)), (0, .ref w)]) hx hb dX9_factor_159 rfl hl (by decide) rfl (fun ls hl => ?_)
        refine lv_aload_n hx hb dX9_factor_160 rfl (lv_at hl 3 rfl) ?_
        refine lv_iload_n hx hb dX9_factor_161 rfl (lv_at hl 1 rfl) ?_
        refine lv_if_ge (tgt := 169) hx hb dX9_factor_162 (by decide) (fun c9 => absurd c9 (by decide)) (fun _ => ?_)
        refine lv_iconst (v := 0) hx hb dX9_factor_165 (by decide) ?_
        refine lv_goto (tgt := 170) hx hb dX9_factor_166 (by decide) ?_
        refine cv_v (As := [.int 0]) (rest := []) (b := w) ⟨hx, hb, hml, hown, hts⟩ (c_X9_emit hT (w := w) hw (x := 0) hbT hdT hm (hP 0 _ rfl) e2987 (fun e9 => by have q9 := (z3126 e9).2; omega)) (cwV 1 hts gX9_factor_X9_emit rfl rfl rfl hdX9_emit_v ⟨Nat.le_of_ble_eq_true rfl, Nat.le_of_ble_eq_true rfl⟩) hN hE hL (rcv10 hN hT hw.1) rfl rfl hl.1 (Nat.le_of_ble_eq_true rfl) dX9_factor_170 (Nat.zero_le _) (Nat.zero_le _) (fun H1 locs hL hqr3129 => ?_)
        obtain ⟨hT1, hF1, hqr3129⟩ := hqr3129
        have hF := hF.tr (hF1.mono (by simp))
        have hT := hT1
        obtain ⟨f3130, N3131, d3132, e3133, x3134, m3135⟩ := hqr3129
        have hm := m3135
        have hm8 := hm.2.2.2.2.2.2.2
        have nx3134 := x3134.n
        have ox3134 := nx3134.1
        have hbd : B0 ≤ dr := (hT.o26 hdT.1).1
        have hDR := hT.dr hdT d3132
        have hP : va_P D vwCl [(dr, .inl (cs 0, 1383, .inl f3130))] _ := va_P.cons d3132 va_P.nil
        refine lv_aload_n hx hb dX9_factor_173 rfl (lv_at hl 3 rfl) ?_
        refine lv_iload_n hx hb dX9_factor_174 rfl (lv_at hl 0 rfl) ?_
        refine cv_v (As := [.int r3122]) (rest := []) (b := w) ⟨hx, hb, hml, hown, hts⟩ (c_X9_emit hT (w := w) hw (x := r3122) hbT hdT hm (hP 0 _ rfl) e3133 (fun e9 => by have q9 := (z3126 e9).2; omega)) (cwV 1 hts gX9_factor_X9_emit rfl rfl rfl hdX9_emit_v ⟨Nat.le_of_ble_eq_true rfl, Nat.le_of_ble_eq_true rfl⟩) hN hE hL (rcv10 hN hT hw.1) rfl rfl hl.1 (Nat.le_of_ble_eq_true rfl) dX9_factor_175 (Nat.zero_le _) (Nat.zero_le _) (fun H1 locs hL hqr3137 => ?_)
        obtain ⟨hT1, hF1, hqr3137⟩ := hqr3137
        have hF := hF.tr (hF1.mono (by simp))
        have hT := hT1
        obtain ⟨f3138, N3139, d3140, e3141, x3142, m3143⟩ := hqr3137
        have hm := m3143
        have hm8 := hm.2.2.2.2.2.2.2
        have nx3142 := x3142.n
        have ox3142 := nx3142.1
        have hbd : B0 ≤ dr := (hT.o26 hdT.1).1
        have hDR := hT.dr hdT d3140
        have hP : va_P D vwCl [(dr, .inl (cs 0, 1383, .inl f3138))] _ := va_P.cons d3140 va_P.nil
        have bx3134 := nx3134.2.1
        have bx3142 := nx3142.2.1
        have hbn : N3139 + 2 * pos ≤ N + 2 * p3123 ∧ N3139 ≤ 2 * p3123 := by
          by_cases e9 : er3124 = 0
          · have q9 := (z3126 e9).2; omega
          · have q9 := bx3134 e9; have q8 := bx3142 e9; omega
        exact en_v hx hb hr hlocks hL (Nat.zero_le _) (Nat.zero_le _) dX9_factor_178 (⟨hT, hF, _, p3123, er3124, hbn.1, (by omega), (fun e9 => id ((fun e9 => (z3126 e9).1) e9)), hm, _, hP 0 _ rfl, e3141, hbn.2, (EM.lit x3134 x3142 (by decide) (fun e9 => v2987 ((fun e9 => (z3126 e9).1) e9)))⟩)
    · have hl9 := byF_c (c2998) (by decide)
      refine lv_aload_n hx hb dX9_factor_19 rfl (lv_at hl 1 rfl) ?_
      obtain ⟨hb3145, e3145, hat3145, hk3145⟩ := hT.o10 hw.1
      obtain ⟨f3145_0, f3145_1, f3145_3, f3145_4, f3145_5, f3145_6, f3145_7, f3145_9, f3145_10, f3145_11, f3145_12, f3145_13, f3145_14, f3145_15, f3145_16, f3145_17, rfl, c3145_2, c3145_3, c3145_4, c3145_12, t3145_1, t3145_8, t3145_9, c3145_sd, t3145_10, t3145_11, t3145_17⟩ := hk3145
      obtain ⟨rfl, rfl, rfl, rfl, rfl, rfl⟩ := hm.at hat3145 c3145_3 (by omega)
      have hm8 := hm.2.2.2.2.2.2.2
      have hP : va_P D vwCl [(w, .inr (9, [.int f3145_0, .ref bu, .int (nI ((κ w).2.2.1)), .int (nI tl), .int (nI p2993), .int er, .int f3145_6, .int f3145_7, .ref (κ w).2.2.2, .ref f3145_9, .ref dr, .ref f3145_11, .int (nI f3145_12), .int f3145_13, .int 2, .int f3145_15, .int f3145_16, .ref f3145_17])), (dr, .inl (cs 0, 1383, .inl f2987))] _ := va_P.cons hat3145 hP
      refine va_get (D := D) (ci := 9) (v := .int 2) (C := RX9) (T := TX9) (N := 18) hx hb hts iX9_factor_9 hown hN.1 hP 0 rfl rfl 14 (by decide) (hts _ mX9_factor_1) (fun _ h9 => h9) rfl dX9_factor_20 ?_
      refine lv_iconst (v := 4) hx hb dX9_factor_23 (by decide) ?_
      refine lv_icmp_ne (tgt := 37) hx hb dX9_factor_24 (by decide) (fun _ => ?_) (fun c9 => absurd c9 (by decide))
      refine lv_aload_n hx hb dX9_factor_37 rfl (lv_at hl 1 rfl) ?_
      refine lv_dup hx hb dX9_factor_38 rfl ?_
      refine va_get (D := D) (ci := 9) (v := .int (nI p2993)) (C := RX9) (T := TX9) (N := 18) hx hb hts iX9_factor_9 hown hN.1 hP 0 rfl rfl 4 (by decide) (hts _ mX9_factor_2) (fun _ h9 => h9) rfl dX9_factor_39 ?_
      refine lv_iconst (v := 1) hx hb dX9_factor_42 (by decide) ?_
      refine lv_iadd hx hb dX9_factor_43 ?_
      refine tp_i (nI (p2993 + 1)) (nI_add p2993 1) ?_
      have hB : Bx B0 D _ [(w, .inr (9, [.int f3145_0, .ref bu, .int (nI ((κ w).2.2.1)), .int (nI tl), .int (nI p2993), .int er, .int f3145_6, .int f3145_7, .ref (κ w).2.2.2, .ref f3145_9, .ref dr, .ref f3145_11, .int (nI f3145_12), .int f3145_13, .int 2, .int f3145_15, .int f3145_16, .ref f3145_17])), (dr, .inl (cs 0, 1383, .inl f2987))] [] _ _ := Bx.of (fun a => (κ a).1) hL hP (fa_c hb3145 (fa_c hbd fa_n)) (by simp only [List.map_cons, List.map_nil, hw.1, hdT.1]; decide)
      refine b_put (D := D) (ci := 9) (v := .int (nI (p2993 + 1))) (ty := .int) (C := RX9) (T := TX9) (N := 18) hx hb hts iX9_factor_9 tyX9 tyX9_ok nmX9 hown hN hB 0 rfl rfl 4 (by decide) (hts _ mX9_factor_2) (fun _ h9 => h9) rfl (by decide +kernel) rfl rfl (Nat.le_of_ble_eq_true rfl) (.inl rfl) dX9_factor_44 (fun H locs hB => ?_)
      have hB : Bx B0 D _ [(w, .inr (9, [.int f3145_0, .ref bu, .int (nI ((κ w).2.2.1)), .int (nI tl), .int (nI (p2993 + 1)), .int er, .int f3145_6, .int f3145_7, .ref (κ w).2.2.2, .ref f3145_9, .ref dr, .ref f3145_11, .int (nI f3145_12), .int f3145_13, .int 2, .int f3145_15, .int f3145_16, .ref f3145_17])), (dr, .inl (cs 0, 1383, .inl f2987))] [w] _ _ := hB
      refine lv_aload_n hx hb dX9_factor_47 rfl (lv_at hl 1 rfl) ?_
      refine lv_dup hx hb dX9_factor_48 rfl ?_
      refine va_get (D := D) (ci := 9) (v := .int 2) (C := RX9) (T := TX9) (N := 18) hx hb hts iX9_factor_9 hown hN.1 hB.1 0 rfl rfl 14 (by decide) (hts _ mX9_factor_1) (fun _ h9 => h9) rfl dX9_factor_49 ?_
      refine lv_iconst (v := 1) hx hb dX9_factor_52 (by decide) ?_
      refine lv_iadd hx hb dX9_factor_53 ?_
      refine tp_i 3 (by decide) ?_
      refine b_put (D := D) (ci := 9) (v := .int 3) (ty := .int) (C := RX9) (T := TX9) (N := 18) hx hb hts iX9_factor_9 tyX9 tyX9_ok nmX9 hown hN hB 0 rfl rfl 14 (by decide) (hts _ mX9_factor_1) (fun _ h9 => h9) rfl (by decide +kernel) rfl rfl (Nat.le_of_ble_eq_true rfl) (.inr ⟨rfl, List.mem_of_getElem? (i := 0) rfl⟩) dX9_factor_54 (fun H locs hB => ?_)
      have hB : Bx B0 D _ [(w, .inr (9, [.int f3145_0, .ref bu, .int (nI ((κ w).2.2.1)), .int (nI tl), .int (nI (p2993 + 1)), .int er, .int f3145_6, .int f3145_7, .ref (κ w).2.2.2, .ref f3145_9, .ref dr, .ref f3145_11, .int (nI f3145_12), .int f3145_13, .int 3, .int f3145_15, .int f3145_16, .ref f3145_17])), (dr, .inl (cs 0, 1383, .inl f2987))] [w] _ _ := hB
      refine lv_aload_n hx hb dX9_factor_57 rfl (lv_at hl 1 rfl) ?_
      have hT : WT B0 D cs T κ _ := hT.close hB ⟨⟨0, _, rfl, ok_10 hw.1 ⟨_, _, _, _, _, _, _, _, _, _, _, _, _, _, _, _, rfl, (by omega), (by omega), (by omega), (by omega), hbT, t3145_8, t3145_9, c3145_sd, hdT, t3145_11, t3145_17⟩⟩, trivial⟩
      have hF : Fr B0 [12, 17] κ H0 _ := hF.close hB (fa_c (by simp [hw.2]) fa_n)
      have hL : OkL B0 _ := hB.2.2.2.2.2
      have hP : va_P D vwCl [(w, .inr (9, [.int f3145_0, .ref bu, .int (nI ((κ w).2.2.1)), .int (nI tl), .int (nI (p2993 + 1)), .int er, .int f3145_6, .int f3145_7, .ref (κ w).2.2.2, .ref f3145_9, .ref dr, .ref f3145_11, .int (nI f3145_12), .int f3145_13, .int 3, .int f3145_15, .int f3145_16, .ref f3145_17])), (dr, .inl (cs 0, 1383, .inl f2987))] _ := hB.1
      have hbu9 := (hm.2.2.2.2.2.2.1).kept (hB.2.2.2.1 _ hm.2.2.2.2.2.2.1.lt (by simp only [List.mem_cons, List.not_mem_nil, or_false, not_or]; exact ne_c hbT.1 hw.1 (by decide)))
      have hm : MF D cs w _ ((p2993 + 1)) (tl) (er) (3) dr bu g := ⟨⟨_, hP 0 _ rfl, rfl⟩, ⟨_, hP 0 _ rfl, rfl⟩, ⟨_, hP 0 _ rfl, rfl⟩, ⟨_, hP 0 _ rfl, rfl⟩, ⟨_, hP 0 _ rfl, rfl⟩, ⟨_, hP 0 _ rfl, rfl⟩, hbu9, (by omega), (by omega)⟩
      have hps : PS D cs w _ ((p2993 + 1)) (tl) (er) (3) dr bu g (N) (h) := ⟨hm, f2987, hP 1 _ rfl, e2987, by omega, v2987⟩
      refine cv_v (As := []) (rest := []) (b := w) ⟨hx, hb, hml, hown, hts⟩ (c_X9_readSum_d3 hT (w := w) hw hbT hdT hps) (cwV 0 hts gX9_factor_X9_readSum rfl rfl rfl hdX9_readSum_v ⟨Nat.le_of_ble_eq_true rfl, Nat.le_of_ble_eq_true rfl⟩) hN hE hL (rcv10 hN hT hw.1) rfl rfl hl.1 (Nat.le_of_ble_eq_true rfl) dX9_factor_58 (Nat.zero_le _) (Nat.zero_le _) (fun H1 locs hL hqr3146 => ?_)
      obtain ⟨hT1, hF1, hqr3146⟩ := hqr3146
      have hF := hF.tr (hF1.mono (by simp))
      have hT := hT1
      obtain ⟨N3147, p3148, er3149, a3150, b3151, z3152, m3153, f3154, d3155, e3156, n3157, v3158⟩ := hqr3146
      have hm := m3153
      have hm8 := hm.2.2.2.2.2.2.2
      have hbd : B0 ≤ dr := (hT.o26 hdT.1).1
      have hDR := hT.dr hdT d3155
      have hP : va_P D vwCl [(dr, .inl (cs 0, 1383, .inl f3154))] _ := va_P.cons d3155 va_P.nil
      refine lv_aload_n hx hb dX9_factor_61 rfl (lv_at hl 1 rfl) ?_
      refine lv_bipush (v := 41) hx hb dX9_factor_62 (by decide) ?_
      refine cv_v (As := [.int 41]) (rest := []) (b := w) ⟨hx, hb, hml, hown, hts⟩ (c_X9_expect hT (w := w) hw (x := 41) hbT hdT hm ((by decide))) (cwV 1 hts gX9_factor_X9_expect rfl rfl rfl hdX9_expect_v ⟨Nat.le_of_ble_eq_true rfl, Nat.le_of_ble_eq_true rfl⟩) hN hE hL (rcv10 hN hT hw.1) rfl rfl hl.1 (Nat.le_of_ble_eq_true rfl) dX9_factor_64 (Nat.zero_le _) (Nat.zero_le _) (fun H1 locs hL hqr3160 => ?_)
      obtain ⟨hT1, hF1, hqr3160⟩ := hqr3160
      have hP : va_P D vwCl [(dr, .inl (cs 0, 1383, .inl f3154))] _ := hF1.hP (hP.sub [0] rfl) (fa_c ⟨by rw [hdT.1]; decide, by rw [hdT.2]; first | decide | (simp; done) | (simp [h15a, h15b, h15c]; done) | (simp; omega)⟩ fa_n)
      have hF := hF.tr (hF1.mono (by simp))
      have hT := hT1
      obtain ⟨p3161, er3162, a3163, z3164, m3165⟩ := hqr3160
      have hm := m3165
      have hm8 := hm.2.2.2.2.2.2.2
      refine lv_aload_n hx hb dX9_factor_67 rfl (lv_at hl 1 rfl) ?_
      refine lv_dup hx hb dX9_factor_68 rfl ?_
      obtain ⟨hb3166, e3166, hat3166, hk3166⟩ := hT.o10 hw.1
      obtain ⟨f3166_0, f3166_1, f3166_3, f3166_4, f3166_5, f3166_6, f3166_7, f3166_9, f3166_10, f3166_11, f3166_12, f3166_13, f3166_14, f3166_15, f3166_16, f3166_17, rfl, c3166_2, c3166_3, c3166_4, c3166_12, t3166_1, t3166_8, t3166_9, c3166_sd, t3166_10, t3166_11, t3166_17⟩ := hk3166
      obtain ⟨rfl, rfl, rfl, rfl, rfl, rfl⟩ := hm.at hat3166 c3166_3 (by omega)
      have hm8 := hm.2.2.2.2.2.2.2
      have hP : va_P D vwCl [(w, .inr (9, [.int f3166_0, .ref bu, .int (nI ((κ w).2.2.1)), .int (nI tl), .int (nI p3161), .int er3162, .int f3166_6, .int f3166_7, .ref (κ w).2.2.2, .ref f3166_9, .ref dr, .ref f3166_11, .int (nI f3166_12), .int f3166_13, .int 3, .int f3166_15, .int f3166_16, .ref f3166_17])), (dr, .inl (cs 0, 1383, .inl f3154))] _ := va_P.cons hat3166 hP
      refine va_get (D := D) (ci := 9) (v := .int 3) (C := RX9) (T := TX9) (N := 18) hx hb hts iX9_factor_9 hown hN.1 hP 0 rfl rfl 14 (by decide) (hts _ mX9_factor_1) (fun _ h9 => h9) rfl dX9_factor_69 ?_
      refine lv_iconst (v := 1) hx hb dX9_factor_72 (by decide) ?_
      refine lv_isub hx hb dX9_factor_73 ?_
      refine tp_i 2 (by decide) ?_
      have hB : Bx B0 D _ [(w, .inr (9, [.int f3166_0, .ref bu, .int (nI ((κ w).2.2.1)), .int (nI tl), .int (nI p3161), .int er3162, .int f3166_6, .int f3166_7, .ref (κ w).2.2.2, .ref f3166_9, .ref dr, .ref f3166_11, .int (nI f3166_12), .int f3166_13, .int 3, .int f3166_15, .int f3166_16, .ref f3166_17])), (dr, .inl (cs 0, 1383, .inl f3154))] [] _ _ := Bx.of (fun a => (κ a).1) hL hP (fa_c hb3166 (fa_c hbd fa_n)) (by simp only [List.map_cons, List.map_nil, hw.1, hdT.1]; decide)
      refine b_put (D := D) (ci := 9) (v := .int 2) (ty := .int) (C := RX9) (T := TX9) (N := 18) hx hb hts iX9_factor_9 tyX9 tyX9_ok nmX9 hown hN hB 0 rfl rfl 14 (by decide) (hts _ mX9_factor_1) (fun _ h9 => h9) rfl (by decide +kernel) rfl rfl (Nat.le_of_ble_eq_true rfl) (.inl rfl) dX9_factor_74 (fun H locs hB => ?_)
      have hB : Bx B0 D _ [(w, .inr (9, [.int f3166_0, .ref bu, .int (nI ((κ w).2.2.1)), .int (nI tl), .int (nI p3161), .int er3162, .int f3166_6, .int f3166_7, .ref (κ w).2.2.2, .ref f3166_9, .ref dr, .ref f3166_11, .int (nI f3166_12), .int f3166_13, .int 2, .int f3166_15, .int f3166_16, .ref f3166_17])), (dr, .inl (cs 0, 1383, .inl f3154))] [w] _ _ := hB
      have hT : WT B0 D cs T κ _ := hT.close hB ⟨⟨0, _, rfl, ok_10 hw.1 ⟨_, _, _, _, _, _, _, _, _, _, _, _, _, _, _, _, rfl, (by omega), (by omega), (by omega), (by omega), hbT, t3166_8, t3166_9, c3166_sd, hdT, t3166_11, t3166_17⟩⟩, trivial⟩
      have hF : Fr B0 [12, 17] κ H0 _ := hF.close hB (fa_c (by simp [hw.2]) fa_n)
      have hL : OkL B0 _ := hB.2.2.2.2.2
      have hP : va_P D vwCl [(w, .inr (9, [.int f3166_0, .ref bu, .int (nI ((κ w).2.2.1)), .int (nI tl), .int (nI p3161), .int er3162, .int f3166_6, .int f3166_7, .ref (κ w).2.2.2, .ref f3166_9, .ref dr, .ref f3166_11, .int (nI f3166_12), .int f3166_13, .int 2, .int f3166_15, .int f3166_16, .ref f3166_17])), (dr, .inl (cs 0, 1383, .inl f3154))] _ := hB.1
      have hbu9 := (hm.2.2.2.2.2.2.1).kept (hB.2.2.2.1 _ hm.2.2.2.2.2.2.1.lt (by simp only [List.mem_cons, List.not_mem_nil, or_false, not_or]; exact ne_c hbT.1 hw.1 (by decide)))
      have hm : MF D cs w _ (p3161) (tl) (er3162) (2) dr bu g := ⟨⟨_, hP 0 _ rfl, rfl⟩, ⟨_, hP 0 _ rfl, rfl⟩, ⟨_, hP 0 _ rfl, rfl⟩, ⟨_, hP 0 _ rfl, rfl⟩, ⟨_, hP 0 _ rfl, rfl⟩, ⟨_, hP 0 _ rfl, rfl⟩, hbu9, (by omega), (by omega)⟩
      exact en_v hx hb hr hlocks hL (Nat.zero_le _) (Nat.zero_le _) dX9_factor_77 (⟨hT, hF, N3147, p3161, er3162, (by omega), (by omega), (fun e9 => (fun e9 => id (z3152 e9)) (z3164 e9)), hm, _, hP 1 _ rfl, e3156, (by omega), (fun e9 => v3158 (z3164 e9))⟩)
  · refine lv_if_ne (tgt := 8) hx hb dX9_factor_4 (by decide) (fun c9 => absurd (by decide) c9) (fun _ => ?_)
    exact en_v hx hb hr hlocks hL (Nat.zero_le _) (Nat.zero_le _) dX9_factor_7 (⟨hT, hF, N, pos, er, (by omega), (by omega), id, hm, f2987, hP 0 _ rfl, e2987, (by omega), (fun e9 => absurd e9 e2991)⟩)
set_option maxHeartbeats 4000000 in
set_option maxRecDepth 100000 in
theorem c_X9_term_d2 {l : Launch} {D : va_G} {cs : Nat → ClassId} {B0 T : Nat} {κ : KM} {H0 : Heap} (hT : WT B0 D cs T κ H0) {w : Nat} (hw : T2 κ w 10 12) {pos tl : Nat} {er : Int32} {dr bu : Nat} {g : Nat → Int32} {N h : Nat} (hbT : T2 κ bu 23 14) (hdT : T2 κ dr 26 17) (hps : PS D cs w H0 pos tl er 2 dr bu g N h) : KC l yX9_term wsX9_term 12 260 0 0 D cs B0 H0 [.ref w] (Qv (fun H => WT B0 D cs T κ H ∧ Fr B0 [12, 17] κ H0 H ∧ ∃ N1 pos1 er1, N1 + 2 * pos ≤ N + 2 * pos1 ∧ pos ≤ pos1 ∧ (er1 = 0 → er = 0) ∧ PS D cs w H pos1 tl er1 2 dr bu g N1 (h + 1))) := by
  refine KC.of cX9_term 2 none (by decide) rfl (Nat.le_of_ble_eq_true rfl) ?_
  intro p e s m below meth c ls hx hb hr hml hown hts hlocks hin hN hE hH0 hl
  have hown : s.vm.findClass RX9 = some m.cls := hown
  have hl : lv_has ls 2 [(0, .ref w)] := hl
  have hL : OkL B0 [] := OkL.nil
  have hF : Fr B0 [12, 17] κ H0 H0 := Fr.rf
  obtain ⟨hm, f3167, hd3167, e3167, n3167, v3167⟩ := hps
  have hm8 := hm.2.2.2.2.2.2.2
  have hbd : B0 ≤ dr := (hT.o26 hdT.1).1
  have hDR := hT.dr hdT hd3167
  have hP : va_P D vwCl [(dr, .inl (cs 0, 1383, .inl f3167))] _ := va_P.cons hd3167 va_P.nil
  refine lv_aload_n hx hb dX9_term_0 rfl (lv_at hl 0 rfl) ?_
  have hps : PS D cs w _ (pos) (tl) (er) (2) dr bu g (N) (h) := ⟨hm, f3167, hP 0 _ rfl, e3167, by omega, v3167⟩
  refine cv_v (As := []) (rest := []) (b := w) ⟨hx, hb, hml, hown, hts⟩ (c_X9_factor_d2 hT (w := w) hw hbT hdT hps) (cwV 0 hts gX9_term_X9_factor rfl rfl rfl hdX9_factor_v ⟨Nat.le_of_ble_eq_true rfl, Nat.le_of_ble_eq_true rfl⟩) hN hE hL (rcv10 hN hT hw.1) rfl rfl hl.1 (Nat.le_of_ble_eq_true rfl) dX9_term_1 (Nat.zero_le _) (Nat.zero_le _) (fun H1 locs hL hqr3169 => ?_)
  obtain ⟨hT1, hF1, hqr3169⟩ := hqr3169
  have hF := hF.tr (hF1.mono (by simp))
  have hT := hT1
  obtain ⟨N3170, p3171, er3172, a3173, b3174, z3175, m3176, f3177, d3178, e3179, n3180, v3181⟩ := hqr3169
  have hm := m3176
  have hm8 := hm.2.2.2.2.2.2.2
  have hbd : B0 ≤ dr := (hT.o26 hdT.1).1
  have hDR := hT.dr hdT d3178
  have hP : va_P D vwCl [(dr, .inl (cs 0, 1383, .inl f3177))] _ := va_P.cons d3178 va_P.nil
  have hps : PS D cs w _ (p3171) (tl) (er3172) (2) dr bu g (N3170) ((h + 1)) := ⟨hm, f3177, hP 0 _ rfl, e3179, by omega, v3181⟩
  refine lp_m (α := Nat × Nat × Int32) (nL := 2) (fun a9 => 600 - a9.1) (fun a9 H9 l9 => (PS D cs w H9 a9.1 tl a9.2.2 2 dr bu g a9.2.1 (h + 1)) ∧ (a9.2.1 + 2 * pos ≤ N + 2 * a9.1) ∧ (pos ≤ a9.1) ∧ (a9.2.2 = 0 → er = 0) ∧ (WT B0 D cs T κ H9) ∧ (Fr B0 [12, 17] κ H0 H9) ∧ (OkL B0 l9)) (fun a9 => [(0, .ref w)]) ?_ (p3171, N3170, er3172) _ _ _ ⟨hps, (by show (N3170) + 2 * pos ≤ N + 2 * (p3171); omega), (by show pos ≤ (p3171); omega), (fun e9 => id (z3175 e9)), hT, hF, hL⟩ (lv_sub hl [0] rfl)
  rintro ⟨p, N1, er1⟩ H locs ls ih3183 ⟨hps, hb1, hb2, hz1, hT, hF, hL⟩ hl
  have hl : lv_has ls 2 [(0, .ref w)] := hl
  have hps : PS D cs w H p tl er1 2 dr bu g N1 (h + 1) := hps
  have hb1 : N1 + 2 * pos ≤ N + 2 * p := hb1
  have hb2 : pos ≤ p := hb2
  have hz1 : er1 = 0 → er = 0 := hz1
  obtain ⟨hm, f3184, hd3184, e3184, n3184, v3184⟩ := hps
  have hm8 := hm.2.2.2.2.2.2.2
  have hbd : B0 ≤ dr := (hT.o26 hdT.1).1
  have hDR := hT.dr hdT hd3184
  have hP : va_P D vwCl [(dr, .inl (cs 0, 1383, .inl f3184))] _ := va_P.cons hd3184 va_P.nil
  refine lv_aload_n hx hb dX9_term_4 rfl (lv_at hl 0 rfl) ?_
  refine cv_i (As := []) (rest := []) (b := w) ⟨hx, hb, hml, hown, hts⟩ (c_X9_isGood hT (w := w) hw hbT hdT hm) (cwV 0 hts gX9_term_X9_isGood rfl rfl rfl hdX9_isGood_v ⟨Nat.le_of_ble_eq_true rfl, Nat.le_of_ble_eq_true rfl⟩) hN hE hL (rcv10 hN hT hw.1) rfl rfl hl.1 (Nat.le_of_ble_eq_true rfl) dX9_term_5 (Nat.zero_le _) (Nat.zero_le _) (fun r3186 H1 locs hL hqr3186 => ?_)
  obtain ⟨h9, hqr3186⟩ := hqr3186; replace h9 := h9.symm; subst h9
  rcases hqr3186 with ⟨rfl, e3187⟩ | ⟨rfl, e3188⟩
  · refine lv_if_eq (tgt := 74) hx hb dX9_term_8 (by decide) (fun c9 => absurd c9 (by decide)) (fun _ => ?_)
    refine lv_aload_n hx hb dX9_term_11 rfl (lv_at hl 0 rfl) ?_
    refine cv_i (As := []) (rest := []) (b := w) ⟨hx, hb, hml, hown, hts⟩ (c_X9_ahead hT (w := w) hw hbT hdT hm) (cwV 0 hts gX9_term_X9_ahead rfl rfl rfl hdX9_ahead_v ⟨Nat.le_of_ble_eq_true rfl, Nat.le_of_ble_eq_true rfl⟩) hN hE hL (rcv10 hN hT hw.1) rfl rfl hl.1 (Nat.le_of_ble_eq_true rfl) dX9_term_12 (Nat.zero_le _) (Nat.zero_le _) (fun r3189 H1 locs hL hqr3189 => ?_)
    obtain ⟨hT1, hF1, hqr3189⟩ := hqr3189
    have hP : va_P D vwCl [(dr, .inl (cs 0, 1383, .inl f3184))] _ := hF1.hP (hP.sub [0] rfl) (fa_c ⟨by rw [hdT.1]; decide, by rw [hdT.2]; first | decide | (simp; done) | (simp [h15a, h15b, h15c]; done) | (simp; omega)⟩ fa_n)
    have hF := hF.tr (hF1.mono (by simp))
    have hT := hT1
    obtain ⟨p3190, h3191, m3192, n3193, s3194, rfl⟩ := hqr3189
    have hm := m3192
    have hm8 := hm.2.2.2.2.2.2.2
    refine lv_bipush (v := 42) hx hb dX9_term_15 (by decide) ?_
    refine lv_icmp_eq (tgt := 29) hx hb dX9_term_17 (by decide) (fun c3195 => ?_) (fun c3195 => ?_)
    · have hl9 := byF_c (c3195) (by decide)
      refine lv_aload_n hx hb dX9_term_29 rfl (lv_at hl 0 rfl) ?_
      refine cv_i (As := []) (rest := []) (b := w) ⟨hx, hb, hml, hown, hts⟩ (c_X9_ahead hT (w := w) hw hbT hdT hm) (cwV 0 hts gX9_term_X9_ahead rfl rfl rfl hdX9_ahead_v ⟨Nat.le_of_ble_eq_true rfl, Nat.le_of_ble_eq_true rfl⟩) hN hE hL (rcv10 hN hT hw.1) rfl rfl hl.1 (Nat.le_of_ble_eq_true rfl) dX9_term_30 (Nat.zero_le _) (Nat.zero_le _) (fun r3196 H1 locs hL hqr3196 => ?_)
      obtain ⟨hT1, hF1, hqr3196⟩ := hqr3196
      have hP : va_P D vwCl [(dr, .inl (cs 0, 1383, .inl f3184))] _ := hF1.hP (hP.sub [0] rfl) (fa_c ⟨by rw [hdT.1]; decide, by rw [hdT.2]; first | decide | (simp; done) | (simp [h15a, h15b, h15c]; done) | (simp; omega)⟩ fa_n)
      have hF := hF.tr (hF1.mono (by simp))
      have hT := hT1
      obtain ⟨p3197, h3198, m3199, n3200, s3201, rfl⟩ := hqr3196
      have hm := m3199
      have hpe := s3201 n3193
      rw [hpe] at hm
      refine tp_i (byF g tl p3190) (by rw [hpe]) ?_
      have hm8 := hm.2.2.2.2.2.2.2
      refine lv_bipush (v := 42) hx hb dX9_term_33 (by decide) ?_
      refine lv_icmp_ne (tgt := 42) hx hb dX9_term_35 (by decide) (fun c3202 => ?_) (fun c3202 => ?_)
      · refine lv_iconst (v := 0) hx hb dX9_term_42 (by decide) ?_
        refine lv_istore_n (lv' := [(1, .int 0), (0, .ref w)]) hx hb dX9_term_43 rfl hl (by decide) rfl (fun ls hl => ?_)
        refine lv_aload_n hx hb dX9_term_44 rfl (lv_at hl 1 rfl) ?_
        refine lv_dup hx hb dX9_term_45 rfl ?_
        obtain ⟨hb3203, e3203, hat3203, hk3203⟩ := hT.o10 hw.1
        obtain ⟨f3203_0, f3203_1, f3203_3, f3203_4, f3203_5, f3203_6, f3203_7, f3203_9, f3203_10, f3203_11, f3203_12, f3203_13, f3203_14, f3203_15, f3203_16, f3203_17, rfl, c3203_2, c3203_3, c3203_4, c3203_12, t3203_1, t3203_8, t3203_9, c3203_sd, t3203_10, t3203_11, t3203_17⟩ := hk3203
        obtain ⟨rfl, rfl, rfl, rfl, rfl, rfl⟩ := hm.at hat3203 c3203_3 (by omega)
        have hm8 := hm.2.2.2.2.2.2.2
        have hP : va_P D vwCl [(w, .inr (9, [.int f3203_0, .ref bu, .int (nI ((κ w).2.2.1)), .int (nI tl), .int (nI p3190), .int er1, .int f3203_6, .int f3203_7, .ref (κ w).2.2.2, .ref f3203_9, .ref dr, .ref f3203_11, .int (nI f3203_12), .int f3203_13, .int 2, .int f3203_15, .int f3203_16, .ref f3203_17])), (dr, .inl (cs 0, 1383, .inl f3184))] _ := va_P.cons hat3203 hP
        refine va_get (D := D) (ci := 9) (v := .int (nI p3190)) (C := RX9) (T := TX9) (N := 18) hx hb hts iX9_term_9 hown hN.1 hP 0 rfl rfl 4 (by decide) (hts _ mX9_term_1) (fun _ h9 => h9) rfl dX9_term_46 ?_
        refine lv_iconst (v := 1) hx hb dX9_term_49 (by decide) ?_
        refine lv_iadd hx hb dX9_term_50 ?_
        refine tp_i (nI (p3190 + 1)) (nI_add p3190 1) ?_
        have hB : Bx B0 D _ [(w, .inr (9, [.int f3203_0, .ref bu, .int (nI ((κ w).2.2.1)), .int (nI tl), .int (nI p3190), .int er1, .int f3203_6, .int f3203_7, .ref (κ w).2.2.2, .ref f3203_9, .ref dr, .ref f3203_11, .int (nI f3203_12), .int f3203_13, .int 2, .int f3203_15, .int f3203_16, .ref f3203_17])), (dr, .inl (cs 0, 1383, .inl f3184))] [] _ _ := Bx.of (fun a => (κ a).1) hL hP (fa_c hb3203 (fa_c hbd fa_n)) (by simp only [List.map_cons, List.map_nil, hw.1, hdT.1]; decide)
        refine b_put (D := D) (ci := 9) (v := .int (nI (p3190 + 1))) (ty := .int) (C := RX9) (T := TX9) (N := 18) hx hb hts iX9_term_9 tyX9 tyX9_ok nmX9 hown hN hB 0 rfl rfl 4 (by decide) (hts _ mX9_term_1) (fun _ h9 => h9) rfl (by decide +kernel) rfl rfl (Nat.le_of_ble_eq_true rfl) (.inl rfl) dX9_term_51 (fun H locs hB => ?_)
        have hB : Bx B0 D _ [(w, .inr (9, [.int f3203_0, .ref bu, .int (nI ((κ w).2.2.1)), .int (nI tl), .int (nI (p3190 + 1)), .int er1, .int f3203_6, .int f3203_7, .ref (κ w).2.2.2, .ref f3203_9, .ref dr, .ref f3203_11, .int (nI f3203_12), .int f3203_13, .int 2, .int f3203_15, .int f3203_16, .ref f3203_17])), (dr, .inl (cs 0, 1383, .inl f3184))] [w] _ _ := hB
        refine lv_aload_n hx hb dX9_term_54 rfl (lv_at hl 1 rfl) ?_
        have hT : WT B0 D cs T κ _ := hT.close hB ⟨⟨0, _, rfl, ok_10 hw.1 ⟨_, _, _, _, _, _, _, _, _, _, _, _, _, _, _, _, rfl, (by omega), (by omega), (by omega), (by omega), hbT, t3203_8, t3203_9, c3203_sd, hdT, t3203_11, t3203_17⟩⟩, trivial⟩
        have hF : Fr B0 [12, 17] κ H0 _ := hF.close hB (fa_c (by simp [hw.2]) fa_n)
        have hL : OkL B0 _ := hB.2.2.2.2.2
        have hP : va_P D vwCl [(w, .inr (9, [.int f3203_0, .ref bu, .int (nI ((κ w).2.2.1)), .int (nI tl), .int (nI (p3190 + 1)), .int er1, .int f3203_6, .int f3203_7, .ref (κ w).2.2.2, .ref f3203_9, .ref dr, .ref f3203_11, .int (nI f3203_12), .int f3203_13, .int 2, .int f3203_15, .int f3203_16, .ref f3203_17])), (dr, .inl (cs 0, 1383, .inl f3184))] _ := hB.1
        have hbu9 := (hm.2.2.2.2.2.2.1).kept (hB.2.2.2.1 _ hm.2.2.2.2.2.2.1.lt (by simp only [List.mem_cons, List.not_mem_nil, or_false, not_or]; exact ne_c hbT.1 hw.1 (by decide)))
        have hm : MF D cs w _ ((p3190 + 1)) (tl) (er1) (2) dr bu g := ⟨⟨_, hP 0 _ rfl, rfl⟩, ⟨_, hP 0 _ rfl, rfl⟩, ⟨_, hP 0 _ rfl, rfl⟩, ⟨_, hP 0 _ rfl, rfl⟩, ⟨_, hP 0 _ rfl, rfl⟩, ⟨_, hP 0 _ rfl, rfl⟩, hbu9, (by omega), (by omega)⟩
        have hps : PS D cs w _ ((p3190 + 1)) (tl) (er1) (2) dr bu g (N1) ((h + 1)) := ⟨hm, f3184, hP 1 _ rfl, e3184, by omega, v3184⟩
        refine cv_v (As := []) (rest := []) (b := w) ⟨hx, hb, hml, hown, hts⟩ (c_X9_factor_d2 hT (w := w) hw hbT hdT hps) (cwV 0 hts gX9_term_X9_factor rfl rfl rfl hdX9_factor_v ⟨Nat.le_of_ble_eq_true rfl, Nat.le_of_ble_eq_true rfl⟩) hN hE hL (rcv10 hN hT hw.1) rfl rfl hl.1 (Nat.le_of_ble_eq_true rfl) dX9_term_55 (Nat.zero_le _) (Nat.zero_le _) (fun H1 locs hL hqr3204 => ?_)
        obtain ⟨hT1, hF1, hqr3204⟩ := hqr3204
        have hF := hF.tr (hF1.mono (by simp))
        have hT := hT1
        obtain ⟨N3205, p3206, er3207, a3208, b3209, z3210, m3211, f3212, d3213, e3214, n3215, v3216⟩ := hqr3204
        have hm := m3211
        have hm8 := hm.2.2.2.2.2.2.2
        have hbd : B0 ≤ dr := (hT.o26 hdT.1).1
        have hDR := hT.dr hdT d3213
        have hP : va_P D vwCl [(dr, .inl (cs 0, 1383, .inl f3212))] _ := va_P.cons d3213 va_P.nil
        refine lv_aload_n hx hb dX9_term_58 rfl (lv_at hl 1 rfl) ?_
        refine lv_iload_n hx hb dX9_term_59 rfl (lv_at hl 0 rfl) ?_
        refine lv_if_eq (tgt := 67) hx hb dX9_term_60 (by decide) (fun _ => ?_) (fun c9 => absurd (by decide) c9)
        refine lv_iconst (v := 5) hx hb dX9_term_67 (by decide) ?_
        refine cv_v (As := [.int 5]) (rest := []) (b := w) ⟨hx, hb, hml, hown, hts⟩ (c_X9_emit hT (w := w) hw (x := 5) hbT hdT hm (hP 0 _ rfl) e3214 (fun _ => by omega)) (cwV 1 hts gX9_term_X9_emit rfl rfl rfl hdX9_emit_v ⟨Nat.le_of_ble_eq_true rfl, Nat.le_of_ble_eq_true rfl⟩) hN hE hL (rcv10 hN hT hw.1) rfl rfl hl.1 (Nat.le_of_ble_eq_true rfl) dX9_term_68 (Nat.zero_le _) (Nat.zero_le _) (fun H1 locs hL hqr3218 => ?_)
        obtain ⟨hT1, hF1, hqr3218⟩ := hqr3218
        have hF := hF.tr (hF1.mono (by simp))
        have hT := hT1
        obtain ⟨f3219, N3220, d3221, e3222, x3223, m3224⟩ := hqr3218
        have hm := m3224
        have hm8 := hm.2.2.2.2.2.2.2
        have nx3223 := x3223.n
        have ox3223 := nx3223.1
        have hbd : B0 ≤ dr := (hT.o26 hdT.1).1
        have hDR := hT.dr hdT d3221
        have hP : va_P D vwCl [(dr, .inl (cs 0, 1383, .inl f3219))] _ := va_P.cons d3221 va_P.nil
        refine lv_goto (tgt := 4) hx hb dX9_term_71 (by decide) ?_
        have hps : PS D cs w _ (p3206) (tl) (er3207) (2) dr bu g (N3220) ((h + 1)) := ⟨hm, f3219, hP 0 _ rfl, e3222, by omega, (EM.op x3223 (by decide) v3216)⟩
        exact ih3183 (p3206, N3220, er3207) _ _ _ (by show 600 - (p3206) < 600 - p; omega) ⟨hps, (by show (N3220) + 2 * pos ≤ N + 2 * (p3206); omega), (by show pos ≤ (p3206); omega), (fun e9 => hz1 (z3210 e9)), hT, hF, hL⟩ (lv_sub hl [1] rfl)
      · refine lv_iconst (v := 1) hx hb dX9_term_38 (by decide) ?_
        refine lv_goto (tgt := 43) hx hb dX9_term_39 (by decide) ?_
        refine lv_istore_n (lv' := [(1, .int 1), (0, .ref w)]) hx hb dX9_term_43 rfl hl (by decide) rfl (fun ls hl => ?_)
        refine lv_aload_n hx hb dX9_term_44 rfl (lv_at hl 1 rfl) ?_
        refine lv_dup hx hb dX9_term_45 rfl ?_
        obtain ⟨hb3226, e3226, hat3226, hk3226⟩ := hT.o10 hw.1
        obtain ⟨f3226_0, f3226_1, f3226_3, f3226_4, f3226_5, f3226_6, f3226_7, f3226_9, f3226_10, f3226_11, f3226_12, f3226_13, f3226_14, f3226_15, f3226_16, f3226_17, rfl, c3226_2, c3226_3, c3226_4, c3226_12, t3226_1, t3226_8, t3226_9, c3226_sd, t3226_10, t3226_11, t3226_17⟩ := hk3226
        obtain ⟨rfl, rfl, rfl, rfl, rfl, rfl⟩ := hm.at hat3226 c3226_3 (by omega)
        have hm8 := hm.2.2.2.2.2.2.2
        have hP : va_P D vwCl [(w, .inr (9, [.int f3226_0, .ref bu, .int (nI ((κ w).2.2.1)), .int (nI tl), .int (nI p3190), .int er1, .int f3226_6, .int f3226_7, .ref (κ w).2.2.2, .ref f3226_9, .ref dr, .ref f3226_11, .int (nI f3226_12), .int f3226_13, .int 2, .int f3226_15, .int f3226_16, .ref f3226_17])), (dr, .inl (cs 0, 1383, .inl f3184))] _ := va_P.cons hat3226 hP
        refine va_get (D := D) (ci := 9) (v := .int (nI p3190)) (C := RX9) (T := TX9) (N := 18) hx hb hts iX9_term_9 hown hN.1 hP 0 rfl rfl 4 (by decide) (hts _ mX9_term_1) (fun _ h9 => h9) rfl dX9_term_46 ?_
        refine lv_iconst (v := 1) hx hb dX9_term_49 (by decide) ?_
        refine lv_iadd hx hb dX9_term_50 ?_
        refine tp_i (nI (p3190 + 1)) (nI_add p3190 1) ?_
        have hB : Bx B0 D _ [(w, .inr (9, [.int f3226_0, .ref bu, .int (nI ((κ w).2.2.1)), .int (nI tl), .int (nI p3190), .int er1, .int f3226_6, .int f3226_7, .ref (κ w).2.2.2, .ref f3226_9, .ref dr, .ref f3226_11, .int (nI f3226_12), .int f3226_13, .int 2, .int f3226_15, .int f3226_16, .ref f3226_17])), (dr, .inl (cs 0, 1383, .inl f3184))] [] _ _ := Bx.of (fun a => (κ a).1) hL hP (fa_c hb3226 (fa_c hbd fa_n)) (by simp only [List.map_cons, List.map_nil, hw.1, hdT.1]; decide)
        refine b_put (D := D) (ci := 9) (v := .int (nI (p3190 + 1))) (ty := .int) (C := RX9) (T := TX9) (N := 18) hx hb hts iX9_term_9 tyX9 tyX9_ok nmX9 hown hN hB 0 rfl rfl 4 (by decide) (hts _ mX9_term_1) (fun _ h9 => h9) rfl (by decide +kernel) rfl rfl (Nat.le_of_ble_eq_true rfl) (.inl rfl) dX9_term_51 (fun H locs hB => ?_)
        have hB : Bx B0 D _ [(w, .inr (9, [.int f3226_0, .ref bu, .int (nI ((κ w).2.2.1)), .int (nI tl), .int (nI (p3190 + 1)), .int er1, .int f3226_6, .int f3226_7, .ref (κ w).2.2.2, .ref f3226_9, .ref dr, .ref f3226_11, .int (nI f3226_12), .int f3226_13, .int 2, .int f3226_15, .int f3226_16, .ref f3226_17])), (dr, .inl (cs 0, 1383, .inl f3184))] [w] _ _ := hB
        refine lv_aload_n hx hb dX9_term_54 rfl (lv_at hl 1 rfl) ?_
        have hT : WT B0 D cs T κ _ := hT.close hB ⟨⟨0, _, rfl, ok_10 hw.1 ⟨_, _, _, _, _, _, _, _, _, _, _, _, _, _, _, _, rfl, (by omega), (by omega), (by omega), (by omega), hbT, t3226_8, t3226_9, c3226_sd, hdT, t3226_11, t3226_17⟩⟩, trivial⟩
        have hF : Fr B0 [12, 17] κ H0 _ := hF.close hB (fa_c (by simp [hw.2]) fa_n)
        have hL : OkL B0 _ := hB.2.2.2.2.2
        have hP : va_P D vwCl [(w, .inr (9, [.int f3226_0, .ref bu, .int (nI ((κ w).2.2.1)), .int (nI tl), .int (nI (p3190 + 1)), .int er1, .int f3226_6, .int f3226_7, .ref (κ w).2.2.2, .ref f3226_9, .ref dr, .ref f3226_11, .int (nI f3226_12), .int f3226_13, .int 2, .int f3226_15, .int f3226_16, .ref f3226_17])), (dr, .inl (cs 0, 1383, .inl f3184))] _ := hB.1
        have hbu9 := (hm.2.2.2.2.2.2.1).kept (hB.2.2.2.1 _ hm.2.2.2.2.2.2.1.lt (by simp only [List.mem_cons, List.not_mem_nil, or_false, not_or]; exact ne_c hbT.1 hw.1 (by decide)))
        have hm : MF D cs w _ ((p3190 + 1)) (tl) (er1) (2) dr bu g := ⟨⟨_, hP 0 _ rfl, rfl⟩, ⟨_, hP 0 _ rfl, rfl⟩, ⟨_, hP 0 _ rfl, rfl⟩, ⟨_, hP 0 _ rfl, rfl⟩, ⟨_, hP 0 _ rfl, rfl⟩, ⟨_, hP 0 _ rfl, rfl⟩, hbu9, (by omega), (by omega)⟩
        have hps : PS D cs w _ ((p3190 + 1)) (tl) (er1) (2) dr bu g (N1) ((h + 1)) := ⟨hm, f3184, hP 1 _ rfl, e3184, by omega, v3184⟩
        refine cv_v (As := []) (rest := []) (b := w) ⟨hx, hb, hml, hown, hts⟩ (c_X9_factor_d2 hT (w := w) hw hbT hdT hps) (cwV 0 hts gX9_term_X9_factor rfl rfl rfl hdX9_factor_v ⟨Nat.le_of_ble_eq_true rfl, Nat.le_of_ble_eq_true rfl⟩) hN hE hL (rcv10 hN hT hw.1) rfl rfl hl.1 (Nat.le_of_ble_eq_true rfl) dX9_term_55 (Nat.zero_le _) (Nat.zero_le _) (fun H1 locs hL hqr3227 => ?_)
        obtain ⟨hT1, hF1, hqr3227⟩ := hqr3227
        have hF := hF.tr (hF1.mono (by simp))
        have hT := hT1
        obtain ⟨N3228, p3229, er3230, a3231, b3232, z3233, m3234, f3235, d3236, e3237, n3238, v3239⟩ := hqr3227
        have hm := m3234
        have hm8 := hm.2.2.2.2.2.2.2
        have hbd : B0 ≤ dr := (hT.o26 hdT.1).1
        have hDR := hT.dr hdT d3236
        have hP : va_P D vwCl [(dr, .inl (cs 0, 1383, .inl f3235))] _ := va_P.cons d3236 va_P.nil
        refine lv_aload_n hx hb dX9_term_58 rfl (lv_at hl 1 rfl) ?_
        refine lv_iload_n hx hb dX9_term_59 rfl (lv_at hl 0 rfl) ?_
        refine lv_if_eq (tgt := 67) hx hb dX9_term_60 (by decide) (fun c9 => absurd c9 (by decide)) (fun _ => ?_)
        refine lv_iconst (v := 4) hx hb dX9_term_63 (by decide) ?_
        refine lv_goto (tgt := 68) hx hb dX9_term_64 (by decide) ?_
        refine cv_v (As := [.int 4]) (rest := []) (b := w) ⟨hx, hb, hml, hown, hts⟩ (c_X9_emit hT (w := w) hw (x := 4) hbT hdT hm (hP 0 _ rfl) e3237 (fun _ => by omega)) (cwV 1 hts gX9_term_X9_emit rfl rfl rfl hdX9_emit_v ⟨Nat.le_of_ble_eq_true rfl, Nat.le_of_ble_eq_true rfl⟩) hN hE hL (rcv10 hN hT hw.1) rfl rfl hl.1 (Nat.le_of_ble_eq_true rfl) dX9_term_68 (Nat.zero_le _) (Nat.zero_le _) (fun H1 locs hL hqr3241 => ?_)
        obtain ⟨hT1, hF1, hqr3241⟩ := hqr3241
        have hF := hF.tr (hF1.mono (by simp))
        have hT := hT1
        obtain ⟨f3242, N3243, d3244, e3245, x3246, m3247⟩ := hqr3241
        have hm := m3247
        have hm8 := hm.2.2.2.2.2.2.2
        have nx3246 := x3246.n
        have ox3246 := nx3246.1
        have hbd : B0 ≤ dr := (hT.o26 hdT.1).1
        have hDR := hT.dr hdT d3244
        have hP : va_P D vwCl [(dr, .inl (cs 0, 1383, .inl f3242))] _ := va_P.cons d3244 va_P.nil
        refine lv_goto (tgt := 4) hx hb dX9_term_71 (by decide) ?_
        have hps : PS D cs w _ (p3229) (tl) (er3230) (2) dr bu g (N3243) ((h + 1)) := ⟨hm, f3242, hP 0 _ rfl, e3245, by omega, (EM.op x3246 (by decide) v3239)⟩
        exact ih3183 (p3229, N3243, er3230) _ _ _ (by show 600 - (p3229) < 600 - p; omega) ⟨hps, (by show (N3243) + 2 * pos ≤ N + 2 * (p3229); omega), (by show pos ≤ (p3229); omega), (fun e9 => hz1 (z3233 e9)), hT, hF, hL⟩ (lv_sub hl [1] rfl)
    · refine lv_aload_n hx hb dX9_term_20 rfl (lv_at hl 0 rfl) ?_
      refine cv_i (As := []) (rest := []) (b := w) ⟨hx, hb, hml, hown, hts⟩ (c_X9_ahead hT (w := w) hw hbT hdT hm) (cwV 0 hts gX9_term_X9_ahead rfl rfl rfl hdX9_ahead_v ⟨Nat.le_of_ble_eq_true rfl, Nat.le_of_ble_eq_true rfl⟩) hN hE hL (rcv10 hN hT hw.1) rfl rfl hl.1 (Nat.le_of_ble_eq_true rfl) dX9_term_21 (Nat.zero_le _) (Nat.zero_le _) (fun r3249 H1 locs hL hqr3249 => ?_)
      obtain ⟨hT1, hF1, hqr3249⟩ := hqr3249
      have hP : va_P D vwCl [(dr, .inl (cs 0, 1383, .inl f3184))] _ := hF1.hP (hP.sub [0] rfl) (fa_c ⟨by rw [hdT.1]; decide, by rw [hdT.2]; first | decide | (simp; done) | (simp [h15a, h15b, h15c]; done) | (simp; omega)⟩ fa_n)
      have hF := hF.tr (hF1.mono (by simp))
      have hT := hT1
      obtain ⟨p3250, h3251, m3252, n3253, s3254, rfl⟩ := hqr3249
      have hm := m3252
      have hpe := s3254 n3193
      rw [hpe] at hm
      refine tp_i (byF g tl p3190) (by rw [hpe]) ?_
      have hm8 := hm.2.2.2.2.2.2.2
      refine lv_bipush (v := 47) hx hb dX9_term_24 (by decide) ?_
      refine lv_icmp_ne (tgt := 74) hx hb dX9_term_26 (by decide) (fun c3255 => ?_) (fun c3255 => ?_)
      · have hps : PS D cs w _ (p3190) (tl) (er1) (2) dr bu g (N1) ((h + 1)) := ⟨hm, f3184, hP 0 _ rfl, e3184, by omega, v3184⟩
        exact en_v hx hb hr hlocks hL (Nat.zero_le _) (Nat.zero_le _) dX9_term_74 (⟨hT, hF, N1, p3190, er1, (by omega), (by omega), hz1, hps⟩)
      · have hl9 := byF_c (c3255) (by decide)
        refine lv_aload_n hx hb dX9_term_29 rfl (lv_at hl 0 rfl) ?_
        refine cv_i (As := []) (rest := []) (b := w) ⟨hx, hb, hml, hown, hts⟩ (c_X9_ahead hT (w := w) hw hbT hdT hm) (cwV 0 hts gX9_term_X9_ahead rfl rfl rfl hdX9_ahead_v ⟨Nat.le_of_ble_eq_true rfl, Nat.le_of_ble_eq_true rfl⟩) hN hE hL (rcv10 hN hT hw.1) rfl rfl hl.1 (Nat.le_of_ble_eq_true rfl) dX9_term_30 (Nat.zero_le _) (Nat.zero_le _) (fun r3256 H1 locs hL hqr3256 => ?_)
        obtain ⟨hT1, hF1, hqr3256⟩ := hqr3256
        have hP : va_P D vwCl [(dr, .inl (cs 0, 1383, .inl f3184))] _ := hF1.hP (hP.sub [0] rfl) (fa_c ⟨by rw [hdT.1]; decide, by rw [hdT.2]; first | decide | (simp; done) | (simp [h15a, h15b, h15c]; done) | (simp; omega)⟩ fa_n)
        have hF := hF.tr (hF1.mono (by simp))
        have hT := hT1
        obtain ⟨p3257, h3258, m3259, n3260, s3261, rfl⟩ := hqr3256
        have hm := m3259
        have hpe := s3261 n3193
        rw [hpe] at hm
        refine tp_i (byF g tl p3190) (by rw [hpe]) ?_
        have hm8 := hm.2.2.2.2.2.2.2
        refine lv_bipush (v := 42) hx hb dX9_term_33 (by decide) ?_
        refine lv_icmp_ne (tgt := 42) hx hb dX9_term_35 (by decide) (fun c3262 => ?_) (fun c3262 => ?_)
        · refine lv_iconst (v := 0) hx hb dX9_term_42 (by decide) ?_
          refine lv_istore_n (lv' := [(1, .int 0), (0, .ref w)]) hx hb dX9_term_43 rfl hl (by decide) rfl (fun ls hl => ?_)
          refine lv_aload_n hx hb dX9_term_44 rfl (lv_at hl 1 rfl) ?_
          refine lv_dup hx hb dX9_term_45 rfl ?_
          obtain ⟨hb3263, e3263, hat3263, hk3263⟩ := hT.o10 hw.1
          obtain ⟨f3263_0, f3263_1, f3263_3, f3263_4, f3263_5, f3263_6, f3263_7, f3263_9, f3263_10, f3263_11, f3263_12, f3263_13, f3263_14, f3263_15, f3263_16, f3263_17, rfl, c3263_2, c3263_3, c3263_4, c3263_12, t3263_1, t3263_8, t3263_9, c3263_sd, t3263_10, t3263_11, t3263_17⟩ := hk3263
          obtain ⟨rfl, rfl, rfl, rfl, rfl, rfl⟩ := hm.at hat3263 c3263_3 (by omega)
          have hm8 := hm.2.2.2.2.2.2.2
          have hP : va_P D vwCl [(w, .inr (9, [.int f3263_0, .ref bu, .int (nI ((κ w).2.2.1)), .int (nI tl), .int (nI p3190), .int er1, .int f3263_6, .int f3263_7, .ref (κ w).2.2.2, .ref f3263_9, .ref dr, .ref f3263_11, .int (nI f3263_12), .int f3263_13, .int 2, .int f3263_15, .int f3263_16, .ref f3263_17])), (dr, .inl (cs 0, 1383, .inl f3184))] _ := va_P.cons hat3263 hP
          refine va_get (D := D) (ci := 9) (v := .int (nI p3190)) (C := RX9) (T := TX9) (N := 18) hx hb hts iX9_term_9 hown hN.1 hP 0 rfl rfl 4 (by decide) (hts _ mX9_term_1) (fun _ h9 => h9) rfl dX9_term_46 ?_
          refine lv_iconst (v := 1) hx hb dX9_term_49 (by decide) ?_
          refine lv_iadd hx hb dX9_term_50 ?_
          refine tp_i (nI (p3190 + 1)) (nI_add p3190 1) ?_
          have hB : Bx B0 D _ [(w, .inr (9, [.int f3263_0, .ref bu, .int (nI ((κ w).2.2.1)), .int (nI tl), .int (nI p3190), .int er1, .int f3263_6, .int f3263_7, .ref (κ w).2.2.2, .ref f3263_9, .ref dr, .ref f3263_11, .int (nI f3263_12), .int f3263_13, .int 2, .int f3263_15, .int f3263_16, .ref f3263_17])), (dr, .inl (cs 0, 1383, .inl f3184))] [] _ _ := Bx.of (fun a => (κ a).1) hL hP (fa_c hb3263 (fa_c hbd fa_n)) (by simp only [List.map_cons, List.map_nil, hw.1, hdT.1]; decide)
          refine b_put (D := D) (ci := 9) (v := .int (nI (p3190 + 1))) (ty := .int) (C := RX9) (T := TX9) (N := 18) hx hb hts iX9_term_9 tyX9 tyX9_ok nmX9 hown hN hB 0 rfl rfl 4 (by decide) (hts _ mX9_term_1) (fun _ h9 => h9) rfl (by decide +kernel) rfl rfl (Nat.le_of_ble_eq_true rfl) (.inl rfl) dX9_term_51 (fun H locs hB => ?_)
          have hB : Bx B0 D _ [(w, .inr (9, [.int f3263_0, .ref bu, .int (nI ((κ w).2.2.1)), .int (nI tl), .int (nI (p3190 + 1)), .int er1, .int f3263_6, .int f3263_7, .ref (κ w).2.2.2, .ref f3263_9, .ref dr, .ref f3263_11, .int (nI f3263_12), .int f3263_13, .int 2, .int f3263_15, .int f3263_16, .ref f3263_17])), (dr, .inl (cs 0, 1383, .inl f3184))] [w] _ _ := hB
          refine lv_aload_n hx hb dX9_term_54 rfl (lv_at hl 1 rfl) ?_
          have hT : WT B0 D cs T κ _ := hT.close hB ⟨⟨0, _, rfl, ok_10 hw.1 ⟨_, _, _, _, _, _, _, _, _, _, _, _, _, _, _, _, rfl, (by omega), (by omega), (by omega), (by omega), hbT, t3263_8, t3263_9, c3263_sd, hdT, t3263_11, t3263_17⟩⟩, trivial⟩
          have hF : Fr B0 [12, 17] κ H0 _ := hF.close hB (fa_c (by simp [hw.2]) fa_n)
          have hL : OkL B0 _ := hB.2.2.2.2.2
          have hP : va_P D vwCl [(w, .inr (9, [.int f3263_0, .ref bu, .int (nI ((κ w).2.2.1)), .int (nI tl), .int (nI (p3190 + 1)), .int er1, .int f3263_6, .int f3263_7, .ref (κ w).2.2.2, .ref f3263_9, .ref dr, .ref f3263_11, .int (nI f3263_12), .int f3263_13, .int 2, .int f3263_15, .int f3263_16, .ref f3263_17])), (dr, .inl (cs 0, 1383, .inl f3184))] _ := hB.1
          have hbu9 := (hm.2.2.2.2.2.2.1).kept (hB.2.2.2.1 _ hm.2.2.2.2.2.2.1.lt (by simp only [List.mem_cons, List.not_mem_nil, or_false, not_or]; exact ne_c hbT.1 hw.1 (by decide)))
          have hm : MF D cs w _ ((p3190 + 1)) (tl) (er1) (2) dr bu g := ⟨⟨_, hP 0 _ rfl, rfl⟩, ⟨_, hP 0 _ rfl, rfl⟩, ⟨_, hP 0 _ rfl, rfl⟩, ⟨_, hP 0 _ rfl, rfl⟩, ⟨_, hP 0 _ rfl, rfl⟩, ⟨_, hP 0 _ rfl, rfl⟩, hbu9, (by omega), (by omega)⟩
          have hps : PS D cs w _ ((p3190 + 1)) (tl) (er1) (2) dr bu g (N1) ((h + 1)) := ⟨hm, f3184, hP 1 _ rfl, e3184, by omega, v3184⟩
          refine cv_v (As := []) (rest := []) (b := w) ⟨hx, hb, hml, hown, hts⟩ (c_X9_factor_d2 hT (w := w) hw hbT hdT hps) (cwV 0 hts gX9_term_X9_factor rfl rfl rfl hdX9_factor_v ⟨Nat.le_of_ble_eq_true rfl, Nat.le_of_ble_eq_true rfl⟩) hN hE hL (rcv10 hN hT hw.1) rfl rfl hl.1 (Nat.le_of_ble_eq_true rfl) dX9_term_55 (Nat.zero_le _) (Nat.zero_le _) (fun H1 locs hL hqr3264 => ?_)
          obtain ⟨hT1, hF1, hqr3264⟩ := hqr3264
          have hF := hF.tr (hF1.mono (by simp))
          have hT := hT1
          obtain ⟨N3265, p3266, er3267, a3268, b3269, z3270, m3271, f3272, d3273, e3274, n3275, v3276⟩ := hqr3264
          have hm := m3271
          have hm8 := hm.2.2.2.2.2.2.2
          have hbd : B0 ≤ dr := (hT.o26 hdT.1).1
          have hDR := hT.dr hdT d3273
          have hP : va_P D vwCl [(dr, .inl (cs 0, 1383, .inl f3272))] _ := va_P.cons d3273 va_P.nil
          refine lv_aload_n hx hb dX9_term_58 rfl (lv_at hl 1 rfl) ?_
          refine lv_iload_n hx hb dX9_term_59 rfl (lv_at hl 0 rfl) ?_
          refine lv_if_eq (tgt := 67) hx hb dX9_term_60 (by decide) (fun _ => ?_) (fun c9 => absurd (by decide) c9)
          refine lv_iconst (v := 5) hx hb dX9_term_67 (by decide) ?_
          refine cv_v (As := [.int 5]) (rest := []) (b := w) ⟨hx, hb, hml, hown, hts⟩ (c_X9_emit hT (w := w) hw (x := 5) hbT hdT hm (hP 0 _ rfl) e3274 (fun _ => by omega)) (cwV 1 hts gX9_term_X9_emit rfl rfl rfl hdX9_emit_v ⟨Nat.le_of_ble_eq_true rfl, Nat.le_of_ble_eq_true rfl⟩) hN hE hL (rcv10 hN hT hw.1) rfl rfl hl.1 (Nat.le_of_ble_eq_true rfl) dX9_term_68 (Nat.zero_le _) (Nat.zero_le _) (fun H1 locs hL hqr3278 => ?_)
          obtain ⟨hT1, hF1, hqr3278⟩ := hqr3278
          have hF := hF.tr (hF1.mono (by simp))
          have hT := hT1
          obtain ⟨f3279, N3280, d3281, e3282, x3283, m3284⟩ := hqr3278
          have hm := m3284
          have hm8 := hm.2.2.2.2.2.2.2
          have nx3283 := x3283.n
          have ox3283 := nx3283.1
          have hbd : B0 ≤ dr := (hT.o26 hdT.1).1
          have hDR := hT.dr hdT d3281
          have hP : va_P D vwCl [(dr, .inl (cs 0, 1383, .inl f3279))] _ := va_P.cons d3281 va_P.nil
          refine lv_goto (tgt := 4) hx hb dX9_term_71 (by decide) ?_
          have hps : PS D cs w _ (p3266) (tl) (er3267) (2) dr bu g (N3280) ((h + 1)) := ⟨hm, f3279, hP 0 _ rfl, e3282, by omega, (EM.op x3283 (by decide) v3276)⟩
          exact ih3183 (p3266, N3280, er3267) _ _ _ (by show 600 - (p3266) < 600 - p; omega) ⟨hps, (by show (N3280) + 2 * pos ≤ N + 2 * (p3266); omega), (by show pos ≤ (p3266); omega), (fun e9 => hz1 (z3270 e9)), hT, hF, hL⟩ (lv_sub hl [1] rfl)
        · refine lv_iconst (v := 1) hx hb dX9_term_38 (by decide) ?_
          refine lv_goto (tgt := 43) hx hb dX9_term_39 (by decide) ?_
          refine lv_istore_n (lv' := [(1, .int 1), (0, .ref w)]) hx hb dX9_term_43 rfl hl (by decide) rfl (fun ls hl => ?_)
          refine lv_aload_n hx hb dX9_term_44 rfl (lv_at hl 1 rfl) ?_
          refine lv_dup hx hb dX9_term_45 rfl ?_
          obtain ⟨hb3286, e3286, hat3286, hk3286⟩ := hT.o10 hw.1
          obtain ⟨f3286_0, f3286_1, f3286_3, f3286_4, f3286_5, f3286_6, f3286_7, f3286_9, f3286_10, f3286_11, f3286_12, f3286_13, f3286_14, f3286_15, f3286_16, f3286_17, rfl, c3286_2, c3286_3, c3286_4, c3286_12, t3286_1, t3286_8, t3286_9, c3286_sd, t3286_10, t3286_11, t3286_17⟩ := hk3286
          obtain ⟨rfl, rfl, rfl, rfl, rfl, rfl⟩ := hm.at hat3286 c3286_3 (by omega)
          have hm8 := hm.2.2.2.2.2.2.2
          have hP : va_P D vwCl [(w, .inr (9, [.int f3286_0, .ref bu, .int (nI ((κ w).2.2.1)), .int (nI tl), .int (nI p3190), .int er1, .int f3286_6, .int f3286_7, .ref (κ w).2.2.2, .ref f3286_9, .ref dr, .ref f3286_11, .int (nI f3286_12), .int f3286_13, .int 2, .int f3286_15, .int f3286_16, .ref f3286_17])), (dr, .inl (cs 0, 1383, .inl f3184))] _ := va_P.cons hat3286 hP
          refine va_get (D := D) (ci := 9) (v := .int (nI p3190)) (C := RX9) (T := TX9) (N := 18) hx hb hts iX9_term_9 hown hN.1 hP 0 rfl rfl 4 (by decide) (hts _ mX9_term_1) (fun _ h9 => h9) rfl dX9_term_46 ?_
          refine lv_iconst (v := 1) hx hb dX9_term_49 (by decide) ?_
          refine lv_iadd hx hb dX9_term_50 ?_
          refine tp_i (nI (p3190 + 1)) (nI_add p3190 1) ?_
          have hB : Bx B0 D _ [(w, .inr (9, [.int f3286_0, .ref bu, .int (nI ((κ w).2.2.1)), .int (nI tl), .int (nI p3190), .int er1, .int f3286_6, .int f3286_7, .ref (κ w).2.2.2, .ref f3286_9, .ref dr, .ref f3286_11, .int (nI f3286_12), .int f3286_13, .int 2, .int f3286_15, .int f3286_16, .ref f3286_17])), (dr, .inl (cs 0, 1383, .inl f3184))] [] _ _ := Bx.of (fun a => (κ a).1) hL hP (fa_c hb3286 (fa_c hbd fa_n)) (by simp only [List.map_cons, List.map_nil, hw.1, hdT.1]; decide)
          refine b_put (D := D) (ci := 9) (v := .int (nI (p3190 + 1))) (ty := .int) (C := RX9) (T := TX9) (N := 18) hx hb hts iX9_term_9 tyX9 tyX9_ok nmX9 hown hN hB 0 rfl rfl 4 (by decide) (hts _ mX9_term_1) (fun _ h9 => h9) rfl (by decide +kernel) rfl rfl (Nat.le_of_ble_eq_true rfl) (.inl rfl) dX9_term_51 (fun H locs hB => ?_)
          have hB : Bx B0 D _ [(w, .inr (9, [.int f3286_0, .ref bu, .int (nI ((κ w).2.2.1)), .int (nI tl), .int (nI (p3190 + 1)), .int er1, .int f3286_6, .int f3286_7, .ref (κ w).2.2.2, .ref f3286_9, .ref dr, .ref f3286_11, .int (nI f3286_12), .int f3286_13, .int 2, .int f3286_15, .int f3286_16, .ref f3286_17])), (dr, .inl (cs 0, 1383, .inl f3184))] [w] _ _ := hB
          refine lv_aload_n hx hb dX9_term_54 rfl (lv_at hl 1 rfl) ?_
          have hT : WT B0 D cs T κ _ := hT.close hB ⟨⟨0, _, rfl, ok_10 hw.1 ⟨_, _, _, _, _, _, _, _, _, _, _, _, _, _, _, _, rfl, (by omega), (by omega), (by omega), (by omega), hbT, t3286_8, t3286_9, c3286_sd, hdT, t3286_11, t3286_17⟩⟩, trivial⟩
          have hF : Fr B0 [12, 17] κ H0 _ := hF.close hB (fa_c (by simp [hw.2]) fa_n)
          have hL : OkL B0 _ := hB.2.2.2.2.2
          have hP : va_P D vwCl [(w, .inr (9, [.int f3286_0, .ref bu, .int (nI ((κ w).2.2.1)), .int (nI tl), .int (nI (p3190 + 1)), .int er1, .int f3286_6, .int f3286_7, .ref (κ w).2.2.2, .ref f3286_9, .ref dr, .ref f3286_11, .int (nI f3286_12), .int f3286_13, .int 2, .int f3286_15, .int f3286_16, .ref f3286_17])), (dr, .inl (cs 0, 1383, .inl f3184))] _ := hB.1
          have hbu9 := (hm.2.2.2.2.2.2.1).kept (hB.2.2.2.1 _ hm.2.2.2.2.2.2.1.lt (by simp only [List.mem_cons, List.not_mem_nil, or_false, not_or]; exact ne_c hbT.1 hw.1 (by decide)))
          have hm : MF D cs w _ ((p3190 + 1)) (tl) (er1) (2) dr bu g := ⟨⟨_, hP 0 _ rfl, rfl⟩, ⟨_, hP 0 _ rfl, rfl⟩, ⟨_, hP 0 _ rfl, rfl⟩, ⟨_, hP 0 _ rfl, rfl⟩, ⟨_, hP 0 _ rfl, rfl⟩, ⟨_, hP 0 _ rfl, rfl⟩, hbu9, (by omega), (by omega)⟩
          have hps : PS D cs w _ ((p3190 + 1)) (tl) (er1) (2) dr bu g (N1) ((h + 1)) := ⟨hm, f3184, hP 1 _ rfl, e3184, by omega, v3184⟩
          refine cv_v (As := []) (rest := []) (b := w) ⟨hx, hb, hml, hown, hts⟩ (c_X9_factor_d2 hT (w := w) hw hbT hdT hps) (cwV 0 hts gX9_term_X9_factor rfl rfl rfl hdX9_factor_v ⟨Nat.le_of_ble_eq_true rfl, Nat.le_of_ble_eq_true rfl⟩) hN hE hL (rcv10 hN hT hw.1) rfl rfl hl.1 (Nat.le_of_ble_eq_true rfl) dX9_term_55 (Nat.zero_le _) (Nat.zero_le _) (fun H1 locs hL hqr3287 => ?_)
          obtain ⟨hT1, hF1, hqr3287⟩ := hqr3287
          have hF := hF.tr (hF1.mono (by simp))
          have hT := hT1
          obtain ⟨N3288, p3289, er3290, a3291, b3292, z3293, m3294, f3295, d3296, e3297, n3298, v3299⟩ := hqr3287
          have hm := m3294
          have hm8 := hm.2.2.2.2.2.2.2
          have hbd : B0 ≤ dr := (hT.o26 hdT.1).1
          have hDR := hT.dr hdT d3296
          have hP : va_P D vwCl [(dr, .inl (cs 0, 1383, .inl f3295))] _ := va_P.cons d3296 va_P.nil
          refine lv_aload_n hx hb dX9_term_58 rfl (lv_at hl 1 rfl) ?_
          refine lv_iload_n hx hb dX9_term_59 rfl (lv_at hl 0 rfl) ?_
          refine lv_if_eq (tgt := 67) hx hb dX9_term_60 (by decide) (fun c9 => absurd c9 (by decide)) (fun _ => ?_)
          refine lv_iconst (v := 4) hx hb dX9_term_63 (by decide) ?_
          refine lv_goto (tgt := 68) hx hb dX9_term_64 (by decide) ?_
          refine cv_v (As := [.int 4]) (rest := []) (b := w) ⟨hx, hb, hml, hown, hts⟩ (c_X9_emit hT (w := w) hw (x := 4) hbT hdT hm (hP 0 _ rfl) e3297 (fun _ => by omega)) (cwV 1 hts gX9_term_X9_emit rfl rfl rfl hdX9_emit_v ⟨Nat.le_of_ble_eq_true rfl, Nat.le_of_ble_eq_true rfl⟩) hN hE hL (rcv10 hN hT hw.1) rfl rfl hl.1 (Nat.le_of_ble_eq_true rfl) dX9_term_68 (Nat.zero_le _) (Nat.zero_le _) (fun H1 locs hL hqr3301 => ?_)
          obtain ⟨hT1, hF1, hqr3301⟩ := hqr3301
          have hF := hF.tr (hF1.mono (by simp))
          have hT := hT1
          obtain ⟨f3302, N3303, d3304, e3305, x3306, m3307⟩ := hqr3301
          have hm := m3307
          have hm8 := hm.2.2.2.2.2.2.2
          have nx3306 := x3306.n
          have ox3306 := nx3306.1
          have hbd : B0 ≤ dr := (hT.o26 hdT.1).1
          have hDR := hT.dr hdT d3304
          have hP : va_P D vwCl [(dr, .inl (cs 0, 1383, .inl f3302))] _ := va_P.cons d3304 va_P.nil
          refine lv_goto (tgt := 4) hx hb dX9_term_71 (by decide) ?_
          have hps : PS D cs w _ (p3289) (tl) (er3290) (2) dr bu g (N3303) ((h + 1)) := ⟨hm, f3302, hP 0 _ rfl, e3305, by omega, (EM.op x3306 (by decide) v3299)⟩
          exact ih3183 (p3289, N3303, er3290) _ _ _ (by show 600 - (p3289) < 600 - p; omega) ⟨hps, (by show (N3303) + 2 * pos ≤ N + 2 * (p3289); omega), (by show pos ≤ (p3289); omega), (fun e9 => hz1 (z3293 e9)), hT, hF, hL⟩ (lv_sub hl [1] rfl)
  · refine lv_if_eq (tgt := 74) hx hb dX9_term_8 (by decide) (fun _ => ?_) (fun c9 => absurd (by decide) c9)
    have hps : PS D cs w _ (p) (tl) (er1) (2) dr bu g (N1) ((h + 1)) := ⟨hm, f3184, hP 0 _ rfl, e3184, by omega, v3184⟩
    exact en_v hx hb hr hlocks hL (Nat.zero_le _) (Nat.zero_le _) dX9_term_74 (⟨hT, hF, N1, p, er1, (by omega), (by omega), hz1, hps⟩)
set_option maxHeartbeats 4000000 in
set_option maxRecDepth 100000 in
theorem c_X9_readSum_d2 {l : Launch} {D : va_G} {cs : Nat → ClassId} {B0 T : Nat} {κ : KM} {H0 : Heap} (hT : WT B0 D cs T κ H0) {w : Nat} (hw : T2 κ w 10 12) {pos tl : Nat} {er : Int32} {dr bu : Nat} {g : Nat → Int32} {N h : Nat} (hbT : T2 κ bu 23 14) (hdT : T2 κ dr 26 17) (hps : PS D cs w H0 pos tl er 2 dr bu g N h) : KC l yX9_readSum wsX9_readSum 13 281 0 0 D cs B0 H0 [.ref w] (Qv (fun H => WT B0 D cs T κ H ∧ Fr B0 [12, 17] κ H0 H ∧ ∃ N1 pos1 er1, N1 + 2 * pos ≤ N + 2 * pos1 ∧ pos ≤ pos1 ∧ (er1 = 0 → er = 0) ∧ PS D cs w H pos1 tl er1 2 dr bu g N1 (h + 1))) := by
  refine KC.of cX9_readSum 2 none (by decide) rfl (Nat.le_of_ble_eq_true rfl) ?_
  intro p e s m below meth c ls hx hb hr hml hown hts hlocks hin hN hE hH0 hl
  have hown : s.vm.findClass RX9 = some m.cls := hown
  have hl : lv_has ls 2 [(0, .ref w)] := hl
  have hL : OkL B0 [] := OkL.nil
  have hF : Fr B0 [12, 17] κ H0 H0 := Fr.rf
  obtain ⟨hm, f3309, hd3309, e3309, n3309, v3309⟩ := hps
  have hm8 := hm.2.2.2.2.2.2.2
  have hbd : B0 ≤ dr := (hT.o26 hdT.1).1
  have hDR := hT.dr hdT hd3309
  have hP : va_P D vwCl [(dr, .inl (cs 0, 1383, .inl f3309))] _ := va_P.cons hd3309 va_P.nil
  refine lv_aload_n hx hb dX9_readSum_0 rfl (lv_at hl 0 rfl) ?_
  have hps : PS D cs w _ (pos) (tl) (er) (2) dr bu g (N) (h) := ⟨hm, f3309, hP 0 _ rfl, e3309, by omega, v3309⟩
  refine cv_v (As := []) (rest := []) (b := w) ⟨hx, hb, hml, hown, hts⟩ (c_X9_term_d2 hT (w := w) hw hbT hdT hps) (cwV 0 hts gX9_readSum_X9_term rfl rfl rfl hdX9_term_v ⟨Nat.le_of_ble_eq_true rfl, Nat.le_of_ble_eq_true rfl⟩) hN hE hL (rcv10 hN hT hw.1) rfl rfl hl.1 (Nat.le_of_ble_eq_true rfl) dX9_readSum_1 (Nat.zero_le _) (Nat.zero_le _) (fun H1 locs hL hqr3311 => ?_)
  obtain ⟨hT1, hF1, hqr3311⟩ := hqr3311
  have hF := hF.tr (hF1.mono (by simp))
  have hT := hT1
  obtain ⟨N3312, p3313, er3314, a3315, b3316, z3317, m3318, f3319, d3320, e3321, n3322, v3323⟩ := hqr3311
  have hm := m3318
  have hm8 := hm.2.2.2.2.2.2.2
  have hbd : B0 ≤ dr := (hT.o26 hdT.1).1
  have hDR := hT.dr hdT d3320
  have hP : va_P D vwCl [(dr, .inl (cs 0, 1383, .inl f3319))] _ := va_P.cons d3320 va_P.nil
  have hps : PS D cs w _ (p3313) (tl) (er3314) (2) dr bu g (N3312) ((h + 1)) := ⟨hm, f3319, hP 0 _ rfl, e3321, by omega, v3323⟩
  refine lp_m (α := Nat × Nat × Int32) (nL := 2) (fun a9 => 600 - a9.1) (fun a9 H9 l9 => (PS D cs w H9 a9.1 tl a9.2.2 2 dr bu g a9.2.1 (h + 1)) ∧ (a9.2.1 + 2 * pos ≤ N + 2 * a9.1) ∧ (pos ≤ a9.1) ∧ (a9.2.2 = 0 → er = 0) ∧ (WT B0 D cs T κ H9) ∧ (Fr B0 [12, 17] κ H0 H9) ∧ (OkL B0 l9)) (fun a9 => [(0, .ref w)]) ?_ (p3313, N3312, er3314) _ _ _ ⟨hps, (by show (N3312) + 2 * pos ≤ N + 2 * (p3313); omega), (by show pos ≤ (p3313); omega), (fun e9 => id (z3317 e9)), hT, hF, hL⟩ (lv_sub hl [0] rfl)
  rintro ⟨p, N1, er1⟩ H locs ls ih3325 ⟨hps, hb1, hb2, hz1, hT, hF, hL⟩ hl
  have hl : lv_has ls 2 [(0, .ref w)] := hl
  have hps : PS D cs w H p tl er1 2 dr bu g N1 (h + 1) := hps
  have hb1 : N1 + 2 * pos ≤ N + 2 * p := hb1
  have hb2 : pos ≤ p := hb2
  have hz1 : er1 = 0 → er = 0 := hz1
  obtain ⟨hm, f3326, hd3326, e3326, n3326, v3326⟩ := hps
  have hm8 := hm.2.2.2.2.2.2.2
  have hbd : B0 ≤ dr := (hT.o26 hdT.1).1
  have hDR := hT.dr hdT hd3326
  have hP : va_P D vwCl [(dr, .inl (cs 0, 1383, .inl f3326))] _ := va_P.cons hd3326 va_P.nil
  refine lv_aload_n hx hb dX9_readSum_4 rfl (lv_at hl 0 rfl) ?_
  refine cv_i (As := []) (rest := []) (b := w) ⟨hx, hb, hml, hown, hts⟩ (c_X9_isGood hT (w := w) hw hbT hdT hm) (cwV 0 hts gX9_readSum_X9_isGood rfl rfl rfl hdX9_isGood_v ⟨Nat.le_of_ble_eq_true rfl, Nat.le_of_ble_eq_true rfl⟩) hN hE hL (rcv10 hN hT hw.1) rfl rfl hl.1 (Nat.le_of_ble_eq_true rfl) dX9_readSum_5 (Nat.zero_le _) (Nat.zero_le _) (fun r3328 H1 locs hL hqr3328 => ?_)
  obtain ⟨h9, hqr3328⟩ := hqr3328; replace h9 := h9.symm; subst h9
  rcases hqr3328 with ⟨rfl, e3329⟩ | ⟨rfl, e3330⟩
  · refine lv_if_eq (tgt := 74) hx hb dX9_readSum_8 (by decide) (fun c9 => absurd c9 (by decide)) (fun _ => ?_)
    refine lv_aload_n hx hb dX9_readSum_11 rfl (lv_at hl 0 rfl) ?_
    refine cv_i (As := []) (rest := []) (b := w) ⟨hx, hb, hml, hown, hts⟩ (c_X9_ahead hT (w := w) hw hbT hdT hm) (cwV 0 hts gX9_readSum_X9_ahead rfl rfl rfl hdX9_ahead_v ⟨Nat.le_of_ble_eq_true rfl, Nat.le_of_ble_eq_true rfl⟩) hN hE hL (rcv10 hN hT hw.1) rfl rfl hl.1 (Nat.le_of_ble_eq_true rfl) dX9_readSum_12 (Nat.zero_le _) (Nat.zero_le _) (fun r3331 H1 locs hL hqr3331 => ?_)
    obtain ⟨hT1, hF1, hqr3331⟩ := hqr3331
    have hP : va_P D vwCl [(dr, .inl (cs 0, 1383, .inl f3326))] _ := hF1.hP (hP.sub [0] rfl) (fa_c ⟨by rw [hdT.1]; decide, by rw [hdT.2]; first | decide | (simp; done) | (simp [h15a, h15b, h15c]; done) | (simp; omega)⟩ fa_n)
    have hF := hF.tr (hF1.mono (by simp))
    have hT := hT1
    obtain ⟨p3332, h3333, m3334, n3335, s3336, rfl⟩ := hqr3331
    have hm := m3334
    have hm8 := hm.2.2.2.2.2.2.2
    refine lv_bipush (v := 43) hx hb dX9_readSum_15 (by decide) ?_
    refine lv_icmp_eq (tgt := 29) hx hb dX9_readSum_17 (by decide) (fun c3337 => ?_) (fun c3337 => ?_)
    · have hl9 := byF_c (c3337) (by decide)
      refine lv_aload_n hx hb dX9_readSum_29 rfl (lv_at hl 0 rfl) ?_
      refine cv_i (As := []) (rest := []) (b := w) ⟨hx, hb, hml, hown, hts⟩ (c_X9_ahead hT (w := w) hw hbT hdT hm) (cwV 0 hts gX9_readSum_X9_ahead rfl rfl rfl hdX9_ahead_v ⟨Nat.le_of_ble_eq_true rfl, Nat.le_of_ble_eq_true rfl⟩) hN hE hL (rcv10 hN hT hw.1) rfl rfl hl.1 (Nat.le_of_ble_eq_true rfl) dX9_readSum_30 (Nat.zero_le _) (Nat.zero_le _) (fun r3338 H1 locs hL hqr3338 => ?_)
      obtain ⟨hT1, hF1, hqr3338⟩ := hqr3338
      have hP : va_P D vwCl [(dr, .inl (cs 0, 1383, .inl f3326))] _ := hF1.hP (hP.sub [0] rfl) (fa_c ⟨by rw [hdT.1]; decide, by rw [hdT.2]; first | decide | (simp; done) | (simp [h15a, h15b, h15c]; done) | (simp; omega)⟩ fa_n)
      have hF := hF.tr (hF1.mono (by simp))
      have hT := hT1
      obtain ⟨p3339, h3340, m3341, n3342, s3343, rfl⟩ := hqr3338
      have hm := m3341
      have hpe := s3343 n3335
      rw [hpe] at hm
      refine tp_i (byF g tl p3332) (by rw [hpe]) ?_
      have hm8 := hm.2.2.2.2.2.2.2
      refine lv_bipush (v := 43) hx hb dX9_readSum_33 (by decide) ?_
      refine lv_icmp_ne (tgt := 42) hx hb dX9_readSum_35 (by decide) (fun c3344 => ?_) (fun c3344 => ?_)
      · refine lv_iconst (v := 0) hx hb dX9_readSum_42 (by decide) ?_
        refine lv_istore_n (lv' := [(1, .int 0), (0, .ref w)]) hx hb dX9_readSum_43 rfl hl (by decide) rfl (fun ls hl => ?_)
        refine lv_aload_n hx hb dX9_readSum_44 rfl (lv_at hl 1 rfl) ?_
        refine lv_dup hx hb dX9_readSum_45 rfl ?_
        obtain ⟨hb3345, e3345, hat3345, hk3345⟩ := hT.o10 hw.1
        obtain ⟨f3345_0, f3345_1, f3345_3, f3345_4, f3345_5, f3345_6, f3345_7, f3345_9, f3345_10, f3345_11, f3345_12, f3345_13, f3345_14, f3345_15, f3345_16, f3345_17, rfl, c3345_2, c3345_3, c3345_4, c3345_12, t3345_1, t3345_8, t3345_9, c3345_sd, t3345_10, t3345_11, t3345_17⟩ := hk3345
        obtain ⟨rfl, rfl, rfl, rfl, rfl, rfl⟩ := hm.at hat3345 c3345_3 (by omega)
        have hm8 := hm.2.2.2.2.2.2.2
        have hP : va_P D vwCl [(w, .inr (9, [.int f3345_0, .ref bu, .int (nI ((κ w).2.2.1)), .int (nI tl), .int (nI p3332), .int er1, .int f3345_6, .int f3345_7, .ref (κ w).2.2.2, .ref f3345_9, .ref dr, .ref f3345_11, .int (nI f3345_12), .int f3345_13, .int 2, .int f3345_15, .int f3345_16, .ref f3345_17])), (dr, .inl (cs 0, 1383, .inl f3326))] _ := va_P.cons hat3345 hP
        refine va_get (D := D) (ci := 9) (v := .int (nI p3332)) (C := RX9) (T := TX9) (N := 18) hx hb hts iX9_readSum_9 hown hN.1 hP 0 rfl rfl 4 (by decide) (hts _ mX9_readSum_1) (fun _ h9 => h9) rfl dX9_readSum_46 ?_
        refine lv_iconst (v := 1) hx hb dX9_readSum_49 (by decide) ?_
        refine lv_iadd hx hb dX9_readSum_50 ?_
        refine tp_i (nI (p3332 + 1)) (nI_add p3332 1) ?_
        have hB : Bx B0 D _ [(w, .inr (9, [.int f3345_0, .ref bu, .int (nI ((κ w).2.2.1)), .int (nI tl), .int (nI p3332), .int er1, .int f3345_6, .int f3345_7, .ref (κ w).2.2.2, .ref f3345_9, .ref dr, .ref f3345_11, .int (nI f3345_12), .int f3345_13, .int 2, .int f3345_15, .int f3345_16, .ref f3345_17])), (dr, .inl (cs 0, 1383, .inl f3326))] [] _ _ := Bx.of (fun a => (κ a).1) hL hP (fa_c hb3345 (fa_c hbd fa_n)) (by simp only [List.map_cons, List.map_nil, hw.1, hdT.1]; decide)
        refine b_put (D := D) (ci := 9) (v := .int (nI (p3332 + 1))) (ty := .int) (C := RX9) (T := TX9) (N := 18) hx hb hts iX9_readSum_9 tyX9 tyX9_ok nmX9 hown hN hB 0 rfl rfl 4 (by decide) (hts _ mX9_readSum_1) (fun _ h9 => h9) rfl (by decide +kernel) rfl rfl (Nat.le_of_ble_eq_true rfl) (.inl rfl) dX9_readSum_51 (fun H locs hB => ?_)
        have hB : Bx B0 D _ [(w, .inr (9, [.int f3345_0, .ref bu, .int (nI ((κ w).2.2.1)), .int (nI tl), .int (nI (p3332 + 1)), .int er1, .int f3345_6, .int f3345_7, .ref (κ w).2.2.2, .ref f3345_9, .ref dr, .ref f3345_11, .int (nI f3345_12), .int f3345_13, .int 2, .int f3345_15, .int f3345_16, .ref f3345_17])), (dr, .inl (cs 0, 1383, .inl f3326))] [w] _ _ := hB
        refine lv_aload_n hx hb dX9_readSum_54 rfl (lv_at hl 1 rfl) ?_
        have hT : WT B0 D cs T κ _ := hT.close hB ⟨⟨0, _, rfl, ok_10 hw.1 ⟨_, _, _, _, _, _, _, _, _, _, _, _, _, _, _, _, rfl, (by omega), (by omega), (by omega), (by omega), hbT, t3345_8, t3345_9, c3345_sd, hdT, t3345_11, t3345_17⟩⟩, trivial⟩
        have hF : Fr B0 [12, 17] κ H0 _ := hF.close hB (fa_c (by simp [hw.2]) fa_n)
        have hL : OkL B0 _ := hB.2.2.2.2.2
        have hP : va_P D vwCl [(w, .inr (9, [.int f3345_0, .ref bu, .int (nI ((κ w).2.2.1)), .int (nI tl), .int (nI (p3332 + 1)), .int er1, .int f3345_6, .int f3345_7, .ref (κ w).2.2.2, .ref f3345_9, .ref dr, .ref f3345_11, .int (nI f3345_12), .int f3345_13, .int 2, .int f3345_15, .int f3345_16, .ref f3345_17])), (dr, .inl (cs 0, 1383, .inl f3326))] _ := hB.1
        have hbu9 := (hm.2.2.2.2.2.2.1).kept (hB.2.2.2.1 _ hm.2.2.2.2.2.2.1.lt (by simp only [List.mem_cons, List.not_mem_nil, or_false, not_or]; exact ne_c hbT.1 hw.1 (by decide)))
        have hm : MF D cs w _ ((p3332 + 1)) (tl) (er1) (2) dr bu g := ⟨⟨_, hP 0 _ rfl, rfl⟩, ⟨_, hP 0 _ rfl, rfl⟩, ⟨_, hP 0 _ rfl, rfl⟩, ⟨_, hP 0 _ rfl, rfl⟩, ⟨_, hP 0 _ rfl, rfl⟩, ⟨_, hP 0 _ rfl, rfl⟩, hbu9, (by omega), (by omega)⟩
        have hps : PS D cs w _ ((p3332 + 1)) (tl) (er1) (2) dr bu g (N1) ((h + 1)) := ⟨hm, f3326, hP 1 _ rfl, e3326, by omega, v3326⟩
        refine cv_v (As := []) (rest := []) (b := w) ⟨hx, hb, hml, hown, hts⟩ (c_X9_term_d2 hT (w := w) hw hbT hdT hps) (cwV 0 hts gX9_readSum_X9_term rfl rfl rfl hdX9_term_v ⟨Nat.le_of_ble_eq_true rfl, Nat.le_of_ble_eq_true rfl⟩) hN hE hL (rcv10 hN hT hw.1) rfl rfl hl.1 (Nat.le_of_ble_eq_true rfl) dX9_readSum_55 (Nat.zero_le _) (Nat.zero_le _) (fun H1 locs hL hqr3346 => ?_)
        obtain ⟨hT1, hF1, hqr3346⟩ := hqr3346
        have hF := hF.tr (hF1.mono (by simp))
        have hT := hT1
        obtain ⟨N3347, p3348, er3349, a3350, b3351, z3352, m3353, f3354, d3355, e3356, n3357, v3358⟩ := hqr3346
        have hm := m3353
        have hm8 := hm.2.2.2.2.2.2.2
        have hbd : B0 ≤ dr := (hT.o26 hdT.1).1
        have hDR := hT.dr hdT d3355
        have hP : va_P D vwCl [(dr, .inl (cs 0, 1383, .inl f3354))] _ := va_P.cons d3355 va_P.nil
        refine lv_aload_n hx hb dX9_readSum_58 rfl (lv_at hl 1 rfl) ?_
        refine lv_iload_n hx hb dX9_readSum_59 rfl (lv_at hl 0 rfl) ?_
        refine lv_if_eq (tgt := 67) hx hb dX9_readSum_60 (by decide) (fun _ => ?_) (fun c9 => absurd (by decide) c9)
        refine lv_iconst (v := 3) hx hb dX9_readSum_67 (by decide) ?_
        refine cv_v (As := [.int 3]) (rest := []) (b := w) ⟨hx, hb, hml, hown, hts⟩ (c_X9_emit hT (w := w) hw (x := 3) hbT hdT hm (hP 0 _ rfl) e3356 (fun _ => by omega)) (cwV 1 hts gX9_readSum_X9_emit rfl rfl rfl hdX9_emit_v ⟨Nat.le_of_ble_eq_true rfl, Nat.le_of_ble_eq_true rfl⟩) hN hE hL (rcv10 hN hT hw.1) rfl rfl hl.1 (Nat.le_of_ble_eq_true rfl) dX9_readSum_68 (Nat.zero_le _) (Nat.zero_le _) (fun H1 locs hL hqr3360 => ?_)
        obtain ⟨hT1, hF1, hqr3360⟩ := hqr3360
        have hF := hF.tr (hF1.mono (by simp))
        have hT := hT1
        obtain ⟨f3361, N3362, d3363, e3364, x3365, m3366⟩ := hqr3360
        have hm := m3366
        have hm8 := hm.2.2.2.2.2.2.2
        have nx3365 := x3365.n
        have ox3365 := nx3365.1
        have hbd : B0 ≤ dr := (hT.o26 hdT.1).1
        have hDR := hT.dr hdT d3363
        have hP : va_P D vwCl [(dr, .inl (cs 0, 1383, .inl f3361))] _ := va_P.cons d3363 va_P.nil
        refine lv_goto (tgt := 4) hx hb dX9_readSum_71 (by decide) ?_
        have hps : PS D cs w _ (p3348) (tl) (er3349) (2) dr bu g (N3362) ((h + 1)) := ⟨hm, f3361, hP 0 _ rfl, e3364, by omega, (EM.op x3365 (by decide) v3358)⟩
        exact ih3325 (p3348, N3362, er3349) _ _ _ (by show 600 - (p3348) < 600 - p; omega) ⟨hps, (by show (N3362) + 2 * pos ≤ N + 2 * (p3348); omega), (by show pos ≤ (p3348); omega), (fun e9 => hz1 (z3352 e9)), hT, hF, hL⟩ (lv_sub hl [1] rfl)
      · refine lv_iconst (v := 1) hx hb dX9_readSum_38 (by decide) ?_
        refine lv_goto (tgt := 43) hx hb dX9_readSum_39 (by decide) ?_
        refine lv_istore_n (lv' := [(1, .int 1), (0, .ref w)]) hx hb dX9_readSum_43 rfl hl (by decide) rfl (fun ls hl => ?_)
        refine lv_aload_n hx hb dX9_readSum_44 rfl (lv_at hl 1 rfl) ?_
        refine lv_dup hx hb dX9_readSum_45 rfl ?_
        obtain ⟨hb3368, e3368, hat3368, hk3368⟩ := hT.o10 hw.1
        obtain ⟨f3368_0, f3368_1, f3368_3, f3368_4, f3368_5, f3368_6, f3368_7, f3368_9, f3368_10, f3368_11, f3368_12, f3368_13, f3368_14, f3368_15, f3368_16, f3368_17, rfl, c3368_2, c3368_3, c3368_4, c3368_12, t3368_1, t3368_8, t3368_9, c3368_sd, t3368_10, t3368_11, t3368_17⟩ := hk3368
        obtain ⟨rfl, rfl, rfl, rfl, rfl, rfl⟩ := hm.at hat3368 c3368_3 (by omega)
        have hm8 := hm.2.2.2.2.2.2.2
        have hP : va_P D vwCl [(w, .inr (9, [.int f3368_0, .ref bu, .int (nI ((κ w).2.2.1)), .int (nI tl), .int (nI p3332), .int er1, .int f3368_6, .int f3368_7, .ref (κ w).2.2.2, .ref f3368_9, .ref dr, .ref f3368_11, .int (nI f3368_12), .int f3368_13, .int 2, .int f3368_15, .int f3368_16, .ref f3368_17])), (dr, .inl (cs 0, 1383, .inl f3326))] _ := va_P.cons hat3368 hP
        refine va_get (D := D) (ci := 9) (v := .int (nI p3332)) (C := RX9) (T := TX9) (N := 18) hx hb hts iX9_readSum_9 hown hN.1 hP 0 rfl rfl 4 (by decide) (hts _ mX9_readSum_1) (fun _ h9 => h9) rfl dX9_readSum_46 ?_
        refine lv_iconst (v := 1) hx hb dX9_readSum_49 (by decide) ?_
        refine lv_iadd hx hb dX9_readSum_50 ?_
        refine tp_i (nI (p3332 + 1)) (nI_add p3332 1) ?_
        have hB : Bx B0 D _ [(w, .inr (9, [.int f3368_0, .ref bu, .int (nI ((κ w).2.2.1)), .int (nI tl), .int (nI p3332), .int er1, .int f3368_6, .int f3368_7, .ref (κ w).2.2.2, .ref f3368_9, .ref dr, .ref f3368_11, .int (nI f3368_12), .int f3368_13, .int 2, .int f3368_15, .int f3368_16, .ref f3368_17])), (dr, .inl (cs 0, 1383, .inl f3326))] [] _ _ := Bx.of (fun a => (κ a).1) hL hP (fa_c hb3368 (fa_c hbd fa_n)) (by simp only [List.map_cons, List.map_nil, hw.1, hdT.1]; decide)
        refine b_put (D := D) (ci := 9) (v := .int (nI (p3332 + 1))) (ty := .int) (C := RX9) (T := TX9) (N := 18) hx hb hts iX9_readSum_9 tyX9 tyX9_ok nmX9 hown hN hB 0 rfl rfl 4 (by decide) (hts _ mX9_readSum_1) (fun _ h9 => h9) rfl (by decide +kernel) rfl rfl (Nat.le_of_ble_eq_true rfl) (.inl rfl) dX9_readSum_51 (fun H locs hB => ?_)
        have hB : Bx B0 D _ [(w, .inr (9, [.int f3368_0, .ref bu, .int (nI ((κ w).2.2.1)), .int (nI tl), .int (nI (p3332 + 1)), .int er1, .int f3368_6, .int f3368_7, .ref (κ w).2.2.2, .ref f3368_9, .ref dr, .ref f3368_11, .int (nI f3368_12), .int f3368_13, .int 2, .int f3368_15, .int f3368_16, .ref f3368_17])), (dr, .inl (cs 0, 1383, .inl f3326))] [w] _ _ := hB
        refine lv_aload_n hx hb dX9_readSum_54 rfl (lv_at hl 1 rfl) ?_
        have hT : WT B0 D cs T κ _ := hT.close hB ⟨⟨0, _, rfl, ok_10 hw.1 ⟨_, _, _, _, _, _, _, _, _, _, _, _, _, _, _, _, rfl, (by omega), (by omega), (by omega), (by omega), hbT, t3368_8, t3368_9, c3368_sd, hdT, t3368_11, t3368_17⟩⟩, trivial⟩
        have hF : Fr B0 [12, 17] κ H0 _ := hF.close hB (fa_c (by simp [hw.2]) fa_n)
        have hL : OkL B0 _ := hB.2.2.2.2.2
        have hP : va_P D vwCl [(w, .inr (9, [.int f3368_0, .ref bu, .int (nI ((κ w).2.2.1)), .int (nI tl), .int (nI (p3332 + 1)), .int er1, .int f3368_6, .int f3368_7, .ref (κ w).2.2.2, .ref f3368_9, .ref dr, .ref f3368_11, .int (nI f3368_12), .int f3368_13, .int 2, .int f3368_15, .int f3368_16, .ref f3368_17])), (dr, .inl (cs 0, 1383, .inl f3326))] _ := hB.1
        have hbu9 := (hm.2.2.2.2.2.2.1).kept (hB.2.2.2.1 _ hm.2.2.2.2.2.2.1.lt (by simp only [List.mem_cons, List.not_mem_nil, or_false, not_or]; exact ne_c hbT.1 hw.1 (by decide)))
        have hm : MF D cs w _ ((p3332 + 1)) (tl) (er1) (2) dr bu g := ⟨⟨_, hP 0 _ rfl, rfl⟩, ⟨_, hP 0 _ rfl, rfl⟩, ⟨_, hP 0 _ rfl, rfl⟩, ⟨_, hP 0 _ rfl, rfl⟩, ⟨_, hP 0 _ rfl, rfl⟩, ⟨_, hP 0 _ rfl, rfl⟩, hbu9, (by omega), (by omega)⟩
        have hps : PS D cs w _ ((p3332 + 1)) (tl) (er1) (2) dr bu g (N1) ((h + 1)) := ⟨hm, f3326, hP 1 _ rfl, e3326, by omega, v3326⟩
        refine cv_v (As := []) (rest := []) (b := w) ⟨hx, hb, hml, hown, hts⟩ (c_X9_term_d2 hT (w := w) hw hbT hdT hps) (cwV 0 hts gX9_readSum_X9_term rfl rfl rfl hdX9_term_v ⟨Nat.le_of_ble_eq_true rfl, Nat.le_of_ble_eq_true rfl⟩) hN hE hL (rcv10 hN hT hw.1) rfl rfl hl.1 (Nat.le_of_ble_eq_true rfl) dX9_readSum_55 (Nat.zero_le _) (Nat.zero_le _) (fun H1 locs hL hqr3369 => ?_)
        obtain ⟨hT1, hF1, hqr3369⟩ := hqr3369
        have hF := hF.tr (hF1.mono (by simp))
        have hT := hT1
        obtain ⟨N3370, p3371, er3372, a3373, b3374, z3375, m3376, f3377, d3378, e3379, n3380, v3381⟩ := hqr3369
        have hm := m3376
        have hm8 := hm.2.2.2.2.2.2.2
        have hbd : B0 ≤ dr := (hT.o26 hdT.1).1
        have hDR := hT.dr hdT d3378
        have hP : va_P D vwCl [(dr, .inl (cs 0, 1383, .inl f3377))] _ := va_P.cons d3378 va_P.nil
        refine lv_aload_n hx hb dX9_readSum_58 rfl (lv_at hl 1 rfl) ?_
        refine lv_iload_n hx hb dX9_readSum_59 rfl (lv_at hl 0 rfl) ?_
        refine lv_if_eq (tgt := 67) hx hb dX9_readSum_60 (by decide) (fun c9 => absurd c9 (by decide)) (fun _ => ?_)
        refine lv_iconst (v := 2) hx hb dX9_readSum_63 (by decide) ?_
        refine lv_goto (tgt := 68) hx hb dX9_readSum_64 (by decide) ?_
        refine cv_v (As := [.int 2]) (rest := []) (b := w) ⟨hx, hb, hml, hown, hts⟩ (c_X9_emit hT (w := w) hw (x := 2) hbT hdT hm (hP 0 _ rfl) e3379 (fun _ => by omega)) (cwV 1 hts gX9_readSum_X9_emit rfl rfl rfl hdX9_emit_v ⟨Nat.le_of_ble_eq_true rfl, Nat.le_of_ble_eq_true rfl⟩) hN hE hL (rcv10 hN hT hw.1) rfl rfl hl.1 (Nat.le_of_ble_eq_true rfl) dX9_readSum_68 (Nat.zero_le _) (Nat.zero_le _) (fun H1 locs hL hqr3383 => ?_)
        obtain ⟨hT1, hF1, hqr3383⟩ := hqr3383
        have hF := hF.tr (hF1.mono (by simp))
        have hT := hT1
        obtain ⟨f3384, N3385, d3386, e3387, x3388, m3389⟩ := hqr3383
        have hm := m3389
        have hm8 := hm.2.2.2.2.2.2.2
        have nx3388 := x3388.n
        have ox3388 := nx3388.1
        have hbd : B0 ≤ dr := (hT.o26 hdT.1).1
        have hDR := hT.dr hdT d3386
        have hP : va_P D vwCl [(dr, .inl (cs 0, 1383, .inl f3384))] _ := va_P.cons d3386 va_P.nil
        refine lv_goto (tgt := 4) hx hb dX9_readSum_71 (by decide) ?_
        have hps : PS D cs w _ (p3371) (tl) (er3372) (2) dr bu g (N3385) ((h + 1)) := ⟨hm, f3384, hP 0 _ rfl, e3387, by omega, (EM.op x3388 (by decide) v3381)⟩
        exact ih3325 (p3371, N3385, er3372) _ _ _ (by show 600 - (p3371) < 600 - p; omega) ⟨hps, (by show (N3385) + 2 * pos ≤ N + 2 * (p3371); omega), (by show pos ≤ (p3371); omega), (fun e9 => hz1 (z3375 e9)), hT, hF, hL⟩ (lv_sub hl [1] rfl)
    · refine lv_aload_n hx hb dX9_readSum_20 rfl (lv_at hl 0 rfl) ?_
      refine cv_i (As := []) (rest := []) (b := w) ⟨hx, hb, hml, hown, hts⟩ (c_X9_ahead hT (w := w) hw hbT hdT hm) (cwV 0 hts gX9_readSum_X9_ahead rfl rfl rfl hdX9_ahead_v ⟨Nat.le_of_ble_eq_true rfl, Nat.le_of_ble_eq_true rfl⟩) hN hE hL (rcv10 hN hT hw.1) rfl rfl hl.1 (Nat.le_of_ble_eq_true rfl) dX9_readSum_21 (Nat.zero_le _) (Nat.zero_le _) (fun r3391 H1 locs hL hqr3391 => ?_)
      obtain ⟨hT1, hF1, hqr3391⟩ := hqr3391
      have hP : va_P D vwCl [(dr, .inl (cs 0, 1383, .inl f3326))] _ := hF1.hP (hP.sub [0] rfl) (fa_c ⟨by rw [hdT.1]; decide, by rw [hdT.2]; first | decide | (simp; done) | (simp [h15a, h15b, h15c]; done) | (simp; omega)⟩ fa_n)
      have hF := hF.tr (hF1.mono (by simp))
      have hT := hT1
      obtain ⟨p3392, h3393, m3394, n3395, s3396, rfl⟩ := hqr3391
      have hm := m3394
      have hpe := s3396 n3335
      rw [hpe] at hm
      refine tp_i (byF g tl p3332) (by rw [hpe]) ?_
      have hm8 := hm.2.2.2.2.2.2.2
      refine lv_bipush (v := 45) hx hb dX9_readSum_24 (by decide) ?_
      refine lv_icmp_ne (tgt := 74) hx hb dX9_readSum_26 (by decide) (fun c3397 => ?_) (fun c3397 => ?_)
      · have hps : PS D cs w _ (p3332) (tl) (er1) (2) dr bu g (N1) ((h + 1)) := ⟨hm, f3326, hP 0 _ rfl, e3326, by omega, v3326⟩
        exact en_v hx hb hr hlocks hL (Nat.zero_le _) (Nat.zero_le _) dX9_readSum_74 (⟨hT, hF, N1, p3332, er1, (by omega), (by omega), hz1, hps⟩)
      · have hl9 := byF_c (c3397) (by decide)
        refine lv_aload_n hx hb dX9_readSum_29 rfl (lv_at hl 0 rfl) ?_
        refine cv_i (As := []) (rest := []) (b := w) ⟨hx, hb, hml, hown, hts⟩ (c_X9_ahead hT (w := w) hw hbT hdT hm) (cwV 0 hts gX9_readSum_X9_ahead rfl rfl rfl hdX9_ahead_v ⟨Nat.le_of_ble_eq_true rfl, Nat.le_of_ble_eq_true rfl⟩) hN hE hL (rcv10 hN hT hw.1) rfl rfl hl.1 (Nat.le_of_ble_eq_true rfl) dX9_readSum_30 (Nat.zero_le _) (Nat.zero_le _) (fun r3398 H1 locs hL hqr3398 => ?_)
        obtain ⟨hT1, hF1, hqr3398⟩ := hqr3398
        have hP : va_P D vwCl [(dr, .inl (cs 0, 1383, .inl f3326))] _ := hF1.hP (hP.sub [0] rfl) (fa_c ⟨by rw [hdT.1]; decide, by rw [hdT.2]; first | decide | (simp; done) | (simp [h15a, h15b, h15c]; done) | (simp; omega)⟩ fa_n)
        have hF := hF.tr (hF1.mono (by simp))
        have hT := hT1
        obtain ⟨p3399, h3400, m3401, n3402, s3403, rfl⟩ := hqr3398
        have hm := m3401
        have hpe := s3403 n3335
        rw [hpe] at hm
        refine tp_i (byF g tl p3332) (by rw [hpe]) ?_
        have hm8 := hm.2.2.2.2.2.2.2
        refine lv_bipush (v := 43) hx hb dX9_readSum_33 (by decide) ?_
        refine lv_icmp_ne (tgt := 42) hx hb dX9_readSum_35 (by decide) (fun c3404 => ?_) (fun c3404 => ?_)
        · refine lv_iconst (v := 0) hx hb dX9_readSum_42 (by decide) ?_
          refine lv_istore_n (lv' := [(1, .int 0), (0, .ref w)]) hx hb dX9_readSum_43 rfl hl (by decide) rfl (fun ls hl => ?_)
          refine lv_aload_n hx hb dX9_readSum_44 rfl (lv_at hl 1 rfl) ?_
          refine lv_dup hx hb dX9_readSum_45 rfl ?_
          obtain ⟨hb3405, e3405, hat3405, hk3405⟩ := hT.o10 hw.1
          obtain ⟨f3405_0, f3405_1, f3405_3, f3405_4, f3405_5, f3405_6, f3405_7, f3405_9, f3405_10, f3405_11, f3405_12, f3405_13, f3405_14, f3405_15, f3405_16, f3405_17, rfl, c3405_2, c3405_3, c3405_4, c3405_12, t3405_1, t3405_8, t3405_9, c3405_sd, t3405_10, t3405_11, t3405_17⟩ := hk3405
          obtain ⟨rfl, rfl, rfl, rfl, rfl, rfl⟩ := hm.at hat3405 c3405_3 (by omega)
          have hm8 := hm.2.2.2.2.2.2.2
          have hP : va_P D vwCl [(w, .inr (9, [.int f3405_0, .ref bu, .int (nI ((κ w).2.2.1)), .int (nI tl), .int (nI p3332), .int er1, .int f3405_6, .int f3405_7, .ref (κ w).2.2.2, .ref f3405_9, .ref dr, .ref f3405_11, .int (nI f3405_12), .int f3405_13, .int 2, .int f3405_15, .int f3405_16, .ref f3405_17])), (dr, .inl (cs 0, 1383, .inl f3326))] _ := va_P.cons hat3405 hP
          refine va_get (D := D) (ci := 9) (v := .int (nI p3332)) (C := RX9) (T := TX9) (N := 18) hx hb hts iX9_readSum_9 hown hN.1 hP 0 rfl rfl 4 (by decide) (hts _ mX9_readSum_1) (fun _ h9 => h9) rfl dX9_readSum_46 ?_
          refine lv_iconst (v := 1) hx hb dX9_readSum_49 (by decide) ?_
          refine lv_iadd hx hb dX9_readSum_50 ?_
          refine tp_i (nI (p3332 + 1)) (nI_add p3332 1) ?_
          have hB : Bx B0 D _ [(w, .inr (9, [.int f3405_0, .ref bu, .int (nI ((κ w).2.2.1)), .int (nI tl), .int (nI p3332), .int er1, .int f3405_6, .int f3405_7, .ref (κ w).2.2.2, .ref f3405_9, .ref dr, .ref f3405_11, .int (nI f3405_12), .int f3405_13, .int 2, .int f3405_15, .int f3405_16, .ref f3405_17])), (dr, .inl (cs 0, 1383, .inl f3326))] [] _ _ := Bx.of (fun a => (κ a).1) hL hP (fa_c hb3405 (fa_c hbd fa_n)) (by simp only [List.map_cons, List.map_nil, hw.1, hdT.1]; decide)
          refine b_put (D := D) (ci := 9) (v := .int (nI (p3332 + 1))) (ty := .int) (C := RX9) (T := TX9) (N := 18) hx hb hts iX9_readSum_9 tyX9 tyX9_ok nmX9 hown hN hB 0 rfl rfl 4 (by decide) (hts _ mX9_readSum_1) (fun _ h9 => h9) rfl (by decide +kernel) rfl rfl (Nat.le_of_ble_eq_true rfl) (.inl rfl) dX9_readSum_51 (fun H locs hB => ?_)
          have hB : Bx B0 D _ [(w, .inr (9, [.int f3405_0, .ref bu, .int (nI ((κ w).2.2.1)), .int (nI tl), .int (nI (p3332 + 1)), .int er1, .int f3405_6, .int f3405_7, .ref (κ w).2.2.2, .ref f3405_9, .ref dr, .ref f3405_11, .int (nI f3405_12), .int f3405_13, .int 2, .int f3405_15, .int f3405_16, .ref f3405_17])), (dr, .inl (cs 0, 1383, .inl f3326))] [w] _ _ := hB
          refine lv_aload_n hx hb dX9_readSum_54 rfl (lv_at hl 1 rfl) ?_
          have hT : WT B0 D cs T κ _ := hT.close hB ⟨⟨0, _, rfl, ok_10 hw.1 ⟨_, _, _, _, _, _, _, _, _, _, _, _, _, _, _, _, rfl, (by omega), (by omega), (by omega), (by omega), hbT, t3405_8, t3405_9, c3405_sd, hdT, t3405_11, t3405_17⟩⟩, trivial⟩
          have hF : Fr B0 [12, 17] κ H0 _ := hF.close hB (fa_c (by simp [hw.2]) fa_n)
          have hL : OkL B0 _ := hB.2.2.2.2.2
          have hP : va_P D vwCl [(w, .inr (9, [.int f3405_0, .ref bu, .int (nI ((κ w).2.2.1)), .int (nI tl), .int (nI (p3332 + 1)), .int er1, .int f3405_6, .int f3405_7, .ref (κ w).2.2.2, .ref f3405_9, .ref dr, .ref f3405_11, .int (nI f3405_12), .int f3405_13, .int 2, .int f3405_15, .int f3405_16, .ref f3405_17])), (dr, .inl (cs 0, 1383, .inl f3326))] _ := hB.1
          have hbu9 := (hm.2.2.2.2.2.2.1).kept (hB.2.2.2.1 _ hm.2.2.2.2.2.2.1.lt (by simp only [List.mem_cons, List.not_mem_nil, or_false, not_or]; exact ne_c hbT.1 hw.1 (by decide)))
          have hm : MF D cs w _ ((p3332 + 1)) (tl) (er1) (2) dr bu g := ⟨⟨_, hP 0 _ rfl, rfl⟩, ⟨_, hP 0 _ rfl, rfl⟩, ⟨_, hP 0 _ rfl, rfl⟩, ⟨_, hP 0 _ rfl, rfl⟩, ⟨_, hP 0 _ rfl, rfl⟩, ⟨_, hP 0 _ rfl, rfl⟩, hbu9, (by omega), (by omega)⟩
          have hps : PS D cs w _ ((p3332 + 1)) (tl) (er1) (2) dr bu g (N1) ((h + 1)) := ⟨hm, f3326, hP 1 _ rfl, e3326, by omega, v3326⟩
          refine cv_v (As := []) (rest := []) (b := w) ⟨hx, hb, hml, hown, hts⟩ (c_X9_term_d2 hT (w := w) hw hbT hdT hps) (cwV 0 hts gX9_readSum_X9_term rfl rfl rfl hdX9_term_v ⟨Nat.le_of_ble_eq_true rfl, Nat.le_of_ble_eq_true rfl⟩) hN hE hL (rcv10 hN hT hw.1) rfl rfl hl.1 (Nat.le_of_ble_eq_true rfl) dX9_readSum_55 (Nat.zero_le _) (Nat.zero_le _) (fun H1 locs hL hqr3406 => ?_)
          obtain ⟨hT1, hF1, hqr3406⟩ := hqr3406
          have hF := hF.tr (hF1.mono (by simp))
          have hT := hT1
          obtain ⟨N3407, p3408, er3409, a3410, b3411, z3412, m3413, f3414, d3415, e3416, n3417, v3418⟩ := hqr3406
          have hm := m3413
          have hm8 := hm.2.2.2.2.2.2.2
          have hbd : B0 ≤ dr := (hT.o26 hdT.1).1
          have hDR := hT.dr hdT d3415
          have hP : va_P D vwCl [(dr, .inl (cs 0, 1383, .inl f3414))] _ := va_P.cons d3415 va_P.nil
          refine lv_aload_n hx hb dX9_readSum_58 rfl (lv_at hl 1 rfl) ?_
          refine lv_iload_n hx hb dX9_readSum_59 rfl (lv_at hl 0 rfl) ?_
          refine lv_if_eq (tgt := 67) hx hb dX9_readSum_60 (by decide) (fun _ => ?_) (fun c9 => absurd (by decide) c9)
          refine lv_iconst (v := 3) hx hb dX9_readSum_67 (by decide) ?_
          refine cv_v (As := [.int 3]) (rest := []) (b := w) ⟨hx, hb, hml, hown, hts⟩ (c_X9_emit hT (w := w) hw (x := 3) hbT hdT hm (hP 0 _ rfl) e3416 (fun _ => by omega)) (cwV 1 hts gX9_readSum_X9_emit rfl rfl rfl hdX9_emit_v ⟨Nat.le_of_ble_eq_true rfl, Nat.le_of_ble_eq_true rfl⟩) hN hE hL (rcv10 hN hT hw.1) rfl rfl hl.1 (Nat.le_of_ble_eq_true rfl) dX9_readSum_68 (Nat.zero_le _) (Nat.zero_le _) (fun H1 locs hL hqr3420 => ?_)
          obtain ⟨hT1, hF1, hqr3420⟩ := hqr3420
          have hF := hF.tr (hF1.mono (by simp))
          have hT := hT1
          obtain ⟨f3421, N3422, d3423, e3424, x3425, m3426⟩ := hqr3420
          have hm := m3426
          have hm8 := hm.2.2.2.2.2.2.2
          have nx3425 := x3425.n
          have ox3425 := nx3425.1
          have hbd : B0 ≤ dr := (hT.o26 hdT.1).1
          have hDR := hT.dr hdT d3423
          have hP : va_P D vwCl [(dr, .inl (cs 0, 1383, .inl f3421))] _ := va_P.cons d3423 va_P.nil
          refine lv_goto (tgt := 4) hx hb dX9_readSum_71 (by decide) ?_
          have hps : PS D cs w _ (p3408) (tl) (er3409) (2) dr bu g (N3422) ((h + 1)) := ⟨hm, f3421, hP 0 _ rfl, e3424, by omega, (EM.op x3425 (by decide) v3418)⟩
          exact ih3325 (p3408, N3422, er3409) _ _ _ (by show 600 - (p3408) < 600 - p; omega) ⟨hps, (by show (N3422) + 2 * pos ≤ N + 2 * (p3408); omega), (by show pos ≤ (p3408); omega), (fun e9 => hz1 (z3412 e9)), hT, hF, hL⟩ (lv_sub hl [1] rfl)
        · refine lv_iconst (v := 1) hx hb dX9_readSum_38 (by decide) ?_
          refine lv_goto (tgt := 43) hx hb dX9_readSum_39 (by decide) ?_
          refine lv_istore_n (lv' := [(1, .int 1), (0, .ref w)]) hx hb dX9_readSum_43 rfl hl (by decide) rfl (fun ls hl => ?_)
          refine lv_aload_n hx hb dX9_readSum_44 rfl (lv_at hl 1 rfl) ?_
          refine lv_dup hx hb dX9_readSum_45 rfl ?_
          obtain ⟨hb3428, e3428, hat3428, hk3428⟩ := hT.o10 hw.1
          obtain ⟨f3428_0, f3428_1, f3428_3, f3428_4, f3428_5, f3428_6, f3428_7, f3428_9, f3428_10, f3428_11, f3428_12, f3428_13, f3428_14, f3428_15, f3428_16, f3428_17, rfl, c3428_2, c3428_3, c3428_4, c3428_12, t3428_1, t3428_8, t3428_9, c3428_sd, t3428_10, t3428_11, t3428_17⟩ := hk3428
          obtain ⟨rfl, rfl, rfl, rfl, rfl, rfl⟩ := hm.at hat3428 c3428_3 (by omega)
          have hm8 := hm.2.2.2.2.2.2.2
          have hP : va_P D vwCl [(w, .inr (9, [.int f3428_0, .ref bu, .int (nI ((κ w).2.2.1)), .int (nI tl), .int (nI p3332), .int er1, .int f3428_6, .int f3428_7, .ref (κ w).2.2.2, .ref f3428_9, .ref dr, .ref f3428_11, .int (nI f3428_12), .int f3428_13, .int 2, .int f3428_15, .int f3428_16, .ref f3428_17])), (dr, .inl (cs 0, 1383, .inl f3326))] _ := va_P.cons hat3428 hP
          refine va_get (D := D) (ci := 9) (v := .int (nI p3332)) (C := RX9) (T := TX9) (N := 18) hx hb hts iX9_readSum_9 hown hN.1 hP 0 rfl rfl 4 (by decide) (hts _ mX9_readSum_1) (fun _ h9 => h9) rfl dX9_readSum_46 ?_
          refine lv_iconst (v := 1) hx hb dX9_readSum_49 (by decide) ?_
          refine lv_iadd hx hb dX9_readSum_50 ?_
          refine tp_i (nI (p3332 + 1)) (nI_add p3332 1) ?_
          have hB : Bx B0 D _ [(w, .inr (9, [.int f3428_0, .ref bu, .int (nI ((κ w).2.2.1)), .int (nI tl), .int (nI p3332), .int er1, .int f3428_6, .int f3428_7, .ref (κ w).2.2.2, .ref f3428_9, .ref dr, .ref f3428_11, .int (nI f3428_12), .int f3428_13, .int 2, .int f3428_15, .int f3428_16, .ref f3428_17])), (dr, .inl (cs 0, 1383, .inl f3326))] [] _ _ := Bx.of (fun a => (κ a).1) hL hP (fa_c hb3428 (fa_c hbd fa_n)) (by simp only [List.map_cons, List.map_nil, hw.1, hdT.1]; decide)
          refine b_put (D := D) (ci := 9) (v := .int (nI (p3332 + 1))) (ty := .int) (C := RX9) (T := TX9) (N := 18) hx hb hts iX9_readSum_9 tyX9 tyX9_ok nmX9 hown hN hB 0 rfl rfl 4 (by decide) (hts _ mX9_readSum_1) (fun _ h9 => h9) rfl (by decide +kernel) rfl rfl (Nat.le_of_ble_eq_true rfl) (.inl rfl) dX9_readSum_51 (fun H locs hB => ?_)
          have hB : Bx B0 D _ [(w, .inr (9, [.int f3428_0, .ref bu, .int (nI ((κ w).2.2.1)), .int (nI tl), .int (nI (p3332 + 1)), .int er1, .int f3428_6, .int f3428_7, .ref (κ w).2.2.2, .ref f3428_9, .ref dr, .ref f3428_11, .int (nI f3428_12), .int f3428_13, .int 2, .int f3428_15, .int f3428_16, .ref f3428_17])), (dr, .inl (cs 0, 1383, .inl f3326))] [w] _ _ := hB
          refine lv_aload_n hx hb dX9_readSum_54 rfl (lv_at hl 1 rfl) ?_
          have hT : WT B0 D cs T κ _ := hT.close hB ⟨⟨0, _, rfl, ok_10 hw.1 ⟨_, _, _, _, _, _, _, _, _, _, _, _, _, _, _, _, rfl, (by omega), (by omega), (by omega), (by omega), hbT, t3428_8, t3428_9, c3428_sd, hdT, t3428_11, t3428_17⟩⟩, trivial⟩
          have hF : Fr B0 [12, 17] κ H0 _ := hF.close hB (fa_c (by simp [hw.2]) fa_n)
          have hL : OkL B0 _ := hB.2.2.2.2.2
          have hP : va_P D vwCl [(w, .inr (9, [.int f3428_0, .ref bu, .int (nI ((κ w).2.2.1)), .int (nI tl), .int (nI (p3332 + 1)), .int er1, .int f3428_6, .int f3428_7, .ref (κ w).2.2.2, .ref f3428_9, .ref dr, .ref f3428_11, .int (nI f3428_12), .int f3428_13, .int 2, .int f3428_15, .int f3428_16, .ref f3428_17])), (dr, .inl (cs 0, 1383, .inl f3326))] _ := hB.1
          have hbu9 := (hm.2.2.2.2.2.2.1).kept (hB.2.2.2.1 _ hm.2.2.2.2.2.2.1.lt (by simp only [List.mem_cons, List.not_mem_nil, or_false, not_or]; exact ne_c hbT.1 hw.1 (by decide)))
          have hm : MF D cs w _ ((p3332 + 1)) (tl) (er1) (2) dr bu g := ⟨⟨_, hP 0 _ rfl, rfl⟩, ⟨_, hP 0 _ rfl, rfl⟩, ⟨_, hP 0 _ rfl, rfl⟩, ⟨_, hP 0 _ rfl, rfl⟩, ⟨_, hP 0 _ rfl, rfl⟩, ⟨_, hP 0 _ rfl, rfl⟩, hbu9, (by omega), (by omega)⟩
          have hps : PS D cs w _ ((p3332 + 1)) (tl) (er1) (2) dr bu g (N1) ((h + 1)) := ⟨hm, f3326, hP 1 _ rfl, e3326, by omega, v3326⟩
          refine cv_v (As := []) (rest := []) (b := w) ⟨hx, hb, hml, hown, hts⟩ (c_X9_term_d2 hT (w := w) hw hbT hdT hps) (cwV 0 hts gX9_readSum_X9_term rfl rfl rfl hdX9_term_v ⟨Nat.le_of_ble_eq_true rfl, Nat.le_of_ble_eq_true rfl⟩) hN hE hL (rcv10 hN hT hw.1) rfl rfl hl.1 (Nat.le_of_ble_eq_true rfl) dX9_readSum_55 (Nat.zero_le _) (Nat.zero_le _) (fun H1 locs hL hqr3429 => ?_)
          obtain ⟨hT1, hF1, hqr3429⟩ := hqr3429
          have hF := hF.tr (hF1.mono (by simp))
          have hT := hT1
          obtain ⟨N3430, p3431, er3432, a3433, b3434, z3435, m3436, f3437, d3438, e3439, n3440, v3441⟩ := hqr3429
          have hm := m3436
          have hm8 := hm.2.2.2.2.2.2.2
          have hbd : B0 ≤ dr := (hT.o26 hdT.1).1
          have hDR := hT.dr hdT d3438
          have hP : va_P D vwCl [(dr, .inl (cs 0, 1383, .inl f3437))] _ := va_P.cons d3438 va_P.nil
          refine lv_aload_n hx hb dX9_readSum_58 rfl (lv_at hl 1 rfl) ?_
          refine lv_iload_n hx hb dX9_readSum_59 rfl (lv_at hl 0 rfl) ?_
          refine lv_if_eq (tgt := 67) hx hb dX9_readSum_60 (by decide) (fun c9 => absurd c9 (by decide)) (fun _ => ?_)
          refine lv_iconst (v := 2) hx hb dX9_readSum_63 (by decide) ?_
          refine lv_goto (tgt := 68) hx hb dX9_readSum_64 (by decide) ?_
          refine cv_v (As := [.int 2]) (rest := []) (b := w) ⟨hx, hb, hml, hown, hts⟩ (c_X9_emit hT (w := w) hw (x := 2) hbT hdT hm (hP 0 _ rfl) e3439 (fun _ => by omega)) (cwV 1 hts gX9_readSum_X9_emit rfl rfl rfl hdX9_emit_v ⟨Nat.le_of_ble_eq_true rfl, Nat.le_of_ble_eq_true rfl⟩) hN hE hL (rcv10 hN hT hw.1) rfl rfl hl.1 (Nat.le_of_ble_eq_true rfl) dX9_readSum_68 (Nat.zero_le _) (Nat.zero_le _) (fun H1 locs hL hqr3443 => ?_)
          obtain ⟨hT1, hF1, hqr3443⟩ := hqr3443
          have hF := hF.tr (hF1.mono (by simp))
          have hT := hT1
          obtain ⟨f3444, N3445, d3446, e3447, x3448, m3449⟩ := hqr3443
          have hm := m3449
          have hm8 := hm.2.2.2.2.2.2.2
          have nx3448 := x3448.n
          have ox3448 := nx3448.1
          have hbd : B0 ≤ dr := (hT.o26 hdT.1).1
          have hDR := hT.dr hdT d3446
          have hP : va_P D vwCl [(dr, .inl (cs 0, 1383, .inl f3444))] _ := va_P.cons d3446 va_P.nil
          refine lv_goto (tgt := 4) hx hb dX9_readSum_71 (by decide) ?_
          have hps : PS D cs w _ (p3431) (tl) (er3432) (2) dr bu g (N3445) ((h + 1)) := ⟨hm, f3444, hP 0 _ rfl, e3447, by omega, (EM.op x3448 (by decide) v3441)⟩
          exact ih3325 (p3431, N3445, er3432) _ _ _ (by show 600 - (p3431) < 600 - p; omega) ⟨hps, (by show (N3445) + 2 * pos ≤ N + 2 * (p3431); omega), (by show pos ≤ (p3431); omega), (fun e9 => hz1 (z3435 e9)), hT, hF, hL⟩ (lv_sub hl [1] rfl)
  · refine lv_if_eq (tgt := 74) hx hb dX9_readSum_8 (by decide) (fun _ => ?_) (fun c9 => absurd (by decide) c9)
    have hps : PS D cs w _ (p) (tl) (er1) (2) dr bu g (N1) ((h + 1)) := ⟨hm, f3326, hP 0 _ rfl, e3326, by omega, v3326⟩
    exact en_v hx hb hr hlocks hL (Nat.zero_le _) (Nat.zero_le _) dX9_readSum_74 (⟨hT, hF, N1, p, er1, (by omega), (by omega), hz1, hps⟩)
set_option maxHeartbeats 4000000 in
set_option maxRecDepth 100000 in
theorem c_X9_factor_d1 {l : Launch} {D : va_G} {cs : Nat → ClassId} {B0 T : Nat} {κ : KM} {H0 : Heap} (hT : WT B0 D cs T κ H0) {w : Nat} (hw : T2 κ w 10 12) {pos tl : Nat} {er : Int32} {dr bu : Nat} {g : Nat → Int32} {N h : Nat} (hbT : T2 κ bu 23 14) (hdT : T2 κ dr 26 17) (hps : PS D cs w H0 pos tl er 1 dr bu g N h) : KC l yX9_factor wsX9_factor 14 302 0 0 D cs B0 H0 [.ref w] (Qv (fun H => WT B0 D cs T κ H ∧ Fr B0 [12, 17] κ H0 H ∧ ∃ N1 pos1 er1, N1 + 2 * pos ≤ N + 2 * pos1 ∧ pos ≤ pos1 ∧ (er1 = 0 → er = 0) ∧ PS D cs w H pos1 tl er1 1 dr bu g N1 (h + 1))) := by
  refine KC.of cX9_factor 4 none (by decide) rfl (Nat.le_of_ble_eq_true rfl) ?_
  intro p e s m below meth c ls hx hb hr hml hown hts hlocks hin hN hE hH0 hl
  have hown : s.vm.findClass RX9 = some m.cls := hown
  have hl : lv_has ls 4 [(0, .ref w)] := hl
  have hL : OkL B0 [] := OkL.nil
  have hF : Fr B0 [12, 17] κ H0 H0 := Fr.rf
  obtain ⟨hm, f3451, hd3451, e3451, n3451, v3451⟩ := hps
  have hm8 := hm.2.2.2.2.2.2.2
  have hbd : B0 ≤ dr := (hT.o26 hdT.1).1
  have hDR := hT.dr hdT hd3451
  have hP : va_P D vwCl [(dr, .inl (cs 0, 1383, .inl f3451))] _ := va_P.cons hd3451 va_P.nil
  refine lv_aload_n hx hb dX9_factor_0 rfl (lv_at hl 0 rfl) ?_
  refine cv_i (As := []) (rest := []) (b := w) ⟨hx, hb, hml, hown, hts⟩ (c_X9_isGood hT (w := w) hw hbT hdT hm) (cwV 0 hts gX9_factor_X9_isGood rfl rfl rfl hdX9_isGood_v ⟨Nat.le_of_ble_eq_true rfl, Nat.le_of_ble_eq_true rfl⟩) hN hE hL (rcv10 hN hT hw.1) rfl rfl hl.1 (Nat.le_of_ble_eq_true rfl) dX9_factor_1 (Nat.zero_le _) (Nat.zero_le _) (fun r3453 H1 locs hL hqr3453 => ?_)
  obtain ⟨h9, hqr3453⟩ := hqr3453; replace h9 := h9.symm; subst h9
  rcases hqr3453 with ⟨rfl, e3454⟩ | ⟨rfl, e3455⟩
  · refine lv_if_ne (tgt := 8) hx hb dX9_factor_4 (by decide) (fun _ => ?_) (fun c9 => absurd c9 (by decide))
    refine lv_aload_n hx hb dX9_factor_8 rfl (lv_at hl 0 rfl) ?_
    refine cv_i (As := []) (rest := []) (b := w) ⟨hx, hb, hml, hown, hts⟩ (c_X9_ahead hT (w := w) hw hbT hdT hm) (cwV 0 hts gX9_factor_X9_ahead rfl rfl rfl hdX9_ahead_v ⟨Nat.le_of_ble_eq_true rfl, Nat.le_of_ble_eq_true rfl⟩) hN hE hL (rcv10 hN hT hw.1) rfl rfl hl.1 (Nat.le_of_ble_eq_true rfl) dX9_factor_9 (Nat.zero_le _) (Nat.zero_le _) (fun r3456 H1 locs hL hqr3456 => ?_)
    obtain ⟨hT1, hF1, hqr3456⟩ := hqr3456
    have hP : va_P D vwCl [(dr, .inl (cs 0, 1383, .inl f3451))] _ := hF1.hP (hP.sub [0] rfl) (fa_c ⟨by rw [hdT.1]; decide, by rw [hdT.2]; first | decide | (simp; done) | (simp [h15a, h15b, h15c]; done) | (simp; omega)⟩ fa_n)
    have hF := hF.tr (hF1.mono (by simp))
    have hT := hT1
    obtain ⟨p3457, h3458, m3459, n3460, s3461, rfl⟩ := hqr3456
    have hm := m3459
    have hm8 := hm.2.2.2.2.2.2.2
    refine lv_istore_n (lv' := [(1, .int (byF g tl p3457)), (0, .ref w)]) hx hb dX9_factor_12 rfl hl (by decide) rfl (fun ls hl => ?_)
    refine lv_iload_n hx hb dX9_factor_13 rfl (lv_at hl 0 rfl) ?_
    refine lv_bipush (v := 40) hx hb dX9_factor_14 (by decide) ?_
    refine lv_icmp_ne (tgt := 78) hx hb dX9_factor_16 (by decide) (fun c3462 => ?_) (fun c3462 => ?_)
    · refine lv_iload_n hx hb dX9_factor_78 rfl (lv_at hl 0 rfl) ?_
      refine cs_i (As := [.int (byF g tl p3457)]) (rest := []) ⟨hx, hb, hml, hown, hts⟩ (c_X9_isDigit hT (x := (byF g tl p3457))) (va_cwS 1 hts gX9_factor_X9_isDigit rfl rfl rfl hdX9_isDigit_o ⟨Nat.le_of_ble_eq_true rfl, Nat.le_of_ble_eq_true rfl⟩) hN hE hL rfl rfl hl.1 (Nat.le_of_ble_eq_true rfl) dX9_factor_79 (Nat.zero_le _) (Nat.zero_le _) (fun r3463 H1 locs hL hqr3463 => ?_)
      obtain ⟨h9, hqr3463⟩ := hqr3463; replace h9 := h9.symm; subst h9
      rcases hqr3463 with ⟨rfl, o3464⟩ | ⟨rfl, l3465, g3466⟩
      · refine lv_if_eq (tgt := 89) hx hb dX9_factor_82 (by decide) (fun _ => ?_) (fun c9 => absurd (by decide) c9)
        refine lv_aload_n hx hb dX9_factor_89 rfl (lv_at hl 1 rfl) ?_
        refine va_ldcS hx hb hown (hN.s 19 rfl) dX9_factor_90 ?_
        refine cv_i (As := [.ref (cs 119)]) (rest := []) (b := w) ⟨hx, hb, hml, hown, hts⟩ (c_X9_takeWord hT (w := w) hw (i := 19) (by decide) hbT hdT hm) (cwV 1 hts gX9_factor_X9_takeWord rfl rfl rfl hdX9_takeWord_v ⟨Nat.le_of_ble_eq_true rfl, Nat.le_of_ble_eq_true rfl⟩) hN hE hL (rcv10 hN hT hw.1) rfl rfl hl.1 (Nat.le_of_ble_eq_true rfl) dX9_factor_92 (Nat.zero_le _) (Nat.zero_le _) (fun r3467 H1 locs hL hqr3467 => ?_)
        obtain ⟨hT1, hF1, hqr3467⟩ := hqr3467
        have hP : va_P D vwCl [(dr, .inl (cs 0, 1383, .inl f3451))] _ := hF1.hP (hP.sub [0] rfl) (fa_c ⟨by rw [hdT.1]; decide, by rw [hdT.2]; first | decide | (simp; done) | (simp [h15a, h15b, h15c]; done) | (simp; omega)⟩ fa_n)
        have hF := hF.tr (hF1.mono (by simp))
        have hT := hT1
        rcases hqr3467 with ⟨rfl, p3468, h3469, m3470⟩ | ⟨rfl, p3471, q3472, e3473, m3474⟩
        · have hm := m3470
          have hm8 := hm.2.2.2.2.2.2.2
          refine lv_if_eq (tgt := 102) hx hb dX9_factor_95 (by decide) (fun _ => ?_) (fun c9 => absurd (by decide) c9)
          refine lv_aload_n hx hb dX9_factor_102 rfl (lv_at hl 1 rfl) ?_
          refine va_ldcS hx hb hown (hN.s 25 rfl) dX9_factor_103 ?_
          refine cv_i (As := [.ref (cs 125)]) (rest := []) (b := w) ⟨hx, hb, hml, hown, hts⟩ (c_X9_takeWord hT (w := w) hw (i := 25) (by decide) hbT hdT hm) (cwV 1 hts gX9_factor_X9_takeWord rfl rfl rfl hdX9_takeWord_v ⟨Nat.le_of_ble_eq_true rfl, Nat.le_of_ble_eq_true rfl⟩) hN hE hL (rcv10 hN hT hw.1) rfl rfl hl.1 (Nat.le_of_ble_eq_true rfl) dX9_factor_105 (Nat.zero_le _) (Nat.zero_le _) (fun r3475 H1 locs hL hqr3475 => ?_)
          obtain ⟨hT1, hF1, hqr3475⟩ := hqr3475
          have hP : va_P D vwCl [(dr, .inl (cs 0, 1383, .inl f3451))] _ := hF1.hP (hP.sub [0] rfl) (fa_c ⟨by rw [hdT.1]; decide, by rw [hdT.2]; first | decide | (simp; done) | (simp [h15a, h15b, h15c]; done) | (simp; omega)⟩ fa_n)
          have hF := hF.tr (hF1.mono (by simp))
          have hT := hT1
          rcases hqr3475 with ⟨rfl, p3476, h3477, m3478⟩ | ⟨rfl, p3479, q3480, e3481, m3482⟩
          · have hm := m3478
            have hm8 := hm.2.2.2.2.2.2.2
            refine lv_if_eq (tgt := 115) hx hb dX9_factor_108 (by decide) (fun _ => ?_) (fun c9 => absurd (by decide) c9)
            refine lv_aload_n hx hb dX9_factor_115 rfl (lv_at hl 1 rfl) ?_
            refine va_ldcS hx hb hown (hN.s 26 rfl) dX9_factor_116 ?_
            refine cv_i (As := [.ref (cs 126)]) (rest := []) (b := w) ⟨hx, hb, hml, hown, hts⟩ (c_X9_takeWord hT (w := w) hw (i := 26) (by decide) hbT hdT hm) (cwV 1 hts gX9_factor_X9_takeWord rfl rfl rfl hdX9_takeWord_v ⟨Nat.le_of_ble_eq_true rfl, Nat.le_of_ble_eq_true rfl⟩) hN hE hL (rcv10 hN hT hw.1) rfl rfl hl.1 (Nat.le_of_ble_eq_true rfl) dX9_factor_118 (Nat.zero_le _) (Nat.zero_le _) (fun r3483 H1 locs hL hqr3483 => ?_)
            obtain ⟨hT1, hF1, hqr3483⟩ := hqr3483
            have hP : va_P D vwCl [(dr, .inl (cs 0, 1383, .inl f3451))] _ := hF1.hP (hP.sub [0] rfl) (fa_c ⟨by rw [hdT.1]; decide, by rw [hdT.2]; first | decide | (simp; done) | (simp [h15a, h15b, h15c]; done) | (simp; omega)⟩ fa_n)
            have hF := hF.tr (hF1.mono (by simp))
            have hT := hT1
            rcases hqr3483 with ⟨rfl, p3484, h3485, m3486⟩ | ⟨rfl, p3487, q3488, e3489, m3490⟩
            · have hm := m3486
              have hm8 := hm.2.2.2.2.2.2.2
              refine lv_if_eq (tgt := 128) hx hb dX9_factor_121 (by decide) (fun _ => ?_) (fun c9 => absurd (by decide) c9)
              refine lv_aload_n hx hb dX9_factor_128 rfl (lv_at hl 1 rfl) ?_
              refine va_ldcS hx hb hown (hN.s 27 rfl) dX9_factor_129 ?_
              refine cv_i (As := [.ref (cs 127)]) (rest := []) (b := w) ⟨hx, hb, hml, hown, hts⟩ (c_X9_takeWord hT (w := w) hw (i := 27) (by decide) hbT hdT hm) (cwV 1 hts gX9_factor_X9_takeWord rfl rfl rfl hdX9_takeWord_v ⟨Nat.le_of_ble_eq_true rfl, Nat.le_of_ble_eq_true rfl⟩) hN hE hL (rcv10 hN hT hw.1) rfl rfl hl.1 (Nat.le_of_ble_eq_true rfl) dX9_factor_131 (Nat.zero_le _) (Nat.zero_le _) (fun r3491 H1 locs hL hqr3491 => ?_)
              obtain ⟨hT1, hF1, hqr3491⟩ := hqr3491
              have hP : va_P D vwCl [(dr, .inl (cs 0, 1383, .inl f3451))] _ := hF1.hP (hP.sub [0] rfl) (fa_c ⟨by rw [hdT.1]; decide, by rw [hdT.2]; first | decide | (simp; done) | (simp [h15a, h15b, h15c]; done) | (simp; omega)⟩ fa_n)
              have hF := hF.tr (hF1.mono (by simp))
              have hT := hT1
              rcases hqr3491 with ⟨rfl, p3492, h3493, m3494⟩ | ⟨rfl, p3495, q3496, e3497, m3498⟩
              · have hm := m3494
                have hm8 := hm.2.2.2.2.2.2.2
                refine lv_if_eq (tgt := 141) hx hb dX9_factor_134 (by decide) (fun _ => ?_) (fun c9 => absurd (by decide) c9)
                refine lv_iconst (v := (-1)) hx hb dX9_factor_141 (by decide) ?_
                refine lv_istore_n (lv' := [(2, .int (-1)), (1, .int (byF g tl p3457)), (0, .ref w)]) hx hb dX9_factor_142 rfl hl (by decide) rfl (fun ls hl => ?_)
                refine lv_iload_n hx hb dX9_factor_143 rfl (lv_at hl 0 rfl) ?_
                refine lv_if_ge (tgt := 158) hx hb dX9_factor_144 (by decide) (fun c9 => absurd c9 (by decide)) (fun _ => ?_)
                refine lv_aload_n hx hb dX9_factor_147 rfl (lv_at hl 2 rfl) ?_
                refine lv_iconst (v := 0) hx hb dX9_factor_148 (by decide) ?_
                refine lv_sipush (v := 9999) hx hb dX9_factor_149 (by decide) ?_
                refine cv_i (As := [.int 0, .int 9999]) (rest := []) (b := w) ⟨hx, hb, hml, hown, hts⟩ (c_X9_number hT (w := w) hw (x := 0) (y := 9999) hbT hdT hm) (cwV 2 hts gX9_factor_X9_number rfl rfl rfl hdX9_number_v ⟨Nat.le_of_ble_eq_true rfl, Nat.le_of_ble_eq_true rfl⟩) hN hE hL (rcv10 hN hT hw.1) rfl rfl hl.1 (Nat.le_of_ble_eq_true rfl) dX9_factor_152 (Nat.zero_le _) (Nat.zero_le _) (fun r3499 H1 locs hL hqr3499 => ?_)
                obtain ⟨hT1, hF1, hqr3499⟩ := hqr3499
                have hP : va_P D vwCl [(dr, .inl (cs 0, 1383, .inl f3451))] _ := hF1.hP (hP.sub [0] rfl) (fa_c ⟨by rw [hdT.1]; decide, by rw [hdT.2]; first | decide | (simp; done) | (simp [h15a, h15b, h15c]; done) | (simp; omega)⟩ fa_n)
                have hF := hF.tr (hF1.mono (by simp))
                have hT := hT1
                obtain ⟨p3500, er3501, a3502, z3503, m3504, q3505⟩ := hqr3499
                have hm := m3504
                have hm8 := hm.2.2.2.2.2.2.2
                refine lv_goto (tgt := 159) hx hb dX9_factor_155 (by decide) ?_
                refine lv_istore_n (lv' := [(3, .int r3499), (2, .int (-1)), (1, .int (byF g tl p3457)), (0, .ref w)]) hx hb dX9_factor_159 rfl hl (by decide) rfl (fun ls hl => ?_)
                refine lv_aload_n hx hb dX9_factor_160 rfl (lv_at hl 3 rfl) ?_
                refine lv_iload_n hx hb dX9_factor_161 rfl (lv_at hl 1 rfl) ?_
                refine lv_if_ge (tgt := 169) hx hb dX9_factor_162 (by decide) (fun c9 => absurd c9 (by decide)) (fun _ => ?_)
                refine lv_iconst (v := 0) hx hb dX9_factor_165 (by decide) ?_
                refine lv_goto (tgt := 170) hx hb dX9_factor_166 (by decide) ?_
                refine cv_v (As := [.int 0]) (rest := []) (b := w) ⟨hx, hb, hml, hown, hts⟩ (c_X9_emit hT (w := w) hw (x := 0) hbT hdT hm (hP 0 _ rfl) e3451 (fun e9 => by have q9 := (z3503 e9).2; omega)) (cwV 1 hts gX9_factor_X9_emit rfl rfl rfl hdX9_emit_v ⟨Nat.le_of_ble_eq_true rfl, Nat.le_of_ble_eq_true rfl⟩) hN hE hL (rcv10 hN hT hw.1) rfl rfl hl.1 (Nat.le_of_ble_eq_true rfl) dX9_factor_170 (Nat.zero_le _) (Nat.zero_le _) (fun H1 locs hL hqr3506 => ?_)
                obtain ⟨hT1, hF1, hqr3506⟩ := hqr3506
                have hF := hF.tr (hF1.mono (by simp))
                have hT := hT1
                obtain ⟨f3507, N3508, d3509, e3510, x3511, m3512⟩ := hqr3506
                have hm := m3512
                have hm8 := hm.2.2.2.2.2.2.2
                have nx3511 := x3511.n
                have ox3511 := nx3511.1
                have hbd : B0 ≤ dr := (hT.o26 hdT.1).1
                have hDR := hT.dr hdT d3509
                have hP : va_P D vwCl [(dr, .inl (cs 0, 1383, .inl f3507))] _ := va_P.cons d3509 va_P.nil
                refine lv_aload_n hx hb dX9_factor_173 rfl (lv_at hl 3 rfl) ?_
                refine lv_iload_n hx hb dX9_factor_174 rfl (lv_at hl 0 rfl) ?_
                refine cv_v (As := [.int r3499]) (rest := []) (b := w) ⟨hx, hb, hml, hown, hts⟩ (c_X9_emit hT (w := w) hw (x := r3499) hbT hdT hm (hP 0 _ rfl) e3510 (fun e9 => by have q9 := (z3503 e9).2; omega)) (cwV 1 hts gX9_factor_X9_emit rfl rfl rfl hdX9_emit_v ⟨Nat.le_of_ble_eq_true rfl, Nat.le_of_ble_eq_true rfl⟩) hN hE hL (rcv10 hN hT hw.1) rfl rfl hl.1 (Nat.le_of_ble_eq_true rfl) dX9_factor_175 (Nat.zero_le _) (Nat.zero_le _) (fun H1 locs hL hqr3514 => ?_)
                obtain ⟨hT1, hF1, hqr3514⟩ := hqr3514
                have hF := hF.tr (hF1.mono (by simp))
                have hT := hT1
                obtain ⟨f3515, N3516, d3517, e3518, x3519, m3520⟩ := hqr3514
                have hm := m3520
                have hm8 := hm.2.2.2.2.2.2.2
                have nx3519 := x3519.n
                have ox3519 := nx3519.1
                have hbd : B0 ≤ dr := (hT.o26 hdT.1).1
                have hDR := hT.dr hdT d3517
                have hP : va_P D vwCl [(dr, .inl (cs 0, 1383, .inl f3515))] _ := va_P.cons d3517 va_P.nil
                have bx3511 := nx3511.2.1
                have bx3519 := nx3519.2.1
                have hbn : N3516 + 2 * pos ≤ N + 2 * p3500 ∧ N3516 ≤ 2 * p3500 := by
                  by_cases e9 : er3501 = 0
                  · have q9 := (z3503 e9).2; omega
                  · have q9 := bx3511 e9; have q8 := bx3519 e9; omega
                exact en_v hx hb hr hlocks hL (Nat.zero_le _) (Nat.zero_le _) dX9_factor_178 (⟨hT, hF, _, p3500, er3501, hbn.1, (by omega), (fun e9 => id ((fun e9 => (z3503 e9).1) e9)), hm, _, hP 0 _ rfl, e3518, hbn.2, (EM.lit x3511 x3519 (by decide) (fun e9 => v3451 ((fun e9 => (z3503 e9).1) e9)))⟩)
              · have hm := m3498
                have hm8 := hm.2.2.2.2.2.2.2
                refine lv_if_eq (tgt := 141) hx hb dX9_factor_134 (by decide) (fun c9 => absurd c9 (by decide)) (fun _ => ?_)
                refine lv_iconst (v := 3) hx hb dX9_factor_137 (by decide) ?_
                refine lv_goto (tgt := 142) hx hb dX9_factor_138 (by decide) ?_
                refine lv_istore_n (lv' := [(2, .int 3), (1, .int (byF g tl p3457)), (0, .ref w)]) hx hb dX9_factor_142 rfl hl (by decide) rfl (fun ls hl => ?_)
                refine lv_iload_n hx hb dX9_factor_143 rfl (lv_at hl 0 rfl) ?_
                refine lv_if_ge (tgt := 158) hx hb dX9_factor_144 (by decide) (fun _ => ?_) (fun c9 => absurd (by decide) c9)
                refine lv_iload_n hx hb dX9_factor_158 rfl (lv_at hl 0 rfl) ?_
                refine lv_istore_n (lv' := [(3, .int 3), (2, .int 3), (1, .int (byF g tl p3457)), (0, .ref w)]) hx hb dX9_factor_159 rfl hl (by decide) rfl (fun ls hl => ?_)
                refine lv_aload_n hx hb dX9_factor_160 rfl (lv_at hl 3 rfl) ?_
                refine lv_iload_n hx hb dX9_factor_161 rfl (lv_at hl 1 rfl) ?_
                refine lv_if_ge (tgt := 169) hx hb dX9_factor_162 (by decide) (fun _ => ?_) (fun c9 => absurd (by decide) c9)
                refine lv_iconst (v := 1) hx hb dX9_factor_169 (by decide) ?_
                refine cv_v (As := [.int 1]) (rest := []) (b := w) ⟨hx, hb, hml, hown, hts⟩ (c_X9_emit hT (w := w) hw (x := 1) hbT hdT hm (hP 0 _ rfl) e3451 (fun e9 => by omega)) (cwV 1 hts gX9_factor_X9_emit rfl rfl rfl hdX9_emit_v ⟨Nat.le_of_ble_eq_true rfl, Nat.le_of_ble_eq_true rfl⟩) hN hE hL (rcv10 hN hT hw.1) rfl rfl hl.1 (Nat.le_of_ble_eq_true rfl) dX9_factor_170 (Nat.zero_le _) (Nat.zero_le _) (fun H1 locs hL hqr3522 => ?_)
                obtain ⟨hT1, hF1, hqr3522⟩ := hqr3522
                have hF := hF.tr (hF1.mono (by simp))
                have hT := hT1
                obtain ⟨f3523, N3524, d3525, e3526, x3527, m3528⟩ := hqr3522
                have hm := m3528
                have hm8 := hm.2.2.2.2.2.2.2
                have nx3527 := x3527.n
                have ox3527 := nx3527.1
                have hbd : B0 ≤ dr := (hT.o26 hdT.1).1
                have hDR := hT.dr hdT d3525
                have hP : va_P D vwCl [(dr, .inl (cs 0, 1383, .inl f3523))] _ := va_P.cons d3525 va_P.nil
                refine lv_aload_n hx hb dX9_factor_173 rfl (lv_at hl 3 rfl) ?_
                refine lv_iload_n hx hb dX9_factor_174 rfl (lv_at hl 0 rfl) ?_
                refine cv_v (As := [.int 3]) (rest := []) (b := w) ⟨hx, hb, hml, hown, hts⟩ (c_X9_emit hT (w := w) hw (x := 3) hbT hdT hm (hP 0 _ rfl) e3526 (fun e9 => by omega)) (cwV 1 hts gX9_factor_X9_emit rfl rfl rfl hdX9_emit_v ⟨Nat.le_of_ble_eq_true rfl, Nat.le_of_ble_eq_true rfl⟩) hN hE hL (rcv10 hN hT hw.1) rfl rfl hl.1 (Nat.le_of_ble_eq_true rfl) dX9_factor_175 (Nat.zero_le _) (Nat.zero_le _) (fun H1 locs hL hqr3530 => ?_)
                obtain ⟨hT1, hF1, hqr3530⟩ := hqr3530
                have hF := hF.tr (hF1.mono (by simp))
                have hT := hT1
                obtain ⟨f3531, N3532, d3533, e3534, x3535, m3536⟩ := hqr3530
                have hm := m3536
                have hm8 := hm.2.2.2.2.2.2.2
                have nx3535 := x3535.n
                have ox3535 := nx3535.1
                have hbd : B0 ≤ dr := (hT.o26 hdT.1).1
                have hDR := hT.dr hdT d3533
                have hP : va_P D vwCl [(dr, .inl (cs 0, 1383, .inl f3531))] _ := va_P.cons d3533 va_P.nil
                have bx3527 := nx3527.2.1
                have bx3535 := nx3535.2.1
                have hbn : N3532 + 2 * pos ≤ N + 2 * p3495 ∧ N3532 ≤ 2 * p3495 := by
                  by_cases e9 : er = 0
                  · omega
                  · have q9 := bx3527 e9; have q8 := bx3535 e9; omega
                exact en_v hx hb hr hlocks hL (Nat.zero_le _) (Nat.zero_le _) dX9_factor_178 (⟨hT, hF, _, p3495, er, hbn.1, (by omega), id, hm, _, hP 0 _ rfl, e3534, hbn.2, (EM.lit x3527 x3535 (by decide) v3451)⟩)
            · have hm := m3490
              have hm8 := hm.2.2.2.2.2.2.2
              refine lv_if_eq (tgt := 128) hx hb dX9_factor_121 (by decide) (fun c9 => absurd c9 (by decide)) (fun _ => ?_)
              refine lv_iconst (v := 2) hx hb dX9_factor_124 (by decide) ?_
              refine lv_goto (tgt := 142) hx hb dX9_factor_125 (by decide) ?_
              refine lv_istore_n (lv' := [(2, .int 2), (1, .int (byF g tl p3457)), (0, .ref w)]) hx hb dX9_factor_142 rfl hl (by decide) rfl (fun ls hl => ?_)
              refine lv_iload_n hx hb dX9_factor_143 rfl (lv_at hl 0 rfl) ?_
              refine lv_if_ge (tgt := 158) hx hb dX9_factor_144 (by decide) (fun _ => ?_) (fun c9 => absurd (by decide) c9)
              refine lv_iload_n hx hb dX9_factor_158 rfl (lv_at hl 0 rfl) ?_
              refine lv_istore_n (lv' := [(3, .int 2), (2, .int 2), (1, .int (byF g tl p3457)), (0, .ref w)]) hx hb dX9_factor_159 rfl hl (by decide) rfl (fun ls hl => ?_)
              refine lv_aload_n hx hb dX9_factor_160 rfl (lv_at hl 3 rfl) ?_
              refine lv_iload_n hx hb dX9_factor_161 rfl (lv_at hl 1 rfl) ?_
              refine lv_if_ge (tgt := 169) hx hb dX9_factor_162 (by decide) (fun _ => ?_) (fun c9 => absurd (by decide) c9)
              refine lv_iconst (v := 1) hx hb dX9_factor_169 (by decide) ?_
              refine cv_v (As := [.int 1]) (rest := []) (b := w) ⟨hx, hb, hml, hown, hts⟩ (c_X9_emit hT (w := w) hw (x := 1) hbT hdT hm (hP 0 _ rfl) e3451 (fun e9 => by omega)) (cwV 1 hts gX9_factor_X9_emit rfl rfl rfl hdX9_emit_v ⟨Nat.le_of_ble_eq_true rfl, Nat.le_of_ble_eq_true rfl⟩) hN hE hL (rcv10 hN hT hw.1) rfl rfl hl.1 (Nat.le_of_ble_eq_true rfl) dX9_factor_170 (Nat.zero_le _) (Nat.zero_le _) (fun H1 locs hL hqr3538 => ?_)
              obtain ⟨hT1, hF1, hqr3538⟩ := hqr3538
              have hF := hF.tr (hF1.mono (by simp))
              have hT := hT1
              obtain ⟨f3539, N3540, d3541, e3542, x3543, m3544⟩ := hqr3538
              have hm := m3544
              have hm8 := hm.2.2.2.2.2.2.2
              have nx3543 := x3543.n
              have ox3543 := nx3543.1
              have hbd : B0 ≤ dr := (hT.o26 hdT.1).1
              have hDR := hT.dr hdT d3541
              have hP : va_P D vwCl [(dr, .inl (cs 0, 1383, .inl f3539))] _ := va_P.cons d3541 va_P.nil
              refine lv_aload_n hx hb dX9_factor_173 rfl (lv_at hl 3 rfl) ?_
              refine lv_iload_n hx hb dX9_factor_174 rfl (lv_at hl 0 rfl) ?_
              refine cv_v (As := [.int 2]) (rest := []) (b := w) ⟨hx, hb, hml, hown, hts⟩ (c_X9_emit hT (w := w) hw (x := 2) hbT hdT hm (hP 0 _ rfl) e3542 (fun e9 => by omega)) (cwV 1 hts gX9_factor_X9_emit rfl rfl rfl hdX9_emit_v ⟨Nat.le_of_ble_eq_true rfl, Nat.le_of_ble_eq_true rfl⟩) hN hE hL (rcv10 hN hT hw.1) rfl rfl hl.1 (Nat.le_of_ble_eq_true rfl) dX9_factor_175 (Nat.zero_le _) (Nat.zero_le _) (fun H1 locs hL hqr3546 => ?_)
              obtain ⟨hT1, hF1, hqr3546⟩ := hqr3546
              have hF := hF.tr (hF1.mono (by simp))
              have hT := hT1
              obtain ⟨f3547, N3548, d3549, e3550, x3551, m3552⟩ := hqr3546
              have hm := m3552
              have hm8 := hm.2.2.2.2.2.2.2
              have nx3551 := x3551.n
              have ox3551 := nx3551.1
              have hbd : B0 ≤ dr := (hT.o26 hdT.1).1
              have hDR := hT.dr hdT d3549
              have hP : va_P D vwCl [(dr, .inl (cs 0, 1383, .inl f3547))] _ := va_P.cons d3549 va_P.nil
              have bx3543 := nx3543.2.1
              have bx3551 := nx3551.2.1
              have hbn : N3548 + 2 * pos ≤ N + 2 * p3487 ∧ N3548 ≤ 2 * p3487 := by
                by_cases e9 : er = 0
                · omega
                · have q9 := bx3543 e9; have q8 := bx3551 e9; omega
              exact en_v hx hb hr hlocks hL (Nat.zero_le _) (Nat.zero_le _) dX9_factor_178 (⟨hT, hF, _, p3487, er, hbn.1, (by omega), id, hm, _, hP 0 _ rfl, e3550, hbn.2, (EM.lit x3543 x3551 (by decide) v3451)⟩)
          · have hm := m3482
            have hm8 := hm.2.2.2.2.2.2.2
            refine lv_if_eq (tgt := 115) hx hb dX9_factor_108 (by decide) (fun c9 => absurd c9 (by decide)) (fun _ => ?_)
            refine lv_iconst (v := 1) hx hb dX9_factor_111 (by decide) ?_
            refine lv_goto (tgt := 142) hx hb dX9_factor_112 (by decide) ?_
            refine lv_istore_n (lv' := [(2, .int 1), (1, .int (byF g tl p3457)), (0, .ref w)]) hx hb dX9_factor_142 rfl hl (by decide) rfl (fun ls hl => ?_)
            refine lv_iload_n hx hb dX9_factor_143 rfl (lv_at hl 0 rfl) ?_
            refine lv_if_ge (tgt := 158) hx hb dX9_factor_144 (by decide) (fun _ => ?_) (fun c9 => absurd (by decide) c9)
            refine lv_iload_n hx hb dX9_factor_158 rfl (lv_at hl 0 rfl) ?_
            refine lv_istore_n (lv' := [(3, .int 1), (2, .int 1), (1, .int (byF g tl p3457)), (0, .ref w)]) hx hb dX9_factor_159 rfl hl (by decide) rfl (fun ls hl => ?_)
            refine lv_aload_n hx hb dX9_factor_160 rfl (lv_at hl 3 rfl) ?_
            refine lv_iload_n hx hb dX9_factor_161 rfl (lv_at hl 1 rfl) ?_
            refine lv_if_ge (tgt := 169) hx hb dX9_factor_162 (by decide) (fun _ => ?_) (fun c9 => absurd (by decide) c9)
            refine lv_iconst (v := 1) hx hb dX9_factor_169 (by decide) ?_
            refine cv_v (As := [.int 1]) (rest := []) (b := w) ⟨hx, hb, hml, hown, hts⟩ (c_X9_emit hT (w := w) hw (x := 1) hbT hdT hm (hP 0 _ rfl) e3451 (fun e9 => by omega)) (cwV 1 hts gX9_factor_X9_emit rfl rfl rfl hdX9_emit_v ⟨Nat.le_of_ble_eq_true rfl, Nat.le_of_ble_eq_true rfl⟩) hN hE hL (rcv10 hN hT hw.1) rfl rfl hl.1 (Nat.le_of_ble_eq_true rfl) dX9_factor_170 (Nat.zero_le _) (Nat.zero_le _) (fun H1 locs hL hqr3554 => ?_)
            obtain ⟨hT1, hF1, hqr3554⟩ := hqr3554
            have hF := hF.tr (hF1.mono (by simp))
            have hT := hT1
            obtain ⟨f3555, N3556, d3557, e3558, x3559, m3560⟩ := hqr3554
            have hm := m3560
            have hm8 := hm.2.2.2.2.2.2.2
            have nx3559 := x3559.n
            have ox3559 := nx3559.1
            have hbd : B0 ≤ dr := (hT.o26 hdT.1).1
            have hDR := hT.dr hdT d3557
            have hP : va_P D vwCl [(dr, .inl (cs 0, 1383, .inl f3555))] _ := va_P.cons d3557 va_P.nil
            refine lv_aload_n hx hb dX9_factor_173 rfl (lv_at hl 3 rfl) ?_
            refine lv_iload_n hx hb dX9_factor_174 rfl (lv_at hl 0 rfl) ?_
            refine cv_v (As := [.int 1]) (rest := []) (b := w) ⟨hx, hb, hml, hown, hts⟩ (c_X9_emit hT (w := w) hw (x := 1) hbT hdT hm (hP 0 _ rfl) e3558 (fun e9 => by omega)) (cwV 1 hts gX9_factor_X9_emit rfl rfl rfl hdX9_emit_v ⟨Nat.le_of_ble_eq_true rfl, Nat.le_of_ble_eq_true rfl⟩) hN hE hL (rcv10 hN hT hw.1) rfl rfl hl.1 (Nat.le_of_ble_eq_true rfl) dX9_factor_175 (Nat.zero_le _) (Nat.zero_le _) (fun H1 locs hL hqr3562 => ?_)
            obtain ⟨hT1, hF1, hqr3562⟩ := hqr3562
            have hF := hF.tr (hF1.mono (by simp))
            have hT := hT1
            obtain ⟨f3563, N3564, d3565, e3566, x3567, m3568⟩ := hqr3562
            have hm := m3568
            have hm8 := hm.2.2.2.2.2.2.2
            have nx3567 := x3567.n
            have ox3567 := nx3567.1
            have hbd : B0 ≤ dr := (hT.o26 hdT.1).1
            have hDR := hT.dr hdT d3565
            have hP : va_P D vwCl [(dr, .inl (cs 0, 1383, .inl f3563))] _ := va_P.cons d3565 va_P.nil
            have bx3559 := nx3559.2.1
            have bx3567 := nx3567.2.1
            have hbn : N3564 + 2 * pos ≤ N + 2 * p3479 ∧ N3564 ≤ 2 * p3479 := by
              by_cases e9 : er = 0
              · omega
              · have q9 := bx3559 e9; have q8 := bx3567 e9; omega
            exact en_v hx hb hr hlocks hL (Nat.zero_le _) (Nat.zero_le _) dX9_factor_178 (⟨hT, hF, _, p3479, er, hbn.1, (by omega), id, hm, _, hP 0 _ rfl, e3566, hbn.2, (EM.lit x3559 x3567 (by decide) v3451)⟩)
        · have hm := m3474
          have hm8 := hm.2.2.2.2.2.2.2
          refine lv_if_eq (tgt := 102) hx hb dX9_factor_95 (by decide) (fun c9 => absurd c9 (by decide)) (fun _ => ?_)
          refine lv_iconst (v := 0) hx hb dX9_factor_98 (by decide) ?_
          refine lv_goto (tgt := 142) hx hb dX9_factor_99 (by decide) ?_
          refine lv_istore_n (lv' := [(2, .int 0), (1, .int (byF g tl p3457)), (0, .ref w)]) hx hb dX9_factor_142 rfl hl (by decide) rfl (fun ls hl => ?_)
          refine lv_iload_n hx hb dX9_factor_143 rfl (lv_at hl 0 rfl) ?_
          refine lv_if_ge (tgt := 158) hx hb dX9_factor_144 (by decide) (fun _ => ?_) (fun c9 => absurd (by decide) c9)
          refine lv_iload_n hx hb dX9_factor_158 rfl (lv_at hl 0 rfl) ?_
          refine lv_istore_n (lv' := [(3, .int 0), (2, .int 0), (1, .int (byF g tl p3457)), (0, .ref w)]) hx hb dX9_factor_159 rfl hl (by decide) rfl (fun ls hl => ?_)
          refine lv_aload_n hx hb dX9_factor_160 rfl (lv_at hl 3 rfl) ?_
          refine lv_iload_n hx hb dX9_factor_161 rfl (lv_at hl 1 rfl) ?_
          refine lv_if_ge (tgt := 169) hx hb dX9_factor_162 (by decide) (fun _ => ?_) (fun c9 => absurd (by decide) c9)
          refine lv_iconst (v := 1) hx hb dX9_factor_169 (by decide) ?_
          refine cv_v (As := [.int 1]) (rest := []) (b := w) ⟨hx, hb, hml, hown, hts⟩ (c_X9_emit hT (w := w) hw (x := 1) hbT hdT hm (hP 0 _ rfl) e3451 (fun e9 => by omega)) (cwV 1 hts gX9_factor_X9_emit rfl rfl rfl hdX9_emit_v ⟨Nat.le_of_ble_eq_true rfl, Nat.le_of_ble_eq_true rfl⟩) hN hE hL (rcv10 hN hT hw.1) rfl rfl hl.1 (Nat.le_of_ble_eq_true rfl) dX9_factor_170 (Nat.zero_le _) (Nat.zero_le _) (fun H1 locs hL hqr3570 => ?_)
          obtain ⟨hT1, hF1, hqr3570⟩ := hqr3570
          have hF := hF.tr (hF1.mono (by simp))
          have hT := hT1
          obtain ⟨f3571, N3572, d3573, e3574, x3575, m3576⟩ := hqr3570
          have hm := m3576
          have hm8 := hm.2.2.2.2.2.2.2
          have nx3575 := x3575.n
          have ox3575 := nx3575.1
          have hbd : B0 ≤ dr := (hT.o26 hdT.1).1
          have hDR := hT.dr hdT d3573
          have hP : va_P D vwCl [(dr, .inl (cs 0, 1383, .inl f3571))] _ := va_P.cons d3573 va_P.nil
          refine lv_aload_n hx hb dX9_factor_173 rfl (lv_at hl 3 rfl) ?_
          refine lv_iload_n hx hb dX9_factor_174 rfl (lv_at hl 0 rfl) ?_
          refine cv_v (As := [.int 0]) (rest := []) (b := w) ⟨hx, hb, hml, hown, hts⟩ (c_X9_emit hT (w := w) hw (x := 0) hbT hdT hm (hP 0 _ rfl) e3574 (fun e9 => by omega)) (cwV 1 hts gX9_factor_X9_emit rfl rfl rfl hdX9_emit_v ⟨Nat.le_of_ble_eq_true rfl, Nat.le_of_ble_eq_true rfl⟩) hN hE hL (rcv10 hN hT hw.1) rfl rfl hl.1 (Nat.le_of_ble_eq_true rfl) dX9_factor_175 (Nat.zero_le _) (Nat.zero_le _) (fun H1 locs hL hqr3578 => ?_)
          obtain ⟨hT1, hF1, hqr3578⟩ := hqr3578
          have hF := hF.tr (hF1.mono (by simp))
          have hT := hT1
          obtain ⟨f3579, N3580, d3581, e3582, x3583, m3584⟩ := hqr3578
          have hm := m3584
          have hm8 := hm.2.2.2.2.2.2.2
          have nx3583 := x3583.n
          have ox3583 := nx3583.1
          have hbd : B0 ≤ dr := (hT.o26 hdT.1).1
          have hDR := hT.dr hdT d3581
          have hP : va_P D vwCl [(dr, .inl (cs 0, 1383, .inl f3579))] _ := va_P.cons d3581 va_P.nil
          have bx3575 := nx3575.2.1
          have bx3583 := nx3583.2.1
          have hbn : N3580 + 2 * pos ≤ N + 2 * p3471 ∧ N3580 ≤ 2 * p3471 := by
            by_cases e9 : er = 0
            · omega
            · have q9 := bx3575 e9; have q8 := bx3583 e9; omega
          exact en_v hx hb hr hlocks hL (Nat.zero_le _) (Nat.zero_le _) dX9_factor_178 (⟨hT, hF, _, p3471, er, hbn.1, (by omega), id, hm, _, hP 0 _ rfl, e3582, hbn.2, (EM.lit x3575 x3583 (by decide) v3451)⟩)
      · refine lv_if_eq (tgt := 89) hx hb dX9_factor_82 (by decide) (fun c9 => absurd c9 (by decide)) (fun _ => ?_)
        refine lv_iconst (v := (-1)) hx hb dX9_factor_85 (by decide) ?_
        refine lv_goto (tgt := 142) hx hb dX9_factor_86 (by decide) ?_
        refine lv_istore_n (lv' := [(2, .int (-1)), (1, .int (byF g tl p3457)), (0, .ref w)]) hx hb dX9_factor_142 rfl hl (by decide) rfl (fun ls hl => ?_)
        refine lv_iload_n hx hb dX9_factor_143 rfl (lv_at hl 0 rfl) ?_
        refine lv_if_ge (tgt := 158) hx hb dX9_factor_144 (by decide) (fun c9 => absurd c9 (by decide)) (fun _ => ?_)
        refine lv_aload_n hx hb dX9_factor_147 rfl (lv_at hl 2 rfl) ?_
        refine lv_iconst (v := 0) hx hb dX9_factor_148 (by decide) ?_
        refine lv_sipush (v := 9999) hx hb dX9_factor_149 (by decide) ?_
        refine cv_i (As := [.int 0, .int 9999]) (rest := []) (b := w) ⟨hx, hb, hml, hown, hts⟩ (c_X9_number hT (w := w) hw (x := 0) (y := 9999) hbT hdT hm) (cwV 2 hts gX9_factor_X9_number rfl rfl rfl hdX9_number_v ⟨Nat.le_of_ble_eq_true rfl, Nat.le_of_ble_eq_true rfl⟩) hN hE hL (rcv10 hN hT hw.1) rfl rfl hl.1 (Nat.le_of_ble_eq_true rfl) dX9_factor_152 (Nat.zero_le _) (Nat.zero_le _) (fun r3586 H1 locs hL hqr3586 => ?_)
        obtain ⟨hT1, hF1, hqr3586⟩ := hqr3586
        have hP : va_P D vwCl [(dr, .inl (cs 0, 1383, .inl f3451))] _ := hF1.hP (hP.sub [0] rfl) (fa_c ⟨by rw [hdT.1]; decide, by rw [hdT.2]; first | decide | (simp; done) | (simp [h15a, h15b, h15c]; done) | (simp; omega)⟩ fa_n)
        have hF := hF.tr (hF1.mono (by simp))
        have hT := hT1
        obtain ⟨p3587, er3588, a3589, z3590, m3591, q3592⟩ := hqr3586
        have hm := m3591
        have hm8 := hm.2.2.2.2.2.2.2
        refine lv_goto (tgt := 159) hx hb dX9_factor_155 (by decide) ?_
        refine lv_istore_n (lv' := [(3, .int r3586), (2, .int (-1)), (1, .int (byF g tl p3457)), (0, .ref w)]) hx hb dX9_factor_159 rfl hl (by decide) rfl (fun ls hl => ?_)
        refine lv_aload_n hx hb dX9_factor_160 rfl (lv_at hl 3 rfl) ?_
        refine lv_iload_n hx hb dX9_factor_161 rfl (lv_at hl 1 rfl) ?_
        refine lv_if_ge (tgt := 169) hx hb dX9_factor_162 (by decide) (fun c9 => absurd c9 (by decide)) (fun _ => ?_)
        refine lv_iconst (v := 0) hx hb dX9_factor_165 (by decide) ?_
        refine lv_goto (tgt := 170) hx hb dX9_factor_166 (by decide) ?_
        refine cv_v (As := [.int 0]) (rest := []) (b := w) ⟨hx, hb, hml, hown, hts⟩ (c_X9_emit hT (w := w) hw (x := 0) hbT hdT hm (hP 0 _ rfl) e3451 (fun e9 => by have q9 := (z3590 e9).2; omega)) (cwV 1 hts gX9_factor_X9_emit rfl rfl rfl hdX9_emit_v ⟨Nat.le_of_ble_eq_true rfl, Nat.le_of_ble_eq_true rfl⟩) hN hE hL (rcv10 hN hT hw.1) rfl rfl hl.1 (Nat.le_of_ble_eq_true rfl) dX9_factor_170 (Nat.zero_le _) (Nat.zero_le _) (fun H1 locs hL hqr3593 => ?_)
        obtain ⟨hT1, hF1, hqr3593⟩ := hqr3593
        have hF := hF.tr (hF1.mono (by simp))
        have hT := hT1
        obtain ⟨f3594, N3595, d3596, e3597, x3598, m3599⟩ := hqr3593
        have hm := m3599
        have hm8 := hm.2.2.2.2.2.2.2
        have nx3598 := x3598.n
        have ox3598 := nx3598.1
        have hbd : B0 ≤ dr := (hT.o26 hdT.1).1
        have hDR := hT.dr hdT d3596
        have hP : va_P D vwCl [(dr, .inl (cs 0, 1383, .inl f3594))] _ := va_P.cons d3596 va_P.nil
        refine lv_aload_n hx hb dX9_factor_173 rfl (lv_at hl 3 rfl) ?_
        refine lv_iload_n hx hb dX9_factor_174 rfl (lv_at hl 0 rfl) ?_
        refine cv_v (As := [.int r3586]) (rest := []) (b := w) ⟨hx, hb, hml, hown, hts⟩ (c_X9_emit hT (w := w) hw (x := r3586) hbT hdT hm (hP 0 _ rfl) e3597 (fun e9 => by have q9 := (z3590 e9).2; omega)) (cwV 1 hts gX9_factor_X9_emit rfl rfl rfl hdX9_emit_v ⟨Nat.le_of_ble_eq_true rfl, Nat.le_of_ble_eq_true rfl⟩) hN hE hL (rcv10 hN hT hw.1) rfl rfl hl.1 (Nat.le_of_ble_eq_true rfl) dX9_factor_175 (Nat.zero_le _) (Nat.zero_le _) (fun H1 locs hL hqr3601 => ?_)
        obtain ⟨hT1, hF1, hqr3601⟩ := hqr3601
        have hF := hF.tr (hF1.mono (by simp))
        have hT := hT1
        obtain ⟨f3602, N3603, d3604, e3605, x3606, m3607⟩ := hqr3601
        have hm := m3607
        have hm8 := hm.2.2.2.2.2.2.2
        have nx3606 := x3606.n
        have ox3606 := nx3606.1
        have hbd : B0 ≤ dr := (hT.o26 hdT.1).1
        have hDR := hT.dr hdT d3604
        have hP : va_P D vwCl [(dr, .inl (cs 0, 1383, .inl f3602))] _ := va_P.cons d3604 va_P.nil
        have bx3598 := nx3598.2.1
        have bx3606 := nx3606.2.1
        have hbn : N3603 + 2 * pos ≤ N + 2 * p3587 ∧ N3603 ≤ 2 * p3587 := by
          by_cases e9 : er3588 = 0
          · have q9 := (z3590 e9).2; omega
          · have q9 := bx3598 e9; have q8 := bx3606 e9; omega
        exact en_v hx hb hr hlocks hL (Nat.zero_le _) (Nat.zero_le _) dX9_factor_178 (⟨hT, hF, _, p3587, er3588, hbn.1, (by omega), (fun e9 => id ((fun e9 => (z3590 e9).1) e9)), hm, _, hP 0 _ rfl, e3605, hbn.2, (EM.lit x3598 x3606 (by decide) (fun e9 => v3451 ((fun e9 => (z3590 e9).1) e9)))⟩)
    · have hl9 := byF_c (c3462) (by decide)
      refine lv_aload_n hx hb dX9_factor_19 rfl (lv_at hl 1 rfl) ?_
      obtain ⟨hb3609, e3609, hat3609, hk3609⟩ := hT.o10 hw.1
      obtain ⟨f3609_0, f3609_1, f3609_3, f3609_4, f3609_5, f3609_6, f3609_7, f3609_9, f3609_10, f3609_11, f3609_12, f3609_13, f3609_14, f3609_15, f3609_16, f3609_17, rfl, c3609_2, c3609_3, c3609_4, c3609_12, t3609_1, t3609_8, t3609_9, c3609_sd, t3609_10, t3609_11, t3609_17⟩ := hk3609
      obtain ⟨rfl, rfl, rfl, rfl, rfl, rfl⟩ := hm.at hat3609 c3609_3 (by omega)
      have hm8 := hm.2.2.2.2.2.2.2
      have hP : va_P D vwCl [(w, .inr (9, [.int f3609_0, .ref bu, .int (nI ((κ w).2.2.1)), .int (nI tl), .int (nI p3457), .int er, .int f3609_6, .int f3609_7, .ref (κ w).2.2.2, .ref f3609_9, .ref dr, .ref f3609_11, .int (nI f3609_12), .int f3609_13, .int 1, .int f3609_15, .int f3609_16, .ref f3609_17])), (dr, .inl (cs 0, 1383, .inl f3451))] _ := va_P.cons hat3609 hP
      refine va_get (D := D) (ci := 9) (v := .int 1) (C := RX9) (T := TX9) (N := 18) hx hb hts iX9_factor_9 hown hN.1 hP 0 rfl rfl 14 (by decide) (hts _ mX9_factor_1) (fun _ h9 => h9) rfl dX9_factor_20 ?_
      refine lv_iconst (v := 4) hx hb dX9_factor_23 (by decide) ?_
      refine lv_icmp_ne (tgt := 37) hx hb dX9_factor_24 (by decide) (fun _ => ?_) (fun c9 => absurd c9 (by decide))
      refine lv_aload_n hx hb dX9_factor_37 rfl (lv_at hl 1 rfl) ?_
      refine lv_dup hx hb dX9_factor_38 rfl ?_
      refine va_get (D := D) (ci := 9) (v := .int (nI p3457)) (C := RX9) (T := TX9) (N := 18) hx hb hts iX9_factor_9 hown hN.1 hP 0 rfl rfl 4 (by decide) (hts _ mX9_factor_2) (fun _ h9 => h9) rfl dX9_factor_39 ?_
      refine lv_iconst (v := 1) hx hb dX9_factor_42 (by decide) ?_
      refine lv_iadd hx hb dX9_factor_43 ?_
      refine tp_i (nI (p3457 + 1)) (nI_add p3457 1) ?_
      have hB : Bx B0 D _ [(w, .inr (9, [.int f3609_0, .ref bu, .int (nI ((κ w).2.2.1)), .int (nI tl), .int (nI p3457), .int er, .int f3609_6, .int f3609_7, .ref (κ w).2.2.2, .ref f3609_9, .ref dr, .ref f3609_11, .int (nI f3609_12), .int f3609_13, .int 1, .int f3609_15, .int f3609_16, .ref f3609_17])), (dr, .inl (cs 0, 1383, .inl f3451))] [] _ _ := Bx.of (fun a => (κ a).1) hL hP (fa_c hb3609 (fa_c hbd fa_n)) (by simp only [List.map_cons, List.map_nil, hw.1, hdT.1]; decide)
      refine b_put (D := D) (ci := 9) (v := .int (nI (p3457 + 1))) (ty := .int) (C := RX9) (T := TX9) (N := 18) hx hb hts iX9_factor_9 tyX9 tyX9_ok nmX9 hown hN hB 0 rfl rfl 4 (by decide) (hts _ mX9_factor_2) (fun _ h9 => h9) rfl (by decide +kernel) rfl rfl (Nat.le_of_ble_eq_true rfl) (.inl rfl) dX9_factor_44 (fun H locs hB => ?_)
      have hB : Bx B0 D _ [(w, .inr (9, [.int f3609_0, .ref bu, .int (nI ((κ w).2.2.1)), .int (nI tl), .int (nI (p3457 + 1)), .int er, .int f3609_6, .int f3609_7, .ref (κ w).2.2.2, .ref f3609_9, .ref dr, .ref f3609_11, .int (nI f3609_12), .int f3609_13, .int 1, .int f3609_15, .int f3609_16, .ref f3609_17])), (dr, .inl (cs 0, 1383, .inl f3451))] [w] _ _ := hB
      refine lv_aload_n hx hb dX9_factor_47 rfl (lv_at hl 1 rfl) ?_
      refine lv_dup hx hb dX9_factor_48 rfl ?_
      refine va_get (D := D) (ci := 9) (v := .int 1) (C := RX9) (T := TX9) (N := 18) hx hb hts iX9_factor_9 hown hN.1 hB.1 0 rfl rfl 14 (by decide) (hts _ mX9_factor_1) (fun _ h9 => h9) rfl dX9_factor_49 ?_
      refine lv_iconst (v := 1) hx hb dX9_factor_52 (by decide) ?_
      refine lv_iadd hx hb dX9_factor_53 ?_
      refine tp_i 2 (by decide) ?_
      refine b_put (D := D) (ci := 9) (v := .int 2) (ty := .int) (C := RX9) (T := TX9) (N := 18) hx hb hts iX9_factor_9 tyX9 tyX9_ok nmX9 hown hN hB 0 rfl rfl 14 (by decide) (hts _ mX9_factor_1) (fun _ h9 => h9) rfl (by decide +kernel) rfl rfl (Nat.le_of_ble_eq_true rfl) (.inr ⟨rfl, List.mem_of_getElem? (i := 0) rfl⟩) dX9_factor_54 (fun H locs hB => ?_)
      have hB : Bx B0 D _ [(w, .inr (9, [.int f3609_0, .ref bu, .int (nI ((κ w).2.2.1)), .int (nI tl), .int (nI (p3457 + 1)), .int er, .int f3609_6, .int f3609_7, .ref (κ w).2.2.2, .ref f3609_9, .ref dr, .ref f3609_11, .int (nI f3609_12), .int f3609_13, .int 2, .int f3609_15, .int f3609_16, .ref f3609_17])), (dr, .inl (cs 0, 1383, .inl f3451))] [w] _ _ := hB
      refine lv_aload_n hx hb dX9_factor_57 rfl (lv_at hl 1 rfl) ?_
      have hT : WT B0 D cs T κ _ := hT.close hB ⟨⟨0, _, rfl, ok_10 hw.1 ⟨_, _, _, _, _, _, _, _, _, _, _, _, _, _, _, _, rfl, (by omega), (by omega), (by omega), (by omega), hbT, t3609_8, t3609_9, c3609_sd, hdT, t3609_11, t3609_17⟩⟩, trivial⟩
      have hF : Fr B0 [12, 17] κ H0 _ := hF.close hB (fa_c (by simp [hw.2]) fa_n)
      have hL : OkL B0 _ := hB.2.2.2.2.2
      have hP : va_P D vwCl [(w, .inr (9, [.int f3609_0, .ref bu, .int (nI ((κ w).2.2.1)), .int (nI tl), .int (nI (p3457 + 1)), .int er, .int f3609_6, .int f3609_7, .ref (κ w).2.2.2, .ref f3609_9, .ref dr, .ref f3609_11, .int (nI f3609_12), .int f3609_13, .int 2, .int f3609_15, .int f3609_16, .ref f3609_17])), (dr, .inl (cs 0, 1383, .inl f3451))] _ := hB.1
      have hbu9 := (hm.2.2.2.2.2.2.1).kept (hB.2.2.2.1 _ hm.2.2.2.2.2.2.1.lt (by simp only [List.mem_cons, List.not_mem_nil, or_false, not_or]; exact ne_c hbT.1 hw.1 (by decide)))
      have hm : MF D cs w _ ((p3457 + 1)) (tl) (er) (2) dr bu g := ⟨⟨_, hP 0 _ rfl, rfl⟩, ⟨_, hP 0 _ rfl, rfl⟩, ⟨_, hP 0 _ rfl, rfl⟩, ⟨_, hP 0 _ rfl, rfl⟩, ⟨_, hP 0 _ rfl, rfl⟩, ⟨_, hP 0 _ rfl, rfl⟩, hbu9, (by omega), (by omega)⟩
      have hps : PS D cs w _ ((p3457 + 1)) (tl) (er) (2) dr bu g (N) (h) := ⟨hm, f3451, hP 1 _ rfl, e3451, by omega, v3451⟩
      refine cv_v (As := []) (rest := []) (b := w) ⟨hx, hb, hml, hown, hts⟩ (c_X9_readSum_d2 hT (w := w) hw hbT hdT hps) (cwV 0 hts gX9_factor_X9_readSum rfl rfl rfl hdX9_readSum_v ⟨Nat.le_of_ble_eq_true rfl, Nat.le_of_ble_eq_true rfl⟩) hN hE hL (rcv10 hN hT hw.1) rfl rfl hl.1 (Nat.le_of_ble_eq_true rfl) dX9_factor_58 (Nat.zero_le _) (Nat.zero_le _) (fun H1 locs hL hqr3610 => ?_)
      obtain ⟨hT1, hF1, hqr3610⟩ := hqr3610
      have hF := hF.tr (hF1.mono (by simp))
      have hT := hT1
      obtain ⟨N3611, p3612, er3613, a3614, b3615, z3616, m3617, f3618, d3619, e3620, n3621, v3622⟩ := hqr3610
      have hm := m3617
      have hm8 := hm.2.2.2.2.2.2.2
      have hbd : B0 ≤ dr := (hT.o26 hdT.1).1
      have hDR := hT.dr hdT d3619
      have hP : va_P D vwCl [(dr, .inl (cs 0, 1383, .inl f3618))] _ := va_P.cons d3619 va_P.nil
      refine lv_aload_n hx hb dX9_factor_61 rfl (lv_at hl 1 rfl) ?_
      refine lv_bipush (v := 41) hx hb dX9_factor_62 (by decide) ?_
      refine cv_v (As := [.int 41]) (rest := []) (b := w) ⟨hx, hb, hml, hown, hts⟩ (c_X9_expect hT (w := w) hw (x := 41) hbT hdT hm ((by decide))) (cwV 1 hts gX9_factor_X9_expect rfl rfl rfl hdX9_expect_v ⟨Nat.le_of_ble_eq_true rfl, Nat.le_of_ble_eq_true rfl⟩) hN hE hL (rcv10 hN hT hw.1) rfl rfl hl.1 (Nat.le_of_ble_eq_true rfl) dX9_factor_64 (Nat.zero_le _) (Nat.zero_le _) (fun H1 locs hL hqr3624 => ?_)
      obtain ⟨hT1, hF1, hqr3624⟩ := hqr3624
      have hP : va_P D vwCl [(dr, .inl (cs 0, 1383, .inl f3618))] _ := hF1.hP (hP.sub [0] rfl) (fa_c ⟨by rw [hdT.1]; decide, by rw [hdT.2]; first | decide | (simp; done) | (simp [h15a, h15b, h15c]; done) | (simp; omega)⟩ fa_n)
      have hF := hF.tr (hF1.mono (by simp))
      have hT := hT1
      obtain ⟨p3625, er3626, a3627, z3628, m3629⟩ := hqr3624
      have hm := m3629
      have hm8 := hm.2.2.2.2.2.2.2
      refine lv_aload_n hx hb dX9_factor_67 rfl (lv_at hl 1 rfl) ?_
      refine lv_dup hx hb dX9_factor_68 rfl ?_
      obtain ⟨hb3630, e3630, hat3630, hk3630⟩ := hT.o10 hw.1
      obtain ⟨f3630_0, f3630_1, f3630_3, f3630_4, f3630_5, f3630_6, f3630_7, f3630_9, f3630_10, f3630_11, f3630_12, f3630_13, f3630_14, f3630_15, f3630_16, f3630_17, rfl, c3630_2, c3630_3, c3630_4, c3630_12, t3630_1, t3630_8, t3630_9, c3630_sd, t3630_10, t3630_11, t3630_17⟩ := hk3630
      obtain ⟨rfl, rfl, rfl, rfl, rfl, rfl⟩ := hm.at hat3630 c3630_3 (by omega)
      have hm8 := hm.2.2.2.2.2.2.2
      have hP : va_P D vwCl [(w, .inr (9, [.int f3630_0, .ref bu, .int (nI ((κ w).2.2.1)), .int (nI tl), .int (nI p3625), .int er3626, .int f3630_6, .int f3630_7, .ref (κ w).2.2.2, .ref f3630_9, .ref dr, .ref f3630_11, .int (nI f3630_12), .int f3630_13, .int 2, .int f3630_15, .int f3630_16, .ref f3630_17])), (dr, .inl (cs 0, 1383, .inl f3618))] _ := va_P.cons hat3630 hP
      refine va_get (D := D) (ci := 9) (v := .int 2) (C := RX9) (T := TX9) (N := 18) hx hb hts iX9_factor_9 hown hN.1 hP 0 rfl rfl 14 (by decide) (hts _ mX9_factor_1) (fun _ h9 => h9) rfl dX9_factor_69 ?_
      refine lv_iconst (v := 1) hx hb dX9_factor_72 (by decide) ?_
      refine lv_isub hx hb dX9_factor_73 ?_
      refine tp_i 1 (by decide) ?_
      have hB : Bx B0 D _ [(w, .inr (9, [.int f3630_0, .ref bu, .int (nI ((κ w).2.2.1)), .int (nI tl), .int (nI p3625), .int er3626, .int f3630_6, .int f3630_7, .ref (κ w).2.2.2, .ref f3630_9, .ref dr, .ref f3630_11, .int (nI f3630_12), .int f3630_13, .int 2, .int f3630_15, .int f3630_16, .ref f3630_17])), (dr, .inl (cs 0, 1383, .inl f3618))] [] _ _ := Bx.of (fun a => (κ a).1) hL hP (fa_c hb3630 (fa_c hbd fa_n)) (by simp only [List.map_cons, List.map_nil, hw.1, hdT.1]; decide)
      refine b_put (D := D) (ci := 9) (v := .int 1) (ty := .int) (C := RX9) (T := TX9) (N := 18) hx hb hts iX9_factor_9 tyX9 tyX9_ok nmX9 hown hN hB 0 rfl rfl 14 (by decide) (hts _ mX9_factor_1) (fun _ h9 => h9) rfl (by decide +kernel) rfl rfl (Nat.le_of_ble_eq_true rfl) (.inl rfl) dX9_factor_74 (fun H locs hB => ?_)
      have hB : Bx B0 D _ [(w, .inr (9, [.int f3630_0, .ref bu, .int (nI ((κ w).2.2.1)), .int (nI tl), .int (nI p3625), .int er3626, .int f3630_6, .int f3630_7, .ref (κ w).2.2.2, .ref f3630_9, .ref dr, .ref f3630_11, .int (nI f3630_12), .int f3630_13, .int 1, .int f3630_15, .int f3630_16, .ref f3630_17])), (dr, .inl (cs 0, 1383, .inl f3618))] [w] _ _ := hB
      have hT : WT B0 D cs T κ _ := hT.close hB ⟨⟨0, _, rfl, ok_10 hw.1 ⟨_, _, _, _, _, _, _, _, _, _, _, _, _, _, _, _, rfl, (by omega), (by omega), (by omega), (by omega), hbT, t3630_8, t3630_9, c3630_sd, hdT, t3630_11, t3630_17⟩⟩, trivial⟩
      have hF : Fr B0 [12, 17] κ H0 _ := hF.close hB (fa_c (by simp [hw.2]) fa_n)
      have hL : OkL B0 _ := hB.2.2.2.2.2
      have hP : va_P D vwCl [(w, .inr (9, [.int f3630_0, .ref bu, .int (nI ((κ w).2.2.1)), .int (nI tl), .int (nI p3625), .int er3626, .int f3630_6, .int f3630_7, .ref (κ w).2.2.2, .ref f3630_9, .ref dr, .ref f3630_11, .int (nI f3630_12), .int f3630_13, .int 1, .int f3630_15, .int f3630_16, .ref f3630_17])), (dr, .inl (cs 0, 1383, .inl f3618))] _ := hB.1
      have hbu9 := (hm.2.2.2.2.2.2.1).kept (hB.2.2.2.1 _ hm.2.2.2.2.2.2.1.lt (by simp only [List.mem_cons, List.not_mem_nil, or_false, not_or]; exact ne_c hbT.1 hw.1 (by decide)))
      have hm : MF D cs w _ (p3625) (tl) (er3626) (1) dr bu g := ⟨⟨_, hP 0 _ rfl, rfl⟩, ⟨_, hP 0 _ rfl, rfl⟩, ⟨_, hP 0 _ rfl, rfl⟩, ⟨_, hP 0 _ rfl, rfl⟩, ⟨_, hP 0 _ rfl, rfl⟩, ⟨_, hP 0 _ rfl, rfl⟩, hbu9, (by omega), (by omega)⟩
      exact en_v hx hb hr hlocks hL (Nat.zero_le _) (Nat.zero_le _) dX9_factor_77 (⟨hT, hF, N3611, p3625, er3626, (by omega), (by omega), (fun e9 => (fun e9 => id (z3616 e9)) (z3628 e9)), hm, _, hP 1 _ rfl, e3620, (by omega), (fun e9 => v3622 (z3628 e9))⟩)
  · refine lv_if_ne (tgt := 8) hx hb dX9_factor_4 (by decide) (fun c9 => absurd (by decide) c9) (fun _ => ?_)
    exact en_v hx hb hr hlocks hL (Nat.zero_le _) (Nat.zero_le _) dX9_factor_7 (⟨hT, hF, N, pos, er, (by omega), (by omega), id, hm, f3451, hP 0 _ rfl, e3451, (by omega), (fun e9 => absurd e9 e3455)⟩)
set_option maxHeartbeats 4000000 in
set_option maxRecDepth 100000 in
theorem c_X9_term_d1 {l : Launch} {D : va_G} {cs : Nat → ClassId} {B0 T : Nat} {κ : KM} {H0 : Heap} (hT : WT B0 D cs T κ H0) {w : Nat} (hw : T2 κ w 10 12) {pos tl : Nat} {er : Int32} {dr bu : Nat} {g : Nat → Int32} {N h : Nat} (hbT : T2 κ bu 23 14) (hdT : T2 κ dr 26 17) (hps : PS D cs w H0 pos tl er 1 dr bu g N h) : KC l yX9_term wsX9_term 15 325 0 0 D cs B0 H0 [.ref w] (Qv (fun H => WT B0 D cs T κ H ∧ Fr B0 [12, 17] κ H0 H ∧ ∃ N1 pos1 er1, N1 + 2 * pos ≤ N + 2 * pos1 ∧ pos ≤ pos1 ∧ (er1 = 0 → er = 0) ∧ PS D cs w H pos1 tl er1 1 dr bu g N1 (h + 1))) := by
  refine KC.of cX9_term 2 none (by decide) rfl (Nat.le_of_ble_eq_true rfl) ?_
  intro p e s m below meth c ls hx hb hr hml hown hts hlocks hin hN hE hH0 hl
  have hown : s.vm.findClass RX9 = some m.cls := hown
  have hl : lv_has ls 2 [(0, .ref w)] := hl
  have hL : OkL B0 [] := OkL.nil
  have hF : Fr B0 [12, 17] κ H0 H0 := Fr.rf
  obtain ⟨hm, f3631, hd3631, e3631, n3631, v3631⟩ := hps
  have hm8 := hm.2.2.2.2.2.2.2
  have hbd : B0 ≤ dr := (hT.o26 hdT.1).1
  have hDR := hT.dr hdT hd3631
  have hP : va_P D vwCl [(dr, .inl (cs 0, 1383, .inl f3631))] _ := va_P.cons hd3631 va_P.nil
  refine lv_aload_n hx hb dX9_term_0 rfl (lv_at hl 0 rfl) ?_
  have hps : PS D cs w _ (pos) (tl) (er) (1) dr bu g (N) (h) := ⟨hm, f3631, hP 0 _ rfl, e3631, by omega, v3631⟩
  refine cv_v (As := []) (rest := []) (b := w) ⟨hx, hb, hml, hown, hts⟩ (c_X9_factor_d1 hT (w := w) hw hbT hdT hps) (cwV 0 hts gX9_term_X9_factor rfl rfl rfl hdX9_factor_v ⟨Nat.le_of_ble_eq_true rfl, Nat.le_of_ble_eq_true rfl⟩) hN hE hL (rcv10 hN hT hw.1) rfl rfl hl.1 (Nat.le_of_ble_eq_true rfl) dX9_term_1 (Nat.zero_le _) (Nat.zero_le _) (fun H1 locs hL hqr3633 => ?_)
  obtain ⟨hT1, hF1, hqr3633⟩ := hqr3633
  have hF := hF.tr (hF1.mono (by simp))
  have hT := hT1
  obtain ⟨N3634, p3635, er3636, a3637, b3638, z3639, m3640, f3641, d3642, e3643, n3644, v3645⟩ := hqr3633
  have hm := m3640
  have hm8 := hm.2.2.2.2.2.2.2
  have hbd : B0 ≤ dr := (hT.o26 hdT.1).1
  have hDR := hT.dr hdT d3642
  have hP : va_P D vwCl [(dr, .inl (cs 0, 1383, .inl f3641))] _ := va_P.cons d3642 va_P.nil
  have hps : PS D cs w _ (p3635) (tl) (er3636) (1) dr bu g (N3634) ((h + 1)) := ⟨hm, f3641, hP 0 _ rfl, e3643, by omega, v3645⟩
  refine lp_m (α := Nat × Nat × Int32) (nL := 2) (fun a9 => 600 - a9.1) (fun a9 H9 l9 => (PS D cs w H9 a9.1 tl a9.2.2 1 dr bu g a9.2.1 (h + 1)) ∧ (a9.2.1 + 2 * pos ≤ N + 2 * a9.1) ∧ (pos ≤ a9.1) ∧ (a9.2.2 = 0 → er = 0) ∧ (WT B0 D cs T κ H9) ∧ (Fr B0 [12, 17] κ H0 H9) ∧ (OkL B0 l9)) (fun a9 => [(0, .ref w)]) ?_ (p3635, N3634, er3636) _ _ _ ⟨hps, (by show (N3634) + 2 * pos ≤ N + 2 * (p3635); omega), (by show pos ≤ (p3635); omega), (fun e9 => id (z3639 e9)), hT, hF, hL⟩ (lv_sub hl [0] rfl)
  rintro ⟨p, N1, er1⟩ H locs ls ih3647 ⟨hps, hb1, hb2, hz1, hT, hF, hL⟩ hl
  have hl : lv_has ls 2 [(0, .ref w)] := hl
  have hps : PS D cs w H p tl er1 1 dr bu g N1 (h + 1) := hps
  have hb1 : N1 + 2 * pos ≤ N + 2 * p := hb1
  have hb2 : pos ≤ p := hb2
  have hz1 : er1 = 0 → er = 0 := hz1
  obtain ⟨hm, f3648, hd3648, e3648, n3648, v3648⟩ := hps
  have hm8 := hm.2.2.2.2.2.2.2
  have hbd : B0 ≤ dr := (hT.o26 hdT.1).1
  have hDR := hT.dr hdT hd3648
  have hP : va_P D vwCl [(dr, .inl (cs 0, 1383, .inl f3648))] _ := va_P.cons hd3648 va_P.nil
  refine lv_aload_n hx hb dX9_term_4 rfl (lv_at hl 0 rfl) ?_
  refine cv_i (As := []) (rest := []) (b := w) ⟨hx, hb, hml, hown, hts⟩ (c_X9_isGood hT (w := w) hw hbT hdT hm) (cwV 0 hts gX9_term_X9_isGood rfl rfl rfl hdX9_isGood_v ⟨Nat.le_of_ble_eq_true rfl, Nat.le_of_ble_eq_true rfl⟩) hN hE hL (rcv10 hN hT hw.1) rfl rfl hl.1 (Nat.le_of_ble_eq_true rfl) dX9_term_5 (Nat.zero_le _) (Nat.zero_le _) (fun r3650 H1 locs hL hqr3650 => ?_)
  obtain ⟨h9, hqr3650⟩ := hqr3650; replace h9 := h9.symm; subst h9
  rcases hqr3650 with ⟨rfl, e3651⟩ | ⟨rfl, e3652⟩
  · refine lv_if_eq (tgt := 74) hx hb dX9_term_8 (by decide) (fun c9 => absurd c9 (by decide)) (fun _ => ?_)
    refine lv_aload_n hx hb dX9_term_11 rfl (lv_at hl 0 rfl) ?_
    refine cv_i (As := []) (rest := []) (b := w) ⟨hx, hb, hml, hown, hts⟩ (c_X9_ahead hT (w := w) hw hbT hdT hm) (cwV 0 hts gX9_term_X9_ahead rfl rfl rfl hdX9_ahead_v ⟨Nat.le_of_ble_eq_true rfl, Nat.le_of_ble_eq_true rfl⟩) hN hE hL (rcv10 hN hT hw.1) rfl rfl hl.1 (Nat.le_of_ble_eq_true rfl) dX9_term_12 (Nat.zero_le _) (Nat.zero_le _) (fun r3653 H1 locs hL hqr3653 => ?_)
    obtain ⟨hT1, hF1, hqr3653⟩ := hqr3653
    have hP : va_P D vwCl [(dr, .inl (cs 0, 1383, .inl f3648))] _ := hF1.hP (hP.sub [0] rfl) (fa_c ⟨by rw [hdT.1]; decide, by rw [hdT.2]; first | decide | (simp; done) | (simp [h15a, h15b, h15c]; done) | (simp; omega)⟩ fa_n)
    have hF := hF.tr (hF1.mono (by simp))
    have hT := hT1
    obtain ⟨p3654, h3655, m3656, n3657, s3658, rfl⟩ := hqr3653
    have hm := m3656
    have hm8 := hm.2.2.2.2.2.2.2
    refine lv_bipush (v := 42) hx hb dX9_term_15 (by decide) ?_
    refine lv_icmp_eq (tgt := 29) hx hb dX9_term_17 (by decide) (fun c3659 => ?_) (fun c3659 => ?_)
    · have hl9 := byF_c (c3659) (by decide)
      refine lv_aload_n hx hb dX9_term_29 rfl (lv_at hl 0 rfl) ?_
      refine cv_i (As := []) (rest := []) (b := w) ⟨hx, hb, hml, hown, hts⟩ (c_X9_ahead hT (w := w) hw hbT hdT hm) (cwV 0 hts gX9_term_X9_ahead rfl rfl rfl hdX9_ahead_v ⟨Nat.le_of_ble_eq_true rfl, Nat.le_of_ble_eq_true rfl⟩) hN hE hL (rcv10 hN hT hw.1) rfl rfl hl.1 (Nat.le_of_ble_eq_true rfl) dX9_term_30 (Nat.zero_le _) (Nat.zero_le _) (fun r3660 H1 locs hL hqr3660 => ?_)
      obtain ⟨hT1, hF1, hqr3660⟩ := hqr3660
      have hP : va_P D vwCl [(dr, .inl (cs 0, 1383, .inl f3648))] _ := hF1.hP (hP.sub [0] rfl) (fa_c ⟨by rw [hdT.1]; decide, by rw [hdT.2]; first | decide | (simp; done) | (simp [h15a, h15b, h15c]; done) | (simp; omega)⟩ fa_n)
      have hF := hF.tr (hF1.mono (by simp))
      have hT := hT1
      obtain ⟨p3661, h3662, m3663, n3664, s3665, rfl⟩ := hqr3660
      have hm := m3663
      have hpe := s3665 n3657
      rw [hpe] at hm
      refine tp_i (byF g tl p3654) (by rw [hpe]) ?_
      have hm8 := hm.2.2.2.2.2.2.2
      refine lv_bipush (v := 42) hx hb dX9_term_33 (by decide) ?_
      refine lv_icmp_ne (tgt := 42) hx hb dX9_term_35 (by decide) (fun c3666 => ?_) (fun c3666 => ?_)
      · refine lv_iconst (v := 0) hx hb dX9_term_42 (by decide) ?_
        refine lv_istore_n (lv' := [(1, .int 0), (0, .ref w)]) hx hb dX9_term_43 rfl hl (by decide) rfl (fun ls hl => ?_)
        refine lv_aload_n hx hb dX9_term_44 rfl (lv_at hl 1 rfl) ?_
        refine lv_dup hx hb dX9_term_45 rfl ?_
        obtain ⟨hb3667, e3667, hat3667, hk3667⟩ := hT.o10 hw.1
        obtain ⟨f3667_0, f3667_1, f3667_3, f3667_4, f3667_5, f3667_6, f3667_7, f3667_9, f3667_10, f3667_11, f3667_12, f3667_13, f3667_14, f3667_15, f3667_16, f3667_17, rfl, c3667_2, c3667_3, c3667_4, c3667_12, t3667_1, t3667_8, t3667_9, c3667_sd, t3667_10, t3667_11, t3667_17⟩ := hk3667
        obtain ⟨rfl, rfl, rfl, rfl, rfl, rfl⟩ := hm.at hat3667 c3667_3 (by omega)
        have hm8 := hm.2.2.2.2.2.2.2
        have hP : va_P D vwCl [(w, .inr (9, [.int f3667_0, .ref bu, .int (nI ((κ w).2.2.1)), .int (nI tl), .int (nI p3654), .int er1, .int f3667_6, .int f3667_7, .ref (κ w).2.2.2, .ref f3667_9, .ref dr, .ref f3667_11, .int (nI f3667_12), .int f3667_13, .int 1, .int f3667_15, .int f3667_16, .ref f3667_17])), (dr, .inl (cs 0, 1383, .inl f3648))] _ := va_P.cons hat3667 hP
        refine va_get (D := D) (ci := 9) (v := .int (nI p3654)) (C := RX9) (T := TX9) (N := 18) hx hb hts iX9_term_9 hown hN.1 hP 0 rfl rfl 4 (by decide) (hts _ mX9_term_1) (fun _ h9 => h9) rfl dX9_term_46 ?_
        refine lv_iconst (v := 1) hx hb dX9_term_49 (by decide) ?_
        refine lv_iadd hx hb dX9_term_50 ?_
        refine tp_i (nI (p3654 + 1)) (nI_add p3654 1) ?_
        have hB : Bx B0 D _ [(w, .inr (9, [.int f3667_0, .ref bu, .int (nI ((κ w).2.2.1)), .int (nI tl), .int (nI p3654), .int er1, .int f3667_6, .int f3667_7, .ref (κ w).2.2.2, .ref f3667_9, .ref dr, .ref f3667_11, .int (nI f3667_12), .int f3667_13, .int 1, .int f3667_15, .int f3667_16, .ref f3667_17])), (dr, .inl (cs 0, 1383, .inl f3648))] [] _ _ := Bx.of (fun a => (κ a).1) hL hP (fa_c hb3667 (fa_c hbd fa_n)) (by simp only [List.map_cons, List.map_nil, hw.1, hdT.1]; decide)
        refine b_put (D := D) (ci := 9) (v := .int (nI (p3654 + 1))) (ty := .int) (C := RX9) (T := TX9) (N := 18) hx hb hts iX9_term_9 tyX9 tyX9_ok nmX9 hown hN hB 0 rfl rfl 4 (by decide) (hts _ mX9_term_1) (fun _ h9 => h9) rfl (by decide +kernel) rfl rfl (Nat.le_of_ble_eq_true rfl) (.inl rfl) dX9_term_51 (fun H locs hB => ?_)
        have hB : Bx B0 D _ [(w, .inr (9, [.int f3667_0, .ref bu, .int (nI ((κ w).2.2.1)), .int (nI tl), .int (nI (p3654 + 1)), .int er1, .int f3667_6, .int f3667_7, .ref (κ w).2.2.2, .ref f3667_9, .ref dr, .ref f3667_11, .int (nI f3667_12), .int f3667_13, .int 1, .int f3667_15, .int f3667_16, .ref f3667_17])), (dr, .inl (cs 0, 1383, .inl f3648))] [w] _ _ := hB
        refine lv_aload_n hx hb dX9_term_54 rfl (lv_at hl 1 rfl) ?_
        have hT : WT B0 D cs T κ _ := hT.close hB ⟨⟨0, _, rfl, ok_10 hw.1 ⟨_, _, _, _, _, _, _, _, _, _, _, _, _, _, _, _, rfl, (by omega), (by omega), (by omega), (by omega), hbT, t3667_8, t3667_9, c3667_sd, hdT, t3667_11, t3667_17⟩⟩, trivial⟩
        have hF : Fr B0 [12, 17] κ H0 _ := hF.close hB (fa_c (by simp [hw.2]) fa_n)
        have hL : OkL B0 _ := hB.2.2.2.2.2
        have hP : va_P D vwCl [(w, .inr (9, [.int f3667_0, .ref bu, .int (nI ((κ w).2.2.1)), .int (nI tl), .int (nI (p3654 + 1)), .int er1, .int f3667_6, .int f3667_7, .ref (κ w).2.2.2, .ref f3667_9, .ref dr, .ref f3667_11, .int (nI f3667_12), .int f3667_13, .int 1, .int f3667_15, .int f3667_16, .ref f3667_17])), (dr, .inl (cs 0, 1383, .inl f3648))] _ := hB.1
        have hbu9 := (hm.2.2.2.2.2.2.1).kept (hB.2.2.2.1 _ hm.2.2.2.2.2.2.1.lt (by simp only [List.mem_cons, List.not_mem_nil, or_false, not_or]; exact ne_c hbT.1 hw.1 (by decide)))
        have hm : MF D cs w _ ((p3654 + 1)) (tl) (er1) (1) dr bu g := ⟨⟨_, hP 0 _ rfl, rfl⟩, ⟨_, hP 0 _ rfl, rfl⟩, ⟨_, hP 0 _ rfl, rfl⟩, ⟨_, hP 0 _ rfl, rfl⟩, ⟨_, hP 0 _ rfl, rfl⟩, ⟨_, hP 0 _ rfl, rfl⟩, hbu9, (by omega), (by omega)⟩
        have hps : PS D cs w _ ((p3654 + 1)) (tl) (er1) (1) dr bu g (N1) ((h + 1)) := ⟨hm, f3648, hP 1 _ rfl, e3648, by omega, v3648⟩
        refine cv_v (As := []) (rest := []) (b := w) ⟨hx, hb, hml, hown, hts⟩ (c_X9_factor_d1 hT (w := w) hw hbT hdT hps) (cwV 0 hts gX9_term_X9_factor rfl rfl rfl hdX9_factor_v ⟨Nat.le_of_ble_eq_true rfl, Nat.le_of_ble_eq_true rfl⟩) hN hE hL (rcv10 hN hT hw.1) rfl rfl hl.1 (Nat.le_of_ble_eq_true rfl) dX9_term_55 (Nat.zero_le _) (Nat.zero_le _) (fun H1 locs hL hqr3668 => ?_)
        obtain ⟨hT1, hF1, hqr3668⟩ := hqr3668
        have hF := hF.tr (hF1.mono (by simp))
        have hT := hT1
        obtain ⟨N3669, p3670, er3671, a3672, b3673, z3674, m3675, f3676, d3677, e3678, n3679, v3680⟩ := hqr3668
        have hm := m3675
        have hm8 := hm.2.2.2.2.2.2.2
        have hbd : B0 ≤ dr := (hT.o26 hdT.1).1
        have hDR := hT.dr hdT d3677
        have hP : va_P D vwCl [(dr, .inl (cs 0, 1383, .inl f3676))] _ := va_P.cons d3677 va_P.nil
        refine lv_aload_n hx hb dX9_term_58 rfl (lv_at hl 1 rfl) ?_
        refine lv_iload_n hx hb dX9_term_59 rfl (lv_at hl 0 rfl) ?_
        refine lv_if_eq (tgt := 67) hx hb dX9_term_60 (by decide) (fun _ => ?_) (fun c9 => absurd (by decide) c9)
        refine lv_iconst (v := 5) hx hb dX9_term_67 (by decide) ?_
        refine cv_v (As := [.int 5]) (rest := []) (b := w) ⟨hx, hb, hml, hown, hts⟩ (c_X9_emit hT (w := w) hw (x := 5) hbT hdT hm (hP 0 _ rfl) e3678 (fun _ => by omega)) (cwV 1 hts gX9_term_X9_emit rfl rfl rfl hdX9_emit_v ⟨Nat.le_of_ble_eq_true rfl, Nat.le_of_ble_eq_true rfl⟩) hN hE hL (rcv10 hN hT hw.1) rfl rfl hl.1 (Nat.le_of_ble_eq_true rfl) dX9_term_68 (Nat.zero_le _) (Nat.zero_le _) (fun H1 locs hL hqr3682 => ?_)
        obtain ⟨hT1, hF1, hqr3682⟩ := hqr3682
        have hF := hF.tr (hF1.mono (by simp))
        have hT := hT1
        obtain ⟨f3683, N3684, d3685, e3686, x3687, m3688⟩ := hqr3682
        have hm := m3688
        have hm8 := hm.2.2.2.2.2.2.2
        have nx3687 := x3687.n
        have ox3687 := nx3687.1
        have hbd : B0 ≤ dr := (hT.o26 hdT.1).1
        have hDR := hT.dr hdT d3685
        have hP : va_P D vwCl [(dr, .inl (cs 0, 1383, .inl f3683))] _ := va_P.cons d3685 va_P.nil
        refine lv_goto (tgt := 4) hx hb dX9_term_71 (by decide) ?_
        have hps : PS D cs w _ (p3670) (tl) (er3671) (1) dr bu g (N3684) ((h + 1)) := ⟨hm, f3683, hP 0 _ rfl, e3686, by omega, (EM.op x3687 (by decide) v3680)⟩
        exact ih3647 (p3670, N3684, er3671) _ _ _ (by show 600 - (p3670) < 600 - p; omega) ⟨hps, (by show (N3684) + 2 * pos ≤ N + 2 * (p3670); omega), (by show pos ≤ (p3670); omega), (fun e9 => hz1 (z3674 e9)), hT, hF, hL⟩ (lv_sub hl [1] rfl)
      · refine lv_iconst (v := 1) hx hb dX9_term_38 (by decide) ?_
        refine lv_goto (tgt := 43) hx hb dX9_term_39 (by decide) ?_
        refine lv_istore_n (lv' := [(1, .int 1), (0, .ref w)]) hx hb dX9_term_43 rfl hl (by decide) rfl (fun ls hl => ?_)
        refine lv_aload_n hx hb dX9_term_44 rfl (lv_at hl 1 rfl) ?_
        refine lv_dup hx hb dX9_term_45 rfl ?_
        obtain ⟨hb3690, e3690, hat3690, hk3690⟩ := hT.o10 hw.1
        obtain ⟨f3690_0, f3690_1, f3690_3, f3690_4, f3690_5, f3690_6, f3690_7, f3690_9, f3690_10, f3690_11, f3690_12, f3690_13, f3690_14, f3690_15, f3690_16, f3690_17, rfl, c3690_2, c3690_3, c3690_4, c3690_12, t3690_1, t3690_8, t3690_9, c3690_sd, t3690_10, t3690_11, t3690_17⟩ := hk3690
        obtain ⟨rfl, rfl, rfl, rfl, rfl, rfl⟩ := hm.at hat3690 c3690_3 (by omega)
        have hm8 := hm.2.2.2.2.2.2.2
        have hP : va_P D vwCl [(w, .inr (9, [.int f3690_0, .ref bu, .int (nI ((κ w).2.2.1)), .int (nI tl), .int (nI p3654), .int er1, .int f3690_6, .int f3690_7, .ref (κ w).2.2.2, .ref f3690_9, .ref dr, .ref f3690_11, .int (nI f3690_12), .int f3690_13, .int 1, .int f3690_15, .int f3690_16, .ref f3690_17])), (dr, .inl (cs 0, 1383, .inl f3648))] _ := va_P.cons hat3690 hP
        refine va_get (D := D) (ci := 9) (v := .int (nI p3654)) (C := RX9) (T := TX9) (N := 18) hx hb hts iX9_term_9 hown hN.1 hP 0 rfl rfl 4 (by decide) (hts _ mX9_term_1) (fun _ h9 => h9) rfl dX9_term_46 ?_
        refine lv_iconst (v := 1) hx hb dX9_term_49 (by decide) ?_
        refine lv_iadd hx hb dX9_term_50 ?_
        refine tp_i (nI (p3654 + 1)) (nI_add p3654 1) ?_
        have hB : Bx B0 D _ [(w, .inr (9, [.int f3690_0, .ref bu, .int (nI ((κ w).2.2.1)), .int (nI tl), .int (nI p3654), .int er1, .int f3690_6, .int f3690_7, .ref (κ w).2.2.2, .ref f3690_9, .ref dr, .ref f3690_11, .int (nI f3690_12), .int f3690_13, .int 1, .int f3690_15, .int f3690_16, .ref f3690_17])), (dr, .inl (cs 0, 1383, .inl f3648))] [] _ _ := Bx.of (fun a => (κ a).1) hL hP (fa_c hb3690 (fa_c hbd fa_n)) (by simp only [List.map_cons, List.map_nil, hw.1, hdT.1]; decide)
        refine b_put (D := D) (ci := 9) (v := .int (nI (p3654 + 1))) (ty := .int) (C := RX9) (T := TX9) (N := 18) hx hb hts iX9_term_9 tyX9 tyX9_ok nmX9 hown hN hB 0 rfl rfl 4 (by decide) (hts _ mX9_term_1) (fun _ h9 => h9) rfl (by decide +kernel) rfl rfl (Nat.le_of_ble_eq_true rfl) (.inl rfl) dX9_term_51 (fun H locs hB => ?_)
        have hB : Bx B0 D _ [(w, .inr (9, [.int f3690_0, .ref bu, .int (nI ((κ w).2.2.1)), .int (nI tl), .int (nI (p3654 + 1)), .int er1, .int f3690_6, .int f3690_7, .ref (κ w).2.2.2, .ref f3690_9, .ref dr, .ref f3690_11, .int (nI f3690_12), .int f3690_13, .int 1, .int f3690_15, .int f3690_16, .ref f3690_17])), (dr, .inl (cs 0, 1383, .inl f3648))] [w] _ _ := hB
        refine lv_aload_n hx hb dX9_term_54 rfl (lv_at hl 1 rfl) ?_
        have hT : WT B0 D cs T κ _ := hT.close hB ⟨⟨0, _, rfl, ok_10 hw.1 ⟨_, _, _, _, _, _, _, _, _, _, _, _, _, _, _, _, rfl, (by omega), (by omega), (by omega), (by omega), hbT, t3690_8, t3690_9, c3690_sd, hdT, t3690_11, t3690_17⟩⟩, trivial⟩
        have hF : Fr B0 [12, 17] κ H0 _ := hF.close hB (fa_c (by simp [hw.2]) fa_n)
        have hL : OkL B0 _ := hB.2.2.2.2.2
        have hP : va_P D vwCl [(w, .inr (9, [.int f3690_0, .ref bu, .int (nI ((κ w).2.2.1)), .int (nI tl), .int (nI (p3654 + 1)), .int er1, .int f3690_6, .int f3690_7, .ref (κ w).2.2.2, .ref f3690_9, .ref dr, .ref f3690_11, .int (nI f3690_12), .int f3690_13, .int 1, .int f3690_15, .int f3690_16, .ref f3690_17])), (dr, .inl (cs 0, 1383, .inl f3648))] _ := hB.1
        have hbu9 := (hm.2.2.2.2.2.2.1).kept (hB.2.2.2.1 _ hm.2.2.2.2.2.2.1.lt (by simp only [List.mem_cons, List.not_mem_nil, or_false, not_or]; exact ne_c hbT.1 hw.1 (by decide)))
        have hm : MF D cs w _ ((p3654 + 1)) (tl) (er1) (1) dr bu g := ⟨⟨_, hP 0 _ rfl, rfl⟩, ⟨_, hP 0 _ rfl, rfl⟩, ⟨_, hP 0 _ rfl, rfl⟩, ⟨_, hP 0 _ rfl, rfl⟩, ⟨_, hP 0 _ rfl, rfl⟩, ⟨_, hP 0 _ rfl, rfl⟩, hbu9, (by omega), (by omega)⟩
        have hps : PS D cs w _ ((p3654 + 1)) (tl) (er1) (1) dr bu g (N1) ((h + 1)) := ⟨hm, f3648, hP 1 _ rfl, e3648, by omega, v3648⟩
        refine cv_v (As := []) (rest := []) (b := w) ⟨hx, hb, hml, hown, hts⟩ (c_X9_factor_d1 hT (w := w) hw hbT hdT hps) (cwV 0 hts gX9_term_X9_factor rfl rfl rfl hdX9_factor_v ⟨Nat.le_of_ble_eq_true rfl, Nat.le_of_ble_eq_true rfl⟩) hN hE hL (rcv10 hN hT hw.1) rfl rfl hl.1 (Nat.le_of_ble_eq_true rfl) dX9_term_55 (Nat.zero_le _) (Nat.zero_le _) (fun H1 locs hL hqr3691 => ?_)
        obtain ⟨hT1, hF1, hqr3691⟩ := hqr3691
        have hF := hF.tr (hF1.mono (by simp))
        have hT := hT1
        obtain ⟨N3692, p3693, er3694, a3695, b3696, z3697, m3698, f3699, d3700, e3701, n3702, v3703⟩ := hqr3691
        have hm := m3698
        have hm8 := hm.2.2.2.2.2.2.2
        have hbd : B0 ≤ dr := (hT.o26 hdT.1).1
        have hDR := hT.dr hdT d3700
        have hP : va_P D vwCl [(dr, .inl (cs 0, 1383, .inl f3699))] _ := va_P.cons d3700 va_P.nil
        refine lv_aload_n hx hb dX9_term_58 rfl (lv_at hl 1 rfl) ?_
        refine lv_iload_n hx hb dX9_term_59 rfl (lv_at hl 0 rfl) ?_
        refine lv_if_eq (tgt := 67) hx hb dX9_term_60 (by decide) (fun c9 => absurd c9 (by decide)) (fun _ => ?_)
        refine lv_iconst (v := 4) hx hb dX9_term_63 (by decide) ?_
        refine lv_goto (tgt := 68) hx hb dX9_term_64 (by decide) ?_
        refine cv_v (As := [.int 4]) (rest := []) (b := w) ⟨hx, hb, hml, hown, hts⟩ (c_X9_emit hT (w := w) hw (x := 4) hbT hdT hm (hP 0 _ rfl) e3701 (fun _ => by omega)) (cwV 1 hts gX9_term_X9_emit rfl rfl rfl hdX9_emit_v ⟨Nat.le_of_ble_eq_true rfl, Nat.le_of_ble_eq_true rfl⟩) hN hE hL (rcv10 hN hT hw.1) rfl rfl hl.1 (Nat.le_of_ble_eq_true rfl) dX9_term_68 (Nat.zero_le _) (Nat.zero_le _) (fun H1 locs hL hqr3705 => ?_)
        obtain ⟨hT1, hF1, hqr3705⟩ := hqr3705
        have hF := hF.tr (hF1.mono (by simp))
        have hT := hT1
        obtain ⟨f3706, N3707, d3708, e3709, x3710, m3711⟩ := hqr3705
        have hm := m3711
        have hm8 := hm.2.2.2.2.2.2.2
        have nx3710 := x3710.n
        have ox3710 := nx3710.1
        have hbd : B0 ≤ dr := (hT.o26 hdT.1).1
        have hDR := hT.dr hdT d3708
        have hP : va_P D vwCl [(dr, .inl (cs 0, 1383, .inl f3706))] _ := va_P.cons d3708 va_P.nil
        refine lv_goto (tgt := 4) hx hb dX9_term_71 (by decide) ?_
        have hps : PS D cs w _ (p3693) (tl) (er3694) (1) dr bu g (N3707) ((h + 1)) := ⟨hm, f3706, hP 0 _ rfl, e3709, by omega, (EM.op x3710 (by decide) v3703)⟩
        exact ih3647 (p3693, N3707, er3694) _ _ _ (by show 600 - (p3693) < 600 - p; omega) ⟨hps, (by show (N3707) + 2 * pos ≤ N + 2 * (p3693); omega), (by show pos ≤ (p3693); omega), (fun e9 => hz1 (z3697 e9)), hT, hF, hL⟩ (lv_sub hl [1] rfl)
    · refine lv_aload_n hx hb dX9_term_20 rfl (lv_at hl 0 rfl) ?_
      refine cv_i (As := []) (rest := []) (b := w) ⟨hx, hb, hml, hown, hts⟩ (c_X9_ahead hT (w := w) hw hbT hdT hm) (cwV 0 hts gX9_term_X9_ahead rfl rfl rfl hdX9_ahead_v ⟨Nat.le_of_ble_eq_true rfl, Nat.le_of_ble_eq_true rfl⟩) hN hE hL (rcv10 hN hT hw.1) rfl rfl hl.1 (Nat.le_of_ble_eq_true rfl) dX9_term_21 (Nat.zero_le _) (Nat.zero_le _) (fun r3713 H1 locs hL hqr3713 => ?_)
      obtain ⟨hT1, hF1, hqr3713⟩ := hqr3713
      have hP : va_P D vwCl [(dr, .inl (cs 0, 1383, .inl f3648))] _ := hF1.hP (hP.sub [0] rfl) (fa_c ⟨by rw [hdT.1]; decide, by rw [hdT.2]; first | decide | (simp; done) | (simp [h15a, h15b, h15c]; done) | (simp; omega)⟩ fa_n)
      have hF := hF.tr (hF1.mono (by simp))
      have hT := hT1
      obtain ⟨p3714, h3715, m3716, n3717, s3718, rfl⟩ := hqr3713
      have hm := m3716
      have hpe := s3718 n3657
      rw [hpe] at hm
      refine tp_i (byF g tl p3654) (by rw [hpe]) ?_
      have hm8 := hm.2.2.2.2.2.2.2
      refine lv_bipush (v := 47) hx hb dX9_term_24 (by decide) ?_
      refine lv_icmp_ne (tgt := 74) hx hb dX9_term_26 (by decide) (fun c3719 => ?_) (fun c3719 => ?_)
      · have hps : PS D cs w _ (p3654) (tl) (er1) (1) dr bu g (N1) ((h + 1)) := ⟨hm, f3648, hP 0 _ rfl, e3648, by omega, v3648⟩
        exact en_v hx hb hr hlocks hL (Nat.zero_le _) (Nat.zero_le _) dX9_term_74 (⟨hT, hF, N1, p3654, er1, (by omega), (by omega), hz1, hps⟩)
      · have hl9 := byF_c (c3719) (by decide)
        refine lv_aload_n hx hb dX9_term_29 rfl (lv_at hl 0 rfl) ?_
        refine cv_i (As := []) (rest := []) (b := w) ⟨hx, hb, hml, hown, hts⟩ (c_X9_ahead hT (w := w) hw hbT hdT hm) (cwV 0 hts gX9_term_X9_ahead rfl rfl rfl hdX9_ahead_v ⟨Nat.le_of_ble_eq_true rfl, Nat.le_of_ble_eq_true rfl⟩) hN hE hL (rcv10 hN hT hw.1) rfl rfl hl.1 (Nat.le_of_ble_eq_true rfl) dX9_term_30 (Nat.zero_le _) (Nat.zero_le _) (fun r3720 H1 locs hL hqr3720 => ?_)
        obtain ⟨hT1, hF1, hqr3720⟩ := hqr3720
        have hP : va_P D vwCl [(dr, .inl (cs 0, 1383, .inl f3648))] _ := hF1.hP (hP.sub [0] rfl) (fa_c ⟨by rw [hdT.1]; decide, by rw [hdT.2]; first | decide | (simp; done) | (simp [h15a, h15b, h15c]; done) | (simp; omega)⟩ fa_n)
        have hF := hF.tr (hF1.mono (by simp))
        have hT := hT1
        obtain ⟨p3721, h3722, m3723, n3724, s3725, rfl⟩ := hqr3720
        have hm := m3723
        have hpe := s3725 n3657
        rw [hpe] at hm
        refine tp_i (byF g tl p3654) (by rw [hpe]) ?_
        have hm8 := hm.2.2.2.2.2.2.2
        refine lv_bipush (v := 42) hx hb dX9_term_33 (by decide) ?_
        refine lv_icmp_ne (tgt := 42) hx hb dX9_term_35 (by decide) (fun c3726 => ?_) (fun c3726 => ?_)
        · refine lv_iconst (v := 0) hx hb dX9_term_42 (by decide) ?_
          refine lv_istore_n (lv' := [(1, .int 0), (0, .ref w)]) hx hb dX9_term_43 rfl hl (by decide) rfl (fun ls hl => ?_)
          refine lv_aload_n hx hb dX9_term_44 rfl (lv_at hl 1 rfl) ?_
          refine lv_dup hx hb dX9_term_45 rfl ?_
          obtain ⟨hb3727, e3727, hat3727, hk3727⟩ := hT.o10 hw.1
          obtain ⟨f3727_0, f3727_1, f3727_3, f3727_4, f3727_5, f3727_6, f3727_7, f3727_9, f3727_10, f3727_11, f3727_12, f3727_13, f3727_14, f3727_15, f3727_16, f3727_17, rfl, c3727_2, c3727_3, c3727_4, c3727_12, t3727_1, t3727_8, t3727_9, c3727_sd, t3727_10, t3727_11, t3727_17⟩ := hk3727
          obtain ⟨rfl, rfl, rfl, rfl, rfl, rfl⟩ := hm.at hat3727 c3727_3 (by omega)
          have hm8 := hm.2.2.2.2.2.2.2
          have hP : va_P D vwCl [(w, .inr (9, [.int f3727_0, .ref bu, .int (nI ((κ w).2.2.1)), .int (nI tl), .int (nI p3654), .int er1, .int f3727_6, .int f3727_7, .ref (κ w).2.2.2, .ref f3727_9, .ref dr, .ref f3727_11, .int (nI f3727_12), .int f3727_13, .int 1, .int f3727_15, .int f3727_16, .ref f3727_17])), (dr, .inl (cs 0, 1383, .inl f3648))] _ := va_P.cons hat3727 hP
          refine va_get (D := D) (ci := 9) (v := .int (nI p3654)) (C := RX9) (T := TX9) (N := 18) hx hb hts iX9_term_9 hown hN.1 hP 0 rfl rfl 4 (by decide) (hts _ mX9_term_1) (fun _ h9 => h9) rfl dX9_term_46 ?_
          refine lv_iconst (v := 1) hx hb dX9_term_49 (by decide) ?_
          refine lv_iadd hx hb dX9_term_50 ?_
          refine tp_i (nI (p3654 + 1)) (nI_add p3654 1) ?_
          have hB : Bx B0 D _ [(w, .inr (9, [.int f3727_0, .ref bu, .int (nI ((κ w).2.2.1)), .int (nI tl), .int (nI p3654), .int er1, .int f3727_6, .int f3727_7, .ref (κ w).2.2.2, .ref f3727_9, .ref dr, .ref f3727_11, .int (nI f3727_12), .int f3727_13, .int 1, .int f3727_15, .int f3727_16, .ref f3727_17])), (dr, .inl (cs 0, 1383, .inl f3648))] [] _ _ := Bx.of (fun a => (κ a).1) hL hP (fa_c hb3727 (fa_c hbd fa_n)) (by simp only [List.map_cons, List.map_nil, hw.1, hdT.1]; decide)
          refine b_put (D := D) (ci := 9) (v := .int (nI (p3654 + 1))) (ty := .int) (C := RX9) (T := TX9) (N := 18) hx hb hts iX9_term_9 tyX9 tyX9_ok nmX9 hown hN hB 0 rfl rfl 4 (by decide) (hts _ mX9_term_1) (fun _ h9 => h9) rfl (by decide +kernel) rfl rfl (Nat.le_of_ble_eq_true rfl) (.inl rfl) dX9_term_51 (fun H locs hB => ?_)
          have hB : Bx B0 D _ [(w, .inr (9, [.int f3727_0, .ref bu, .int (nI ((κ w).2.2.1)), .int (nI tl), .int (nI (p3654 + 1)), .int er1, .int f3727_6, .int f3727_7, .ref (κ w).2.2.2, .ref f3727_9, .ref dr, .ref f3727_11, .int (nI f3727_12), .int f3727_13, .int 1, .int f3727_15, .int f3727_16, .ref f3727_17])), (dr, .inl (cs 0, 1383, .inl f3648))] [w] _ _ := hB
          refine lv_aload_n hx hb dX9_term_54 rfl (lv_at hl 1 rfl) ?_
          have hT : WT B0 D cs T κ _ := hT.close hB ⟨⟨0, _, rfl, ok_10 hw.1 ⟨_, _, _, _, _, _, _, _, _, _, _, _, _, _, _, _, rfl, (by omega), (by omega), (by omega), (by omega), hbT, t3727_8, t3727_9, c3727_sd, hdT, t3727_11, t3727_17⟩⟩, trivial⟩
          have hF : Fr B0 [12, 17] κ H0 _ := hF.close hB (fa_c (by simp [hw.2]) fa_n)
          have hL : OkL B0 _ := hB.2.2.2.2.2
          have hP : va_P D vwCl [(w, .inr (9, [.int f3727_0, .ref bu, .int (nI ((κ w).2.2.1)), .int (nI tl), .int (nI (p3654 + 1)), .int er1, .int f3727_6, .int f3727_7, .ref (κ w).2.2.2, .ref f3727_9, .ref dr, .ref f3727_11, .int (nI f3727_12), .int f3727_13, .int 1, .int f3727_15, .int f3727_16, .ref f3727_17])), (dr, .inl (cs 0, 1383, .inl f3648))] _ := hB.1
          have hbu9 := (hm.2.2.2.2.2.2.1).kept (hB.2.2.2.1 _ hm.2.2.2.2.2.2.1.lt (by simp only [List.mem_cons, List.not_mem_nil, or_false, not_or]; exact ne_c hbT.1 hw.1 (by decide)))
          have hm : MF D cs w _ ((p3654 + 1)) (tl) (er1) (1) dr bu g := ⟨⟨_, hP 0 _ rfl, rfl⟩, ⟨_, hP 0 _ rfl, rfl⟩, ⟨_, hP 0 _ rfl, rfl⟩, ⟨_, hP 0 _ rfl, rfl⟩, ⟨_, hP 0 _ rfl, rfl⟩, ⟨_, hP 0 _ rfl, rfl⟩, hbu9, (by omega), (by omega)⟩
          have hps : PS D cs w _ ((p3654 + 1)) (tl) (er1) (1) dr bu g (N1) ((h + 1)) := ⟨hm, f3648, hP 1 _ rfl, e3648, by omega, v3648⟩
          refine cv_v (As := []) (rest := []) (b := w) ⟨hx, hb, hml, hown, hts⟩ (c_X9_factor_d1 hT (w := w) hw hbT hdT hps) (cwV 0 hts gX9_term_X9_factor rfl rfl rfl hdX9_factor_v ⟨Nat.le_of_ble_eq_true rfl, Nat.le_of_ble_eq_true rfl⟩) hN hE hL (rcv10 hN hT hw.1) rfl rfl hl.1 (Nat.le_of_ble_eq_true rfl) dX9_term_55 (Nat.zero_le _) (Nat.zero_le _) (fun H1 locs hL hqr3728 => ?_)
          obtain ⟨hT1, hF1, hqr3728⟩ := hqr3728
          have hF := hF.tr (hF1.mono (by simp))
          have hT := hT1
          obtain ⟨N3729, p3730, er3731, a3732, b3733, z3734, m3735, f3736, d3737, e3738, n3739, v3740⟩ := hqr3728
          have hm := m3735
          have hm8 := hm.2.2.2.2.2.2.2
          have hbd : B0 ≤ dr := (hT.o26 hdT.1).1
          have hDR := hT.dr hdT d3737
          have hP : va_P D vwCl [(dr, .inl (cs 0, 1383, .inl f3736))] _ := va_P.cons d3737 va_P.nil
          refine lv_aload_n hx hb dX9_term_58 rfl (lv_at hl 1 rfl) ?_
          refine lv_iload_n hx hb dX9_term_59 rfl (lv_at hl 0 rfl) ?_
          refine lv_if_eq (tgt := 67) hx hb dX9_term_60 (by decide) (fun _ => ?_) (fun c9 => absurd (by decide) c9)
          refine lv_iconst (v := 5) hx hb dX9_term_67 (by decide) ?_
          refine cv_v (As := [.int 5]) (rest := []) (b := w) ⟨hx, hb, hml, hown, hts⟩ (c_X9_emit hT (w := w) hw (x := 5) hbT hdT hm (hP 0 _ rfl) e3738 (fun _ => by omega)) (cwV 1 hts gX9_term_X9_emit rfl rfl rfl hdX9_emit_v ⟨Nat.le_of_ble_eq_true rfl, Nat.le_of_ble_eq_true rfl⟩) hN hE hL (rcv10 hN hT hw.1) rfl rfl hl.1 (Nat.le_of_ble_eq_true rfl) dX9_term_68 (Nat.zero_le _) (Nat.zero_le _) (fun H1 locs hL hqr3742 => ?_)
          obtain ⟨hT1, hF1, hqr3742⟩ := hqr3742
          have hF := hF.tr (hF1.mono (by simp))
          have hT := hT1
          obtain ⟨f3743, N3744, d3745, e3746, x3747, m3748⟩ := hqr3742
          have hm := m3748
          have hm8 := hm.2.2.2.2.2.2.2
          have nx3747 := x3747.n
          have ox3747 := nx3747.1
          have hbd : B0 ≤ dr := (hT.o26 hdT.1).1
          have hDR := hT.dr hdT d3745
          have hP : va_P D vwCl [(dr, .inl (cs 0, 1383, .inl f3743))] _ := va_P.cons d3745 va_P.nil
          refine lv_goto (tgt := 4) hx hb dX9_term_71 (by decide) ?_
          have hps : PS D cs w _ (p3730) (tl) (er3731) (1) dr bu g (N3744) ((h + 1)) := ⟨hm, f3743, hP 0 _ rfl, e3746, by omega, (EM.op x3747 (by decide) v3740)⟩
          exact ih3647 (p3730, N3744, er3731) _ _ _ (by show 600 - (p3730) < 600 - p; omega) ⟨hps, (by show (N3744) + 2 * pos ≤ N + 2 * (p3730); omega), (by show pos ≤ (p3730); omega), (fun e9 => hz1 (z3734 e9)), hT, hF, hL⟩ (lv_sub hl [1] rfl)
        · refine lv_iconst (v := 1) hx hb dX9_term_38 (by decide) ?_
          refine lv_goto (tgt := 43) hx hb dX9_term_39 (by decide) ?_
          refine lv_istore_n (lv' := [(1, .int 1), (0, .ref w)]) hx hb dX9_term_43 rfl hl (by decide) rfl (fun ls hl => ?_)
          refine lv_aload_n hx hb dX9_term_44 rfl (lv_at hl 1 rfl) ?_
          refine lv_dup hx hb dX9_term_45 rfl ?_
          obtain ⟨hb3750, e3750, hat3750, hk3750⟩ := hT.o10 hw.1
          obtain ⟨f3750_0, f3750_1, f3750_3, f3750_4, f3750_5, f3750_6, f3750_7, f3750_9, f3750_10, f3750_11, f3750_12, f3750_13, f3750_14, f3750_15, f3750_16, f3750_17, rfl, c3750_2, c3750_3, c3750_4, c3750_12, t3750_1, t3750_8, t3750_9, c3750_sd, t3750_10, t3750_11, t3750_17⟩ := hk3750
          obtain ⟨rfl, rfl, rfl, rfl, rfl, rfl⟩ := hm.at hat3750 c3750_3 (by omega)
          have hm8 := hm.2.2.2.2.2.2.2
          have hP : va_P D vwCl [(w, .inr (9, [.int f3750_0, .ref bu, .int (nI ((κ w).2.2.1)), .int (nI tl), .int (nI p3654), .int er1, .int f3750_6, .int f3750_7, .ref (κ w).2.2.2, .ref f3750_9, .ref dr, .ref f3750_11, .int (nI f3750_12), .int f3750_13, .int 1, .int f3750_15, .int f3750_16, .ref f3750_17])), (dr, .inl (cs 0, 1383, .inl f3648))] _ := va_P.cons hat3750 hP
          refine va_get (D := D) (ci := 9) (v := .int (nI p3654)) (C := RX9) (T := TX9) (N := 18) hx hb hts iX9_term_9 hown hN.1 hP 0 rfl rfl 4 (by decide) (hts _ mX9_term_1) (fun _ h9 => h9) rfl dX9_term_46 ?_
          refine lv_iconst (v := 1) hx hb dX9_term_49 (by decide) ?_
          refine lv_iadd hx hb dX9_term_50 ?_
          refine tp_i (nI (p3654 + 1)) (nI_add p3654 1) ?_
          have hB : Bx B0 D _ [(w, .inr (9, [.int f3750_0, .ref bu, .int (nI ((κ w).2.2.1)), .int (nI tl), .int (nI p3654), .int er1, .int f3750_6, .int f3750_7, .ref (κ w).2.2.2, .ref f3750_9, .ref dr, .ref f3750_11, .int (nI f3750_12), .int f3750_13, .int 1, .int f3750_15, .int f3750_16, .ref f3750_17])), (dr, .inl (cs 0, 1383, .inl f3648))] [] _ _ := Bx.of (fun a => (κ a).1) hL hP (fa_c hb3750 (fa_c hbd fa_n)) (by simp only [List.map_cons, List.map_nil, hw.1, hdT.1]; decide)
          refine b_put (D := D) (ci := 9) (v := .int (nI (p3654 + 1))) (ty := .int) (C := RX9) (T := TX9) (N := 18) hx hb hts iX9_term_9 tyX9 tyX9_ok nmX9 hown hN hB 0 rfl rfl 4 (by decide) (hts _ mX9_term_1) (fun _ h9 => h9) rfl (by decide +kernel) rfl rfl (Nat.le_of_ble_eq_true rfl) (.inl rfl) dX9_term_51 (fun H locs hB => ?_)
          have hB : Bx B0 D _ [(w, .inr (9, [.int f3750_0, .ref bu, .int (nI ((κ w).2.2.1)), .int (nI tl), .int (nI (p3654 + 1)), .int er1, .int f3750_6, .int f3750_7, .ref (κ w).2.2.2, .ref f3750_9, .ref dr, .ref f3750_11, .int (nI f3750_12), .int f3750_13, .int 1, .int f3750_15, .int f3750_16, .ref f3750_17])), (dr, .inl (cs 0, 1383, .inl f3648))] [w] _ _ := hB
          refine lv_aload_n hx hb dX9_term_54 rfl (lv_at hl 1 rfl) ?_
          have hT : WT B0 D cs T κ _ := hT.close hB ⟨⟨0, _, rfl, ok_10 hw.1 ⟨_, _, _, _, _, _, _, _, _, _, _, _, _, _, _, _, rfl, (by omega), (by omega), (by omega), (by omega), hbT, t3750_8, t3750_9, c3750_sd, hdT, t3750_11, t3750_17⟩⟩, trivial⟩
          have hF : Fr B0 [12, 17] κ H0 _ := hF.close hB (fa_c (by simp [hw.2]) fa_n)
          have hL : OkL B0 _ := hB.2.2.2.2.2
          have hP : va_P D vwCl [(w, .inr (9, [.int f3750_0, .ref bu, .int (nI ((κ w).2.2.1)), .int (nI tl), .int (nI (p3654 + 1)), .int er1, .int f3750_6, .int f3750_7, .ref (κ w).2.2.2, .ref f3750_9, .ref dr, .ref f3750_11, .int (nI f3750_12), .int f3750_13, .int 1, .int f3750_15, .int f3750_16, .ref f3750_17])), (dr, .inl (cs 0, 1383, .inl f3648))] _ := hB.1
          have hbu9 := (hm.2.2.2.2.2.2.1).kept (hB.2.2.2.1 _ hm.2.2.2.2.2.2.1.lt (by simp only [List.mem_cons, List.not_mem_nil, or_false, not_or]; exact ne_c hbT.1 hw.1 (by decide)))
          have hm : MF D cs w _ ((p3654 + 1)) (tl) (er1) (1) dr bu g := ⟨⟨_, hP 0 _ rfl, rfl⟩, ⟨_, hP 0 _ rfl, rfl⟩, ⟨_, hP 0 _ rfl, rfl⟩, ⟨_, hP 0 _ rfl, rfl⟩, ⟨_, hP 0 _ rfl, rfl⟩, ⟨_, hP 0 _ rfl, rfl⟩, hbu9, (by omega), (by omega)⟩
          have hps : PS D cs w _ ((p3654 + 1)) (tl) (er1) (1) dr bu g (N1) ((h + 1)) := ⟨hm, f3648, hP 1 _ rfl, e3648, by omega, v3648⟩
          refine cv_v (As := []) (rest := []) (b := w) ⟨hx, hb, hml, hown, hts⟩ (c_X9_factor_d1 hT (w := w) hw hbT hdT hps) (cwV 0 hts gX9_term_X9_factor rfl rfl rfl hdX9_factor_v ⟨Nat.le_of_ble_eq_true rfl, Nat.le_of_ble_eq_true rfl⟩) hN hE hL (rcv10 hN hT hw.1) rfl rfl hl.1 (Nat.le_of_ble_eq_true rfl) dX9_term_55 (Nat.zero_le _) (Nat.zero_le _) (fun H1 locs hL hqr3751 => ?_)
          obtain ⟨hT1, hF1, hqr3751⟩ := hqr3751
          have hF := hF.tr (hF1.mono (by simp))
          have hT := hT1
          obtain ⟨N3752, p3753, er3754, a3755, b3756, z3757, m3758, f3759, d3760, e3761, n3762, v3763⟩ := hqr3751
          have hm := m3758
          have hm8 := hm.2.2.2.2.2.2.2
          have hbd : B0 ≤ dr := (hT.o26 hdT.1).1
          have hDR := hT.dr hdT d3760
          have hP : va_P D vwCl [(dr, .inl (cs 0, 1383, .inl f3759))] _ := va_P.cons d3760 va_P.nil
          refine lv_aload_n hx hb dX9_term_58 rfl (lv_at hl 1 rfl) ?_
          refine lv_iload_n hx hb dX9_term_59 rfl (lv_at hl 0 rfl) ?_
          refine lv_if_eq (tgt := 67) hx hb dX9_term_60 (by decide) (fun c9 => absurd c9 (by decide)) (fun _ => ?_)
          refine lv_iconst (v := 4) hx hb dX9_term_63 (by decide) ?_
          refine lv_goto (tgt := 68) hx hb dX9_term_64 (by decide) ?_
          refine cv_v (As := [.int 4]) (rest := []) (b := w) ⟨hx, hb, hml, hown, hts⟩ (c_X9_emit hT (w := w) hw (x := 4) hbT hdT hm (hP 0 _ rfl) e3761 (fun _ => by omega)) (cwV 1 hts gX9_term_X9_emit rfl rfl rfl hdX9_emit_v ⟨Nat.le_of_ble_eq_true rfl, Nat.le_of_ble_eq_true rfl⟩) hN hE hL (rcv10 hN hT hw.1) rfl rfl hl.1 (Nat.le_of_ble_eq_true rfl) dX9_term_68 (Nat.zero_le _) (Nat.zero_le _) (fun H1 locs hL hqr3765 => ?_)
          obtain ⟨hT1, hF1, hqr3765⟩ := hqr3765
          have hF := hF.tr (hF1.mono (by simp))
          have hT := hT1
          obtain ⟨f3766, N3767, d3768, e3769, x3770, m3771⟩ := hqr3765
          have hm := m3771
          have hm8 := hm.2.2.2.2.2.2.2
          have nx3770 := x3770.n
          have ox3770 := nx3770.1
          have hbd : B0 ≤ dr := (hT.o26 hdT.1).1
          have hDR := hT.dr hdT d3768
          have hP : va_P D vwCl [(dr, .inl (cs 0, 1383, .inl f3766))] _ := va_P.cons d3768 va_P.nil
          refine lv_goto (tgt := 4) hx hb dX9_term_71 (by decide) ?_
          have hps : PS D cs w _ (p3753) (tl) (er3754) (1) dr bu g (N3767) ((h + 1)) := ⟨hm, f3766, hP 0 _ rfl, e3769, by omega, (EM.op x3770 (by decide) v3763)⟩
          exact ih3647 (p3753, N3767, er3754) _ _ _ (by show 600 - (p3753) < 600 - p; omega) ⟨hps, (by show (N3767) + 2 * pos ≤ N + 2 * (p3753); omega), (by show pos ≤ (p3753); omega), (fun e9 => hz1 (z3757 e9)), hT, hF, hL⟩ (lv_sub hl [1] rfl)
  · refine lv_if_eq (tgt := 74) hx hb dX9_term_8 (by decide) (fun _ => ?_) (fun c9 => absurd (by decide) c9)
    have hps : PS D cs w _ (p) (tl) (er1) (1) dr bu g (N1) ((h + 1)) := ⟨hm, f3648, hP 0 _ rfl, e3648, by omega, v3648⟩
    exact en_v hx hb hr hlocks hL (Nat.zero_le _) (Nat.zero_le _) dX9_term_74 (⟨hT, hF, N1, p, er1, (by omega), (by omega), hz1, hps⟩)
