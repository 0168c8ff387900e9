set_option maxHeartbeats 4000000 in
set_option maxRecDepth 100000 in
theorem c_X9_readSum_d3 {l : Launch} {D : va_G} {cs : Nat → ClassId} {B0 T : Nat} {κ : KM} {H0 : Heap} (hT : WT B0 D cs T κ H0) {w : Nat} (hw : T2 κ w 10 12) {pos tl : Nat} {er : Int32} {dr bu : Nat} {g : Nat → Int32} {N h : Nat} (hbT : T2 κ bu 23 14) (hdT : T2 κ dr 26 17) (hps : PS D cs w H0 pos tl er 3 dr bu g N h) : KC l yX9_readSum wsX9_readSum 10 216 0 0 D cs B0 H0 [.ref w] (Qv (fun H => WT B0 D cs T κ H ∧ Fr B0 [12, 17] κ H0 H ∧ ∃ N1 pos1 er1, N1 + 2 * pos ≤ N + 2 * pos1 ∧ pos ≤ pos1 ∧ (er1 = 0 → er = 0) ∧ PS D cs w H pos1 tl er1 3 dr bu g N1 (h + 1))) := by
  refine KC.of cX9_readSum 2 none (by decide) rfl (Nat.le_of_ble_eq_true rfl) ?_
  intro p e s m below meth c ls hx hb hr hml hown hts hlocks hin hN hE hH0 hl
  have hown : s.vm.findClass RX9 = some m.cls := hown
  have hl : lv_has ls 2 [(0, .ref w)] := hl
  have hL : OkL B0 [] := OkL.nil
  have hF : Fr B0 [12, 17] κ H0 H0 := Fr.rf
  obtain ⟨hm, f2847, hd2847, e2847, n2847, v2847⟩ := hps
  have hm8 := hm.2.2.2.2.2.2.2
  have hbd : B0 ≤ dr := (hT.o26 hdT.1).1
  have hDR := hT.dr hdT hd2847
  have hP : va_P D vwCl [(dr, .inl (cs 0, 1383, .inl f2847))] _ := va_P.cons hd2847 va_P.nil
  refine lv_aload_n hx hb dX9_readSum_0 rfl (lv_at hl 0 rfl) ?_
  have hps : PS D cs w _ (pos) (tl) (er) (3) dr bu g (N) (h) := ⟨hm, f2847, hP 0 _ rfl, e2847, by omega, v2847⟩
  refine cv_v (As := []) (rest := []) (b := w) ⟨hx, hb, hml, hown, hts⟩ (c_X9_term_d3 hT (w := w) hw hbT hdT hps) (cwV 0 hts gX9_readSum_X9_term rfl rfl rfl hdX9_term_v ⟨Nat.le_of_ble_eq_true rfl, Nat.le_of_ble_eq_true rfl⟩) hN hE hL (rcv10 hN hT hw.1) rfl rfl hl.1 (Nat.le_of_ble_eq_true rfl) dX9_readSum_1 (Nat.zero_le _) (Nat.zero_le _) (fun H1 locs hL hqr2849 => ?_)
  obtain ⟨hT1, hF1, hqr2849⟩ := hqr2849
  have hF := hF.tr (hF1.mono (by simp))
  have hT := hT1
  obtain ⟨N2850, p2851, er2852, a2853, b2854, z2855, m2856, f2857, d2858, e2859, n2860, v2861⟩ := hqr2849
  have hm := m2856
  have hm8 := hm.2.2.2.2.2.2.2
  have hbd : B0 ≤ dr := (hT.o26 hdT.1).1
  have hDR := hT.dr hdT d2858
  have hP : va_P D vwCl [(dr, .inl (cs 0, 1383, .inl f2857))] _ := va_P.cons d2858 va_P.nil
  have hps : PS D cs w _ (p2851) (tl) (er2852) (3) dr bu g (N2850) ((h + 1)) := ⟨hm, f2857, hP 0 _ rfl, e2859, by omega, v2861⟩
  refine lp_m (α := Nat × Nat × Int32) (nL := 2) (fun a9 => 600 - a9.1) (fun a9 H9 l9 => (PS D cs w H9 a9.1 tl a9.2.2 3 dr bu g a9.2.1 (h + 1)) ∧ (a9.2.1 + 2 * pos ≤ N + 2 * a9.1) ∧ (pos ≤ a9.1) ∧ (a9.2.2 = 0 → er = 0) ∧ (WT B0 D cs T κ H9) ∧ (Fr B0 [12, 17] κ H0 H9) ∧ (OkL B0 l9)) (fun a9 => [(0, .ref w)]) ?_ (p2851, N2850, er2852) _ _ _ ⟨hps, (by show (N2850) + 2 * pos ≤ N + 2 * (p2851); omega), (by show pos ≤ (p2851); omega), (fun e9 => id (z2855 e9)), hT, hF, hL⟩ (lv_sub hl [0] rfl)
  rintro ⟨p, N1, er1⟩ H locs ls ih2863 ⟨hps, hb1, hb2, hz1, hT, hF, hL⟩ hl
  have hl : lv_has ls 2 [(0, .ref w)] := hl
  have hps : PS D cs w H p tl er1 3 dr bu g N1 (h + 1) := hps
  have hb1 : N1 + 2 * pos ≤ N + 2 * p := hb1
  have hb2 : pos ≤ p := hb2
  have hz1 : er1 = 0 → er = 0 := hz1
  obtain ⟨hm, f2864, hd2864, e2864, n2864, v2864⟩ := hps
  have hm8 := hm.2.2.2.2.2.2.2
  have hbd : B0 ≤ dr := (hT.o26 hdT.1).1
  have hDR := hT.dr hdT hd2864
  have hP : va_P D vwCl [(dr, .inl (cs 0, 1383, .inl f2864))] _ := va_P.cons hd2864 va_P.nil
  refine lv_aload_n hx hb dX9_readSum_4 rfl (lv_at hl 0 rfl) ?_
  refine cv_i (As := []) (rest := []) (b := w) ⟨hx, hb, hml, hown, hts⟩ (c_X9_isGood hT (w := w) hw hbT hdT hm) (cwV 0 hts gX9_readSum_X9_isGood rfl rfl rfl hdX9_isGood_v ⟨Nat.le_of_ble_eq_true rfl, Nat.le_of_ble_eq_true rfl⟩) hN hE hL (rcv10 hN hT hw.1) rfl rfl hl.1 (Nat.le_of_ble_eq_true rfl) dX9_readSum_5 (Nat.zero_le _) (Nat.zero_le _) (fun r2866 H1 locs hL hqr2866 => ?_)
  obtain ⟨h9, hqr2866⟩ := hqr2866; replace h9 := h9.symm; subst h9
  rcases hqr2866 with ⟨rfl, e2867⟩ | ⟨rfl, e2868⟩
  · refine lv_if_eq (tgt := 74) hx hb dX9_readSum_8 (by decide) (fun c9 => absurd c9 (by decide)) (fun _ => ?_)
    refine lv_aload_n hx hb dX9_readSum_11 rfl (lv_at hl 0 rfl) ?_
    refine cv_i (As := []) (rest := []) (b := w) ⟨hx, hb, hml, hown, hts⟩ (c_X9_ahead hT (w := w) hw hbT hdT hm) (cwV 0 hts gX9_readSum_X9_ahead rfl rfl rfl hdX9_ahead_v ⟨Nat.le_of_ble_eq_true rfl, Nat.le_of_ble_eq_true rfl⟩) hN hE hL (rcv10 hN hT hw.1) rfl rfl hl.1 (Nat.le_of_ble_eq_true rfl) dX9_readSum_12 (Nat.zero_le _) (Nat.zero_le _) (fun r2869 H1 locs hL hqr2869 => ?_)
    obtain ⟨hT1, hF1, hqr2869⟩ := hqr2869
    have hP : va_P D vwCl [(dr, .inl (cs 0, 1383, .inl f2864))] _ := hF1.hP (hP.sub [0] rfl) (fa_c ⟨by rw [hdT.1]; decide, by rw [hdT.2]; first | decide | (simp; done) | (simp; omega)⟩ fa_n)
    have hF := hF.tr (hF1.mono (by simp))
    have hT := hT1
    obtain ⟨p2870, h2871, m2872, n2873, s2874, rfl⟩ := hqr2869
    have hm := m2872
    have hm8 := hm.2.2.2.2.2.2.2
    refine lv_bipush (v := 43) hx hb dX9_readSum_15 (by decide) ?_
    refine lv_icmp_eq (tgt := 29) hx hb dX9_readSum_17 (by decide) (fun c2875 => ?_) (fun c2875 => ?_)
    · have hl9 := byF_c (c2875) (by decide)
      refine lv_aload_n hx hb dX9_readSum_29 rfl (lv_at hl 0 rfl) ?_
      refine cv_i (As := []) (rest := []) (b := w) ⟨hx, hb, hml, hown, hts⟩ (c_X9_ahead hT (w := w) hw hbT hdT hm) (cwV 0 hts gX9_readSum_X9_ahead rfl rfl rfl hdX9_ahead_v ⟨Nat.le_of_ble_eq_true rfl, Nat.le_of_ble_eq_true rfl⟩) hN hE hL (rcv10 hN hT hw.1) rfl rfl hl.1 (Nat.le_of_ble_eq_true rfl) dX9_readSum_30 (Nat.zero_le _) (Nat.zero_le _) (fun r2876 H1 locs hL hqr2876 => ?_)
      obtain ⟨hT1, hF1, hqr2876⟩ := hqr2876
      have hP : va_P D vwCl [(dr, .inl (cs 0, 1383, .inl f2864))] _ := hF1.hP (hP.sub [0] rfl) (fa_c ⟨by rw [hdT.1]; decide, by rw [hdT.2]; first | decide | (simp; done) | (simp; omega)⟩ fa_n)
      have hF := hF.tr (hF1.mono (by simp))
      have hT := hT1
      obtain ⟨p2877, h2878, m2879, n2880, s2881, rfl⟩ := hqr2876
      have hm := m2879
      have hpe := s2881 n2873
      rw [hpe] at hm
      refine tp_i (byF g tl p2870) (by rw [hpe]) ?_
      have hm8 := hm.2.2.2.2.2.2.2
      refine lv_bipush (v := 43) hx hb dX9_readSum_33 (by decide) ?_
      refine lv_icmp_ne (tgt := 42) hx hb dX9_readSum_35 (by decide) (fun c2882 => ?_) (fun c2882 => ?_)
      · refine lv_iconst (v := 0) hx hb dX9_readSum_42 (by decide) ?_
        refine lv_istore_n (lv' := [(1, .int 0), (0, .ref w)]) hx hb dX9_readSum_43 rfl hl (by decide) rfl (fun ls hl => ?_)
        refine lv_aload_n hx hb dX9_readSum_44 rfl (lv_at hl 1 rfl) ?_
        refine lv_dup hx hb dX9_readSum_45 rfl ?_
        obtain ⟨hb2883, e2883, hat2883, hk2883⟩ := hT.o10 hw.1
        obtain ⟨f2883_0, f2883_1, f2883_3, f2883_4, f2883_5, f2883_6, f2883_7, f2883_9, f2883_10, f2883_11, f2883_12, f2883_13, f2883_14, f2883_15, f2883_16, f2883_17, rfl, c2883_2, c2883_3, c2883_4, c2883_12, t2883_1, t2883_8, t2883_9, c2883_sd, t2883_10, t2883_11, t2883_17⟩ := hk2883
        obtain ⟨rfl, rfl, rfl, rfl, rfl, rfl⟩ := hm.at hat2883 c2883_3 (by omega)
        have hm8 := hm.2.2.2.2.2.2.2
        have hP : va_P D vwCl [(w, .inr (9, [.int f2883_0, .ref bu, .int (nI ((κ w).2.2.1)), .int (nI tl), .int (nI p2870), .int er1, .int f2883_6, .int f2883_7, .ref (κ w).2.2.2, .ref f2883_9, .ref dr, .ref f2883_11, .int (nI f2883_12), .int f2883_13, .int 3, .int f2883_15, .int f2883_16, .ref f2883_17])), (dr, .inl (cs 0, 1383, .inl f2864))] _ := va_P.cons hat2883 hP
        refine va_get (D := D) (ci := 9) (v := .int (nI p2870)) (C := RX9) (T := TX9) (N := 18) hx hb hts iX9_readSum_9 hown hN.1 hP 0 rfl rfl 4 (by decide) (hts _ mX9_readSum_1) (fun _ h9 => h9) rfl dX9_readSum_46 ?_
        refine lv_iconst (v := 1) hx hb dX9_readSum_49 (by decide) ?_
        refine lv_iadd hx hb dX9_readSum_50 ?_
        refine tp_i (nI (p2870 + 1)) (nI_add p2870 1) ?_
        have hB : Bx B0 D _ [(w, .inr (9, [.int f2883_0, .ref bu, .int (nI ((κ w).2.2.1)), .int (nI tl), .int (nI p2870), .int er1, .int f2883_6, .int f2883_7, .ref (κ w).2.2.2, .ref f2883_9, .ref dr, .ref f2883_11, .int (nI f2883_12), .int f2883_13, .int 3, .int f2883_15, .int f2883_16, .ref f2883_17])), (dr, .inl (cs 0, 1383, .inl f2864))] [] _ _ := Bx.of (fun a => (κ a).1) hL hP (fa_c hb2883 (fa_c hbd fa_n)) (by simp only [List.map_cons, List.map_nil, hw.1, hdT.1]; decide)
        refine b_put (D := D) (ci := 9) (v := .int (nI (p2870 + 1))) (ty := .int) (C := RX9) (T := TX9) (N := 18) hx hb hts iX9_readSum_9 tyX9 tyX9_ok nmX9 hown hN hB 0 rfl rfl 4 (by decide) (hts _ mX9_readSum_1) (fun _ h9 => h9) rfl (by decide +kernel) rfl rfl (Nat.le_of_ble_eq_true rfl) (.inl rfl) dX9_readSum_51 (fun H locs hB => ?_)
        have hB : Bx B0 D _ [(w, .inr (9, [.int f2883_0, .ref bu, .int (nI ((κ w).2.2.1)), .int (nI tl), .int (nI (p2870 + 1)), .int er1, .int f2883_6, .int f2883_7, .ref (κ w).2.2.2, .ref f2883_9, .ref dr, .ref f2883_11, .int (nI f2883_12), .int f2883_13, .int 3, .int f2883_15, .int f2883_16, .ref f2883_17])), (dr, .inl (cs 0, 1383, .inl f2864))] [w] _ _ := hB
        refine lv_aload_n hx hb dX9_readSum_54 rfl (lv_at hl 1 rfl) ?_
        have hT : WT B0 D cs T κ _ := hT.close hB ⟨⟨0, _, rfl, ok_10 hw.1 ⟨_, _, _, _, _, _, _, _, _, _, _, _, _, _, _, _, rfl, (by omega), (by omega), (by omega), (by omega), hbT, t2883_8, t2883_9, c2883_sd, hdT, t2883_11, t2883_17⟩⟩, trivial⟩
        have hF : Fr B0 [12, 17] κ H0 _ := hF.close hB (fa_c (by simp [hw.2]) fa_n)
        have hL : OkL B0 _ := hB.2.2.2.2.2
        have hP : va_P D vwCl [(w, .inr (9, [.int f2883_0, .ref bu, .int (nI ((κ w).2.2.1)), .int (nI tl), .int (nI (p2870 + 1)), .int er1, .int f2883_6, .int f2883_7, .ref (κ w).2.2.2, .ref f2883_9, .ref dr, .ref f2883_11, .int (nI f2883_12), .int f2883_13, .int 3, .int f2883_15, .int f2883_16, .ref f2883_17])), (dr, .inl (cs 0, 1383, .inl f2864))] _ := hB.1
        have hbu9 := (hm.2.2.2.2.2.2.1).kept (hB.2.2.2.1 _ hm.2.2.2.2.2.2.1.lt (by simp only [List.mem_cons, List.not_mem_nil, or_false, not_or]; exact ne_c hbT.1 hw.1 (by decide)))
        have hm : MF D cs w _ ((p2870 + 1)) (tl) (er1) (3) dr bu g := ⟨⟨_, hP 0 _ rfl, rfl⟩, ⟨_, hP 0 _ rfl, rfl⟩, ⟨_, hP 0 _ rfl, rfl⟩, ⟨_, hP 0 _ rfl, rfl⟩, ⟨_, hP 0 _ rfl, rfl⟩, ⟨_, hP 0 _ rfl, rfl⟩, hbu9, (by omega), (by omega)⟩
        have hps : PS D cs w _ ((p2870 + 1)) (tl) (er1) (3) dr bu g (N1) ((h + 1)) := ⟨hm, f2864, hP 1 _ rfl, e2864, by omega, v2864⟩
        refine cv_v (As := []) (rest := []) (b := w) ⟨hx, hb, hml, hown, hts⟩ (c_X9_term_d3 hT (w := w) hw hbT hdT hps) (cwV 0 hts gX9_readSum_X9_term rfl rfl rfl hdX9_term_v ⟨Nat.le_of_ble_eq_true rfl, Nat.le_of_ble_eq_true rfl⟩) hN hE hL (rcv10 hN hT hw.1) rfl rfl hl.1 (Nat.le_of_ble_eq_true rfl) dX9_readSum_55 (Nat.zero_le _) (Nat.zero_le _) (fun H1 locs hL hqr2884 => ?_)
        obtain ⟨hT1, hF1, hqr2884⟩ := hqr2884
        have hF := hF.tr (hF1.mono (by simp))
        have hT := hT1
        obtain ⟨N2885, p2886, er2887, a2888, b2889, z2890, m2891, f2892, d2893, e2894, n2895, v2896⟩ := hqr2884
        have hm := m2891
        have hm8 := hm.2.2.2.2.2.2.2
        have hbd : B0 ≤ dr := (hT.o26 hdT.1).1
        have hDR := hT.dr hdT d2893
        have hP : va_P D vwCl [(dr, .inl (cs 0, 1383, .inl f2892))] _ := va_P.cons d2893 va_P.nil
        refine lv_aload_n hx hb dX9_readSum_58 rfl (lv_at hl 1 rfl) ?_
        refine lv_iload_n hx hb dX9_readSum_59 rfl (lv_at hl 0 rfl) ?_
        refine lv_if_eq (tgt := 67) hx hb dX9_readSum_60 (by decide) (fun _ => ?_) (fun c9 => absurd (by decide) c9)
        refine lv_iconst (v := 3) hx hb dX9_readSum_67 (by decide) ?_
        refine cv_v (As := [.int 3]) (rest := []) (b := w) ⟨hx, hb, hml, hown, hts⟩ (c_X9_emit hT (w := w) hw (x := 3) hbT hdT hm (hP 0 _ rfl) e2894 (fun _ => by omega)) (cwV 1 hts gX9_readSum_X9_emit rfl rfl rfl hdX9_emit_v ⟨Nat.le_of_ble_eq_true rfl, Nat.le_of_ble_eq_true rfl⟩) hN hE hL (rcv10 hN hT hw.1) rfl rfl hl.1 (Nat.le_of_ble_eq_true rfl) dX9_readSum_68 (Nat.zero_le _) (Nat.zero_le _) (fun H1 locs hL hqr2898 => ?_)
        obtain ⟨hT1, hF1, hqr2898⟩ := hqr2898
        have hF := hF.tr (hF1.mono (by simp))
        have hT := hT1
        obtain ⟨f2899, N2900, d2901, e2902, x2903, m2904⟩ := hqr2898
        have hm := m2904
        have hm8 := hm.2.2.2.2.2.2.2
        have nx2903 := x2903.n
        have ox2903 := nx2903.1
        have hbd : B0 ≤ dr := (hT.o26 hdT.1).1
        have hDR := hT.dr hdT d2901
        have hP : va_P D vwCl [(dr, .inl (cs 0, 1383, .inl f2899))] _ := va_P.cons d2901 va_P.nil
        refine lv_goto (tgt := 4) hx hb dX9_readSum_71 (by decide) ?_
        have hps : PS D cs w _ (p2886) (tl) (er2887) (3) dr bu g (N2900) ((h + 1)) := ⟨hm, f2899, hP 0 _ rfl, e2902, by omega, (EM.op x2903 (by decide) v2896)⟩
        exact ih2863 (p2886, N2900, er2887) _ _ _ (by show 600 - (p2886) < 600 - p; omega) ⟨hps, (by show (N2900) + 2 * pos ≤ N + 2 * (p2886); omega), (by show pos ≤ (p2886); omega), (fun e9 => hz1 (z2890 e9)), hT, hF, hL⟩ (lv_sub hl [1] rfl)
      · refine lv_iconst (v := 1) hx hb dX9_readSum_38 (by decide) ?_
        refine lv_goto (tgt := 43) hx hb dX9_readSum_39 (by decide) ?_
        refine lv_istore_n (lv' := [(1, .int 1), (0, .ref w)]) hx hb dX9_readSum_43 rfl hl (by decide) rfl (fun ls hl => ?_)
        refine lv_aload_n hx hb dX9_readSum_44 rfl (lv_at hl 1 rfl) ?_
        refine lv_dup hx hb dX9_readSum_45 rfl ?_
        obtain ⟨hb2906, e2906, hat2906, hk2906⟩ := hT.o10 hw.1
        obtain ⟨f2906_0, f2906_1, f2906_3, f2906_4, f2906_5, f2906_6, f2906_7, f2906_9, f2906_10, f2906_11, f2906_12, f2906_13, f2906_14, f2906_15, f2906_16, f2906_17, rfl, c2906_2, c2906_3, c2906_4, c2906_12, t2906_1, t2906_8, t2906_9, c2906_sd, t2906_10, t2906_11, t2906_17⟩ := hk2906
        obtain ⟨rfl, rfl, rfl, rfl, rfl, rfl⟩ := hm.at hat2906 c2906_3 (by omega)
        have hm8 := hm.2.2.2.2.2.2.2
        have hP : va_P D vwCl [(w, .inr (9, [.int f2906_0, .ref bu, .int (nI ((κ w).2.2.1)), .int (nI tl), .int (nI p2870), .int er1, .int f2906_6, .int f2906_7, .ref (κ w).2.2.2, .ref f2906_9, .ref dr, .ref f2906_11, .int (nI f2906_12), .int f2906_13, .int 3, .int f2906_15, .int f2906_16, .ref f2906_17])), (dr, .inl (cs 0, 1383, .inl f2864))] _ := va_P.cons hat2906 hP
        refine va_get (D := D) (ci := 9) (v := .int (nI p2870)) (C := RX9) (T := TX9) (N := 18) hx hb hts iX9_readSum_9 hown hN.1 hP 0 rfl rfl 4 (by decide) (hts _ mX9_readSum_1) (fun _ h9 => h9) rfl dX9_readSum_46 ?_
        refine lv_iconst (v := 1) hx hb dX9_readSum_49 (by decide) ?_
        refine lv_iadd hx hb dX9_readSum_50 ?_
        refine tp_i (nI (p2870 + 1)) (nI_add p2870 1) ?_
        have hB : Bx B0 D _ [(w, .inr (9, [.int f2906_0, .ref bu, .int (nI ((κ w).2.2.1)), .int (nI tl), .int (nI p2870), .int er1, .int f2906_6, .int f2906_7, .ref (κ w).2.2.2, .ref f2906_9, .ref dr, .ref f2906_11, .int (nI f2906_12), .int f2906_13, .int 3, .int f2906_15, .int f2906_16, .ref f2906_17])), (dr, .inl (cs 0, 1383, .inl f2864))] [] _ _ := Bx.of (fun a => (κ a).1) hL hP (fa_c hb2906 (fa_c hbd fa_n)) (by simp only [List.map_cons, List.map_nil, hw.1, hdT.1]; decide)
        refine b_put (D := D) (ci := 9) (v := .int (nI (p2870 + 1))) (ty := .int) (C := RX9) (T := TX9) (N := 18) hx hb hts iX9_readSum_9 tyX9 tyX9_ok nmX9 hown hN hB 0 rfl rfl 4 (by decide) (hts _ mX9_readSum_1) (fun _ h9 => h9) rfl (by decide +kernel) rfl rfl (Nat.le_of_ble_eq_true rfl) (.inl rfl) dX9_readSum_51 (fun H locs hB => ?_)
        have hB : Bx B0 D _ [(w, .inr (9, [.int f2906_0, .ref bu, .int (nI ((κ w).2.2.1)), .int (nI tl), .int (nI (p2870 + 1)), .int er1, .int f2906_6, .int f2906_7, .ref (κ w).2.2.2, .ref f2906_9, .ref dr, .ref f2906_11, .int (nI f2906_12), .int f2906_13, .int 3, .int f2906_15, .int f2906_16, .ref f2906_17])), (dr, .inl (cs 0, 1383, .inl f2864))] [w] _ _ := hB
        refine lv_aload_n hx hb dX9_readSum_54 rfl (lv_at hl 1 rfl) ?_
        have hT : WT B0 D cs T κ _ := hT.close hB ⟨⟨0, _, rfl, ok_10 hw.1 ⟨_, _, _, _, _, _, _, _, _, _, _, _, _, _, _, _, rfl, (by omega), (by omega), (by omega), (by omega), hbT, t2906_8, t2906_9, c2906_sd, hdT, t2906_11, t2906_17⟩⟩, trivial⟩
        have hF : Fr B0 [12, 17] κ H0 _ := hF.close hB (fa_c (by simp [hw.2]) fa_n)
        have hL : OkL B0 _ := hB.2.2.2.2.2
        have hP : va_P D vwCl [(w, .inr (9, [.int f2906_0, .ref bu, .int (nI ((κ w).2.2.1)), .int (nI tl), .int (nI (p2870 + 1)), .int er1, .int f2906_6, .int f2906_7, .ref (κ w).2.2.2, .ref f2906_9, .ref dr, .ref f2906_11, .int (nI f2906_12), .int f2906_13, .int 3, .int f2906_15, .int f2906_16, .ref f2906_17])), (dr, .inl (cs 0, 1383, .inl f2864))] _ := hB.1
        have hbu9 := (hm.2.2.2.2.2.2.1).kept (hB.2.2.2.1 _ hm.2.2.2.2.2.2.1.lt (by simp only [List.mem_cons, List.not_mem_nil, or_false, not_or]; exact ne_c hbT.1 hw.1 (by decide)))
        have hm : MF D cs w _ ((p2870 + 1)) (tl) (er1) (3) dr bu g := ⟨⟨_, hP 0 _ rfl, rfl⟩, ⟨_, hP 0 _ rfl, rfl⟩, ⟨_, hP 0 _ rfl, rfl⟩, ⟨_, hP 0 _ rfl, rfl⟩, ⟨_, hP 0 _ rfl, rfl⟩, ⟨_, hP 0 _ rfl, rfl⟩, hbu9, (by omega), (by omega)⟩
        have hps : PS D cs w _ ((p2870 + 1)) (tl) (er1) (3) dr bu g (N1) ((h + 1)) := ⟨hm, f2864, hP 1 _ rfl, e2864, by omega, v2864⟩
        refine cv_v (As := []) (rest := []) (b := w) ⟨hx, hb, hml, hown, hts⟩ (c_X9_term_d3 hT (w := w) hw hbT hdT hps) (cwV 0 hts gX9_readSum_X9_term rfl rfl rfl hdX9_term_v ⟨Nat.le_of_ble_eq_true rfl, Nat.le_of_ble_eq_true rfl⟩) hN hE hL (rcv10 hN hT hw.1) rfl rfl hl.1 (Nat.le_of_ble_eq_true rfl) dX9_readSum_55 (Nat.zero_le _) (Nat.zero_le _) (fun H1 locs hL hqr2907 => ?_)
        obtain ⟨hT1, hF1, hqr2907⟩ := hqr2907
        have hF := hF.tr (hF1.mono (by simp))
        have hT := hT1
        obtain ⟨N2908, p2909, er2910, a2911, b2912, z2913, m2914, f2915, d2916, e2917, n2918, v2919⟩ := hqr2907
        have hm := m2914
        have hm8 := hm.2.2.2.2.2.2.2
        have hbd : B0 ≤ dr := (hT.o26 hdT.1).1
        have hDR := hT.dr hdT d2916
        have hP : va_P D vwCl [(dr, .inl (cs 0, 1383, .inl f2915))] _ := va_P.cons d2916 va_P.nil
        refine lv_aload_n hx hb dX9_readSum_58 rfl (lv_at hl 1 rfl) ?_
        refine lv_iload_n hx hb dX9_readSum_59 rfl (lv_at hl 0 rfl) ?_
        refine lv_if_eq (tgt := 67) hx hb dX9_readSum_60 (by decide) (fun c9 => absurd c9 (by decide)) (fun _ => ?_)
        refine lv_iconst (v := 2) hx hb dX9_readSum_63 (by decide) ?_
        refine lv_goto (tgt := 68) hx hb dX9_readSum_64 (by decide) ?_
        refine cv_v (As := [.int 2]) (rest := []) (b := w) ⟨hx, hb, hml, hown, hts⟩ (c_X9_emit hT (w := w) hw (x := 2) hbT hdT hm (hP 0 _ rfl) e2917 (fun _ => by omega)) (cwV 1 hts gX9_readSum_X9_emit rfl rfl rfl hdX9_emit_v ⟨Nat.le_of_ble_eq_true rfl, Nat.le_of_ble_eq_true rfl⟩) hN hE hL (rcv10 hN hT hw.1) rfl rfl hl.1 (Nat.le_of_ble_eq_true rfl) dX9_readSum_68 (Nat.zero_le _) (Nat.zero_le _) (fun H1 locs hL hqr2921 => ?_)
        obtain ⟨hT1, hF1, hqr2921⟩ := hqr2921
        have hF := hF.tr (hF1.mono (by simp))
        have hT := hT1
        obtain ⟨f2922, N2923, d2924, e2925, x2926, m2927⟩ := hqr2921
        have hm := m2927
        have hm8 := hm.2.2.2.2.2.2.2
        have nx2926 := x2926.n
        have ox2926 := nx2926.1
        have hbd : B0 ≤ dr := (hT.o26 hdT.1).1
        have hDR := hT.dr hdT d2924
        have hP : va_P D vwCl [(dr, .inl (cs 0, 1383, .inl f2922))] _ := va_P.cons d2924 va_P.nil
        refine lv_goto (tgt := 4) hx hb dX9_readSum_71 (by decide) ?_
        have hps : PS D cs w _ (p2909) (tl) (er2910) (3) dr bu g (N2923) ((h + 1)) := ⟨hm, f2922, hP 0 _ rfl, e2925, by omega, (EM.op x2926 (by decide) v2919)⟩
        exact ih2863 (p2909, N2923, er2910) _ _ _ (by show 600 - (p2909) < 600 - p; omega) ⟨hps, (by show (N2923) + 2 * pos ≤ N + 2 * (p2909); omega), (by show pos ≤ (p2909); omega), (fun e9 => hz1 (z2913 e9)), hT, hF, hL⟩ (lv_sub hl [1] rfl)
    · refine lv_aload_n hx hb dX9_readSum_20 rfl (lv_at hl 0 rfl) ?_
      refine cv_i (As := []) (rest := []) (b := w) ⟨hx, hb, hml, hown, hts⟩ (c_X9_ahead hT (w := w) hw hbT hdT hm) (cwV 0 hts gX9_readSum_X9_ahead rfl rfl rfl hdX9_ahead_v ⟨Nat.le_of_ble_eq_true rfl, Nat.le_of_ble_eq_true rfl⟩) hN hE hL (rcv10 hN hT hw.1) rfl rfl hl.1 (Nat.le_of_ble_eq_true rfl) dX9_readSum_21 (Nat.zero_le _) (Nat.zero_le _) (fun r2929 H1 locs hL hqr2929 => ?_)
      obtain ⟨hT1, hF1, hqr2929⟩ := hqr2929
      have hP : va_P D vwCl [(dr, .inl (cs 0, 1383, .inl f2864))] _ := hF1.hP (hP.sub [0] rfl) (fa_c ⟨by rw [hdT.1]; decide, by rw [hdT.2]; first | decide | (simp; done) | (simp; omega)⟩ fa_n)
      have hF := hF.tr (hF1.mono (by simp))
      have hT := hT1
      obtain ⟨p2930, h2931, m2932, n2933, s2934, rfl⟩ := hqr2929
      have hm := m2932
      have hpe := s2934 n2873
      rw [hpe] at hm
      refine tp_i (byF g tl p2870) (by rw [hpe]) ?_
      have hm8 := hm.2.2.2.2.2.2.2
      refine lv_bipush (v := 45) hx hb dX9_readSum_24 (by decide) ?_
      refine lv_icmp_ne (tgt := 74) hx hb dX9_readSum_26 (by decide) (fun c2935 => ?_) (fun c2935 => ?_)
      · have hps : PS D cs w _ (p2870) (tl) (er1) (3) dr bu g (N1) ((h + 1)) := ⟨hm, f2864, hP 0 _ rfl, e2864, by omega, v2864⟩
        exact en_v hx hb hr hlocks hL (Nat.zero_le _) (Nat.zero_le _) dX9_readSum_74 (⟨hT, hF, N1, p2870, er1, (by omega), (by omega), hz1, hps⟩)
      · have hl9 := byF_c (c2935) (by decide)
        refine lv_aload_n hx hb dX9_readSum_29 rfl (lv_at hl 0 rfl) ?_
        refine cv_i (As := []) (rest := []) (b := w) ⟨hx, hb, hml, hown, hts⟩ (c_X9_ahead hT (w := w) hw hbT hdT hm) (cwV 0 hts gX9_readSum_X9_ahead rfl rfl rfl hdX9_ahead_v ⟨Nat.le_of_ble_eq_true rfl, Nat.le_of_ble_eq_true rfl⟩) hN hE hL (rcv10 hN hT hw.1) rfl rfl hl.1 (Nat.le_of_ble_eq_true rfl) dX9_readSum_30 (Nat.zero_le _) (Nat.zero_le _) (fun r2936 H1 locs hL hqr2936 => ?_)
        obtain ⟨hT1, hF1, hqr2936⟩ := hqr2936
        have hP : va_P D vwCl [(dr, .inl (cs 0, 1383, .inl f2864))] _ := hF1.hP (hP.sub [0] rfl) (fa_c ⟨by rw [hdT.1]; decide, by rw [hdT.2]; first | decide | (simp; done) | (simp; omega)⟩ fa_n)
        have hF := hF.tr (hF1.mono (by simp))
        have hT := hT1
        obtain ⟨p2937, h2938, m2939, n2940, s2941, rfl⟩ := hqr2936
        have hm := m2939
        have hpe := s2941 n2873
        rw [hpe] at hm
        refine tp_i (byF g tl p2870) (by rw [hpe]) ?_
        have hm8 := hm.2.2.2.2.2.2.2
        refine lv_bipush (v := 43) hx hb dX9_readSum_33 (by decide) ?_
        refine lv_icmp_ne (tgt := 42) hx hb dX9_readSum_35 (by decide) (fun c2942 => ?_) (fun c2942 => ?_)
        · refine lv_iconst (v := 0) hx hb dX9_readSum_42 (by decide) ?_
          refine lv_istore_n (lv' := [(1, .int 0), (0, .ref w)]) hx hb dX9_readSum_43 rfl hl (by decide) rfl (fun ls hl => ?_)
          refine lv_aload_n hx hb dX9_readSum_44 rfl (lv_at hl 1 rfl) ?_
          refine lv_dup hx hb dX9_readSum_45 rfl ?_
          obtain ⟨hb2943, e2943, hat2943, hk2943⟩ := hT.o10 hw.1
          obtain ⟨f2943_0, f2943_1, f2943_3, f2943_4, f2943_5, f2943_6, f2943_7, f2943_9, f2943_10, f2943_11, f2943_12, f2943_13, f2943_14, f2943_15, f2943_16, f2943_17, rfl, c2943_2, c2943_3, c2943_4, c2943_12, t2943_1, t2943_8, t2943_9, c2943_sd, t2943_10, t2943_11, t2943_17⟩ := hk2943
          obtain ⟨rfl, rfl, rfl, rfl, rfl, rfl⟩ := hm.at hat2943 c2943_3 (by omega)
          have hm8 := hm.2.2.2.2.2.2.2
          have hP : va_P D vwCl [(w, .inr (9, [.int f2943_0, .ref bu, .int (nI ((κ w).2.2.1)), .int (nI tl), .int (nI p2870), .int er1, .int f2943_6, .int f2943_7, .ref (κ w).2.2.2, .ref f2943_9, .ref dr, .ref f2943_11, .int (nI f2943_12), .int f2943_13, .int 3, .int f2943_15, .int f2943_16, .ref f2943_17])), (dr, .inl (cs 0, 1383, .inl f2864))] _ := va_P.cons hat2943 hP
          refine va_get (D := D) (ci := 9) (v := .int (nI p2870)) (C := RX9) (T := TX9) (N := 18) hx hb hts iX9_readSum_9 hown hN.1 hP 0 rfl rfl 4 (by decide) (hts _ mX9_readSum_1) (fun _ h9 => h9) rfl dX9_readSum_46 ?_
          refine lv_iconst (v := 1) hx hb dX9_readSum_49 (by decide) ?_
          refine lv_iadd hx hb dX9_readSum_50 ?_
          refine tp_i (nI (p2870 + 1)) (nI_add p2870 1) ?_
          have hB : Bx B0 D _ [(w, .inr (9, [.int f2943_0, .ref bu, .int (nI ((κ w).2.2.1)), .int (nI tl), .int (nI p2870), .int er1, .int f2943_6, .int f2943_7, .ref (κ w).2.2.2, .ref f2943_9, .ref dr, .ref f2943_11, .int (nI f2943_12), .int f2943_13, .int 3, .int f2943_15, .int f2943_16, .ref f2943_17])), (dr, .inl (cs 0, 1383, .inl f2864))] [] _ _ := Bx.of (fun a => (κ a).1) hL hP (fa_c hb2943 (fa_c hbd fa_n)) (by simp only [List.map_cons, List.map_nil, hw.1, hdT.1]; decide)
          refine b_put (D := D) (ci := 9) (v := .int (nI (p2870 + 1))) (ty := .int) (C := RX9) (T := TX9) (N := 18) hx hb hts iX9_readSum_9 tyX9 tyX9_ok nmX9 hown hN hB 0 rfl rfl 4 (by decide) (hts _ mX9_readSum_1) (fun _ h9 => h9) rfl (by decide +kernel) rfl rfl (Nat.le_of_ble_eq_true rfl) (.inl rfl) dX9_readSum_51 (fun H locs hB => ?_)
          have hB : Bx B0 D _ [(w, .inr (9, [.int f2943_0, .ref bu, .int (nI ((κ w).2.2.1)), .int (nI tl), .int (nI (p2870 + 1)), .int er1, .int f2943_6, .int f2943_7, .ref (κ w).2.2.2, .ref f2943_9, .ref dr, .ref f2943_11, .int (nI f2943_12), .int f2943_13, .int 3, .int f2943_15, .int f2943_16, .ref f2943_17])), (dr, .inl (cs 0, 1383, .inl f2864))] [w] _ _ := hB
          refine lv_aload_n hx hb dX9_readSum_54 rfl (lv_at hl 1 rfl) ?_
          have hT : WT B0 D cs T κ _ := hT.close hB ⟨⟨0, _, rfl, ok_10 hw.1 ⟨_, _, _, _, _, _, _, _, _, _, _, _, _, _, _, _, rfl, (by omega), (by omega), (by omega), (by omega), hbT, t2943_8, t2943_9, c2943_sd, hdT, t2943_11, t2943_17⟩⟩, trivial⟩
          have hF : Fr B0 [12, 17] κ H0 _ := hF.close hB (fa_c (by simp [hw.2]) fa_n)
          have hL : OkL B0 _ := hB.2.2.2.2.2
          have hP : va_P D vwCl [(w, .inr (9, [.int f2943_0, .ref bu, .int (nI ((κ w).2.2.1)), .int (nI tl), .int (nI (p2870 + 1)), .int er1, .int f2943_6, .int f2943_7, .ref (κ w).2.2.2, .ref f2943_9, .ref dr, .ref f2943_11, .int (nI f2943_12), .int f2943_13, .int 3, .int f2943_15, .int f2943_16, .ref f2943_17])), (dr, .inl (cs 0, 1383, .inl f2864))] _ := hB.1
          have hbu9 := (hm.2.2.2.2.2.2.1).kept (hB.2.2.2.1 _ hm.2.2.2.2.2.2.1.lt (by simp only [List.mem_cons, List.not_mem_nil, or_false, not_or]; exact ne_c hbT.1 hw.1 (by decide)))
          have hm : MF D cs w _ ((p2870 + 1)) (tl) (er1) (3) dr bu g := ⟨⟨_, hP 0 _ rfl, rfl⟩, ⟨_, hP 0 _ rfl, rfl⟩, ⟨_, hP 0 _ rfl, rfl⟩, ⟨_, hP 0 _ rfl, rfl⟩, ⟨_, hP 0 _ rfl, rfl⟩, ⟨_, hP 0 _ rfl, rfl⟩, hbu9, (by omega), (by omega)⟩
          have hps : PS D cs w _ ((p2870 + 1)) (tl) (er1) (3) dr bu g (N1) ((h + 1)) := ⟨hm, f2864, hP 1 _ rfl, e2864, by omega, v2864⟩
          refine cv_v (As := []) (rest := []) (b := w) ⟨hx, hb, hml, hown, hts⟩ (c_X9_term_d3 hT (w := w) hw hbT hdT hps) (cwV 0 hts gX9_readSum_X9_term rfl rfl rfl hdX9_term_v ⟨Nat.le_of_ble_eq_true rfl, Nat.le_of_ble_eq_true rfl⟩) hN hE hL (rcv10 hN hT hw.1) rfl rfl hl.1 (Nat.le_of_ble_eq_true rfl) dX9_readSum_55 (Nat.zero_le _) (Nat.zero_le _) (fun H1 locs hL hqr2944 => ?_)
          obtain ⟨hT1, hF1, hqr2944⟩ := hqr2944
          have hF := hF.tr (hF1.mono (by simp))
          have hT := hT1
          obtain ⟨N2945, p2946, er2947, a2948, b2949, z2950, m2951, f2952, d2953, e2954, n2955, v2956⟩ := hqr2944
          have hm := m2951
          have hm8 := hm.2.2.2.2.2.2.2
          have hbd : B0 ≤ dr := (hT.o26 hdT.1).1
          have hDR := hT.dr hdT d2953
          have hP : va_P D vwCl [(dr, .inl (cs 0, 1383, .inl f2952))] _ := va_P.cons d2953 va_P.nil
          refine lv_aload_n hx hb dX9_readSum_58 rfl (lv_at hl 1 rfl) ?_
          refine lv_iload_n hx hb dX9_readSum_59 rfl (lv_at hl 0 rfl) ?_
          refine lv_if_eq (tgt := 67) hx hb dX9_readSum_60 (by decide) (fun _ => ?_) (fun c9 => absurd (by decide) c9)
          refine lv_iconst (v := 3) hx hb dX9_readSum_67 (by decide) ?_
          refine cv_v (As := [.int 3]) (rest := []) (b := w) ⟨hx, hb, hml, hown, hts⟩ (c_X9_emit hT (w := w) hw (x := 3) hbT hdT hm (hP 0 _ rfl) e2954 (fun _ => by omega)) (cwV 1 hts gX9_readSum_X9_emit rfl rfl rfl hdX9_emit_v ⟨Nat.le_of_ble_eq_true rfl, Nat.le_of_ble_eq_true rfl⟩) hN hE hL (rcv10 hN hT hw.1) rfl rfl hl.1 (Nat.le_of_ble_eq_true rfl) dX9_readSum_68 (Nat.zero_le _) (Nat.zero_le _) (fun H1 locs hL hqr2958 => ?_)
          obtain ⟨hT1, hF1, hqr2958⟩ := hqr2958
          have hF := hF.tr (hF1.mono (by simp))
          have hT := hT1
          obtain ⟨f2959, N2960, d2961, e2962, x2963, m2964⟩ := hqr2958
          have hm := m2964
          have hm8 := hm.2.2.2.2.2.2.2
          have nx2963 := x2963.n
          have ox2963 := nx2963.1
          have hbd : B0 ≤ dr := (hT.o26 hdT.1).1
          have hDR := hT.dr hdT d2961
          have hP : va_P D vwCl [(dr, .inl (cs 0, 1383, .inl f2959))] _ := va_P.cons d2961 va_P.nil
          refine lv_goto (tgt := 4) hx hb dX9_readSum_71 (by decide) ?_
          have hps : PS D cs w _ (p2946) (tl) (er2947) (3) dr bu g (N2960) ((h + 1)) := ⟨hm, f2959, hP 0 _ rfl, e2962, by omega, (EM.op x2963 (by decide) v2956)⟩
          exact ih2863 (p2946, N2960, er2947) _ _ _ (by show 600 - (p2946) < 600 - p; omega) ⟨hps, (by show (N2960) + 2 * pos ≤ N + 2 * (p2946); omega), (by show pos ≤ (p2946); omega), (fun e9 => hz1 (z2950 e9)), hT, hF, hL⟩ (lv_sub hl [1] rfl)
        · refine lv_iconst (v := 1) hx hb dX9_readSum_38 (by decide) ?_
          refine lv_goto (tgt := 43) hx hb dX9_readSum_39 (by decide) ?_
          refine lv_istore_n (lv' := [(1, .int 1), (0, .ref w)]) hx hb dX9_readSum_43 rfl hl (by decide) rfl (fun ls hl => ?_)
          refine lv_aload_n hx hb dX9_readSum_44 rfl (lv_at hl 1 rfl) ?_
          refine lv_dup hx hb dX9_readSum_45 rfl ?_
          obtain ⟨hb2966, e2966, hat2966, hk2966⟩ := hT.o10 hw.1
          obtain ⟨f2966_0, f2966_1, f2966_3, f2966_4, f2966_5, f2966_6, f2966_7, f2966_9, f2966_10, f2966_11, f2966_12, f2966_13, f2966_14, f2966_15, f2966_16, f2966_17, rfl, c2966_2, c2966_3, c2966_4, c2966_12, t2966_1, t2966_8, t2966_9, c2966_sd, t2966_10, t2966_11, t2966_17⟩ := hk2966
          obtain ⟨rfl, rfl, rfl, rfl, rfl, rfl⟩ := hm.at hat2966 c2966_3 (by omega)
          have hm8 := hm.2.2.2.2.2.2.2
          have hP : va_P D vwCl [(w, .inr (9, [.int f2966_0, .ref bu, .int (nI ((κ w).2.2.1)), .int (nI tl), .int (nI p2870), .int er1, .int f2966_6, .int f2966_7, .ref (κ w).2.2.2, .ref f2966_9, .ref dr, .ref f2966_11, .int (nI f2966_12), .int f2966_13, .int 3, .int f2966_15, .int f2966_16, .ref f2966_17])), (dr, .inl (cs 0, 1383, .inl f2864))] _ := va_P.cons hat2966 hP
          refine va_get (D := D) (ci := 9) (v := .int (nI p2870)) (C := RX9) (T := TX9) (N := 18) hx hb hts iX9_readSum_9 hown hN.1 hP 0 rfl rfl 4 (by decide) (hts _ mX9_readSum_1) (fun _ h9 => h9) rfl dX9_readSum_46 ?_
          refine lv_iconst (v := 1) hx hb dX9_readSum_49 (by decide) ?_
          refine lv_iadd hx hb dX9_readSum_50 ?_
          refine tp_i (nI (p2870 + 1)) (nI_add p2870 1) ?_
          have hB : Bx B0 D _ [(w, .inr (9, [.int f2966_0, .ref bu, .int (nI ((κ w).2.2.1)), .int (nI tl), .int (nI p2870), .int er1, .int f2966_6, .int f2966_7, .ref (κ w).2.2.2, .ref f2966_9, .ref dr, .ref f2966_11, .int (nI f2966_12), .int f2966_13, .int 3, .int f2966_15, .int f2966_16, .ref f2966_17])), (dr, .inl (cs 0, 1383, .inl f2864))] [] _ _ := Bx.of (fun a => (κ a).1) hL hP (fa_c hb2966 (fa_c hbd fa_n)) (by simp only [List.map_cons, List.map_nil, hw.1, hdT.1]; decide)
          refine b_put (D := D) (ci := 9) (v := .int (nI (p2870 + 1))) (ty := .int) (C := RX9) (T := TX9) (N := 18) hx hb hts iX9_readSum_9 tyX9 tyX9_ok nmX9 hown hN hB 0 rfl rfl 4 (by decide) (hts _ mX9_readSum_1) (fun _ h9 => h9) rfl (by decide +kernel) rfl rfl (Nat.le_of_ble_eq_true rfl) (.inl rfl) dX9_readSum_51 (fun H locs hB => ?_)
          have hB : Bx B0 D _ [(w, .inr (9, [.int f2966_0, .ref bu, .int (nI ((κ w).2.2.1)), .int (nI tl), .int (nI (p2870 + 1)), .int er1, .int f2966_6, .int f2966_7, .ref (κ w).2.2.2, .ref f2966_9, .ref dr, .ref f2966_11, .int (nI f2966_12), .int f2966_13, .int 3, .int f2966_15, .int f2966_16, .ref f2966_17])), (dr, .inl (cs 0, 1383, .inl f2864))] [w] _ _ := hB
          refine lv_aload_n hx hb dX9_readSum_54 rfl (lv_at hl 1 rfl) ?_
          have hT : WT B0 D cs T κ _ := hT.close hB ⟨⟨0, _, rfl, ok_10 hw.1 ⟨_, _, _, _, _, _, _, _, _, _, _, _, _, _, _, _, rfl, (by omega), (by omega), (by omega), (by omega), hbT, t2966_8, t2966_9, c2966_sd, hdT, t2966_11, t2966_17⟩⟩, trivial⟩
          have hF : Fr B0 [12, 17] κ H0 _ := hF.close hB (fa_c (by simp [hw.2]) fa_n)
          have hL : OkL B0 _ := hB.2.2.2.2.2
          have hP : va_P D vwCl [(w, .inr (9, [.int f2966_0, .ref bu, .int (nI ((κ w).2.2.1)), .int (nI tl), .int (nI (p2870 + 1)), .int er1, .int f2966_6, .int f2966_7, .ref (κ w).2.2.2, .ref f2966_9, .ref dr, .ref f2966_11, .int (nI f2966_12), .int f2966_13, .int 3, .int f2966_15, .int f2966_16, .ref f2966_17])), (dr, .inl (cs 0, 1383, .inl f2864))] _ := hB.1
          have hbu9 := (hm.2.2.2.2.2.2.1).kept (hB.2.2.2.1 _ hm.2.2.2.2.2.2.1.lt (by simp only [List.mem_cons, List.not_mem_nil, or_false, not_or]; exact ne_c hbT.1 hw.1 (by decide)))
          have hm : MF D cs w _ ((p2870 + 1)) (tl) (er1) (3) dr bu g := ⟨⟨_, hP 0 _ rfl, rfl⟩, ⟨_, hP 0 _ rfl, rfl⟩, ⟨_, hP 0 _ rfl, rfl⟩, ⟨_, hP 0 _ rfl, rfl⟩, ⟨_, hP 0 _ rfl, rfl⟩, ⟨_, hP 0 _ rfl, rfl⟩, hbu9, (by omega), (by omega)⟩
          have hps : PS D cs w _ ((p2870 + 1)) (tl) (er1) (3) dr bu g (N1) ((h + 1)) := ⟨hm, f2864, hP 1 _ rfl, e2864, by omega, v2864⟩
          refine cv_v (As := []) (rest := []) (b := w) ⟨hx, hb, hml, hown, hts⟩ (c_X9_term_d3 hT (w := w) hw hbT hdT hps) (cwV 0 hts gX9_readSum_X9_term rfl rfl rfl hdX9_term_v ⟨Nat.le_of_ble_eq_true rfl, Nat.le_of_ble_eq_true rfl⟩) hN hE hL (rcv10 hN hT hw.1) rfl rfl hl.1 (Nat.le_of_ble_eq_true rfl) dX9_readSum_55 (Nat.zero_le _) (Nat.zero_le _) (fun H1 locs hL hqr2967 => ?_)
          obtain ⟨hT1, hF1, hqr2967⟩ := hqr2967
          have hF := hF.tr (hF1.mono (by simp))
          have hT := hT1
          obtain ⟨N2968, p2969, er2970, a2971, b2972, z2973, m2974, f2975, d2976, e2977, n2978, v2979⟩ := hqr2967
          have hm := m2974
          have hm8 := hm.2.2.2.2.2.2.2
          have hbd : B0 ≤ dr := (hT.o26 hdT.1).1
          have hDR := hT.dr hdT d2976
          have hP : va_P D vwCl [(dr, .inl (cs 0, 1383, .inl f2975))] _ := va_P.cons d2976 va_P.nil
          refine lv_aload_n hx hb dX9_readSum_58 rfl (lv_at hl 1 rfl) ?_
          refine lv_iload_n hx hb dX9_readSum_59 rfl (lv_at hl 0 rfl) ?_
          refine lv_if_eq (tgt := 67) hx hb dX9_readSum_60 (by decide) (fun c9 => absurd c9 (by decide)) (fun _ => ?_)
          refine lv_iconst (v := 2) hx hb dX9_readSum_63 (by decide) ?_
          refine lv_goto (tgt := 68) hx hb dX9_readSum_64 (by decide) ?_
          refine cv_v (As := [.int 2]) (rest := []) (b := w) ⟨hx, hb, hml, hown, hts⟩ (c_X9_emit hT (w := w) hw (x := 2) hbT hdT hm (hP 0 _ rfl) e2977 (fun _ => by omega)) (cwV 1 hts gX9_readSum_X9_emit rfl rfl rfl hdX9_emit_v ⟨Nat.le_of_ble_eq_true rfl, Nat.le_of_ble_eq_true rfl⟩) hN hE hL (rcv10 hN hT hw.1) rfl rfl hl.1 (Nat.le_of_ble_eq_true rfl) dX9_readSum_68 (Nat.zero_le _) (Nat.zero_le _) (fun H1 locs hL hqr2981 => ?_)
          obtain ⟨hT1, hF1, hqr2981⟩ := hqr2981
          have hF := hF.tr (hF1.mono (by simp))
          have hT := hT1
          obtain ⟨f2982, N2983, d2984, e2985, x2986, m2987⟩ := hqr2981
          have hm := m2987
          have hm8 := hm.2.2.2.2.2.2.2
          have nx2986 := x2986.n
          have ox2986 := nx2986.1
          have hbd : B0 ≤ dr := (hT.o26 hdT.1).1
          have hDR := hT.dr hdT d2984
          have hP : va_P D vwCl [(dr, .inl (cs 0, 1383, .inl f2982))] _ := va_P.cons d2984 va_P.nil
          refine lv_goto (tgt := 4) hx hb dX9_readSum_71 (by decide) ?_
          have hps : PS D cs w _ (p2969) (tl) (er2970) (3) dr bu g (N2983) ((h + 1)) := ⟨hm, f2982, hP 0 _ rfl, e2985, by omega, (EM.op x2986 (by decide) v2979)⟩
          exact ih2863 (p2969, N2983, er2970) _ _ _ (by show 600 - (p2969) < 600 - p; omega) ⟨hps, (by show (N2983) + 2 * pos ≤ N + 2 * (p2969); omega), (by show pos ≤ (p2969); omega), (fun e9 => hz1 (z2973 e9)), hT, hF, hL⟩ (lv_sub hl [1] rfl)
  · refine lv_if_eq (tgt := 74) hx hb dX9_readSum_8 (by decide) (fun _ => ?_) (fun c9 => absurd (by decide) c9)
    have hps : PS D cs w _ (p) (tl) (er1) (3) dr bu g (N1) ((h + 1)) := ⟨hm, f2864, hP 0 _ rfl, e2864, by omega, v2864⟩
    exact en_v hx hb hr hlocks hL (Nat.zero_le _) (Nat.zero_le _) dX9_readSum_74 (⟨hT, hF, N1, p, er1, (by omega), (by omega), hz1, hps⟩)
set_option maxHeartbeats 4000000 in
set_option maxRecDepth 100000 in
theorem c_X9_factor_d2 {l : Launch} {D : va_G} {cs : Nat → ClassId} {B0 T : Nat} {κ : KM} {H0 : Heap} (hT : WT B0 D cs T κ H0) {w : Nat} (hw : T2 κ w 10 12) {pos tl : Nat} {er : Int32} {dr bu : Nat} {g : Nat → Int32} {N h : Nat} (hbT : T2 κ bu 23 14) (hdT : T2 κ dr 26 17) (hps : PS D cs w H0 pos tl er 2 dr bu g N h) : KC l yX9_factor wsX9_factor 11 237 0 0 D cs B0 H0 [.ref w] (Qv (fun H => WT B0 D cs T κ H ∧ Fr B0 [12, 17] κ H0 H ∧ ∃ N1 pos1 er1, N1 + 2 * pos ≤ N + 2 * pos1 ∧ pos ≤ pos1 ∧ (er1 = 0 → er = 0) ∧ PS D cs w H pos1 tl er1 2 dr bu g N1 (h + 1))) := by
  refine KC.of cX9_factor 4 none (by decide) rfl (Nat.le_of_ble_eq_true rfl) ?_
  intro p e s m below meth c ls hx hb hr hml hown hts hlocks hin hN hE hH0 hl
  have hown : s.vm.findClass RX9 = some m.cls := hown
  have hl : lv_has ls 4 [(0, .ref w)] := hl
  have hL : OkL B0 [] := OkL.nil
  have hF : Fr B0 [12, 17] κ H0 H0 := Fr.rf
  obtain ⟨hm, f2989, hd2989, e2989, n2989, v2989⟩ := hps
  have hm8 := hm.2.2.2.2.2.2.2
  have hbd : B0 ≤ dr := (hT.o26 hdT.1).1
  have hDR := hT.dr hdT hd2989
  have hP : va_P D vwCl [(dr, .inl (cs 0, 1383, .inl f2989))] _ := va_P.cons hd2989 va_P.nil
  refine lv_aload_n hx hb dX9_factor_0 rfl (lv_at hl 0 rfl) ?_
  refine cv_i (As := []) (rest := []) (b := w) ⟨hx, hb, hml, hown, hts⟩ (c_X9_isGood hT (w := w) hw hbT hdT hm) (cwV 0 hts gX9_factor_X9_isGood rfl rfl rfl hdX9_isGood_v ⟨Nat.le_of_ble_eq_true rfl, Nat.le_of_ble_eq_true rfl⟩) hN hE hL (rcv10 hN hT hw.1) rfl rfl hl.1 (Nat.le_of_ble_eq_true rfl) dX9_factor_1 (Nat.zero_le _) (Nat.zero_le _) (fun r2991 H1 locs hL hqr2991 => ?_)
  obtain ⟨h9, hqr2991⟩ := hqr2991; replace h9 := h9.symm; subst h9
  rcases hqr2991 with ⟨rfl, e2992⟩ | ⟨rfl, e2993⟩
  · refine lv_if_ne (tgt := 8) hx hb dX9_factor_4 (by decide) (fun _ => ?_) (fun c9 => absurd c9 (by decide))
    refine lv_aload_n hx hb dX9_factor_8 rfl (lv_at hl 0 rfl) ?_
    refine cv_i (As := []) (rest := []) (b := w) ⟨hx, hb, hml, hown, hts⟩ (c_X9_ahead hT (w := w) hw hbT hdT hm) (cwV 0 hts gX9_factor_X9_ahead rfl rfl rfl hdX9_ahead_v ⟨Nat.le_of_ble_eq_true rfl, Nat.le_of_ble_eq_true rfl⟩) hN hE hL (rcv10 hN hT hw.1) rfl rfl hl.1 (Nat.le_of_ble_eq_true rfl) dX9_factor_9 (Nat.zero_le _) (Nat.zero_le _) (fun r2994 H1 locs hL hqr2994 => ?_)
    obtain ⟨hT1, hF1, hqr2994⟩ := hqr2994
    have hP : va_P D vwCl [(dr, .inl (cs 0, 1383, .inl f2989))] _ := hF1.hP (hP.sub [0] rfl) (fa_c ⟨by rw [hdT.1]; decide, by rw [hdT.2]; first | decide | (simp; done) | (simp; omega)⟩ fa_n)
    have hF := hF.tr (hF1.mono (by simp))
    have hT := hT1
    obtain ⟨p2995, h2996, m2997, n2998, s2999, rfl⟩ := hqr2994
    have hm := m2997
    have hm8 := hm.2.2.2.2.2.2.2
    refine lv_istore_n (lv' := [(1, .int (byF g tl p2995)), (0, .ref w)]) hx hb dX9_factor_12 rfl hl (by decide) rfl (fun ls hl => ?_)
    refine lv_iload_n hx hb dX9_factor_13 rfl (lv_at hl 0 rfl) ?_
    refine lv_bipush (v := 40) hx hb dX9_factor_14 (by decide) ?_
    refine lv_icmp_ne (tgt := 78) hx hb dX9_factor_16 (by decide) (fun c3000 => ?_) (fun c3000 => ?_)
    · refine lv_iload_n hx hb dX9_factor_78 rfl (lv_at hl 0 rfl) ?_
      refine cs_i (As := [.int (byF g tl p2995)]) (rest := []) ⟨hx, hb, hml, hown, hts⟩ (c_X9_isDigit hT (x := (byF g tl p2995))) (va_cwS 1 hts gX9_factor_X9_isDigit rfl rfl rfl hdX9_isDigit_o ⟨Nat.le_of_ble_eq_true rfl, Nat.le_of_ble_eq_true rfl⟩) hN hE hL rfl rfl hl.1 (Nat.le_of_ble_eq_true rfl) dX9_factor_79 (Nat.zero_le _) (Nat.zero_le _) (fun r3001 H1 locs hL hqr3001 => ?_)
      obtain ⟨h9, hqr3001⟩ := hqr3001; replace h9 := h9.symm; subst h9
      rcases hqr3001 with ⟨rfl, o3002⟩ | ⟨rfl, l3003, g3004⟩
      · refine lv_if_eq (tgt := 89) hx hb dX9_factor_82 (by decide) (fun _ => ?_) (fun c9 => absurd (by decide) c9)
        refine lv_aload_n hx hb dX9_factor_89 rfl (lv_at hl 1 rfl) ?_
        refine va_ldcS hx hb hown (hN.s 19 rfl) dX9_factor_90 ?_
        refine cv_i (As := [.ref (cs 119)]) (rest := []) (b := w) ⟨hx, hb, hml, hown, hts⟩ (c_X9_takeWord hT (w := w) hw (i := 19) (by decide) hbT hdT hm) (cwV 1 hts gX9_factor_X9_takeWord rfl rfl rfl hdX9_takeWord_v ⟨Nat.le_of_ble_eq_true rfl, Nat.le_of_ble_eq_true rfl⟩) hN hE hL (rcv10 hN hT hw.1) rfl rfl hl.1 (Nat.le_of_ble_eq_true rfl) dX9_factor_92 (Nat.zero_le _) (Nat.zero_le _) (fun r3005 H1 locs hL hqr3005 => ?_)
        obtain ⟨hT1, hF1, hqr3005⟩ := hqr3005
        have hP : va_P D vwCl [(dr, .inl (cs 0, 1383, .inl f2989))] _ := hF1.hP (hP.sub [0] rfl) (fa_c ⟨by rw [hdT.1]; decide, by rw [hdT.2]; first | decide | (simp; done) | (simp; omega)⟩ fa_n)
        have hF := hF.tr (hF1.mono (by simp))
        have hT := hT1
        rcases hqr3005 with ⟨rfl, p3006, h3007, m3008⟩ | ⟨rfl, p3009, q3010, e3011, m3012⟩
        · have hm := m3008
          have hm8 := hm.2.2.2.2.2.2.2
          refine lv_if_eq (tgt := 102) hx hb dX9_factor_95 (by decide) (fun _ => ?_) (fun c9 => absurd (by decide) c9)
          refine lv_aload_n hx hb dX9_factor_102 rfl (lv_at hl 1 rfl) ?_
          refine va_ldcS hx hb hown (hN.s 25 rfl) dX9_factor_103 ?_
          refine cv_i (As := [.ref (cs 125)]) (rest := []) (b := w) ⟨hx, hb, hml, hown, hts⟩ (c_X9_takeWord hT (w := w) hw (i := 25) (by decide) hbT hdT hm) (cwV 1 hts gX9_factor_X9_takeWord rfl rfl rfl hdX9_takeWord_v ⟨Nat.le_of_ble_eq_true rfl, Nat.le_of_ble_eq_true rfl⟩) hN hE hL (rcv10 hN hT hw.1) rfl rfl hl.1 (Nat.le_of_ble_eq_true rfl) dX9_factor_105 (Nat.zero_le _) (Nat.zero_le _) (fun r3013 H1 locs hL hqr3013 => ?_)
          obtain ⟨hT1, hF1, hqr3013⟩ := hqr3013
          have hP : va_P D vwCl [(dr, .inl (cs 0, 1383, .inl f2989))] _ := hF1.hP (hP.sub [0] rfl) (fa_c ⟨by rw [hdT.1]; decide, by rw [hdT.2]; first | decide | (simp; done) | (simp; omega)⟩ fa_n)
          have hF := hF.tr (hF1.mono (by simp))
          have hT := hT1
          rcases hqr3013 with ⟨rfl, p3014, h3015, m3016⟩ | ⟨rfl, p3017, q3018, e3019, m3020⟩
          · have hm := m3016
            have hm8 := hm.2.2.2.2.2.2.2
            refine lv_if_eq (tgt := 115) hx hb dX9_factor_108 (by decide) (fun _ => ?_) (fun c9 => absurd (by decide) c9)
            refine lv_aload_n hx hb dX9_factor_115 rfl (lv_at hl 1 rfl) ?_
            refine va_ldcS hx hb hown (hN.s 26 rfl) dX9_factor_116 ?_
            refine cv_i (As := [.ref (cs 126)]) (rest := []) (b := w) ⟨hx, hb, hml, hown, hts⟩ (c_X9_takeWord hT (w := w) hw (i := 26) (by decide) hbT hdT hm) (cwV 1 hts gX9_factor_X9_takeWord rfl rfl rfl hdX9_takeWord_v ⟨Nat.le_of_ble_eq_true rfl, Nat.le_of_ble_eq_true rfl⟩) hN hE hL (rcv10 hN hT hw.1) rfl rfl hl.1 (Nat.le_of_ble_eq_true rfl) dX9_factor_118 (Nat.zero_le _) (Nat.zero_le _) (fun r3021 H1 locs hL hqr3021 => ?_)
            obtain ⟨hT1, hF1, hqr3021⟩ := hqr3021
            have hP : va_P D vwCl [(dr, .inl (cs 0, 1383, .inl f2989))] _ := hF1.hP (hP.sub [0] rfl) (fa_c ⟨by rw [hdT.1]; decide, by rw [hdT.2]; first | decide | (simp; done) | (simp; omega)⟩ fa_n)
            have hF := hF.tr (hF1.mono (by simp))
            have hT := hT1
            rcases hqr3021 with ⟨rfl, p3022, h3023, m3024⟩ | ⟨rfl, p3025, q3026, e3027, m3028⟩
            · have hm := m3024
              have hm8 := hm.2.2.2.2.2.2.2
              refine lv_if_eq (tgt := 128) hx hb dX9_factor_121 (by decide) (fun _ => ?_) (fun c9 => absurd (by decide) c9)
              refine lv_aload_n hx hb dX9_factor_128 rfl (lv_at hl 1 rfl) ?_
              refine va_ldcS hx hb hown (hN.s 27 rfl) dX9_factor_129 ?_
              refine cv_i (As := [.ref (cs 127)]) (rest := []) (b := w) ⟨hx, hb, hml, hown, hts⟩ (c_X9_takeWord hT (w := w) hw (i := 27) (by decide) hbT hdT hm) (cwV 1 hts gX9_factor_X9_takeWord rfl rfl rfl hdX9_takeWord_v ⟨Nat.le_of_ble_eq_true rfl, Nat.le_of_ble_eq_true rfl⟩) hN hE hL (rcv10 hN hT hw.1) rfl rfl hl.1 (Nat.le_of_ble_eq_true rfl) dX9_factor_131 (Nat.zero_le _) (Nat.zero_le _) (fun r3029 H1 locs hL hqr3029 => ?_)
              obtain ⟨hT1, hF1, hqr3029⟩ := hqr3029
              have hP : va_P D vwCl [(dr, .inl (cs 0, 1383, .inl f2989))] _ := hF1.hP (hP.sub [0] rfl) (fa_c ⟨by rw [hdT.1]; decide, by rw [hdT.2]; first | decide | (simp; done) | (simp; omega)⟩ fa_n)
              have hF := hF.tr (hF1.mono (by simp))
              have hT := hT1
              rcases hqr3029 with ⟨rfl, p3030, h3031, m3032⟩ | ⟨rfl, p3033, q3034, e3035, m3036⟩
              · have hm := m3032
                have hm8 := hm.2.2.2.2.2.2.2
                refine lv_if_eq (tgt := 141) hx hb dX9_factor_134 (by decide) (fun _ => ?_) (fun c9 => absurd (by decide) c9)
                refine lv_iconst (v := (-1)) hx hb dX9_factor_141 (by decide) ?_
                refine lv_istore_n (lv' := [(2, .int (-1)), (1, .int (byF g tl p2995)), (0, .ref w)]) hx hb dX9_factor_142 rfl hl (by decide) rfl (fun ls hl => ?_)
                refine lv_iload_n hx hb dX9_factor_143 rfl (lv_at hl 0 rfl) ?_
                refine lv_if_ge (tgt := 158) hx hb dX9_factor_144 (by decide) (fun c9 => absurd c9 (by decide)) (fun _ => ?_)
                refine lv_aload_n hx hb dX9_factor_147 rfl (lv_at hl 2 rfl) ?_
                refine lv_iconst (v := 0) hx hb dX9_factor_148 (by decide) ?_
                refine lv_sipush (v := 9999) hx hb dX9_factor_149 (by decide) ?_
                refine cv_i (As := [.int 0, .int 9999]) (rest := []) (b := w) ⟨hx, hb, hml, hown, hts⟩ (c_X9_number hT (w := w) hw (x := 0) (y := 9999) hbT hdT hm) (cwV 2 hts gX9_factor_X9_number rfl rfl rfl hdX9_number_v ⟨Nat.le_of_ble_eq_true rfl, Nat.le_of_ble_eq_true rfl⟩) hN hE hL (rcv10 hN hT hw.1) rfl rfl hl.1 (Nat.le_of_ble_eq_true rfl) dX9_factor_152 (Nat.zero_le _) (Nat.zero_le _) (fun r3037 H1 locs hL hqr3037 => ?_)
                obtain ⟨hT1, hF1, hqr3037⟩ := hqr3037
                have hP : va_P D vwCl [(dr, .inl (cs 0, 1383, .inl f2989))] _ := hF1.hP (hP.sub [0] rfl) (fa_c ⟨by rw [hdT.1]; decide, by rw [hdT.2]; first | decide | (simp; done) | (simp; omega)⟩ fa_n)
                have hF := hF.tr (hF1.mono (by simp))
                have hT := hT1
                obtain ⟨p3038, er3039, a3040, z3041, m3042, q3043⟩ := hqr3037
                have hm := m3042
                have hm8 := hm.2.2.2.2.2.2.2
                refine lv_goto (tgt := 159) hx hb dX9_factor_155 (by decide) ?_
                refine lv_istore_n (lv' := [(3, .int r3037), (2, .int (-1)), (1, .int (byF g tl p2995)), (0, .ref w)]) hx hb dX9_factor_159 rfl hl (by decide) rfl (fun ls hl => ?_)
                refine lv_aload_n hx hb dX9_factor_160 rfl (lv_at hl 3 rfl) ?_
                refine lv_iload_n hx hb dX9_factor_161 rfl (lv_at hl 1 rfl) ?_
                refine lv_if_ge (tgt := 169) hx hb dX9_factor_162 (by decide) (fun c9 => absurd c9 (by decide)) (fun _ => ?_)
                refine lv_iconst (v := 0) hx hb dX9_factor_165 (by decide) ?_
                refine lv_goto (tgt := 170) hx hb dX9_factor_166 (by decide) ?_
                refine cv_v (As := [.int 0]) (rest := []) (b := w) ⟨hx, hb, hml, hown, hts⟩ (c_X9_emit hT (w := w) hw (x := 0) hbT hdT hm (hP 0 _ rfl) e2989 (fun e9 => by have q9 := (z3041 e9).2; omega)) (cwV 1 hts gX9_factor_X9_emit rfl rfl rfl hdX9_emit_v ⟨Nat.le_of_ble_eq_true rfl, Nat.le_of_ble_eq_true rfl⟩) hN hE hL (rcv10 hN hT hw.1) rfl rfl hl.1 (Nat.le_of_ble_eq_true rfl) dX9_factor_170 (Nat.zero_le _) (Nat.zero_le _) (fun H1 locs hL hqr3044 => ?_)
                obtain ⟨hT1, hF1, hqr3044⟩ := hqr3044
                have hF := hF.tr (hF1.mono (by simp))
                have hT := hT1
                obtain ⟨f3045, N3046, d3047, e3048, x3049, m3050⟩ := hqr3044
                have hm := m3050
                have hm8 := hm.2.2.2.2.2.2.2
                have nx3049 := x3049.n
                have ox3049 := nx3049.1
                have hbd : B0 ≤ dr := (hT.o26 hdT.1).1
                have hDR := hT.dr hdT d3047
                have hP : va_P D vwCl [(dr, .inl (cs 0, 1383, .inl f3045))] _ := va_P.cons d3047 va_P.nil
                refine lv_aload_n hx hb dX9_factor_173 rfl (lv_at hl 3 rfl) ?_
                refine lv_iload_n hx hb dX9_factor_174 rfl (lv_at hl 0 rfl) ?_
                refine cv_v (As := [.int r3037]) (rest := []) (b := w) ⟨hx, hb, hml, hown, hts⟩ (c_X9_emit hT (w := w) hw (x := r3037) hbT hdT hm (hP 0 _ rfl) e3048 (fun e9 => by have q9 := (z3041 e9).2; omega)) (cwV 1 hts gX9_factor_X9_emit rfl rfl rfl hdX9_emit_v ⟨Nat.le_of_ble_eq_true rfl, Nat.le_of_ble_eq_true rfl⟩) hN hE hL (rcv10 hN hT hw.1) rfl rfl hl.1 (Nat.le_of_ble_eq_true rfl) dX9_factor_175 (Nat.zero_le _) (Nat.zero_le _) (fun H1 locs hL hqr3052 => ?_)
                obtain ⟨hT1, hF1, hqr3052⟩ := hqr3052
                have hF := hF.tr (hF1.mono (by simp))
                have hT := hT1
                obtain ⟨f3053, N3054, d3055, e3056, x3057, m3058⟩ := hqr3052
                have hm := m3058
                have hm8 := hm.2.2.2.2.2.2.2
                have nx3057 := x3057.n
                have ox3057 := nx3057.1
                have hbd : B0 ≤ dr := (hT.o26 hdT.1).1
                have hDR := hT.dr hdT d3055
                have hP : va_P D vwCl [(dr, .inl (cs 0, 1383, .inl f3053))] _ := va_P.cons d3055 va_P.nil
                have bx3049 := nx3049.2.1
                have bx3057 := nx3057.2.1
                have hbn : N3054 + 2 * pos ≤ N + 2 * p3038 ∧ N3054 ≤ 2 * p3038 := by
                  by_cases e9 : er3039 = 0
                  · have q9 := (z3041 e9).2; omega
                  · have q9 := bx3049 e9; have q8 := bx3057 e9; omega
                exact en_v hx hb hr hlocks hL (Nat.zero_le _) (Nat.zero_le _) dX9_factor_178 (⟨hT, hF, _, p3038, er3039, hbn.1, (by omega), (fun e9 => id ((fun e9 => (z3041 e9).1) e9)), hm, _, hP 0 _ rfl, e3056, hbn.2, (EM.lit x3049 x3057 (by decide) (fun e9 => v2989 ((fun e9 => (z3041 e9).1) e9)))⟩)
              · have hm := m3036
                have hm8 := hm.2.2.2.2.2.2.2
                refine lv_if_eq (tgt := 141) hx hb dX9_factor_134 (by decide) (fun c9 => absurd c9 (by decide)) (fun _ => ?_)
                refine lv_iconst (v := 3) hx hb dX9_factor_137 (by decide) ?_
                refine lv_goto (tgt := 142) hx hb dX9_factor_138 (by decide) ?_
                refine lv_istore_n (lv' := [(2, .int 3), (1, .int (byF g tl p2995)), (0, .ref w)]) hx hb dX9_factor_142 rfl hl (by decide) rfl (fun ls hl => ?_)
                refine lv_iload_n hx hb dX9_factor_143 rfl (lv_at hl 0 rfl) ?_
                refine lv_if_ge (tgt := 158) hx hb dX9_factor_144 (by decide) (fun _ => ?_) (fun c9 => absurd (by decide) c9)
                refine lv_iload_n hx hb dX9_factor_158 rfl (lv_at hl 0 rfl) ?_
                refine lv_istore_n (lv' := [(3, .int 3), (2, .int 3), (1, .int (byF g tl p2995)), (0, .ref w)]) hx hb dX9_factor_159 rfl hl (by decide) rfl (fun ls hl => ?_)
                refine lv_aload_n hx hb dX9_factor_160 rfl (lv_at hl 3 rfl) ?_
                refine lv_iload_n hx hb dX9_factor_161 rfl (lv_at hl 1 rfl) ?_
                refine lv_if_ge (tgt := 169) hx hb dX9_factor_162 (by decide) (fun _ => ?_) (fun c9 => absurd (by decide) c9)
                refine lv_iconst (v := 1) hx hb dX9_factor_169 (by decide) ?_
                refine cv_v (As := [.int 1]) (rest := []) (b := w) ⟨hx, hb, hml, hown, hts⟩ (c_X9_emit hT (w := w) hw (x := 1) hbT hdT hm (hP 0 _ rfl) e2989 (fun e9 => by omega)) (cwV 1 hts gX9_factor_X9_emit rfl rfl rfl hdX9_emit_v ⟨Nat.le_of_ble_eq_true rfl, Nat.le_of_ble_eq_true rfl⟩) hN hE hL (rcv10 hN hT hw.1) rfl rfl hl.1 (Nat.le_of_ble_eq_true rfl) dX9_factor_170 (Nat.zero_le _) (Nat.zero_le _) (fun H1 locs hL hqr3060 => ?_)
                obtain ⟨hT1, hF1, hqr3060⟩ := hqr3060
                have hF := hF.tr (hF1.mono (by simp))
                have hT := hT1
                obtain ⟨f3061, N3062, d3063, e3064, x3065, m3066⟩ := hqr3060
                have hm := m3066
                have hm8 := hm.2.2.2.2.2.2.2
                have nx3065 := x3065.n
                have ox3065 := nx3065.1
                have hbd : B0 ≤ dr := (hT.o26 hdT.1).1
                have hDR := hT.dr hdT d3063
                have hP : va_P D vwCl [(dr, .inl (cs 0, 1383, .inl f3061))] _ := va_P.cons d3063 va_P.nil
                refine lv_aload_n hx hb dX9_factor_173 rfl (lv_at hl 3 rfl) ?_
                refine lv_iload_n hx hb dX9_factor_174 rfl (lv_at hl 0 rfl) ?_
                refine cv_v (As := [.int 3]) (rest := []) (b := w) ⟨hx, hb, hml, hown, hts⟩ (c_X9_emit hT (w := w) hw (x := 3) hbT hdT hm (hP 0 _ rfl) e3064 (fun e9 => by omega)) (cwV 1 hts gX9_factor_X9_emit rfl rfl rfl hdX9_emit_v ⟨Nat.le_of_ble_eq_true rfl, Nat.le_of_ble_eq_true rfl⟩) hN hE hL (rcv10 hN hT hw.1) rfl rfl hl.1 (Nat.le_of_ble_eq_true rfl) dX9_factor_175 (Nat.zero_le _) (Nat.zero_le _) (fun H1 locs hL hqr3068 => ?_)
                obtain ⟨hT1, hF1, hqr3068⟩ := hqr3068
                have hF := hF.tr (hF1.mono (by simp))
                have hT := hT1
                obtain ⟨f3069, N3070, d3071, e3072, x3073, m3074⟩ := hqr3068
                have hm := m3074
                have hm8 := hm.2.2.2.2.2.2.2
                have nx3073 := x3073.n
                have ox3073 := nx3073.1
                have hbd : B0 ≤ dr := (hT.o26 hdT.1).1
                have hDR := hT.dr hdT d3071
                have hP : va_P D vwCl [(dr, .inl (cs 0, 1383, .inl f3069))] _ := va_P.cons d3071 va_P.nil
                have bx3065 := nx3065.2.1
                have bx3073 := nx3073.2.1
                have hbn : N3070 + 2 * pos ≤ N + 2 * p3033 ∧ N3070 ≤ 2 * p3033 := by
                  by_cases e9 : er = 0
                  · omega
                  · have q9 := bx3065 e9; have q8 := bx3073 e9; omega
                exact en_v hx hb hr hlocks hL (Nat.zero_le _) (Nat.zero_le _) dX9_factor_178 (⟨hT, hF, _, p3033, er, hbn.1, (by omega), id, hm, _, hP 0 _ rfl, e3072, hbn.2, (EM.lit x3065 x3073 (by decide) v2989)⟩)
            · have hm := m3028
              have hm8 := hm.2.2.2.2.2.2.2
              refine lv_if_eq (tgt := 128) hx hb dX9_factor_121 (by decide) (fun c9 => absurd c9 (by decide)) (fun _ => ?_)
              refine lv_iconst (v := 2) hx hb dX9_factor_124 (by decide) ?_
              refine lv_goto (tgt := 142) hx hb dX9_factor_125 (by decide) ?_
              refine lv_istore_n (lv' := [(2, .int 2), (1, .int (byF g tl p2995)), (0, .ref w)]) hx hb dX9_factor_142 rfl hl (by decide) rfl (fun ls hl => ?_)
              refine lv_iload_n hx hb dX9_factor_143 rfl (lv_at hl 0 rfl) ?_
              refine lv_if_ge (tgt := 158) hx hb dX9_factor_144 (by decide) (fun _ => ?_) (fun c9 => absurd (by decide) c9)
              refine lv_iload_n hx hb dX9_factor_158 rfl (lv_at hl 0 rfl) ?_
              refine lv_istore_n (lv' := [(3, .int 2), (2, .int 2), (1, .int (byF g tl p2995)), (0, .ref w)]) hx hb dX9_factor_159 rfl hl (by decide) rfl (fun ls hl => ?_)
              refine lv_aload_n hx hb dX9_factor_160 rfl (lv_at hl 3 rfl) ?_
              refine lv_iload_n hx hb dX9_factor_161 rfl (lv_at hl 1 rfl) ?_
              refine lv_if_ge (tgt := 169) hx hb dX9_factor_162 (by decide) (fun _ => ?_) (fun c9 => absurd (by decide) c9)
              refine lv_iconst (v := 1) hx hb dX9_factor_169 (by decide) ?_
              refine cv_v (As := [.int 1]) (rest := []) (b := w) ⟨hx, hb, hml, hown, hts⟩ (c_X9_emit hT (w := w) hw (x := 1) hbT hdT hm (hP 0 _ rfl) e2989 (fun e9 => by omega)) (cwV 1 hts gX9_factor_X9_emit rfl rfl rfl hdX9_emit_v ⟨Nat.le_of_ble_eq_true rfl, Nat.le_of_ble_eq_true rfl⟩) hN hE hL (rcv10 hN hT hw.1) rfl rfl hl.1 (Nat.le_of_ble_eq_true rfl) dX9_factor_170 (Nat.zero_le _) (Nat.zero_le _) (fun H1 locs hL hqr3076 => ?_)
              obtain ⟨hT1, hF1, hqr3076⟩ := hqr3076
              have hF := hF.tr (hF1.mono (by simp))
              have hT := hT1
              obtain ⟨f3077, N3078, d3079, e3080, x3081, m3082⟩ := hqr3076
              have hm := m3082
              have hm8 := hm.2.2.2.2.2.2.2
              have nx3081 := x3081.n
              have ox3081 := nx3081.1
              have hbd : B0 ≤ dr := (hT.o26 hdT.1).1
              have hDR := hT.dr hdT d3079
              have hP : va_P D vwCl [(dr, .inl (cs 0, 1383, .inl f3077))] _ := va_P.cons d3079 va_P.nil
              refine lv_aload_n hx hb dX9_factor_173 rfl (lv_at hl 3 rfl) ?_
              refine lv_iload_n hx hb dX9_factor_174 rfl (lv_at hl 0 rfl) ?_
              refine cv_v (As := [.int 2]) (rest := []) (b := w) ⟨hx, hb, hml, hown, hts⟩ (c_X9_emit hT (w := w) hw (x := 2) hbT hdT hm (hP 0 _ rfl) e3080 (fun e9 => by omega)) (cwV 1 hts gX9_factor_X9_emit rfl rfl rfl hdX9_emit_v ⟨Nat.le_of_ble_eq_true rfl, Nat.le_of_ble_eq_true rfl⟩) hN hE hL (rcv10 hN hT hw.1) rfl rfl hl.1 (Nat.le_of_ble_eq_true rfl) dX9_factor_175 (Nat.zero_le _) (Nat.zero_le _) (fun H1 locs hL hqr3084 => ?_)
              obtain ⟨hT1, hF1, hqr3084⟩ := hqr3084
              have hF := hF.tr (hF1.mono (by simp))
              have hT := hT1
              obtain ⟨f3085, N3086, d3087, e3088, x3089, m3090⟩ := hqr3084
              have hm := m3090
              have hm8 := hm.2.2.2.2.2.2.2
              have nx3089 := x3089.n
              have ox3089 := nx3089.1
              have hbd : B0 ≤ dr := (hT.o26 hdT.1).1
              have hDR := hT.dr hdT d3087
              have hP : va_P D vwCl [(dr, .inl (cs 0, 1383, .inl f3085))] _ := va_P.cons d3087 va_P.nil
              have bx3081 := nx3081.2.1
              have bx3089 := nx3089.2.1
              have hbn : N3086 + 2 * pos ≤ N + 2 * p3025 ∧ N3086 ≤ 2 * p3025 := by
                by_cases e9 : er = 0
                · omega
                · have q9 := bx3081 e9; have q8 := bx3089 e9; omega
              exact en_v hx hb hr hlocks hL (Nat.zero_le _) (Nat.zero_le _) dX9_factor_178 (⟨hT, hF, _, p3025, er, hbn.1, (by omega), id, hm, _, hP 0 _ rfl, e3088, hbn.2, (EM.lit x3081 x3089 (by decide) v2989)⟩)
          · have hm := m3020
            have hm8 := hm.2.2.2.2.2.2.2
            refine lv_if_eq (tgt := 115) hx hb dX9_factor_108 (by decide) (fun c9 => absurd c9 (by decide)) (fun _ => ?_)
            refine lv_iconst (v := 1) hx hb dX9_factor_111 (by decide) ?_
            refine lv_goto (tgt := 142) hx hb dX9_factor_112 (by decide) ?_
            refine lv_istore_n (lv' := [(2, .int 1), (1, .int (byF g tl p2995)), (0, .ref w)]) hx hb dX9_factor_142 rfl hl (by decide) rfl (fun ls hl => ?_)
            refine lv_iload_n hx hb dX9_factor_143 rfl (lv_at hl 0 rfl) ?_
            refine lv_if_ge (tgt := 158) hx hb dX9_factor_144 (by decide) (fun _ => ?_) (fun c9 => absurd (by decide) c9)
            refine lv_iload_n hx hb dX9_factor_158 rfl (lv_at hl 0 rfl) ?_
            refine lv_istore_n (lv' := [(3, .int 1), (2, .int 1), (1, .int (byF g tl p2995)), (0, .ref w)]) hx hb dX9_factor_159 rfl hl (by decide) rfl (fun ls hl => ?_)
            refine lv_aload_n hx hb dX9_factor_160 rfl (lv_at hl 3 rfl) ?_
            refine lv_iload_n hx hb dX9_factor_161 rfl (lv_at hl 1 rfl) ?_
            refine lv_if_ge (tgt := 169) hx hb dX9_factor_162 (by decide) (fun _ => ?_) (fun c9 => absurd (by decide) c9)
            refine lv_iconst (v := 1) hx hb dX9_factor_169 (by decide) ?_
            refine cv_v (As := [.int 1]) (rest := []) (b := w) ⟨hx, hb, hml, hown, hts⟩ (c_X9_emit hT (w := w) hw (x := 1) hbT hdT hm (hP 0 _ rfl) e2989 (fun e9 => by omega)) (cwV 1 hts gX9_factor_X9_emit rfl rfl rfl hdX9_emit_v ⟨Nat.le_of_ble_eq_true rfl, Nat.le_of_ble_eq_true rfl⟩) hN hE hL (rcv10 hN hT hw.1) rfl rfl hl.1 (Nat.le_of_ble_eq_true rfl) dX9_factor_170 (Nat.zero_le _) (Nat.zero_le _) (fun H1 locs hL hqr3092 => ?_)
            obtain ⟨hT1, hF1, hqr3092⟩ := hqr3092
            have hF := hF.tr (hF1.mono (by simp))
            have hT := hT1
            obtain ⟨f3093, N3094, d3095, e3096, x3097, m3098⟩ := hqr3092
            have hm := m3098
            have hm8 := hm.2.2.2.2.2.2.2
            have nx3097 := x3097.n
            have ox3097 := nx3097.1
            have hbd : B0 ≤ dr := (hT.o26 hdT.1).1
            have hDR := hT.dr hdT d3095
            have hP : va_P D vwCl [(dr, .inl (cs 0, 1383, .inl f3093))] _ := va_P.cons d3095 va_P.nil
            refine lv_aload_n hx hb dX9_factor_173 rfl (lv_at hl 3 rfl) ?_
            refine lv_iload_n hx hb dX9_factor_174 rfl (lv_at hl 0 rfl) ?_
            refine cv_v (As := [.int 1]) (rest := []) (b := w) ⟨hx, hb, hml, hown, hts⟩ (c_X9_emit hT (w := w) hw (x := 1) hbT hdT hm (hP 0 _ rfl) e3096 (fun e9 => by omega)) (cwV 1 hts gX9_factor_X9_emit rfl rfl rfl hdX9_emit_v ⟨Nat.le_of_ble_eq_true rfl, Nat.le_of_ble_eq_true rfl⟩) hN hE hL (rcv10 hN hT hw.1) rfl rfl hl.1 (Nat.le_of_ble_eq_true rfl) dX9_factor_175 (Nat.zero_le _) (Nat.zero_le _) (fun H1 locs hL hqr3100 => ?_)
            obtain ⟨hT1, hF1, hqr3100⟩ := hqr3100
            have hF := hF.tr (hF1.mono (by simp))
            have hT := hT1
            obtain ⟨f3101, N3102, d3103, e3104, x3105, m3106⟩ := hqr3100
            have hm := m3106
            have hm8 := hm.2.2.2.2.2.2.2
            have nx3105 := x3105.n
            have ox3105 := nx3105.1
            have hbd : B0 ≤ dr := (hT.o26 hdT.1).1
            have hDR := hT.dr hdT d3103
            have hP : va_P D vwCl [(dr, .inl (cs 0, 1383, .inl f3101))] _ := va_P.cons d3103 va_P.nil
            have bx3097 := nx3097.2.1
            have bx3105 := nx3105.2.1
            have hbn : N3102 + 2 * pos ≤ N + 2 * p3017 ∧ N3102 ≤ 2 * p3017 := by
              by_cases e9 : er = 0
              · omega
              · have q9 := bx3097 e9; have q8 := bx3105 e9; omega
            exact en_v hx hb hr hlocks hL (Nat.zero_le _) (Nat.zero_le _) dX9_factor_178 (⟨hT, hF, _, p3017, er, hbn.1, (by omega), id, hm, _, hP 0 _ rfl, e3104, hbn.2, (EM.lit x3097 x3105 (by decide) v2989)⟩)
        · have hm := m3012
          have hm8 := hm.2.2.2.2.2.2.2
          refine lv_if_eq (tgt := 102) hx hb dX9_factor_95 (by decide) (fun c9 => absurd c9 (by decide)) (fun _ => ?_)
          refine lv_iconst (v := 0) hx hb dX9_factor_98 (by decide) ?_
          refine lv_goto (tgt := 142) hx hb dX9_factor_99 (by decide) ?_
          refine lv_istore_n (lv' := [(2, .int 0), (1, .int (byF g tl p2995)), (0, .ref w)]) hx hb dX9_factor_142 rfl hl (by decide) rfl (fun ls hl => ?_)
          refine lv_iload_n hx hb dX9_factor_143 rfl (lv_at hl 0 rfl) ?_
          refine lv_if_ge (tgt := 158) hx hb dX9_factor_144 (by decide) (fun _ => ?_) (fun c9 => absurd (by decide) c9)
          refine lv_iload_n hx hb dX9_factor_158 rfl (lv_at hl 0 rfl) ?_
          refine lv_istore_n (lv' := [(3, .int 0), (2, .int 0), (1, .int (byF g tl p2995)), (0, .ref w)]) hx hb dX9_factor_159 rfl hl (by decide) rfl (fun ls hl => ?_)
          refine lv_aload_n hx hb dX9_factor_160 rfl (lv_at hl 3 rfl) ?_
          refine lv_iload_n hx hb dX9_factor_161 rfl (lv_at hl 1 rfl) ?_
          refine lv_if_ge (tgt := 169) hx hb dX9_factor_162 (by decide) (fun _ => ?_) (fun c9 => absurd (by decide) c9)
          refine lv_iconst (v := 1) hx hb dX9_factor_169 (by decide) ?_
          refine cv_v (As := [.int 1]) (rest := []) (b := w) ⟨hx, hb, hml, hown, hts⟩ (c_X9_emit hT (w := w) hw (x := 1) hbT hdT hm (hP 0 _ rfl) e2989 (fun e9 => by omega)) (cwV 1 hts gX9_factor_X9_emit rfl rfl rfl hdX9_emit_v ⟨Nat.le_of_ble_eq_true rfl, Nat.le_of_ble_eq_true rfl⟩) hN hE hL (rcv10 hN hT hw.1) rfl rfl hl.1 (Nat.le_of_ble_eq_true rfl) dX9_factor_170 (Nat.zero_le _) (Nat.zero_le _) (fun H1 locs hL hqr3108 => ?_)
          obtain ⟨hT1, hF1, hqr3108⟩ := hqr3108
          have hF := hF.tr (hF1.mono (by simp))
          have hT := hT1
          obtain ⟨f3109, N3110, d3111, e3112, x3113, m3114⟩ := hqr3108
          have hm := m3114
          have hm8 := hm.2.2.2.2.2.2.2
          have nx3113 := x3113.n
          have ox3113 := nx3113.1
          have hbd : B0 ≤ dr := (hT.o26 hdT.1).1
          have hDR := hT.dr hdT d3111
          have hP : va_P D vwCl [(dr, .inl (cs 0, 1383, .inl f3109))] _ := va_P.cons d3111 va_P.nil
          refine lv_aload_n hx hb dX9_factor_173 rfl (lv_at hl 3 rfl) ?_
          refine lv_iload_n hx hb dX9_factor_174 rfl (lv_at hl 0 rfl) ?_
          refine cv_v (As := [.int 0]) (rest := []) (b := w) ⟨hx, hb, hml, hown, hts⟩ (c_X9_emit hT (w := w) hw (x := 0) hbT hdT hm (hP 0 _ rfl) e3112 (fun e9 => by omega)) (cwV 1 hts gX9_factor_X9_emit rfl rfl rfl hdX9_emit_v ⟨Nat.le_of_ble_eq_true rfl, Nat.le_of_ble_eq_true rfl⟩) hN hE hL (rcv10 hN hT hw.1) rfl rfl hl.1 (Nat.le_of_ble_eq_true rfl) dX9_factor_175 (Nat.zero_le _) (Nat.zero_le _) (fun H1 locs hL hqr3116 => ?_)
          obtain ⟨hT1, hF1, hqr3116⟩ := hqr3116
          have hF := hF.tr (hF1.mono (by simp))
          have hT := hT1
          obtain ⟨f3117, N3118, d3119, e3120, x3121, m3122⟩ := hqr3116
          have hm := m3122
          have hm8 := hm.2.2.2.2.2.2.2
          have nx3121 := x3121.n
          have ox3121 := nx3121.1
          have hbd : B0 ≤ dr := (hT.o26 hdT.1).1
          have hDR := hT.dr hdT d3119
          have hP : va_P D vwCl [(dr, .inl (cs 0, 1383, .inl f3117))] _ := va_P.cons d3119 va_P.nil
          have bx3113 := nx3113.2.1
          have bx3121 := nx3121.2.1
          have hbn : N3118 + 2 * pos ≤ N + 2 * p3009 ∧ N3118 ≤ 2 * p3009 := by
            by_cases e9 : er = 0
            · omega
            · have q9 := bx3113 e9; have q8 := bx3121 e9; omega
          exact en_v hx hb hr hlocks hL (Nat.zero_le _) (Nat.zero_le _) dX9_factor_178 (⟨hT, hF, _, p3009, er, hbn.1, (by omega), id, hm, _, hP 0 _ rfl, e3120, hbn.2, (EM.lit x3113 x3121 (by decide) v2989)⟩)
      · refine lv_if_eq (tgt := 89) hx hb dX9_factor_82 (by decide) (fun c9 => absurd c9 (by decide)) (fun _ => ?_)
        refine lv_iconst (v := (-1)) hx hb dX9_factor_85 (by decide) ?_
        refine lv_goto (tgt := 142) hx hb dX9_factor_86 (by decide) ?_
        refine lv_istore_n (lv' := [(2, .int (-1)), (1, .int (byF g tl p2995)), (0, .ref w)]) hx hb dX9_factor_142 rfl hl (by decide) rfl (fun ls hl => ?_)
        refine lv_iload_n hx hb dX9_factor_143 rfl (lv_at hl 0 rfl) ?_
        refine lv_if_ge (tgt := 158) hx hb dX9_factor_144 (by decide) (fun c9 => absurd c9 (by decide)) (fun _ => ?_)
        refine lv_aload_n hx hb dX9_factor_147 rfl (lv_at hl 2 rfl) ?_
        refine lv_iconst (v := 0) hx hb dX9_factor_148 (by decide) ?_
        refine lv_sipush (v := 9999) hx hb dX9_factor_149 (by decide) ?_
        refine cv_i (As := [.int 0, .int 9999]) (rest := []) (b := w) ⟨hx, hb, hml, hown, hts⟩ (c_X9_number hT (w := w) hw (x := 0) (y := 9999) hbT hdT hm) (cwV 2 hts gX9_factor_X9_number rfl rfl rfl hdX9_number_v ⟨Nat.le_of_ble_eq_true rfl, Nat.le_of_ble_eq_true rfl⟩) hN hE hL (rcv10 hN hT hw.1) rfl rfl hl.1 (Nat.le_of_ble_eq_true rfl) dX9_factor_152 (Nat.zero_le _) (Nat.zero_le _) (fun r3124 H1 locs hL hqr3124 => ?_)
        obtain ⟨hT1, hF1, hqr3124⟩ := hqr3124
        have hP : va_P D vwCl [(dr, .inl (cs 0, 1383, .inl f2989))] _ := hF1.hP (hP.sub [0] rfl) (fa_c ⟨by rw [hdT.1]; decide, by rw [hdT.2]; first | decide | (simp; done) | (simp; omega)⟩ fa_n)
        have hF := hF.tr (hF1.mono (by simp))
        have hT := hT1
        obtain ⟨p3125, er3126, a3127, z3128, m3129, q3130⟩ := hqr3124
        have hm := m3129
        have hm8 := hm.2.2.2.2.2.2.2
        refine lv_goto (tgt := 159) hx hb dX9_factor_155 (by decide) ?_
        refine lv_istore_n (lv' := [(3, .int r3124), (2, .int (-1)), (1, .int (byF g tl p2995)), (0, .ref w)]) hx hb dX9_factor_159 rfl hl (by decide) rfl (fun ls hl => ?_)
        refine lv_aload_n hx hb dX9_factor_160 rfl (lv_at hl 3 rfl) ?_
        refine lv_iload_n hx hb dX9_factor_161 rfl (lv_at hl 1 rfl) ?_
        refine lv_if_ge (tgt := 169) hx hb dX9_factor_162 (by decide) (fun c9 => absurd c9 (by decide)) (fun _ => ?_)
        refine lv_iconst (v := 0) hx hb dX9_factor_165 (by decide) ?_
        refine lv_goto (tgt := 170) hx hb dX9_factor_166 (by decide) ?_
        refine cv_v (As := [.int 0]) (rest := []) (b := w) ⟨hx, hb, hml, hown, hts⟩ (c_X9_emit hT (w := w) hw (x := 0) hbT hdT hm (hP 0 _ rfl) e2989 (fun e9 => by have q9 := (z3128 e9).2; omega)) (cwV 1 hts gX9_factor_X9_emit rfl rfl rfl hdX9_emit_v ⟨Nat.le_of_ble_eq_true rfl, Nat.le_of_ble_eq_true rfl⟩) hN hE hL (rcv10 hN hT hw.1) rfl rfl hl.1 (Nat.le_of_ble_eq_true rfl) dX9_factor_170 (Nat.zero_le _) (Nat.zero_le _) (fun H1 locs hL hqr3131 => ?_)
        obtain ⟨hT1, hF1, hqr3131⟩ := hqr3131
        have hF := hF.tr (hF1.mono (by simp))
        have hT := hT1
        obtain ⟨f3132, N3133, d3134, e3135, x3136, m3137⟩ := hqr3131
        have hm := m3137
        have hm8 := hm.2.2.2.2.2.2.2
        have nx3136 := x3136.n
        have ox3136 := nx3136.1
        have hbd : B0 ≤ dr := (hT.o26 hdT.1).1
        have hDR := hT.dr hdT d3134
        have hP : va_P D vwCl [(dr, .inl (cs 0, 1383, .inl f3132))] _ := va_P.cons d3134 va_P.nil
        refine lv_aload_n hx hb dX9_factor_173 rfl (lv_at hl 3 rfl) ?_
        refine lv_iload_n hx hb dX9_factor_174 rfl (lv_at hl 0 rfl) ?_
        refine cv_v (As := [.int r3124]) (rest := []) (b := w) ⟨hx, hb, hml, hown, hts⟩ (c_X9_emit hT (w := w) hw (x := r3124) hbT hdT hm (hP 0 _ rfl) e3135 (fun e9 => by have q9 := (z3128 e9).2; omega)) (cwV 1 hts gX9_factor_X9_emit rfl rfl rfl hdX9_emit_v ⟨Nat.le_of_ble_eq_true rfl, Nat.le_of_ble_eq_true rfl⟩) hN hE hL (rcv10 hN hT hw.1) rfl rfl hl.1 (Nat.le_of_ble_eq_true rfl) dX9_factor_175 (Nat.zero_le _) (Nat.zero_le _) (fun H1 locs hL hqr3139 => ?_)
        obtain ⟨hT1, hF1, hqr3139⟩ := hqr3139
        have hF := hF.tr (hF1.mono (by simp))
        have hT := hT1
        obtain ⟨f3140, N3141, d3142, e3143, x3144, m3145⟩ := hqr3139
        have hm := m3145
        have hm8 := hm.2.2.2.2.2.2.2
        have nx3144 := x3144.n
        have ox3144 := nx3144.1
        have hbd : B0 ≤ dr := (hT.o26 hdT.1).1
        have hDR := hT.dr hdT d3142
        have hP : va_P D vwCl [(dr, .inl (cs 0, 1383, .inl f3140))] _ := va_P.cons d3142 va_P.nil
        have bx3136 := nx3136.2.1
        have bx3144 := nx3144.2.1
        have hbn : N3141 + 2 * pos ≤ N + 2 * p3125 ∧ N3141 ≤ 2 * p3125 := by
          by_cases e9 : er3126 = 0
          · have q9 := (z3128 e9).2; omega
          · have q9 := bx3136 e9; have q8 := bx3144 e9; omega
        exact en_v hx hb hr hlocks hL (Nat.zero_le _) (Nat.zero_le _) dX9_factor_178 (⟨hT, hF, _, p3125, er3126, hbn.1, (by omega), (fun e9 => id ((fun e9 => (z3128 e9).1) e9)), hm, _, hP 0 _ rfl, e3143, hbn.2, (EM.lit x3136 x3144 (by decide) (fun e9 => v2989 ((fun e9 => (z3128 e9).1) e9)))⟩)
    · have hl9 := byF_c (c3000) (by decide)
      refine lv_aload_n hx hb dX9_factor_19 rfl (lv_at hl 1 rfl) ?_
      obtain ⟨hb3147, e3147, hat3147, hk3147⟩ := hT.o10 hw.1
      obtain ⟨f3147_0, f3147_1, f3147_3, f3147_4, f3147_5, f3147_6, f3147_7, f3147_9, f3147_10, f3147_11, f3147_12, f3147_13, f3147_14, f3147_15, f3147_16, f3147_17, rfl, c3147_2, c3147_3, c3147_4, c3147_12, t3147_1, t3147_8, t3147_9, c3147_sd, t3147_10, t3147_11, t3147_17⟩ := hk3147
      obtain ⟨rfl, rfl, rfl, rfl, rfl, rfl⟩ := hm.at hat3147 c3147_3 (by omega)
      have hm8 := hm.2.2.2.2.2.2.2
      have hP : va_P D vwCl [(w, .inr (9, [.int f3147_0, .ref bu, .int (nI ((κ w).2.2.1)), .int (nI tl), .int (nI p2995), .int er, .int f3147_6, .int f3147_7, .ref (κ w).2.2.2, .ref f3147_9, .ref dr, .ref f3147_11, .int (nI f3147_12), .int f3147_13, .int 2, .int f3147_15, .int f3147_16, .ref f3147_17])), (dr, .inl (cs 0, 1383, .inl f2989))] _ := va_P.cons hat3147 hP
      refine va_get (D := D) (ci := 9) (v := .int 2) (C := RX9) (T := TX9) (N := 18) hx hb hts iX9_factor_9 hown hN.1 hP 0 rfl rfl 14 (by decide) (hts _ mX9_factor_1) (fun _ h9 => h9) rfl dX9_factor_20 ?_
      refine lv_iconst (v := 4) hx hb dX9_factor_23 (by decide) ?_
      refine lv_icmp_ne (tgt := 37) hx hb dX9_factor_24 (by decide) (fun _ => ?_) (fun c9 => absurd c9 (by decide))
      refine lv_aload_n hx hb dX9_factor_37 rfl (lv_at hl 1 rfl) ?_
      refine lv_dup hx hb dX9_factor_38 rfl ?_
      refine va_get (D := D) (ci := 9) (v := .int (nI p2995)) (C := RX9) (T := TX9) (N := 18) hx hb hts iX9_factor_9 hown hN.1 hP 0 rfl rfl 4 (by decide) (hts _ mX9_factor_2) (fun _ h9 => h9) rfl dX9_factor_39 ?_
      refine lv_iconst (v := 1) hx hb dX9_factor_42 (by decide) ?_
      refine lv_iadd hx hb dX9_factor_43 ?_
      refine tp_i (nI (p2995 + 1)) (nI_add p2995 1) ?_
      have hB : Bx B0 D _ [(w, .inr (9, [.int f3147_0, .ref bu, .int (nI ((κ w).2.2.1)), .int (nI tl), .int (nI p2995), .int er, .int f3147_6, .int f3147_7, .ref (κ w).2.2.2, .ref f3147_9, .ref dr, .ref f3147_11, .int (nI f3147_12), .int f3147_13, .int 2, .int f3147_15, .int f3147_16, .ref f3147_17])), (dr, .inl (cs 0, 1383, .inl f2989))] [] _ _ := Bx.of (fun a => (κ a).1) hL hP (fa_c hb3147 (fa_c hbd fa_n)) (by simp only [List.map_cons, List.map_nil, hw.1, hdT.1]; decide)
      refine b_put (D := D) (ci := 9) (v := .int (nI (p2995 + 1))) (ty := .int) (C := RX9) (T := TX9) (N := 18) hx hb hts iX9_factor_9 tyX9 tyX9_ok nmX9 hown hN hB 0 rfl rfl 4 (by decide) (hts _ mX9_factor_2) (fun _ h9 => h9) rfl (by decide +kernel) rfl rfl (Nat.le_of_ble_eq_true rfl) (.inl rfl) dX9_factor_44 (fun H locs hB => ?_)
      have hB : Bx B0 D _ [(w, .inr (9, [.int f3147_0, .ref bu, .int (nI ((κ w).2.2.1)), .int (nI tl), .int (nI (p2995 + 1)), .int er, .int f3147_6, .int f3147_7, .ref (κ w).2.2.2, .ref f3147_9, .ref dr, .ref f3147_11, .int (nI f3147_12), .int f3147_13, .int 2, .int f3147_15, .int f3147_16, .ref f3147_17])), (dr, .inl (cs 0, 1383, .inl f2989))] [w] _ _ := hB
      refine lv_aload_n hx hb dX9_factor_47 rfl (lv_at hl 1 rfl) ?_
      refine lv_dup hx hb dX9_factor_48 rfl ?_
      refine va_get (D := D) (ci := 9) (v := .int 2) (C := RX9) (T := TX9) (N := 18) hx hb hts iX9_factor_9 hown hN.1 hB.1 0 rfl rfl 14 (by decide) (hts _ mX9_factor_1) (fun _ h9 => h9) rfl dX9_factor_49 ?_
      refine lv_iconst (v := 1) hx hb dX9_factor_52 (by decide) ?_
      refine lv_iadd hx hb dX9_factor_53 ?_
      refine tp_i 3 (by decide) ?_
      refine b_put (D := D) (ci := 9) (v := .int 3) (ty := .int) (C := RX9) (T := TX9) (N := 18) hx hb hts iX9_factor_9 tyX9 tyX9_ok nmX9 hown hN hB 0 rfl rfl 14 (by decide) (hts _ mX9_factor_1) (fun _ h9 => h9) rfl (by decide +kernel) rfl rfl (Nat.le_of_ble_eq_true rfl) (.inr ⟨rfl, List.mem_of_getElem? (i := 0) rfl⟩) dX9_factor_54 (fun H locs hB => ?_)
      have hB : Bx B0 D _ [(w, .inr (9, [.int f3147_0, .ref bu, .int (nI ((κ w).2.2.1)), .int (nI tl), .int (nI (p2995 + 1)), .int er, .int f3147_6, .int f3147_7, .ref (κ w).2.2.2, .ref f3147_9, .ref dr, .ref f3147_11, .int (nI f3147_12), .int f3147_13, .int 3, .int f3147_15, .int f3147_16, .ref f3147_17])), (dr, .inl (cs 0, 1383, .inl f2989))] [w] _ _ := hB
      refine lv_aload_n hx hb dX9_factor_57 rfl (lv_at hl 1 rfl) ?_
      have hT : WT B0 D cs T κ _ := hT.close hB ⟨⟨0, _, rfl, ok_10 hw.1 ⟨_, _, _, _, _, _, _, _, _, _, _, _, _, _, _, _, rfl, (by omega), (by omega), (by omega), (by omega), hbT, t3147_8, t3147_9, c3147_sd, hdT, t3147_11, t3147_17⟩⟩, trivial⟩
      have hF : Fr B0 [12, 17] κ H0 _ := hF.close hB (fa_c (by simp [hw.2]) fa_n)
      have hL : OkL B0 _ := hB.2.2.2.2.2
      have hP : va_P D vwCl [(w, .inr (9, [.int f3147_0, .ref bu, .int (nI ((κ w).2.2.1)), .int (nI tl), .int (nI (p2995 + 1)), .int er, .int f3147_6, .int f3147_7, .ref (κ w).2.2.2, .ref f3147_9, .ref dr, .ref f3147_11, .int (nI f3147_12), .int f3147_13, .int 3, .int f3147_15, .int f3147_16, .ref f3147_17])), (dr, .inl (cs 0, 1383, .inl f2989))] _ := hB.1
      have hbu9 := (hm.2.2.2.2.2.2.1).kept (hB.2.2.2.1 _ hm.2.2.2.2.2.2.1.lt (by simp only [List.mem_cons, List.not_mem_nil, or_false, not_or]; exact ne_c hbT.1 hw.1 (by decide)))
      have hm : MF D cs w _ ((p2995 + 1)) (tl) (er) (3) dr bu g := ⟨⟨_, hP 0 _ rfl, rfl⟩, ⟨_, hP 0 _ rfl, rfl⟩, ⟨_, hP 0 _ rfl, rfl⟩, ⟨_, hP 0 _ rfl, rfl⟩, ⟨_, hP 0 _ rfl, rfl⟩, ⟨_, hP 0 _ rfl, rfl⟩, hbu9, (by omega), (by omega)⟩
      have hps : PS D cs w _ ((p2995 + 1)) (tl) (er) (3) dr bu g (N) (h) := ⟨hm, f2989, hP 1 _ rfl, e2989, by omega, v2989⟩
      refine cv_v (As := []) (rest := []) (b := w) ⟨hx, hb, hml, hown, hts⟩ (c_X9_readSum_d3 hT (w := w) hw hbT hdT hps) (cwV 0 hts gX9_factor_X9_readSum rfl rfl rfl hdX9_readSum_v ⟨Nat.le_of_ble_eq_true rfl, Nat.le_of_ble_eq_true rfl⟩) hN hE hL (rcv10 hN hT hw.1) rfl rfl hl.1 (Nat.le_of_ble_eq_true rfl) dX9_factor_58 (Nat.zero_le _) (Nat.zero_le _) (fun H1 locs hL hqr3148 => ?_)
      obtain ⟨hT1, hF1, hqr3148⟩ := hqr3148
      have hF := hF.tr (hF1.mono (by simp))
      have hT := hT1
      obtain ⟨N3149, p3150, er3151, a3152, b3153, z3154, m3155, f3156, d3157, e3158, n3159, v3160⟩ := hqr3148
      have hm := m3155
      have hm8 := hm.2.2.2.2.2.2.2
      have hbd : B0 ≤ dr := (hT.o26 hdT.1).1
      have hDR := hT.dr hdT d3157
      have hP : va_P D vwCl [(dr, .inl (cs 0, 1383, .inl f3156))] _ := va_P.cons d3157 va_P.nil
      refine lv_aload_n hx hb dX9_factor_61 rfl (lv_at hl 1 rfl) ?_
      refine lv_bipush (v := 41) hx hb dX9_factor_62 (by decide) ?_
      refine cv_v (As := [.int 41]) (rest := []) (b := w) ⟨hx, hb, hml, hown, hts⟩ (c_X9_expect hT (w := w) hw (x := 41) hbT hdT hm ((by decide))) (cwV 1 hts gX9_factor_X9_expect rfl rfl rfl hdX9_expect_v ⟨Nat.le_of_ble_eq_true rfl, Nat.le_of_ble_eq_true rfl⟩) hN hE hL (rcv10 hN hT hw.1) rfl rfl hl.1 (Nat.le_of_ble_eq_true rfl) dX9_factor_64 (Nat.zero_le _) (Nat.zero_le _) (fun H1 locs hL hqr3162 => ?_)
      obtain ⟨hT1, hF1, hqr3162⟩ := hqr3162
      have hP : va_P D vwCl [(dr, .inl (cs 0, 1383, .inl f3156))] _ := hF1.hP (hP.sub [0] rfl) (fa_c ⟨by rw [hdT.1]; decide, by rw [hdT.2]; first | decide | (simp; done) | (simp; omega)⟩ fa_n)
      have hF := hF.tr (hF1.mono (by simp))
      have hT := hT1
      obtain ⟨p3163, er3164, a3165, z3166, m3167⟩ := hqr3162
      have hm := m3167
      have hm8 := hm.2.2.2.2.2.2.2
      refine lv_aload_n hx hb dX9_factor_67 rfl (lv_at hl 1 rfl) ?_
      refine lv_dup hx hb dX9_factor_68 rfl ?_
      obtain ⟨hb3168, e3168, hat3168, hk3168⟩ := hT.o10 hw.1
      obtain ⟨f3168_0, f3168_1, f3168_3, f3168_4, f3168_5, f3168_6, f3168_7, f3168_9, f3168_10, f3168_11, f3168_12, f3168_13, f3168_14, f3168_15, f3168_16, f3168_17, rfl, c3168_2, c3168_3, c3168_4, c3168_12, t3168_1, t3168_8, t3168_9, c3168_sd, t3168_10, t3168_11, t3168_17⟩ := hk3168
      obtain ⟨rfl, rfl, rfl, rfl, rfl, rfl⟩ := hm.at hat3168 c3168_3 (by omega)
      have hm8 := hm.2.2.2.2.2.2.2
      have hP : va_P D vwCl [(w, .inr (9, [.int f3168_0, .ref bu, .int (nI ((κ w).2.2.1)), .int (nI tl), .int (nI p3163), .int er3164, .int f3168_6, .int f3168_7, .ref (κ w).2.2.2, .ref f3168_9, .ref dr, .ref f3168_11, .int (nI f3168_12), .int f3168_13, .int 3, .int f3168_15, .int f3168_16, .ref f3168_17])), (dr, .inl (cs 0, 1383, .inl f3156))] _ := va_P.cons hat3168 hP
      refine va_get (D := D) (ci := 9) (v := .int 3) (C := RX9) (T := TX9) (N := 18) hx hb hts iX9_factor_9 hown hN.1 hP 0 rfl rfl 14 (by decide) (hts _ mX9_factor_1) (fun _ h9 => h9) rfl dX9_factor_69 ?_
      refine lv_iconst (v := 1) hx hb dX9_factor_72 (by decide) ?_
      refine lv_isub hx hb dX9_factor_73 ?_
      refine tp_i 2 (by decide) ?_
      have hB : Bx B0 D _ [(w, .inr (9, [.int f3168_0, .ref bu, .int (nI ((κ w).2.2.1)), .int (nI tl), .int (nI p3163), .int er3164, .int f3168_6, .int f3168_7, .ref (κ w).2.2.2, .ref f3168_9, .ref dr, .ref f3168_11, .int (nI f3168_12), .int f3168_13, .int 3, .int f3168_15, .int f3168_16, .ref f3168_17])), (dr, .inl (cs 0, 1383, .inl f3156))] [] _ _ := Bx.of (fun a => (κ a).1) hL hP (fa_c hb3168 (fa_c hbd fa_n)) (by simp only [List.map_cons, List.map_nil, hw.1, hdT.1]; decide)
      refine b_put (D := D) (ci := 9) (v := .int 2) (ty := .int) (C := RX9) (T := TX9) (N := 18) hx hb hts iX9_factor_9 tyX9 tyX9_ok nmX9 hown hN hB 0 rfl rfl 14 (by decide) (hts _ mX9_factor_1) (fun _ h9 => h9) rfl (by decide +kernel) rfl rfl (Nat.le_of_ble_eq_true rfl) (.inl rfl) dX9_factor_74 (fun H locs hB => ?_)
      have hB : Bx B0 D _ [(w, .inr (9, [.int f3168_0, .ref bu, .int (nI ((κ w).2.2.1)), .int (nI tl), .int (nI p3163), .int er3164, .int f3168_6, .int f3168_7, .ref (κ w).2.2.2, .ref f3168_9, .ref dr, .ref f3168_11, .int (nI f3168_12), .int f3168_13, .int 2, .int f3168_15, .int f3168_16, .ref f3168_17])), (dr, .inl (cs 0, 1383, .inl f3156))] [w] _ _ := hB
      have hT : WT B0 D cs T κ _ := hT.close hB ⟨⟨0, _, rfl, ok_10 hw.1 ⟨_, _, _, _, _, _, _, _, _, _, _, _, _, _, _, _, rfl, (by omega), (by omega), (by omega), (by omega), hbT, t3168_8, t3168_9, c3168_sd, hdT, t3168_11, t3168_17⟩⟩, trivial⟩
      have hF : Fr B0 [12, 17] κ H0 _ := hF.close hB (fa_c (by simp [hw.2]) fa_n)
      have hL : OkL B0 _ := hB.2.2.2.2.2
      have hP : va_P D vwCl [(w, .inr (9, [.int f3168_0, .ref bu, .int (nI ((κ w).2.2.1)), .int (nI tl), .int (nI p3163), .int er3164, .int f3168_6, .int f3168_7, .ref (κ w).2.2.2, .ref f3168_9, .ref dr, .ref f3168_11, .int (nI f3168_12), .int f3168_13, .int 2, .int f3168_15, .int f3168_16, .ref f3168_17])), (dr, .inl (cs 0, 1383, .inl f3156))] _ := hB.1
      have hbu9 := (hm.2.2.2.2.2.2.1).kept (hB.2.2.2.1 _ hm.2.2.2.2.2.2.1.lt (by simp only [List.mem_cons, List.not_mem_nil, or_false, not_or]; exact ne_c hbT.1 hw.1 (by decide)))
      have hm : MF D cs w _ (p3163) (tl) (er3164) (2) dr bu g := ⟨⟨_, hP 0 _ rfl, rfl⟩, ⟨_, hP 0 _ rfl, rfl⟩, ⟨_, hP 0 _ rfl, rfl⟩, ⟨_, hP 0 _ rfl, rfl⟩, ⟨_, hP 0 _ rfl, rfl⟩, ⟨_, hP 0 _ rfl, rfl⟩, hbu9, (by omega), (by omega)⟩
      exact en_v hx hb hr hlocks hL (Nat.zero_le _) (Nat.zero_le _) dX9_factor_77 (⟨hT, hF, N3149, p3163, er3164, (by omega), (by omega), (fun e9 => (fun e9 => id (z3154 e9)) (z3166 e9)), hm, _, hP 1 _ rfl, e3158, (by omega), (fun e9 => v3160 (z3166 e9))⟩)
  · refine lv_if_ne (tgt := 8) hx hb dX9_factor_4 (by decide) (fun c9 => absurd (by decide) c9) (fun _ => ?_)
    exact en_v hx hb hr hlocks hL (Nat.zero_le _) (Nat.zero_le _) dX9_factor_7 (⟨hT, hF, N, pos, er, (by omega), (by omega), id, hm, f2989, hP 0 _ rfl, e2989, (by omega), (fun e9 => absurd e9 e2993)⟩)
set_option maxHeartbeats 4000000 in
set_option maxRecDepth 100000 in
theorem c_X9_term_d2 {l : Launch} {D : va_G} {cs : Nat → ClassId} {B0 T : Nat} {κ : KM} {H0 : Heap} (hT : WT B0 D cs T κ H0) {w : Nat} (hw : T2 κ w 10 12) {pos tl : Nat} {er : Int32} {dr bu : Nat} {g : Nat → Int32} {N h : Nat} (hbT : T2 κ bu 23 14) (hdT : T2 κ dr 26 17) (hps : PS D cs w H0 pos tl er 2 dr bu g N h) : KC l yX9_term wsX9_term 12 260 0 0 D cs B0 H0 [.ref w] (Qv (fun H => WT B0 D cs T κ H ∧ Fr B0 [12, 17] κ H0 H ∧ ∃ N1 pos1 er1, N1 + 2 * pos ≤ N + 2 * pos1 ∧ pos ≤ pos1 ∧ (er1 = 0 → er = 0) ∧ PS D cs w H pos1 tl er1 2 dr bu g N1 (h + 1))) := by
  refine KC.of cX9_term 2 none (by decide) rfl (Nat.le_of_ble_eq_true rfl) ?_
  intro p e s m below meth c ls hx hb hr hml hown hts hlocks hin hN hE hH0 hl
  have hown : s.vm.findClass RX9 = some m.cls := hown
  have hl : lv_has ls 2 [(0, .ref w)] := hl
  have hL : OkL B0 [] := OkL.nil
  have hF : Fr B0 [12, 17] κ H0 H0 := Fr.rf
  obtain ⟨hm, f3169, hd3169, e3169, n3169, v3169⟩ := hps
  have hm8 := hm.2.2.2.2.2.2.2
  have hbd : B0 ≤ dr := (hT.o26 hdT.1).1
  have hDR := hT.dr hdT hd3169
  have hP : va_P D vwCl [(dr, .inl (cs 0, 1383, .inl f3169))] _ := va_P.cons hd3169 va_P.nil
  refine lv_aload_n hx hb dX9_term_0 rfl (lv_at hl 0 rfl) ?_
  have hps : PS D cs w _ (pos) (tl) (er) (2) dr bu g (N) (h) := ⟨hm, f3169, hP 0 _ rfl, e3169, by omega, v3169⟩
  refine cv_v (As := []) (rest := []) (b := w) ⟨hx, hb, hml, hown, hts⟩ (c_X9_factor_d2 hT (w := w) hw hbT hdT hps) (cwV 0 hts gX9_term_X9_factor rfl rfl rfl hdX9_factor_v ⟨Nat.le_of_ble_eq_true rfl, Nat.le_of_ble_eq_true rfl⟩) hN hE hL (rcv10 hN hT hw.1) rfl rfl hl.1 (Nat.le_of_ble_eq_true rfl) dX9_term_1 (Nat.zero_le _) (Nat.zero_le _) (fun H1 locs hL hqr3171 => ?_)
  obtain ⟨hT1, hF1, hqr3171⟩ := hqr3171
  have hF := hF.tr (hF1.mono (by simp))
  have hT := hT1
  obtain ⟨N3172, p3173, er3174, a3175, b3176, z3177, m3178, f3179, d3180, e3181, n3182, v3183⟩ := hqr3171
  have hm := m3178
  have hm8 := hm.2.2.2.2.2.2.2
  have hbd : B0 ≤ dr := (hT.o26 hdT.1).1
  have hDR := hT.dr hdT d3180
  have hP : va_P D vwCl [(dr, .inl (cs 0, 1383, .inl f3179))] _ := va_P.cons d3180 va_P.nil
  have hps : PS D cs w _ (p3173) (tl) (er3174) (2) dr bu g (N3172) ((h + 1)) := ⟨hm, f3179, hP 0 _ rfl, e3181, by omega, v3183⟩
  refine lp_m (α := Nat × Nat × Int32) (nL := 2) (fun a9 => 600 - a9.1) (fun a9 H9 l9 => (PS D cs w H9 a9.1 tl a9.2.2 2 dr bu g a9.2.1 (h + 1)) ∧ (a9.2.1 + 2 * pos ≤ N + 2 * a9.1) ∧ (pos ≤ a9.1) ∧ (a9.2.2 = 0 → er = 0) ∧ (WT B0 D cs T κ H9) ∧ (Fr B0 [12, 17] κ H0 H9) ∧ (OkL B0 l9)) (fun a9 => [(0, .ref w)]) ?_ (p3173, N3172, er3174) _ _ _ ⟨hps, (by show (N3172) + 2 * pos ≤ N + 2 * (p3173); omega), (by show pos ≤ (p3173); omega), (fun e9 => id (z3177 e9)), hT, hF, hL⟩ (lv_sub hl [0] rfl)
  rintro ⟨p, N1, er1⟩ H locs ls ih3185 ⟨hps, hb1, hb2, hz1, hT, hF, hL⟩ hl
  have hl : lv_has ls 2 [(0, .ref w)] := hl
  have hps : PS D cs w H p tl er1 2 dr bu g N1 (h + 1) := hps
  have hb1 : N1 + 2 * pos ≤ N + 2 * p := hb1
  have hb2 : pos ≤ p := hb2
  have hz1 : er1 = 0 → er = 0 := hz1
  obtain ⟨hm, f3186, hd3186, e3186, n3186, v3186⟩ := hps
  have hm8 := hm.2.2.2.2.2.2.2
  have hbd : B0 ≤ dr := (hT.o26 hdT.1).1
  have hDR := hT.dr hdT hd3186
  have hP : va_P D vwCl [(dr, .inl (cs 0, 1383, .inl f3186))] _ := va_P.cons hd3186 va_P.nil
  refine lv_aload_n hx hb dX9_term_4 rfl (lv_at hl 0 rfl) ?_
  refine cv_i (As := []) (rest := []) (b := w) ⟨hx, hb, hml, hown, hts⟩ (c_X9_isGood hT (w := w) hw hbT hdT hm) (cwV 0 hts gX9_term_X9_isGood rfl rfl rfl hdX9_isGood_v ⟨Nat.le_of_ble_eq_true rfl, Nat.le_of_ble_eq_true rfl⟩) hN hE hL (rcv10 hN hT hw.1) rfl rfl hl.1 (Nat.le_of_ble_eq_true rfl) dX9_term_5 (Nat.zero_le _) (Nat.zero_le _) (fun r3188 H1 locs hL hqr3188 => ?_)
  obtain ⟨h9, hqr3188⟩ := hqr3188; replace h9 := h9.symm; subst h9
  rcases hqr3188 with ⟨rfl, e3189⟩ | ⟨rfl, e3190⟩
  · refine lv_if_eq (tgt := 74) hx hb dX9_term_8 (by decide) (fun c9 => absurd c9 (by decide)) (fun _ => ?_)
    refine lv_aload_n hx hb dX9_term_11 rfl (lv_at hl 0 rfl) ?_
    refine cv_i (As := []) (rest := []) (b := w) ⟨hx, hb, hml, hown, hts⟩ (c_X9_ahead hT (w := w) hw hbT hdT hm) (cwV 0 hts gX9_term_X9_ahead rfl rfl rfl hdX9_ahead_v ⟨Nat.le_of_ble_eq_true rfl, Nat.le_of_ble_eq_true rfl⟩) hN hE hL (rcv10 hN hT hw.1) rfl rfl hl.1 (Nat.le_of_ble_eq_true rfl) dX9_term_12 (Nat.zero_le _) (Nat.zero_le _) (fun r3191 H1 locs hL hqr3191 => ?_)
    obtain ⟨hT1, hF1, hqr3191⟩ := hqr3191
    have hP : va_P D vwCl [(dr, .inl (cs 0, 1383, .inl f3186))] _ := hF1.hP (hP.sub [0] rfl) (fa_c ⟨by rw [hdT.1]; decide, by rw [hdT.2]; first | decide | (simp; done) | (simp; omega)⟩ fa_n)
    have hF := hF.tr (hF1.mono (by simp))
    have hT := hT1
    obtain ⟨p3192, h3193, m3194, n3195, s3196, rfl⟩ := hqr3191
    have hm := m3194
    have hm8 := hm.2.2.2.2.2.2.2
    refine lv_bipush (v := 42) hx hb dX9_term_15 (by decide) ?_
    refine lv_icmp_eq (tgt := 29) hx hb dX9_term_17 (by decide) (fun c3197 => ?_) (fun c3197 => ?_)
    · have hl9 := byF_c (c3197) (by decide)
      refine lv_aload_n hx hb dX9_term_29 rfl (lv_at hl 0 rfl) ?_
      refine cv_i (As := []) (rest := []) (b := w) ⟨hx, hb, hml, hown, hts⟩ (c_X9_ahead hT (w := w) hw hbT hdT hm) (cwV 0 hts gX9_term_X9_ahead rfl rfl rfl hdX9_ahead_v ⟨Nat.le_of_ble_eq_true rfl, Nat.le_of_ble_eq_true rfl⟩) hN hE hL (rcv10 hN hT hw.1) rfl rfl hl.1 (Nat.le_of_ble_eq_true rfl) dX9_term_30 (Nat.zero_le _) (Nat.zero_le _) (fun r3198 H1 locs hL hqr3198 => ?_)
      obtain ⟨hT1, hF1, hqr3198⟩ := hqr3198
      have hP : va_P D vwCl [(dr, .inl (cs 0, 1383, .inl f3186))] _ := hF1.hP (hP.sub [0] rfl) (fa_c ⟨by rw [hdT.1]; decide, by rw [hdT.2]; first | decide | (simp; done) | (simp; omega)⟩ fa_n)
      have hF := hF.tr (hF1.mono (by simp))
      have hT := hT1
      obtain ⟨p3199, h3200, m3201, n3202, s3203, rfl⟩ := hqr3198
      have hm := m3201
      have hpe := s3203 n3195
      rw [hpe] at hm
      refine tp_i (byF g tl p3192) (by rw [hpe]) ?_
      have hm8 := hm.2.2.2.2.2.2.2
      refine lv_bipush (v := 42) hx hb dX9_term_33 (by decide) ?_
      refine lv_icmp_ne (tgt := 42) hx hb dX9_term_35 (by decide) (fun c3204 => ?_) (fun c3204 => ?_)
      · refine lv_iconst (v := 0) hx hb dX9_term_42 (by decide) ?_
        refine lv_istore_n (lv' := [(1, .int 0), (0, .ref w)]) hx hb dX9_term_43 rfl hl (by decide) rfl (fun ls hl => ?_)
        refine lv_aload_n hx hb dX9_term_44 rfl (lv_at hl 1 rfl) ?_
        refine lv_dup hx hb dX9_term_45 rfl ?_
        obtain ⟨hb3205, e3205, hat3205, hk3205⟩ := hT.o10 hw.1
        obtain ⟨f3205_0, f3205_1, f3205_3, f3205_4, f3205_5, f3205_6, f3205_7, f3205_9, f3205_10, f3205_11, f3205_12, f3205_13, f3205_14, f3205_15, f3205_16, f3205_17, rfl, c3205_2, c3205_3, c3205_4, c3205_12, t3205_1, t3205_8, t3205_9, c3205_sd, t3205_10, t3205_11, t3205_17⟩ := hk3205
        obtain ⟨rfl, rfl, rfl, rfl, rfl, rfl⟩ := hm.at hat3205 c3205_3 (by omega)
        have hm8 := hm.2.2.2.2.2.2.2
        have hP : va_P D vwCl [(w, .inr (9, [.int f3205_0, .ref bu, .int (nI ((κ w).2.2.1)), .int (nI tl), .int (nI p3192), .int er1, .int f3205_6, .int f3205_7, .ref (κ w).2.2.2, .ref f3205_9, .ref dr, .ref f3205_11, .int (nI f3205_12), .int f3205_13, .int 2, .int f3205_15, .int f3205_16, .ref f3205_17])), (dr, .inl (cs 0, 1383, .inl f3186))] _ := va_P.cons hat3205 hP
        refine va_get (D := D) (ci := 9) (v := .int (nI p3192)) (C := RX9) (T := TX9) (N := 18) hx hb hts iX9_term_9 hown hN.1 hP 0 rfl rfl 4 (by decide) (hts _ mX9_term_1) (fun _ h9 => h9) rfl dX9_term_46 ?_
        refine lv_iconst (v := 1) hx hb dX9_term_49 (by decide) ?_
        refine lv_iadd hx hb dX9_term_50 ?_
        refine tp_i (nI (p3192 + 1)) (nI_add p3192 1) ?_
        have hB : Bx B0 D _ [(w, .inr (9, [.int f3205_0, .ref bu, .int (nI ((κ w).2.2.1)), .int (nI tl), .int (nI p3192), .int er1, .int f3205_6, .int f3205_7, .ref (κ w).2.2.2, .ref f3205_9, .ref dr, .ref f3205_11, .int (nI f3205_12), .int f3205_13, .int 2, .int f3205_15, .int f3205_16, .ref f3205_17])), (dr, .inl (cs 0, 1383, .inl f3186))] [] _ _ := Bx.of (fun a => (κ a).1) hL hP (fa_c hb3205 (fa_c hbd fa_n)) (by simp only [List.map_cons, List.map_nil, hw.1, hdT.1]; decide)
        refine b_put (D := D) (ci := 9) (v := .int (nI (p3192 + 1))) (ty := .int) (C := RX9) (T := TX9) (N := 18) hx hb hts iX9_term_9 tyX9 tyX9_ok nmX9 hown hN hB 0 rfl rfl 4 (by decide) (hts _ mX9_term_1) (fun _ h9 => h9) rfl (by decide +kernel) rfl rfl (Nat.le_of_ble_eq_true rfl) (.inl rfl) dX9_term_51 (fun H locs hB => ?_)
        have hB : Bx B0 D _ [(w, .inr (9, [.int f3205_0, .ref bu, .int (nI ((κ w).2.2.1)), .int (nI tl), .int (nI (p3192 + 1)), .int er1, .int f3205_6, .int f3205_7, .ref (κ w).2.2.2, .ref f3205_9, .ref dr, .ref f3205_11, .int (nI f3205_12), .int f3205_13, .int 2, .int f3205_15, .int f3205_16, .ref f3205_17])), (dr, .inl (cs 0, 1383, .inl f3186))] [w] _ _ := hB
        refine lv_aload_n hx hb dX9_term_54 rfl (lv_at hl 1 rfl) ?_
        have hT : WT B0 D cs T κ _ := hT.close hB ⟨⟨0, _, rfl, ok_10 hw.1 ⟨_, _, _, _, _, _, _, _, _, _, _, _, _, _, _, _, rfl, (by omega), (by omega), (by omega), (by omega), hbT, t3205_8, t3205_9, c3205_sd, hdT, t3205_11, t3205_17⟩⟩, trivial⟩
        have hF : Fr B0 [12, 17] κ H0 _ := hF.close hB (fa_c (by simp [hw.2]) fa_n)
        have hL : OkL B0 _ := hB.2.2.2.2.2
        have hP : va_P D vwCl [(w, .inr (9, [.int f3205_0, .ref bu, .int (nI ((κ w).2.2.1)), .int (nI tl), .int (nI (p3192 + 1)), .int er1, .int f3205_6, .int f3205_7, .ref (κ w).2.2.2, .ref f3205_9, .ref dr, .ref f3205_11, .int (nI f3205_12), .int f3205_13, .int 2, .int f3205_15, .int f3205_16, .ref f3205_17])), (dr, .inl (cs 0, 1383, .inl f3186))] _ := hB.1
        have hbu9 := (hm.2.2.2.2.2.2.1).kept (hB.2.2.2.1 _ hm.2.2.2.2.2.2.1.lt (by simp only [List.mem_cons, List.not_mem_nil, or_false, not_or]; exact ne_c hbT.1 hw.1 (by decide)))
        have hm : MF D cs w _ ((p3192 + 1)) (tl) (er1) (2) dr bu g := ⟨⟨_, hP 0 _ rfl, rfl⟩, ⟨_, hP 0 _ rfl, rfl⟩, ⟨_, hP 0 _ rfl, rfl⟩, ⟨_, hP 0 _ rfl, rfl⟩, ⟨_, hP 0 _ rfl, rfl⟩, ⟨_, hP 0 _ rfl, rfl⟩, hbu9, (by omega), (by omega)⟩
        have hps : PS D cs w _ ((p3192 + 1)) (tl) (er1) (2) dr bu g (N1) ((h + 1)) := ⟨hm, f3186, hP 1 _ rfl, e3186, by omega, v3186⟩
        refine cv_v (As := []) (rest := []) (b := w) ⟨hx, hb, hml, hown, hts⟩ (c_X9_factor_d2 hT (w := w) hw hbT hdT hps) (cwV 0 hts gX9_term_X9_factor rfl rfl rfl hdX9_factor_v ⟨Nat.le_of_ble_eq_true rfl, Nat.le_of_ble_eq_true rfl⟩) hN hE hL (rcv10 hN hT hw.1) rfl rfl hl.1 (Nat.le_of_ble_eq_true rfl) dX9_term_55 (Nat.zero_le _) (Nat.zero_le _) (fun H1 locs hL hqr3206 => ?_)
        obtain ⟨hT1, hF1, hqr3206⟩ := hqr3206
        have hF := hF.tr (hF1.mono (by simp))
        have hT := hT1
        obtain ⟨N3207, p3208, er3209, a3210, b3211, z3212, m3213, f3214, d3215, e3216, n3217, v3218⟩ := hqr3206
        have hm := m3213
        have hm8 := hm.2.2.2.2.2.2.2
        have hbd : B0 ≤ dr := (hT.o26 hdT.1).1
        have hDR := hT.dr hdT d3215
        have hP : va_P D vwCl [(dr, .inl (cs 0, 1383, .inl f3214))] _ := va_P.cons d3215 va_P.nil
        refine lv_aload_n hx hb dX9_term_58 rfl (lv_at hl 1 rfl) ?_
        refine lv_iload_n hx hb dX9_term_59 rfl (lv_at hl 0 rfl) ?_
        refine lv_if_eq (tgt := 67) hx hb dX9_term_60 (by decide) (fun _ => ?_) (fun c9 => absurd (by decide) c9)
        refine lv_iconst (v := 5) hx hb dX9_term_67 (by decide) ?_
        refine cv_v (As := [.int 5]) (rest := []) (b := w) ⟨hx, hb, hml, hown, hts⟩ (c_X9_emit hT (w := w) hw (x := 5) hbT hdT hm (hP 0 _ rfl) e3216 (fun _ => by omega)) (cwV 1 hts gX9_term_X9_emit rfl rfl rfl hdX9_emit_v ⟨Nat.le_of_ble_eq_true rfl, Nat.le_of_ble_eq_true rfl⟩) hN hE hL (rcv10 hN hT hw.1) rfl rfl hl.1 (Nat.le_of_ble_eq_true rfl) dX9_term_68 (Nat.zero_le _) (Nat.zero_le _) (fun H1 locs hL hqr3220 => ?_)
        obtain ⟨hT1, hF1, hqr3220⟩ := hqr3220
        have hF := hF.tr (hF1.mono (by simp))
        have hT := hT1
        obtain ⟨f3221, N3222, d3223, e3224, x3225, m3226⟩ := hqr3220
        have hm := m3226
        have hm8 := hm.2.2.2.2.2.2.2
        have nx3225 := x3225.n
        have ox3225 := nx3225.1
        have hbd : B0 ≤ dr := (hT.o26 hdT.1).1
        have hDR := hT.dr hdT d3223
        have hP : va_P D vwCl [(dr, .inl (cs 0, 1383, .inl f3221))] _ := va_P.cons d3223 va_P.nil
        refine lv_goto (tgt := 4) hx hb dX9_term_71 (by decide) ?_
        have hps : PS D cs w _ (p3208) (tl) (er3209) (2) dr bu g (N3222) ((h + 1)) := ⟨hm, f3221, hP 0 _ rfl, e3224, by omega, (EM.op x3225 (by decide) v3218)⟩
        exact ih3185 (p3208, N3222, er3209) _ _ _ (by show 600 - (p3208) < 600 - p; omega) ⟨hps, (by show (N3222) + 2 * pos ≤ N + 2 * (p3208); omega), (by show pos ≤ (p3208); omega), (fun e9 => hz1 (z3212 e9)), hT, hF, hL⟩ (lv_sub hl [1] rfl)
      · refine lv_iconst (v := 1) hx hb dX9_term_38 (by decide) ?_
        refine lv_goto (tgt := 43) hx hb dX9_term_39 (by decide) ?_
        refine lv_istore_n (lv' := [(1, .int 1), (0, .ref w)]) hx hb dX9_term_43 rfl hl (by decide) rfl (fun ls hl => ?_)
        refine lv_aload_n hx hb dX9_term_44 rfl (lv_at hl 1 rfl) ?_
        refine lv_dup hx hb dX9_term_45 rfl ?_
        obtain ⟨hb3228, e3228, hat3228, hk3228⟩ := hT.o10 hw.1
        obtain ⟨f3228_0, f3228_1, f3228_3, f3228_4, f3228_5, f3228_6, f3228_7, f3228_9, f3228_10, f3228_11, f3228_12, f3228_13, f3228_14, f3228_15, f3228_16, f3228_17, rfl, c3228_2, c3228_3, c3228_4, c3228_12, t3228_1, t3228_8, t3228_9, c3228_sd, t3228_10, t3228_11, t3228_17⟩ := hk3228
        obtain ⟨rfl, rfl, rfl, rfl, rfl, rfl⟩ := hm.at hat3228 c3228_3 (by omega)
        have hm8 := hm.2.2.2.2.2.2.2
        have hP : va_P D vwCl [(w, .inr (9, [.int f3228_0, .ref bu, .int (nI ((κ w).2.2.1)), .int (nI tl), .int (nI p3192), .int er1, .int f3228_6, .int f3228_7, .ref (κ w).2.2.2, .ref f3228_9, .ref dr, .ref f3228_11, .int (nI f3228_12), .int f3228_13, .int 2, .int f3228_15, .int f3228_16, .ref f3228_17])), (dr, .inl (cs 0, 1383, .inl f3186))] _ := va_P.cons hat3228 hP
        refine va_get (D := D) (ci := 9) (v := .int (nI p3192)) (C := RX9) (T := TX9) (N := 18) hx hb hts iX9_term_9 hown hN.1 hP 0 rfl rfl 4 (by decide) (hts _ mX9_term_1) (fun _ h9 => h9) rfl dX9_term_46 ?_
        refine lv_iconst (v := 1) hx hb dX9_term_49 (by decide) ?_
        refine lv_iadd hx hb dX9_term_50 ?_
        refine tp_i (nI (p3192 + 1)) (nI_add p3192 1) ?_
        have hB : Bx B0 D _ [(w, .inr (9, [.int f3228_0, .ref bu, .int (nI ((κ w).2.2.1)), .int (nI tl), .int (nI p3192), .int er1, .int f3228_6, .int f3228_7, .ref (κ w).2.2.2, .ref f3228_9, .ref dr, .ref f3228_11, .int (nI f3228_12), .int f3228_13, .int 2, .int f3228_15, .int f3228_16, .ref f3228_17])), (dr, .inl (cs 0, 1383, .inl f3186))] [] _ _ := Bx.of (fun a => (κ a).1) hL hP (fa_c hb3228 (fa_c hbd fa_n)) (by simp only [List.map_cons, List.map_nil, hw.1, hdT.1]; decide)
        refine b_put (D := D) (ci := 9) (v := .int (nI (p3192 + 1))) (ty := .int) (C := RX9) (T := TX9) (N := 18) hx hb hts iX9_term_9 tyX9 tyX9_ok nmX9 hown hN hB 0 rfl rfl 4 (by decide) (hts _ mX9_term_1) (fun _ h9 => h9) rfl (by decide +kernel) rfl rfl (Nat.le_of_ble_eq_true rfl) (.inl rfl) dX9_term_51 (fun H locs hB => ?_)
        have hB : Bx B0 D _ [(w, .inr (9, [.int f3228_0, .ref bu, .int (nI ((κ w).2.2.1)), .int (nI tl), .int (nI (p3192 + 1)), .int er1, .int f3228_6, .int f3228_7, .ref (κ w).2.2.2, .ref f3228_9, .ref dr, .ref f3228_11, .int (nI f3228_12), .int f3228_13, .int 2, .int f3228_15, .int f3228_16, .ref f3228_17])), (dr, .inl (cs 0, 1383, .inl f3186))] [w] _ _ := hB
        refine lv_aload_n hx hb dX9_term_54 rfl (lv_at hl 1 rfl) ?_
        have hT : WT B0 D cs T κ _ := hT.close hB ⟨⟨0, _, rfl, ok_10 hw.1 ⟨_, _, _, _, _, _, _, _, _, _, _, _, _, _, _, _, rfl, (by omega), (by omega), (by omega), (by omega), hbT, t3228_8, t3228_9, c3228_sd, hdT, t3228_11, t3228_17⟩⟩, trivial⟩
        have hF : Fr B0 [12, 17] κ H0 _ := hF.close hB (fa_c (by simp [hw.2]) fa_n)
        have hL : OkL B0 _ := hB.2.2.2.2.2
        have hP : va_P D vwCl [(w, .inr (9, [.int f3228_0, .ref bu, .int (nI ((κ w).2.2.1)), .int (nI tl), .int (nI (p3192 + 1)), .int er1, .int f3228_6, .int f3228_7, .ref (κ w).2.2.2, .ref f3228_9, .ref dr, .ref f3228_11, .int (nI f3228_12), .int f3228_13, .int 2, .int f3228_15, .int f3228_16, .ref f3228_17])), (dr, .inl (cs 0, 1383, .inl f3186))] _ := hB.1
        have hbu9 := (hm.2.2.2.2.2.2.1).kept (hB.2.2.2.1 _ hm.2.2.2.2.2.2.1.lt (by simp only [List.mem_cons, List.not_mem_nil, or_false, not_or]; exact ne_c hbT.1 hw.1 (by decide)))
        have hm : MF D cs w _ ((p3192 + 1)) (tl) (er1) (2) dr bu g := ⟨⟨_, hP 0 _ rfl, rfl⟩, ⟨_, hP 0 _ rfl, rfl⟩, ⟨_, hP 0 _ rfl, rfl⟩, ⟨_, hP 0 _ rfl, rfl⟩, ⟨_, hP 0 _ rfl, rfl⟩, ⟨_, hP 0 _ rfl, rfl⟩, hbu9, (by omega), (by omega)⟩
        have hps : PS D cs w _ ((p3192 + 1)) (tl) (er1) (2) dr bu g (N1) ((h + 1)) := ⟨hm, f3186, hP 1 _ rfl, e3186, by omega, v3186⟩
        refine cv_v (As := []) (rest := []) (b := w) ⟨hx, hb, hml, hown, hts⟩ (c_X9_factor_d2 hT (w := w) hw hbT hdT hps) (cwV 0 hts gX9_term_X9_factor rfl rfl rfl hdX9_factor_v ⟨Nat.le_of_ble_eq_true rfl, Nat.le_of_ble_eq_true rfl⟩) hN hE hL (rcv10 hN hT hw.1) rfl rfl hl.1 (Nat.le_of_ble_eq_true rfl) dX9_term_55 (Nat.zero_le _) (Nat.zero_le _) (fun H1 locs hL hqr3229 => ?_)
        obtain ⟨hT1, hF1, hqr3229⟩ := hqr3229
        have hF := hF.tr (hF1.mono (by simp))
        have hT := hT1
        obtain ⟨N3230, p3231, er3232, a3233, b3234, z3235, m3236, f3237, d3238, e3239, n3240, v3241⟩ := hqr3229
        have hm := m3236
        have hm8 := hm.2.2.2.2.2.2.2
        have hbd : B0 ≤ dr := (hT.o26 hdT.1).1
        have hDR := hT.dr hdT d3238
        have hP : va_P D vwCl [(dr, .inl (cs 0, 1383, .inl f3237))] _ := va_P.cons d3238 va_P.nil
        refine lv_aload_n hx hb dX9_term_58 rfl (lv_at hl 1 rfl) ?_
        refine lv_iload_n hx hb dX9_term_59 rfl (lv_at hl 0 rfl) ?_
        refine lv_if_eq (tgt := 67) hx hb dX9_term_60 (by decide) (fun c9 => absurd c9 (by decide)) (fun _ => ?_)
        refine lv_iconst (v := 4) hx hb dX9_term_63 (by decide) ?_
        refine lv_goto (tgt := 68) hx hb dX9_term_64 (by decide) ?_
        refine cv_v (As := [.int 4]) (rest := []) (b := w) ⟨hx, hb, hml, hown, hts⟩ (c_X9_emit hT (w := w) hw (x := 4) hbT hdT hm (hP 0 _ rfl) e3239 (fun _ => by omega)) (cwV 1 hts gX9_term_X9_emit rfl rfl rfl hdX9_emit_v ⟨Nat.le_of_ble_eq_true rfl, Nat.le_of_ble_eq_true rfl⟩) hN hE hL (rcv10 hN hT hw.1) rfl rfl hl.1 (Nat.le_of_ble_eq_true rfl) dX9_term_68 (Nat.zero_le _) (Nat.zero_le _) (fun H1 locs hL hqr3243 => ?_)
        obtain ⟨hT1, hF1, hqr3243⟩ := hqr3243
        have hF := hF.tr (hF1.mono (by simp))
        have hT := hT1
        obtain ⟨f3244, N3245, d3246, e3247, x3248, m3249⟩ := hqr3243
        have hm := m3249
        have hm8 := hm.2.2.2.2.2.2.2
        have nx3248 := x3248.n
        have ox3248 := nx3248.1
        have hbd : B0 ≤ dr := (hT.o26 hdT.1).1
        have hDR := hT.dr hdT d3246
        have hP : va_P D vwCl [(dr, .inl (cs 0, 1383, .inl f3244))] _ := va_P.cons d3246 va_P.nil
        refine lv_goto (tgt := 4) hx hb dX9_term_71 (by decide) ?_
        have hps : PS D cs w _ (p3231) (tl) (er3232) (2) dr bu g (N3245) ((h + 1)) := ⟨hm, f3244, hP 0 _ rfl, e3247, by omega, (EM.op x3248 (by decide) v3241)⟩
        exact ih3185 (p3231, N3245, er3232) _ _ _ (by show 600 - (p3231) < 600 - p; omega) ⟨hps, (by show (N3245) + 2 * pos ≤ N + 2 * (p3231); omega), (by show pos ≤ (p3231); omega), (fun e9 => hz1 (z3235 e9)), hT, hF, hL⟩ (lv_sub hl [1] rfl)
    · refine lv_aload_n hx hb dX9_term_20 rfl (lv_at hl 0 rfl) ?_
      refine cv_i (As := []) (rest := []) (b := w) ⟨hx, hb, hml, hown, hts⟩ (c_X9_ahead hT (w := w) hw hbT hdT hm) (cwV 0 hts gX9_term_X9_ahead rfl rfl rfl hdX9_ahead_v ⟨Nat.le_of_ble_eq_true rfl, Nat.le_of_ble_eq_true rfl⟩) hN hE hL (rcv10 hN hT hw.1) rfl rfl hl.1 (Nat.le_of_ble_eq_true rfl) dX9_term_21 (Nat.zero_le _) (Nat.zero_le _) (fun r3251 H1 locs hL hqr3251 => ?_)
      obtain ⟨hT1, hF1, hqr3251⟩ := hqr3251
      have hP : va_P D vwCl [(dr, .inl (cs 0, 1383, .inl f3186))] _ := hF1.hP (hP.sub [0] rfl) (fa_c ⟨by rw [hdT.1]; decide, by rw [hdT.2]; first | decide | (simp; done) | (simp; omega)⟩ fa_n)
      have hF := hF.tr (hF1.mono (by simp))
      have hT := hT1
      obtain ⟨p3252, h3253, m3254, n3255, s3256, rfl⟩ := hqr3251
      have hm := m3254
      have hpe := s3256 n3195
      rw [hpe] at hm
      refine tp_i (byF g tl p3192) (by rw [hpe]) ?_
      have hm8 := hm.2.2.2.2.2.2.2
      refine lv_bipush (v := 47) hx hb dX9_term_24 (by decide) ?_
      refine lv_icmp_ne (tgt := 74) hx hb dX9_term_26 (by decide) (fun c3257 => ?_) (fun c3257 => ?_)
      · have hps : PS D cs w _ (p3192) (tl) (er1) (2) dr bu g (N1) ((h + 1)) := ⟨hm, f3186, hP 0 _ rfl, e3186, by omega, v3186⟩
        exact en_v hx hb hr hlocks hL (Nat.zero_le _) (Nat.zero_le _) dX9_term_74 (⟨hT, hF, N1, p3192, er1, (by omega), (by omega), hz1, hps⟩)
      · have hl9 := byF_c (c3257) (by decide)
        refine lv_aload_n hx hb dX9_term_29 rfl (lv_at hl 0 rfl) ?_
        refine cv_i (As := []) (rest := []) (b := w) ⟨hx, hb, hml, hown, hts⟩ (c_X9_ahead hT (w := w) hw hbT hdT hm) (cwV 0 hts gX9_term_X9_ahead rfl rfl rfl hdX9_ahead_v ⟨Nat.le_of_ble_eq_true rfl, Nat.le_of_ble_eq_true rfl⟩) hN hE hL (rcv10 hN hT hw.1) rfl rfl hl.1 (Nat.le_of_ble_eq_true rfl) dX9_term_30 (Nat.zero_le _) (Nat.zero_le _) (fun r3258 H1 locs hL hqr3258 => ?_)
        obtain ⟨hT1, hF1, hqr3258⟩ := hqr3258
        have hP : va_P D vwCl [(dr, .inl (cs 0, 1383, .inl f3186))] _ := hF1.hP (hP.sub [0] rfl) (fa_c ⟨by rw [hdT.1]; decide, by rw [hdT.2]; first | decide | (simp; done) | (simp; omega)⟩ fa_n)
        have hF := hF.tr (hF1.mono (by simp))
        have hT := hT1
        obtain ⟨p3259, h3260, m3261, n3262, s3263, rfl⟩ := hqr3258
        have hm := m3261
        have hpe := s3263 n3195
        rw [hpe] at hm
        refine tp_i (byF g tl p3192) (by rw [hpe]) ?_
        have hm8 := hm.2.2.2.2.2.2.2
        refine lv_bipush (v := 42) hx hb dX9_term_33 (by decide) ?_
        refine lv_icmp_ne (tgt := 42) hx hb dX9_term_35 (by decide) (fun c3264 => ?_) (fun c3264 => ?_)
        · refine lv_iconst (v := 0) hx hb dX9_term_42 (by decide) ?_
          refine lv_istore_n (lv' := [(1, .int 0), (0, .ref w)]) hx hb dX9_term_43 rfl hl (by decide) rfl (fun ls hl => ?_)
          refine lv_aload_n hx hb dX9_term_44 rfl (lv_at hl 1 rfl) ?_
          refine lv_dup hx hb dX9_term_45 rfl ?_
          obtain ⟨hb3265, e3265, hat3265, hk3265⟩ := hT.o10 hw.1
          obtain ⟨f3265_0, f3265_1, f3265_3, f3265_4, f3265_5, f3265_6, f3265_7, f3265_9, f3265_10, f3265_11, f3265_12, f3265_13, f3265_14, f3265_15, f3265_16, f3265_17, rfl, c3265_2, c3265_3, c3265_4, c3265_12, t3265_1, t3265_8, t3265_9, c3265_sd, t3265_10, t3265_11, t3265_17⟩ := hk3265
          obtain ⟨rfl, rfl, rfl, rfl, rfl, rfl⟩ := hm.at hat3265 c3265_3 (by omega)
          have hm8 := hm.2.2.2.2.2.2.2
          have hP : va_P D vwCl [(w, .inr (9, [.int f3265_0, .ref bu, .int (nI ((κ w).2.2.1)), .int (nI tl), .int (nI p3192), .int er1, .int f3265_6, .int f3265_7, .ref (κ w).2.2.2, .ref f3265_9, .ref dr, .ref f3265_11, .int (nI f3265_12), .int f3265_13, .int 2, .int f3265_15, .int f3265_16, .ref f3265_17])), (dr, .inl (cs 0, 1383, .inl f3186))] _ := va_P.cons hat3265 hP
          refine va_get (D := D) (ci := 9) (v := .int (nI p3192)) (C := RX9) (T := TX9) (N := 18) hx hb hts iX9_term_9 hown hN.1 hP 0 rfl rfl 4 (by decide) (hts _ mX9_term_1) (fun _ h9 => h9) rfl dX9_term_46 ?_
          refine lv_iconst (v := 1) hx hb dX9_term_49 (by decide) ?_
          refine lv_iadd hx hb dX9_term_50 ?_
          refine tp_i (nI (p3192 + 1)) (nI_add p3192 1) ?_
          have hB : Bx B0 D _ [(w, .inr (9, [.int f3265_0, .ref bu, .int (nI ((κ w).2.2.1)), .int (nI tl), .int (nI p3192), .int er1, .int f3265_6, .int f3265_7, .ref (κ w).2.2.2, .ref f3265_9, .ref dr, .ref f3265_11, .int (nI f3265_12), .int f3265_13, .int 2, .int f3265_15, .int f3265_16, .ref f3265_17])), (dr, .inl (cs 0, 1383, .inl f3186))] [] _ _ := Bx.of (fun a => (κ a).1) hL hP (fa_c hb3265 (fa_c hbd fa_n)) (by simp only [List.map_cons, List.map_nil, hw.1, hdT.1]; decide)
          refine b_put (D := D) (ci := 9) (v := .int (nI (p3192 + 1))) (ty := .int) (C := RX9) (T := TX9) (N := 18) hx hb hts iX9_term_9 tyX9 tyX9_ok nmX9 hown hN hB 0 rfl rfl 4 (by decide) (hts _ mX9_term_1) (fun _ h9 => h9) rfl (by decide +kernel) rfl rfl (Nat.le_of_ble_eq_true rfl) (.inl rfl) dX9_term_51 (fun H locs hB => ?_)
          have hB : Bx B0 D _ [(w, .inr (9, [.int f3265_0, .ref bu, .int (nI ((κ w).2.2.1)), .int (nI tl), .int (nI (p3192 + 1)), .int er1, .int f3265_6, .int f3265_7, .ref (κ w).2.2.2, .ref f3265_9, .ref dr, .ref f3265_11, .int (nI f3265_12), .int f3265_13, .int 2, .int f3265_15, .int f3265_16, .ref f3265_17])), (dr, .inl (cs 0, 1383, .inl f3186))] [w] _ _ := hB
          refine lv_aload_n hx hb dX9_term_54 rfl (lv_at hl 1 rfl) ?_
          have hT : WT B0 D cs T κ _ := hT.close hB ⟨⟨0, _, rfl, ok_10 hw.1 ⟨_, _, _, _, _, _, _, _, _, _, _, _, _, _, _, _, rfl, (by omega), (by omega), (by omega), (by omega), hbT, t3265_8, t3265_9, c3265_sd, hdT, t3265_11, t3265_17⟩⟩, trivial⟩
          have hF : Fr B0 [12, 17] κ H0 _ := hF.close hB (fa_c (by simp [hw.2]) fa_n)
          have hL : OkL B0 _ := hB.2.2.2.2.2
          have hP : va_P D vwCl [(w, .inr (9, [.int f3265_0, .ref bu, .int (nI ((κ w).2.2.1)), .int (nI tl), .int (nI (p3192 + 1)), .int er1, .int f3265_6, .int f3265_7, .ref (κ w).2.2.2, .ref f3265_9, .ref dr, .ref f3265_11, .int (nI f3265_12), .int f3265_13, .int 2, .int f3265_15, .int f3265_16, .ref f3265_17])), (dr, .inl (cs 0, 1383, .inl f3186))] _ := hB.1
          have hbu9 := (hm.2.2.2.2.2.2.1).kept (hB.2.2.2.1 _ hm.2.2.2.2.2.2.1.lt (by simp only [List.mem_cons, List.not_mem_nil, or_false, not_or]; exact ne_c hbT.1 hw.1 (by decide)))
          have hm : MF D cs w _ ((p3192 + 1)) (tl) (er1) (2) dr bu g := ⟨⟨_, hP 0 _ rfl, rfl⟩, ⟨_, hP 0 _ rfl, rfl⟩, ⟨_, hP 0 _ rfl, rfl⟩, ⟨_, hP 0 _ rfl, rfl⟩, ⟨_, hP 0 _ rfl, rfl⟩, ⟨_, hP 0 _ rfl, rfl⟩, hbu9, (by omega), (by omega)⟩
          have hps : PS D cs w _ ((p3192 + 1)) (tl) (er1) (2) dr bu g (N1) ((h + 1)) := ⟨hm, f3186, hP 1 _ rfl, e3186, by omega, v3186⟩
          refine cv_v (As := []) (rest := []) (b := w) ⟨hx, hb, hml, hown, hts⟩ (c_X9_factor_d2 hT (w := w) hw hbT hdT hps) (cwV 0 hts gX9_term_X9_factor rfl rfl rfl hdX9_factor_v ⟨Nat.le_of_ble_eq_true rfl, Nat.le_of_ble_eq_true rfl⟩) hN hE hL (rcv10 hN hT hw.1) rfl rfl hl.1 (Nat.le_of_ble_eq_true rfl) dX9_term_55 (Nat.zero_le _) (Nat.zero_le _) (fun H1 locs hL hqr3266 => ?_)
          obtain ⟨hT1, hF1, hqr3266⟩ := hqr3266
          have hF := hF.tr (hF1.mono (by simp))
          have hT := hT1
          obtain ⟨N3267, p3268, er3269, a3270, b3271, z3272, m3273, f3274, d3275, e3276, n3277, v3278⟩ := hqr3266
          have hm := m3273
          have hm8 := hm.2.2.2.2.2.2.2
          have hbd : B0 ≤ dr := (hT.o26 hdT.1).1
          have hDR := hT.dr hdT d3275
          have hP : va_P D vwCl [(dr, .inl (cs 0, 1383, .inl f3274))] _ := va_P.cons d3275 va_P.nil
          refine lv_aload_n hx hb dX9_term_58 rfl (lv_at hl 1 rfl) ?_
          refine lv_iload_n hx hb dX9_term_59 rfl (lv_at hl 0 rfl) ?_
          refine lv_if_eq (tgt := 67) hx hb dX9_term_60 (by decide) (fun _ => ?_) (fun c9 => absurd (by decide) c9)
          refine lv_iconst (v := 5) hx hb dX9_term_67 (by decide) ?_
          refine cv_v (As := [.int 5]) (rest := []) (b := w) ⟨hx, hb, hml, hown, hts⟩ (c_X9_emit hT (w := w) hw (x := 5) hbT hdT hm (hP 0 _ rfl) e3276 (fun _ => by omega)) (cwV 1 hts gX9_term_X9_emit rfl rfl rfl hdX9_emit_v ⟨Nat.le_of_ble_eq_true rfl, Nat.le_of_ble_eq_true rfl⟩) hN hE hL (rcv10 hN hT hw.1) rfl rfl hl.1 (Nat.le_of_ble_eq_true rfl) dX9_term_68 (Nat.zero_le _) (Nat.zero_le _) (fun H1 locs hL hqr3280 => ?_)
          obtain ⟨hT1, hF1, hqr3280⟩ := hqr3280
          have hF := hF.tr (hF1.mono (by simp))
          have hT := hT1
          obtain ⟨f3281, N3282, d3283, e3284, x3285, m3286⟩ := hqr3280
          have hm := m3286
          have hm8 := hm.2.2.2.2.2.2.2
          have nx3285 := x3285.n
          have ox3285 := nx3285.1
          have hbd : B0 ≤ dr := (hT.o26 hdT.1).1
          have hDR := hT.dr hdT d3283
          have hP : va_P D vwCl [(dr, .inl (cs 0, 1383, .inl f3281))] _ := va_P.cons d3283 va_P.nil
          refine lv_goto (tgt := 4) hx hb dX9_term_71 (by decide) ?_
          have hps : PS D cs w _ (p3268) (tl) (er3269) (2) dr bu g (N3282) ((h + 1)) := ⟨hm, f3281, hP 0 _ rfl, e3284, by omega, (EM.op x3285 (by decide) v3278)⟩
          exact ih3185 (p3268, N3282, er3269) _ _ _ (by show 600 - (p3268) < 600 - p; omega) ⟨hps, (by show (N3282) + 2 * pos ≤ N + 2 * (p3268); omega), (by show pos ≤ (p3268); omega), (fun e9 => hz1 (z3272 e9)), hT, hF, hL⟩ (lv_sub hl [1] rfl)
        · refine lv_iconst (v := 1) hx hb dX9_term_38 (by decide) ?_
          refine lv_goto (tgt := 43) hx hb dX9_term_39 (by decide) ?_
          refine lv_istore_n (lv' := [(1, .int 1), (0, .ref w)]) hx hb dX9_term_43 rfl hl (by decide) rfl (fun ls hl => ?_)
          refine lv_aload_n hx hb dX9_term_44 rfl (lv_at hl 1 rfl) ?_
          refine lv_dup hx hb dX9_term_45 rfl ?_
          obtain ⟨hb3288, e3288, hat3288, hk3288⟩ := hT.o10 hw.1
          obtain ⟨f3288_0, f3288_1, f3288_3, f3288_4, f3288_5, f3288_6, f3288_7, f3288_9, f3288_10, f3288_11, f3288_12, f3288_13, f3288_14, f3288_15, f3288_16, f3288_17, rfl, c3288_2, c3288_3, c3288_4, c3288_12, t3288_1, t3288_8, t3288_9, c3288_sd, t3288_10, t3288_11, t3288_17⟩ := hk3288
          obtain ⟨rfl, rfl, rfl, rfl, rfl, rfl⟩ := hm.at hat3288 c3288_3 (by omega)
          have hm8 := hm.2.2.2.2.2.2.2
          have hP : va_P D vwCl [(w, .inr (9, [.int f3288_0, .ref bu, .int (nI ((κ w).2.2.1)), .int (nI tl), .int (nI p3192), .int er1, .int f3288_6, .int f3288_7, .ref (κ w).2.2.2, .ref f3288_9, .ref dr, .ref f3288_11, .int (nI f3288_12), .int f3288_13, .int 2, .int f3288_15, .int f3288_16, .ref f3288_17])), (dr, .inl (cs 0, 1383, .inl f3186))] _ := va_P.cons hat3288 hP
          refine va_get (D := D) (ci := 9) (v := .int (nI p3192)) (C := RX9) (T := TX9) (N := 18) hx hb hts iX9_term_9 hown hN.1 hP 0 rfl rfl 4 (by decide) (hts _ mX9_term_1) (fun _ h9 => h9) rfl dX9_term_46 ?_
          refine lv_iconst (v := 1) hx hb dX9_term_49 (by decide) ?_
          refine lv_iadd hx hb dX9_term_50 ?_
          refine tp_i (nI (p3192 + 1)) (nI_add p3192 1) ?_
          have hB : Bx B0 D _ [(w, .inr (9, [.int f3288_0, .ref bu, .int (nI ((κ w).2.2.1)), .int (nI tl), .int (nI p3192), .int er1, .int f3288_6, .int f3288_7, .ref (κ w).2.2.2, .ref f3288_9, .ref dr, .ref f3288_11, .int (nI f3288_12), .int f3288_13, .int 2, .int f3288_15, .int f3288_16, .ref f3288_17])), (dr, .inl (cs 0, 1383, .inl f3186))] [] _ _ := Bx.of (fun a => (κ a).1) hL hP (fa_c hb3288 (fa_c hbd fa_n)) (by simp only [List.map_cons, List.map_nil, hw.1, hdT.1]; decide)
          refine b_put (D := D) (ci := 9) (v := .int (nI (p3192 + 1))) (ty := .int) (C := RX9) (T := TX9) (N := 18) hx hb hts iX9_term_9 tyX9 tyX9_ok nmX9 hown hN hB 0 rfl rfl 4 (by decide) (hts _ mX9_term_1) (fun _ h9 => h9) rfl (by decide +kernel) rfl rfl (Nat.le_of_ble_eq_true rfl) (.inl rfl) dX9_term_51 (fun H locs hB => ?_)
          have hB : Bx B0 D _ [(w, .inr (9, [.int f3288_0, .ref bu, .int (nI ((κ w).2.2.1)), .int (nI tl), .int (nI (p3192 + 1)), .int er1, .int f3288_6, .int f3288_7, .ref (κ w).2.2.2, .ref f3288_9, .ref dr, .ref f3288_11, .int (nI f3288_12), .int f3288_13, .int 2, .int f3288_15, .int f3288_16, .ref f3288_17])), (dr, .inl (cs 0, 1383, .inl f3186))] [w] _ _ := hB
          refine lv_aload_n hx hb dX9_term_54 rfl (lv_at hl 1 rfl) ?_
          have hT : WT B0 D cs T κ _ := hT.close hB ⟨⟨0, _, rfl, ok_10 hw.1 ⟨_, _, _, _, _, _, _, _, _, _, _, _, _, _, _, _, rfl, (by omega), (by omega), (by omega), (by omega), hbT, t3288_8, t3288_9, c3288_sd, hdT, t3288_11, t3288_17⟩⟩, trivial⟩
          have hF : Fr B0 [12, 17] κ H0 _ := hF.close hB (fa_c (by simp [hw.2]) fa_n)
          have hL : OkL B0 _ := hB.2.2.2.2.2
          have hP : va_P D vwCl [(w, .inr (9, [.int f3288_0, .ref bu, .int (nI ((κ w).2.2.1)), .int (nI tl), .int (nI (p3192 + 1)), .int er1, .int f3288_6, .int f3288_7, .ref (κ w).2.2.2, .ref f3288_9, .ref dr, .ref f3288_11, .int (nI f3288_12), .int f3288_13, .int 2, .int f3288_15, .int f3288_16, .ref f3288_17])), (dr, .inl (cs 0, 1383, .inl f3186))] _ := hB.1
          have hbu9 := (hm.2.2.2.2.2.2.1).kept (hB.2.2.2.1 _ hm.2.2.2.2.2.2.1.lt (by simp only [List.mem_cons, List.not_mem_nil, or_false, not_or]; exact ne_c hbT.1 hw.1 (by decide)))
          have hm : MF D cs w _ ((p3192 + 1)) (tl) (er1) (2) dr bu g := ⟨⟨_, hP 0 _ rfl, rfl⟩, ⟨_, hP 0 _ rfl, rfl⟩, ⟨_, hP 0 _ rfl, rfl⟩, ⟨_, hP 0 _ rfl, rfl⟩, ⟨_, hP 0 _ rfl, rfl⟩, ⟨_, hP 0 _ rfl, rfl⟩, hbu9, (by omega), (by omega)⟩
          have hps : PS D cs w _ ((p3192 + 1)) (tl) (er1) (2) dr bu g (N1) ((h + 1)) := ⟨hm, f3186, hP 1 _ rfl, e3186, by omega, v3186⟩
          refine cv_v (As := []) (rest := []) (b := w) ⟨hx, hb, hml, hown, hts⟩ (c_X9_factor_d2 hT (w := w) hw hbT hdT hps) (cwV 0 hts gX9_term_X9_factor rfl rfl rfl hdX9_factor_v ⟨Nat.le_of_ble_eq_true rfl, Nat.le_of_ble_eq_true rfl⟩) hN hE hL (rcv10 hN hT hw.1) rfl rfl hl.1 (Nat.le_of_ble_eq_true rfl) dX9_term_55 (Nat.zero_le _) (Nat.zero_le _) (fun H1 locs hL hqr3289 => ?_)
          obtain ⟨hT1, hF1, hqr3289⟩ := hqr3289
          have hF := hF.tr (hF1.mono (by simp))
          have hT := hT1
          obtain ⟨N3290, p3291, er3292, a3293, b3294, z3295, m3296, f3297, d3298, e3299, n3300, v3301⟩ := hqr3289
          have hm := m3296
          have hm8 := hm.2.2.2.2.2.2.2
          have hbd : B0 ≤ dr := (hT.o26 hdT.1).1
          have hDR := hT.dr hdT d3298
          have hP : va_P D vwCl [(dr, .inl (cs 0, 1383, .inl f3297))] _ := va_P.cons d3298 va_P.nil
          refine lv_aload_n hx hb dX9_term_58 rfl (lv_at hl 1 rfl) ?_
          refine lv_iload_n hx hb dX9_term_59 rfl (lv_at hl 0 rfl) ?_
          refine lv_if_eq (tgt := 67) hx hb dX9_term_60 (by decide) (fun c9 => absurd c9 (by decide)) (fun _ => ?_)
          refine lv_iconst (v := 4) hx hb dX9_term_63 (by decide) ?_
          refine lv_goto (tgt := 68) hx hb dX9_term_64 (by decide) ?_
          refine cv_v (As := [.int 4]) (rest := []) (b := w) ⟨hx, hb, hml, hown, hts⟩ (c_X9_emit hT (w := w) hw (x := 4) hbT hdT hm (hP 0 _ rfl) e3299 (fun _ => by omega)) (cwV 1 hts gX9_term_X9_emit rfl rfl rfl hdX9_emit_v ⟨Nat.le_of_ble_eq_true rfl, Nat.le_of_ble_eq_true rfl⟩) hN hE hL (rcv10 hN hT hw.1) rfl rfl hl.1 (Nat.le_of_ble_eq_true rfl) dX9_term_68 (Nat.zero_le _) (Nat.zero_le _) (fun H1 locs hL hqr3303 => ?_)
          obtain ⟨hT1, hF1, hqr3303⟩ := hqr3303
          have hF := hF.tr (hF1.mono (by simp))
          have hT := hT1
          obtain ⟨f3304, N3305, d3306, e3307, x3308, m3309⟩ := hqr3303
          have hm := m3309
          have hm8 := hm.2.2.2.2.2.2.2
          have nx3308 := x3308.n
          have ox3308 := nx3308.1
          have hbd : B0 ≤ dr := (hT.o26 hdT.1).1
          have hDR := hT.dr hdT d3306
          have hP : va_P D vwCl [(dr, .inl (cs 0, 1383, .inl f3304))] _ := va_P.cons d3306 va_P.nil
          refine lv_goto (tgt := 4) hx hb dX9_term_71 (by decide) ?_
          have hps : PS D cs w _ (p3291) (tl) (er3292) (2) dr bu g (N3305) ((h + 1)) := ⟨hm, f3304, hP 0 _ rfl, e3307, by omega, (EM.op x3308 (by decide) v3301)⟩
          exact ih3185 (p3291, N3305, er3292) _ _ _ (by show 600 - (p3291) < 600 - p; omega) ⟨hps, (by show (N3305) + 2 * pos ≤ N + 2 * (p3291); omega), (by show pos ≤ (p3291); omega), (fun e9 => hz1 (z3295 e9)), hT, hF, hL⟩ (lv_sub hl [1] rfl)
  · refine lv_if_eq (tgt := 74) hx hb dX9_term_8 (by decide) (fun _ => ?_) (fun c9 => absurd (by decide) c9)
    have hps : PS D cs w _ (p) (tl) (er1) (2) dr bu g (N1) ((h + 1)) := ⟨hm, f3186, hP 0 _ rfl, e3186, by omega, v3186⟩
    exact en_v hx hb hr hlocks hL (Nat.zero_le _) (Nat.zero_le _) dX9_term_74 (⟨hT, hF, N1, p, er1, (by omega), (by omega), hz1, hps⟩)
set_option maxHeartbeats 4000000 in
set_option maxRecDepth 100000 in
theorem c_X9_readSum_d2 {l : Launch} {D : va_G} {cs : Nat → ClassId} {B0 T : Nat} {κ : KM} {H0 : Heap} (hT : WT B0 D cs T κ H0) {w : Nat} (hw : T2 κ w 10 12) {pos tl : Nat} {er : Int32} {dr bu : Nat} {g : Nat → Int32} {N h : Nat} (hbT : T2 κ bu 23 14) (hdT : T2 κ dr 26 17) (hps : PS D cs w H0 pos tl er 2 dr bu g N h) : KC l yX9_readSum wsX9_readSum 13 281 0 0 D cs B0 H0 [.ref w] (Qv (fun H => WT B0 D cs T κ H ∧ Fr B0 [12, 17] κ H0 H ∧ ∃ N1 pos1 er1, N1 + 2 * pos ≤ N + 2 * pos1 ∧ pos ≤ pos1 ∧ (er1 = 0 → er = 0) ∧ PS D cs w H pos1 tl er1 2 dr bu g N1 (h + 1))) := by
  refine KC.of cX9_readSum 2 none (by decide) rfl (Nat.le_of_ble_eq_true rfl) ?_
  intro p e s m below meth c ls hx hb hr hml hown hts hlocks hin hN hE hH0 hl
  have hown : s.vm.findClass RX9 = some m.cls := hown
  have hl : lv_has ls 2 [(0, .ref w)] := hl
  have hL : OkL B0 [] := OkL.nil
  have hF : Fr B0 [12, 17] κ H0 H0 := Fr.rf
  obtain ⟨hm, f3311, hd3311, e3311, n3311, v3311⟩ := hps
  have hm8 := hm.2.2.2.2.2.2.2
  have hbd : B0 ≤ dr := (hT.o26 hdT.1).1
  have hDR := hT.dr hdT hd3311
  have hP : va_P D vwCl [(dr, .inl (cs 0, 1383, .inl f3311))] _ := va_P.cons hd3311 va_P.nil
  refine lv_aload_n hx hb dX9_readSum_0 rfl (lv_at hl 0 rfl) ?_
  have hps : PS D cs w _ (pos) (tl) (er) (2) dr bu g (N) (h) := ⟨hm, f3311, hP 0 _ rfl, e3311, by omega, v3311⟩
  refine cv_v (As := []) (rest := []) (b := w) ⟨hx, hb, hml, hown, hts⟩ (c_X9_term_d2 hT (w := w) hw hbT hdT hps) (cwV 0 hts gX9_readSum_X9_term rfl rfl rfl hdX9_term_v ⟨Nat.le_of_ble_eq_true rfl, Nat.le_of_ble_eq_true rfl⟩) hN hE hL (rcv10 hN hT hw.1) rfl rfl hl.1 (Nat.le_of_ble_eq_true rfl) dX9_readSum_1 (Nat.zero_le _) (Nat.zero_le _) (fun H1 locs hL hqr3313 => ?_)
  obtain ⟨hT1, hF1, hqr3313⟩ := hqr3313
  have hF := hF.tr (hF1.mono (by simp))
  have hT := hT1
  obtain ⟨N3314, p3315, er3316, a3317, b3318, z3319, m3320, f3321, d3322, e3323, n3324, v3325⟩ := hqr3313
  have hm := m3320
  have hm8 := hm.2.2.2.2.2.2.2
  have hbd : B0 ≤ dr := (hT.o26 hdT.1).1
  have hDR := hT.dr hdT d3322
  have hP : va_P D vwCl [(dr, .inl (cs 0, 1383, .inl f3321))] _ := va_P.cons d3322 va_P.nil
  have hps : PS D cs w _ (p3315) (tl) (er3316) (2) dr bu g (N3314) ((h + 1)) := ⟨hm, f3321, hP 0 _ rfl, e3323, by omega, v3325⟩
  refine lp_m (α := Nat × Nat × Int32) (nL := 2) (fun a9 => 600 - a9.1) (fun a9 H9 l9 => (PS D cs w H9 a9.1 tl a9.2.2 2 dr bu g a9.2.1 (h + 1)) ∧ (a9.2.1 + 2 * pos ≤ N + 2 * a9.1) ∧ (pos ≤ a9.1) ∧ (a9.2.2 = 0 → er = 0) ∧ (WT B0 D cs T κ H9) ∧ (Fr B0 [12, 17] κ H0 H9) ∧ (OkL B0 l9)) (fun a9 => [(0, .ref w)]) ?_ (p3315, N3314, er3316) _ _ _ ⟨hps, (by show (N3314) + 2 * pos ≤ N + 2 * (p3315); omega), (by show pos ≤ (p3315); omega), (fun e9 => id (z3319 e9)), hT, hF, hL⟩ (lv_sub hl [0] rfl)
  rintro ⟨p, N1, er1⟩ H locs ls ih3327 ⟨hps, hb1, hb2, hz1, hT, hF, hL⟩ hl
  have hl : lv_has ls 2 [(0, .ref w)] := hl
  have hps : PS D cs w H p tl er1 2 dr bu g N1 (h + 1) := hps
  have hb1 : N1 + 2 * pos ≤ N + 2 * p := hb1
  have hb2 : pos ≤ p := hb2
  have hz1 : er1 = 0 → er = 0 := hz1
  obtain ⟨hm, f3328, hd3328, e3328, n3328, v3328⟩ := hps
  have hm8 := hm.2.2.2.2.2.2.2
  have hbd : B0 ≤ dr := (hT.o26 hdT.1).1
  have hDR := hT.dr hdT hd3328
  have hP : va_P D vwCl [(dr, .inl (cs 0, 1383, .inl f3328))] _ := va_P.cons hd3328 va_P.nil
  refine lv_aload_n hx hb dX9_readSum_4 rfl (lv_at hl 0 rfl) ?_
  refine cv_i (As := []) (rest := []) (b := w) ⟨hx, hb, hml, hown, hts⟩ (c_X9_isGood hT (w := w) hw hbT hdT hm) (cwV 0 hts gX9_readSum_X9_isGood rfl rfl rfl hdX9_isGood_v ⟨Nat.le_of_ble_eq_true rfl, Nat.le_of_ble_eq_true rfl⟩) hN hE hL (rcv10 hN hT hw.1) rfl rfl hl.1 (Nat.le_of_ble_eq_true rfl) dX9_readSum_5 (Nat.zero_le _) (Nat.zero_le _) (fun r3330 H1 locs hL hqr3330 => ?_)
  obtain ⟨h9, hqr3330⟩ := hqr3330; replace h9 := h9.symm; subst h9
  rcases hqr3330 with ⟨rfl, e3331⟩ | ⟨rfl, e3332⟩
  · refine lv_if_eq (tgt := 74) hx hb dX9_readSum_8 (by decide) (fun c9 => absurd c9 (by decide)) (fun _ => ?_)
    refine lv_aload_n hx hb dX9_readSum_11 rfl (lv_at hl 0 rfl) ?_
    refine cv_i (As := []) (rest := []) (b := w) ⟨hx, hb, hml, hown, hts⟩ (c_X9_ahead hT (w := w) hw hbT hdT hm) (cwV 0 hts gX9_readSum_X9_ahead rfl rfl rfl hdX9_ahead_v ⟨Nat.le_of_ble_eq_true rfl, Nat.le_of_ble_eq_true rfl⟩) hN hE hL (rcv10 hN hT hw.1) rfl rfl hl.1 (Nat.le_of_ble_eq_true rfl) dX9_readSum_12 (Nat.zero_le _) (Nat.zero_le _) (fun r3333 H1 locs hL hqr3333 => ?_)
    obtain ⟨hT1, hF1, hqr3333⟩ := hqr3333
    have hP : va_P D vwCl [(dr, .inl (cs 0, 1383, .inl f3328))] _ := hF1.hP (hP.sub [0] rfl) (fa_c ⟨by rw [hdT.1]; decide, by rw [hdT.2]; first | decide | (simp; done) | (simp; omega)⟩ fa_n)
    have hF := hF.tr (hF1.mono (by simp))
    have hT := hT1
    obtain ⟨p3334, h3335, m3336, n3337, s3338, rfl⟩ := hqr3333
    have hm := m3336
    have hm8 := hm.2.2.2.2.2.2.2
    refine lv_bipush (v := 43) hx hb dX9_readSum_15 (by decide) ?_
    refine lv_icmp_eq (tgt := 29) hx hb dX9_readSum_17 (by decide) (fun c3339 => ?_) (fun c3339 => ?_)
    · have hl9 := byF_c (c3339) (by decide)
      refine lv_aload_n hx hb dX9_readSum_29 rfl (lv_at hl 0 rfl) ?_
      refine cv_i (As := []) (rest := []) (b := w) ⟨hx, hb, hml, hown, hts⟩ (c_X9_ahead hT (w := w) hw hbT hdT hm) (cwV 0 hts gX9_readSum_X9_ahead rfl rfl rfl hdX9_ahead_v ⟨Nat.le_of_ble_eq_true rfl, Nat.le_of_ble_eq_true rfl⟩) hN hE hL (rcv10 hN hT hw.1) rfl rfl hl.1 (Nat.le_of_ble_eq_true rfl) dX9_readSum_30 (Nat.zero_le _) (Nat.zero_le _) (fun r3340 H1 locs hL hqr3340 => ?_)
      obtain ⟨hT1, hF1, hqr3340⟩ := hqr3340
      have hP : va_P D vwCl [(dr, .inl (cs 0, 1383, .inl f3328))] _ := hF1.hP (hP.sub [0] rfl) (fa_c ⟨by rw [hdT.1]; decide, by rw [hdT.2]; first | decide | (simp; done) | (simp; omega)⟩ fa_n)
      have hF := hF.tr (hF1.mono (by simp))
      have hT := hT1
      obtain ⟨p3341, h3342, m3343, n3344, s3345, rfl⟩ := hqr3340
      have hm := m3343
      have hpe := s3345 n3337
      rw [hpe] at hm
      refine tp_i (byF g tl p3334) (by rw [hpe]) ?_
      have hm8 := hm.2.2.2.2.2.2.2
      refine lv_bipush (v := 43) hx hb dX9_readSum_33 (by decide) ?_
      refine lv_icmp_ne (tgt := 42) hx hb dX9_readSum_35 (by decide) (fun c3346 => ?_) (fun c3346 => ?_)
      · refine lv_iconst (v := 0) hx hb dX9_readSum_42 (by decide) ?_
        refine lv_istore_n (lv' := [(1, .int 0), (0, .ref w)]) hx hb dX9_readSum_43 rfl hl (by decide) rfl (fun ls hl => ?_)
        refine lv_aload_n hx hb dX9_readSum_44 rfl (lv_at hl 1 rfl) ?_
        refine lv_dup hx hb dX9_readSum_45 rfl ?_
        obtain ⟨hb3347, e3347, hat3347, hk3347⟩ := hT.o10 hw.1
        obtain ⟨f3347_0, f3347_1, f3347_3, f3347_4, f3347_5, f3347_6, f3347_7, f3347_9, f3347_10, f3347_11, f3347_12, f3347_13, f3347_14, f3347_15, f3347_16, f3347_17, rfl, c3347_2, c3347_3, c3347_4, c3347_12, t3347_1, t3347_8, t3347_9, c3347_sd, t3347_10, t3347_11, t3347_17⟩ := hk3347
        obtain ⟨rfl, rfl, rfl, rfl, rfl, rfl⟩ := hm.at hat3347 c3347_3 (by omega)
        have hm8 := hm.2.2.2.2.2.2.2
        have hP : va_P D vwCl [(w, .inr (9, [.int f3347_0, .ref bu, .int (nI ((κ w).2.2.1)), .int (nI tl), .int (nI p3334), .int er1, .int f3347_6, .int f3347_7, .ref (κ w).2.2.2, .ref f3347_9, .ref dr, .ref f3347_11, .int (nI f3347_12), .int f3347_13, .int 2, .int f3347_15, .int f3347_16, .ref f3347_17])), (dr, .inl (cs 0, 1383, .inl f3328))] _ := va_P.cons hat3347 hP
        refine va_get (D := D) (ci := 9) (v := .int (nI p3334)) (C := RX9) (T := TX9) (N := 18) hx hb hts iX9_readSum_9 hown hN.1 hP 0 rfl rfl 4 (by decide) (hts _ mX9_readSum_1) (fun _ h9 => h9) rfl dX9_readSum_46 ?_
        refine lv_iconst (v := 1) hx hb dX9_readSum_49 (by decide) ?_
        refine lv_iadd hx hb dX9_readSum_50 ?_
        refine tp_i (nI (p3334 + 1)) (nI_add p3334 1) ?_
        have hB : Bx B0 D _ [(w, .inr (9, [.int f3347_0, .ref bu, .int (nI ((κ w).2.2.1)), .int (nI tl), .int (nI p3334), .int er1, .int f3347_6, .int f3347_7, .ref (κ w).2.2.2, .ref f3347_9, .ref dr, .ref f3347_11, .int (nI f3347_12), .int f3347_13, .int 2, .int f3347_15, .int f3347_16, .ref f3347_17])), (dr, .inl (cs 0, 1383, .inl f3328))] [] _ _ := Bx.of (fun a => (κ a).1) hL hP (fa_c hb3347 (fa_c hbd fa_n)) (by simp only [List.map_cons, List.map_nil, hw.1, hdT.1]; decide)
        refine b_put (D := D) (ci := 9) (v := .int (nI (p3334 + 1))) (ty := .int) (C := RX9) (T := TX9) (N := 18) hx hb hts iX9_readSum_9 tyX9 tyX9_ok nmX9 hown hN hB 0 rfl rfl 4 (by decide) (hts _ mX9_readSum_1) (fun _ h9 => h9) rfl (by decide +kernel) rfl rfl (Nat.le_of_ble_eq_true rfl) (.inl rfl) dX9_readSum_51 (fun H locs hB => ?_)
        have hB : Bx B0 D _ [(w, .inr (9, [.int f3347_0, .ref bu, .int (nI ((κ w).2.2.1)), .int (nI tl), .int (nI (p3334 + 1)), .int er1, .int f3347_6, .int f3347_7, .ref (κ w).2.2.2, .ref f3347_9, .ref dr, .ref f3347_11, .int (nI f3347_12), .int f3347_13, .int 2, .int f3347_15, .int f3347_16, .ref f3347_17])), (dr, .inl (cs 0, 1383, .inl f3328))] [w] _ _ := hB
        refine lv_aload_n hx hb dX9_readSum_54 rfl (lv_at hl 1 rfl) ?_
        have hT : WT B0 D cs T κ _ := hT.close hB ⟨⟨0, _, rfl, ok_10 hw.1 ⟨_, _, _, _, _, _, _, _, _, _, _, _, _, _, _, _, rfl, (by omega), (by omega), (by omega), (by omega), hbT, t3347_8, t3347_9, c3347_sd, hdT, t3347_11, t3347_17⟩⟩, trivial⟩
        have hF : Fr B0 [12, 17] κ H0 _ := hF.close hB (fa_c (by simp [hw.2]) fa_n)
        have hL : OkL B0 _ := hB.2.2.2.2.2
        have hP : va_P D vwCl [(w, .inr (9, [.int f3347_0, .ref bu, .int (nI ((κ w).2.2.1)), .int (nI tl), .int (nI (p3334 + 1)), .int er1, .int f3347_6, .int f3347_7, .ref (κ w).2.2.2, .ref f3347_9, .ref dr, .ref f3347_11, .int (nI f3347_12), .int f3347_13, .int 2, .int f3347_15, .int f3347_16, .ref f3347_17])), (dr, .inl (cs 0, 1383, .inl f3328))] _ := hB.1
        have hbu9 := (hm.2.2.2.2.2.2.1).kept (hB.2.2.2.1 _ hm.2.2.2.2.2.2.1.lt (by simp only [List.mem_cons, List.not_mem_nil, or_false, not_or]; exact ne_c hbT.1 hw.1 (by decide)))
        have hm : MF D cs w _ ((p3334 + 1)) (tl) (er1) (2) dr bu g := ⟨⟨_, hP 0 _ rfl, rfl⟩, ⟨_, hP 0 _ rfl, rfl⟩, ⟨_, hP 0 _ rfl, rfl⟩, ⟨_, hP 0 _ rfl, rfl⟩, ⟨_, hP 0 _ rfl, rfl⟩, ⟨_, hP 0 _ rfl, rfl⟩, hbu9, (by omega), (by omega)⟩
        have hps : PS D cs w _ ((p3334 + 1)) (tl) (er1) (2) dr bu g (N1) ((h + 1)) := ⟨hm, f3328, hP 1 _ rfl, e3328, by omega, v3328⟩
        refine cv_v (As := []) (rest := []) (b := w) ⟨hx, hb, hml, hown, hts⟩ (c_X9_term_d2 hT (w := w) hw hbT hdT hps) (cwV 0 hts gX9_readSum_X9_term rfl rfl rfl hdX9_term_v ⟨Nat.le_of_ble_eq_true rfl, Nat.le_of_ble_eq_true rfl⟩) hN hE hL (rcv10 hN hT hw.1) rfl rfl hl.1 (Nat.le_of_ble_eq_true rfl) dX9_readSum_55 (Nat.zero_le _) (Nat.zero_le _) (fun H1 locs hL hqr3348 => ?_)
        obtain ⟨hT1, hF1, hqr3348⟩ := hqr3348
        have hF := hF.tr (hF1.mono (by simp))
        have hT := hT1
        obtain ⟨N3349, p3350, er3351, a3352, b3353, z3354, m3355, f3356, d3357, e3358, n3359, v3360⟩ := hqr3348
        have hm := m3355
        have hm8 := hm.2.2.2.2.2.2.2
        have hbd : B0 ≤ dr := (hT.o26 hdT.1).1
        have hDR := hT.dr hdT d3357
        have hP : va_P D vwCl [(dr, .inl (cs 0, 1383, .inl f3356))] _ := va_P.cons d3357 va_P.nil
        refine lv_aload_n hx hb dX9_readSum_58 rfl (lv_at hl 1 rfl) ?_
        refine lv_iload_n hx hb dX9_readSum_59 rfl (lv_at hl 0 rfl) ?_
        refine lv_if_eq (tgt := 67) hx hb dX9_readSum_60 (by decide) (fun _ => ?_) (fun c9 => absurd (by decide) c9)
        refine lv_iconst (v := 3) hx hb dX9_readSum_67 (by decide) ?_
        refine cv_v (As := [.int 3]) (rest := []) (b := w) ⟨hx, hb, hml, hown, hts⟩ (c_X9_emit hT (w := w) hw (x := 3) hbT hdT hm (hP 0 _ rfl) e3358 (fun _ => by omega)) (cwV 1 hts gX9_readSum_X9_emit rfl rfl rfl hdX9_emit_v ⟨Nat.le_of_ble_eq_true rfl, Nat.le_of_ble_eq_true rfl⟩) hN hE hL (rcv10 hN hT hw.1) rfl rfl hl.1 (Nat.le_of_ble_eq_true rfl) dX9_readSum_68 (Nat.zero_le _) (Nat.zero_le _) (fun H1 locs hL hqr3362 => ?_)
        obtain ⟨hT1, hF1, hqr3362⟩ := hqr3362
        have hF := hF.tr (hF1.mono (by simp))
        have hT := hT1
        obtain ⟨f3363, N3364, d3365, e3366, x3367, m3368⟩ := hqr3362
        have hm := m3368
        have hm8 := hm.2.2.2.2.2.2.2
        have nx3367 := x3367.n
        have ox3367 := nx3367.1
        have hbd : B0 ≤ dr := (hT.o26 hdT.1).1
        have hDR := hT.dr hdT d3365
        have hP : va_P D vwCl [(dr, .inl (cs 0, 1383, .inl f3363))] _ := va_P.cons d3365 va_P.nil
        refine lv_goto (tgt := 4) hx hb dX9_readSum_71 (by decide) ?_
        have hps : PS D cs w _ (p3350) (tl) (er3351) (2) dr bu g (N3364) ((h + 1)) := ⟨hm, f3363, hP 0 _ rfl, e3366, by omega, (EM.op x3367 (by decide) v3360)⟩
        exact ih3327 (p3350, N3364, er3351) _ _ _ (by show 600 - (p3350) < 600 - p; omega) ⟨hps, (by show (N3364) + 2 * pos ≤ N + 2 * (p3350); omega), (by show pos ≤ (p3350); omega), (fun e9 => hz1 (z3354 e9)), hT, hF, hL⟩ (lv_sub hl [1] rfl)
      · refine lv_iconst (v := 1) hx hb dX9_readSum_38 (by decide) ?_
        refine lv_goto (tgt := 43) hx hb dX9_readSum_39 (by decide) ?_
        refine lv_istore_n (lv' := [(1, .int 1), (0, .ref w)]) hx hb dX9_readSum_43 rfl hl (by decide) rfl (fun ls hl => ?_)
        refine lv_aload_n hx hb dX9_readSum_44 rfl (lv_at hl 1 rfl) ?_
        refine lv_dup hx hb dX9_readSum_45 rfl ?_
        obtain ⟨hb3370, e3370, hat3370, hk3370⟩ := hT.o10 hw.1
        obtain ⟨f3370_0, f3370_1, f3370_3, f3370_4, f3370_5, f3370_6, f3370_7, f3370_9, f3370_10, f3370_11, f3370_12, f3370_13, f3370_14, f3370_15, f3370_16, f3370_17, rfl, c3370_2, c3370_3, c3370_4, c3370_12, t3370_1, t3370_8, t3370_9, c3370_sd, t3370_10, t3370_11, t3370_17⟩ := hk3370
        obtain ⟨rfl, rfl, rfl, rfl, rfl, rfl⟩ := hm.at hat3370 c3370_3 (by omega)
        have hm8 := hm.2.2.2.2.2.2.2
        have hP : va_P D vwCl [(w, .inr (9, [.int f3370_0, .ref bu, .int (nI ((κ w).2.2.1)), .int (nI tl), .int (nI p3334), .int er1, .int f3370_6, .int f3370_7, .ref (κ w).2.2.2, .ref f3370_9, .ref dr, .ref f3370_11, .int (nI f3370_12), .int f3370_13, .int 2, .int f3370_15, .int f3370_16, .ref f3370_17])), (dr, .inl (cs 0, 1383, .inl f3328))] _ := va_P.cons hat3370 hP
        refine va_get (D := D) (ci := 9) (v := .int (nI p3334)) (C := RX9) (T := TX9) (N := 18) hx hb hts iX9_readSum_9 hown hN.1 hP 0 rfl rfl 4 (by decide) (hts _ mX9_readSum_1) (fun _ h9 => h9) rfl dX9_readSum_46 ?_
        refine lv_iconst (v := 1) hx hb dX9_readSum_49 (by decide) ?_
        refine lv_iadd hx hb dX9_readSum_50 ?_
        refine tp_i (nI (p3334 + 1)) (nI_add p3334 1) ?_
        have hB : Bx B0 D _ [(w, .inr (9, [.int f3370_0, .ref bu, .int (nI ((κ w).2.2.1)), .int (nI tl), .int (nI p3334), .int er1, .int f3370_6, .int f3370_7, .ref (κ w).2.2.2, .ref f3370_9, .ref dr, .ref f3370_11, .int (nI f3370_12), .int f3370_13, .int 2, .int f3370_15, .int f3370_16, .ref f3370_17])), (dr, .inl (cs 0, 1383, .inl f3328))] [] _ _ := Bx.of (fun a => (κ a).1) hL hP (fa_c hb3370 (fa_c hbd fa_n)) (by simp only [List.map_cons, List.map_nil, hw.1, hdT.1]; decide)
        refine b_put (D := D) (ci := 9) (v := .int (nI (p3334 + 1))) (ty := .int) (C := RX9) (T := TX9) (N := 18) hx hb hts iX9_readSum_9 tyX9 tyX9_ok nmX9 hown hN hB 0 rfl rfl 4 (by decide) (hts _ mX9_readSum_1) (fun _ h9 => h9) rfl (by decide +kernel) rfl rfl (Nat.le_of_ble_eq_true rfl) (.inl rfl) dX9_readSum_51 (fun H locs hB => ?_)
        have hB : Bx B0 D _ [(w, .inr (9, [.int f3370_0, .ref bu, .int (nI ((κ w).2.2.1)), .int (nI tl), .int (nI (p3334 + 1)), .int er1, .int f3370_6, .int f3370_7, .ref (κ w).2.2.2, .ref f3370_9, .ref dr, .ref f3370_11, .int (nI f3370_12), .int f3370_13, .int 2, .int f3370_15, .int f3370_16, .ref f3370_17])), (dr, .inl (cs 0, 1383, .inl f3328))] [w] _ _ := hB
        refine lv_aload_n hx hb dX9_readSum_54 rfl (lv_at hl 1 rfl) ?_
        have hT : WT B0 D cs T κ _ := hT.close hB ⟨⟨0, _, rfl, ok_10 hw.1 ⟨_, _, _, _, _, _, _, _, _, _, _, _, _, _, _, _, rfl, (by omega), (by omega), (by omega), (by omega), hbT, t3370_8, t3370_9, c3370_sd, hdT, t3370_11, t3370_17⟩⟩, trivial⟩
        have hF : Fr B0 [12, 17] κ H0 _ := hF.close hB (fa_c (by simp [hw.2]) fa_n)
        have hL : OkL B0 _ := hB.2.2.2.2.2
        have hP : va_P D vwCl [(w, .inr (9, [.int f3370_0, .ref bu, .int (nI ((κ w).2.2.1)), .int (nI tl), .int (nI (p3334 + 1)), .int er1, .int f3370_6, .int f3370_7, .ref (κ w).2.2.2, .ref f3370_9, .ref dr, .ref f3370_11, .int (nI f3370_12), .int f3370_13, .int 2, .int f3370_15, .int f3370_16, .ref f3370_17])), (dr, .inl (cs 0, 1383, .inl f3328))] _ := hB.1
        have hbu9 := (hm.2.2.2.2.2.2.1).kept (hB.2.2.2.1 _ hm.2.2.2.2.2.2.1.lt (by simp only [List.mem_cons, List.not_mem_nil, or_false, not_or]; exact ne_c hbT.1 hw.1 (by decide)))
        have hm : MF D cs w _ ((p3334 + 1)) (tl) (er1) (2) dr bu g := ⟨⟨_, hP 0 _ rfl, rfl⟩, ⟨_, hP 0 _ rfl, rfl⟩, ⟨_, hP 0 _ rfl, rfl⟩, ⟨_, hP 0 _ rfl, rfl⟩, ⟨_, hP 0 _ rfl, rfl⟩, ⟨_, hP 0 _ rfl, rfl⟩, hbu9, (by omega), (by omega)⟩
        have hps : PS D cs w _ ((p3334 + 1)) (tl) (er1) (2) dr bu g (N1) ((h + 1)) := ⟨hm, f3328, hP 1 _ rfl, e3328, by omega, v3328⟩
        refine cv_v (As := []) (rest := []) (b := w) ⟨hx, hb, hml, hown, hts⟩ (c_X9_term_d2 hT (w := w) hw hbT hdT hps) (cwV 0 hts gX9_readSum_X9_term rfl rfl rfl hdX9_term_v ⟨Nat.le_of_ble_eq_true rfl, Nat.le_of_ble_eq_true rfl⟩) hN hE hL (rcv10 hN hT hw.1) rfl rfl hl.1 (Nat.le_of_ble_eq_true rfl) dX9_readSum_55 (Nat.zero_le _) (Nat.zero_le _) (fun H1 locs hL hqr3371 => ?_)
        obtain ⟨hT1, hF1, hqr3371⟩ := hqr3371
        have hF := hF.tr (hF1.mono (by simp))
        have hT := hT1
        obtain ⟨N3372, p3373, er3374, a3375, b3376, z3377, m3378, f3379, d3380, e3381, n3382, v3383⟩ := hqr3371
        have hm := m3378
        have hm8 := hm.2.2.2.2.2.2.2
        have hbd : B0 ≤ dr := (hT.o26 hdT.1).1
        have hDR := hT.dr hdT d3380
        have hP : va_P D vwCl [(dr, .inl (cs 0, 1383, .inl f3379))] _ := va_P.cons d3380 va_P.nil
        refine lv_aload_n hx hb dX9_readSum_58 rfl (lv_at hl 1 rfl) ?_
        refine lv_iload_n hx hb dX9_readSum_59 rfl (lv_at hl 0 rfl) ?_
        refine lv_if_eq (tgt := 67) hx hb dX9_readSum_60 (by decide) (fun c9 => absurd c9 (by decide)) (fun _ => ?_)
        refine lv_iconst (v := 2) hx hb dX9_readSum_63 (by decide) ?_
        refine lv_goto (tgt := 68) hx hb dX9_readSum_64 (by decide) ?_
        refine cv_v (As := [.int 2]) (rest := []) (b := w) ⟨hx, hb, hml, hown, hts⟩ (c_X9_emit hT (w := w) hw (x := 2) hbT hdT hm (hP 0 _ rfl) e3381 (fun _ => by omega)) (cwV 1 hts gX9_readSum_X9_emit rfl rfl rfl hdX9_emit_v ⟨Nat.le_of_ble_eq_true rfl, Nat.le_of_ble_eq_true rfl⟩) hN hE hL (rcv10 hN hT hw.1) rfl rfl hl.1 (Nat.le_of_ble_eq_true rfl) dX9_readSum_68 (Nat.zero_le _) (Nat.zero_le _) (fun H1 locs hL hqr3385 => ?_)
        obtain ⟨hT1, hF1, hqr3385⟩ := hqr3385
        have hF := hF.tr (hF1.mono (by simp))
        have hT := hT1
        obtain ⟨f3386, N3387, d3388, e3389, x3390, m3391⟩ := hqr3385
        have hm := m3391
        have hm8 := hm.2.2.2.2.2.2.2
        have nx3390 := x3390.n
        have ox3390 := nx3390.1
        have hbd : B0 ≤ dr := (hT.o26 hdT.1).1
        have hDR := hT.dr hdT d3388
        have hP : va_P D vwCl [(dr, .inl (cs 0, 1383, .inl f3386))] _ := va_P.cons d3388 va_P.nil
        refine lv_goto (tgt := 4) hx hb dX9_readSum_71 (by decide) ?_
        have hps : PS D cs w _ (p3373) (tl) (er3374) (2) dr bu g (N3387) ((h + 1)) := ⟨hm, f3386, hP 0 _ rfl, e3389, by omega, (EM.op x3390 (by decide) v3383)⟩
        exact ih3327 (p3373, N3387, er3374) _ _ _ (by show 600 - (p3373) < 600 - p; omega) ⟨hps, (by show (N3387) + 2 * pos ≤ N + 2 * (p3373); omega), (by show pos ≤ (p3373); omega), (fun e9 => hz1 (z3377 e9)), hT, hF, hL⟩ (lv_sub hl [1] rfl)
    · refine lv_aload_n hx hb dX9_readSum_20 rfl (lv_at hl 0 rfl) ?_
      refine cv_i (As := []) (rest := []) (b := w) ⟨hx, hb, hml, hown, hts⟩ (c_X9_ahead hT (w := w) hw hbT hdT hm) (cwV 0 hts gX9_readSum_X9_ahead rfl rfl rfl hdX9_ahead_v ⟨Nat.le_of_ble_eq_true rfl, Nat.le_of_ble_eq_true rfl⟩) hN hE hL (rcv10 hN hT hw.1) rfl rfl hl.1 (Nat.le_of_ble_eq_true rfl) dX9_readSum_21 (Nat.zero_le _) (Nat.zero_le _) (fun r3393 H1 locs hL hqr3393 => ?_)
      obtain ⟨hT1, hF1, hqr3393⟩ := hqr3393
      have hP : va_P D vwCl [(dr, .inl (cs 0, 1383, .inl f3328))] _ := hF1.hP (hP.sub [0] rfl) (fa_c ⟨by rw [hdT.1]; decide, by rw [hdT.2]; first | decide | (simp; done) | (simp; omega)⟩ fa_n)
      have hF := hF.tr (hF1.mono (by simp))
      have hT := hT1
      obtain ⟨p3394, h3395, m3396, n3397, s3398, rfl⟩ := hqr3393
      have hm := m3396
      have hpe := s3398 n3337
      rw [hpe] at hm
      refine tp_i (byF g tl p3334) (by rw [hpe]) ?_
      have hm8 := hm.2.2.2.2.2.2.2
      refine lv_bipush (v := 45) hx hb dX9_readSum_24 (by decide) ?_
      refine lv_icmp_ne (tgt := 74) hx hb dX9_readSum_26 (by decide) (fun c3399 => ?_) (fun c3399 => ?_)
      · have hps : PS D cs w _ (p3334) (tl) (er1) (2) dr bu g (N1) ((h + 1)) := ⟨hm, f3328, hP 0 _ rfl, e3328, by omega, v3328⟩
        exact en_v hx hb hr hlocks hL (Nat.zero_le _) (Nat.zero_le _) dX9_readSum_74 (⟨hT, hF, N1, p3334, er1, (by omega), (by omega), hz1, hps⟩)
      · have hl9 := byF_c (c3399) (by decide)
        refine lv_aload_n hx hb dX9_readSum_29 rfl (lv_at hl 0 rfl) ?_
        refine cv_i (As := []) (rest := []) (b := w) ⟨hx, hb, hml, hown, hts⟩ (c_X9_ahead hT (w := w) hw hbT hdT hm) (cwV 0 hts gX9_readSum_X9_ahead rfl rfl rfl hdX9_ahead_v ⟨Nat.le_of_ble_eq_true rfl, Nat.le_of_ble_eq_true rfl⟩) hN hE hL (rcv10 hN hT hw.1) rfl rfl hl.1 (Nat.le_of_ble_eq_true rfl) dX9_readSum_30 (Nat.zero_le _) (Nat.zero_le _) (fun r3400 H1 locs hL hqr3400 => ?_)
        obtain ⟨hT1, hF1, hqr3400⟩ := hqr3400
        have hP : va_P D vwCl [(dr, .inl (cs 0, 1383, .inl f3328))] _ := hF1.hP (hP.sub [0] rfl) (fa_c ⟨by rw [hdT.1]; decide, by rw [hdT.2]; first | decide | (simp; done) | (simp; omega)⟩ fa_n)
        have hF := hF.tr (hF1.mono (by simp))
        have hT := hT1
        obtain ⟨p3401, h3402, m3403, n3404, s3405, rfl⟩ := hqr3400
        have hm := m3403
        have hpe := s3405 n3337
        rw [hpe] at hm
        refine tp_i (byF g tl p3334) (by rw [hpe]) ?_
        have hm8 := hm.2.2.2.2.2.2.2
        refine lv_bipush (v := 43) hx hb dX9_readSum_33 (by decide) ?_
        refine lv_icmp_ne (tgt := 42) hx hb dX9_readSum_35 (by decide) (fun c3406 => ?_) (fun c3406 => ?_)
        · refine lv_iconst (v := 0) hx hb dX9_readSum_42 (by decide) ?_
          refine lv_istore_n (lv' := [(1, .int 0), (0, .ref w)]) hx hb dX9_readSum_43 rfl hl (by decide) rfl (fun ls hl => ?_)
          refine lv_aload_n hx hb dX9_readSum_44 rfl (lv_at hl 1 rfl) ?_
          refine lv_dup hx hb dX9_readSum_45 rfl ?_
          obtain ⟨hb3407, e3407, hat3407, hk3407⟩ := hT.o10 hw.1
          obtain ⟨f3407_0, f3407_1, f3407_3, f3407_4, f3407_5, f3407_6, f3407_7, f3407_9, f3407_10, f3407_11, f3407_12, f3407_13, f3407_14, f3407_15, f3407_16, f3407_17, rfl, c3407_2, c3407_3, c3407_4, c3407_12, t3407_1, t3407_8, t3407_9, c3407_sd, t3407_10, t3407_11, t3407_17⟩ := hk3407
          obtain ⟨rfl, rfl, rfl, rfl, rfl, rfl⟩ := hm.at hat3407 c3407_3 (by omega)
          have hm8 := hm.2.2.2.2.2.2.2
          have hP : va_P D vwCl [(w, .inr (9, [.int f3407_0, .ref bu, .int (nI ((κ w).2.2.1)), .int (nI tl), .int (nI p3334), .int er1, .int f3407_6, .int f3407_7, .ref (κ w).2.2.2, .ref f3407_9, .ref dr, .ref f3407_11, .int (nI f3407_12), .int f3407_13, .int 2, .int f3407_15, .int f3407_16, .ref f3407_17])), (dr, .inl (cs 0, 1383, .inl f3328))] _ := va_P.cons hat3407 hP
          refine va_get (D := D) (ci := 9) (v := .int (nI p3334)) (C := RX9) (T := TX9) (N := 18) hx hb hts iX9_readSum_9 hown hN.1 hP 0 rfl rfl 4 (by decide) (hts _ mX9_readSum_1) (fun _ h9 => h9) rfl dX9_readSum_46 ?_
          refine lv_iconst (v := 1) hx hb dX9_readSum_49 (by decide) ?_
          refine lv_iadd hx hb dX9_readSum_50 ?_
          refine tp_i (nI (p3334 + 1)) (nI_add p3334 1) ?_
          have hB : Bx B0 D _ [(w, .inr (9, [.int f3407_0, .ref bu, .int (nI ((κ w).2.2.1)), .int (nI tl), .int (nI p3334), .int er1, .int f3407_6, .int f3407_7, .ref (κ w).2.2.2, .ref f3407_9, .ref dr, .ref f3407_11, .int (nI f3407_12), .int f3407_13, .int 2, .int f3407_15, .int f3407_16, .ref f3407_17])), (dr, .inl (cs 0, 1383, .inl f3328))] [] _ _ := Bx.of (fun a => (κ a).1) hL hP (fa_c hb3407 (fa_c hbd fa_n)) (by simp only [List.map_cons, List.map_nil, hw.1, hdT.1]; decide)
          refine b_put (D := D) (ci := 9) (v := .int (nI (p3334 + 1))) (ty := .int) (C := RX9) (T := TX9) (N := 18) hx hb hts iX9_readSum_9 tyX9 tyX9_ok nmX9 hown hN hB 0 rfl rfl 4 (by decide) (hts _ mX9_readSum_1) (fun _ h9 => h9) rfl (by decide +kernel) rfl rfl (Nat.le_of_ble_eq_true rfl) (.inl rfl) dX9_readSum_51 (fun H locs hB => ?_)
          have hB : Bx B0 D _ [(w, .inr (9, [.int f3407_0, .ref bu, .int (nI ((κ w).2.2.1)), .int (nI tl), .int (nI (p3334 + 1)), .int er1, .int f3407_6, .int f3407_7, .ref (κ w).2.2.2, .ref f3407_9, .ref dr, .ref f3407_11, .int (nI f3407_12), .int f3407_13, .int 2, .int f3407_15, .int f3407_16, .ref f3407_17])), (dr, .inl (cs 0, 1383, .inl f3328))] [w] _ _ := hB
          refine lv_aload_n hx hb dX9_readSum_54 rfl (lv_at hl 1 rfl) ?_
          have hT : WT B0 D cs T κ _ := hT.close hB ⟨⟨0, _, rfl, ok_10 hw.1 ⟨_, _, _, _, _, _, _, _, _, _, _, _, _, _, _, _, rfl, (by omega), (by omega), (by omega), (by omega), hbT, t3407_8, t3407_9, c3407_sd, hdT, t3407_11, t3407_17⟩⟩, trivial⟩
          have hF : Fr B0 [12, 17] κ H0 _ := hF.close hB (fa_c (by simp [hw.2]) fa_n)
          have hL : OkL B0 _ := hB.2.2.2.2.2
          have hP : va_P D vwCl [(w, .inr (9, [.int f3407_0, .ref bu, .int (nI ((κ w).2.2.1)), .int (nI tl), .int (nI (p3334 + 1)), .int er1, .int f3407_6, .int f3407_7, .ref (κ w).2.2.2, .ref f3407_9, .ref dr, .ref f3407_11, .int (nI f3407_12), .int f3407_13, .int 2, .int f3407_15, .int f3407_16, .ref f3407_17])), (dr, .inl (cs 0, 1383, .inl f3328))] _ := hB.1
          have hbu9 := (hm.2.2.2.2.2.2.1).kept (hB.2.2.2.1 _ hm.2.2.2.2.2.2.1.lt (by simp only [List.mem_cons, List.not_mem_nil, or_false, not_or]; exact ne_c hbT.1 hw.1 (by decide)))
          have hm : MF D cs w _ ((p3334 + 1)) (tl) (er1) (2) dr bu g := ⟨⟨_, hP 0 _ rfl, rfl⟩, ⟨_, hP 0 _ rfl, rfl⟩, ⟨_, hP 0 _ rfl, rfl⟩, ⟨_, hP 0 _ rfl, rfl⟩, ⟨_, hP 0 _ rfl, rfl⟩, ⟨_, hP 0 _ rfl, rfl⟩, hbu9, (by omega), (by omega)⟩
          have hps : PS D cs w _ ((p3334 + 1)) (tl) (er1) (2) dr bu g (N1) ((h + 1)) := ⟨hm, f3328, hP 1 _ rfl, e3328, by omega, v3328⟩
          refine cv_v (As := []) (rest := []) (b := w) ⟨hx, hb, hml, hown, hts⟩ (c_X9_term_d2 hT (w := w) hw hbT hdT hps) (cwV 0 hts gX9_readSum_X9_term rfl rfl rfl hdX9_term_v ⟨Nat.le_of_ble_eq_true rfl, Nat.le_of_ble_eq_true rfl⟩) hN hE hL (rcv10 hN hT hw.1) rfl rfl hl.1 (Nat.le_of_ble_eq_true rfl) dX9_readSum_55 (Nat.zero_le _) (Nat.zero_le _) (fun H1 locs hL hqr3408 => ?_)
          obtain ⟨hT1, hF1, hqr3408⟩ := hqr3408
          have hF := hF.tr (hF1.mono (by simp))
          have hT := hT1
          obtain ⟨N3409, p3410, er3411, a3412, b3413, z3414, m3415, f3416, d3417, e3418, n3419, v3420⟩ := hqr3408
          have hm := m3415
          have hm8 := hm.2.2.2.2.2.2.2
          have hbd : B0 ≤ dr := (hT.o26 hdT.1).1
          have hDR := hT.dr hdT d3417
          have hP : va_P D vwCl [(dr, .inl (cs 0, 1383, .inl f3416))] _ := va_P.cons d3417 va_P.nil
          refine lv_aload_n hx hb dX9_readSum_58 rfl (lv_at hl 1 rfl) ?_
          refine lv_iload_n hx hb dX9_readSum_59 rfl (lv_at hl 0 rfl) ?_
          refine lv_if_eq (tgt := 67) hx hb dX9_readSum_60 (by decide) (fun _ => ?_) (fun c9 => absurd (by decide) c9)
          refine lv_iconst (v := 3) hx hb dX9_readSum_67 (by decide) ?_
          refine cv_v (As := [.int 3]) (rest := []) (b := w) ⟨hx, hb, hml, hown, hts⟩ (c_X9_emit hT (w := w) hw (x := 3) hbT hdT hm (hP 0 _ rfl) e3418 (fun _ => by omega)) (cwV 1 hts gX9_readSum_X9_emit rfl rfl rfl hdX9_emit_v ⟨Nat.le_of_ble_eq_true rfl, Nat.le_of_ble_eq_true rfl⟩) hN hE hL (rcv10 hN hT hw.1) rfl rfl hl.1 (Nat.le_of_ble_eq_true rfl) dX9_readSum_68 (Nat.zero_le _) (Nat.zero_le _) (fun H1 locs hL hqr3422 => ?_)
          obtain ⟨hT1, hF1, hqr3422⟩ := hqr3422
          have hF := hF.tr (hF1.mono (by simp))
          have hT := hT1
          obtain ⟨f3423, N3424, d3425, e3426, x3427, m3428⟩ := hqr3422
          have hm := m3428
          have hm8 := hm.2.2.2.2.2.2.2
          have nx3427 := x3427.n
          have ox3427 := nx3427.1
          have hbd : B0 ≤ dr := (hT.o26 hdT.1).1
          have hDR := hT.dr hdT d3425
          have hP : va_P D vwCl [(dr, .inl (cs 0, 1383, .inl f3423))] _ := va_P.cons d3425 va_P.nil
          refine lv_goto (tgt := 4) hx hb dX9_readSum_71 (by decide) ?_
          have hps : PS D cs w _ (p3410) (tl) (er3411) (2) dr bu g (N3424) ((h + 1)) := ⟨hm, f3423, hP 0 _ rfl, e3426, by omega, (EM.op x3427 (by decide) v3420)⟩
          exact ih3327 (p3410, N3424, er3411) _ _ _ (by show 600 - (p3410) < 600 - p; omega) ⟨hps, (by show (N3424) + 2 * pos ≤ N + 2 * (p3410); omega), (by show pos ≤ (p3410); omega), (fun e9 => hz1 (z3414 e9)), hT, hF, hL⟩ (lv_sub hl [1] rfl)
        · refine lv_iconst (v := 1) hx hb dX9_readSum_38 (by decide) ?_
          refine lv_goto (tgt := 43) hx hb dX9_readSum_39 (by decide) ?_
          refine lv_istore_n (lv' := [(1, .int 1), (0, .ref w)]) hx hb dX9_readSum_43 rfl hl (by decide) rfl (fun ls hl => ?_)
          refine lv_aload_n hx hb dX9_readSum_44 rfl (lv_at hl 1 rfl) ?_
          refine lv_dup hx hb dX9_readSum_45 rfl ?_
          obtain ⟨hb3430, e3430, hat3430, hk3430⟩ := hT.o10 hw.1
          obtain ⟨f3430_0, f3430_1, f3430_3, f3430_4, f3430_5, f3430_6, f3430_7, f3430_9, f3430_10, f3430_11, f3430_12, f3430_13, f3430_14, f3430_15, f3430_16, f3430_17, rfl, c3430_2, c3430_3, c3430_4, c3430_12, t3430_1, t3430_8, t3430_9, c3430_sd, t3430_10, t3430_11, t3430_17⟩ := hk3430
          obtain ⟨rfl, rfl, rfl, rfl, rfl, rfl⟩ := hm.at hat3430 c3430_3 (by omega)
          have hm8 := hm.2.2.2.2.2.2.2
          have hP : va_P D vwCl [(w, .inr (9, [.int f3430_0, .ref bu, .int (nI ((κ w).2.2.1)), .int (nI tl), .int (nI p3334), .int er1, .int f3430_6, .int f3430_7, .ref (κ w).2.2.2, .ref f3430_9, .ref dr, .ref f3430_11, .int (nI f3430_12), .int f3430_13, .int 2, .int f3430_15, .int f3430_16, .ref f3430_17])), (dr, .inl (cs 0, 1383, .inl f3328))] _ := va_P.cons hat3430 hP
          refine va_get (D := D) (ci := 9) (v := .int (nI p3334)) (C := RX9) (T := TX9) (N := 18) hx hb hts iX9_readSum_9 hown hN.1 hP 0 rfl rfl 4 (by decide) (hts _ mX9_readSum_1) (fun _ h9 => h9) rfl dX9_readSum_46 ?_
          refine lv_iconst (v := 1) hx hb dX9_readSum_49 (by decide) ?_
          refine lv_iadd hx hb dX9_readSum_50 ?_
          refine tp_i (nI (p3334 + 1)) (nI_add p3334 1) ?_
          have hB : Bx B0 D _ [(w, .inr (9, [.int f3430_0, .ref bu, .int (nI ((κ w).2.2.1)), .int (nI tl), .int (nI p3334), .int er1, .int f3430_6, .int f3430_7, .ref (κ w).2.2.2, .ref f3430_9, .ref dr, .ref f3430_11, .int (nI f3430_12), .int f3430_13, .int 2, .int f3430_15, .int f3430_16, .ref f3430_17])), (dr, .inl (cs 0, 1383, .inl f3328))] [] _ _ := Bx.of (fun a => (κ a).1) hL hP (fa_c hb3430 (fa_c hbd fa_n)) (by simp only [List.map_cons, List.map_nil, hw.1, hdT.1]; decide)
          refine b_put (D := D) (ci := 9) (v := .int (nI (p3334 + 1))) (ty := .int) (C := RX9) (T := TX9) (N := 18) hx hb hts iX9_readSum_9 tyX9 tyX9_ok nmX9 hown hN hB 0 rfl rfl 4 (by decide) (hts _ mX9_readSum_1) (fun _ h9 => h9) rfl (by decide +kernel) rfl rfl (Nat.le_of_ble_eq_true rfl) (.inl rfl) dX9_readSum_51 (fun H locs hB => ?_)
          have hB : Bx B0 D _ [(w, .inr (9, [.int f3430_0, .ref bu, .int (nI ((κ w).2.2.1)), .int (nI tl), .int (nI (p3334 + 1)), .int er1, .int f3430_6, .int f3430_7, .ref (κ w).2.2.2, .ref f3430_9, .ref dr, .ref f3430_11, .int (nI f3430_12), .int f3430_13, .int 2, .int f3430_15, .int f3430_16, .ref f3430_17])), (dr, .inl (cs 0, 1383, .inl f3328))] [w] _ _ := hB
          refine lv_aload_n hx hb dX9_readSum_54 rfl (lv_at hl 1 rfl) ?_
          have hT : WT B0 D cs T κ _ := hT.close hB ⟨⟨0, _, rfl, ok_10 hw.1 ⟨_, _, _, _, _, _, _, _, _, _, _, _, _, _, _, _, rfl, (by omega), (by omega), (by omega), (by omega), hbT, t3430_8, t3430_9, c3430_sd, hdT, t3430_11, t3430_17⟩⟩, trivial⟩
          have hF : Fr B0 [12, 17] κ H0 _ := hF.close hB (fa_c (by simp [hw.2]) fa_n)
          have hL : OkL B0 _ := hB.2.2.2.2.2
          have hP : va_P D vwCl [(w, .inr (9, [.int f3430_0, .ref bu, .int (nI ((κ w).2.2.1)), .int (nI tl), .int (nI (p3334 + 1)), .int er1, .int f3430_6, .int f3430_7, .ref (κ w).2.2.2, .ref f3430_9, .ref dr, .ref f3430_11, .int (nI f3430_12), .int f3430_13, .int 2, .int f3430_15, .int f3430_16, .ref f3430_17])), (dr, .inl (cs 0, 1383, .inl f3328))] _ := hB.1
          have hbu9 := (hm.2.2.2.2.2.2.1).kept (hB.2.2.2.1 _ hm.2.2.2.2.2.2.1.lt (by simp only [List.mem_cons, List.not_mem_nil, or_false, not_or]; exact ne_c hbT.1 hw.1 (by decide)))
          have hm : MF D cs w _ ((p3334 + 1)) (tl) (er1) (2) dr bu g := ⟨⟨_, hP 0 _ rfl, rfl⟩, ⟨_, hP 0 _ rfl, rfl⟩, ⟨_, hP 0 _ rfl, rfl⟩, ⟨_, hP 0 _ rfl, rfl⟩, ⟨_, hP 0 _ rfl, rfl⟩, ⟨_, hP 0 _ rfl, rfl⟩, hbu9, (by omega), (by omega)⟩
          have hps : PS D cs w _ ((p3334 + 1)) (tl) (er1) (2) dr bu g (N1) ((h + 1)) := ⟨hm, f3328, hP 1 _ rfl, e3328, by omega, v3328⟩
          refine cv_v (As := []) (rest := []) (b := w) ⟨hx, hb, hml, hown, hts⟩ (c_X9_term_d2 hT (w := w) hw hbT hdT hps) (cwV 0 hts gX9_readSum_X9_term rfl rfl rfl hdX9_term_v ⟨Nat.le_of_ble_eq_true rfl, Nat.le_of_ble_eq_true rfl⟩) hN hE hL (rcv10 hN hT hw.1) rfl rfl hl.1 (Nat.le_of_ble_eq_true rfl) dX9_readSum_55 (Nat.zero_le _) (Nat.zero_le _) (fun H1 locs hL hqr3431 => ?_)
          obtain ⟨hT1, hF1, hqr3431⟩ := hqr3431
          have hF := hF.tr (hF1.mono (by simp))
          have hT := hT1
          obtain ⟨N3432, p3433, er3434, a3435, b3436, z3437, m3438, f3439, d3440, e3441, n3442, v3443⟩ := hqr3431
          have hm := m3438
          have hm8 := hm.2.2.2.2.2.2.2
          have hbd : B0 ≤ dr := (hT.o26 hdT.1).1
          have hDR := hT.dr hdT d3440
          have hP : va_P D vwCl [(dr, .inl (cs 0, 1383, .inl f3439))] _ := va_P.cons d3440 va_P.nil
          refine lv_aload_n hx hb dX9_readSum_58 rfl (lv_at hl 1 rfl) ?_
          refine lv_iload_n hx hb dX9_readSum_59 rfl (lv_at hl 0 rfl) ?_
          refine lv_if_eq (tgt := 67) hx hb dX9_readSum_60 (by decide) (fun c9 => absurd c9 (by decide)) (fun _ => ?_)
          refine lv_iconst (v := 2) hx hb dX9_readSum_63 (by decide) ?_
          refine lv_goto (tgt := 68) hx hb dX9_readSum_64 (by decide) ?_
          refine cv_v (As := [.int 2]) (rest := []) (b := w) ⟨hx, hb, hml, hown, hts⟩ (c_X9_emit hT (w := w) hw (x := 2) hbT hdT hm (hP 0 _ rfl) e3441 (fun _ => by omega)) (cwV 1 hts gX9_readSum_X9_emit rfl rfl rfl hdX9_emit_v ⟨Nat.le_of_ble_eq_true rfl, Nat.le_of_ble_eq_true rfl⟩) hN hE hL (rcv10 hN hT hw.1) rfl rfl hl.1 (Nat.le_of_ble_eq_true rfl) dX9_readSum_68 (Nat.zero_le _) (Nat.zero_le _) (fun H1 locs hL hqr3445 => ?_)
          obtain ⟨hT1, hF1, hqr3445⟩ := hqr3445
          have hF := hF.tr (hF1.mono (by simp))
          have hT := hT1
          obtain ⟨f3446, N3447, d3448, e3449, x3450, m3451⟩ := hqr3445
          have hm := m3451
          have hm8 := hm.2.2.2.2.2.2.2
          have nx3450 := x3450.n
          have ox3450 := nx3450.1
          have hbd : B0 ≤ dr := (hT.o26 hdT.1).1
          have hDR := hT.dr hdT d3448
          have hP : va_P D vwCl [(dr, .inl (cs 0, 1383, .inl f3446))] _ := va_P.cons d3448 va_P.nil
          refine lv_goto (tgt := 4) hx hb dX9_readSum_71 (by decide) ?_
          have hps : PS D cs w _ (p3433) (tl) (er3434) (2) dr bu g (N3447) ((h + 1)) := ⟨hm, f3446, hP 0 _ rfl, e3449, by omega, (EM.op x3450 (by decide) v3443)⟩
          exact ih3327 (p3433, N3447, er3434) _ _ _ (by show 600 - (p3433) < 600 - p; omega) ⟨hps, (by show (N3447) + 2 * pos ≤ N + 2 * (p3433); omega), (by show pos ≤ (p3433); omega), (fun e9 => hz1 (z3437 e9)), hT, hF, hL⟩ (lv_sub hl [1] rfl)
  · refine lv_if_eq (tgt := 74) hx hb dX9_readSum_8 (by decide) (fun _ => ?_) (fun c9 => absurd (by decide) c9)
    have hps : PS D cs w _ (p) (tl) (er1) (2) dr bu g (N1) ((h + 1)) := ⟨hm, f3328, hP 0 _ rfl, e3328, by omega, v3328⟩
    exact en_v hx hb hr hlocks hL (Nat.zero_le _) (Nat.zero_le _) dX9_readSum_74 (⟨hT, hF, N1, p, er1, (by omega), (by omega), hz1, hps⟩)
set_option maxHeartbeats 4000000 in
set_option maxRecDepth 100000 in
theorem c_X9_factor_d1 {l : Launch} {D : va_G} {cs : Nat → ClassId} {B0 T : Nat} {κ : KM} {H0 : Heap} (hT : WT B0 D cs T κ H0) {w : Nat} (hw : T2 κ w 10 12) {pos tl : Nat} {er : Int32} {dr bu : Nat} {g : Nat → Int32} {N h : Nat} (hbT : T2 κ bu 23 14) (hdT : T2 κ dr 26 17) (hps : PS D cs w H0 pos tl er 1 dr bu g N h) : KC l yX9_factor wsX9_factor 14 302 0 0 D cs B0 H0 [.ref w] (Qv (fun H => WT B0 D cs T κ H ∧ Fr B0 [12, 17] κ H0 H ∧ ∃ N1 pos1 er1, N1 + 2 * pos ≤ N + 2 * pos1 ∧ pos ≤ pos1 ∧ (er1 = 0 → er = 0) ∧ PS D cs w H pos1 tl er1 1 dr bu g N1 (h + 1))) := by
  refine KC.of cX9_factor 4 none (by decide) rfl (Nat.le_of_ble_eq_true rfl) ?_
  intro p e s m below meth c ls hx hb hr hml hown hts hlocks hin hN hE hH0 hl
  have hown : s.vm.findClass RX9 = some m.cls := hown
  have hl : lv_has ls 4 [(0, .ref w)] := hl
  have hL : OkL B0 [] := OkL.nil
  have hF : Fr B0 [12, 17] κ H0 H0 := Fr.rf
  obtain ⟨hm, f3453, hd3453, e3453, n3453, v3453⟩ := hps
  have hm8 := hm.2.2.2.2.2.2.2
  have hbd : B0 ≤ dr := (hT.o26 hdT.1).1
  have hDR := hT.dr hdT hd3453
  have hP : va_P D vwCl [(dr, .inl (cs 0, 1383, .inl f3453))] _ := va_P.cons hd3453 va_P.nil
  refine lv_aload_n hx hb dX9_factor_0 rfl (lv_at hl 0 rfl) ?_
  refine cv_i (As := []) (rest := []) (b := w) ⟨hx, hb, hml, hown, hts⟩ (c_X9_isGood hT (w := w) hw hbT hdT hm) (cwV 0 hts gX9_factor_X9_isGood rfl rfl rfl hdX9_isGood_v ⟨Nat.le_of_ble_eq_true rfl, Nat.le_of_ble_eq_true rfl⟩) hN hE hL (rcv10 hN hT hw.1) rfl rfl hl.1 (Nat.le_of_ble_eq_true rfl) dX9_factor_1 (Nat.zero_le _) (Nat.zero_le _) (fun r3455 H1 locs hL hqr3455 => ?_)
  obtain ⟨h9, hqr3455⟩ := hqr3455; replace h9 := h9.symm; subst h9
  rcases hqr3455 with ⟨rfl, e3456⟩ | ⟨rfl, e3457⟩
  · refine lv_if_ne (tgt := 8) hx hb dX9_factor_4 (by decide) (fun _ => ?_) (fun c9 => absurd c9 (by decide))
    refine lv_aload_n hx hb dX9_factor_8 rfl (lv_at hl 0 rfl) ?_
    refine cv_i (As := []) (rest := []) (b := w) ⟨hx, hb, hml, hown, hts⟩ (c_X9_ahead hT (w := w) hw hbT hdT hm) (cwV 0 hts gX9_factor_X9_ahead rfl rfl rfl hdX9_ahead_v ⟨Nat.le_of_ble_eq_true rfl, Nat.le_of_ble_eq_true rfl⟩) hN hE hL (rcv10 hN hT hw.1) rfl rfl hl.1 (Nat.le_of_ble_eq_true rfl) dX9_factor_9 (Nat.zero_le _) (Nat.zero_le _) (fun r3458 H1 locs hL hqr3458 => ?_)
    obtain ⟨hT1, hF1, hqr3458⟩ := hqr3458
    have hP : va_P D vwCl [(dr, .inl (cs 0, 1383, .inl f3453))] _ := hF1.hP (hP.sub [0] rfl) (fa_c ⟨by rw [hdT.1]; decide, by rw [hdT.2]; first | decide | (simp; done) | (simp; omega)⟩ fa_n)
    have hF := hF.tr (hF1.mono (by simp))
    have hT := hT1
    obtain ⟨p3459, h3460, m3461, n3462, s3463, rfl⟩ := hqr3458
    have hm := m3461
    have hm8 := hm.2.2.2.2.2.2.2
    refine lv_istore_n (lv' := [(1, .int (byF g tl p3459)), (0, .ref w)]) hx hb dX9_factor_12 rfl hl (by decide) rfl (fun ls hl => ?_)
    refine lv_iload_n hx hb dX9_factor_13 rfl (lv_at hl 0 rfl) ?_
    refine lv_bipush (v := 40) hx hb dX9_factor_14 (by decide) ?_
    refine lv_icmp_ne (tgt := 78) hx hb dX9_factor_16 (by decide) (fun c3464 => ?_) (fun c3464 => ?_)
    · refine lv_iload_n hx hb dX9_factor_78 rfl (lv_at hl 0 rfl) ?_
      refine cs_i (As := [.int (byF g tl p3459)]) (rest := []) ⟨hx, hb, hml, hown, hts⟩ (c_X9_isDigit hT (x := (byF g tl p3459))) (va_cwS 1 hts gX9_factor_X9_isDigit rfl rfl rfl hdX9_isDigit_o ⟨Nat.le_of_ble_eq_true rfl, Nat.le_of_ble_eq_true rfl⟩) hN hE hL rfl rfl hl.1 (Nat.le_of_ble_eq_true rfl) dX9_factor_79 (Nat.zero_le _) (Nat.zero_le _) (fun r3465 H1 locs hL hqr3465 => ?_)
      obtain ⟨h9, hqr3465⟩ := hqr3465; replace h9 := h9.symm; subst h9
      rcases hqr3465 with ⟨rfl, o3466⟩ | ⟨rfl, l3467, g3468⟩
      · refine lv_if_eq (tgt := 89) hx hb dX9_factor_82 (by decide) (fun _ => ?_) (fun c9 => absurd (by decide) c9)
        refine lv_aload_n hx hb dX9_factor_89 rfl (lv_at hl 1 rfl) ?_
        refine va_ldcS hx hb hown (hN.s 19 rfl) dX9_factor_90 ?_
        refine cv_i (As := [.ref (cs 119)]) (rest := []) (b := w) ⟨hx, hb, hml, hown, hts⟩ (c_X9_takeWord hT (w := w) hw (i := 19) (by decide) hbT hdT hm) (cwV 1 hts gX9_factor_X9_takeWord rfl rfl rfl hdX9_takeWord_v ⟨Nat.le_of_ble_eq_true rfl, Nat.le_of_ble_eq_true rfl⟩) hN hE hL (rcv10 hN hT hw.1) rfl rfl hl.1 (Nat.le_of_ble_eq_true rfl) dX9_factor_92 (Nat.zero_le _) (Nat.zero_le _) (fun r3469 H1 locs hL hqr3469 => ?_)
        obtain ⟨hT1, hF1, hqr3469⟩ := hqr3469
        have hP : va_P D vwCl [(dr, .inl (cs 0, 1383, .inl f3453))] _ := hF1.hP (hP.sub [0] rfl) (fa_c ⟨by rw [hdT.1]; decide, by rw [hdT.2]; first | decide | (simp; done) | (simp; omega)⟩ fa_n)
        have hF := hF.tr (hF1.mono (by simp))
        have hT := hT1
        rcases hqr3469 with ⟨rfl, p3470, h3471, m3472⟩ | ⟨rfl, p3473, q3474, e3475, m3476⟩
        · have hm := m3472
          have hm8 := hm.2.2.2.2.2.2.2
          refine lv_if_eq (tgt := 102) hx hb dX9_factor_95 (by decide) (fun _ => ?_) (fun c9 => absurd (by decide) c9)
          refine lv_aload_n hx hb dX9_factor_102 rfl (lv_at hl 1 rfl) ?_
          refine va_ldcS hx hb hown (hN.s 25 rfl) dX9_factor_103 ?_
          refine cv_i (As := [.ref (cs 125)]) (rest := []) (b := w) ⟨hx, hb, hml, hown, hts⟩ (c_X9_takeWord hT (w := w) hw (i := 25) (by decide) hbT hdT hm) (cwV 1 hts gX9_factor_X9_takeWord rfl rfl rfl hdX9_takeWord_v ⟨Nat.le_of_ble_eq_true rfl, Nat.le_of_ble_eq_true rfl⟩) hN hE hL (rcv10 hN hT hw.1) rfl rfl hl.1 (Nat.le_of_ble_eq_true rfl) dX9_factor_105 (Nat.zero_le _) (Nat.zero_le _) (fun r3477 H1 locs hL hqr3477 => ?_)
          obtain ⟨hT1, hF1, hqr3477⟩ := hqr3477
          have hP : va_P D vwCl [(dr, .inl (cs 0, 1383, .inl f3453))] _ := hF1.hP (hP.sub [0] rfl) (fa_c ⟨by rw [hdT.1]; decide, by rw [hdT.2]; first | decide | (simp; done) | (simp; omega)⟩ fa_n)
          have hF := hF.tr (hF1.mono (by simp))
          have hT := hT1
          rcases hqr3477 with ⟨rfl, p3478, h3479, m3480⟩ | ⟨rfl, p3481, q3482, e3483, m3484⟩
          · have hm := m3480
            have hm8 := hm.2.2.2.2.2.2.2
            refine lv_if_eq (tgt := 115) hx hb dX9_factor_108 (by decide) (fun _ => ?_) (fun c9 => absurd (by decide) c9)
            refine lv_aload_n hx hb dX9_factor_115 rfl (lv_at hl 1 rfl) ?_
            refine va_ldcS hx hb hown (hN.s 26 rfl) dX9_factor_116 ?_
            refine cv_i (As := [.ref (cs 126)]) (rest := []) (b := w) ⟨hx, hb, hml, hown, hts⟩ (c_X9_takeWord hT (w := w) hw (i := 26) (by decide) hbT hdT hm) (cwV 1 hts gX9_factor_X9_takeWord rfl rfl rfl hdX9_takeWord_v ⟨Nat.le_of_ble_eq_true rfl, Nat.le_of_ble_eq_true rfl⟩) hN hE hL (rcv10 hN hT hw.1) rfl rfl hl.1 (Nat.le_of_ble_eq_true rfl) dX9_factor_118 (Nat.zero_le _) (Nat.zero_le _) (fun r3485 H1 locs hL hqr3485 => ?_)
            obtain ⟨hT1, hF1, hqr3485⟩ := hqr3485
            have hP : va_P D vwCl [(dr, .inl (cs 0, 1383, .inl f3453))] _ := hF1.hP (hP.sub [0] rfl) (fa_c ⟨by rw [hdT.1]; decide, by rw [hdT.2]; first | decide | (simp; done) | (simp; omega)⟩ fa_n)
            have hF := hF.tr (hF1.mono (by simp))
            have hT := hT1
            rcases hqr3485 with ⟨rfl, p3486, h3487, m3488⟩ | ⟨rfl, p3489, q3490, e3491, m3492⟩
            · have hm := m3488
              have hm8 := hm.2.2.2.2.2.2.2
              refine lv_if_eq (tgt := 128) hx hb dX9_factor_121 (by decide) (fun _ => ?_) (fun c9 => absurd (by decide) c9)
              refine lv_aload_n hx hb dX9_factor_128 rfl (lv_at hl 1 rfl) ?_
              refine va_ldcS hx hb hown (hN.s 27 rfl) dX9_factor_129 ?_
              refine cv_i (As := [.ref (cs 127)]) (rest := []) (b := w) ⟨hx, hb, hml, hown, hts⟩ (c_X9_takeWord hT (w := w) hw (i := 27) (by decide) hbT hdT hm) (cwV 1 hts gX9_factor_X9_takeWord rfl rfl rfl hdX9_takeWord_v ⟨Nat.le_of_ble_eq_true rfl, Nat.le_of_ble_eq_true rfl⟩) hN hE hL (rcv10 hN hT hw.1) rfl rfl hl.1 (Nat.le_of_ble_eq_true rfl) dX9_factor_131 (Nat.zero_le _) (Nat.zero_le _) (fun r3493 H1 locs hL hqr3493 => ?_)
              obtain ⟨hT1, hF1, hqr3493⟩ := hqr3493
              have hP : va_P D vwCl [(dr, .inl (cs 0, 1383, .inl f3453))] _ := hF1.hP (hP.sub [0] rfl) (fa_c ⟨by rw [hdT.1]; decide, by rw [hdT.2]; first | decide | (simp; done) | (simp; omega)⟩ fa_n)
              have hF := hF.tr (hF1.mono (by simp))
              have hT := hT1
              rcases hqr3493 with ⟨rfl, p3494, h3495, m3496⟩ | ⟨rfl, p3497, q3498, e3499, m3500⟩
              · have hm := m3496
                have hm8 := hm.2.2.2.2.2.2.2
                refine lv_if_eq (tgt := 141) hx hb dX9_factor_134 (by decide) (fun _ => ?_) (fun c9 => absurd (by decide) c9)
                refine lv_iconst (v := (-1)) hx hb dX9_factor_141 (by decide) ?_
                refine lv_istore_n (lv' := [(2, .int (-1)), (1, .int (byF g tl p3459)), (0, .ref w)]) hx hb dX9_factor_142 rfl hl (by decide) rfl (fun ls hl => ?_)
                refine lv_iload_n hx hb dX9_factor_143 rfl (lv_at hl 0 rfl) ?_
                refine lv_if_ge (tgt := 158) hx hb dX9_factor_144 (by decide) (fun c9 => absurd c9 (by decide)) (fun _ => ?_)
                refine lv_aload_n hx hb dX9_factor_147 rfl (lv_at hl 2 rfl) ?_
                refine lv_iconst (v := 0) hx hb dX9_factor_148 (by decide) ?_
                refine lv_sipush (v := 9999) hx hb dX9_factor_149 (by decide) ?_
                refine cv_i (As := [.int 0, .int 9999]) (rest := []) (b := w) ⟨hx, hb, hml, hown, hts⟩ (c_X9_number hT (w := w) hw (x := 0) (y := 9999) hbT hdT hm) (cwV 2 hts gX9_factor_X9_number rfl rfl rfl hdX9_number_v ⟨Nat.le_of_ble_eq_true rfl, Nat.le_of_ble_eq_true rfl⟩) hN hE hL (rcv10 hN hT hw.1) rfl rfl hl.1 (Nat.le_of_ble_eq_true rfl) dX9_factor_152 (Nat.zero_le _) (Nat.zero_le _) (fun r3501 H1 locs hL hqr3501 => ?_)
                obtain ⟨hT1, hF1, hqr3501⟩ := hqr3501
                have hP : va_P D vwCl [(dr, .inl (cs 0, 1383, .inl f3453))] _ := hF1.hP (hP.sub [0] rfl) (fa_c ⟨by rw [hdT.1]; decide, by rw [hdT.2]; first | decide | (simp; done) | (simp; omega)⟩ fa_n)
                have hF := hF.tr (hF1.mono (by simp))
                have hT := hT1
                obtain ⟨p3502, er3503, a3504, z3505, m3506, q3507⟩ := hqr3501
                have hm := m3506
                have hm8 := hm.2.2.2.2.2.2.2
                refine lv_goto (tgt := 159) hx hb dX9_factor_155 (by decide) ?_
                refine lv_istore_n (lv' := [(3, .int r3501), (2, .int (-1)), (1, .int (byF g tl p3459)), (0, .ref w)]) hx hb dX9_factor_159 rfl hl (by decide) rfl (fun ls hl => ?_)
                refine lv_aload_n hx hb dX9_factor_160 rfl (lv_at hl 3 rfl) ?_
                refine lv_iload_n hx hb dX9_factor_161 rfl (lv_at hl 1 rfl) ?_
                refine lv_if_ge (tgt := 169) hx hb dX9_factor_162 (by decide) (fun c9 => absurd c9 (by decide)) (fun _ => ?_)
                refine lv_iconst (v := 0) hx hb dX9_factor_165 (by decide) ?_
                refine lv_goto (tgt := 170) hx hb dX9_factor_166 (by decide) ?_
                refine cv_v (As := [.int 0]) (rest := []) (b := w) ⟨hx, hb, hml, hown, hts⟩ (c_X9_emit hT (w := w) hw (x := 0) hbT hdT hm (hP 0 _ rfl) e3453 (fun e9 => by have q9 := (z3505 e9).2; omega)) (cwV 1 hts gX9_factor_X9_emit rfl rfl rfl hdX9_emit_v ⟨Nat.le_of_ble_eq_true rfl, Nat.le_of_ble_eq_true rfl⟩) hN hE hL (rcv10 hN hT hw.1) rfl rfl hl.1 (Nat.le_of_ble_eq_true rfl) dX9_factor_170 (Nat.zero_le _) (Nat.zero_le _) (fun H1 locs hL hqr3508 => ?_)
                obtain ⟨hT1, hF1, hqr3508⟩ := hqr3508
                have hF := hF.tr (hF1.mono (by simp))
                have hT := hT1
                obtain ⟨f3509, N3510, d3511, e3512, x3513, m3514⟩ := hqr3508
                have hm := m3514
                have hm8 := hm.2.2.2.2.2.2.2
                have nx3513 := x3513.n
                have ox3513 := nx3513.1
                have hbd : B0 ≤ dr := (hT.o26 hdT.1).1
                have hDR := hT.dr hdT d3511
                have hP : va_P D vwCl [(dr, .inl (cs 0, 1383, .inl f3509))] _ := va_P.cons d3511 va_P.nil
                refine lv_aload_n hx hb dX9_factor_173 rfl (lv_at hl 3 rfl) ?_
                refine lv_iload_n hx hb dX9_factor_174 rfl (lv_at hl 0 rfl) ?_
                refine cv_v (As := [.int r3501]) (rest := []) (b := w) ⟨hx, hb, hml, hown, hts⟩ (c_X9_emit hT (w := w) hw (x := r3501) hbT hdT hm (hP 0 _ rfl) e3512 (fun e9 => by have q9 := (z3505 e9).2; omega)) (cwV 1 hts gX9_factor_X9_emit rfl rfl rfl hdX9_emit_v ⟨Nat.le_of_ble_eq_true rfl, Nat.le_of_ble_eq_true rfl⟩) hN hE hL (rcv10 hN hT hw.1) rfl rfl hl.1 (Nat.le_of_ble_eq_true rfl) dX9_factor_175 (Nat.zero_le _) (Nat.zero_le _) (fun H1 locs hL hqr3516 => ?_)
                obtain ⟨hT1, hF1, hqr3516⟩ := hqr3516
                have hF := hF.tr (hF1.mono (by simp))
                have hT := hT1
                obtain ⟨f3517, N3518, d3519, e3520, x3521, m3522⟩ := hqr3516
                have hm := m3522
                have hm8 := hm.2.2.2.2.2.2.2
                have nx3521 := x3521.n
                have ox3521 := nx3521.1
                have hbd : B0 ≤ dr := (hT.o26 hdT.1).1
                have hDR := hT.dr hdT d3519
                have hP : va_P D vwCl [(dr, .inl (cs 0, 1383, .inl f3517))] _ := va_P.cons d3519 va_P.nil
                have bx3513 := nx3513.2.1
                have bx3521 := nx3521.2.1
                have hbn : N3518 + 2 * pos ≤ N + 2 * p3502 ∧ N3518 ≤ 2 * p3502 := by
                  by_cases e9 : er3503 = 0
                  · have q9 := (z3505 e9).2; omega
                  · have q9 := bx3513 e9; have q8 := bx3521 e9; omega
                exact en_v hx hb hr hlocks hL (Nat.zero_le _) (Nat.zero_le _) dX9_factor_178 (⟨hT, hF, _, p3502, er3503, hbn.1, (by omega), (fun e9 => id ((fun e9 => (z3505 e9).1) e9)), hm, _, hP 0 _ rfl, e3520, hbn.2, (EM.lit x3513 x3521 (by decide) (fun e9 => v3453 ((fun e9 => (z3505 e9).1) e9)))⟩)
              · have hm := m3500
                have hm8 := hm.2.2.2.2.2.2.2
                refine lv_if_eq (tgt := 141) hx hb dX9_factor_134 (by decide) (fun c9 => absurd c9 (by decide)) (fun _ => ?_)
                refine lv_iconst (v := 3) hx hb dX9_factor_137 (by decide) ?_
                refine lv_goto (tgt := 142) hx hb dX9_factor_138 (by decide) ?_
                refine lv_istore_n (lv' := [(2, .int 3), (1, .int (byF g tl p3459)), (0, .ref w)]) hx hb dX9_factor_142 rfl hl (by decide) rfl (fun ls hl => ?_)
                refine lv_iload_n hx hb dX9_factor_143 rfl (lv_at hl 0 rfl) ?_
                refine lv_if_ge (tgt := 158) hx hb dX9_factor_144 (by decide) (fun _ => ?_) (fun c9 => absurd (by decide) c9)
                refine lv_iload_n hx hb dX9_factor_158 rfl (lv_at hl 0 rfl) ?_
                refine lv_istore_n (lv' := [(3, .int 3), (2, .int 3), (1, .int (byF g tl p3459)), (0, .ref w)]) hx hb dX9_factor_159 rfl hl (by decide) rfl (fun ls hl => ?_)
                refine lv_aload_n hx hb dX9_factor_160 rfl (lv_at hl 3 rfl) ?_
                refine lv_iload_n hx hb dX9_factor_161 rfl (lv_at hl 1 rfl) ?_
                refine lv_if_ge (tgt := 169) hx hb dX9_factor_162 (by decide) (fun _ => ?_) (fun c9 => absurd (by decide) c9)
                refine lv_iconst (v := 1) hx hb dX9_factor_169 (by decide) ?_
                refine cv_v (As := [.int 1]) (rest := []) (b := w) ⟨hx, hb, hml, hown, hts⟩ (c_X9_emit hT (w := w) hw (x := 1) hbT hdT hm (hP 0 _ rfl) e3453 (fun e9 => by omega)) (cwV 1 hts gX9_factor_X9_emit rfl rfl rfl hdX9_emit_v ⟨Nat.le_of_ble_eq_true rfl, Nat.le_of_ble_eq_true rfl⟩) hN hE hL (rcv10 hN hT hw.1) rfl rfl hl.1 (Nat.le_of_ble_eq_true rfl) dX9_factor_170 (Nat.zero_le _) (Nat.zero_le _) (fun H1 locs hL hqr3524 => ?_)
                obtain ⟨hT1, hF1, hqr3524⟩ := hqr3524
                have hF := hF.tr (hF1.mono (by simp))
                have hT := hT1
                obtain ⟨f3525, N3526, d3527, e3528, x3529, m3530⟩ := hqr3524
                have hm := m3530
                have hm8 := hm.2.2.2.2.2.2.2
                have nx3529 := x3529.n
                have ox3529 := nx3529.1
                have hbd : B0 ≤ dr := (hT.o26 hdT.1).1
                have hDR := hT.dr hdT d3527
                have hP : va_P D vwCl [(dr, .inl (cs 0, 1383, .inl f3525))] _ := va_P.cons d3527 va_P.nil
                refine lv_aload_n hx hb dX9_factor_173 rfl (lv_at hl 3 rfl) ?_
                refine lv_iload_n hx hb dX9_factor_174 rfl (lv_at hl 0 rfl) ?_
                refine cv_v (As := [.int 3]) (rest := []) (b := w) ⟨hx, hb, hml, hown, hts⟩ (c_X9_emit hT (w := w) hw (x := 3) hbT hdT hm (hP 0 _ rfl) e3528 (fun e9 => by omega)) (cwV 1 hts gX9_factor_X9_emit rfl rfl rfl hdX9_emit_v ⟨Nat.le_of_ble_eq_true rfl, Nat.le_of_ble_eq_true rfl⟩) hN hE hL (rcv10 hN hT hw.1) rfl rfl hl.1 (Nat.le_of_ble_eq_true rfl) dX9_factor_175 (Nat.zero_le _) (Nat.zero_le _) (fun H1 locs hL hqr3532 => ?_)
                obtain ⟨hT1, hF1, hqr3532⟩ := hqr3532
                have hF := hF.tr (hF1.mono (by simp))
                have hT := hT1
                obtain ⟨f3533, N3534, d3535, e3536, x3537, m3538⟩ := hqr3532
                have hm := m3538
                have hm8 := hm.2.2.2.2.2.2.2
                have nx3537 := x3537.n
                have ox3537 := nx3537.1
                have hbd : B0 ≤ dr := (hT.o26 hdT.1).1
                have hDR := hT.dr hdT d3535
                have hP : va_P D vwCl [(dr, .inl (cs 0, 1383, .inl f3533))] _ := va_P.cons d3535 va_P.nil
                have bx3529 := nx3529.2.1
                have bx3537 := nx3537.2.1
                have hbn : N3534 + 2 * pos ≤ N + 2 * p3497 ∧ N3534 ≤ 2 * p3497 := by
                  by_cases e9 : er = 0
                  · omega
                  · have q9 := bx3529 e9; have q8 := bx3537 e9; omega
                exact en_v hx hb hr hlocks hL (Nat.zero_le _) (Nat.zero_le _) dX9_factor_178 (⟨hT, hF, _, p3497, er, hbn.1, (by omega), id, hm, _, hP 0 _ rfl, e3536, hbn.2, (EM.lit x3529 x3537 (by decide) v3453)⟩)
            · have hm := m3492
              have hm8 := hm.2.2.2.2.2.2.2
              refine lv_if_eq (tgt := 128) hx hb dX9_factor_121 (by decide) (fun c9 => absurd c9 (by decide)) (fun _ => ?_)
              refine lv_iconst (v := 2) hx hb dX9_factor_124 (by decide) ?_
              refine lv_goto (tgt := 142) hx hb dX9_factor_125 (by decide) ?_
              refine lv_istore_n (lv' := [(2, .int 2), (1, .int (byF g tl p3459)), (0, .ref w)]) hx hb dX9_factor_142 rfl hl (by decide) rfl (fun ls hl => ?_)
              refine lv_iload_n hx hb dX9_factor_143 rfl (lv_at hl 0 rfl) ?_
              refine lv_if_ge (tgt := 158) hx hb dX9_factor_144 (by decide) (fun _ => ?_) (fun c9 => absurd (by decide) c9)
              refine lv_iload_n hx hb dX9_factor_158 rfl (lv_at hl 0 rfl) ?_
              refine lv_istore_n (lv' := [(3, .int 2), (2, .int 2), (1, .int (byF g tl p3459)), (0, .ref w)]) hx hb dX9_factor_159 rfl hl (by decide) rfl (fun ls hl => ?_)
              refine lv_aload_n hx hb dX9_factor_160 rfl (lv_at hl 3 rfl) ?_
              refine lv_iload_n hx hb dX9_factor_161 rfl (lv_at hl 1 rfl) ?_
              refine lv_if_ge (tgt := 169) hx hb dX9_factor_162 (by decide) (fun _ => ?_) (fun c9 => absurd (by decide) c9)
              refine lv_iconst (v := 1) hx hb dX9_factor_169 (by decide) ?_
              refine cv_v (As := [.int 1]) (rest := []) (b := w) ⟨hx, hb, hml, hown, hts⟩ (c_X9_emit hT (w := w) hw (x := 1) hbT hdT hm (hP 0 _ rfl) e3453 (fun e9 => by omega)) (cwV 1 hts gX9_factor_X9_emit rfl rfl rfl hdX9_emit_v ⟨Nat.le_of_ble_eq_true rfl, Nat.le_of_ble_eq_true rfl⟩) hN hE hL (rcv10 hN hT hw.1) rfl rfl hl.1 (Nat.le_of_ble_eq_true rfl) dX9_factor_170 (Nat.zero_le _) (Nat.zero_le _) (fun H1 locs hL hqr3540 => ?_)
              obtain ⟨hT1, hF1, hqr3540⟩ := hqr3540
              have hF := hF.tr (hF1.mono (by simp))
              have hT := hT1
              obtain ⟨f3541, N3542, d3543, e3544, x3545, m3546⟩ := hqr3540
              have hm := m3546
              have hm8 := hm.2.2.2.2.2.2.2
              have nx3545 := x3545.n
              have ox3545 := nx3545.1
              have hbd : B0 ≤ dr := (hT.o26 hdT.1).1
              have hDR := hT.dr hdT d3543
              have hP : va_P D vwCl [(dr, .inl (cs 0, 1383, .inl f3541))] _ := va_P.cons d3543 va_P.nil
              refine lv_aload_n hx hb dX9_factor_173 rfl (lv_at hl 3 rfl) ?_
              refine lv_iload_n hx hb dX9_factor_174 rfl (lv_at hl 0 rfl) ?_
              refine cv_v (As := [.int 2]) (rest := []) (b := w) ⟨hx, hb, hml, hown, hts⟩ (c_X9_emit hT (w := w) hw (x := 2) hbT hdT hm (hP 0 _ rfl) e3544 (fun e9 => by omega)) (cwV 1 hts gX9_factor_X9_emit rfl rfl rfl hdX9_emit_v ⟨Nat.le_of_ble_eq_true rfl, Nat.le_of_ble_eq_true rfl⟩) hN hE hL (rcv10 hN hT hw.1) rfl rfl hl.1 (Nat.le_of_ble_eq_true rfl) dX9_factor_175 (Nat.zero_le _) (Nat.zero_le _) (fun H1 locs hL hqr3548 => ?_)
              obtain ⟨hT1, hF1, hqr3548⟩ := hqr3548
              have hF := hF.tr (hF1.mono (by simp))
              have hT := hT1
              obtain ⟨f3549, N3550, d3551, e3552, x3553, m3554⟩ := hqr3548
              have hm := m3554
              have hm8 := hm.2.2.2.2.2.2.2
              have nx3553 := x3553.n
              have ox3553 := nx3553.1
              have hbd : B0 ≤ dr := (hT.o26 hdT.1).1
              have hDR := hT.dr hdT d3551
              have hP : va_P D vwCl [(dr, .inl (cs 0, 1383, .inl f3549))] _ := va_P.cons d3551 va_P.nil
              have bx3545 := nx3545.2.1
              have bx3553 := nx3553.2.1
              have hbn : N3550 + 2 * pos ≤ N + 2 * p3489 ∧ N3550 ≤ 2 * p3489 := by
                by_cases e9 : er = 0
                · omega
                · have q9 := bx3545 e9; have q8 := bx3553 e9; omega
              exact en_v hx hb hr hlocks hL (Nat.zero_le _) (Nat.zero_le _) dX9_factor_178 (⟨hT, hF, _, p3489, er, hbn.1, (by omega), id, hm, _, hP 0 _ rfl, e3552, hbn.2, (EM.lit x3545 x3553 (by decide) v3453)⟩)
          · have hm := m3484
            have hm8 := hm.2.2.2.2.2.2.2
            refine lv_if_eq (tgt := 115) hx hb dX9_factor_108 (by decide) (fun c9 => absurd c9 (by decide)) (fun _ => ?_)
            refine lv_iconst (v := 1) hx hb dX9_factor_111 (by decide) ?_
            refine lv_goto (tgt := 142) hx hb dX9_factor_112 (by decide) ?_
            refine lv_istore_n (lv' := [(2, .int 1), (1, .int (byF g tl p3459)), (0, .ref w)]) hx hb dX9_factor_142 rfl hl (by decide) rfl (fun ls hl => ?_)
            refine lv_iload_n hx hb dX9_factor_143 rfl (lv_at hl 0 rfl) ?_
            refine lv_if_ge (tgt := 158) hx hb dX9_factor_144 (by decide) (fun _ => ?_) (fun c9 => absurd (by decide) c9)
            refine lv_iload_n hx hb dX9_factor_158 rfl (lv_at hl 0 rfl) ?_
            refine lv_istore_n (lv' := [(3, .int 1), (2, .int 1), (1, .int (byF g tl p3459)), (0, .ref w)]) hx hb dX9_factor_159 rfl hl (by decide) rfl (fun ls hl => ?_)
            refine lv_aload_n hx hb dX9_factor_160 rfl (lv_at hl 3 rfl) ?_
            refine lv_iload_n hx hb dX9_factor_161 rfl (lv_at hl 1 rfl) ?_
            refine lv_if_ge (tgt := 169) hx hb dX9_factor_162 (by decide) (fun _ => ?_) (fun c9 => absurd (by decide) c9)
            refine lv_iconst (v := 1) hx hb dX9_factor_169 (by decide) ?_
            refine cv_v (As := [.int 1]) (rest := []) (b := w) ⟨hx, hb, hml, hown, hts⟩ (c_X9_emit hT (w := w) hw (x := 1) hbT hdT hm (hP 0 _ rfl) e3453 (fun e9 => by omega)) (cwV 1 hts gX9_factor_X9_emit rfl rfl rfl hdX9_emit_v ⟨Nat.le_of_ble_eq_true rfl, Nat.le_of_ble_eq_true rfl⟩) hN hE hL (rcv10 hN hT hw.1) rfl rfl hl.1 (Nat.le_of_ble_eq_true rfl) dX9_factor_170 (Nat.zero_le _) (Nat.zero_le _) (fun H1 locs hL hqr3556 => ?_)
            obtain ⟨hT1, hF1, hqr3556⟩ := hqr3556
            have hF := hF.tr (hF1.mono (by simp))
            have hT := hT1
            obtain ⟨f3557, N3558, d3559, e3560, x3561, m3562⟩ := hqr3556
            have hm := m3562
            have hm8 := hm.2.2.2.2.2.2.2
            have nx3561 := x3561.n
            have ox3561 := nx3561.1
            have hbd : B0 ≤ dr := (hT.o26 hdT.1).1
            have hDR := hT.dr hdT d3559
            have hP : va_P D vwCl [(dr, .inl (cs 0, 1383, .inl f3557))] _ := va_P.cons d3559 va_P.nil
            refine lv_aload_n hx hb dX9_factor_173 rfl (lv_at hl 3 rfl) ?_
            refine lv_iload_n hx hb dX9_factor_174 rfl (lv_at hl 0 rfl) ?_
            refine cv_v (As := [.int 1]) (rest := []) (b := w) ⟨hx, hb, hml, hown, hts⟩ (c_X9_emit hT (w := w) hw (x := 1) hbT hdT hm (hP 0 _ rfl) e3560 (fun e9 => by omega)) (cwV 1 hts gX9_factor_X9_emit rfl rfl rfl hdX9_emit_v ⟨Nat.le_of_ble_eq_true rfl, Nat.le_of_ble_eq_true rfl⟩) hN hE hL (rcv10 hN hT hw.1) rfl rfl hl.1 (Nat.le_of_ble_eq_true rfl) dX9_factor_175 (Nat.zero_le _) (Nat.zero_le _) (fun H1 locs hL hqr3564 => ?_)
            obtain ⟨hT1, hF1, hqr3564⟩ := hqr3564
            have hF := hF.tr (hF1.mono (by simp))
            have hT := hT1
            obtain ⟨f3565, N3566, d3567, e3568, x3569, m3570⟩ := hqr3564
            have hm := m3570
            have hm8 := hm.2.2.2.2.2.2.2
            have nx3569 := x3569.n
            have ox3569 := nx3569.1
            have hbd : B0 ≤ dr := (hT.o26 hdT.1).1
            have hDR := hT.dr hdT d3567
            have hP : va_P D vwCl [(dr, .inl (cs 0, 1383, .inl f3565))] _ := va_P.cons d3567 va_P.nil
            have bx3561 := nx3561.2.1
            have bx3569 := nx3569.2.1
            have hbn : N3566 + 2 * pos ≤ N + 2 * p3481 ∧ N3566 ≤ 2 * p3481 := by
              by_cases e9 : er = 0
              · omega
              · have q9 := bx3561 e9; have q8 := bx3569 e9; omega
            exact en_v hx hb hr hlocks hL (Nat.zero_le _) (Nat.zero_le _) dX9_factor_178 (⟨hT, hF, _, p3481, er, hbn.1, (by omega), id, hm, _, hP 0 _ rfl, e3568, hbn.2, (EM.lit x3561 x3569 (by decide) v3453)⟩)
        · have hm := m3476
          have hm8 := hm.2.2.2.2.2.2.2
          refine lv_if_eq (tgt := 102) hx hb dX9_factor_95 (by decide) (fun c9 => absurd c9 (by decide)) (fun _ => ?_)
          refine lv_iconst (v := 0) hx hb dX9_factor_98 (by decide) ?_
          refine lv_goto (tgt := 142) hx hb dX9_factor_99 (by decide) ?_
          refine lv_istore_n (lv' := [(2, .int 0), (1, .int (byF g tl p3459)), (0, .ref w)]) hx hb dX9_factor_142 rfl hl (by decide) rfl (fun ls hl => ?_)
          refine lv_iload_n hx hb dX9_factor_143 rfl (lv_at hl 0 rfl) ?_
          refine lv_if_ge (tgt := 158) hx hb dX9_factor_144 (by decide) (fun _ => ?_) (fun c9 => absurd (by decide) c9)
          refine lv_iload_n hx hb dX9_factor_158 rfl (lv_at hl 0 rfl) ?_
          refine lv_istore_n (lv' := [(3, .int 0), (2, .int 0), (1, .int (byF g tl p3459)), (0, .ref w)]) hx hb dX9_factor_159 rfl hl (by decide) rfl (fun ls hl => ?_)
          refine lv_aload_n hx hb dX9_factor_160 rfl (lv_at hl 3 rfl) ?_
          refine lv_iload_n hx hb dX9_factor_161 rfl (lv_at hl 1 rfl) ?_
          refine lv_if_ge (tgt := 169) hx hb dX9_factor_162 (by decide) (fun _ => ?_) (fun c9 => absurd (by decide) c9)
          refine lv_iconst (v := 1) hx hb dX9_factor_169 (by decide) ?_
          refine cv_v (As := [.int 1]) (rest := []) (b := w) ⟨hx, hb, hml, hown, hts⟩ (c_X9_emit hT (w := w) hw (x := 1) hbT hdT hm (hP 0 _ rfl) e3453 (fun e9 => by omega)) (cwV 1 hts gX9_factor_X9_emit rfl rfl rfl hdX9_emit_v ⟨Nat.le_of_ble_eq_true rfl, Nat.le_of_ble_eq_true rfl⟩) hN hE hL (rcv10 hN hT hw.1) rfl rfl hl.1 (Nat.le_of_ble_eq_true rfl) dX9_factor_170 (Nat.zero_le _) (Nat.zero_le _) (fun H1 locs hL hqr3572 => ?_)
          obtain ⟨hT1, hF1, hqr3572⟩ := hqr3572
          have hF := hF.tr (hF1.mono (by simp))
          have hT := hT1
          obtain ⟨f3573, N3574, d3575, e3576, x3577, m3578⟩ := hqr3572
          have hm := m3578
          have hm8 := hm.2.2.2.2.2.2.2
          have nx3577 := x3577.n
          have ox3577 := nx3577.1
          have hbd : B0 ≤ dr := (hT.o26 hdT.1).1
          have hDR := hT.dr hdT d3575
          have hP : va_P D vwCl [(dr, .inl (cs 0, 1383, .inl f3573))] _ := va_P.cons d3575 va_P.nil
          refine lv_aload_n hx hb dX9_factor_173 rfl (lv_at hl 3 rfl) ?_
          refine lv_iload_n hx hb dX9_factor_174 rfl (lv_at hl 0 rfl) ?_
          refine cv_v (As := [.int 0]) (rest := []) (b := w) ⟨hx, hb, hml, hown, hts⟩ (c_X9_emit hT (w := w) hw (x := 0) hbT hdT hm (hP 0 _ rfl) e3576 (fun e9 => by omega)) (cwV 1 hts gX9_factor_X9_emit rfl rfl rfl hdX9_emit_v ⟨Nat.le_of_ble_eq_true rfl, Nat.le_of_ble_eq_true rfl⟩) hN hE hL (rcv10 hN hT hw.1) rfl rfl hl.1 (Nat.le_of_ble_eq_true rfl) dX9_factor_175 (Nat.zero_le _) (Nat.zero_le _) (fun H1 locs hL hqr3580 => ?_)
          obtain ⟨hT1, hF1, hqr3580⟩ := hqr3580
          have hF := hF.tr (hF1.mono (by simp))
          have hT := hT1
          obtain ⟨f3581, N3582, d3583, e3584, x3585, m3586⟩ := hqr3580
          have hm := m3586
          have hm8 := hm.2.2.2.2.2.2.2
          have nx3585 := x3585.n
          have ox3585 := nx3585.1
          have hbd : B0 ≤ dr := (hT.o26 hdT.1).1
          have hDR := hT.dr hdT d3583
          have hP : va_P D vwCl [(dr, .inl (cs 0, 1383, .inl f3581))] _ := va_P.cons d3583 va_P.nil
          have bx3577 := nx3577.2.1
          have bx3585 := nx3585.2.1
          have hbn : N3582 + 2 * pos ≤ N + 2 * p3473 ∧ N3582 ≤ 2 * p3473 := by
            by_cases e9 : er = 0
            · omega
            · have q9 := bx3577 e9; have q8 := bx3585 e9; omega
          exact en_v hx hb hr hlocks hL (Nat.zero_le _) (Nat.zero_le _) dX9_factor_178 (⟨hT, hF, _, p3473, er, hbn.1, (by omega), id, hm, _, hP 0 _ rfl, e3584, hbn.2, (EM.lit x3577 x3585 (by decide) v3453)⟩)
      · refine lv_if_eq (tgt := 89) hx hb dX9_factor_82 (by decide) (fun c9 => absurd c9 (by decide)) (fun _ => ?_)
        refine lv_iconst (v := (-1)) hx hb dX9_factor_85 (by decide) ?_
        refine lv_goto (tgt := 142) hx hb dX9_factor_86 (by decide) ?_
        refine lv_istore_n (lv' := [(2, .int (-1)), (1, .int (byF g tl p3459)), (0, .ref w)]) hx hb dX9_factor_142 rfl hl (by decide) rfl (fun ls hl => ?_)
        refine lv_iload_n hx hb dX9_factor_143 rfl (lv_at hl 0 rfl) ?_
        refine lv_if_ge (tgt := 158) hx hb dX9_factor_144 (by decide) (fun c9 => absurd c9 (by decide)) (fun _ => ?_)
        refine lv_aload_n hx hb dX9_factor_147 rfl (lv_at hl 2 rfl) ?_
        refine lv_iconst (v := 0) hx hb dX9_factor_148 (by decide) ?_
        refine lv_sipush (v := 9999) hx hb dX9_factor_149 (by decide) ?_
        refine cv_i (As := [.int 0, .int 9999]) (rest := []) (b := w) ⟨hx, hb, hml, hown, hts⟩ (c_X9_number hT (w := w) hw (x := 0) (y := 9999) hbT hdT hm) (cwV 2 hts gX9_factor_X9_number rfl rfl rfl hdX9_number_v ⟨Nat.le_of_ble_eq_true rfl, Nat.le_of_ble_eq_true rfl⟩) hN hE hL (rcv10 hN hT hw.1) rfl rfl hl.1 (Nat.le_of_ble_eq_true rfl) dX9_factor_152 (Nat.zero_le _) (Nat.zero_le _) (fun r3588 H1 locs hL hqr3588 => ?_)
        obtain ⟨hT1, hF1, hqr3588⟩ := hqr3588
        have hP : va_P D vwCl [(dr, .inl (cs 0, 1383, .inl f3453))] _ := hF1.hP (hP.sub [0] rfl) (fa_c ⟨by rw [hdT.1]; decide, by rw [hdT.2]; first | decide | (simp; done) | (simp; omega)⟩ fa_n)
        have hF := hF.tr (hF1.mono (by simp))
        have hT := hT1
        obtain ⟨p3589, er3590, a3591, z3592, m3593, q3594⟩ := hqr3588
        have hm := m3593
        have hm8 := hm.2.2.2.2.2.2.2
        refine lv_goto (tgt := 159) hx hb dX9_factor_155 (by decide) ?_
        refine lv_istore_n (lv' := [(3, .int r3588), (2, .int (-1)), (1, .int (byF g tl p3459)), (0, .ref w)]) hx hb dX9_factor_159 rfl hl (by decide) rfl (fun ls hl => ?_)
        refine lv_aload_n hx hb dX9_factor_160 rfl (lv_at hl 3 rfl) ?_
        refine lv_iload_n hx hb dX9_factor_161 rfl (lv_at hl 1 rfl) ?_
        refine lv_if_ge (tgt := 169) hx hb dX9_factor_162 (by decide) (fun c9 => absurd c9 (by decide)) (fun _ => ?_)
        refine lv_iconst (v := 0) hx hb dX9_factor_165 (by decide) ?_
        refine lv_goto (tgt := 170) hx hb dX9_factor_166 (by decide) ?_
        refine cv_v (As := [.int 0]) (rest := []) (b := w) ⟨hx, hb, hml, hown, hts⟩ (c_X9_emit hT (w := w) hw (x := 0) hbT hdT hm (hP 0 _ rfl) e3453 (fun e9 => by have q9 := (z3592 e9).2; omega)) (cwV 1 hts gX9_factor_X9_emit rfl rfl rfl hdX9_emit_v ⟨Nat.le_of_ble_eq_true rfl, Nat.le_of_ble_eq_true rfl⟩) hN hE hL (rcv10 hN hT hw.1) rfl rfl hl.1 (Nat.le_of_ble_eq_true rfl) dX9_factor_170 (Nat.zero_le _) (Nat.zero_le _) (fun H1 locs hL hqr3595 => ?_)
        obtain ⟨hT1, hF1, hqr3595⟩ := hqr3595
        have hF := hF.tr (hF1.mono (by simp))
        have hT := hT1
        obtain ⟨f3596, N3597, d3598, e3599, x3600, m3601⟩ := hqr3595
        have hm := m3601
        have hm8 := hm.2.2.2.2.2.2.2
        have nx3600 := x3600.n
        have ox3600 := nx3600.1
        have hbd : B0 ≤ dr := (hT.o26 hdT.1).1
        have hDR := hT.dr hdT d3598
        have hP : va_P D vwCl [(dr, .inl (cs 0, 1383, .inl f3596))] _ := va_P.cons d3598 va_P.nil
        refine lv_aload_n hx hb dX9_factor_173 rfl (lv_at hl 3 rfl) ?_
        refine lv_iload_n hx hb dX9_factor_174 rfl (lv_at hl 0 rfl) ?_
        refine cv_v (As := [.int r3588]) (rest := []) (b := w) ⟨hx, hb, hml, hown, hts⟩ (c_X9_emit hT (w := w) hw (x := r3588) hbT hdT hm (hP 0 _ rfl) e3599 (fun e9 => by have q9 := (z3592 e9).2; omega)) (cwV 1 hts gX9_factor_X9_emit rfl rfl rfl hdX9_emit_v ⟨Nat.le_of_ble_eq_true rfl, Nat.le_of_ble_eq_true rfl⟩) hN hE hL (rcv10 hN hT hw.1) rfl rfl hl.1 (Nat.le_of_ble_eq_true rfl) dX9_factor_175 (Nat.zero_le _) (Nat.zero_le _) (fun H1 locs hL hqr3603 => ?_)
        obtain ⟨hT1, hF1, hqr3603⟩ := hqr3603
        have hF := hF.tr (hF1.mono (by simp))
        have hT := hT1
        obtain ⟨f3604, N3605, d3606, e3607, x3608, m3609⟩ := hqr3603
        have hm := m3609
        have hm8 := hm.2.2.2.2.2.2.2
        have nx3608 := x3608.n
        have ox3608 := nx3608.1
        have hbd : B0 ≤ dr := (hT.o26 hdT.1).1
        have hDR := hT.dr hdT d3606
        have hP : va_P D vwCl [(dr, .inl (cs 0, 1383, .inl f3604))] _ := va_P.cons d3606 va_P.nil
        have bx3600 := nx3600.2.1
        have bx3608 := nx3608.2.1
        have hbn : N3605 + 2 * pos ≤ N + 2 * p3589 ∧ N3605 ≤ 2 * p3589 := by
          by_cases e9 : er3590 = 0
          · have q9 := (z3592 e9).2; omega
          · have q9 := bx3600 e9; have q8 := bx3608 e9; omega
        exact en_v hx hb hr hlocks hL (Nat.zero_le _) (Nat.zero_le _) dX9_factor_178 (⟨hT, hF, _, p3589, er3590, hbn.1, (by omega), (fun e9 => id ((fun e9 => (z3592 e9).1) e9)), hm, _, hP 0 _ rfl, e3607, hbn.2, (EM.lit x3600 x3608 (by decide) (fun e9 => v3453 ((fun e9 => (z3592 e9).1) e9)))⟩)
    · have hl9 := byF_c (c3464) (by decide)
      refine lv_aload_n hx hb dX9_factor_19 rfl (lv_at hl 1 rfl) ?_
      obtain ⟨hb3611, e3611, hat3611, hk3611⟩ := hT.o10 hw.1
      obtain ⟨f3611_0, f3611_1, f3611_3, f3611_4, f3611_5, f3611_6, f3611_7, f3611_9, f3611_10, f3611_11, f3611_12, f3611_13, f3611_14, f3611_15, f3611_16, f3611_17, rfl, c3611_2, c3611_3, c3611_4, c3611_12, t3611_1, t3611_8, t3611_9, c3611_sd, t3611_10, t3611_11, t3611_17⟩ := hk3611
      obtain ⟨rfl, rfl, rfl, rfl, rfl, rfl⟩ := hm.at hat3611 c3611_3 (by omega)
      have hm8 := hm.2.2.2.2.2.2.2
      have hP : va_P D vwCl [(w, .inr (9, [.int f3611_0, .ref bu, .int (nI ((κ w).2.2.1)), .int (nI tl), .int (nI p3459), .int er, .int f3611_6, .int f3611_7, .ref (κ w).2.2.2, .ref f3611_9, .ref dr, .ref f3611_11, .int (nI f3611_12), .int f3611_13, .int 1, .int f3611_15, .int f3611_16, .ref f3611_17])), (dr, .inl (cs 0, 1383, .inl f3453))] _ := va_P.cons hat3611 hP
      refine va_get (D := D) (ci := 9) (v := .int 1) (C := RX9) (T := TX9) (N := 18) hx hb hts iX9_factor_9 hown hN.1 hP 0 rfl rfl 14 (by decide) (hts _ mX9_factor_1) (fun _ h9 => h9) rfl dX9_factor_20 ?_
      refine lv_iconst (v := 4) hx hb dX9_factor_23 (by decide) ?_
      refine lv_icmp_ne (tgt := 37) hx hb dX9_factor_24 (by decide) (fun _ => ?_) (fun c9 => absurd c9 (by decide))
      refine lv_aload_n hx hb dX9_factor_37 rfl (lv_at hl 1 rfl) ?_
      refine lv_dup hx hb dX9_factor_38 rfl ?_
      refine va_get (D := D) (ci := 9) (v := .int (nI p3459)) (C := RX9) (T := TX9) (N := 18) hx hb hts iX9_factor_9 hown hN.1 hP 0 rfl rfl 4 (by decide) (hts _ mX9_factor_2) (fun _ h9 => h9) rfl dX9_factor_39 ?_
      refine lv_iconst (v := 1) hx hb dX9_factor_42 (by decide) ?_
      refine lv_iadd hx hb dX9_factor_43 ?_
      refine tp_i (nI (p3459 + 1)) (nI_add p3459 1) ?_
      have hB : Bx B0 D _ [(w, .inr (9, [.int f3611_0, .ref bu, .int (nI ((κ w).2.2.1)), .int (nI tl), .int (nI p3459), .int er, .int f3611_6, .int f3611_7, .ref (κ w).2.2.2, .ref f3611_9, .ref dr, .ref f3611_11, .int (nI f3611_12), .int f3611_13, .int 1, .int f3611_15, .int f3611_16, .ref f3611_17])), (dr, .inl (cs 0, 1383, .inl f3453))] [] _ _ := Bx.of (fun a => (κ a).1) hL hP (fa_c hb3611 (fa_c hbd fa_n)) (by simp only [List.map_cons, List.map_nil, hw.1, hdT.1]; decide)
      refine b_put (D := D) (ci := 9) (v := .int (nI (p3459 + 1))) (ty := .int) (C := RX9) (T := TX9) (N := 18) hx hb hts iX9_factor_9 tyX9 tyX9_ok nmX9 hown hN hB 0 rfl rfl 4 (by decide) (hts _ mX9_factor_2) (fun _ h9 => h9) rfl (by decide +kernel) rfl rfl (Nat.le_of_ble_eq_true rfl) (.inl rfl) dX9_factor_44 (fun H locs hB => ?_)
      have hB : Bx B0 D _ [(w, .inr (9, [.int f3611_0, .ref bu, .int (nI ((κ w).2.2.1)), .int (nI tl), .int (nI (p3459 + 1)), .int er, .int f3611_6, .int f3611_7, .ref (κ w).2.2.2, .ref f3611_9, .ref dr, .ref f3611_11, .int (nI f3611_12), .int f3611_13, .int 1, .int f3611_15, .int f3611_16, .ref f3611_17])), (dr, .inl (cs 0, 1383, .inl f3453))] [w] _ _ := hB
      refine lv_aload_n hx hb dX9_factor_47 rfl (lv_at hl 1 rfl) ?_
      refine lv_dup hx hb dX9_factor_48 rfl ?_
      refine va_get (D := D) (ci := 9) (v := .int 1) (C := RX9) (T := TX9) (N := 18) hx hb hts iX9_factor_9 hown hN.1 hB.1 0 rfl rfl 14 (by decide) (hts _ mX9_factor_1) (fun _ h9 => h9) rfl dX9_factor_49 ?_
      refine lv_iconst (v := 1) hx hb dX9_factor_52 (by decide) ?_
      refine lv_iadd hx hb dX9_factor_53 ?_
      refine tp_i 2 (by decide) ?_
      refine b_put (D := D) (ci := 9) (v := .int 2) (ty := .int) (C := RX9) (T := TX9) (N := 18) hx hb hts iX9_factor_9 tyX9 tyX9_ok nmX9 hown hN hB 0 rfl rfl 14 (by decide) (hts _ mX9_factor_1) (fun _ h9 => h9) rfl (by decide +kernel) rfl rfl (Nat.le_of_ble_eq_true rfl) (.inr ⟨rfl, List.mem_of_getElem? (i := 0) rfl⟩) dX9_factor_54 (fun H locs hB => ?_)
      have hB : Bx B0 D _ [(w, .inr (9, [.int f3611_0, .ref bu, .int (nI ((κ w).2.2.1)), .int (nI tl), .int (nI (p3459 + 1)), .int er, .int f3611_6, .int f3611_7, .ref (κ w).2.2.2, .ref f3611_9, .ref dr, .ref f3611_11, .int (nI f3611_12), .int f3611_13, .int 2, .int f3611_15, .int f3611_16, .ref f3611_17])), (dr, .inl (cs 0, 1383, .inl f3453))] [w] _ _ := hB
      refine lv_aload_n hx hb dX9_factor_57 rfl (lv_at hl 1 rfl) ?_
      have hT : WT B0 D cs T κ _ := hT.close hB ⟨⟨0, _, rfl, ok_10 hw.1 ⟨_, _, _, _, _, _, _, _, _, _, _, _, _, _, _, _, rfl, (by omega), (by omega), (by omega), (by omega), hbT, t3611_8, t3611_9, c3611_sd, hdT, t3611_11, t3611_17⟩⟩, trivial⟩
      have hF : Fr B0 [12, 17] κ H0 _ := hF.close hB (fa_c (by simp [hw.2]) fa_n)
      have hL : OkL B0 _ := hB.2.2.2.2.2
      have hP : va_P D vwCl [(w, .inr (9, [.int f3611_0, .ref bu, .int (nI ((κ w).2.2.1)), .int (nI tl), .int (nI (p3459 + 1)), .int er, .int f3611_6, .int f3611_7, .ref (κ w).2.2.2, .ref f3611_9, .ref dr, .ref f3611_11, .int (nI f3611_12), .int f3611_13, .int 2, .int f3611_15, .int f3611_16, .ref f3611_17])), (dr, .inl (cs 0, 1383, .inl f3453))] _ := hB.1
      have hbu9 := (hm.2.2.2.2.2.2.1).kept (hB.2.2.2.1 _ hm.2.2.2.2.2.2.1.lt (by simp only [List.mem_cons, List.not_mem_nil, or_false, not_or]; exact ne_c hbT.1 hw.1 (by decide)))
      have hm : MF D cs w _ ((p3459 + 1)) (tl) (er) (2) dr bu g := ⟨⟨_, hP 0 _ rfl, rfl⟩, ⟨_, hP 0 _ rfl, rfl⟩, ⟨_, hP 0 _ rfl, rfl⟩, ⟨_, hP 0 _ rfl, rfl⟩, ⟨_, hP 0 _ rfl, rfl⟩, ⟨_, hP 0 _ rfl, rfl⟩, hbu9, (by omega), (by omega)⟩
      have hps : PS D cs w _ ((p3459 + 1)) (tl) (er) (2) dr bu g (N) (h) := ⟨hm, f3453, hP 1 _ rfl, e3453, by omega, v3453⟩
      refine cv_v (As := []) (rest := []) (b := w) ⟨hx, hb, hml, hown, hts⟩ (c_X9_readSum_d2 hT (w := w) hw hbT hdT hps) (cwV 0 hts gX9_factor_X9_readSum rfl rfl rfl hdX9_readSum_v ⟨Nat.le_of_ble_eq_true rfl, Nat.le_of_ble_eq_true rfl⟩) hN hE hL (rcv10 hN hT hw.1) rfl rfl hl.1 (Nat.le_of_ble_eq_true rfl) dX9_factor_58 (Nat.zero_le _) (Nat.zero_le _) (fun H1 locs hL hqr3612 => ?_)
      obtain ⟨hT1, hF1, hqr3612⟩ := hqr3612
      have hF := hF.tr (hF1.mono (by simp))
      have hT := hT1
      obtain ⟨N3613, p3614, er3615, a3616, b3617, z3618, m3619, f3620, d3621, e3622, n3623, v3624⟩ := hqr3612
      have hm := m3619
      have hm8 := hm.2.2.2.2.2.2.2
      have hbd : B0 ≤ dr := (hT.o26 hdT.1).1
      have hDR := hT.dr hdT d3621
      have hP : va_P D vwCl [(dr, .inl (cs 0, 1383, .inl f3620))] _ := va_P.cons d3621 va_P.nil
      refine lv_aload_n hx hb dX9_factor_61 rfl (lv_at hl 1 rfl) ?_
      refine lv_bipush (v := 41) hx hb dX9_factor_62 (by decide) ?_
      refine cv_v (As := [.int 41]) (rest := []) (b := w) ⟨hx, hb, hml, hown, hts⟩ (c_X9_expect hT (w := w) hw (x := 41) hbT hdT hm ((by decide))) (cwV 1 hts gX9_factor_X9_expect rfl rfl rfl hdX9_expect_v ⟨Nat.le_of_ble_eq_true rfl, Nat.le_of_ble_eq_true rfl⟩) hN hE hL (rcv10 hN hT hw.1) rfl rfl hl.1 (Nat.le_of_ble_eq_true rfl) dX9_factor_64 (Nat.zero_le _) (Nat.zero_le _) (fun H1 locs hL hqr3626 => ?_)
      obtain ⟨hT1, hF1, hqr3626⟩ := hqr3626
      have hP : va_P D vwCl [(dr, .inl (cs 0, 1383, .inl f3620))] _ := hF1.hP (hP.sub [0] rfl) (fa_c ⟨by rw [hdT.1]; decide, by rw [hdT.2]; first | decide | (simp; done) | (simp; omega)⟩ fa_n)
      have hF := hF.tr (hF1.mono (by simp))
      have hT := hT1
      obtain ⟨p3627, er3628, a3629, z3630, m3631⟩ := hqr3626
      have hm := m3631
      have hm8 := hm.2.2.2.2.2.2.2
      refine lv_aload_n hx hb dX9_factor_67 rfl (lv_at hl 1 rfl) ?_
      refine lv_dup hx hb dX9_factor_68 rfl ?_
      obtain ⟨hb3632, e3632, hat3632, hk3632⟩ := hT.o10 hw.1
      obtain ⟨f3632_0, f3632_1, f3632_3, f3632_4, f3632_5, f3632_6, f3632_7, f3632_9, f3632_10, f3632_11, f3632_12, f3632_13, f3632_14, f3632_15, f3632_16, f3632_17, rfl, c3632_2, c3632_3, c3632_4, c3632_12, t3632_1, t3632_8, t3632_9, c3632_sd, t3632_10, t3632_11, t3632_17⟩ := hk3632
      obtain ⟨rfl, rfl, rfl, rfl, rfl, rfl⟩ := hm.at hat3632 c3632_3 (by omega)
      have hm8 := hm.2.2.2.2.2.2.2
      have hP : va_P D vwCl [(w, .inr (9, [.int f3632_0, .ref bu, .int (nI ((κ w).2.2.1)), .int (nI tl), .int (nI p3627), .int er3628, .int f3632_6, .int f3632_7, .ref (κ w).2.2.2, .ref f3632_9, .ref dr, .ref f3632_11, .int (nI f3632_12), .int f3632_13, .int 2, .int f3632_15, .int f3632_16, .ref f3632_17])), (dr, .inl (cs 0, 1383, .inl f3620))] _ := va_P.cons hat3632 hP
      refine va_get (D := D) (ci := 9) (v := .int 2) (C := RX9) (T := TX9) (N := 18) hx hb hts iX9_factor_9 hown hN.1 hP 0 rfl rfl 14 (by decide) (hts _ mX9_factor_1) (fun _ h9 => h9) rfl dX9_factor_69 ?_
      refine lv_iconst (v := 1) hx hb dX9_factor_72 (by decide) ?_
      refine lv_isub hx hb dX9_factor_73 ?_
      refine tp_i 1 (by decide) ?_
      have hB : Bx B0 D _ [(w, .inr (9, [.int f3632_0, .ref bu, .int (nI ((κ w).2.2.1)), .int (nI tl), .int (nI p3627), .int er3628, .int f3632_6, .int f3632_7, .ref (κ w).2.2.2, .ref f3632_9, .ref dr, .ref f3632_11, .int (nI f3632_12), .int f3632_13, .int 2, .int f3632_15, .int f3632_16, .ref f3632_17])), (dr, .inl (cs 0, 1383, .inl f3620))] [] _ _ := Bx.of (fun a => (κ a).1) hL hP (fa_c hb3632 (fa_c hbd fa_n)) (by simp only [List.map_cons, List.map_nil, hw.1, hdT.1]; decide)
      refine b_put (D := D) (ci := 9) (v := .int 1) (ty := .int) (C := RX9) (T := TX9) (N := 18) hx hb hts iX9_factor_9 tyX9 tyX9_ok nmX9 hown hN hB 0 rfl rfl 14 (by decide) (hts _ mX9_factor_1) (fun _ h9 => h9) rfl (by decide +kernel) rfl rfl (Nat.le_of_ble_eq_true rfl) (.inl rfl) dX9_factor_74 (fun H locs hB => ?_)
      have hB : Bx B0 D _ [(w, .inr (9, [.int f3632_0, .ref bu, .int (nI ((κ w).2.2.1)), .int (nI tl), .int (nI p3627), .int er3628, .int f3632_6, .int f3632_7, .ref (κ w).2.2.2, .ref f3632_9, .ref dr, .ref f3632_11, .int (nI f3632_12), .int f3632_13, .int 1, .int f3632_15, .int f3632_16, .ref f3632_17])), (dr, .inl (cs 0, 1383, .inl f3620))] [w] _ _ := hB
      have hT : WT B0 D cs T κ _ := hT.close hB ⟨⟨0, _, rfl, ok_10 hw.1 ⟨_, _, _, _, _, _, _, _, _, _, _, _, _, _, _, _, rfl, (by omega), (by omega), (by omega), (by omega), hbT, t3632_8, t3632_9, c3632_sd, hdT, t3632_11, t3632_17⟩⟩, trivial⟩
      have hF : Fr B0 [12, 17] κ H0 _ := hF.close hB (fa_c (by simp [hw.2]) fa_n)
      have hL : OkL B0 _ := hB.2.2.2.2.2
      have hP : va_P D vwCl [(w, .inr (9, [.int f3632_0, .ref bu, .int (nI ((κ w).2.2.1)), .int (nI tl), .int (nI p3627), .int er3628, .int f3632_6, .int f3632_7, .ref (κ w).2.2.2, .ref f3632_9, .ref dr, .ref f3632_11, .int (nI f3632_12), .int f3632_13, .int 1, .int f3632_15, .int f3632_16, .ref f3632_17])), (dr, .inl (cs 0, 1383, .inl f3620))] _ := hB.1
      have hbu9 := (hm.2.2.2.2.2.2.1).kept (hB.2.2.2.1 _ hm.2.2.2.2.2.2.1.lt (by simp only [List.mem_cons, List.not_mem_nil, or_false, not_or]; exact ne_c hbT.1 hw.1 (by decide)))
      have hm : MF D cs w _ (p3627) (tl) (er3628) (1) dr bu g := ⟨⟨_, hP 0 _ rfl, rfl⟩, ⟨_, hP 0 _ rfl, rfl⟩, ⟨_, hP 0 _ rfl, rfl⟩, ⟨_, hP 0 _ rfl, rfl⟩, ⟨_, hP 0 _ rfl, rfl⟩, ⟨_, hP 0 _ rfl, rfl⟩, hbu9, (by omega), (by omega)⟩
      exact en_v hx hb hr hlocks hL (Nat.zero_le _) (Nat.zero_le _) dX9_factor_77 (⟨hT, hF, N3613, p3627, er3628, (by omega), (by omega), (fun e9 => (fun e9 => id (z3618 e9)) (z3630 e9)), hm, _, hP 1 _ rfl, e3622, (by omega), (fun e9 => v3624 (z3630 e9))⟩)
  · refine lv_if_ne (tgt := 8) hx hb dX9_factor_4 (by decide) (fun c9 => absurd (by decide) c9) (fun _ => ?_)
    exact en_v hx hb hr hlocks hL (Nat.zero_le _) (Nat.zero_le _) dX9_factor_7 (⟨hT, hF, N, pos, er, (by omega), (by omega), id, hm, f3453, hP 0 _ rfl, e3453, (by omega), (fun e9 => absurd e9 e3457)⟩)
set_option maxHeartbeats 4000000 in
set_option maxRecDepth 100000 in
theorem c_X9_term_d1 {l : Launch} {D : va_G} {cs : Nat → ClassId} {B0 T : Nat} {κ : KM} {H0 : Heap} (hT : WT B0 D cs T κ H0) {w : Nat} (hw : T2 κ w 10 12) {pos tl : Nat} {er : Int32} {dr bu : Nat} {g : Nat → Int32} {N h : Nat} (hbT : T2 κ bu 23 14) (hdT : T2 κ dr 26 17) (hps : PS D cs w H0 pos tl er 1 dr bu g N h) : KC l yX9_term wsX9_term 15 325 0 0 D cs B0 H0 [.ref w] (Qv (fun H => WT B0 D cs T κ H ∧ Fr B0 [12, 17] κ H0 H ∧ ∃ N1 pos1 er1, N1 + 2 * pos ≤ N + 2 * pos1 ∧ pos ≤ pos1 ∧ (er1 = 0 → er = 0) ∧ PS D cs w H pos1 tl er1 1 dr bu g N1 (h + 1))) := by
  refine KC.of cX9_term 2 none (by decide) rfl (Nat.le_of_ble_eq_true rfl) ?_
  intro p e s m below meth c ls hx hb hr hml hown hts hlocks hin hN hE hH0 hl
  have hown : s.vm.findClass RX9 = some m.cls := hown
  have hl : lv_has ls 2 [(0, .ref w)] := hl
  have hL : OkL B0 [] := OkL.nil
  have hF : Fr B0 [12, 17] κ H0 H0 := Fr.rf
  obtain ⟨hm, f3633, hd3633, e3633, n3633, v3633⟩ := hps
  have hm8 := hm.2.2.2.2.2.2.2
  have hbd : B0 ≤ dr := (hT.o26 hdT.1).1
  have hDR := hT.dr hdT hd3633
  have hP : va_P D vwCl [(dr, .inl (cs 0, 1383, .inl f3633))] _ := va_P.cons hd3633 va_P.nil
  refine lv_aload_n hx hb dX9_term_0 rfl (lv_at hl 0 rfl) ?_
  have hps : PS D cs w _ (pos) (tl) (er) (1) dr bu g (N) (h) := ⟨hm, f3633, hP 0 _ rfl, e3633, by omega, v3633⟩
  refine cv_v (As := []) (rest := []) (b := w) ⟨hx, hb, hml, hown, hts⟩ (c_X9_factor_d1 hT (w := w) hw hbT hdT hps) (cwV 0 hts gX9_term_X9_factor rfl rfl rfl hdX9_factor_v ⟨Nat.le_of_ble_eq_true rfl, Nat.le_of_ble_eq_true rfl⟩) hN hE hL (rcv10 hN hT hw.1) rfl rfl hl.1 (Nat.le_of_ble_eq_true rfl) dX9_term_1 (Nat.zero_le _) (Nat.zero_le _) (fun H1 locs hL hqr3635 => ?_)
  obtain ⟨hT1, hF1, hqr3635⟩ := hqr3635
  have hF := hF.tr (hF1.mono (by simp))
  have hT := hT1
  obtain ⟨N3636, p3637, er3638, a3639, b3640, z3641, m3642, f3643, d3644, e3645, n3646, v3647⟩ := hqr3635
  have hm := m3642
  have hm8 := hm.2.2.2.2.2.2.2
  have hbd : B0 ≤ dr := (hT.o26 hdT.1).1
  have hDR := hT.dr hdT d3644
  have hP : va_P D vwCl [(dr, .inl (cs 0, 1383, .inl f3643))] _ := va_P.cons d3644 va_P.nil
  have hps : PS D cs w _ (p3637) (tl) (er3638) (1) dr bu g (N3636) ((h + 1)) := ⟨hm, f3643, hP 0 _ rfl, e3645, by omega, v3647⟩
  refine lp_m (α := Nat × Nat × Int32) (nL := 2) (fun a9 => 600 - a9.1) (fun a9 H9 l9 => (PS D cs w H9 a9.1 tl a9.2.2 1 dr bu g a9.2.1 (h + 1)) ∧ (a9.2.1 + 2 * pos ≤ N + 2 * a9.1) ∧ (pos ≤ a9.1) ∧ (a9.2.2 = 0 → er = 0) ∧ (WT B0 D cs T κ H9) ∧ (Fr B0 [12, 17] κ H0 H9) ∧ (OkL B0 l9)) (fun a9 => [(0, .ref w)]) ?_ (p3637, N3636, er3638) _ _ _ ⟨hps, (by show (N3636) + 2 * pos ≤ N + 2 * (p3637); omega), (by show pos ≤ (p3637); omega), (fun e9 => id (z3641 e9)), hT, hF, hL⟩ (lv_sub hl [0] rfl)
  rintro ⟨p, N1, er1⟩ H locs ls ih3649 ⟨hps, hb1, hb2, hz1, hT, hF, hL⟩ hl
  have hl : lv_has ls 2 [(0, .ref w)] := hl
  have hps : PS D cs w H p tl er1 1 dr bu g N1 (h + 1) := hps
  have hb1 : N1 + 2 * pos ≤ N + 2 * p := hb1
  have hb2 : pos ≤ p := hb2
  have hz1 : er1 = 0 → er = 0 := hz1
  obtain ⟨hm, f3650, hd3650, e3650, n3650, v3650⟩ := hps
  have hm8 := hm.2.2.2.2.2.2.2
  have hbd : B0 ≤ dr := (hT.o26 hdT.1).1
  have hDR := hT.dr hdT hd3650
  have hP : va_P D vwCl [(dr, .inl (cs 0, 1383, .inl f3650))] _ := va_P.cons hd3650 va_P.nil
  refine lv_aload_n hx hb dX9_term_4 rfl (lv_at hl 0 rfl) ?_
  refine cv_i (As := []) (rest := []) (b := w) ⟨hx, hb, hml, hown, hts⟩ (c_X9_isGood hT (w := w) hw hbT hdT hm) (cwV 0 hts gX9_term_X9_isGood rfl rfl rfl hdX9_isGood_v ⟨Nat.le_of_ble_eq_true rfl, Nat.le_of_ble_eq_true rfl⟩) hN hE hL (rcv10 hN hT hw.1) rfl rfl hl.1 (Nat.le_of_ble_eq_true rfl) dX9_term_5 (Nat.zero_le _) (Nat.zero_le _) (fun r3652 H1 locs hL hqr3652 => ?_)
  obtain ⟨h9, hqr3652⟩ := hqr3652; replace h9 := h9.symm; subst h9
  rcases hqr3652 with ⟨rfl, e3653⟩ | ⟨rfl, e3654⟩
  · refine lv_if_eq (tgt := 74) hx hb dX9_term_8 (by decide) (fun c9 => absurd c9 (by decide)) (fun _ => ?_)
    refine lv_aload_n hx hb dX9_term_11 rfl (lv_at hl 0 rfl) ?_
    refine cv_i (As := []) (rest := []) (b := w) ⟨hx, hb, hml, hown, hts⟩ (c_X9_ahead hT (w := w) hw hbT hdT hm) (cwV 0 hts gX9_term_X9_ahead rfl rfl rfl hdX9_ahead_v ⟨Nat.le_of_ble_eq_true rfl, Nat.le_of_ble_eq_true rfl⟩) hN hE hL (rcv10 hN hT hw.1) rfl rfl hl.1 (Nat.le_of_ble_eq_true rfl) dX9_term_12 (Nat.zero_le _) (Nat.zero_le _) (fun r3655 H1 locs hL hqr3655 => ?_)
    obtain ⟨hT1, hF1, hqr3655⟩ := hqr3655
    have hP : va_P D vwCl [(dr, .inl (cs 0, 1383, .inl f3650))] _ := hF1.hP (hP.sub [0] rfl) (fa_c ⟨by rw [hdT.1]; decide, by rw [hdT.2]; first | decide | (simp; done) | (simp; omega)⟩ fa_n)
    have hF := hF.tr (hF1.mono (by simp))
    have hT := hT1
    obtain ⟨p3656, h3657, m3658, n3659, s3660, rfl⟩ := hqr3655
    have hm := m3658
    have hm8 := hm.2.2.2.2.2.2.2
    refine lv_bipush (v := 42) hx hb dX9_term_15 (by decide) ?_
    refine lv_icmp_eq (tgt := 29) hx hb dX9_term_17 (by decide) (fun c3661 => ?_) (fun c3661 => ?_)
    · have hl9 := byF_c (c3661) (by decide)
      refine lv_aload_n hx hb dX9_term_29 rfl (lv_at hl 0 rfl) ?_
      refine cv_i (As := []) (rest := []) (b := w) ⟨hx, hb, hml, hown, hts⟩ (c_X9_ahead hT (w := w) hw hbT hdT hm) (cwV 0 hts gX9_term_X9_ahead rfl rfl rfl hdX9_ahead_v ⟨Nat.le_of_ble_eq_true rfl, Nat.le_of_ble_eq_true rfl⟩) hN hE hL (rcv10 hN hT hw.1) rfl rfl hl.1 (Nat.le_of_ble_eq_true rfl) dX9_term_30 (Nat.zero_le _) (Nat.zero_le _) (fun r3662 H1 locs hL hqr3662 => ?_)
      obtain ⟨hT1, hF1, hqr3662⟩ := hqr3662
      have hP : va_P D vwCl [(dr, .inl (cs 0, 1383, .inl f3650))] _ := hF1.hP (hP.sub [0] rfl) (fa_c ⟨by rw [hdT.1]; decide, by rw [hdT.2]; first | decide | (simp; done) | (simp; omega)⟩ fa_n)
      have hF := hF.tr (hF1.mono (by simp))
      have hT := hT1
      obtain ⟨p3663, h3664, m3665, n3666, s3667, rfl⟩ := hqr3662
      have hm := m3665
      have hpe := s3667 n3659
      rw [hpe] at hm
      refine tp_i (byF g tl p3656) (by rw [hpe]) ?_
      have hm8 := hm.2.2.2.2.2.2.2
      refine lv_bipush (v := 42) hx hb dX9_term_33 (by decide) ?_
      refine lv_icmp_ne (tgt := 42) hx hb dX9_term_35 (by decide) (fun c3668 => ?_) (fun c3668 => ?_)
      · refine lv_iconst (v := 0) hx hb dX9_term_42 (by decide) ?_
        refine lv_istore_n (lv' := [(1, .int 0), (0, .ref w)]) hx hb dX9_term_43 rfl hl (by decide) rfl (fun ls hl => ?_)
        refine lv_aload_n hx hb dX9_term_44 rfl (lv_at hl 1 rfl) ?_
        refine lv_dup hx hb dX9_term_45 rfl ?_
        obtain ⟨hb3669, e3669, hat3669, hk3669⟩ := hT.o10 hw.1
        obtain ⟨f3669_0, f3669_1, f3669_3, f3669_4, f3669_5, f3669_6, f3669_7, f3669_9, f3669_10, f3669_11, f3669_12, f3669_13, f3669_14, f3669_15, f3669_16, f3669_17, rfl, c3669_2, c3669_3, c3669_4, c3669_12, t3669_1, t3669_8, t3669_9, c3669_sd, t3669_10, t3669_11, t3669_17⟩ := hk3669
        obtain ⟨rfl, rfl, rfl, rfl, rfl, rfl⟩ := hm.at hat3669 c3669_3 (by omega)
        have hm8 := hm.2.2.2.2.2.2.2
        have hP : va_P D vwCl [(w, .inr (9, [.int f3669_0, .ref bu, .int (nI ((κ w).2.2.1)), .int (nI tl), .int (nI p3656), .int er1, .int f3669_6, .int f3669_7, .ref (κ w).2.2.2, .ref f3669_9, .ref dr, .ref f3669_11, .int (nI f3669_12), .int f3669_13, .int 1, .int f3669_15, .int f3669_16, .ref f3669_17])), (dr, .inl (cs 0, 1383, .inl f3650))] _ := va_P.cons hat3669 hP
        refine va_get (D := D) (ci := 9) (v := .int (nI p3656)) (C := RX9) (T := TX9) (N := 18) hx hb hts iX9_term_9 hown hN.1 hP 0 rfl rfl 4 (by decide) (hts _ mX9_term_1) (fun _ h9 => h9) rfl dX9_term_46 ?_
        refine lv_iconst (v := 1) hx hb dX9_term_49 (by decide) ?_
        refine lv_iadd hx hb dX9_term_50 ?_
        refine tp_i (nI (p3656 + 1)) (nI_add p3656 1) ?_
        have hB : Bx B0 D _ [(w, .inr (9, [.int f3669_0, .ref bu, .int (nI ((κ w).2.2.1)), .int (nI tl), .int (nI p3656), .int er1, .int f3669_6, .int f3669_7, .ref (κ w).2.2.2, .ref f3669_9, .ref dr, .ref f3669_11, .int (nI f3669_12), .int f3669_13, .int 1, .int f3669_15, .int f3669_16, .ref f3669_17])), (dr, .inl (cs 0, 1383, .inl f3650))] [] _ _ := Bx.of (fun a => (κ a).1) hL hP (fa_c hb3669 (fa_c hbd fa_n)) (by simp only [List.map_cons, List.map_nil, hw.1, hdT.1]; decide)
        refine b_put (D := D) (ci := 9) (v := .int (nI (p3656 + 1))) (ty := .int) (C := RX9) (T := TX9) (N := 18) hx hb hts iX9_term_9 tyX9 tyX9_ok nmX9 hown hN hB 0 rfl rfl 4 (by decide) (hts _ mX9_term_1) (fun _ h9 => h9) rfl (by decide +kernel) rfl rfl (Nat.le_of_ble_eq_true rfl) (.inl rfl) dX9_term_51 (fun H locs hB => ?_)
        have hB : Bx B0 D _ [(w, .inr (9, [.int f3669_0, .ref bu, .int (nI ((κ w).2.2.1)), .int (nI tl), .int (nI (p3656 + 1)), .int er1, .int f3669_6, .int f3669_7, .ref (κ w).2.2.2, .ref f3669_9, .ref dr, .ref f3669_11, .int (nI f3669_12), .int f3669_13, .int 1, .int f3669_15, .int f3669_16, .ref f3669_17])), (dr, .inl (cs 0, 1383, .inl f3650))] [w] _ _ := hB
        refine lv_aload_n hx hb dX9_term_54 rfl (lv_at hl 1 rfl) ?_
        have hT : WT B0 D cs T κ _ := hT.close hB ⟨⟨0, _, rfl, ok_10 hw.1 ⟨_, _, _, _, _, _, _, _, _, _, _, _, _, _, _, _, rfl, (by omega), (by omega), (by omega), (by omega), hbT, t3669_8, t3669_9, c3669_sd, hdT, t3669_11, t3669_17⟩⟩, trivial⟩
        have hF : Fr B0 [12, 17] κ H0 _ := hF.close hB (fa_c (by simp [hw.2]) fa_n)
        have hL : OkL B0 _ := hB.2.2.2.2.2
        have hP : va_P D vwCl [(w, .inr (9, [.int f3669_0, .ref bu, .int (nI ((κ w).2.2.1)), .int (nI tl), .int (nI (p3656 + 1)), .int er1, .int f3669_6, .int f3669_7, .ref (κ w).2.2.2, .ref f3669_9, .ref dr, .ref f3669_11, .int (nI f3669_12), .int f3669_13, .int 1, .int f3669_15, .int f3669_16, .ref f3669_17])), (dr, .inl (cs 0, 1383, .inl f3650))] _ := hB.1
        have hbu9 := (hm.2.2.2.2.2.2.1).kept (hB.2.2.2.1 _ hm.2.2.2.2.2.2.1.lt (by simp only [List.mem_cons, List.not_mem_nil, or_false, not_or]; exact ne_c hbT.1 hw.1 (by decide)))
        have hm : MF D cs w _ ((p3656 + 1)) (tl) (er1) (1) dr bu g := ⟨⟨_, hP 0 _ rfl, rfl⟩, ⟨_, hP 0 _ rfl, rfl⟩, ⟨_, hP 0 _ rfl, rfl⟩, ⟨_, hP 0 _ rfl, rfl⟩, ⟨_, hP 0 _ rfl, rfl⟩, ⟨_, hP 0 _ rfl, rfl⟩, hbu9, (by omega), (by omega)⟩
        have hps : PS D cs w _ ((p3656 + 1)) (tl) (er1) (1) dr bu g (N1) ((h + 1)) := ⟨hm, f3650, hP 1 _ rfl, e3650, by omega, v3650⟩
        refine cv_v (As := []) (rest := []) (b := w) ⟨hx, hb, hml, hown, hts⟩ (c_X9_factor_d1 hT (w := w) hw hbT hdT hps) (cwV 0 hts gX9_term_X9_factor rfl rfl rfl hdX9_factor_v ⟨Nat.le_of_ble_eq_true rfl, Nat.le_of_ble_eq_true rfl⟩) hN hE hL (rcv10 hN hT hw.1) rfl rfl hl.1 (Nat.le_of_ble_eq_true rfl) dX9_term_55 (Nat.zero_le _) (Nat.zero_le _) (fun H1 locs hL hqr3670 => ?_)
        obtain ⟨hT1, hF1, hqr3670⟩ := hqr3670
        have hF := hF.tr (hF1.mono (by simp))
        have hT := hT1
        obtain ⟨N3671, p3672, er3673, a3674, b3675, z3676, m3677, f3678, d3679, e3680, n3681, v3682⟩ := hqr3670
        have hm := m3677
        have hm8 := hm.2.2.2.2.2.2.2
        have hbd : B0 ≤ dr := (hT.o26 hdT.1).1
        have hDR := hT.dr hdT d3679
        have hP : va_P D vwCl [(dr, .inl (cs 0, 1383, .inl f3678))] _ := va_P.cons d3679 va_P.nil
        refine lv_aload_n hx hb dX9_term_58 rfl (lv_at hl 1 rfl) ?_
        refine lv_iload_n hx hb dX9_term_59 rfl (lv_at hl 0 rfl) ?_
        refine lv_if_eq (tgt := 67) hx hb dX9_term_60 (by decide) (fun _ => ?_) (fun c9 => absurd (by decide) c9)
        refine lv_iconst (v := 5) hx hb dX9_term_67 (by decide) ?_
        refine cv_v (As := [.int 5]) (rest := []) (b := w) ⟨hx, hb, hml, hown, hts⟩ (c_X9_emit hT (w := w) hw (x := 5) hbT hdT hm (hP 0 _ rfl) e3680 (fun _ => by omega)) (cwV 1 hts gX9_term_X9_emit rfl rfl rfl hdX9_emit_v ⟨Nat.le_of_ble_eq_true rfl, Nat.le_of_ble_eq_true rfl⟩) hN hE hL (rcv10 hN hT hw.1) rfl rfl hl.1 (Nat.le_of_ble_eq_true rfl) dX9_term_68 (Nat.zero_le _) (Nat.zero_le _) (fun H1 locs hL hqr3684 => ?_)
        obtain ⟨hT1, hF1, hqr3684⟩ := hqr3684
        have hF := hF.tr (hF1.mono (by simp))
        have hT := hT1
        obtain ⟨f3685, N3686, d3687, e3688, x3689, m3690⟩ := hqr3684
        have hm := m3690
        have hm8 := hm.2.2.2.2.2.2.2
        have nx3689 := x3689.n
        have ox3689 := nx3689.1
        have hbd : B0 ≤ dr := (hT.o26 hdT.1).1
        have hDR := hT.dr hdT d3687
        have hP : va_P D vwCl [(dr, .inl (cs 0, 1383, .inl f3685))] _ := va_P.cons d3687 va_P.nil
        refine lv_goto (tgt := 4) hx hb dX9_term_71 (by decide) ?_
        have hps : PS D cs w _ (p3672) (tl) (er3673) (1) dr bu g (N3686) ((h + 1)) := ⟨hm, f3685, hP 0 _ rfl, e3688, by omega, (EM.op x3689 (by decide) v3682)⟩
        exact ih3649 (p3672, N3686, er3673) _ _ _ (by show 600 - (p3672) < 600 - p; omega) ⟨hps, (by show (N3686) + 2 * pos ≤ N + 2 * (p3672); omega), (by show pos ≤ (p3672); omega), (fun e9 => hz1 (z3676 e9)), hT, hF, hL⟩ (lv_sub hl [1] rfl)
      · refine lv_iconst (v := 1) hx hb dX9_term_38 (by decide) ?_
        refine lv_goto (tgt := 43) hx hb dX9_term_39 (by decide) ?_
        refine lv_istore_n (lv' := [(1, .int 1), (0, .ref w)]) hx hb dX9_term_43 rfl hl (by decide) rfl (fun ls hl => ?_)
        refine lv_aload_n hx hb dX9_term_44 rfl (lv_at hl 1 rfl) ?_
        refine lv_dup hx hb dX9_term_45 rfl ?_
        obtain ⟨hb3692, e3692, hat3692, hk3692⟩ := hT.o10 hw.1
        obtain ⟨f3692_0, f3692_1, f3692_3, f3692_4, f3692_5, f3692_6, f3692_7, f3692_9, f3692_10, f3692_11, f3692_12, f3692_13, f3692_14, f3692_15, f3692_16, f3692_17, rfl, c3692_2, c3692_3, c3692_4, c3692_12, t3692_1, t3692_8, t3692_9, c3692_sd, t3692_10, t3692_11, t3692_17⟩ := hk3692
        obtain ⟨rfl, rfl, rfl, rfl, rfl, rfl⟩ := hm.at hat3692 c3692_3 (by omega)
        have hm8 := hm.2.2.2.2.2.2.2
        have hP : va_P D vwCl [(w, .inr (9, [.int f3692_0, .ref bu, .int (nI ((κ w).2.2.1)), .int (nI tl), .int (nI p3656), .int er1, .int f3692_6, .int f3692_7, .ref (κ w).2.2.2, .ref f3692_9, .ref dr, .ref f3692_11, .int (nI f3692_12), .int f3692_13, .int 1, .int f3692_15, .int f3692_16, .ref f3692_17])), (dr, .inl (cs 0, 1383, .inl f3650))] _ := va_P.cons hat3692 hP
        refine va_get (D := D) (ci := 9) (v := .int (nI p3656)) (C := RX9) (T := TX9) (N := 18) hx hb hts iX9_term_9 hown hN.1 hP 0 rfl rfl 4 (by decide) (hts _ mX9_term_1) (fun _ h9 => h9) rfl dX9_term_46 ?_
        refine lv_iconst (v := 1) hx hb dX9_term_49 (by decide) ?_
        refine lv_iadd hx hb dX9_term_50 ?_
        refine tp_i (nI (p3656 + 1)) (nI_add p3656 1) ?_
        have hB : Bx B0 D _ [(w, .inr (9, [.int f3692_0, .ref bu, .int (nI ((κ w).2.2.1)), .int (nI tl), .int (nI p3656), .int er1, .int f3692_6, .int f3692_7, .ref (κ w).2.2.2, .ref f3692_9, .ref dr, .ref f3692_11, .int (nI f3692_12), .int f3692_13, .int 1, .int f3692_15, .int f3692_16, .ref f3692_17])), (dr, .inl (cs 0, 1383, .inl f3650))] [] _ _ := Bx.of (fun a => (κ a).1) hL hP (fa_c hb3692 (fa_c hbd fa_n)) (by simp only [List.map_cons, List.map_nil, hw.1, hdT.1]; decide)
        refine b_put (D := D) (ci := 9) (v := .int (nI (p3656 + 1))) (ty := .int) (C := RX9) (T := TX9) (N := 18) hx hb hts iX9_term_9 tyX9 tyX9_ok nmX9 hown hN hB 0 rfl rfl 4 (by decide) (hts _ mX9_term_1) (fun _ h9 => h9) rfl (by decide +kernel) rfl rfl (Nat.le_of_ble_eq_true rfl) (.inl rfl) dX9_term_51 (fun H locs hB => ?_)
        have hB : Bx B0 D _ [(w, .inr (9, [.int f3692_0, .ref bu, .int (nI ((κ w).2.2.1)), .int (nI tl), .int (nI (p3656 + 1)), .int er1, .int f3692_6, .int f3692_7, .ref (κ w).2.2.2, .ref f3692_9, .ref dr, .ref f3692_11, .int (nI f3692_12), .int f3692_13, .int 1, .int f3692_15, .int f3692_16, .ref f3692_17])), (dr, .inl (cs 0, 1383, .inl f3650))] [w] _ _ := hB
        refine lv_aload_n hx hb dX9_term_54 rfl (lv_at hl 1 rfl) ?_
        have hT : WT B0 D cs T κ _ := hT.close hB ⟨⟨0, _, rfl, ok_10 hw.1 ⟨_, _, _, _, _, _, _, _, _, _, _, _, _, _, _, _, rfl, (by omega), (by omega), (by omega), (by omega), hbT, t3692_8, t3692_9, c3692_sd, hdT, t3692_11, t3692_17⟩⟩, trivial⟩
        have hF : Fr B0 [12, 17] κ H0 _ := hF.close hB (fa_c (by simp [hw.2]) fa_n)
        have hL : OkL B0 _ := hB.2.2.2.2.2
        have hP : va_P D vwCl [(w, .inr (9, [.int f3692_0, .ref bu, .int (nI ((κ w).2.2.1)), .int (nI tl), .int (nI (p3656 + 1)), .int er1, .int f3692_6, .int f3692_7, .ref (κ w).2.2.2, .ref f3692_9, .ref dr, .ref f3692_11, .int (nI f3692_12), .int f3692_13, .int 1, .int f3692_15, .int f3692_16, .ref f3692_17])), (dr, .inl (cs 0, 1383, .inl f3650))] _ := hB.1
        have hbu9 := (hm.2.2.2.2.2.2.1).kept (hB.2.2.2.1 _ hm.2.2.2.2.2.2.1.lt (by simp only [List.mem_cons, List.not_mem_nil, or_false, not_or]; exact ne_c hbT.1 hw.1 (by decide)))
        have hm : MF D cs w _ ((p3656 + 1)) (tl) (er1) (1) dr bu g := ⟨⟨_, hP 0 _ rfl, rfl⟩, ⟨_, hP 0 _ rfl, rfl⟩, ⟨_, hP 0 _ rfl, rfl⟩, ⟨_, hP 0 _ rfl, rfl⟩, ⟨_, hP 0 _ rfl, rfl⟩, ⟨_, hP 0 _ rfl, rfl⟩, hbu9, (by omega), (by omega)⟩
        have hps : PS D cs w _ ((p3656 + 1)) (tl) (er1) (1) dr bu g (N1) ((h + 1)) := ⟨hm, f3650, hP 1 _ rfl, e3650, by omega, v3650⟩
        refine cv_v (As := []) (rest := []) (b := w) ⟨hx, hb, hml, hown, hts⟩ (c_X9_factor_d1 hT (w := w) hw hbT hdT hps) (cwV 0 hts gX9_term_X9_factor rfl rfl rfl hdX9_factor_v ⟨Nat.le_of_ble_eq_true rfl, Nat.le_of_ble_eq_true rfl⟩) hN hE hL (rcv10 hN hT hw.1) rfl rfl hl.1 (Nat.le_of_ble_eq_true rfl) dX9_term_55 (Nat.zero_le _) (Nat.zero_le _) (fun H1 locs hL hqr3693 => ?_)
        obtain ⟨hT1, hF1, hqr3693⟩ := hqr3693
        have hF := hF.tr (hF1.mono (by simp))
        have hT := hT1
        obtain ⟨N3694, p3695, er3696, a3697, b3698, z3699, m3700, f3701, d3702, e3703, n3704, v3705⟩ := hqr3693
        have hm := m3700
        have hm8 := hm.2.2.2.2.2.2.2
        have hbd : B0 ≤ dr := (hT.o26 hdT.1).1
        have hDR := hT.dr hdT d3702
        have hP : va_P D vwCl [(dr, .inl (cs 0, 1383, .inl f3701))] _ := va_P.cons d3702 va_P.nil
        refine lv_aload_n hx hb dX9_term_58 rfl (lv_at hl 1 rfl) ?_
        refine lv_iload_n hx hb dX9_term_59 rfl (lv_at hl 0 rfl) ?_
        refine lv_if_eq (tgt := 67) hx hb dX9_term_60 (by decide) (fun c9 => absurd c9 (by decide)) (fun _ => ?_)
        refine lv_iconst (v := 4) hx hb dX9_term_63 (by decide) ?_
        refine lv_goto (tgt := 68) hx hb dX9_term_64 (by decide) ?_
        refine cv_v (As := [.int 4]) (rest := []) (b := w) ⟨hx, hb, hml, hown, hts⟩ (c_X9_emit hT (w := w) hw (x := 4) hbT hdT hm (hP 0 _ rfl) e3703 (fun _ => by omega)) (cwV 1 hts gX9_term_X9_emit rfl rfl rfl hdX9_emit_v ⟨Nat.le_of_ble_eq_true rfl, Nat.le_of_ble_eq_true rfl⟩) hN hE hL (rcv10 hN hT hw.1) rfl rfl hl.1 (Nat.le_of_ble_eq_true rfl) dX9_term_68 (Nat.zero_le _) (Nat.zero_le _) (fun H1 locs hL hqr3707 => ?_)
        obtain ⟨hT1, hF1, hqr3707⟩ := hqr3707
        have hF := hF.tr (hF1.mono (by simp))
        have hT := hT1
        obtain ⟨f3708, N3709, d3710, e3711, x3712, m3713⟩ := hqr3707
        have hm := m3713
        have hm8 := hm.2.2.2.2.2.2.2
        have nx3712 := x3712.n
        have ox3712 := nx3712.1
        have hbd : B0 ≤ dr := (hT.o26 hdT.1).1
        have hDR := hT.dr hdT d3710
        have hP : va_P D vwCl [(dr, .inl (cs 0, 1383, .inl f3708))] _ := va_P.cons d3710 va_P.nil
        refine lv_goto (tgt := 4) hx hb dX9_term_71 (by decide) ?_
        have hps : PS D cs w _ (p3695) (tl) (er3696) (1) dr bu g (N3709) ((h + 1)) := ⟨hm, f3708, hP 0 _ rfl, e3711, by omega, (EM.op x3712 (by decide) v3705)⟩
        exact ih3649 (p3695, N3709, er3696) _ _ _ (by show 600 - (p3695) < 600 - p; omega) ⟨hps, (by show (N3709) + 2 * pos ≤ N + 2 * (p3695); omega), (by show pos ≤ (p3695); omega), (fun e9 => hz1 (z3699 e9)), hT, hF, hL⟩ (lv_sub hl [1] rfl)
    · refine lv_aload_n hx hb dX9_term_20 rfl (lv_at hl 0 rfl) ?_
      refine cv_i (As := []) (rest := []) (b := w) ⟨hx, hb, hml, hown, hts⟩ (c_X9_ahead hT (w := w) hw hbT hdT hm) (cwV 0 hts gX9_term_X9_ahead rfl rfl rfl hdX9_ahead_v ⟨Nat.le_of_ble_eq_true rfl, Nat.le_of_ble_eq_true rfl⟩) hN hE hL (rcv10 hN hT hw.1) rfl rfl hl.1 (Nat.le_of_ble_eq_true rfl) dX9_term_21 (Nat.zero_le _) (Nat.zero_le _) (fun r3715 H1 locs hL hqr3715 => ?_)
      obtain ⟨hT1, hF1, hqr3715⟩ := hqr3715
      have hP : va_P D vwCl [(dr, .inl (cs 0, 1383, .inl f3650))] _ := hF1.hP (hP.sub [0] rfl) (fa_c ⟨by rw [hdT.1]; decide, by rw [hdT.2]; first | decide | (simp; done) | (simp; omega)⟩ fa_n)
      have hF := hF.tr (hF1.mono (by simp))
      have hT := hT1
      obtain ⟨p3716, h3717, m3718, n3719, s3720, rfl⟩ := hqr3715
      have hm := m3718
      have hpe := s3720 n3659
      rw [hpe] at hm
      refine tp_i (byF g tl p3656) (by rw [hpe]) ?_
      have hm8 := hm.2.2.2.2.2.2.2
      refine lv_bipush (v := 47) hx hb dX9_term_24 (by decide) ?_
      refine lv_icmp_ne (tgt := 74) hx hb dX9_term_26 (by decide) (fun c3721 => ?_) (fun c3721 => ?_)
      · have hps : PS D cs w _ (p3656) (tl) (er1) (1) dr bu g (N1) ((h + 1)) := ⟨hm, f3650, hP 0 _ rfl, e3650, by omega, v3650⟩
        exact en_v hx hb hr hlocks hL (Nat.zero_le _) (Nat.zero_le _) dX9_term_74 (⟨hT, hF, N1, p3656, er1, (by omega), (by omega), hz1, hps⟩)
      · have hl9 := byF_c (c3721) (by decide)
        refine lv_aload_n hx hb dX9_term_29 rfl (lv_at hl 0 rfl) ?_
        refine cv_i (As := []) (rest := []) (b := w) ⟨hx, hb, hml, hown, hts⟩ (c_X9_ahead hT (w := w) hw hbT hdT hm) (cwV 0 hts gX9_term_X9_ahead rfl rfl rfl hdX9_ahead_v ⟨Nat.le_of_ble_eq_true rfl, Nat.le_of_ble_eq_true rfl⟩) hN hE hL (rcv10 hN hT hw.1) rfl rfl hl.1 (Nat.le_of_ble_eq_true rfl) dX9_term_30 (Nat.zero_le _) (Nat.zero_le _) (fun r3722 H1 locs hL hqr3722 => ?_)
        obtain ⟨hT1, hF1, hqr3722⟩ := hqr3722
        have hP : va_P D vwCl [(dr, .inl (cs 0, 1383, .inl f3650))] _ := hF1.hP (hP.sub [0] rfl) (fa_c ⟨by rw [hdT.1]; decide, by rw [hdT.2]; first | decide | (simp; done) | (simp; omega)⟩ fa_n)
        have hF := hF.tr (hF1.mono (by simp))
        have hT := hT1
        obtain ⟨p3723, h3724, m3725, n3726, s3727, rfl⟩ := hqr3722
        have hm := m3725
        have hpe := s3727 n3659
        rw [hpe] at hm
        refine tp_i (byF g tl p3656) (by rw [hpe]) ?_
        have hm8 := hm.2.2.2.2.2.2.2
        refine lv_bipush (v := 42) hx hb dX9_term_33 (by decide) ?_
        refine lv_icmp_ne (tgt := 42) hx hb dX9_term_35 (by decide) (fun c3728 => ?_) (fun c3728 => ?_)
        · refine lv_iconst (v := 0) hx hb dX9_term_42 (by decide) ?_
          refine lv_istore_n (lv' := [(1, .int 0), (0, .ref w)]) hx hb dX9_term_43 rfl hl (by decide) rfl (fun ls hl => ?_)
          refine lv_aload_n hx hb dX9_term_44 rfl (lv_at hl 1 rfl) ?_
          refine lv_dup hx hb dX9_term_45 rfl ?_
          obtain ⟨hb3729, e3729, hat3729, hk3729⟩ := hT.o10 hw.1
          obtain ⟨f3729_0, f3729_1, f3729_3, f3729_4, f3729_5, f3729_6, f3729_7, f3729_9, f3729_10, f3729_11, f3729_12, f3729_13, f3729_14, f3729_15, f3729_16, f3729_17, rfl, c3729_2, c3729_3, c3729_4, c3729_12, t3729_1, t3729_8, t3729_9, c3729_sd, t3729_10, t3729_11, t3729_17⟩ := hk3729
          obtain ⟨rfl, rfl, rfl, rfl, rfl, rfl⟩ := hm.at hat3729 c3729_3 (by omega)
          have hm8 := hm.2.2.2.2.2.2.2
          have hP : va_P D vwCl [(w, .inr (9, [.int f3729_0, .ref bu, .int (nI ((κ w).2.2.1)), .int (nI tl), .int (nI p3656), .int er1, .int f3729_6, .int f3729_7, .ref (κ w).2.2.2, .ref f3729_9, .ref dr, .ref f3729_11, .int (nI f3729_12), .int f3729_13, .int 1, .int f3729_15, .int f3729_16, .ref f3729_17])), (dr, .inl (cs 0, 1383, .inl f3650))] _ := va_P.cons hat3729 hP
          refine va_get (D := D) (ci := 9) (v := .int (nI p3656)) (C := RX9) (T := TX9) (N := 18) hx hb hts iX9_term_9 hown hN.1 hP 0 rfl rfl 4 (by decide) (hts _ mX9_term_1) (fun _ h9 => h9) rfl dX9_term_46 ?_
          refine lv_iconst (v := 1) hx hb dX9_term_49 (by decide) ?_
          refine lv_iadd hx hb dX9_term_50 ?_
          refine tp_i (nI (p3656 + 1)) (nI_add p3656 1) ?_
          have hB : Bx B0 D _ [(w, .inr (9, [.int f3729_0, .ref bu, .int (nI ((κ w).2.2.1)), .int (nI tl), .int (nI p3656), .int er1, .int f3729_6, .int f3729_7, .ref (κ w).2.2.2, .ref f3729_9, .ref dr, .ref f3729_11, .int (nI f3729_12), .int f3729_13, .int 1, .int f3729_15, .int f3729_16, .ref f3729_17])), (dr, .inl (cs 0, 1383, .inl f3650))] [] _ _ := Bx.of (fun a => (κ a).1) hL hP (fa_c hb3729 (fa_c hbd fa_n)) (by simp only [List.map_cons, List.map_nil, hw.1, hdT.1]; decide)
          refine b_put (D := D) (ci := 9) (v := .int (nI (p3656 + 1))) (ty := .int) (C := RX9) (T := TX9) (N := 18) hx hb hts iX9_term_9 tyX9 tyX9_ok nmX9 hown hN hB 0 rfl rfl 4 (by decide) (hts _ mX9_term_1) (fun _ h9 => h9) rfl (by decide +kernel) rfl rfl (Nat.le_of_ble_eq_true rfl) (.inl rfl) dX9_term_51 (fun H locs hB => ?_)
          have hB : Bx B0 D _ [(w, .inr (9, [.int f3729_0, .ref bu, .int (nI ((κ w).2.2.1)), .int (nI tl), .int (nI (p3656 + 1)), .int er1, .int f3729_6, .int f3729_7, .ref (κ w).2.2.2, .ref f3729_9, .ref dr, .ref f3729_11, .int (nI f3729_12), .int f3729_13, .int 1, .int f3729_15, .int f3729_16, .ref f3729_17])), (dr, .inl (cs 0, 1383, .inl f3650))] [w] _ _ := hB
          refine lv_aload_n hx hb dX9_term_54 rfl (lv_at hl 1 rfl) ?_
          have hT : WT B0 D cs T κ _ := hT.close hB ⟨⟨0, _, rfl, ok_10 hw.1 ⟨_, _, _, _, _, _, _, _, _, _, _, _, _, _, _, _, rfl, (by omega), (by omega), (by omega), (by omega), hbT, t3729_8, t3729_9, c3729_sd, hdT, t3729_11, t3729_17⟩⟩, trivial⟩
          have hF : Fr B0 [12, 17] κ H0 _ := hF.close hB (fa_c (by simp [hw.2]) fa_n)
          have hL : OkL B0 _ := hB.2.2.2.2.2
          have hP : va_P D vwCl [(w, .inr (9, [.int f3729_0, .ref bu, .int (nI ((κ w).2.2.1)), .int (nI tl), .int (nI (p3656 + 1)), .int er1, .int f3729_6, .int f3729_7, .ref (κ w).2.2.2, .ref f3729_9, .ref dr, .ref f3729_11, .int (nI f3729_12), .int f3729_13, .int 1, .int f3729_15, .int f3729_16, .ref f3729_17])), (dr, .inl (cs 0, 1383, .inl f3650))] _ := hB.1
          have hbu9 := (hm.2.2.2.2.2.2.1).kept (hB.2.2.2.1 _ hm.2.2.2.2.2.2.1.lt (by simp only [List.mem_cons, List.not_mem_nil, or_false, not_or]; exact ne_c hbT.1 hw.1 (by decide)))
          have hm : MF D cs w _ ((p3656 + 1)) (tl) (er1) (1) dr bu g := ⟨⟨_, hP 0 _ rfl, rfl⟩, ⟨_, hP 0 _ rfl, rfl⟩, ⟨_, hP 0 _ rfl, rfl⟩, ⟨_, hP 0 _ rfl, rfl⟩, ⟨_, hP 0 _ rfl, rfl⟩, ⟨_, hP 0 _ rfl, rfl⟩, hbu9, (by omega), (by omega)⟩
          have hps : PS D cs w _ ((p3656 + 1)) (tl) (er1) (1) dr bu g (N1) ((h + 1)) := ⟨hm, f3650, hP 1 _ rfl, e3650, by omega, v3650⟩
          refine cv_v (As := []) (rest := []) (b := w) ⟨hx, hb, hml, hown, hts⟩ (c_X9_factor_d1 hT (w := w) hw hbT hdT hps) (cwV 0 hts gX9_term_X9_factor rfl rfl rfl hdX9_factor_v ⟨Nat.le_of_ble_eq_true rfl, Nat.le_of_ble_eq_true rfl⟩) hN hE hL (rcv10 hN hT hw.1) rfl rfl hl.1 (Nat.le_of_ble_eq_true rfl) dX9_term_55 (Nat.zero_le _) (Nat.zero_le _) (fun H1 locs hL hqr3730 => ?_)
          obtain ⟨hT1, hF1, hqr3730⟩ := hqr3730
          have hF := hF.tr (hF1.mono (by simp))
          have hT := hT1
          obtain ⟨N3731, p3732, er3733, a3734, b3735, z3736, m3737, f3738, d3739, e3740, n3741, v3742⟩ := hqr3730
          have hm := m3737
          have hm8 := hm.2.2.2.2.2.2.2
          have hbd : B0 ≤ dr := (hT.o26 hdT.1).1
          have hDR := hT.dr hdT d3739
          have hP : va_P D vwCl [(dr, .inl (cs 0, 1383, .inl f3738))] _ := va_P.cons d3739 va_P.nil
          refine lv_aload_n hx hb dX9_term_58 rfl (lv_at hl 1 rfl) ?_
          refine lv_iload_n hx hb dX9_term_59 rfl (lv_at hl 0 rfl) ?_
          refine lv_if_eq (tgt := 67) hx hb dX9_term_60 (by decide) (fun _ => ?_) (fun c9 => absurd (by decide) c9)
          refine lv_iconst (v := 5) hx hb dX9_term_67 (by decide) ?_
          refine cv_v (As := [.int 5]) (rest := []) (b := w) ⟨hx, hb, hml, hown, hts⟩ (c_X9_emit hT (w := w) hw (x := 5) hbT hdT hm (hP 0 _ rfl) e3740 (fun _ => by omega)) (cwV 1 hts gX9_term_X9_emit rfl rfl rfl hdX9_emit_v ⟨Nat.le_of_ble_eq_true rfl, Nat.le_of_ble_eq_true rfl⟩) hN hE hL (rcv10 hN hT hw.1) rfl rfl hl.1 (Nat.le_of_ble_eq_true rfl) dX9_term_68 (Nat.zero_le _) (Nat.zero_le _) (fun H1 locs hL hqr3744 => ?_)
          obtain ⟨hT1, hF1, hqr3744⟩ := hqr3744
          have hF := hF.tr (hF1.mono (by simp))
          have hT := hT1
          obtain ⟨f3745, N3746, d3747, e3748, x3749, m3750⟩ := hqr3744
          have hm := m3750
          have hm8 := hm.2.2.2.2.2.2.2
          have nx3749 := x3749.n
          have ox3749 := nx3749.1
          have hbd : B0 ≤ dr := (hT.o26 hdT.1).1
          have hDR := hT.dr hdT d3747
          have hP : va_P D vwCl [(dr, .inl (cs 0, 1383, .inl f3745))] _ := va_P.cons d3747 va_P.nil
          refine lv_goto (tgt := 4) hx hb dX9_term_71 (by decide) ?_
          have hps : PS D cs w _ (p3732) (tl) (er3733) (1) dr bu g (N3746) ((h + 1)) := ⟨hm, f3745, hP 0 _ rfl, e3748, by omega, (EM.op x3749 (by decide) v3742)⟩
          exact ih3649 (p3732, N3746, er3733) _ _ _ (by show 600 - (p3732) < 600 - p; omega) ⟨hps, (by show (N3746) + 2 * pos ≤ N + 2 * (p3732); omega), (by show pos ≤ (p3732); omega), (fun e9 => hz1 (z3736 e9)), hT, hF, hL⟩ (lv_sub hl [1] rfl)
        · refine lv_iconst (v := 1) hx hb dX9_term_38 (by decide) ?_
          refine lv_goto (tgt := 43) hx hb dX9_term_39 (by decide) ?_
          refine lv_istore_n (lv' := [(1, .int 1), (0, .ref w)]) hx hb dX9_term_43 rfl hl (by decide) rfl (fun ls hl => ?_)
          refine lv_aload_n hx hb dX9_term_44 rfl (lv_at hl 1 rfl) ?_
          refine lv_dup hx hb dX9_term_45 rfl ?_
          obtain ⟨hb3752, e3752, hat3752, hk3752⟩ := hT.o10 hw.1
          obtain ⟨f3752_0, f3752_1, f3752_3, f3752_4, f3752_5, f3752_6, f3752_7, f3752_9, f3752_10, f3752_11, f3752_12, f3752_13, f3752_14, f3752_15, f3752_16, f3752_17, rfl, c3752_2, c3752_3, c3752_4, c3752_12, t3752_1, t3752_8, t3752_9, c3752_sd, t3752_10, t3752_11, t3752_17⟩ := hk3752
          obtain ⟨rfl, rfl, rfl, rfl, rfl, rfl⟩ := hm.at hat3752 c3752_3 (by omega)
          have hm8 := hm.2.2.2.2.2.2.2
          have hP : va_P D vwCl [(w, .inr (9, [.int f3752_0, .ref bu, .int (nI ((κ w).2.2.1)), .int (nI tl), .int (nI p3656), .int er1, .int f3752_6, .int f3752_7, .ref (κ w).2.2.2, .ref f3752_9, .ref dr, .ref f3752_11, .int (nI f3752_12), .int f3752_13, .int 1, .int f3752_15, .int f3752_16, .ref f3752_17])), (dr, .inl (cs 0, 1383, .inl f3650))] _ := va_P.cons hat3752 hP
          refine va_get (D := D) (ci := 9) (v := .int (nI p3656)) (C := RX9) (T := TX9) (N := 18) hx hb hts iX9_term_9 hown hN.1 hP 0 rfl rfl 4 (by decide) (hts _ mX9_term_1) (fun _ h9 => h9) rfl dX9_term_46 ?_
          refine lv_iconst (v := 1) hx hb dX9_term_49 (by decide) ?_
          refine lv_iadd hx hb dX9_term_50 ?_
          refine tp_i (nI (p3656 + 1)) (nI_add p3656 1) ?_
          have hB : Bx B0 D _ [(w, .inr (9, [.int f3752_0, .ref bu, .int (nI ((κ w).2.2.1)), .int (nI tl), .int (nI p3656), .int er1, .int f3752_6, .int f3752_7, .ref (κ w).2.2.2, .ref f3752_9, .ref dr, .ref f3752_11, .int (nI f3752_12), .int f3752_13, .int 1, .int f3752_15, .int f3752_16, .ref f3752_17])), (dr, .inl (cs 0, 1383, .inl f3650))] [] _ _ := Bx.of (fun a => (κ a).1) hL hP (fa_c hb3752 (fa_c hbd fa_n)) (by simp only [List.map_cons, List.map_nil, hw.1, hdT.1]; decide)
          refine b_put (D := D) (ci := 9) (v := .int (nI (p3656 + 1))) (ty := .int) (C := RX9) (T := TX9) (N := 18) hx hb hts iX9_term_9 tyX9 tyX9_ok nmX9 hown hN hB 0 rfl rfl 4 (by decide) (hts _ mX9_term_1) (fun _ h9 => h9) rfl (by decide +kernel) rfl rfl (Nat.le_of_ble_eq_true rfl) (.inl rfl) dX9_term_51 (fun H locs hB => ?_)
          have hB : Bx B0 D _ [(w, .inr (9, [.int f3752_0, .ref bu, .int (nI ((κ w).2.2.1)), .int (nI tl), .int (nI (p3656 + 1)), .int er1, .int f3752_6, .int f3752_7, .ref (κ w).2.2.2, .ref f3752_9, .ref dr, .ref f3752_11, .int (nI f3752_12), .int f3752_13, .int 1, .int f3752_15, .int f3752_16, .ref f3752_17])), (dr, .inl (cs 0, 1383, .inl f3650))] [w] _ _ := hB
          refine lv_aload_n hx hb dX9_term_54 rfl (lv_at hl 1 rfl) ?_
          have hT : WT B0 D cs T κ _ := hT.close hB ⟨⟨0, _, rfl, ok_10 hw.1 ⟨_, _, _, _, _, _, _, _, _, _, _, _, _, _, _, _, rfl, (by omega), (by omega), (by omega), (by omega), hbT, t3752_8, t3752_9, c3752_sd, hdT, t3752_11, t3752_17⟩⟩, trivial⟩
          have hF : Fr B0 [12, 17] κ H0 _ := hF.close hB (fa_c (by simp [hw.2]) fa_n)
          have hL : OkL B0 _ := hB.2.2.2.2.2
          have hP : va_P D vwCl [(w, .inr (9, [.int f3752_0, .ref bu, .int (nI ((κ w).2.2.1)), .int (nI tl), .int (nI (p3656 + 1)), .int er1, .int f3752_6, .int f3752_7, .ref (κ w).2.2.2, .ref f3752_9, .ref dr, .ref f3752_11, .int (nI f3752_12), .int f3752_13, .int 1, .int f3752_15, .int f3752_16, .ref f3752_17])), (dr, .inl (cs 0, 1383, .inl f3650))] _ := hB.1
          have hbu9 := (hm.2.2.2.2.2.2.1).kept (hB.2.2.2.1 _ hm.2.2.2.2.2.2.1.lt (by simp only [List.mem_cons, List.not_mem_nil, or_false, not_or]; exact ne_c hbT.1 hw.1 (by decide)))
          have hm : MF D cs w _ ((p3656 + 1)) (tl) (er1) (1) dr bu g := ⟨⟨_, hP 0 _ rfl, rfl⟩, ⟨_, hP 0 _ rfl, rfl⟩, ⟨_, hP 0 _ rfl, rfl⟩, ⟨_, hP 0 _ rfl, rfl⟩, ⟨_, hP 0 _ rfl, rfl⟩, ⟨_, hP 0 _ rfl, rfl⟩, hbu9, (by omega), (by omega)⟩
          have hps : PS D cs w _ ((p3656 + 1)) (tl) (er1) (1) dr bu g (N1) ((h + 1)) := ⟨hm, f3650, hP 1 _ rfl, e3650, by omega, v3650⟩
          refine cv_v (As := []) (rest := []) (b := w) ⟨hx, hb, hml, hown, hts⟩ (c_X9_factor_d1 hT (w := w) hw hbT hdT hps) (cwV 0 hts gX9_term_X9_factor rfl rfl rfl hdX9_factor_v ⟨Nat.le_of_ble_eq_true rfl, Nat.le_of_ble_eq_true rfl⟩) hN hE hL (rcv10 hN hT hw.1) rfl rfl hl.1 (Nat.le_of_ble_eq_true rfl) dX9_term_55 (Nat.zero_le _) (Nat.zero_le _) (fun H1 locs hL hqr3753 => ?_)
          obtain ⟨hT1, hF1, hqr3753⟩ := hqr3753
          have hF := hF.tr (hF1.mono (by simp))
          have hT := hT1
          obtain ⟨N3754, p3755, er3756, a3757, b3758, z3759, m3760, f3761, d3762, e3763, n3764, v3765⟩ := hqr3753
          have hm := m3760
          have hm8 := hm.2.2.2.2.2.2.2
          have hbd : B0 ≤ dr := (hT.o26 hdT.1).1
          have hDR := hT.dr hdT d3762
          have hP : va_P D vwCl [(dr, .inl (cs 0, 1383, .inl f3761))] _ := va_P.cons d3762 va_P.nil
          refine lv_aload_n hx hb dX9_term_58 rfl (lv_at hl 1 rfl) ?_
          refine lv_iload_n hx hb dX9_term_59 rfl (lv_at hl 0 rfl) ?_
          refine lv_if_eq (tgt := 67) hx hb dX9_term_60 (by decide) (fun c9 => absurd c9 (by decide)) (fun _ => ?_)
          refine lv_iconst (v := 4) hx hb dX9_term_63 (by decide) ?_
          refine lv_goto (tgt := 68) hx hb dX9_term_64 (by decide) ?_
          refine cv_v (As := [.int 4]) (rest := []) (b := w) ⟨hx, hb, hml, hown, hts⟩ (c_X9_emit hT (w := w) hw (x := 4) hbT hdT hm (hP 0 _ rfl) e3763 (fun _ => by omega)) (cwV 1 hts gX9_term_X9_emit rfl rfl rfl hdX9_emit_v ⟨Nat.le_of_ble_eq_true rfl, Nat.le_of_ble_eq_true rfl⟩) hN hE hL (rcv10 hN hT hw.1) rfl rfl hl.1 (Nat.le_of_ble_eq_true rfl) dX9_term_68 (Nat.zero_le _) (Nat.zero_le _) (fun H1 locs hL hqr3767 => ?_)
          obtain ⟨hT1, hF1, hqr3767⟩ := hqr3767
          have hF := hF.tr (hF1.mono (by simp))
          have hT := hT1
          obtain ⟨f3768, N3769, d3770, e3771, x3772, m3773⟩ := hqr3767
          have hm := m3773
          have hm8 := hm.2.2.2.2.2.2.2
          have nx3772 := x3772.n
          have ox3772 := nx3772.1
          have hbd : B0 ≤ dr := (hT.o26 hdT.1).1
          have hDR := hT.dr hdT d3770
          have hP : va_P D vwCl [(dr, .inl (cs 0, 1383, .inl f3768))] _ := va_P.cons d3770 va_P.nil
          refine lv_goto (tgt := 4) hx hb dX9_term_71 (by decide) ?_
          have hps : PS D cs w _ (p3755) (tl) (er3756) (1) dr bu g (N3769) ((h + 1)) := ⟨hm, f3768, hP 0 _ rfl, e3771, by omega, (EM.op x3772 (by decide) v3765)⟩
          exact ih3649 (p3755, N3769, er3756) _ _ _ (by show 600 - (p3755) < 600 - p; omega) ⟨hps, (by show (N3769) + 2 * pos ≤ N + 2 * (p3755); omega), (by show pos ≤ (p3755); omega), (fun e9 => hz1 (z3759 e9)), hT, hF, hL⟩ (lv_sub hl [1] rfl)
  · refine lv_if_eq (tgt := 74) hx hb dX9_term_8 (by decide) (fun _ => ?_) (fun c9 => absurd (by decide) c9)
    have hps : PS D cs w _ (p) (tl) (er1) (1) dr bu g (N1) ((h + 1)) := ⟨hm, f3650, hP 0 _ rfl, e3650, by omega, v3650⟩
    exact en_v hx hb hr hlocks hL (Nat.zero_le _) (Nat.zero_le _) dX9_term_74 (⟨hT, hF, N1, p, er1, (by omega), (by omega), hz1, hps⟩)
