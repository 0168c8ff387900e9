set_option maxHeartbeats 4000000 in
set_option maxRecDepth 100000 in
theorem c_X9_safest {l : Launch} {D : va_G} {cs : Nat → ClassId} {B0 T : Nat} {κ : KM} {H0 : Heap} (hT : WT B0 D cs T κ H0) {w : Nat} (hw : T2 κ w 10 12) : KC l yX9_safest wsX9_safest 9 210 0 0 D cs B0 H0 [.ref w] (Qi (fun _ H => WT B0 D cs (T + 24400) κ H ∧ Fr B0 [12, 18] κ H0 H)) := by
  refine KC.of cX9_safest 3 (some .int) (by decide) rfl (Nat.le_of_ble_eq_true rfl) ?_
  intro p e s m below meth c ls hx hb hr hml hown hts hlocks hin hN hE hH0 hl
  have hown : s.vm.findClass RX9 = some m.cls := hown
  have hl : lv_has ls 3 [(0, .ref w)] := hl
  have hL : OkL B0 [] := OkL.nil
  have hF : Fr B0 [12, 18] κ H0 H0 := Fr.rf
  refine lv_aload_n hx hb dX9_safest_0 rfl (lv_at hl 0 rfl) ?_
  refine lv_iconst (v := 0) hx hb dX9_safest_1 (by decide) ?_
  obtain ⟨hb1089, e1089, hat1089, hk1089⟩ := hT.o10 hw.1
  obtain ⟨f1089_0, f1089_1, f1089_3, f1089_4, f1089_5, f1089_6, f1089_7, f1089_9, f1089_10, f1089_11, f1089_12, f1089_13, f1089_14, f1089_15, f1089_16, f1089_17, rfl, c1089_2, c1089_3, c1089_4, c1089_12, t1089_1, t1089_8, t1089_9, c1089_sd, t1089_10, t1089_11, t1089_17⟩ := hk1089
  have hP : va_P D vwCl [(w, .inr (9, [.int f1089_0, .ref f1089_1, .int (nI ((κ w).2.2.1)), .int (nI f1089_3), .int (nI f1089_4), .int f1089_5, .int f1089_6, .int f1089_7, .ref (κ w).2.2.2, .ref f1089_9, .ref f1089_10, .ref f1089_11, .int (nI f1089_12), .int f1089_13, .int f1089_14, .int f1089_15, .int f1089_16, .ref f1089_17]))] _ := va_P.cons hat1089 va_P.nil
  have hB : Bx B0 D _ [(w, .inr (9, [.int f1089_0, .ref f1089_1, .int (nI ((κ w).2.2.1)), .int (nI f1089_3), .int (nI f1089_4), .int f1089_5, .int f1089_6, .int f1089_7, .ref (κ w).2.2.2, .ref f1089_9, .ref f1089_10, .ref f1089_11, .int (nI f1089_12), .int f1089_13, .int f1089_14, .int f1089_15, .int f1089_16, .ref f1089_17]))] [] _ _ := Bx.of (fun a => (κ a).1) hL hP (fa_c hb1089 fa_n) (by simp only [List.map_cons, List.map_nil, hw.1]; decide)
  refine b_put (D := D) (ci := 9) (v := .int 0) (ty := .int) (C := RX9) (T := TX9) (N := 18) hx hb hts iX9_safest_9 tyX9 tyX9_ok nmX9 hown hN hB 0 rfl rfl 0 (by decide) (hts _ mX9_safest_1) (fun _ h9 => h9) rfl (by decide +kernel) rfl rfl (Nat.le_of_ble_eq_true rfl) (.inl rfl) dX9_safest_2 (fun H locs hB => ?_)
  have hB : Bx B0 D _ [(w, .inr (9, [.int 0, .ref f1089_1, .int (nI ((κ w).2.2.1)), .int (nI f1089_3), .int (nI f1089_4), .int f1089_5, .int f1089_6, .int f1089_7, .ref (κ w).2.2.2, .ref f1089_9, .ref f1089_10, .ref f1089_11, .int (nI f1089_12), .int f1089_13, .int f1089_14, .int f1089_15, .int f1089_16, .ref f1089_17]))] [w] _ _ := hB
  refine lv_aload_n hx hb dX9_safest_5 rfl (lv_at hl 0 rfl) ?_
  have hT : WT B0 D cs T κ _ := hT.close hB ⟨⟨0, _, rfl, ok_10 hw.1 ⟨_, _, _, _, _, _, _, _, _, _, _, _, _, _, _, _, rfl, (by omega), (by omega), (by omega), (by omega), t1089_1, t1089_8, t1089_9, c1089_sd, t1089_10, t1089_11, t1089_17⟩⟩, trivial⟩
  have hF : Fr B0 [12, 18] κ H0 _ := hF.close hB (fa_c (by simp [hw.2]) fa_n)
  have hL : OkL B0 _ := hB.2.2.2.2.2
  have hP : va_P D vwCl [(w, .inr (9, [.int 0, .ref f1089_1, .int (nI ((κ w).2.2.1)), .int (nI f1089_3), .int (nI f1089_4), .int f1089_5, .int f1089_6, .int f1089_7, .ref (κ w).2.2.2, .ref f1089_9, .ref f1089_10, .ref f1089_11, .int (nI f1089_12), .int f1089_13, .int f1089_14, .int f1089_15, .int f1089_16, .ref f1089_17]))] _ := hB.1
  refine cv_i (As := []) (rest := []) (b := w) ⟨hx, hb, hml, hown, hts⟩ (c_X9_mayPropose hT (w := w) hw) (cwV 0 hts gX9_safest_X9_mayPropose rfl rfl rfl hdX9_mayPropose_v ⟨Nat.le_of_ble_eq_true rfl, Nat.le_of_ble_eq_true rfl⟩) hN hE hL (rcv10 hN hT hw.1) rfl rfl hl.1 (Nat.le_of_ble_eq_true rfl) dX9_safest_6 (Nat.zero_le _) (Nat.zero_le _) (fun r1090 H1 locs hL hqr1090 => ?_)
  obtain ⟨h9, hqr1090⟩ := hqr1090; replace h9 := h9.symm; subst h9
  rcases hqr1090 with rfl | rfl
  · refine lv_if_ne (tgt := 14) hx hb dX9_safest_9 (by decide) (fun c9 => absurd (by decide) c9) (fun _ => ?_)
    refine lv_iconst (v := (-1)) hx hb dX9_safest_12 (by decide) ?_
    exact en_i hx hb hr hlocks hL rfl (Nat.zero_le _) (Nat.zero_le _) dX9_safest_13 (⟨hT.up (by omega), hF⟩)
  · refine lv_if_ne (tgt := 14) hx hb dX9_safest_9 (by decide) (fun _ => ?_) (fun c9 => absurd c9 (by decide))
    refine lv_aload_n hx hb dX9_safest_14 rfl (lv_at hl 0 rfl) ?_
    refine va_get (D := D) (ci := 9) (v := .ref (κ w).2.2.2) (C := RX9) (T := TX9) (N := 18) hx hb hts iX9_safest_9 hown hN.1 hP 0 rfl rfl 8 (by decide) (hts _ mX9_safest_2) (fun _ h9 => h9) rfl dX9_safest_15 ?_
    refine lv_aload_n hx hb dX9_safest_18 rfl (lv_at hl 0 rfl) ?_
    refine va_get (D := D) (ci := 9) (v := .ref f1089_9) (C := RX9) (T := TX9) (N := 18) hx hb hts iX9_safest_9 hown hN.1 hP 0 rfl rfl 9 (by decide) (hts _ mX9_safest_3) (fun _ h9 => h9) rfl dX9_safest_19 ?_
    refine cs_v (As := [.ref (κ w).2.2.2, .ref f1089_9]) (rest := []) ⟨hx, hb, hml, hown, hts⟩ (c_X9_copyD hT (a := (κ w).2.2.2) t1089_8 (b := f1089_9) t1089_9 (ne_c t1089_8.1 t1089_9.1 (by decide)) (by first | omega | decide | assumption) (by first | omega | decide | assumption)) (va_cwS 2 hts gX9_safest_X9_copy rfl rfl rfl hdX9_copy_o ⟨Nat.le_of_ble_eq_true rfl, Nat.le_of_ble_eq_true rfl⟩) hN hE hL rfl rfl hl.1 (Nat.le_of_ble_eq_true rfl) dX9_safest_22 (Nat.zero_le _) (Nat.zero_le _) (fun H1 locs hL hqr1091 => ?_)
    obtain ⟨hT1, hF1⟩ := hqr1091
    have hP : va_P D vwCl [(w, .inr (9, [.int 0, .ref f1089_1, .int (nI ((κ w).2.2.1)), .int (nI f1089_3), .int (nI f1089_4), .int f1089_5, .int f1089_6, .int f1089_7, .ref (κ w).2.2.2, .ref f1089_9, .ref f1089_10, .ref f1089_11, .int (nI f1089_12), .int f1089_13, .int f1089_14, .int f1089_15, .int f1089_16, .ref f1089_17]))] _ := hF1.hP (hP.sub [0] rfl) (fa_c ⟨by rw [hw.1]; decide, by rw [hw.2]; first | decide | (simp; done) | (simp [h15a, h15b, h15c]; done) | (simp; omega)⟩ fa_n)
    have hF := hF.tr (hF1.mono (by simp))
    have hT := hT1
    refine lv_iconst (v := 1) hx hb dX9_safest_25 (by decide) ?_
    refine lv_istore_n (lv' := [(1, .int 1), (0, .ref w)]) hx hb dX9_safest_26 rfl hl (by decide) rfl (fun ls hl => ?_)
    refine lp_m (α := Nat) (nL := 3) (fun a9 => 61 - a9) (fun a9 H9 l9 => (1 ≤ a9 ∧ a9 ≤ 61) ∧ (WT B0 D cs (T + 400 * a9) κ H9) ∧ (Fr B0 [12, 18] κ H0 H9) ∧ (OkL B0 l9)) (fun a9 => [(1, .int (nI a9)), (0, .ref w)]) ?_ 1 _ _ _ ⟨(by show 1 ≤ (1) ∧ (1) ≤ 61; omega), hT.up (by omega), hF, hL⟩ (lv_sub hl [0, 1] rfl)
    rintro j H locs ls ih1092 ⟨hj, hT, hF, hL⟩ hl
    have hl : lv_has ls 3 [(1, .int (nI j)), (0, .ref w)] := hl
    have hj : 1 ≤ j ∧ j ≤ 61 := hj
    refine lv_iload_n hx hb dX9_safest_27 rfl (lv_at hl 0 rfl) ?_
    refine lv_bipush (v := 60) hx hb dX9_safest_28 (by decide) ?_
    refine lv_icmp_gt (tgt := 62) hx hb dX9_safest_30 (by decide) (fun c1093 => ?_) (fun c1093 => ?_)
    · have c1093 : 60 < j := (nI_ltI (a := 60) (b := j) (by omega) (by omega)).mp c1093
      refine lv_iconst (v := (-1)) hx hb dX9_safest_62 (by decide) ?_
      exact en_i hx hb hr hlocks hL rfl (Nat.zero_le _) (Nat.zero_le _) dX9_safest_63 (⟨hT.up (by omega), hF⟩)
    · have c1093 : ¬ 60 < j := fun h9 => c1093 ((nI_ltI (a := 60) (b := j) (by omega) (by omega)).mpr h9)
      refine lv_aload_n hx hb dX9_safest_33 rfl (lv_at hl 1 rfl) ?_
      refine lv_iload_n hx hb dX9_safest_34 rfl (lv_at hl 0 rfl) ?_
      refine cv_i (As := [.int (nI j)]) (rest := []) (b := w) ⟨hx, hb, hml, hown, hts⟩ (c_X9_isSafe hT (w := w) hw (x := (nI j))) (cwV 1 hts gX9_safest_X9_isSafe rfl rfl rfl hdX9_isSafe_v ⟨Nat.le_of_ble_eq_true rfl, Nat.le_of_ble_eq_true rfl⟩) hN hE hL (rcv10 hN hT hw.1) rfl rfl hl.1 (Nat.le_of_ble_eq_true rfl) dX9_safest_35 (Nat.zero_le _) (Nat.zero_le _) (fun r1094 H1 locs hL hqr1094 => ?_)
      obtain ⟨hT1, hF1, hqr1094⟩ := hqr1094
      have hF := hF.tr (hF1.mono (by simp))
      have hT := hT1
      rcases hqr1094 with rfl | rfl
      · refine lv_istore_n (lv' := [(2, .int 0), (1, .int (nI j)), (0, .ref w)]) hx hb dX9_safest_38 rfl hl (by decide) rfl (fun ls hl => ?_)
        refine lv_aload_n hx hb dX9_safest_39 rfl (lv_at hl 2 rfl) ?_
        obtain ⟨hb1095, e1095, hat1095, hk1095⟩ := hT.o10 hw.1
        obtain ⟨f1095_0, f1095_1, f1095_3, f1095_4, f1095_5, f1095_6, f1095_7, f1095_9, f1095_10, f1095_11, f1095_12, f1095_13, f1095_14, f1095_15, f1095_16, f1095_17, rfl, c1095_2, c1095_3, c1095_4, c1095_12, t1095_1, t1095_8, t1095_9, c1095_sd, t1095_10, t1095_11, t1095_17⟩ := hk1095
        have hP : va_P D vwCl [(w, .inr (9, [.int f1095_0, .ref f1095_1, .int (nI ((κ w).2.2.1)), .int (nI f1095_3), .int (nI f1095_4), .int f1095_5, .int f1095_6, .int f1095_7, .ref (κ w).2.2.2, .ref f1095_9, .ref f1095_10, .ref f1095_11, .int (nI f1095_12), .int f1095_13, .int f1095_14, .int f1095_15, .int f1095_16, .ref f1095_17]))] _ := va_P.cons hat1095 va_P.nil
        refine va_get (D := D) (ci := 9) (v := .ref f1095_9) (C := RX9) (T := TX9) (N := 18) hx hb hts iX9_safest_9 hown hN.1 hP 0 rfl rfl 9 (by decide) (hts _ mX9_safest_3) (fun _ h9 => h9) rfl dX9_safest_40 ?_
        refine lv_aload_n hx hb dX9_safest_43 rfl (lv_at hl 2 rfl) ?_
        refine va_get (D := D) (ci := 9) (v := .ref (κ w).2.2.2) (C := RX9) (T := TX9) (N := 18) hx hb hts iX9_safest_9 hown hN.1 hP 0 rfl rfl 8 (by decide) (hts _ mX9_safest_2) (fun _ h9 => h9) rfl dX9_safest_44 ?_
        refine cs_v (As := [.ref f1095_9, .ref (κ w).2.2.2]) (rest := []) ⟨hx, hb, hml, hown, hts⟩ (c_X9_copyD hT (a := f1095_9) t1095_9 (b := (κ w).2.2.2) t1095_8 (ne_c t1095_9.1 t1095_8.1 (by decide)) (by first | omega | decide | assumption) (by first | omega | decide | assumption)) (va_cwS 2 hts gX9_safest_X9_copy rfl rfl rfl hdX9_copy_o ⟨Nat.le_of_ble_eq_true rfl, Nat.le_of_ble_eq_true rfl⟩) hN hE hL rfl rfl hl.1 (Nat.le_of_ble_eq_true rfl) dX9_safest_47 (Nat.zero_le _) (Nat.zero_le _) (fun H1 locs hL hqr1096 => ?_)
        obtain ⟨hT1, hF1⟩ := hqr1096
        have hP : va_P D vwCl [(w, .inr (9, [.int f1095_0, .ref f1095_1, .int (nI ((κ w).2.2.1)), .int (nI f1095_3), .int (nI f1095_4), .int f1095_5, .int f1095_6, .int f1095_7, .ref (κ w).2.2.2, .ref f1095_9, .ref f1095_10, .ref f1095_11, .int (nI f1095_12), .int f1095_13, .int f1095_14, .int f1095_15, .int f1095_16, .ref f1095_17]))] _ := hF1.hP (hP.sub [0] rfl) (fa_c ⟨by rw [hw.1]; decide, by rw [hw.2]; first | decide | (simp; done) | (simp [h15a, h15b, h15c]; done) | (simp; omega)⟩ fa_n)
        have hF := hF.tr (hF1.mono (by simp))
        have hT := hT1
        refine lv_iload_n hx hb dX9_safest_50 rfl (lv_at hl 0 rfl) ?_
        refine lv_if_eq (tgt := 56) hx hb dX9_safest_51 (by decide) (fun _ => ?_) (fun c9 => absurd (by decide) c9)
        refine lv_iinc (v := (nI (j + 1))) (lv' := [(1, .int (nI (j + 1))), (2, .int 0), (0, .ref w)]) hx hb dX9_safest_56 hl (k := 1) rfl (nI_add _ 1) (by decide) rfl (fun ls hl => ?_)
        refine lv_goto (tgt := 27) hx hb dX9_safest_59 (by decide) ?_
        exact ih1092 (j + 1) _ _ _ (by show 61 - ((j + 1)) < 61 - j; omega) ⟨(by show 1 ≤ ((j + 1)) ∧ ((j + 1)) ≤ 61; omega), hT.up (by omega), hF, hL⟩ (lv_sub hl [0, 2] rfl)
      · refine lv_istore_n (lv' := [(2, .int 1), (1, .int (nI j)), (0, .ref w)]) hx hb dX9_safest_38 rfl hl (by decide) rfl (fun ls hl => ?_)
        refine lv_aload_n hx hb dX9_safest_39 rfl (lv_at hl 2 rfl) ?_
        obtain ⟨hb1097, e1097, hat1097, hk1097⟩ := hT.o10 hw.1
        obtain ⟨f1097_0, f1097_1, f1097_3, f1097_4, f1097_5, f1097_6, f1097_7, f1097_9, f1097_10, f1097_11, f1097_12, f1097_13, f1097_14, f1097_15, f1097_16, f1097_17, rfl, c1097_2, c1097_3, c1097_4, c1097_12, t1097_1, t1097_8, t1097_9, c1097_sd, t1097_10, t1097_11, t1097_17⟩ := hk1097
        have hP : va_P D vwCl [(w, .inr (9, [.int f1097_0, .ref f1097_1, .int (nI ((κ w).2.2.1)), .int (nI f1097_3), .int (nI f1097_4), .int f1097_5, .int f1097_6, .int f1097_7, .ref (κ w).2.2.2, .ref f1097_9, .ref f1097_10, .ref f1097_11, .int (nI f1097_12), .int f1097_13, .int f1097_14, .int f1097_15, .int f1097_16, .ref f1097_17]))] _ := va_P.cons hat1097 va_P.nil
        refine va_get (D := D) (ci := 9) (v := .ref f1097_9) (C := RX9) (T := TX9) (N := 18) hx hb hts iX9_safest_9 hown hN.1 hP 0 rfl rfl 9 (by decide) (hts _ mX9_safest_3) (fun _ h9 => h9) rfl dX9_safest_40 ?_
        refine lv_aload_n hx hb dX9_safest_43 rfl (lv_at hl 2 rfl) ?_
        refine va_get (D := D) (ci := 9) (v := .ref (κ w).2.2.2) (C := RX9) (T := TX9) (N := 18) hx hb hts iX9_safest_9 hown hN.1 hP 0 rfl rfl 8 (by decide) (hts _ mX9_safest_2) (fun _ h9 => h9) rfl dX9_safest_44 ?_
        refine cs_v (As := [.ref f1097_9, .ref (κ w).2.2.2]) (rest := []) ⟨hx, hb, hml, hown, hts⟩ (c_X9_copyD hT (a := f1097_9) t1097_9 (b := (κ w).2.2.2) t1097_8 (ne_c t1097_9.1 t1097_8.1 (by decide)) (by first | omega | decide | assumption) (by first | omega | decide | assumption)) (va_cwS 2 hts gX9_safest_X9_copy rfl rfl rfl hdX9_copy_o ⟨Nat.le_of_ble_eq_true rfl, Nat.le_of_ble_eq_true rfl⟩) hN hE hL rfl rfl hl.1 (Nat.le_of_ble_eq_true rfl) dX9_safest_47 (Nat.zero_le _) (Nat.zero_le _) (fun H1 locs hL hqr1098 => ?_)
        obtain ⟨hT1, hF1⟩ := hqr1098
        have hP : va_P D vwCl [(w, .inr (9, [.int f1097_0, .ref f1097_1, .int (nI ((κ w).2.2.1)), .int (nI f1097_3), .int (nI f1097_4), .int f1097_5, .int f1097_6, .int f1097_7, .ref (κ w).2.2.2, .ref f1097_9, .ref f1097_10, .ref f1097_11, .int (nI f1097_12), .int f1097_13, .int f1097_14, .int f1097_15, .int f1097_16, .ref f1097_17]))] _ := hF1.hP (hP.sub [0] rfl) (fa_c ⟨by rw [hw.1]; decide, by rw [hw.2]; first | decide | (simp; done) | (simp [h15a, h15b, h15c]; done) | (simp; omega)⟩ fa_n)
        have hF := hF.tr (hF1.mono (by simp))
        have hT := hT1
        refine lv_iload_n hx hb dX9_safest_50 rfl (lv_at hl 0 rfl) ?_
        refine lv_if_eq (tgt := 56) hx hb dX9_safest_51 (by decide) (fun c9 => absurd c9 (by decide)) (fun _ => ?_)
        refine lv_iload_n hx hb dX9_safest_54 rfl (lv_at hl 1 rfl) ?_
        exact en_i hx hb hr hlocks hL rfl (Nat.zero_le _) (Nat.zero_le _) dX9_safest_55 (⟨hT.up (by omega), hF⟩)
theorem mX9_propose_1 : (.fieldLink RX9 40 "OneBeatModel" "thrown" "I" : Cond) ∈ wsX9_propose := List.mem_of_getElem? (i := 1) (by decide +kernel)
theorem iX9_propose_9 : ∀ w ∈ wsX90, w ∈ wsX9_propose := fun w h => List.mem_of_mem_drop (List.mem_of_mem_take ((show wsX90 = (wsX9_propose.drop 105).take 18 by decide +kernel) ▸ h))
theorem hdX9_remember_v : yX9_remember.cls = RX9 ∧ yX9_remember.cls ≠ "java/lang/invoke/MethodHandle" ∧ yX9_remember.cls ≠ "java/lang/invoke/VarHandle" ∧ (parseMethodDescriptor yX9_remember.desc).map (fun d => d.parameters.length) = some 0 := by decide +kernel
set_option maxHeartbeats 4000000 in
set_option maxRecDepth 100000 in
theorem c_X9_propose {l : Launch} {D : va_G} {cs : Nat → ClassId} {B0 T : Nat} {κ : KM} {H0 : Heap} (hT : WT B0 D cs T κ H0) {w : Nat} (hw : T2 κ w 10 12) {x : Int32} : KC l yX9_propose wsX9_propose 6 131 0 0 D cs B0 H0 [.ref w, .int x] (Qi (fun _ H => WT B0 D cs T κ H ∧ Fr B0 [12, 18, 19] κ H0 H)) := by
  refine KC.of cX9_propose 2 (some .int) (by decide) rfl (Nat.le_of_ble_eq_true rfl) ?_
  intro p e s m below meth c ls hx hb hr hml hown hts hlocks hin hN hE hH0 hl
  have hown : s.vm.findClass RX9 = some m.cls := hown
  have hl : lv_has ls 2 [(0, .ref w), (1, .int x)] := hl
  have hL : OkL B0 [] := OkL.nil
  have hF : Fr B0 [12, 18, 19] κ H0 H0 := Fr.rf
  refine lv_aload_n hx hb dX9_propose_0 rfl (lv_at hl 0 rfl) ?_
  refine lv_iconst (v := 0) hx hb dX9_propose_1 (by decide) ?_
  obtain ⟨hb1099, e1099, hat1099, hk1099⟩ := hT.o10 hw.1
  obtain ⟨f1099_0, f1099_1, f1099_3, f1099_4, f1099_5, f1099_6, f1099_7, f1099_9, f1099_10, f1099_11, f1099_12, f1099_13, f1099_14, f1099_15, f1099_16, f1099_17, rfl, c1099_2, c1099_3, c1099_4, c1099_12, t1099_1, t1099_8, t1099_9, c1099_sd, t1099_10, t1099_11, t1099_17⟩ := hk1099
  have hP : va_P D vwCl [(w, .inr (9, [.int f1099_0, .ref f1099_1, .int (nI ((κ w).2.2.1)), .int (nI f1099_3), .int (nI f1099_4), .int f1099_5, .int f1099_6, .int f1099_7, .ref (κ w).2.2.2, .ref f1099_9, .ref f1099_10, .ref f1099_11, .int (nI f1099_12), .int f1099_13, .int f1099_14, .int f1099_15, .int f1099_16, .ref f1099_17]))] _ := va_P.cons hat1099 va_P.nil
  have hB : Bx B0 D _ [(w, .inr (9, [.int f1099_0, .ref f1099_1, .int (nI ((κ w).2.2.1)), .int (nI f1099_3), .int (nI f1099_4), .int f1099_5, .int f1099_6, .int f1099_7, .ref (κ w).2.2.2, .ref f1099_9, .ref f1099_10, .ref f1099_11, .int (nI f1099_12), .int f1099_13, .int f1099_14, .int f1099_15, .int f1099_16, .ref f1099_17]))] [] _ _ := Bx.of (fun a => (κ a).1) hL hP (fa_c hb1099 fa_n) (by simp only [List.map_cons, List.map_nil, hw.1]; decide)
  refine b_put (D := D) (ci := 9) (v := .int 0) (ty := .int) (C := RX9) (T := TX9) (N := 18) hx hb hts iX9_propose_9 tyX9 tyX9_ok nmX9 hown hN hB 0 rfl rfl 0 (by decide) (hts _ mX9_propose_1) (fun _ h9 => h9) rfl (by decide +kernel) rfl rfl (Nat.le_of_ble_eq_true rfl) (.inl rfl) dX9_propose_2 (fun H locs hB => ?_)
  have hB : Bx B0 D _ [(w, .inr (9, [.int 0, .ref f1099_1, .int (nI ((κ w).2.2.1)), .int (nI f1099_3), .int (nI f1099_4), .int f1099_5, .int f1099_6, .int f1099_7, .ref (κ w).2.2.2, .ref f1099_9, .ref f1099_10, .ref f1099_11, .int (nI f1099_12), .int f1099_13, .int f1099_14, .int f1099_15, .int f1099_16, .ref f1099_17]))] [w] _ _ := hB
  refine lv_aload_n hx hb dX9_propose_5 rfl (lv_at hl 0 rfl) ?_
  refine lv_iload_n hx hb dX9_propose_6 rfl (lv_at hl 1 rfl) ?_
  refine lv_iconst (v := 0) hx hb dX9_propose_7 (by decide) ?_
  refine lv_bipush (v := 99) hx hb dX9_propose_8 (by decide) ?_
  have hT : WT B0 D cs T κ _ := hT.close hB ⟨⟨0, _, rfl, ok_10 hw.1 ⟨_, _, _, _, _, _, _, _, _, _, _, _, _, _, _, _, rfl, (by omega), (by omega), (by omega), (by omega), t1099_1, t1099_8, t1099_9, c1099_sd, t1099_10, t1099_11, t1099_17⟩⟩, trivial⟩
  have hF : Fr B0 [12, 18, 19] κ H0 _ := hF.close hB (fa_c (by simp [hw.2]) fa_n)
  have hL : OkL B0 _ := hB.2.2.2.2.2
  have hP : va_P D vwCl [(w, .inr (9, [.int 0, .ref f1099_1, .int (nI ((κ w).2.2.1)), .int (nI f1099_3), .int (nI f1099_4), .int f1099_5, .int f1099_6, .int f1099_7, .ref (κ w).2.2.2, .ref f1099_9, .ref f1099_10, .ref f1099_11, .int (nI f1099_12), .int f1099_13, .int f1099_14, .int f1099_15, .int f1099_16, .ref f1099_17]))] _ := hB.1
  refine cs_i (As := [.int x, .int 0, .int 99]) (rest := [.ref w]) ⟨hx, hb, hml, hown, hts⟩ (c_X9_in hT (x := x) (y := 0) (z := 99)) (va_cwS 3 hts gX9_propose_X9_in rfl rfl rfl hdX9_in_o ⟨Nat.le_of_ble_eq_true rfl, Nat.le_of_ble_eq_true rfl⟩) hN hE hL rfl rfl hl.1 (Nat.le_of_ble_eq_true rfl) dX9_propose_10 (Nat.zero_le _) (Nat.zero_le _) (fun r1100 H1 locs hL hqr1100 => ?_)
  obtain ⟨h9, hqr1100⟩ := hqr1100; replace h9 := h9.symm; subst h9
  rcases hqr1100 with ⟨rfl, o1101⟩ | ⟨rfl, l1102, g1103⟩
  · refine lv_if_ne (tgt := 20) hx hb dX9_propose_13 (by decide) (fun c9 => absurd (by decide) c9) (fun _ => ?_)
    refine lv_iconst (v := 1) hx hb dX9_propose_16 (by decide) ?_
    refine lv_goto (tgt := 21) hx hb dX9_propose_17 (by decide) ?_
    refine lv_iconst (v := 1) hx hb dX9_propose_21 (by decide) ?_
    refine cv_i (As := [.int 1, .int 1]) (rest := []) (b := w) ⟨hx, hb, hml, hown, hts⟩ (c_X9_fails hT (w := w) hw (x := 1) (z := 1) (by first | omega | decide | assumption)) (cwV 2 hts gX9_propose_X9_fails rfl rfl rfl hdX9_fails_v ⟨Nat.le_of_ble_eq_true rfl, Nat.le_of_ble_eq_true rfl⟩) hN hE hL (rcv10 hN hT hw.1) rfl rfl hl.1 (Nat.le_of_ble_eq_true rfl) dX9_propose_22 (Nat.zero_le _) (Nat.zero_le _) (fun r1104 H1 locs hL hqr1104 => ?_)
    obtain ⟨hT1, hF1, hqr1104⟩ := hqr1104
    have hF := hF.tr (hF1.mono (by simp))
    have hT := hT1
    rcases hqr1104 with rfl | ⟨rfl, e1105⟩
    · refine lv_if_ne (tgt := 48) hx hb dX9_propose_25 (by decide) (fun _ => ?_) (fun c9 => absurd c9 (by decide))
      refine lv_iconst (v := 0) hx hb dX9_propose_48 (by decide) ?_
      exact en_i hx hb hr hlocks hL rfl (Nat.zero_le _) (Nat.zero_le _) dX9_propose_49 (⟨hT, hF⟩)
    · exact absurd e1105 (by decide)
  · refine lv_if_ne (tgt := 20) hx hb dX9_propose_13 (by decide) (fun _ => ?_) (fun c9 => absurd c9 (by decide))
    refine lv_iconst (v := 0) hx hb dX9_propose_20 (by decide) ?_
    refine lv_iconst (v := 1) hx hb dX9_propose_21 (by decide) ?_
    refine cv_i (As := [.int 0, .int 1]) (rest := []) (b := w) ⟨hx, hb, hml, hown, hts⟩ (c_X9_fails hT (w := w) hw (x := 0) (z := 1) (by first | omega | decide | assumption)) (cwV 2 hts gX9_propose_X9_fails rfl rfl rfl hdX9_fails_v ⟨Nat.le_of_ble_eq_true rfl, Nat.le_of_ble_eq_true rfl⟩) hN hE hL (rcv10 hN hT hw.1) rfl rfl hl.1 (Nat.le_of_ble_eq_true rfl) dX9_propose_22 (Nat.zero_le _) (Nat.zero_le _) (fun r1106 H1 locs hL hqr1106 => ?_)
    obtain ⟨hT1, hF1, hqr1106⟩ := hqr1106
    have hF := hF.tr (hF1.mono (by simp))
    have hT := hT1
    rcases hqr1106 with rfl | ⟨rfl, e1107⟩
    · refine lv_if_ne (tgt := 48) hx hb dX9_propose_25 (by decide) (fun _ => ?_) (fun c9 => absurd c9 (by decide))
      refine lv_iconst (v := 0) hx hb dX9_propose_48 (by decide) ?_
      exact en_i hx hb hr hlocks hL rfl (Nat.zero_le _) (Nat.zero_le _) dX9_propose_49 (⟨hT, hF⟩)
    · refine lv_if_ne (tgt := 48) hx hb dX9_propose_25 (by decide) (fun c9 => absurd (by decide) c9) (fun _ => ?_)
      refine lv_aload_n hx hb dX9_propose_28 rfl (lv_at hl 0 rfl) ?_
      refine lv_aload_n hx hb dX9_propose_29 rfl (lv_at hl 0 rfl) ?_
      refine cv_i (As := []) (rest := [.ref w]) (b := w) ⟨hx, hb, hml, hown, hts⟩ (c_X9_mayPropose hT (w := w) hw) (cwV 0 hts gX9_propose_X9_mayPropose rfl rfl rfl hdX9_mayPropose_v ⟨Nat.le_of_ble_eq_true rfl, Nat.le_of_ble_eq_true rfl⟩) hN hE hL (rcv10 hN hT hw.1) rfl rfl hl.1 (Nat.le_of_ble_eq_true rfl) dX9_propose_30 (Nat.zero_le _) (Nat.zero_le _) (fun r1108 H1 locs hL hqr1108 => ?_)
      obtain ⟨h9, hqr1108⟩ := hqr1108; replace h9 := h9.symm; subst h9
      rcases hqr1108 with rfl | rfl
      · refine lv_if_ne (tgt := 40) hx hb dX9_propose_33 (by decide) (fun c9 => absurd (by decide) c9) (fun _ => ?_)
        refine lv_iconst (v := 1) hx hb dX9_propose_36 (by decide) ?_
        refine lv_goto (tgt := 41) hx hb dX9_propose_37 (by decide) ?_
        refine lv_iconst (v := 2) hx hb dX9_propose_41 (by decide) ?_
        refine cv_i (As := [.int 1, .int 2]) (rest := []) (b := w) ⟨hx, hb, hml, hown, hts⟩ (c_X9_fails hT (w := w) hw (x := 1) (z := 2) ((by decide))) (cwV 2 hts gX9_propose_X9_fails rfl rfl rfl hdX9_fails_v ⟨Nat.le_of_ble_eq_true rfl, Nat.le_of_ble_eq_true rfl⟩) hN hE hL (rcv10 hN hT hw.1) rfl rfl hl.1 (Nat.le_of_ble_eq_true rfl) dX9_propose_42 (Nat.zero_le _) (Nat.zero_le _) (fun r1109 H1 locs hL hqr1109 => ?_)
        obtain ⟨hT1, hF1, hqr1109⟩ := hqr1109
        have hF := hF.tr (hF1.mono (by simp))
        have hT := hT1
        rcases hqr1109 with rfl | ⟨rfl, e1110⟩
        · refine lv_if_eq (tgt := 50) hx hb dX9_propose_45 (by decide) (fun c9 => absurd c9 (by decide)) (fun _ => ?_)
          refine lv_iconst (v := 0) hx hb dX9_propose_48 (by decide) ?_
          exact en_i hx hb hr hlocks hL rfl (Nat.zero_le _) (Nat.zero_le _) dX9_propose_49 (⟨hT, hF⟩)
        · exact absurd e1110 (by decide)
      · refine lv_if_ne (tgt := 40) hx hb dX9_propose_33 (by decide) (fun _ => ?_) (fun c9 => absurd c9 (by decide))
        refine lv_iconst (v := 0) hx hb dX9_propose_40 (by decide) ?_
        refine lv_iconst (v := 2) hx hb dX9_propose_41 (by decide) ?_
        refine cv_i (As := [.int 0, .int 2]) (rest := []) (b := w) ⟨hx, hb, hml, hown, hts⟩ (c_X9_fails hT (w := w) hw (x := 0) (z := 2) ((by decide))) (cwV 2 hts gX9_propose_X9_fails rfl rfl rfl hdX9_fails_v ⟨Nat.le_of_ble_eq_true rfl, Nat.le_of_ble_eq_true rfl⟩) hN hE hL (rcv10 hN hT hw.1) rfl rfl hl.1 (Nat.le_of_ble_eq_true rfl) dX9_propose_42 (Nat.zero_le _) (Nat.zero_le _) (fun r1111 H1 locs hL hqr1111 => ?_)
        obtain ⟨hT1, hF1, hqr1111⟩ := hqr1111
        have hF := hF.tr (hF1.mono (by simp))
        have hT := hT1
        rcases hqr1111 with rfl | ⟨rfl, e1112⟩
        · refine lv_if_eq (tgt := 50) hx hb dX9_propose_45 (by decide) (fun c9 => absurd c9 (by decide)) (fun _ => ?_)
          refine lv_iconst (v := 0) hx hb dX9_propose_48 (by decide) ?_
          exact en_i hx hb hr hlocks hL rfl (Nat.zero_le _) (Nat.zero_le _) dX9_propose_49 (⟨hT, hF⟩)
        · refine lv_if_eq (tgt := 50) hx hb dX9_propose_45 (by decide) (fun _ => ?_) (fun c9 => absurd (by decide) c9)
          refine lv_aload_n hx hb dX9_propose_50 rfl (lv_at hl 0 rfl) ?_
          refine cv_v (As := []) (rest := []) (b := w) ⟨hx, hb, hml, hown, hts⟩ (c_X9_remember hT (w := w) hw) (cwV 0 hts gX9_propose_X9_remember rfl rfl rfl hdX9_remember_v ⟨Nat.le_of_ble_eq_true rfl, Nat.le_of_ble_eq_true rfl⟩) hN hE hL (rcv10 hN hT hw.1) rfl rfl hl.1 (Nat.le_of_ble_eq_true rfl) dX9_propose_51 (Nat.zero_le _) (Nat.zero_le _) (fun H1 locs hL hqr1113 => ?_)
          obtain ⟨hT1, hF1⟩ := hqr1113
          have hF := hF.tr (hF1.mono (by simp))
          have hT := hT1
          refine lv_aload_n hx hb dX9_propose_54 rfl (lv_at hl 0 rfl) ?_
          refine lv_iload_n hx hb dX9_propose_55 rfl (lv_at hl 1 rfl) ?_
          refine lv_aload_n hx hb dX9_propose_56 rfl (lv_at hl 0 rfl) ?_
          refine lv_iload_n hx hb dX9_propose_57 rfl (lv_at hl 1 rfl) ?_
          refine cv_i (As := [.int x]) (rest := [.int x, .ref w]) (b := w) ⟨hx, hb, hml, hown, hts⟩ (c_X9_margin hT (w := w) hw (x := x)) (cwV 1 hts gX9_propose_X9_margin rfl rfl rfl hdX9_margin_v ⟨Nat.le_of_ble_eq_true rfl, Nat.le_of_ble_eq_true rfl⟩) hN hE hL (rcv10 hN hT hw.1) rfl rfl hl.1 (Nat.le_of_ble_eq_true rfl) dX9_propose_58 (Nat.zero_le _) (Nat.zero_le _) (fun r1114 H1 locs hL hqr1114 => ?_)
          obtain ⟨hT1, hF1⟩ := hqr1114
          have hF := hF.tr (hF1.mono (by simp))
          have hT := hT1
          refine cv_i (As := [.int x, .int r1114]) (rest := []) (b := w) ⟨hx, hb, hml, hown, hts⟩ (c_X9_proposeNow hT (w := w) hw (x := x) (y := r1114)) (cwV 2 hts gX9_propose_X9_proposeNow rfl rfl rfl hdX9_proposeNow_v ⟨Nat.le_of_ble_eq_true rfl, Nat.le_of_ble_eq_true rfl⟩) hN hE hL (rcv10 hN hT hw.1) rfl rfl hl.1 (Nat.le_of_ble_eq_true rfl) dX9_propose_61 (Nat.zero_le _) (Nat.zero_le _) (fun r1115 H1 locs hL hqr1115 => ?_)
          obtain ⟨hT1, hF1⟩ := hqr1115
          have hF := hF.tr (hF1.mono (by simp))
          have hT := hT1
          exact en_i hx hb hr hlocks hL rfl (Nat.zero_le _) (Nat.zero_le _) dX9_propose_64 (⟨hT, hF⟩)
theorem mX9_ask_1 : (.fieldLink RX9 40 "OneBeatModel" "thrown" "I" : Cond) ∈ wsX9_ask := List.mem_of_getElem? (i := 1) (by decide +kernel)
theorem iX9_ask_9 : ∀ w ∈ wsX90, w ∈ wsX9_ask := fun w h => List.mem_of_mem_drop (List.mem_of_mem_take ((show wsX90 = (wsX9_ask.drop 46).take 18 by decide +kernel) ▸ h))
theorem mX9_ask_2 : (.fieldLink RX9 18 "OneBeatModel" "data" "[I" : Cond) ∈ wsX9_ask := List.mem_of_getElem? (i := 2) (by decide +kernel)
set_option maxHeartbeats 4000000 in
set_option maxRecDepth 100000 in
theorem c_X9_ask {l : Launch} {D : va_G} {cs : Nat → ClassId} {B0 T : Nat} {κ : KM} {H0 : Heap} (hT : WT B0 D cs T κ H0) {w : Nat} (hw : T2 κ w 10 12) {x : Int32} : KC l yX9_ask wsX9_ask 3 63 0 0 D cs B0 H0 [.ref w, .int x] (Qi (fun r H => WT B0 D cs T κ H ∧ Fr B0 [12, 18] κ H0 H ∧ (r = 0 ∨ r = 1))) := by
  refine KC.of cX9_ask 2 (some .boolean) (by decide) rfl (Nat.le_of_ble_eq_true rfl) ?_
  intro p e s m below meth c ls hx hb hr hml hown hts hlocks hin hN hE hH0 hl
  have hown : s.vm.findClass RX9 = some m.cls := hown
  have hl : lv_has ls 2 [(0, .ref w), (1, .int x)] := hl
  have hL : OkL B0 [] := OkL.nil
  have hF : Fr B0 [12, 18] κ H0 H0 := Fr.rf
  refine lv_aload_n hx hb dX9_ask_0 rfl (lv_at hl 0 rfl) ?_
  refine lv_iconst (v := 0) hx hb dX9_ask_1 (by decide) ?_
  obtain ⟨hb1116, e1116, hat1116, hk1116⟩ := hT.o10 hw.1
  obtain ⟨f1116_0, f1116_1, f1116_3, f1116_4, f1116_5, f1116_6, f1116_7, f1116_9, f1116_10, f1116_11, f1116_12, f1116_13, f1116_14, f1116_15, f1116_16, f1116_17, rfl, c1116_2, c1116_3, c1116_4, c1116_12, t1116_1, t1116_8, t1116_9, c1116_sd, t1116_10, t1116_11, t1116_17⟩ := hk1116
  have hP : va_P D vwCl [(w, .inr (9, [.int f1116_0, .ref f1116_1, .int (nI ((κ w).2.2.1)), .int (nI f1116_3), .int (nI f1116_4), .int f1116_5, .int f1116_6, .int f1116_7, .ref (κ w).2.2.2, .ref f1116_9, .ref f1116_10, .ref f1116_11, .int (nI f1116_12), .int f1116_13, .int f1116_14, .int f1116_15, .int f1116_16, .ref f1116_17]))] _ := va_P.cons hat1116 va_P.nil
  have hB : Bx B0 D _ [(w, .inr (9, [.int f1116_0, .ref f1116_1, .int (nI ((κ w).2.2.1)), .int (nI f1116_3), .int (nI f1116_4), .int f1116_5, .int f1116_6, .int f1116_7, .ref (κ w).2.2.2, .ref f1116_9, .ref f1116_10, .ref f1116_11, .int (nI f1116_12), .int f1116_13, .int f1116_14, .int f1116_15, .int f1116_16, .ref f1116_17]))] [] _ _ := Bx.of (fun a => (κ a).1) hL hP (fa_c hb1116 fa_n) (by simp only [List.map_cons, List.map_nil, hw.1]; decide)
  refine b_put (D := D) (ci := 9) (v := .int 0) (ty := .int) (C := RX9) (T := TX9) (N := 18) hx hb hts iX9_ask_9 tyX9 tyX9_ok nmX9 hown hN hB 0 rfl rfl 0 (by decide) (hts _ mX9_ask_1) (fun _ h9 => h9) rfl (by decide +kernel) rfl rfl (Nat.le_of_ble_eq_true rfl) (.inl rfl) dX9_ask_2 (fun H locs hB => ?_)
  have hB : Bx B0 D _ [(w, .inr (9, [.int 0, .ref f1116_1, .int (nI ((κ w).2.2.1)), .int (nI f1116_3), .int (nI f1116_4), .int f1116_5, .int f1116_6, .int f1116_7, .ref (κ w).2.2.2, .ref f1116_9, .ref f1116_10, .ref f1116_11, .int (nI f1116_12), .int f1116_13, .int f1116_14, .int f1116_15, .int f1116_16, .ref f1116_17]))] [w] _ _ := hB
  refine lv_aload_n hx hb dX9_ask_5 rfl (lv_at hl 0 rfl) ?_
  refine lv_iload_n hx hb dX9_ask_6 rfl (lv_at hl 1 rfl) ?_
  have hT : WT B0 D cs T κ _ := hT.close hB ⟨⟨0, _, rfl, ok_10 hw.1 ⟨_, _, _, _, _, _, _, _, _, _, _, _, _, _, _, _, rfl, (by omega), (by omega), (by omega), (by omega), t1116_1, t1116_8, t1116_9, c1116_sd, t1116_10, t1116_11, t1116_17⟩⟩, trivial⟩
  have hF : Fr B0 [12, 18] κ H0 _ := hF.close hB (fa_c (by simp [hw.2]) fa_n)
  have hL : OkL B0 _ := hB.2.2.2.2.2
  have hP : va_P D vwCl [(w, .inr (9, [.int 0, .ref f1116_1, .int (nI ((κ w).2.2.1)), .int (nI f1116_3), .int (nI f1116_4), .int f1116_5, .int f1116_6, .int f1116_7, .ref (κ w).2.2.2, .ref f1116_9, .ref f1116_10, .ref f1116_11, .int (nI f1116_12), .int f1116_13, .int f1116_14, .int f1116_15, .int f1116_16, .ref f1116_17]))] _ := hB.1
  refine cv_i (As := [.int x]) (rest := []) (b := w) ⟨hx, hb, hml, hown, hts⟩ (c_X9_noPlayer hT (w := w) hw (x := x)) (cwV 1 hts gX9_ask_X9_noPlayer rfl rfl rfl hdX9_noPlayer_v ⟨Nat.le_of_ble_eq_true rfl, Nat.le_of_ble_eq_true rfl⟩) hN hE hL (rcv10 hN hT hw.1) rfl rfl hl.1 (Nat.le_of_ble_eq_true rfl) dX9_ask_7 (Nat.zero_le _) (Nat.zero_le _) (fun r1117 H1 locs hL hqr1117 => ?_)
  obtain ⟨hT1, hF1, hqr1117⟩ := hqr1117
  have hF := hF.tr (hF1.mono (by simp))
  have hT := hT1
  rcases hqr1117 with rfl | ⟨rfl, n1118, h1119, rfl⟩
  · refine lv_if_ne (tgt := 44) hx hb dX9_ask_10 (by decide) (fun _ => ?_) (fun c9 => absurd c9 (by decide))
    refine lv_iconst (v := 0) hx hb dX9_ask_44 (by decide) ?_
    exact en_i hx hb hr hlocks hL rfl (Nat.zero_le _) (Nat.zero_le _) dX9_ask_45 (⟨hT, hF, Or.inl rfl⟩)
  · refine lv_if_ne (tgt := 44) hx hb dX9_ask_10 (by decide) (fun c9 => absurd (by decide) c9) (fun _ => ?_)
    refine lv_aload_n hx hb dX9_ask_13 rfl (lv_at hl 0 rfl) ?_
    refine lv_aload_n hx hb dX9_ask_14 rfl (lv_at hl 0 rfl) ?_
    refine lv_iload_n hx hb dX9_ask_15 rfl (lv_at hl 1 rfl) ?_
    refine cv_i (As := [.int (nI n1118)]) (rest := [.ref w]) (b := w) ⟨hx, hb, hml, hown, hts⟩ (c_X9_isUp hT (w := w) hw (n := n1118) (by first | omega | decide | assumption)) (cwV 1 hts gX9_ask_X9_isUp rfl rfl rfl hdX9_isUp_v ⟨Nat.le_of_ble_eq_true rfl, Nat.le_of_ble_eq_true rfl⟩) hN hE hL (rcv10 hN hT hw.1) rfl rfl hl.1 (Nat.le_of_ble_eq_true rfl) dX9_ask_16 (Nat.zero_le _) (Nat.zero_le _) (fun r1120 H1 locs hL hqr1120 => ?_)
    obtain ⟨h9, hqr1120⟩ := hqr1120; replace h9 := h9.symm; subst h9
    rcases hqr1120 with rfl | rfl
    · refine lv_if_eq (tgt := 32) hx hb dX9_ask_19 (by decide) (fun _ => ?_) (fun c9 => absurd (by decide) c9)
      refine lv_iconst (v := 1) hx hb dX9_ask_32 (by decide) ?_
      refine lv_goto (tgt := 37) hx hb dX9_ask_33 (by decide) ?_
      refine lv_iconst (v := 2) hx hb dX9_ask_37 (by decide) ?_
      refine cv_i (As := [.int 1, .int 2]) (rest := []) (b := w) ⟨hx, hb, hml, hown, hts⟩ (c_X9_fails hT (w := w) hw (x := 1) (z := 2) ((by decide))) (cwV 2 hts gX9_ask_X9_fails rfl rfl rfl hdX9_fails_v ⟨Nat.le_of_ble_eq_true rfl, Nat.le_of_ble_eq_true rfl⟩) hN hE hL (rcv10 hN hT hw.1) rfl rfl hl.1 (Nat.le_of_ble_eq_true rfl) dX9_ask_38 (Nat.zero_le _) (Nat.zero_le _) (fun r1121 H1 locs hL hqr1121 => ?_)
      obtain ⟨hT1, hF1, hqr1121⟩ := hqr1121
      have hF := hF.tr (hF1.mono (by simp))
      have hT := hT1
      rcases hqr1121 with rfl | ⟨rfl, e1122⟩
      · refine lv_if_eq (tgt := 46) hx hb dX9_ask_41 (by decide) (fun c9 => absurd c9 (by decide)) (fun _ => ?_)
        refine lv_iconst (v := 0) hx hb dX9_ask_44 (by decide) ?_
        exact en_i hx hb hr hlocks hL rfl (Nat.zero_le _) (Nat.zero_le _) dX9_ask_45 (⟨hT, hF, Or.inl rfl⟩)
      · exact absurd e1122 (by decide)
    · refine lv_if_eq (tgt := 32) hx hb dX9_ask_19 (by decide) (fun c9 => absurd c9 (by decide)) (fun _ => ?_)
      refine lv_iload_n hx hb dX9_ask_22 rfl (lv_at hl 1 rfl) ?_
      refine lv_aload_n hx hb dX9_ask_23 rfl (lv_at hl 0 rfl) ?_
      obtain ⟨hb1123, e1123, hat1123, hk1123⟩ := hT.o10 hw.1
      obtain ⟨f1123_0, f1123_1, f1123_3, f1123_4, f1123_5, f1123_6, f1123_7, f1123_9, f1123_10, f1123_11, f1123_12, f1123_13, f1123_14, f1123_15, f1123_16, f1123_17, rfl, c1123_2, c1123_3, c1123_4, c1123_12, t1123_1, t1123_8, t1123_9, c1123_sd, t1123_10, t1123_11, t1123_17⟩ := hk1123
      have hP : va_P D vwCl [(w, .inr (9, [.int f1123_0, .ref f1123_1, .int (nI ((κ w).2.2.1)), .int (nI f1123_3), .int (nI f1123_4), .int f1123_5, .int f1123_6, .int f1123_7, .ref (κ w).2.2.2, .ref f1123_9, .ref f1123_10, .ref f1123_11, .int (nI f1123_12), .int f1123_13, .int f1123_14, .int f1123_15, .int f1123_16, .ref f1123_17]))] _ := va_P.cons hat1123 va_P.nil
      refine va_get (D := D) (ci := 9) (v := .ref (κ w).2.2.2) (C := RX9) (T := TX9) (N := 18) hx hb hts iX9_ask_9 hown hN.1 hP 0 rfl rfl 8 (by decide) (hts _ mX9_ask_2) (fun _ h9 => h9) rfl dX9_ask_24 ?_
      refine lv_iconst (v := 2) hx hb dX9_ask_27 (by decide) ?_
      obtain ⟨hb1124, e1124, hat1124, hk1124⟩ := hT.o24 t1123_8.1
      obtain ⟨g1124, rfl, q1124⟩ := hk1124
      have hP : va_P D vwCl [((κ w).2.2.2, .inl (cs 0, 45783, .inl g1124)), (w, .inr (9, [.int f1123_0, .ref f1123_1, .int (nI ((κ w).2.2.1)), .int (nI f1123_3), .int (nI f1123_4), .int f1123_5, .int f1123_6, .int f1123_7, .ref (κ w).2.2.2, .ref f1123_9, .ref f1123_10, .ref f1123_11, .int (nI f1123_12), .int f1123_13, .int f1123_14, .int f1123_15, .int f1123_16, .ref f1123_17]))] _ := va_P.cons hat1124 hP
      refine ld_i (v := (g1124 2)) hx hb hN hP 0 rfl (vp_in_nI (n := 2) (N := 45783) (by omega) (by omega)) (by rw [(show (2 : Int32).toNatClampNeg = 2 from nI_clamp (n := 2) (by omega))]) dX9_ask_28 ?_
      obtain ⟨n1125, hn1125, en1125⟩ := q1124.2.2.1
      refine tp_i (nI n1125) en1125 ?_
      refine lv_icmp_ne (tgt := 36) hx hb dX9_ask_29 (by decide) (fun c1126 => ?_) (fun c1126 => ?_)
      · have c1126 : ¬ n1118 = n1125 := fun h9 => c1126 ((nI_eq (a := n1118) (b := n1125) (by omega) (by omega)).mpr h9)
        refine lv_iconst (v := 0) hx hb dX9_ask_36 (by decide) ?_
        refine lv_iconst (v := 2) hx hb dX9_ask_37 (by decide) ?_
        refine cv_i (As := [.int 0, .int 2]) (rest := []) (b := w) ⟨hx, hb, hml, hown, hts⟩ (c_X9_fails hT (w := w) hw (x := 0) (z := 2) ((by decide))) (cwV 2 hts gX9_ask_X9_fails rfl rfl rfl hdX9_fails_v ⟨Nat.le_of_ble_eq_true rfl, Nat.le_of_ble_eq_true rfl⟩) hN hE hL (rcv10 hN hT hw.1) rfl rfl hl.1 (Nat.le_of_ble_eq_true rfl) dX9_ask_38 (Nat.zero_le _) (Nat.zero_le _) (fun r1127 H1 locs hL hqr1127 => ?_)
        obtain ⟨hT1, hF1, hqr1127⟩ := hqr1127
        have hP : va_P D vwCl [((κ w).2.2.2, .inl (cs 0, 45783, .inl g1124))] _ := hF1.hP (hP.sub [0] rfl) (fa_c ⟨by rw [t1123_8.1]; decide, by rw [t1123_8.2]; first | decide | (simp; done) | (simp [h15a, h15b, h15c]; done) | (simp; omega)⟩ fa_n)
        have hF := hF.tr (hF1.mono (by simp))
        have hT := hT1
        rcases hqr1127 with rfl | ⟨rfl, e1128⟩
        · refine lv_if_eq (tgt := 46) hx hb dX9_ask_41 (by decide) (fun c9 => absurd c9 (by decide)) (fun _ => ?_)
          refine lv_iconst (v := 0) hx hb dX9_ask_44 (by decide) ?_
          exact en_i hx hb hr hlocks hL rfl (Nat.zero_le _) (Nat.zero_le _) dX9_ask_45 (⟨hT, hF, Or.inl rfl⟩)
        · refine lv_if_eq (tgt := 46) hx hb dX9_ask_41 (by decide) (fun _ => ?_) (fun c9 => absurd (by decide) c9)
          refine lv_aload_n hx hb dX9_ask_46 rfl (lv_at hl 0 rfl) ?_
          refine cv_v (As := []) (rest := []) (b := w) ⟨hx, hb, hml, hown, hts⟩ (c_X9_remember hT (w := w) hw) (cwV 0 hts gX9_ask_X9_remember rfl rfl rfl hdX9_remember_v ⟨Nat.le_of_ble_eq_true rfl, Nat.le_of_ble_eq_true rfl⟩) hN hE hL (rcv10 hN hT hw.1) rfl rfl hl.1 (Nat.le_of_ble_eq_true rfl) dX9_ask_47 (Nat.zero_le _) (Nat.zero_le _) (fun H1 locs hL hqr1129 => ?_)
          obtain ⟨hT1, hF1⟩ := hqr1129
          have hF := hF.tr (hF1.mono (by simp))
          have hT := hT1
          refine lv_aload_n hx hb dX9_ask_50 rfl (lv_at hl 0 rfl) ?_
          refine lv_iconst (v := 0) hx hb dX9_ask_51 (by decide) ?_
          refine lv_iload_n hx hb dX9_ask_52 rfl (lv_at hl 1 rfl) ?_
          refine lv_aload_n hx hb dX9_ask_53 rfl (lv_at hl 0 rfl) ?_
          obtain ⟨hb1130, e1130, hat1130, hk1130⟩ := hT.o10 hw.1
          obtain ⟨f1130_0, f1130_1, f1130_3, f1130_4, f1130_5, f1130_6, f1130_7, f1130_9, f1130_10, f1130_11, f1130_12, f1130_13, f1130_14, f1130_15, f1130_16, f1130_17, rfl, c1130_2, c1130_3, c1130_4, c1130_12, t1130_1, t1130_8, t1130_9, c1130_sd, t1130_10, t1130_11, t1130_17⟩ := hk1130
          have hP : va_P D vwCl [(w, .inr (9, [.int f1130_0, .ref f1130_1, .int (nI ((κ w).2.2.1)), .int (nI f1130_3), .int (nI f1130_4), .int f1130_5, .int f1130_6, .int f1130_7, .ref (κ w).2.2.2, .ref f1130_9, .ref f1130_10, .ref f1130_11, .int (nI f1130_12), .int f1130_13, .int f1130_14, .int f1130_15, .int f1130_16, .ref f1130_17]))] _ := va_P.cons hat1130 va_P.nil
          refine va_get (D := D) (ci := 9) (v := .ref (κ w).2.2.2) (C := RX9) (T := TX9) (N := 18) hx hb hts iX9_ask_9 hown hN.1 hP 0 rfl rfl 8 (by decide) (hts _ mX9_ask_2) (fun _ h9 => h9) rfl dX9_ask_54 ?_
          refine lv_iconst (v := 2) hx hb dX9_ask_57 (by decide) ?_
          obtain ⟨hb1131, e1131, hat1131, hk1131⟩ := hT.o24 t1130_8.1
          obtain ⟨g1131, rfl, q1131⟩ := hk1131
          have hP : va_P D vwCl [((κ w).2.2.2, .inl (cs 0, 45783, .inl g1131)), (w, .inr (9, [.int f1130_0, .ref f1130_1, .int (nI ((κ w).2.2.1)), .int (nI f1130_3), .int (nI f1130_4), .int f1130_5, .int f1130_6, .int f1130_7, .ref (κ w).2.2.2, .ref f1130_9, .ref f1130_10, .ref f1130_11, .int (nI f1130_12), .int f1130_13, .int f1130_14, .int f1130_15, .int f1130_16, .ref f1130_17]))] _ := va_P.cons hat1131 hP
          refine ld_i (v := (g1131 2)) hx hb hN hP 0 rfl (vp_in_nI (n := 2) (N := 45783) (by omega) (by omega)) (by rw [(show (2 : Int32).toNatClampNeg = 2 from nI_clamp (n := 2) (by omega))]) dX9_ask_58 ?_
          obtain ⟨n1132, hn1132, en1132⟩ := q1131.2.2.1
          refine tp_i (nI n1132) en1132 ?_
          refine lv_iconst (v := (-1)) hx hb dX9_ask_59 (by decide) ?_
          refine lv_aload_n hx hb dX9_ask_60 rfl (lv_at hl 0 rfl) ?_
          refine lv_iload_n hx hb dX9_ask_61 rfl (lv_at hl 1 rfl) ?_
          refine cv_i (As := [.int (nI n1118)]) (rest := [.int (-1), .int (nI n1132), .int (nI n1118), .int 0, .ref w]) (b := w) ⟨hx, hb, hml, hown, hts⟩ (c_X9_clock hT (w := w) hw (n := n1118) (by first | omega | decide | assumption)) (cwV 1 hts gX9_ask_X9_clock rfl rfl rfl hdX9_clock_v ⟨Nat.le_of_ble_eq_true rfl, Nat.le_of_ble_eq_true rfl⟩) hN hE hL (rcv10 hN hT hw.1) rfl rfl hl.1 (Nat.le_of_ble_eq_true rfl) dX9_ask_62 (Nat.zero_le _) (Nat.zero_le _) (fun r1133 H1 locs hL hqr1133 => ?_)
          obtain rfl := hqr1133.symm
          refine lv_iconst (v := 0) hx hb dX9_ask_65 (by decide) ?_
          refine cv_i (As := [.int 0, .int (nI n1118), .int (nI n1132), .int (-1), .int r1133, .int 0]) (rest := []) (b := w) ⟨hx, hb, hml, hown, hts⟩ (c_X9_send hT (w := w) hw (x := 0) (n := n1118) (k := n1132) (y := (-1)) (z := r1133) (u := 0) (by first | omega | decide | assumption) (by first | omega | decide | assumption) (by first | omega | decide | assumption)) (cwV 6 hts gX9_ask_X9_send rfl rfl rfl hdX9_send_v ⟨Nat.le_of_ble_eq_true rfl, Nat.le_of_ble_eq_true rfl⟩) hN hE hL (rcv10 hN hT hw.1) rfl rfl hl.1 (Nat.le_of_ble_eq_true rfl) dX9_ask_66 (Nat.zero_le _) (Nat.zero_le _) (fun r1134 H1 locs hL hqr1134 => ?_)
          obtain ⟨hT1, hF1, hqr1134⟩ := hqr1134
          have hP : va_P D vwCl [(w, .inr (9, [.int f1130_0, .ref f1130_1, .int (nI ((κ w).2.2.1)), .int (nI f1130_3), .int (nI f1130_4), .int f1130_5, .int f1130_6, .int f1130_7, .ref (κ w).2.2.2, .ref f1130_9, .ref f1130_10, .ref f1130_11, .int (nI f1130_12), .int f1130_13, .int f1130_14, .int f1130_15, .int f1130_16, .ref f1130_17]))] _ := hF1.hP (hP.sub [1] rfl) (fa_c ⟨by rw [hw.1]; decide, by rw [hw.2]; first | decide | (simp; done) | (simp [h15a, h15b, h15c]; done) | (simp; omega)⟩ fa_n)
          have hF := hF.tr (hF1.mono (by simp))
          have hT := hT1
          rcases hqr1134 with rfl | rfl
          · exact en_i hx hb hr hlocks hL rfl (Nat.zero_le _) (Nat.zero_le _) dX9_ask_69 (⟨hT, hF, Or.inl rfl⟩)
          · exact en_i hx hb hr hlocks hL rfl (Nat.zero_le _) (Nat.zero_le _) dX9_ask_69 (⟨hT, hF, Or.inr rfl⟩)
      · have c1126 : n1118 = n1125 := (nI_eq (a := n1118) (b := n1125) (by omega) (by omega)).mp c1126
        refine lv_iconst (v := 1) hx hb dX9_ask_32 (by decide) ?_
        refine lv_goto (tgt := 37) hx hb dX9_ask_33 (by decide) ?_
        refine lv_iconst (v := 2) hx hb dX9_ask_37 (by decide) ?_
        refine cv_i (As := [.int 1, .int 2]) (rest := []) (b := w) ⟨hx, hb, hml, hown, hts⟩ (c_X9_fails hT (w := w) hw (x := 1) (z := 2) ((by decide))) (cwV 2 hts gX9_ask_X9_fails rfl rfl rfl hdX9_fails_v ⟨Nat.le_of_ble_eq_true rfl, Nat.le_of_ble_eq_true rfl⟩) hN hE hL (rcv10 hN hT hw.1) rfl rfl hl.1 (Nat.le_of_ble_eq_true rfl) dX9_ask_38 (Nat.zero_le _) (Nat.zero_le _) (fun r1135 H1 locs hL hqr1135 => ?_)
        obtain ⟨hT1, hF1, hqr1135⟩ := hqr1135
        have hP : va_P D vwCl [((κ w).2.2.2, .inl (cs 0, 45783, .inl g1124))] _ := hF1.hP (hP.sub [0] rfl) (fa_c ⟨by rw [t1123_8.1]; decide, by rw [t1123_8.2]; first | decide | (simp; done) | (simp [h15a, h15b, h15c]; done) | (simp; omega)⟩ fa_n)
        have hF := hF.tr (hF1.mono (by simp))
        have hT := hT1
        rcases hqr1135 with rfl | ⟨rfl, e1136⟩
        · refine lv_if_eq (tgt := 46) hx hb dX9_ask_41 (by decide) (fun c9 => absurd c9 (by decide)) (fun _ => ?_)
          refine lv_iconst (v := 0) hx hb dX9_ask_44 (by decide) ?_
          exact en_i hx hb hr hlocks hL rfl (Nat.zero_le _) (Nat.zero_le _) dX9_ask_45 (⟨hT, hF, Or.inl rfl⟩)
        · exact absurd e1136 (by decide)
theorem mX9_pass_1 : (.fieldLink RX9 40 "OneBeatModel" "thrown" "I" : Cond) ∈ wsX9_pass := List.mem_of_getElem? (i := 1) (by decide +kernel)
theorem iX9_pass_9 : ∀ w ∈ wsX90, w ∈ wsX9_pass := fun w h => List.mem_of_mem_drop (List.mem_of_mem_take ((show wsX90 = (wsX9_pass.drop 90).take 18 by decide +kernel) ▸ h))
theorem mX9_pass_2 : (.fieldLink RX9 18 "OneBeatModel" "data" "[I" : Cond) ∈ wsX9_pass := List.mem_of_getElem? (i := 2) (by decide +kernel)
set_option maxHeartbeats 4000000 in
set_option maxRecDepth 100000 in
theorem c_X9_pass {l : Launch} {D : va_G} {cs : Nat → ClassId} {B0 T : Nat} {κ : KM} {H0 : Heap} (hT : WT B0 D cs T κ H0) {w : Nat} (hw : T2 κ w 10 12) {x : Int32} : KC l yX9_pass wsX9_pass 7 167 0 0 D cs B0 H0 [.ref w, .int x] (Qi (fun _ H => WT B0 D cs (T + 50) κ H ∧ Fr B0 [12, 18] κ H0 H)) := by
  refine KC.of cX9_pass 4 (some .int) (by decide) rfl (Nat.le_of_ble_eq_true rfl) ?_
  intro p e s m below meth c ls hx hb hr hml hown hts hlocks hin hN hE hH0 hl
  have hown : s.vm.findClass RX9 = some m.cls := hown
  have hl : lv_has ls 4 [(0, .ref w), (1, .int x)] := hl
  have hL : OkL B0 [] := OkL.nil
  have hF : Fr B0 [12, 18] κ H0 H0 := Fr.rf
  refine lv_aload_n hx hb dX9_pass_0 rfl (lv_at hl 0 rfl) ?_
  refine lv_iconst (v := 0) hx hb dX9_pass_1 (by decide) ?_
  obtain ⟨hb1137, e1137, hat1137, hk1137⟩ := hT.o10 hw.1
  obtain ⟨f1137_0, f1137_1, f1137_3, f1137_4, f1137_5, f1137_6, f1137_7, f1137_9, f1137_10, f1137_11, f1137_12, f1137_13, f1137_14, f1137_15, f1137_16, f1137_17, rfl, c1137_2, c1137_3, c1137_4, c1137_12, t1137_1, t1137_8, t1137_9, c1137_sd, t1137_10, t1137_11, t1137_17⟩ := hk1137
  have hP : va_P D vwCl [(w, .inr (9, [.int f1137_0, .ref f1137_1, .int (nI ((κ w).2.2.1)), .int (nI f1137_3), .int (nI f1137_4), .int f1137_5, .int f1137_6, .int f1137_7, .ref (κ w).2.2.2, .ref f1137_9, .ref f1137_10, .ref f1137_11, .int (nI f1137_12), .int f1137_13, .int f1137_14, .int f1137_15, .int f1137_16, .ref f1137_17]))] _ := va_P.cons hat1137 va_P.nil
  have hB : Bx B0 D _ [(w, .inr (9, [.int f1137_0, .ref f1137_1, .int (nI ((κ w).2.2.1)), .int (nI f1137_3), .int (nI f1137_4), .int f1137_5, .int f1137_6, .int f1137_7, .ref (κ w).2.2.2, .ref f1137_9, .ref f1137_10, .ref f1137_11, .int (nI f1137_12), .int f1137_13, .int f1137_14, .int f1137_15, .int f1137_16, .ref f1137_17]))] [] _ _ := Bx.of (fun a => (κ a).1) hL hP (fa_c hb1137 fa_n) (by simp only [List.map_cons, List.map_nil, hw.1]; decide)
  refine b_put (D := D) (ci := 9) (v := .int 0) (ty := .int) (C := RX9) (T := TX9) (N := 18) hx hb hts iX9_pass_9 tyX9 tyX9_ok nmX9 hown hN hB 0 rfl rfl 0 (by decide) (hts _ mX9_pass_1) (fun _ h9 => h9) rfl (by decide +kernel) rfl rfl (Nat.le_of_ble_eq_true rfl) (.inl rfl) dX9_pass_2 (fun H locs hB => ?_)
  have hB : Bx B0 D _ [(w, .inr (9, [.int 0, .ref f1137_1, .int (nI ((κ w).2.2.1)), .int (nI f1137_3), .int (nI f1137_4), .int f1137_5, .int f1137_6, .int f1137_7, .ref (κ w).2.2.2, .ref f1137_9, .ref f1137_10, .ref f1137_11, .int (nI f1137_12), .int f1137_13, .int f1137_14, .int f1137_15, .int f1137_16, .ref f1137_17]))] [w] _ _ := hB
  refine lv_aload_n hx hb dX9_pass_5 rfl (lv_at hl 0 rfl) ?_
  refine lv_iload_n hx hb dX9_pass_6 rfl (lv_at hl 1 rfl) ?_
  refine lv_iconst (v := 1) hx hb dX9_pass_7 (by decide) ?_
  refine lv_bipush (v := 50) hx hb dX9_pass_8 (by decide) ?_
  have hT : WT B0 D cs T κ _ := hT.close hB ⟨⟨0, _, rfl, ok_10 hw.1 ⟨_, _, _, _, _, _, _, _, _, _, _, _, _, _, _, _, rfl, (by omega), (by omega), (by omega), (by omega), t1137_1, t1137_8, t1137_9, c1137_sd, t1137_10, t1137_11, t1137_17⟩⟩, trivial⟩
  have hF : Fr B0 [12, 18] κ H0 _ := hF.close hB (fa_c (by simp [hw.2]) fa_n)
  have hL : OkL B0 _ := hB.2.2.2.2.2
  have hP : va_P D vwCl [(w, .inr (9, [.int 0, .ref f1137_1, .int (nI ((κ w).2.2.1)), .int (nI f1137_3), .int (nI f1137_4), .int f1137_5, .int f1137_6, .int f1137_7, .ref (κ w).2.2.2, .ref f1137_9, .ref f1137_10, .ref f1137_11, .int (nI f1137_12), .int f1137_13, .int f1137_14, .int f1137_15, .int f1137_16, .ref f1137_17]))] _ := hB.1
  refine cs_i (As := [.int x, .int 1, .int 50]) (rest := [.ref w]) ⟨hx, hb, hml, hown, hts⟩ (c_X9_in hT (x := x) (y := 1) (z := 50)) (va_cwS 3 hts gX9_pass_X9_in rfl rfl rfl hdX9_in_o ⟨Nat.le_of_ble_eq_true rfl, Nat.le_of_ble_eq_true rfl⟩) hN hE hL rfl rfl hl.1 (Nat.le_of_ble_eq_true rfl) dX9_pass_10 (Nat.zero_le _) (Nat.zero_le _) (fun r1138 H1 locs hL hqr1138 => ?_)
  obtain ⟨h9, hqr1138⟩ := hqr1138; replace h9 := h9.symm; subst h9
  rcases hqr1138 with ⟨rfl, o1139⟩ | ⟨rfl, l1140, g1141⟩
  · refine lv_if_ne (tgt := 20) hx hb dX9_pass_13 (by decide) (fun c9 => absurd (by decide) c9) (fun _ => ?_)
    refine lv_iconst (v := 1) hx hb dX9_pass_16 (by decide) ?_
    refine lv_goto (tgt := 21) hx hb dX9_pass_17 (by decide) ?_
    refine lv_iconst (v := 1) hx hb dX9_pass_21 (by decide) ?_
    refine cv_i (As := [.int 1, .int 1]) (rest := []) (b := w) ⟨hx, hb, hml, hown, hts⟩ (c_X9_fails hT (w := w) hw (x := 1) (z := 1) (by first | omega | decide | assumption)) (cwV 2 hts gX9_pass_X9_fails rfl rfl rfl hdX9_fails_v ⟨Nat.le_of_ble_eq_true rfl, Nat.le_of_ble_eq_true rfl⟩) hN hE hL (rcv10 hN hT hw.1) rfl rfl hl.1 (Nat.le_of_ble_eq_true rfl) dX9_pass_22 (Nat.zero_le _) (Nat.zero_le _) (fun r1142 H1 locs hL hqr1142 => ?_)
    obtain ⟨hT1, hF1, hqr1142⟩ := hqr1142
    have hF := hF.tr (hF1.mono (by simp))
    have hT := hT1
    rcases hqr1142 with rfl | ⟨rfl, e1143⟩
    · refine lv_if_eq (tgt := 30) hx hb dX9_pass_25 (by decide) (fun c9 => absurd c9 (by decide)) (fun _ => ?_)
      refine lv_iconst (v := 0) hx hb dX9_pass_28 (by decide) ?_
      exact en_i hx hb hr hlocks hL rfl (Nat.zero_le _) (Nat.zero_le _) dX9_pass_29 (⟨hT.up (by omega), hF⟩)
    · exact absurd e1143 (by decide)
  · refine lv_if_ne (tgt := 20) hx hb dX9_pass_13 (by decide) (fun _ => ?_) (fun c9 => absurd c9 (by decide))
    refine lv_iconst (v := 0) hx hb dX9_pass_20 (by decide) ?_
    refine lv_iconst (v := 1) hx hb dX9_pass_21 (by decide) ?_
    refine cv_i (As := [.int 0, .int 1]) (rest := []) (b := w) ⟨hx, hb, hml, hown, hts⟩ (c_X9_fails hT (w := w) hw (x := 0) (z := 1) (by first | omega | decide | assumption)) (cwV 2 hts gX9_pass_X9_fails rfl rfl rfl hdX9_fails_v ⟨Nat.le_of_ble_eq_true rfl, Nat.le_of_ble_eq_true rfl⟩) hN hE hL (rcv10 hN hT hw.1) rfl rfl hl.1 (Nat.le_of_ble_eq_true rfl) dX9_pass_22 (Nat.zero_le _) (Nat.zero_le _) (fun r1144 H1 locs hL hqr1144 => ?_)
    obtain ⟨hT1, hF1, hqr1144⟩ := hqr1144
    have hF := hF.tr (hF1.mono (by simp))
    have hT := hT1
    rcases hqr1144 with rfl | ⟨rfl, e1145⟩
    · refine lv_if_eq (tgt := 30) hx hb dX9_pass_25 (by decide) (fun c9 => absurd c9 (by decide)) (fun _ => ?_)
      refine lv_iconst (v := 0) hx hb dX9_pass_28 (by decide) ?_
      exact en_i hx hb hr hlocks hL rfl (Nat.zero_le _) (Nat.zero_le _) dX9_pass_29 (⟨hT.up (by omega), hF⟩)
    · refine lv_if_eq (tgt := 30) hx hb dX9_pass_25 (by decide) (fun _ => ?_) (fun c9 => absurd (by decide) c9)
      obtain ⟨tk, ltk, htk, rfl⟩ := rng (lo := 1) (hi := 50) (by decide) (by decide) l1140 g1141
      refine lv_aload_n hx hb dX9_pass_30 rfl (lv_at hl 0 rfl) ?_
      refine cv_v (As := []) (rest := []) (b := w) ⟨hx, hb, hml, hown, hts⟩ (c_X9_remember hT (w := w) hw) (cwV 0 hts gX9_pass_X9_remember rfl rfl rfl hdX9_remember_v ⟨Nat.le_of_ble_eq_true rfl, Nat.le_of_ble_eq_true rfl⟩) hN hE hL (rcv10 hN hT hw.1) rfl rfl hl.1 (Nat.le_of_ble_eq_true rfl) dX9_pass_31 (Nat.zero_le _) (Nat.zero_le _) (fun H1 locs hL hqr1146 => ?_)
      obtain ⟨hT1, hF1⟩ := hqr1146
      have hF := hF.tr (hF1.mono (by simp))
      have hT := hT1
      refine lv_aload_n hx hb dX9_pass_34 rfl (lv_at hl 0 rfl) ?_
      obtain ⟨hb1147, e1147, hat1147, hk1147⟩ := hT.o10 hw.1
      obtain ⟨f1147_0, f1147_1, f1147_3, f1147_4, f1147_5, f1147_6, f1147_7, f1147_9, f1147_10, f1147_11, f1147_12, f1147_13, f1147_14, f1147_15, f1147_16, f1147_17, rfl, c1147_2, c1147_3, c1147_4, c1147_12, t1147_1, t1147_8, t1147_9, c1147_sd, t1147_10, t1147_11, t1147_17⟩ := hk1147
      have hP : va_P D vwCl [(w, .inr (9, [.int f1147_0, .ref f1147_1, .int (nI ((κ w).2.2.1)), .int (nI f1147_3), .int (nI f1147_4), .int f1147_5, .int f1147_6, .int f1147_7, .ref (κ w).2.2.2, .ref f1147_9, .ref f1147_10, .ref f1147_11, .int (nI f1147_12), .int f1147_13, .int f1147_14, .int f1147_15, .int f1147_16, .ref f1147_17]))] _ := va_P.cons hat1147 va_P.nil
      refine va_get (D := D) (ci := 9) (v := .ref (κ w).2.2.2) (C := RX9) (T := TX9) (N := 18) hx hb hts iX9_pass_9 hown hN.1 hP 0 rfl rfl 8 (by decide) (hts _ mX9_pass_2) (fun _ h9 => h9) rfl dX9_pass_35 ?_
      refine lv_bipush (v := 9) hx hb dX9_pass_38 (by decide) ?_
      obtain ⟨hb1148, e1148, hat1148, hk1148⟩ := hT.o24 t1147_8.1
      obtain ⟨g1148, rfl, q1148⟩ := hk1148
      have hP : va_P D vwCl [((κ w).2.2.2, .inl (cs 0, 45783, .inl g1148)), (w, .inr (9, [.int f1147_0, .ref f1147_1, .int (nI ((κ w).2.2.1)), .int (nI f1147_3), .int (nI f1147_4), .int f1147_5, .int f1147_6, .int f1147_7, .ref (κ w).2.2.2, .ref f1147_9, .ref f1147_10, .ref f1147_11, .int (nI f1147_12), .int f1147_13, .int f1147_14, .int f1147_15, .int f1147_16, .ref f1147_17]))] _ := va_P.cons hat1148 hP
      refine ld_i (v := (g1148 9)) hx hb hN hP 0 rfl (vp_in_nI (n := 9) (N := 45783) (by omega) (by omega)) (by rw [(show (9 : Int32).toNatClampNeg = 9 from nI_clamp (n := 9) (by omega))]) dX9_pass_40 ?_
      refine gn_i (fun x1149 => ?_)
      refine lv_istore_n (lv' := [(2, .int x1149), (0, .ref w), (1, .int (nI tk))]) hx hb dX9_pass_41 rfl hl (by decide) rfl (fun ls hl => ?_)
      refine lv_iconst (v := 0) hx hb dX9_pass_42 (by decide) ?_
      refine lv_istore_n (lv' := [(3, .int 0), (2, .int x1149), (0, .ref w), (1, .int (nI tk))]) hx hb dX9_pass_43 rfl hl (by decide) rfl (fun ls hl => ?_)
      refine lp_m (α := Nat × Int32) (nL := 4) (fun a9 => 50 - a9.1) (fun a9 H9 l9 => (a9.1 ≤ 50) ∧ (WT B0 D cs (T + a9.1) κ H9) ∧ (Fr B0 [12, 18] κ H0 H9) ∧ (OkL B0 l9)) (fun a9 => [(3, .int (nI a9.1)), (2, .int a9.2), (0, .ref w), (1, .int (nI tk))]) ?_ (0, x1149) _ _ _ ⟨(by show (0) ≤ 50; omega), hT.up (by omega), hF, hL⟩ (lv_sub hl [0, 1, 2, 3] rfl)
      rintro ⟨t, z⟩ H locs ls ih1150 ⟨ht, hT, hF, hL⟩ hl
      have hl : lv_has ls 4 [(3, .int (nI t)), (2, .int z), (0, .ref w), (1, .int (nI tk))] := hl
      have ht : t ≤ 50 := ht
      refine lv_iload_n hx hb dX9_pass_44 rfl (lv_at hl 0 rfl) ?_
      refine lv_iload_n hx hb dX9_pass_45 rfl (lv_at hl 3 rfl) ?_
      refine lv_icmp_ge (tgt := 59) hx hb dX9_pass_46 (by decide) (fun c1151 => ?_) (fun c1151 => ?_)
      · have c1151 : tk ≤ t := (nI_leI (a := tk) (b := t) (by omega) (by omega)).mp c1151
        refine lv_aload_n hx hb dX9_pass_59 rfl (lv_at hl 2 rfl) ?_
        obtain ⟨hb1152, e1152, hat1152, hk1152⟩ := hT.o10 hw.1
        obtain ⟨f1152_0, f1152_1, f1152_3, f1152_4, f1152_5, f1152_6, f1152_7, f1152_9, f1152_10, f1152_11, f1152_12, f1152_13, f1152_14, f1152_15, f1152_16, f1152_17, rfl, c1152_2, c1152_3, c1152_4, c1152_12, t1152_1, t1152_8, t1152_9, c1152_sd, t1152_10, t1152_11, t1152_17⟩ := hk1152
        have hP : va_P D vwCl [(w, .inr (9, [.int f1152_0, .ref f1152_1, .int (nI ((κ w).2.2.1)), .int (nI f1152_3), .int (nI f1152_4), .int f1152_5, .int f1152_6, .int f1152_7, .ref (κ w).2.2.2, .ref f1152_9, .ref f1152_10, .ref f1152_11, .int (nI f1152_12), .int f1152_13, .int f1152_14, .int f1152_15, .int f1152_16, .ref f1152_17]))] _ := va_P.cons hat1152 va_P.nil
        refine va_get (D := D) (ci := 9) (v := .ref (κ w).2.2.2) (C := RX9) (T := TX9) (N := 18) hx hb hts iX9_pass_9 hown hN.1 hP 0 rfl rfl 8 (by decide) (hts _ mX9_pass_2) (fun _ h9 => h9) rfl dX9_pass_60 ?_
        refine lv_bipush (v := 9) hx hb dX9_pass_63 (by decide) ?_
        obtain ⟨hb1153, e1153, hat1153, hk1153⟩ := hT.o24 t1152_8.1
        obtain ⟨g1153, rfl, q1153⟩ := hk1153
        have hP : va_P D vwCl [((κ w).2.2.2, .inl (cs 0, 45783, .inl g1153)), (w, .inr (9, [.int f1152_0, .ref f1152_1, .int (nI ((κ w).2.2.1)), .int (nI f1152_3), .int (nI f1152_4), .int f1152_5, .int f1152_6, .int f1152_7, .ref (κ w).2.2.2, .ref f1152_9, .ref f1152_10, .ref f1152_11, .int (nI f1152_12), .int f1152_13, .int f1152_14, .int f1152_15, .int f1152_16, .ref f1152_17]))] _ := va_P.cons hat1153 hP
        refine ld_i (v := (g1153 9)) hx hb hN hP 0 rfl (vp_in_nI (n := 9) (N := 45783) (by omega) (by omega)) (by rw [(show (9 : Int32).toNatClampNeg = 9 from nI_clamp (n := 9) (by omega))]) dX9_pass_65 ?_
        refine gn_i (fun x1154 => ?_)
        refine lv_iload_n hx hb dX9_pass_66 rfl (lv_at hl 1 rfl) ?_
        refine lv_isub hx hb dX9_pass_67 ?_
        refine gn_i (fun x1155 => ?_)
        exact en_i hx hb hr hlocks hL rfl (Nat.zero_le _) (Nat.zero_le _) dX9_pass_68 (⟨hT.up (by omega), hF⟩)
      · have c1151 : ¬ tk ≤ t := fun h9 => c1151 ((nI_leI (a := tk) (b := t) (by omega) (by omega)).mpr h9)
        refine lv_aload_n hx hb dX9_pass_49 rfl (lv_at hl 2 rfl) ?_
        refine cv_v (As := []) (rest := []) (b := w) ⟨hx, hb, hml, hown, hts⟩ (c_X9_tick hT (w := w) hw) (cwV 0 hts gX9_pass_X9_tick rfl rfl rfl hdX9_tick_v ⟨Nat.le_of_ble_eq_true rfl, Nat.le_of_ble_eq_true rfl⟩) hN hE hL (rcv10 hN hT hw.1) rfl rfl hl.1 (Nat.le_of_ble_eq_true rfl) dX9_pass_50 (Nat.zero_le _) (Nat.zero_le _) (fun H1 locs hL hqr1156 => ?_)
        obtain ⟨hT1, hF1⟩ := hqr1156
        have hF := hF.tr (hF1.mono (by simp))
        have hT := hT1
        refine lv_iinc (v := (nI (t + 1))) (lv' := [(3, .int (nI (t + 1))), (2, .int z), (0, .ref w), (1, .int (nI tk))]) hx hb dX9_pass_53 hl (k := 0) rfl (nI_add _ 1) (by decide) rfl (fun ls hl => ?_)
        refine lv_goto (tgt := 44) hx hb dX9_pass_56 (by decide) ?_
        exact ih1150 ((t + 1), z) _ _ _ (by show 50 - ((t + 1)) < 50 - t; omega) ⟨(by show ((t + 1)) ≤ 50; omega), hT.up (by omega), hF, hL⟩ (lv_sub hl [0, 1, 2, 3] rfl)
theorem mX9_power_1 : (.fieldLink RX9 40 "OneBeatModel" "thrown" "I" : Cond) ∈ wsX9_power := List.mem_of_getElem? (i := 1) (by decide +kernel)
theorem iX9_power_9 : ∀ w ∈ wsX90, w ∈ wsX9_power := fun w h => List.mem_of_mem_drop (List.mem_of_mem_take ((show wsX90 = (wsX9_power.drop 43).take 18 by decide +kernel) ▸ h))
set_option maxHeartbeats 4000000 in
set_option maxRecDepth 100000 in
theorem c_X9_power {l : Launch} {D : va_G} {cs : Nat → ClassId} {B0 T : Nat} {κ : KM} {H0 : Heap} (hT : WT B0 D cs T κ H0) {w : Nat} (hw : T2 κ w 10 12) {x : Int32} {y : Int32} : KC l yX9_power wsX9_power 3 64 0 0 D cs B0 H0 [.ref w, .int x, .int y] (Qi (fun r H => WT B0 D cs T κ H ∧ Fr B0 [12, 18] κ H0 H ∧ (r = 0 ∨ r = 1))) := by
  refine KC.of cX9_power 4 (some .boolean) (by decide) rfl (Nat.le_of_ble_eq_true rfl) ?_
  intro p e s m below meth c ls hx hb hr hml hown hts hlocks hin hN hE hH0 hl
  have hown : s.vm.findClass RX9 = some m.cls := hown
  have hl : lv_has ls 4 [(0, .ref w), (1, .int x), (2, .int y)] := hl
  have hL : OkL B0 [] := OkL.nil
  have hF : Fr B0 [12, 18] κ H0 H0 := Fr.rf
  refine lv_aload_n hx hb dX9_power_0 rfl (lv_at hl 0 rfl) ?_
  refine lv_iconst (v := 0) hx hb dX9_power_1 (by decide) ?_
  obtain ⟨hb1157, e1157, hat1157, hk1157⟩ := hT.o10 hw.1
  obtain ⟨f1157_0, f1157_1, f1157_3, f1157_4, f1157_5, f1157_6, f1157_7, f1157_9, f1157_10, f1157_11, f1157_12, f1157_13, f1157_14, f1157_15, f1157_16, f1157_17, rfl, c1157_2, c1157_3, c1157_4, c1157_12, t1157_1, t1157_8, t1157_9, c1157_sd, t1157_10, t1157_11, t1157_17⟩ := hk1157
  have hP : va_P D vwCl [(w, .inr (9, [.int f1157_0, .ref f1157_1, .int (nI ((κ w).2.2.1)), .int (nI f1157_3), .int (nI f1157_4), .int f1157_5, .int f1157_6, .int f1157_7, .ref (κ w).2.2.2, .ref f1157_9, .ref f1157_10, .ref f1157_11, .int (nI f1157_12), .int f1157_13, .int f1157_14, .int f1157_15, .int f1157_16, .ref f1157_17]))] _ := va_P.cons hat1157 va_P.nil
  have hB : Bx B0 D _ [(w, .inr (9, [.int f1157_0, .ref f1157_1, .int (nI ((κ w).2.2.1)), .int (nI f1157_3), .int (nI f1157_4), .int f1157_5, .int f1157_6, .int f1157_7, .ref (κ w).2.2.2, .ref f1157_9, .ref f1157_10, .ref f1157_11, .int (nI f1157_12), .int f1157_13, .int f1157_14, .int f1157_15, .int f1157_16, .ref f1157_17]))] [] _ _ := Bx.of (fun a => (κ a).1) hL hP (fa_c hb1157 fa_n) (by simp only [List.map_cons, List.map_nil, hw.1]; decide)
  refine b_put (D := D) (ci := 9) (v := .int 0) (ty := .int) (C := RX9) (T := TX9) (N := 18) hx hb hts iX9_power_9 tyX9 tyX9_ok nmX9 hown hN hB 0 rfl rfl 0 (by decide) (hts _ mX9_power_1) (fun _ h9 => h9) rfl (by decide +kernel) rfl rfl (Nat.le_of_ble_eq_true rfl) (.inl rfl) dX9_power_2 (fun H locs hB => ?_)
  have hB : Bx B0 D _ [(w, .inr (9, [.int 0, .ref f1157_1, .int (nI ((κ w).2.2.1)), .int (nI f1157_3), .int (nI f1157_4), .int f1157_5, .int f1157_6, .int f1157_7, .ref (κ w).2.2.2, .ref f1157_9, .ref f1157_10, .ref f1157_11, .int (nI f1157_12), .int f1157_13, .int f1157_14, .int f1157_15, .int f1157_16, .ref f1157_17]))] [w] _ _ := hB
  refine lv_aload_n hx hb dX9_power_5 rfl (lv_at hl 0 rfl) ?_
  refine lv_iload_n hx hb dX9_power_6 rfl (lv_at hl 1 rfl) ?_
  have hT : WT B0 D cs T κ _ := hT.close hB ⟨⟨0, _, rfl, ok_10 hw.1 ⟨_, _, _, _, _, _, _, _, _, _, _, _, _, _, _, _, rfl, (by omega), (by omega), (by omega), (by omega), t1157_1, t1157_8, t1157_9, c1157_sd, t1157_10, t1157_11, t1157_17⟩⟩, trivial⟩
  have hF : Fr B0 [12, 18] κ H0 _ := hF.close hB (fa_c (by simp [hw.2]) fa_n)
  have hL : OkL B0 _ := hB.2.2.2.2.2
  have hP : va_P D vwCl [(w, .inr (9, [.int 0, .ref f1157_1, .int (nI ((κ w).2.2.1)), .int (nI f1157_3), .int (nI f1157_4), .int f1157_5, .int f1157_6, .int f1157_7, .ref (κ w).2.2.2, .ref f1157_9, .ref f1157_10, .ref f1157_11, .int (nI f1157_12), .int f1157_13, .int f1157_14, .int f1157_15, .int f1157_16, .ref f1157_17]))] _ := hB.1
  refine cv_i (As := [.int x]) (rest := []) (b := w) ⟨hx, hb, hml, hown, hts⟩ (c_X9_noPlayer hT (w := w) hw (x := x)) (cwV 1 hts gX9_power_X9_noPlayer rfl rfl rfl hdX9_noPlayer_v ⟨Nat.le_of_ble_eq_true rfl, Nat.le_of_ble_eq_true rfl⟩) hN hE hL (rcv10 hN hT hw.1) rfl rfl hl.1 (Nat.le_of_ble_eq_true rfl) dX9_power_7 (Nat.zero_le _) (Nat.zero_le _) (fun r1158 H1 locs hL hqr1158 => ?_)
  obtain ⟨hT1, hF1, hqr1158⟩ := hqr1158
  have hF := hF.tr (hF1.mono (by simp))
  have hT := hT1
  rcases hqr1158 with rfl | ⟨rfl, n1159, h1160, rfl⟩
  · refine lv_if_eq (tgt := 15) hx hb dX9_power_10 (by decide) (fun c9 => absurd c9 (by decide)) (fun _ => ?_)
    refine lv_iconst (v := 0) hx hb dX9_power_13 (by decide) ?_
    exact en_i hx hb hr hlocks hL rfl (Nat.zero_le _) (Nat.zero_le _) dX9_power_14 (⟨hT, hF, Or.inl rfl⟩)
  · refine lv_if_eq (tgt := 15) hx hb dX9_power_10 (by decide) (fun _ => ?_) (fun c9 => absurd (by decide) c9)
    refine lv_aload_n hx hb dX9_power_15 rfl (lv_at hl 0 rfl) ?_
    refine cv_v (As := []) (rest := []) (b := w) ⟨hx, hb, hml, hown, hts⟩ (c_X9_remember hT (w := w) hw) (cwV 0 hts gX9_power_X9_remember rfl rfl rfl hdX9_remember_v ⟨Nat.le_of_ble_eq_true rfl, Nat.le_of_ble_eq_true rfl⟩) hN hE hL (rcv10 hN hT hw.1) rfl rfl hl.1 (Nat.le_of_ble_eq_true rfl) dX9_power_16 (Nat.zero_le _) (Nat.zero_le _) (fun H1 locs hL hqr1161 => ?_)
    obtain ⟨hT1, hF1⟩ := hqr1161
    have hF := hF.tr (hF1.mono (by simp))
    have hT := hT1
    refine lv_aload_n hx hb dX9_power_19 rfl (lv_at hl 0 rfl) ?_
    refine lv_iload_n hx hb dX9_power_20 rfl (lv_at hl 1 rfl) ?_
    refine cv_i (As := [.int (nI n1159)]) (rest := []) (b := w) ⟨hx, hb, hml, hown, hts⟩ (c_X9_isUp hT (w := w) hw (n := n1159) (by first | omega | decide | assumption)) (cwV 1 hts gX9_power_X9_isUp rfl rfl rfl hdX9_isUp_v ⟨Nat.le_of_ble_eq_true rfl, Nat.le_of_ble_eq_true rfl⟩) hN hE hL (rcv10 hN hT hw.1) rfl rfl hl.1 (Nat.le_of_ble_eq_true rfl) dX9_power_21 (Nat.zero_le _) (Nat.zero_le _) (fun r1162 H1 locs hL hqr1162 => ?_)
    obtain ⟨h9, hqr1162⟩ := hqr1162; replace h9 := h9.symm; subst h9
    rcases hqr1162 with rfl | rfl
    · refine lv_istore_n (lv' := [(3, .int 0), (0, .ref w), (1, .int (nI n1159)), (2, .int y)]) hx hb dX9_power_24 rfl hl (by decide) rfl (fun ls hl => ?_)
      refine lv_aload_n hx hb dX9_power_25 rfl (lv_at hl 1 rfl) ?_
      refine lv_iload_n hx hb dX9_power_26 rfl (lv_at hl 2 rfl) ?_
      refine lv_iconst (v := 0) hx hb dX9_power_27 (by decide) ?_
      refine lv_iload_n hx hb dX9_power_28 rfl (lv_at hl 3 rfl) ?_
      refine lv_if_eq (tgt := 36) hx hb dX9_power_29 (by decide) (fun c1163 => ?_) (fun c1163 => ?_)
      · refine lv_iconst (v := 0) hx hb dX9_power_36 (by decide) ?_
        refine cv_v (As := [.int (nI n1159), .int 0, .int 0]) (rest := []) (b := w) ⟨hx, hb, hml, hown, hts⟩ (c_X9_set hT (w := w) hw (n := n1159) (k := 0) (x := 0) (by first | omega | decide | assumption) (by first | omega | decide | assumption)) (cwV 3 hts gX9_power_X9_set rfl rfl rfl hdX9_set_v ⟨Nat.le_of_ble_eq_true rfl, Nat.le_of_ble_eq_true rfl⟩) hN hE hL (rcv10 hN hT hw.1) rfl rfl hl.1 (Nat.le_of_ble_eq_true rfl) dX9_power_37 (Nat.zero_le _) (Nat.zero_le _) (fun H1 locs hL hqr1164 => ?_)
        obtain ⟨hT1, hF1⟩ := hqr1164
        have hF := hF.tr (hF1.mono (by simp))
        have hT := hT1
        refine lv_iload_n hx hb dX9_power_40 rfl (lv_at hl 3 rfl) ?_
        refine lv_if_ne (tgt := 49) hx hb dX9_power_41 (by decide) (fun c1165 => ?_) (fun c1165 => ?_)
        · refine lv_iload_n hx hb dX9_power_49 rfl (lv_at hl 0 rfl) ?_
          exact en_i hx hb hr hlocks hL rfl (Nat.zero_le _) (Nat.zero_le _) dX9_power_50 (⟨hT, hF, Or.inl rfl⟩)
        · refine lv_aload_n hx hb dX9_power_44 rfl (lv_at hl 1 rfl) ?_
          refine lv_iload_n hx hb dX9_power_45 rfl (lv_at hl 2 rfl) ?_
          refine cv_v (As := [.int (nI n1159)]) (rest := []) (b := w) ⟨hx, hb, hml, hown, hts⟩ (c_X9_dropPlan hT (w := w) hw (n := n1159) (by first | omega | decide | assumption)) (cwV 1 hts gX9_power_X9_dropPlan rfl rfl rfl hdX9_dropPlan_v ⟨Nat.le_of_ble_eq_true rfl, Nat.le_of_ble_eq_true rfl⟩) hN hE hL (rcv10 hN hT hw.1) rfl rfl hl.1 (Nat.le_of_ble_eq_true rfl) dX9_power_46 (Nat.zero_le _) (Nat.zero_le _) (fun H1 locs hL hqr1166 => ?_)
          obtain ⟨hT1, hF1⟩ := hqr1166
          have hF := hF.tr (hF1.mono (by simp))
          have hT := hT1
          refine lv_iload_n hx hb dX9_power_49 rfl (lv_at hl 0 rfl) ?_
          exact en_i hx hb hr hlocks hL rfl (Nat.zero_le _) (Nat.zero_le _) dX9_power_50 (⟨hT, hF, Or.inl rfl⟩)
      · refine lv_iconst (v := 1) hx hb dX9_power_32 (by decide) ?_
        refine lv_goto (tgt := 37) hx hb dX9_power_33 (by decide) ?_
        refine cv_v (As := [.int (nI n1159), .int 0, .int 1]) (rest := []) (b := w) ⟨hx, hb, hml, hown, hts⟩ (c_X9_set hT (w := w) hw (n := n1159) (k := 0) (x := 1) (by first | omega | decide | assumption) (by first | omega | decide | assumption)) (cwV 3 hts gX9_power_X9_set rfl rfl rfl hdX9_set_v ⟨Nat.le_of_ble_eq_true rfl, Nat.le_of_ble_eq_true rfl⟩) hN hE hL (rcv10 hN hT hw.1) rfl rfl hl.1 (Nat.le_of_ble_eq_true rfl) dX9_power_37 (Nat.zero_le _) (Nat.zero_le _) (fun H1 locs hL hqr1167 => ?_)
        obtain ⟨hT1, hF1⟩ := hqr1167
        have hF := hF.tr (hF1.mono (by simp))
        have hT := hT1
        refine lv_iload_n hx hb dX9_power_40 rfl (lv_at hl 3 rfl) ?_
        refine lv_if_ne (tgt := 49) hx hb dX9_power_41 (by decide) (fun c1168 => ?_) (fun c1168 => ?_)
        · refine lv_iload_n hx hb dX9_power_49 rfl (lv_at hl 0 rfl) ?_
          exact en_i hx hb hr hlocks hL rfl (Nat.zero_le _) (Nat.zero_le _) dX9_power_50 (⟨hT, hF, Or.inl rfl⟩)
        · refine lv_aload_n hx hb dX9_power_44 rfl (lv_at hl 1 rfl) ?_
          refine lv_iload_n hx hb dX9_power_45 rfl (lv_at hl 2 rfl) ?_
          refine cv_v (As := [.int (nI n1159)]) (rest := []) (b := w) ⟨hx, hb, hml, hown, hts⟩ (c_X9_dropPlan hT (w := w) hw (n := n1159) (by first | omega | decide | assumption)) (cwV 1 hts gX9_power_X9_dropPlan rfl rfl rfl hdX9_dropPlan_v ⟨Nat.le_of_ble_eq_true rfl, Nat.le_of_ble_eq_true rfl⟩) hN hE hL (rcv10 hN hT hw.1) rfl rfl hl.1 (Nat.le_of_ble_eq_true rfl) dX9_power_46 (Nat.zero_le _) (Nat.zero_le _) (fun H1 locs hL hqr1169 => ?_)
          obtain ⟨hT1, hF1⟩ := hqr1169
          have hF := hF.tr (hF1.mono (by simp))
          have hT := hT1
          refine lv_iload_n hx hb dX9_power_49 rfl (lv_at hl 0 rfl) ?_
          exact en_i hx hb hr hlocks hL rfl (Nat.zero_le _) (Nat.zero_le _) dX9_power_50 (⟨hT, hF, Or.inl rfl⟩)
    · refine lv_istore_n (lv' := [(3, .int 1), (0, .ref w), (1, .int (nI n1159)), (2, .int y)]) hx hb dX9_power_24 rfl hl (by decide) rfl (fun ls hl => ?_)
      refine lv_aload_n hx hb dX9_power_25 rfl (lv_at hl 1 rfl) ?_
      refine lv_iload_n hx hb dX9_power_26 rfl (lv_at hl 2 rfl) ?_
      refine lv_iconst (v := 0) hx hb dX9_power_27 (by decide) ?_
      refine lv_iload_n hx hb dX9_power_28 rfl (lv_at hl 3 rfl) ?_
      refine lv_if_eq (tgt := 36) hx hb dX9_power_29 (by decide) (fun c1170 => ?_) (fun c1170 => ?_)
      · refine lv_iconst (v := 0) hx hb dX9_power_36 (by decide) ?_
        refine cv_v (As := [.int (nI n1159), .int 0, .int 0]) (rest := []) (b := w) ⟨hx, hb, hml, hown, hts⟩ (c_X9_set hT (w := w) hw (n := n1159) (k := 0) (x := 0) (by first | omega | decide | assumption) (by first | omega | decide | assumption)) (cwV 3 hts gX9_power_X9_set rfl rfl rfl hdX9_set_v ⟨Nat.le_of_ble_eq_true rfl, Nat.le_of_ble_eq_true rfl⟩) hN hE hL (rcv10 hN hT hw.1) rfl rfl hl.1 (Nat.le_of_ble_eq_true rfl) dX9_power_37 (Nat.zero_le _) (Nat.zero_le _) (fun H1 locs hL hqr1171 => ?_)
        obtain ⟨hT1, hF1⟩ := hqr1171
        have hF := hF.tr (hF1.mono (by simp))
        have hT := hT1
        refine lv_iload_n hx hb dX9_power_40 rfl (lv_at hl 3 rfl) ?_
        refine lv_if_ne (tgt := 49) hx hb dX9_power_41 (by decide) (fun c1172 => ?_) (fun c1172 => ?_)
        · refine lv_iload_n hx hb dX9_power_49 rfl (lv_at hl 0 rfl) ?_
          exact en_i hx hb hr hlocks hL rfl (Nat.zero_le _) (Nat.zero_le _) dX9_power_50 (⟨hT, hF, Or.inr rfl⟩)
        · refine lv_aload_n hx hb dX9_power_44 rfl (lv_at hl 1 rfl) ?_
          refine lv_iload_n hx hb dX9_power_45 rfl (lv_at hl 2 rfl) ?_
          refine cv_v (As := [.int (nI n1159)]) (rest := []) (b := w) ⟨hx, hb, hml, hown, hts⟩ (c_X9_dropPlan hT (w := w) hw (n := n1159) (by first | omega | decide | assumption)) (cwV 1 hts gX9_power_X9_dropPlan rfl rfl rfl hdX9_dropPlan_v ⟨Nat.le_of_ble_eq_true rfl, Nat.le_of_ble_eq_true rfl⟩) hN hE hL (rcv10 hN hT hw.1) rfl rfl hl.1 (Nat.le_of_ble_eq_true rfl) dX9_power_46 (Nat.zero_le _) (Nat.zero_le _) (fun H1 locs hL hqr1173 => ?_)
          obtain ⟨hT1, hF1⟩ := hqr1173
          have hF := hF.tr (hF1.mono (by simp))
          have hT := hT1
          refine lv_iload_n hx hb dX9_power_49 rfl (lv_at hl 0 rfl) ?_
          exact en_i hx hb hr hlocks hL rfl (Nat.zero_le _) (Nat.zero_le _) dX9_power_50 (⟨hT, hF, Or.inr rfl⟩)
      · refine lv_iconst (v := 1) hx hb dX9_power_32 (by decide) ?_
        refine lv_goto (tgt := 37) hx hb dX9_power_33 (by decide) ?_
        refine cv_v (As := [.int (nI n1159), .int 0, .int 1]) (rest := []) (b := w) ⟨hx, hb, hml, hown, hts⟩ (c_X9_set hT (w := w) hw (n := n1159) (k := 0) (x := 1) (by first | omega | decide | assumption) (by first | omega | decide | assumption)) (cwV 3 hts gX9_power_X9_set rfl rfl rfl hdX9_set_v ⟨Nat.le_of_ble_eq_true rfl, Nat.le_of_ble_eq_true rfl⟩) hN hE hL (rcv10 hN hT hw.1) rfl rfl hl.1 (Nat.le_of_ble_eq_true rfl) dX9_power_37 (Nat.zero_le _) (Nat.zero_le _) (fun H1 locs hL hqr1174 => ?_)
        obtain ⟨hT1, hF1⟩ := hqr1174
        have hF := hF.tr (hF1.mono (by simp))
        have hT := hT1
        refine lv_iload_n hx hb dX9_power_40 rfl (lv_at hl 3 rfl) ?_
        refine lv_if_ne (tgt := 49) hx hb dX9_power_41 (by decide) (fun c1175 => ?_) (fun c1175 => ?_)
        · refine lv_iload_n hx hb dX9_power_49 rfl (lv_at hl 0 rfl) ?_
          exact en_i hx hb hr hlocks hL rfl (Nat.zero_le _) (Nat.zero_le _) dX9_power_50 (⟨hT, hF, Or.inr rfl⟩)
        · refine lv_aload_n hx hb dX9_power_44 rfl (lv_at hl 1 rfl) ?_
          refine lv_iload_n hx hb dX9_power_45 rfl (lv_at hl 2 rfl) ?_
          refine cv_v (As := [.int (nI n1159)]) (rest := []) (b := w) ⟨hx, hb, hml, hown, hts⟩ (c_X9_dropPlan hT (w := w) hw (n := n1159) (by first | omega | decide | assumption)) (cwV 1 hts gX9_power_X9_dropPlan rfl rfl rfl hdX9_dropPlan_v ⟨Nat.le_of_ble_eq_true rfl, Nat.le_of_ble_eq_true rfl⟩) hN hE hL (rcv10 hN hT hw.1) rfl rfl hl.1 (Nat.le_of_ble_eq_true rfl) dX9_power_46 (Nat.zero_le _) (Nat.zero_le _) (fun H1 locs hL hqr1176 => ?_)
          obtain ⟨hT1, hF1⟩ := hqr1176
          have hF := hF.tr (hF1.mono (by simp))
          have hT := hT1
          refine lv_iload_n hx hb dX9_power_49 rfl (lv_at hl 0 rfl) ?_
          exact en_i hx hb hr hlocks hL rfl (Nat.zero_le _) (Nat.zero_le _) dX9_power_50 (⟨hT, hF, Or.inr rfl⟩)
theorem mX9_cut_1 : (.fieldLink RX9 40 "OneBeatModel" "thrown" "I" : Cond) ∈ wsX9_cut := List.mem_of_getElem? (i := 1) (by decide +kernel)
theorem iX9_cut_9 : ∀ w ∈ wsX90, w ∈ wsX9_cut := fun w h => List.mem_of_mem_drop (List.mem_of_mem_take ((show wsX90 = (wsX9_cut.drop 31).take 18 by decide +kernel) ▸ h))
theorem mX9_cut_2 : (.fieldLink RX9 18 "OneBeatModel" "data" "[I" : Cond) ∈ wsX9_cut := List.mem_of_getElem? (i := 2) (by decide +kernel)
theorem mX9_cut_3 : (.methodLink RX9 297 Lib.Math.abs.name : Cond) ∈ wsX9_cut := List.mem_of_getElem? (i := 3) (by decide +kernel)
theorem mX9_cut_4 : (.static Lib.Math.abs.name : Cond) ∈ wsX9_cut := List.mem_of_getElem? (i := 4) (by decide +kernel)
theorem mX9_cut_5 : (.initialized "java/lang/Math" : Cond) ∈ wsX9_cut := List.mem_of_getElem? (i := 5) (by decide +kernel)
theorem mX9_cut_6 : (.code Lib.Math.abs.name Lib.Math.abs.code 1 (some .int) : Cond) ∈ wsX9_cut := List.mem_of_getElem? (i := 6) (by decide +kernel)
set_option maxHeartbeats 4000000 in
set_option maxRecDepth 100000 in
theorem c_X9_cut {l : Launch} {D : va_G} {cs : Nat → ClassId} {B0 T : Nat} {κ : KM} {H0 : Heap} (hT : WT B0 D cs T κ H0) {w : Nat} (hw : T2 κ w 10 12) {x : Int32} {y : Int32} {z : Int32} : KC l yX9_cut wsX9_cut 2 44 0 0 D cs B0 H0 [.ref w, .int x, .int y, .int z] (Qi (fun r H => WT B0 D cs T κ H ∧ Fr B0 [12, 18] κ H0 H ∧ (r = 0 ∨ r = 1))) := by
  refine KC.of cX9_cut 6 (some .boolean) (by decide) rfl (Nat.le_of_ble_eq_true rfl) ?_
  intro p e s m below meth c ls hx hb hr hml hown hts hlocks hin hN hE hH0 hl
  have hown : s.vm.findClass RX9 = some m.cls := hown
  have hl : lv_has ls 6 [(0, .ref w), (1, .int x), (2, .int y), (3, .int z)] := hl
  have hL : OkL B0 [] := OkL.nil
  have hF : Fr B0 [12, 18] κ H0 H0 := Fr.rf
  refine lv_aload_n hx hb dX9_cut_0 rfl (lv_at hl 0 rfl) ?_
  refine lv_iconst (v := 0) hx hb dX9_cut_1 (by decide) ?_
  obtain ⟨hb1177, e1177, hat1177, hk1177⟩ := hT.o10 hw.1
  obtain ⟨f1177_0, f1177_1, f1177_3, f1177_4, f1177_5, f1177_6, f1177_7, f1177_9, f1177_10, f1177_11, f1177_12, f1177_13, f1177_14, f1177_15, f1177_16, f1177_17, rfl, c1177_2, c1177_3, c1177_4, c1177_12, t1177_1, t1177_8, t1177_9, c1177_sd, t1177_10, t1177_11, t1177_17⟩ := hk1177
  have hP : va_P D vwCl [(w, .inr (9, [.int f1177_0, .ref f1177_1, .int (nI ((κ w).2.2.1)), .int (nI f1177_3), .int (nI f1177_4), .int f1177_5, .int f1177_6, .int f1177_7, .ref (κ w).2.2.2, .ref f1177_9, .ref f1177_10, .ref f1177_11, .int (nI f1177_12), .int f1177_13, .int f1177_14, .int f1177_15, .int f1177_16, .ref f1177_17]))] _ := va_P.cons hat1177 va_P.nil
  have hB : Bx B0 D _ [(w, .inr (9, [.int f1177_0, .ref f1177_1, .int (nI ((κ w).2.2.1)), .int (nI f1177_3), .int (nI f1177_4), .int f1177_5, .int f1177_6, .int f1177_7, .ref (κ w).2.2.2, .ref f1177_9, .ref f1177_10, .ref f1177_11, .int (nI f1177_12), .int f1177_13, .int f1177_14, .int f1177_15, .int f1177_16, .ref f1177_17]))] [] _ _ := Bx.of (fun a => (κ a).1) hL hP (fa_c hb1177 fa_n) (by simp only [List.map_cons, List.map_nil, hw.1]; decide)
  refine b_put (D := D) (ci := 9) (v := .int 0) (ty := .int) (C := RX9) (T := TX9) (N := 18) hx hb hts iX9_cut_9 tyX9 tyX9_ok nmX9 hown hN hB 0 rfl rfl 0 (by decide) (hts _ mX9_cut_1) (fun _ h9 => h9) rfl (by decide +kernel) rfl rfl (Nat.le_of_ble_eq_true rfl) (.inl rfl) dX9_cut_2 (fun H locs hB => ?_)
  have hB : Bx B0 D _ [(w, .inr (9, [.int 0, .ref f1177_1, .int (nI ((κ w).2.2.1)), .int (nI f1177_3), .int (nI f1177_4), .int f1177_5, .int f1177_6, .int f1177_7, .ref (κ w).2.2.2, .ref f1177_9, .ref f1177_10, .ref f1177_11, .int (nI f1177_12), .int f1177_13, .int f1177_14, .int f1177_15, .int f1177_16, .ref f1177_17]))] [w] _ _ := hB
  refine lv_aload_n hx hb dX9_cut_5 rfl (lv_at hl 0 rfl) ?_
  refine lv_iload_n hx hb dX9_cut_6 rfl (lv_at hl 1 rfl) ?_
  have hT : WT B0 D cs T κ _ := hT.close hB ⟨⟨0, _, rfl, ok_10 hw.1 ⟨_, _, _, _, _, _, _, _, _, _, _, _, _, _, _, _, rfl, (by omega), (by omega), (by omega), (by omega), t1177_1, t1177_8, t1177_9, c1177_sd, t1177_10, t1177_11, t1177_17⟩⟩, trivial⟩
  have hF : Fr B0 [12, 18] κ H0 _ := hF.close hB (fa_c (by simp [hw.2]) fa_n)
  have hL : OkL B0 _ := hB.2.2.2.2.2
  have hP : va_P D vwCl [(w, .inr (9, [.int 0, .ref f1177_1, .int (nI ((κ w).2.2.1)), .int (nI f1177_3), .int (nI f1177_4), .int f1177_5, .int f1177_6, .int f1177_7, .ref (κ w).2.2.2, .ref f1177_9, .ref f1177_10, .ref f1177_11, .int (nI f1177_12), .int f1177_13, .int f1177_14, .int f1177_15, .int f1177_16, .ref f1177_17]))] _ := hB.1
  refine cv_i (As := [.int x]) (rest := []) (b := w) ⟨hx, hb, hml, hown, hts⟩ (c_X9_noPlayer hT (w := w) hw (x := x)) (cwV 1 hts gX9_cut_X9_noPlayer rfl rfl rfl hdX9_noPlayer_v ⟨Nat.le_of_ble_eq_true rfl, Nat.le_of_ble_eq_true rfl⟩) hN hE hL (rcv10 hN hT hw.1) rfl rfl hl.1 (Nat.le_of_ble_eq_true rfl) dX9_cut_7 (Nat.zero_le _) (Nat.zero_le _) (fun r1178 H1 locs hL hqr1178 => ?_)
  obtain ⟨hT1, hF1, hqr1178⟩ := hqr1178
  have hF := hF.tr (hF1.mono (by simp))
  have hT := hT1
  rcases hqr1178 with rfl | ⟨rfl, n1179, h1180, rfl⟩
  · refine lv_if_ne (tgt := 47) hx hb dX9_cut_10 (by decide) (fun _ => ?_) (fun c9 => absurd c9 (by decide))
    refine lv_iconst (v := 0) hx hb dX9_cut_47 (by decide) ?_
    exact en_i hx hb hr hlocks hL rfl (Nat.zero_le _) (Nat.zero_le _) dX9_cut_48 (⟨hT, hF, Or.inl rfl⟩)
  · refine lv_if_ne (tgt := 47) hx hb dX9_cut_10 (by decide) (fun c9 => absurd (by decide) c9) (fun _ => ?_)
    refine lv_aload_n hx hb dX9_cut_13 rfl (lv_at hl 0 rfl) ?_
    refine lv_iload_n hx hb dX9_cut_14 rfl (lv_at hl 2 rfl) ?_
    refine cv_i (As := [.int y]) (rest := []) (b := w) ⟨hx, hb, hml, hown, hts⟩ (c_X9_noPlayer hT (w := w) hw (x := y)) (cwV 1 hts gX9_cut_X9_noPlayer rfl rfl rfl hdX9_noPlayer_v ⟨Nat.le_of_ble_eq_true rfl, Nat.le_of_ble_eq_true rfl⟩) hN hE hL (rcv10 hN hT hw.1) rfl rfl hl.1 (Nat.le_of_ble_eq_true rfl) dX9_cut_15 (Nat.zero_le _) (Nat.zero_le _) (fun r1181 H1 locs hL hqr1181 => ?_)
    obtain ⟨hT1, hF1, hqr1181⟩ := hqr1181
    have hF := hF.tr (hF1.mono (by simp))
    have hT := hT1
    rcases hqr1181 with rfl | ⟨rfl, n1182, h1183, rfl⟩
    · refine lv_if_ne (tgt := 47) hx hb dX9_cut_18 (by decide) (fun _ => ?_) (fun c9 => absurd c9 (by decide))
      refine lv_iconst (v := 0) hx hb dX9_cut_47 (by decide) ?_
      exact en_i hx hb hr hlocks hL rfl (Nat.zero_le _) (Nat.zero_le _) dX9_cut_48 (⟨hT, hF, Or.inl rfl⟩)
    · refine lv_if_ne (tgt := 47) hx hb dX9_cut_18 (by decide) (fun c9 => absurd (by decide) c9) (fun _ => ?_)
      refine lv_aload_n hx hb dX9_cut_21 rfl (lv_at hl 0 rfl) ?_
      refine lv_aload_n hx hb dX9_cut_22 rfl (lv_at hl 0 rfl) ?_
      obtain ⟨hb1184, e1184, hat1184, hk1184⟩ := hT.o10 hw.1
      obtain ⟨f1184_0, f1184_1, f1184_3, f1184_4, f1184_5, f1184_6, f1184_7, f1184_9, f1184_10, f1184_11, f1184_12, f1184_13, f1184_14, f1184_15, f1184_16, f1184_17, rfl, c1184_2, c1184_3, c1184_4, c1184_12, t1184_1, t1184_8, t1184_9, c1184_sd, t1184_10, t1184_11, t1184_17⟩ := hk1184
      have hP : va_P D vwCl [(w, .inr (9, [.int f1184_0, .ref f1184_1, .int (nI ((κ w).2.2.1)), .int (nI f1184_3), .int (nI f1184_4), .int f1184_5, .int f1184_6, .int f1184_7, .ref (κ w).2.2.2, .ref f1184_9, .ref f1184_10, .ref f1184_11, .int (nI f1184_12), .int f1184_13, .int f1184_14, .int f1184_15, .int f1184_16, .ref f1184_17]))] _ := va_P.cons hat1184 va_P.nil
      refine va_get (D := D) (ci := 9) (v := .ref (κ w).2.2.2) (C := RX9) (T := TX9) (N := 18) hx hb hts iX9_cut_9 hown hN.1 hP 0 rfl rfl 8 (by decide) (hts _ mX9_cut_2) (fun _ h9 => h9) rfl dX9_cut_23 ?_
      refine lv_iload_n hx hb dX9_cut_26 rfl (lv_at hl 1 rfl) ?_
      refine lv_iload_n hx hb dX9_cut_27 rfl (lv_at hl 2 rfl) ?_
      refine cs_i (As := [.int (nI n1179), .int (nI n1182)]) (rest := [.ref (κ w).2.2.2, .ref w]) ⟨hx, hb, hml, hown, hts⟩ (c_X9_linkAt hT (n := n1179) (k := n1182) (by first | omega | decide | assumption) (by first | omega | decide | assumption)) (va_cwS 2 hts gX9_cut_X9_linkAt rfl rfl rfl hdX9_linkAt_o ⟨Nat.le_of_ble_eq_true rfl, Nat.le_of_ble_eq_true rfl⟩) hN hE hL rfl rfl hl.1 (Nat.le_of_ble_eq_true rfl) dX9_cut_28 (Nat.zero_le _) (Nat.zero_le _) (fun r1185 H1 locs hL hqr1185 => ?_)
      obtain ⟨h9, hqr1185⟩ := hqr1185; replace h9 := h9.symm; subst h9
      obtain rfl := hqr1185
      obtain ⟨hb1186, e1186, hat1186, hk1186⟩ := hT.o24 t1184_8.1
      obtain ⟨g1186, rfl, q1186⟩ := hk1186
      have hP : va_P D vwCl [((κ w).2.2.2, .inl (cs 0, 45783, .inl g1186)), (w, .inr (9, [.int f1184_0, .ref f1184_1, .int (nI ((κ w).2.2.1)), .int (nI f1184_3), .int (nI f1184_4), .int f1184_5, .int f1184_6, .int f1184_7, .ref (κ w).2.2.2, .ref f1184_9, .ref f1184_10, .ref f1184_11, .int (nI f1184_12), .int f1184_13, .int f1184_14, .int f1184_15, .int f1184_16, .ref f1184_17]))] _ := va_P.cons hat1186 hP
      refine ld_i (v := (g1186 (119 + 8 * n1179 + n1182))) hx hb hN hP 0 rfl (vp_in_nI (n := (119 + 8 * n1179 + n1182)) (N := 45783) (by omega) (by omega)) (by rw [(show ((nI (119 + 8 * n1179 + n1182)) : Int32).toNatClampNeg = (119 + 8 * n1179 + n1182) from nI_clamp (n := (119 + 8 * n1179 + n1182)) (by omega))]) dX9_cut_31 ?_
      refine gn_i (fun x1187 => ?_)
      refine lv_if_ne (tgt := 39) hx hb dX9_cut_32 (by decide) (fun c1188 => ?_) (fun c1188 => ?_)
      · refine lv_iconst (v := 0) hx hb dX9_cut_39 (by decide) ?_
        refine lv_iconst (v := 2) hx hb dX9_cut_40 (by decide) ?_
        refine cv_i (As := [.int 0, .int 2]) (rest := []) (b := w) ⟨hx, hb, hml, hown, hts⟩ (c_X9_fails hT (w := w) hw (x := 0) (z := 2) ((by decide))) (cwV 2 hts gX9_cut_X9_fails rfl rfl rfl hdX9_fails_v ⟨Nat.le_of_ble_eq_true rfl, Nat.le_of_ble_eq_true rfl⟩) hN hE hL (rcv10 hN hT hw.1) rfl rfl hl.1 (Nat.le_of_ble_eq_true rfl) dX9_cut_41 (Nat.zero_le _) (Nat.zero_le _) (fun r1189 H1 locs hL hqr1189 => ?_)
        obtain ⟨hT1, hF1, hqr1189⟩ := hqr1189
        have hP : va_P D vwCl [((κ w).2.2.2, .inl (cs 0, 45783, .inl g1186))] _ := hF1.hP (hP.sub [0] rfl) (fa_c ⟨by rw [t1184_8.1]; decide, by rw [t1184_8.2]; first | decide | (simp; done) | (simp [h15a, h15b, h15c]; done) | (simp; omega)⟩ fa_n)
        have hF := hF.tr (hF1.mono (by simp))
        have hT := hT1
        rcases hqr1189 with rfl | ⟨rfl, e1190⟩
        · refine lv_if_eq (tgt := 49) hx hb dX9_cut_44 (by decide) (fun c9 => absurd c9 (by decide)) (fun _ => ?_)
          refine lv_iconst (v := 0) hx hb dX9_cut_47 (by decide) ?_
          exact en_i hx hb hr hlocks hL rfl (Nat.zero_le _) (Nat.zero_le _) dX9_cut_48 (⟨hT, hF, Or.inl rfl⟩)
        · refine lv_if_eq (tgt := 49) hx hb dX9_cut_44 (by decide) (fun _ => ?_) (fun c9 => absurd (by decide) c9)
          refine lv_aload_n hx hb dX9_cut_49 rfl (lv_at hl 0 rfl) ?_
          refine cv_v (As := []) (rest := []) (b := w) ⟨hx, hb, hml, hown, hts⟩ (c_X9_remember hT (w := w) hw) (cwV 0 hts gX9_cut_X9_remember rfl rfl rfl hdX9_remember_v ⟨Nat.le_of_ble_eq_true rfl, Nat.le_of_ble_eq_true rfl⟩) hN hE hL (rcv10 hN hT hw.1) rfl rfl hl.1 (Nat.le_of_ble_eq_true rfl) dX9_cut_50 (Nat.zero_le _) (Nat.zero_le _) (fun H1 locs hL hqr1191 => ?_)
          obtain ⟨hT1, hF1⟩ := hqr1191
          have hF := hF.tr (hF1.mono (by simp))
          have hT := hT1
          refine lv_iload_n hx hb dX9_cut_53 rfl (lv_at hl 1 rfl) ?_
          refine lv_iload_n hx hb dX9_cut_54 rfl (lv_at hl 2 rfl) ?_
          refine cs_i (As := [.int (nI n1179), .int (nI n1182)]) (rest := []) ⟨hx, hb, hml, hown, hts⟩ (c_X9_linkAt hT (n := n1179) (k := n1182) (by first | omega | decide | assumption) (by first | omega | decide | assumption)) (va_cwS 2 hts gX9_cut_X9_linkAt rfl rfl rfl hdX9_linkAt_o ⟨Nat.le_of_ble_eq_true rfl, Nat.le_of_ble_eq_true rfl⟩) hN hE hL rfl rfl hl.1 (Nat.le_of_ble_eq_true rfl) dX9_cut_55 (Nat.zero_le _) (Nat.zero_le _) (fun r1192 H1 locs hL hqr1192 => ?_)
          obtain ⟨h9, hqr1192⟩ := hqr1192; replace h9 := h9.symm; subst h9
          obtain rfl := hqr1192
          refine lv_istore (lv' := [(4, .int (nI (119 + 8 * n1179 + n1182))), (0, .ref w), (1, .int (nI n1179)), (2, .int (nI n1182)), (3, .int z)]) hx hb dX9_cut_58 hl (by decide) rfl (fun ls hl => ?_)
          refine lv_aload_n hx hb dX9_cut_60 rfl (lv_at hl 1 rfl) ?_
          obtain ⟨hb1193, e1193, hat1193, hk1193⟩ := hT.o10 hw.1
          obtain ⟨f1193_0, f1193_1, f1193_3, f1193_4, f1193_5, f1193_6, f1193_7, f1193_9, f1193_10, f1193_11, f1193_12, f1193_13, f1193_14, f1193_15, f1193_16, f1193_17, rfl, c1193_2, c1193_3, c1193_4, c1193_12, t1193_1, t1193_8, t1193_9, c1193_sd, t1193_10, t1193_11, t1193_17⟩ := hk1193
          have hP : va_P D vwCl [(w, .inr (9, [.int f1193_0, .ref f1193_1, .int (nI ((κ w).2.2.1)), .int (nI f1193_3), .int (nI f1193_4), .int f1193_5, .int f1193_6, .int f1193_7, .ref (κ w).2.2.2, .ref f1193_9, .ref f1193_10, .ref f1193_11, .int (nI f1193_12), .int f1193_13, .int f1193_14, .int f1193_15, .int f1193_16, .ref f1193_17]))] _ := va_P.cons hat1193 va_P.nil
          refine va_get (D := D) (ci := 9) (v := .ref (κ w).2.2.2) (C := RX9) (T := TX9) (N := 18) hx hb hts iX9_cut_9 hown hN.1 hP 0 rfl rfl 8 (by decide) (hts _ mX9_cut_2) (fun _ h9 => h9) rfl dX9_cut_61 ?_
          refine lv_iload hx hb dX9_cut_64 (lv_at hl 0 rfl) ?_
          obtain ⟨hb1194, e1194, hat1194, hk1194⟩ := hT.o24 t1193_8.1
          obtain ⟨g1194, rfl, q1194⟩ := hk1194
          have hP : va_P D vwCl [((κ w).2.2.2, .inl (cs 0, 45783, .inl g1194)), (w, .inr (9, [.int f1193_0, .ref f1193_1, .int (nI ((κ w).2.2.1)), .int (nI f1193_3), .int (nI f1193_4), .int f1193_5, .int f1193_6, .int f1193_7, .ref (κ w).2.2.2, .ref f1193_9, .ref f1193_10, .ref f1193_11, .int (nI f1193_12), .int f1193_13, .int f1193_14, .int f1193_15, .int f1193_16, .ref f1193_17]))] _ := va_P.cons hat1194 hP
          refine ld_i (v := (g1194 (119 + 8 * n1179 + n1182))) hx hb hN hP 0 rfl (vp_in_nI (n := (119 + 8 * n1179 + n1182)) (N := 45783) (by omega) (by omega)) (by rw [(show ((nI (119 + 8 * n1179 + n1182)) : Int32).toNatClampNeg = (119 + 8 * n1179 + n1182) from nI_clamp (n := (119 + 8 * n1179 + n1182)) (by omega))]) dX9_cut_66 ?_
          refine gn_i (fun x1195 => ?_)
          refine lv_if_ge (tgt := 74) hx hb dX9_cut_67 (by decide) (fun c1196 => ?_) (fun c1196 => ?_)
          · refine lv_iconst (v := 0) hx hb dX9_cut_74 (by decide) ?_
            refine lv_istore (lv' := [(5, .int 0), (4, .int (nI (119 + 8 * n1179 + n1182))), (0, .ref w), (1, .int (nI n1179)), (2, .int (nI n1182)), (3, .int z)]) hx hb dX9_cut_75 hl (by decide) rfl (fun ls hl => ?_)
            refine lv_aload_n hx hb dX9_cut_77 rfl (lv_at hl 2 rfl) ?_
            refine va_get (D := D) (ci := 9) (v := .ref (κ w).2.2.2) (C := RX9) (T := TX9) (N := 18) hx hb hts iX9_cut_9 hown hN.1 hP 1 rfl rfl 8 (by decide) (hts _ mX9_cut_2) (fun _ h9 => h9) rfl dX9_cut_78 ?_
            refine lv_iload hx hb dX9_cut_81 (lv_at hl 1 rfl) ?_
            refine lv_iload_n hx hb dX9_cut_83 rfl (lv_at hl 5 rfl) ?_
            refine lv_if_eq (tgt := 101) hx hb dX9_cut_84 (by decide) (fun c1197 => ?_) (fun c1197 => ?_)
            · refine lv_aload_n hx hb dX9_cut_101 rfl (lv_at hl 2 rfl) ?_
              refine va_get (D := D) (ci := 9) (v := .ref (κ w).2.2.2) (C := RX9) (T := TX9) (N := 18) hx hb hts iX9_cut_9 hown hN.1 hP 1 rfl rfl 8 (by decide) (hts _ mX9_cut_2) (fun _ h9 => h9) rfl dX9_cut_102 ?_
              refine lv_iload hx hb dX9_cut_105 (lv_at hl 1 rfl) ?_
              refine ld_i (v := (g1194 (119 + 8 * n1179 + n1182))) hx hb hN hP 0 rfl (vp_in_nI (n := (119 + 8 * n1179 + n1182)) (N := 45783) (by omega) (by omega)) (by rw [(show ((nI (119 + 8 * n1179 + n1182)) : Int32).toNatClampNeg = (119 + 8 * n1179 + n1182) from nI_clamp (n := (119 + 8 * n1179 + n1182)) (by omega))]) dX9_cut_107 ?_
              refine gn_i (fun x1198 => ?_)
              refine va_mabs hx hb (hml.trans hl.1.symm) hown (hts _ mX9_cut_3) (hts _ mX9_cut_4) (hts _ mX9_cut_5) (hts _ mX9_cut_6) (Nat.le_of_ble_eq_true rfl) (Nat.le_of_ble_eq_true rfl) (Nat.zero_le _) (Nat.zero_le _) dX9_cut_108 ?_
              refine gn_i (fun x1199 => ?_)
              have hB : Bx B0 D _ [((κ w).2.2.2, .inl (cs 0, 45783, .inl g1194)), (w, .inr (9, [.int f1193_0, .ref f1193_1, .int (nI ((κ w).2.2.1)), .int (nI f1193_3), .int (nI f1193_4), .int f1193_5, .int f1193_6, .int f1193_7, .ref (κ w).2.2.2, .ref f1193_9, .ref f1193_10, .ref f1193_11, .int (nI f1193_12), .int f1193_13, .int f1193_14, .int f1193_15, .int f1193_16, .ref f1193_17]))] [] _ _ := Bx.of (fun a => (κ a).1) hL hP (fa_c hb1194 (fa_c hb1193 fa_n)) (by simp only [List.map_cons, List.map_nil, t1193_8.1, hw.1]; decide)
              refine b_i hx hb hN hB 0 rfl (vp_in_nI (n := (119 + 8 * n1179 + n1182)) (N := 45783) (by omega) (by omega)) (.inl rfl) dX9_cut_111 (fun H locs hB => ?_)
              rw [(show ((nI (119 + 8 * n1179 + n1182)) : Int32).toNatClampNeg = (119 + 8 * n1179 + n1182) from nI_clamp (n := (119 + 8 * n1179 + n1182)) (by omega))] at hB
              have hB : Bx B0 D _ [((κ w).2.2.2, .inl (cs 0, 45783, .inl (upd g1194 (119 + 8 * n1179 + n1182) x1199))), (w, .inr (9, [.int f1193_0, .ref f1193_1, .int (nI ((κ w).2.2.1)), .int (nI f1193_3), .int (nI f1193_4), .int f1193_5, .int f1193_6, .int f1193_7, .ref (κ w).2.2.2, .ref f1193_9, .ref f1193_10, .ref f1193_11, .int (nI f1193_12), .int f1193_13, .int f1193_14, .int f1193_15, .int f1193_16, .ref f1193_17]))] [(κ w).2.2.2] _ _ := hB
              have z1200 := DOK.sf q1194 (k := (119 + 8 * n1179 + n1182)) (by omega) (x := x1199)
              refine lv_iload hx hb dX9_cut_112 (lv_at hl 0 rfl) ?_
              have hT : WT B0 D cs T κ _ := hT.close hB ⟨⟨0, _, rfl, ok_24 t1193_8.1 ⟨_, rfl, z1200⟩⟩, trivial⟩
              have hF : Fr B0 [12, 18] κ H0 _ := hF.close hB (fa_c (by simp [t1193_8.2]) fa_n)
              have hL : OkL B0 _ := hB.2.2.2.2.2
              have hP : va_P D vwCl [((κ w).2.2.2, .inl (cs 0, 45783, .inl (upd g1194 (119 + 8 * n1179 + n1182) x1199))), (w, .inr (9, [.int f1193_0, .ref f1193_1, .int (nI ((κ w).2.2.1)), .int (nI f1193_3), .int (nI f1193_4), .int f1193_5, .int f1193_6, .int f1193_7, .ref (κ w).2.2.2, .ref f1193_9, .ref f1193_10, .ref f1193_11, .int (nI f1193_12), .int f1193_13, .int f1193_14, .int f1193_15, .int f1193_16, .ref f1193_17]))] _ := hB.1
              exact en_i hx hb hr hlocks hL rfl (Nat.zero_le _) (Nat.zero_le _) dX9_cut_114 (⟨hT, hF, Or.inl rfl⟩)
            · refine lv_aload_n hx hb dX9_cut_87 rfl (lv_at hl 2 rfl) ?_
              refine va_get (D := D) (ci := 9) (v := .ref (κ w).2.2.2) (C := RX9) (T := TX9) (N := 18) hx hb hts iX9_cut_9 hown hN.1 hP 1 rfl rfl 8 (by decide) (hts _ mX9_cut_2) (fun _ h9 => h9) rfl dX9_cut_88 ?_
              refine lv_iload hx hb dX9_cut_91 (lv_at hl 1 rfl) ?_
              refine ld_i (v := (g1194 (119 + 8 * n1179 + n1182))) hx hb hN hP 0 rfl (vp_in_nI (n := (119 + 8 * n1179 + n1182)) (N := 45783) (by omega) (by omega)) (by rw [(show ((nI (119 + 8 * n1179 + n1182)) : Int32).toNatClampNeg = (119 + 8 * n1179 + n1182) from nI_clamp (n := (119 + 8 * n1179 + n1182)) (by omega))]) dX9_cut_93 ?_
              refine gn_i (fun x1201 => ?_)
              refine va_mabs hx hb (hml.trans hl.1.symm) hown (hts _ mX9_cut_3) (hts _ mX9_cut_4) (hts _ mX9_cut_5) (hts _ mX9_cut_6) (Nat.le_of_ble_eq_true rfl) (Nat.le_of_ble_eq_true rfl) (Nat.zero_le _) (Nat.zero_le _) dX9_cut_94 ?_
              refine gn_i (fun x1202 => ?_)
              refine lv_ineg hx hb dX9_cut_97 ?_
              refine gn_i (fun x1203 => ?_)
              refine lv_goto (tgt := 111) hx hb dX9_cut_98 (by decide) ?_
              have hB : Bx B0 D _ [((κ w).2.2.2, .inl (cs 0, 45783, .inl g1194)), (w, .inr (9, [.int f1193_0, .ref f1193_1, .int (nI ((κ w).2.2.1)), .int (nI f1193_3), .int (nI f1193_4), .int f1193_5, .int f1193_6, .int f1193_7, .ref (κ w).2.2.2, .ref f1193_9, .ref f1193_10, .ref f1193_11, .int (nI f1193_12), .int f1193_13, .int f1193_14, .int f1193_15, .int f1193_16, .ref f1193_17]))] [] _ _ := Bx.of (fun a => (κ a).1) hL hP (fa_c hb1194 (fa_c hb1193 fa_n)) (by simp only [List.map_cons, List.map_nil, t1193_8.1, hw.1]; decide)
              refine b_i hx hb hN hB 0 rfl (vp_in_nI (n := (119 + 8 * n1179 + n1182)) (N := 45783) (by omega) (by omega)) (.inl rfl) dX9_cut_111 (fun H locs hB => ?_)
              rw [(show ((nI (119 + 8 * n1179 + n1182)) : Int32).toNatClampNeg = (119 + 8 * n1179 + n1182) from nI_clamp (n := (119 + 8 * n1179 + n1182)) (by omega))] at hB
              have hB : Bx B0 D _ [((κ w).2.2.2, .inl (cs 0, 45783, .inl (upd g1194 (119 + 8 * n1179 + n1182) x1203))), (w, .inr (9, [.int f1193_0, .ref f1193_1, .int (nI ((κ w).2.2.1)), .int (nI f1193_3), .int (nI f1193_4), .int f1193_5, .int f1193_6, .int f1193_7, .ref (κ w).2.2.2, .ref f1193_9, .ref f1193_10, .ref f1193_11, .int (nI f1193_12), .int f1193_13, .int f1193_14, .int f1193_15, .int f1193_16, .ref f1193_17]))] [(κ w).2.2.2] _ _ := hB
              have z1204 := DOK.sf q1194 (k := (119 + 8 * n1179 + n1182)) (by omega) (x := x1203)
              refine lv_iload hx hb dX9_cut_112 (lv_at hl 0 rfl) ?_
              have hT : WT B0 D cs T κ _ := hT.close hB ⟨⟨0, _, rfl, ok_24 t1193_8.1 ⟨_, rfl, z1204⟩⟩, trivial⟩
              have hF : Fr B0 [12, 18] κ H0 _ := hF.close hB (fa_c (by simp [t1193_8.2]) fa_n)
              have hL : OkL B0 _ := hB.2.2.2.2.2
              have hP : va_P D vwCl [((κ w).2.2.2, .inl (cs 0, 45783, .inl (upd g1194 (119 + 8 * n1179 + n1182) x1203))), (w, .inr (9, [.int f1193_0, .ref f1193_1, .int (nI ((κ w).2.2.1)), .int (nI f1193_3), .int (nI f1193_4), .int f1193_5, .int f1193_6, .int f1193_7, .ref (κ w).2.2.2, .ref f1193_9, .ref f1193_10, .ref f1193_11, .int (nI f1193_12), .int f1193_13, .int f1193_14, .int f1193_15, .int f1193_16, .ref f1193_17]))] _ := hB.1
              exact en_i hx hb hr hlocks hL rfl (Nat.zero_le _) (Nat.zero_le _) dX9_cut_114 (⟨hT, hF, Or.inl rfl⟩)
          · refine lv_iconst (v := 1) hx hb dX9_cut_70 (by decide) ?_
            refine lv_goto (tgt := 75) hx hb dX9_cut_71 (by decide) ?_
            refine lv_istore (lv' := [(5, .int 1), (4, .int (nI (119 + 8 * n1179 + n1182))), (0, .ref w), (1, .int (nI n1179)), (2, .int (nI n1182)), (3, .int z)]) hx hb dX9_cut_75 hl (by decide) rfl (fun ls hl => ?_)
            refine lv_aload_n hx hb dX9_cut_77 rfl (lv_at hl 2 rfl) ?_
            refine va_get (D := D) (ci := 9) (v := .ref (κ w).2.2.2) (C := RX9) (T := TX9) (N := 18) hx hb hts iX9_cut_9 hown hN.1 hP 1 rfl rfl 8 (by decide) (hts _ mX9_cut_2) (fun _ h9 => h9) rfl dX9_cut_78 ?_
            refine lv_iload hx hb dX9_cut_81 (lv_at hl 1 rfl) ?_
            refine lv_iload_n hx hb dX9_cut_83 rfl (lv_at hl 5 rfl) ?_
            refine lv_if_eq (tgt := 101) hx hb dX9_cut_84 (by decide) (fun c1205 => ?_) (fun c1205 => ?_)
            · refine lv_aload_n hx hb dX9_cut_101 rfl (lv_at hl 2 rfl) ?_
              refine va_get (D := D) (ci := 9) (v := .ref (κ w).2.2.2) (C := RX9) (T := TX9) (N := 18) hx hb hts iX9_cut_9 hown hN.1 hP 1 rfl rfl 8 (by decide) (hts _ mX9_cut_2) (fun _ h9 => h9) rfl dX9_cut_102 ?_
              refine lv_iload hx hb dX9_cut_105 (lv_at hl 1 rfl) ?_
              refine ld_i (v := (g1194 (119 + 8 * n1179 + n1182))) hx hb hN hP 0 rfl (vp_in_nI (n := (119 + 8 * n1179 + n1182)) (N := 45783) (by omega) (by omega)) (by rw [(show ((nI (119 + 8 * n1179 + n1182)) : Int32).toNatClampNeg = (119 + 8 * n1179 + n1182) from nI_clamp (n := (119 + 8 * n1179 + n1182)) (by omega))]) dX9_cut_107 ?_
              refine gn_i (fun x1206 => ?_)
              refine va_mabs hx hb (hml.trans hl.1.symm) hown (hts _ mX9_cut_3) (hts _ mX9_cut_4) (hts _ mX9_cut_5) (hts _ mX9_cut_6) (Nat.le_of_ble_eq_true rfl) (Nat.le_of_ble_eq_true rfl) (Nat.zero_le _) (Nat.zero_le _) dX9_cut_108 ?_
              refine gn_i (fun x1207 => ?_)
              have hB : Bx B0 D _ [((κ w).2.2.2, .inl (cs 0, 45783, .inl g1194)), (w, .inr (9, [.int f1193_0, .ref f1193_1, .int (nI ((κ w).2.2.1)), .int (nI f1193_3), .int (nI f1193_4), .int f1193_5, .int f1193_6, .int f1193_7, .ref (κ w).2.2.2, .ref f1193_9, .ref f1193_10, .ref f1193_11, .int (nI f1193_12), .int f1193_13, .int f1193_14, .int f1193_15, .int f1193_16, .ref f1193_17]))] [] _ _ := Bx.of (fun a => (κ a).1) hL hP (fa_c hb1194 (fa_c hb1193 fa_n)) (by simp only [List.map_cons, List.map_nil, t1193_8.1, hw.1]; decide)
              refine b_i hx hb hN hB 0 rfl (vp_in_nI (n := (119 + 8 * n1179 + n1182)) (N := 45783) (by omega) (by omega)) (.inl rfl) dX9_cut_111 (fun H locs hB => ?_)
              rw [(show ((nI (119 + 8 * n1179 + n1182)) : Int32).toNatClampNeg = (119 + 8 * n1179 + n1182) from nI_clamp (n := (119 + 8 * n1179 + n1182)) (by omega))] at hB
              have hB : Bx B0 D _ [((κ w).2.2.2, .inl (cs 0, 45783, .inl (upd g1194 (119 + 8 * n1179 + n1182) x1207))), (w, .inr (9, [.int f1193_0, .ref f1193_1, .int (nI ((κ w).2.2.1)), .int (nI f1193_3), .int (nI f1193_4), .int f1193_5, .int f1193_6, .int f1193_7, .ref (κ w).2.2.2, .ref f1193_9, .ref f1193_10, .ref f1193_11, .int (nI f1193_12), .int f1193_13, .int f1193_14, .int f1193_15, .int f1193_16, .ref f1193_17]))] [(κ w).2.2.2] _ _ := hB
              have z1208 := DOK.sf q1194 (k := (119 + 8 * n1179 + n1182)) (by omega) (x := x1207)
              refine lv_iload hx hb dX9_cut_112 (lv_at hl 0 rfl) ?_
              have hT : WT B0 D cs T κ _ := hT.close hB ⟨⟨0, _, rfl, ok_24 t1193_8.1 ⟨_, rfl, z1208⟩⟩, trivial⟩
              have hF : Fr B0 [12, 18] κ H0 _ := hF.close hB (fa_c (by simp [t1193_8.2]) fa_n)
              have hL : OkL B0 _ := hB.2.2.2.2.2
              have hP : va_P D vwCl [((κ w).2.2.2, .inl (cs 0, 45783, .inl (upd g1194 (119 + 8 * n1179 + n1182) x1207))), (w, .inr (9, [.int f1193_0, .ref f1193_1, .int (nI ((κ w).2.2.1)), .int (nI f1193_3), .int (nI f1193_4), .int f1193_5, .int f1193_6, .int f1193_7, .ref (κ w).2.2.2, .ref f1193_9, .ref f1193_10, .ref f1193_11, .int (nI f1193_12), .int f1193_13, .int f1193_14, .int f1193_15, .int f1193_16, .ref f1193_17]))] _ := hB.1
              exact en_i hx hb hr hlocks hL rfl (Nat.zero_le _) (Nat.zero_le _) dX9_cut_114 (⟨hT, hF, Or.inr rfl⟩)
            · refine lv_aload_n hx hb dX9_cut_87 rfl (lv_at hl 2 rfl) ?_
              refine va_get (D := D) (ci := 9) (v := .ref (κ w).2.2.2) (C := RX9) (T := TX9) (N := 18) hx hb hts iX9_cut_9 hown hN.1 hP 1 rfl rfl 8 (by decide) (hts _ mX9_cut_2) (fun _ h9 => h9) rfl dX9_cut_88 ?_
              refine lv_iload hx hb dX9_cut_91 (lv_at hl 1 rfl) ?_
              refine ld_i (v := (g1194 (119 + 8 * n1179 + n1182))) hx hb hN hP 0 rfl (vp_in_nI (n := (119 + 8 * n1179 + n1182)) (N := 45783) (by omega) (by omega)) (by rw [(show ((nI (119 + 8 * n1179 + n1182)) : Int32).toNatClampNeg = (119 + 8 * n1179 + n1182) from nI_clamp (n := (119 + 8 * n1179 + n1182)) (by omega))]) dX9_cut_93 ?_
              refine gn_i (fun x1209 => ?_)
              refine va_mabs hx hb (hml.trans hl.1.symm) hown (hts _ mX9_cut_3) (hts _ mX9_cut_4) (hts _ mX9_cut_5) (hts _ mX9_cut_6) (Nat.le_of_ble_eq_true rfl) (Nat.le_of_ble_eq_true rfl) (Nat.zero_le _) (Nat.zero_le _) dX9_cut_94 ?_
              refine gn_i (fun x1210 => ?_)
              refine lv_ineg hx hb dX9_cut_97 ?_
              refine gn_i (fun x1211 => ?_)
              refine lv_goto (tgt := 111) hx hb dX9_cut_98 (by decide) ?_
              have hB : Bx B0 D _ [((κ w).2.2.2, .inl (cs 0, 45783, .inl g1194)), (w, .inr (9, [.int f1193_0, .ref f1193_1, .int (nI ((κ w).2.2.1)), .int (nI f1193_3), .int (nI f1193_4), .int f1193_5, .int f1193_6, .int f1193_7, .ref (κ w).2.2.2, .ref f1193_9, .ref f1193_10, .ref f1193_11, .int (nI f1193_12), .int f1193_13, .int f1193_14, .int f1193_15, .int f1193_16, .ref f1193_17]))] [] _ _ := Bx.of (fun a => (κ a).1) hL hP (fa_c hb1194 (fa_c hb1193 fa_n)) (by simp only [List.map_cons, List.map_nil, t1193_8.1, hw.1]; decide)
              refine b_i hx hb hN hB 0 rfl (vp_in_nI (n := (119 + 8 * n1179 + n1182)) (N := 45783) (by omega) (by omega)) (.inl rfl) dX9_cut_111 (fun H locs hB => ?_)
              rw [(show ((nI (119 + 8 * n1179 + n1182)) : Int32).toNatClampNeg = (119 + 8 * n1179 + n1182) from nI_clamp (n := (119 + 8 * n1179 + n1182)) (by omega))] at hB
              have hB : Bx B0 D _ [((κ w).2.2.2, .inl (cs 0, 45783, .inl (upd g1194 (119 + 8 * n1179 + n1182) x1211))), (w, .inr (9, [.int f1193_0, .ref f1193_1, .int (nI ((κ w).2.2.1)), .int (nI f1193_3), .int (nI f1193_4), .int f1193_5, .int f1193_6, .int f1193_7, .ref (κ w).2.2.2, .ref f1193_9, .ref f1193_10, .ref f1193_11, .int (nI f1193_12), .int f1193_13, .int f1193_14, .int f1193_15, .int f1193_16, .ref f1193_17]))] [(κ w).2.2.2] _ _ := hB
              have z1212 := DOK.sf q1194 (k := (119 + 8 * n1179 + n1182)) (by omega) (x := x1211)
              refine lv_iload hx hb dX9_cut_112 (lv_at hl 0 rfl) ?_
              have hT : WT B0 D cs T κ _ := hT.close hB ⟨⟨0, _, rfl, ok_24 t1193_8.1 ⟨_, rfl, z1212⟩⟩, trivial⟩
              have hF : Fr B0 [12, 18] κ H0 _ := hF.close hB (fa_c (by simp [t1193_8.2]) fa_n)
              have hL : OkL B0 _ := hB.2.2.2.2.2
              have hP : va_P D vwCl [((κ w).2.2.2, .inl (cs 0, 45783, .inl (upd g1194 (119 + 8 * n1179 + n1182) x1211))), (w, .inr (9, [.int f1193_0, .ref f1193_1, .int (nI ((κ w).2.2.1)), .int (nI f1193_3), .int (nI f1193_4), .int f1193_5, .int f1193_6, .int f1193_7, .ref (κ w).2.2.2, .ref f1193_9, .ref f1193_10, .ref f1193_11, .int (nI f1193_12), .int f1193_13, .int f1193_14, .int f1193_15, .int f1193_16, .ref f1193_17]))] _ := hB.1
              exact en_i hx hb hr hlocks hL rfl (Nat.zero_le _) (Nat.zero_le _) dX9_cut_114 (⟨hT, hF, Or.inr rfl⟩)
      · refine lv_iconst (v := 1) hx hb dX9_cut_35 (by decide) ?_
        refine lv_goto (tgt := 40) hx hb dX9_cut_36 (by decide) ?_
        refine lv_iconst (v := 2) hx hb dX9_cut_40 (by decide) ?_
        refine cv_i (As := [.int 1, .int 2]) (rest := []) (b := w) ⟨hx, hb, hml, hown, hts⟩ (c_X9_fails hT (w := w) hw (x := 1) (z := 2) ((by decide))) (cwV 2 hts gX9_cut_X9_fails rfl rfl rfl hdX9_fails_v ⟨Nat.le_of_ble_eq_true rfl, Nat.le_of_ble_eq_true rfl⟩) hN hE hL (rcv10 hN hT hw.1) rfl rfl hl.1 (Nat.le_of_ble_eq_true rfl) dX9_cut_41 (Nat.zero_le _) (Nat.zero_le _) (fun r1213 H1 locs hL hqr1213 => ?_)
        obtain ⟨hT1, hF1, hqr1213⟩ := hqr1213
        have hP : va_P D vwCl [((κ w).2.2.2, .inl (cs 0, 45783, .inl g1186))] _ := hF1.hP (hP.sub [0] rfl) (fa_c ⟨by rw [t1184_8.1]; decide, by rw [t1184_8.2]; first | decide | (simp; done) | (simp [h15a, h15b, h15c]; done) | (simp; omega)⟩ fa_n)
        have hF := hF.tr (hF1.mono (by simp))
        have hT := hT1
        rcases hqr1213 with rfl | ⟨rfl, e1214⟩
        · refine lv_if_eq (tgt := 49) hx hb dX9_cut_44 (by decide) (fun c9 => absurd c9 (by decide)) (fun _ => ?_)
          refine lv_iconst (v := 0) hx hb dX9_cut_47 (by decide) ?_
          exact en_i hx hb hr hlocks hL rfl (Nat.zero_le _) (Nat.zero_le _) dX9_cut_48 (⟨hT, hF, Or.inl rfl⟩)
        · exact absurd e1214 (by decide)
theorem mX9_lead_1 : (.fieldLink RX9 40 "OneBeatModel" "thrown" "I" : Cond) ∈ wsX9_lead := List.mem_of_getElem? (i := 1) (by decide +kernel)
theorem iX9_lead_9 : ∀ w ∈ wsX90, w ∈ wsX9_lead := fun w h => List.mem_of_mem_drop (List.mem_of_mem_take ((show wsX90 = (wsX9_lead.drop 31).take 18 by decide +kernel) ▸ h))
theorem mX9_lead_2 : (.fieldLink RX9 18 "OneBeatModel" "data" "[I" : Cond) ∈ wsX9_lead := List.mem_of_getElem? (i := 2) (by decide +kernel)
set_option maxHeartbeats 4000000 in
set_option maxRecDepth 100000 in
theorem c_X9_lead {l : Launch} {D : va_G} {cs : Nat → ClassId} {B0 T : Nat} {κ : KM} {H0 : Heap} (hT : WT B0 D cs T κ H0) {w : Nat} (hw : T2 κ w 10 12) {x : Int32} : KC l yX9_lead wsX9_lead 2 44 0 0 D cs B0 H0 [.ref w, .int x] (Qi (fun _ H => WT B0 D cs T κ H ∧ Fr B0 [12, 18] κ H0 H)) := by
  refine KC.of cX9_lead 4 (some .int) (by decide) rfl (Nat.le_of_ble_eq_true rfl) ?_
  intro p e s m below meth c ls hx hb hr hml hown hts hlocks hin hN hE hH0 hl
  have hown : s.vm.findClass RX9 = some m.cls := hown
  have hl : lv_has ls 4 [(0, .ref w), (1, .int x)] := hl
  have hL : OkL B0 [] := OkL.nil
  have hF : Fr B0 [12, 18] κ H0 H0 := Fr.rf
  refine lv_aload_n hx hb dX9_lead_0 rfl (lv_at hl 0 rfl) ?_
  refine lv_iconst (v := 0) hx hb dX9_lead_1 (by decide) ?_
  obtain ⟨hb1215, e1215, hat1215, hk1215⟩ := hT.o10 hw.1
  obtain ⟨f1215_0, f1215_1, f1215_3, f1215_4, f1215_5, f1215_6, f1215_7, f1215_9, f1215_10, f1215_11, f1215_12, f1215_13, f1215_14, f1215_15, f1215_16, f1215_17, rfl, c1215_2, c1215_3, c1215_4, c1215_12, t1215_1, t1215_8, t1215_9, c1215_sd, t1215_10, t1215_11, t1215_17⟩ := hk1215
  have hP : va_P D vwCl [(w, .inr (9, [.int f1215_0, .ref f1215_1, .int (nI ((κ w).2.2.1)), .int (nI f1215_3), .int (nI f1215_4), .int f1215_5, .int f1215_6, .int f1215_7, .ref (κ w).2.2.2, .ref f1215_9, .ref f1215_10, .ref f1215_11, .int (nI f1215_12), .int f1215_13, .int f1215_14, .int f1215_15, .int f1215_16, .ref f1215_17]))] _ := va_P.cons hat1215 va_P.nil
  have hB : Bx B0 D _ [(w, .inr (9, [.int f1215_0, .ref f1215_1, .int (nI ((κ w).2.2.1)), .int (nI f1215_3), .int (nI f1215_4), .int f1215_5, .int f1215_6, .int f1215_7, .ref (κ w).2.2.2, .ref f1215_9, .ref f1215_10, .ref f1215_11, .int (nI f1215_12), .int f1215_13, .int f1215_14, .int f1215_15, .int f1215_16, .ref f1215_17]))] [] _ _ := Bx.of (fun a => (κ a).1) hL hP (fa_c hb1215 fa_n) (by simp only [List.map_cons, List.map_nil, hw.1]; decide)
  refine b_put (D := D) (ci := 9) (v := .int 0) (ty := .int) (C := RX9) (T := TX9) (N := 18) hx hb hts iX9_lead_9 tyX9 tyX9_ok nmX9 hown hN hB 0 rfl rfl 0 (by decide) (hts _ mX9_lead_1) (fun _ h9 => h9) rfl (by decide +kernel) rfl rfl (Nat.le_of_ble_eq_true rfl) (.inl rfl) dX9_lead_2 (fun H locs hB => ?_)
  have hB : Bx B0 D _ [(w, .inr (9, [.int 0, .ref f1215_1, .int (nI ((κ w).2.2.1)), .int (nI f1215_3), .int (nI f1215_4), .int f1215_5, .int f1215_6, .int f1215_7, .ref (κ w).2.2.2, .ref f1215_9, .ref f1215_10, .ref f1215_11, .int (nI f1215_12), .int f1215_13, .int f1215_14, .int f1215_15, .int f1215_16, .ref f1215_17]))] [w] _ _ := hB
  refine lv_aload_n hx hb dX9_lead_5 rfl (lv_at hl 0 rfl) ?_
  refine lv_iload_n hx hb dX9_lead_6 rfl (lv_at hl 1 rfl) ?_
  have hT : WT B0 D cs T κ _ := hT.close hB ⟨⟨0, _, rfl, ok_10 hw.1 ⟨_, _, _, _, _, _, _, _, _, _, _, _, _, _, _, _, rfl, (by omega), (by omega), (by omega), (by omega), t1215_1, t1215_8, t1215_9, c1215_sd, t1215_10, t1215_11, t1215_17⟩⟩, trivial⟩
  have hF : Fr B0 [12, 18] κ H0 _ := hF.close hB (fa_c (by simp [hw.2]) fa_n)
  have hL : OkL B0 _ := hB.2.2.2.2.2
  have hP : va_P D vwCl [(w, .inr (9, [.int 0, .ref f1215_1, .int (nI ((κ w).2.2.1)), .int (nI f1215_3), .int (nI f1215_4), .int f1215_5, .int f1215_6, .int f1215_7, .ref (κ w).2.2.2, .ref f1215_9, .ref f1215_10, .ref f1215_11, .int (nI f1215_12), .int f1215_13, .int f1215_14, .int f1215_15, .int f1215_16, .ref f1215_17]))] _ := hB.1
  refine cv_i (As := [.int x]) (rest := []) (b := w) ⟨hx, hb, hml, hown, hts⟩ (c_X9_noPlayer hT (w := w) hw (x := x)) (cwV 1 hts gX9_lead_X9_noPlayer rfl rfl rfl hdX9_noPlayer_v ⟨Nat.le_of_ble_eq_true rfl, Nat.le_of_ble_eq_true rfl⟩) hN hE hL (rcv10 hN hT hw.1) rfl rfl hl.1 (Nat.le_of_ble_eq_true rfl) dX9_lead_7 (Nat.zero_le _) (Nat.zero_le _) (fun r1216 H1 locs hL hqr1216 => ?_)
  obtain ⟨hT1, hF1, hqr1216⟩ := hqr1216
  have hF := hF.tr (hF1.mono (by simp))
  have hT := hT1
  rcases hqr1216 with rfl | ⟨rfl, n1217, h1218, rfl⟩
  · refine lv_if_eq (tgt := 15) hx hb dX9_lead_10 (by decide) (fun c9 => absurd c9 (by decide)) (fun _ => ?_)
    refine lv_iconst (v := 0) hx hb dX9_lead_13 (by decide) ?_
    exact en_i hx hb hr hlocks hL rfl (Nat.zero_le _) (Nat.zero_le _) dX9_lead_14 (⟨hT, hF⟩)
  · refine lv_if_eq (tgt := 15) hx hb dX9_lead_10 (by decide) (fun _ => ?_) (fun c9 => absurd (by decide) c9)
    refine lv_aload_n hx hb dX9_lead_15 rfl (lv_at hl 0 rfl) ?_
    refine cv_v (As := []) (rest := []) (b := w) ⟨hx, hb, hml, hown, hts⟩ (c_X9_remember hT (w := w) hw) (cwV 0 hts gX9_lead_X9_remember rfl rfl rfl hdX9_remember_v ⟨Nat.le_of_ble_eq_true rfl, Nat.le_of_ble_eq_true rfl⟩) hN hE hL (rcv10 hN hT hw.1) rfl rfl hl.1 (Nat.le_of_ble_eq_true rfl) dX9_lead_16 (Nat.zero_le _) (Nat.zero_le _) (fun H1 locs hL hqr1219 => ?_)
    obtain ⟨hT1, hF1⟩ := hqr1219
    have hF := hF.tr (hF1.mono (by simp))
    have hT := hT1
    refine lv_aload_n hx hb dX9_lead_19 rfl (lv_at hl 0 rfl) ?_
    obtain ⟨hb1220, e1220, hat1220, hk1220⟩ := hT.o10 hw.1
    obtain ⟨f1220_0, f1220_1, f1220_3, f1220_4, f1220_5, f1220_6, f1220_7, f1220_9, f1220_10, f1220_11, f1220_12, f1220_13, f1220_14, f1220_15, f1220_16, f1220_17, rfl, c1220_2, c1220_3, c1220_4, c1220_12, t1220_1, t1220_8, t1220_9, c1220_sd, t1220_10, t1220_11, t1220_17⟩ := hk1220
    have hP : va_P D vwCl [(w, .inr (9, [.int f1220_0, .ref f1220_1, .int (nI ((κ w).2.2.1)), .int (nI f1220_3), .int (nI f1220_4), .int f1220_5, .int f1220_6, .int f1220_7, .ref (κ w).2.2.2, .ref f1220_9, .ref f1220_10, .ref f1220_11, .int (nI f1220_12), .int f1220_13, .int f1220_14, .int f1220_15, .int f1220_16, .ref f1220_17]))] _ := va_P.cons hat1220 va_P.nil
    refine va_get (D := D) (ci := 9) (v := .ref (κ w).2.2.2) (C := RX9) (T := TX9) (N := 18) hx hb hts iX9_lead_9 hown hN.1 hP 0 rfl rfl 8 (by decide) (hts _ mX9_lead_2) (fun _ h9 => h9) rfl dX9_lead_20 ?_
    refine lv_iconst (v := 2) hx hb dX9_lead_23 (by decide) ?_
    obtain ⟨hb1221, e1221, hat1221, hk1221⟩ := hT.o24 t1220_8.1
    obtain ⟨g1221, rfl, q1221⟩ := hk1221
    have hP : va_P D vwCl [((κ w).2.2.2, .inl (cs 0, 45783, .inl g1221)), (w, .inr (9, [.int f1220_0, .ref f1220_1, .int (nI ((κ w).2.2.1)), .int (nI f1220_3), .int (nI f1220_4), .int f1220_5, .int f1220_6, .int f1220_7, .ref (κ w).2.2.2, .ref f1220_9, .ref f1220_10, .ref f1220_11, .int (nI f1220_12), .int f1220_13, .int f1220_14, .int f1220_15, .int f1220_16, .ref f1220_17]))] _ := va_P.cons hat1221 hP
    refine ld_i (v := (g1221 2)) hx hb hN hP 0 rfl (vp_in_nI (n := 2) (N := 45783) (by omega) (by omega)) (by rw [(show (2 : Int32).toNatClampNeg = 2 from nI_clamp (n := 2) (by omega))]) dX9_lead_24 ?_
    obtain ⟨n1222, hn1222, en1222⟩ := q1221.2.2.1
    refine tp_i (nI n1222) en1222 ?_
    refine lv_istore_n (lv' := [(2, .int (nI n1222)), (0, .ref w), (1, .int (nI n1217))]) hx hb dX9_lead_25 rfl hl (by decide) rfl (fun ls hl => ?_)
    refine lv_aload_n hx hb dX9_lead_26 rfl (lv_at hl 1 rfl) ?_
    refine va_get (D := D) (ci := 9) (v := .ref (κ w).2.2.2) (C := RX9) (T := TX9) (N := 18) hx hb hts iX9_lead_9 hown hN.1 hP 1 rfl rfl 8 (by decide) (hts _ mX9_lead_2) (fun _ h9 => h9) rfl dX9_lead_27 ?_
    refine lv_iconst (v := 2) hx hb dX9_lead_30 (by decide) ?_
    refine lv_iload_n hx hb dX9_lead_31 rfl (lv_at hl 2 rfl) ?_
    have hB : Bx B0 D _ [((κ w).2.2.2, .inl (cs 0, 45783, .inl g1221)), (w, .inr (9, [.int f1220_0, .ref f1220_1, .int (nI ((κ w).2.2.1)), .int (nI f1220_3), .int (nI f1220_4), .int f1220_5, .int f1220_6, .int f1220_7, .ref (κ w).2.2.2, .ref f1220_9, .ref f1220_10, .ref f1220_11, .int (nI f1220_12), .int f1220_13, .int f1220_14, .int f1220_15, .int f1220_16, .ref f1220_17]))] [] _ _ := Bx.of (fun a => (κ a).1) hL hP (fa_c hb1221 (fa_c hb1220 fa_n)) (by simp only [List.map_cons, List.map_nil, t1220_8.1, hw.1]; decide)
    refine b_i hx hb hN hB 0 rfl (show vp_in (2 : Int32) 45783 from vp_in_nI (n := 2) (N := 45783) (by omega) (by omega)) (.inl rfl) dX9_lead_32 (fun H locs hB => ?_)
    rw [(show (2 : Int32).toNatClampNeg = 2 from nI_clamp (n := 2) (by omega))] at hB
    have hB : Bx B0 D _ [((κ w).2.2.2, .inl (cs 0, 45783, .inl (upd g1221 2 (nI n1217)))), (w, .inr (9, [.int f1220_0, .ref f1220_1, .int (nI ((κ w).2.2.1)), .int (nI f1220_3), .int (nI f1220_4), .int f1220_5, .int f1220_6, .int f1220_7, .ref (κ w).2.2.2, .ref f1220_9, .ref f1220_10, .ref f1220_11, .int (nI f1220_12), .int f1220_13, .int f1220_14, .int f1220_15, .int f1220_16, .ref f1220_17]))] [(κ w).2.2.2] _ _ := hB
    have z1223 := DOK.s2 q1221 (n := n1217) (by omega)
    refine lv_iconst (v := 0) hx hb dX9_lead_33 (by decide) ?_
    refine lv_istore_n (lv' := [(3, .int 0), (2, .int (nI n1222)), (0, .ref w), (1, .int (nI n1217))]) hx hb dX9_lead_34 rfl hl (by decide) rfl (fun ls hl => ?_)
    have hT : WT B0 D cs T κ _ := hT.close hB ⟨⟨0, _, rfl, ok_24 t1220_8.1 ⟨_, rfl, z1223⟩⟩, trivial⟩
    have hF : Fr B0 [12, 18] κ H0 _ := hF.close hB (fa_c (by simp [t1220_8.2]) fa_n)
    have hL : OkL B0 _ := hB.2.2.2.2.2
    have hP : va_P D vwCl [((κ w).2.2.2, .inl (cs 0, 45783, .inl (upd g1221 2 (nI n1217)))), (w, .inr (9, [.int f1220_0, .ref f1220_1, .int (nI ((κ w).2.2.1)), .int (nI f1220_3), .int (nI f1220_4), .int f1220_5, .int f1220_6, .int f1220_7, .ref (κ w).2.2.2, .ref f1220_9, .ref f1220_10, .ref f1220_11, .int (nI f1220_12), .int f1220_13, .int f1220_14, .int f1220_15, .int f1220_16, .ref f1220_17]))] _ := hB.1
    refine lp_m (α := Nat × Int32) (nL := 4) (fun a9 => 8 - a9.1) (fun a9 H9 l9 => (a9.1 ≤ 8) ∧ (WT B0 D cs T κ H9) ∧ (Fr B0 [12, 18] κ H0 H9) ∧ (OkL B0 l9)) (fun a9 => [(3, .int (nI a9.1)), (2, .int a9.2), (0, .ref w)]) ?_ (0, (nI n1222)) _ _ _ ⟨(by show (0) ≤ 8; omega), hT, hF, hL⟩ (lv_sub hl [0, 1, 2] rfl)
    rintro ⟨p, z⟩ H locs ls ih1224 ⟨hp, hT, hF, hL⟩ hl
    have hl : lv_has ls 4 [(3, .int (nI p)), (2, .int z), (0, .ref w)] := hl
    have hp : p ≤ 8 := hp
    refine lv_iload_n hx hb dX9_lead_35 rfl (lv_at hl 0 rfl) ?_
    refine lv_aload_n hx hb dX9_lead_36 rfl (lv_at hl 2 rfl) ?_
    obtain ⟨hb1225, e1225, hat1225, hk1225⟩ := hT.o10 hw.1
    obtain ⟨f1225_0, f1225_1, f1225_3, f1225_4, f1225_5, f1225_6, f1225_7, f1225_9, f1225_10, f1225_11, f1225_12, f1225_13, f1225_14, f1225_15, f1225_16, f1225_17, rfl, c1225_2, c1225_3, c1225_4, c1225_12, t1225_1, t1225_8, t1225_9, c1225_sd, t1225_10, t1225_11, t1225_17⟩ := hk1225
    have hP : va_P D vwCl [(w, .inr (9, [.int f1225_0, .ref f1225_1, .int (nI ((κ w).2.2.1)), .int (nI f1225_3), .int (nI f1225_4), .int f1225_5, .int f1225_6, .int f1225_7, .ref (κ w).2.2.2, .ref f1225_9, .ref f1225_10, .ref f1225_11, .int (nI f1225_12), .int f1225_13, .int f1225_14, .int f1225_15, .int f1225_16, .ref f1225_17]))] _ := va_P.cons hat1225 va_P.nil
    refine va_get (D := D) (ci := 9) (v := .ref (κ w).2.2.2) (C := RX9) (T := TX9) (N := 18) hx hb hts iX9_lead_9 hown hN.1 hP 0 rfl rfl 8 (by decide) (hts _ mX9_lead_2) (fun _ h9 => h9) rfl dX9_lead_37 ?_
    refine lv_iconst (v := 0) hx hb dX9_lead_40 (by decide) ?_
    obtain ⟨hb1226, e1226, hat1226, hk1226⟩ := hT.o24 t1225_8.1
    obtain ⟨g1226, rfl, q1226⟩ := hk1226
    have hP : va_P D vwCl [((κ w).2.2.2, .inl (cs 0, 45783, .inl g1226)), (w, .inr (9, [.int f1225_0, .ref f1225_1, .int (nI ((κ w).2.2.1)), .int (nI f1225_3), .int (nI f1225_4), .int f1225_5, .int f1225_6, .int f1225_7, .ref (κ w).2.2.2, .ref f1225_9, .ref f1225_10, .ref f1225_11, .int (nI f1225_12), .int f1225_13, .int f1225_14, .int f1225_15, .int f1225_16, .ref f1225_17]))] _ := va_P.cons hat1226 hP
    refine ld_i (v := (g1226 0)) hx hb hN hP 0 rfl (vp_in_nI (n := 0) (N := 45783) (by omega) (by omega)) (by rw [(show (0 : Int32).toNatClampNeg = 0 from nI_clamp (n := 0) (by omega))]) dX9_lead_41 ?_
    obtain ⟨n1227, hn1227, en1227⟩ := q1226.1
    refine tp_i (nI n1227) en1227 ?_
    refine lv_icmp_ge (tgt := 58) hx hb dX9_lead_42 (by decide) (fun c1228 => ?_) (fun c1228 => ?_)
    · have c1228 : n1227 ≤ p := (nI_leI (a := n1227) (b := p) (by omega) (by omega)).mp c1228
      refine lv_iload_n hx hb dX9_lead_58 rfl (lv_at hl 1 rfl) ?_
      exact en_i hx hb hr hlocks hL rfl (Nat.zero_le _) (Nat.zero_le _) dX9_lead_59 (⟨hT, hF⟩)
    · have c1228 : ¬ n1227 ≤ p := fun h9 => c1228 ((nI_leI (a := n1227) (b := p) (by omega) (by omega)).mpr h9)
      refine lv_aload_n hx hb dX9_lead_45 rfl (lv_at hl 2 rfl) ?_
      refine lv_iload_n hx hb dX9_lead_46 rfl (lv_at hl 0 rfl) ?_
      refine lv_iconst (v := 3) hx hb dX9_lead_47 (by decide) ?_
      refine lv_iconst (v := 0) hx hb dX9_lead_48 (by decide) ?_
      refine cv_v (As := [.int (nI p), .int 3, .int 0]) (rest := []) (b := w) ⟨hx, hb, hml, hown, hts⟩ (c_X9_set hT (w := w) hw (n := p) (k := 3) (x := 0) (by first | omega | decide | assumption) (by first | omega | decide | assumption)) (cwV 3 hts gX9_lead_X9_set rfl rfl rfl hdX9_set_v ⟨Nat.le_of_ble_eq_true rfl, Nat.le_of_ble_eq_true rfl⟩) hN hE hL (rcv10 hN hT hw.1) rfl rfl hl.1 (Nat.le_of_ble_eq_true rfl) dX9_lead_49 (Nat.zero_le _) (Nat.zero_le _) (fun H1 locs hL hqr1229 => ?_)
      obtain ⟨hT1, hF1⟩ := hqr1229
      have hP : va_P D vwCl [(w, .inr (9, [.int f1225_0, .ref f1225_1, .int (nI ((κ w).2.2.1)), .int (nI f1225_3), .int (nI f1225_4), .int f1225_5, .int f1225_6, .int f1225_7, .ref (κ w).2.2.2, .ref f1225_9, .ref f1225_10, .ref f1225_11, .int (nI f1225_12), .int f1225_13, .int f1225_14, .int f1225_15, .int f1225_16, .ref f1225_17]))] _ := hF1.hP (hP.sub [1] rfl) (fa_c ⟨by rw [hw.1]; decide, by rw [hw.2]; first | decide | (simp; done) | (simp [h15a, h15b, h15c]; done) | (simp; omega)⟩ fa_n)
      have hF := hF.tr (hF1.mono (by simp))
      have hT := hT1
      refine lv_iinc (v := (nI (p + 1))) (lv' := [(3, .int (nI (p + 1))), (2, .int z), (0, .ref w)]) hx hb dX9_lead_52 hl (k := 0) rfl (nI_add _ 1) (by decide) rfl (fun ls hl => ?_)
      refine lv_goto (tgt := 35) hx hb dX9_lead_55 (by decide) ?_
      exact ih1224 ((p + 1), z) _ _ _ (by show 8 - ((p + 1)) < 8 - p; omega) ⟨(by show ((p + 1)) ≤ 8; omega), hT, hF, hL⟩ (lv_sub hl [0, 1, 2] rfl)
theorem mX9_undo_1 : (.fieldLink RX9 40 "OneBeatModel" "thrown" "I" : Cond) ∈ wsX9_undo := List.mem_of_getElem? (i := 1) (by decide +kernel)
theorem iX9_undo_9 : ∀ w ∈ wsX90, w ∈ wsX9_undo := fun w h => List.mem_of_mem_drop (List.mem_of_mem_take ((show wsX90 = (wsX9_undo.drop 9).take 18 by decide +kernel) ▸ h))
theorem mX9_undo_2 : (.fieldLink RX9 302 "OneBeatModel" "undoDepth" "I" : Cond) ∈ wsX9_undo := List.mem_of_getElem? (i := 2) (by decide +kernel)
theorem mX9_undo_3 : (.fieldLink RX9 29 "OneBeatModel" "history" "[[I" : Cond) ∈ wsX9_undo := List.mem_of_getElem? (i := 3) (by decide +kernel)
theorem mX9_undo_4 : (.fieldLink RX9 18 "OneBeatModel" "data" "[I" : Cond) ∈ wsX9_undo := List.mem_of_getElem? (i := 4) (by decide +kernel)
set_option maxHeartbeats 4000000 in
set_option maxRecDepth 100000 in
theorem c_X9_undo {l : Launch} {D : va_G} {cs : Nat → ClassId} {B0 T : Nat} {κ : KM} {H0 : Heap} (hT : WT B0 D cs T κ H0) {w : Nat} (hw : T2 κ w 10 12) : KC l yX9_undo wsX9_undo 1 23 0 0 D cs B0 H0 [.ref w] (Qi (fun _ H => WT B0 D cs T κ H ∧ Fr B0 [12, 18] κ H0 H)) := by
  refine KC.of cX9_undo 1 (some .int) (by decide) rfl (Nat.le_of_ble_eq_true rfl) ?_
  intro p e s m below meth c ls hx hb hr hml hown hts hlocks hin hN hE hH0 hl
  have hown : s.vm.findClass RX9 = some m.cls := hown
  have hl : lv_has ls 1 [(0, .ref w)] := hl
  have hL : OkL B0 [] := OkL.nil
  have hF : Fr B0 [12, 18] κ H0 H0 := Fr.rf
  refine lv_aload_n hx hb dX9_undo_0 rfl (lv_at hl 0 rfl) ?_
  refine lv_iconst (v := 0) hx hb dX9_undo_1 (by decide) ?_
  obtain ⟨hb1230, e1230, hat1230, hk1230⟩ := hT.o10 hw.1
  obtain ⟨f1230_0, f1230_1, f1230_3, f1230_4, f1230_5, f1230_6, f1230_7, f1230_9, f1230_10, f1230_11, f1230_12, f1230_13, f1230_14, f1230_15, f1230_16, f1230_17, rfl, c1230_2, c1230_3, c1230_4, c1230_12, t1230_1, t1230_8, t1230_9, c1230_sd, t1230_10, t1230_11, t1230_17⟩ := hk1230
  have hP : va_P D vwCl [(w, .inr (9, [.int f1230_0, .ref f1230_1, .int (nI ((κ w).2.2.1)), .int (nI f1230_3), .int (nI f1230_4), .int f1230_5, .int f1230_6, .int f1230_7, .ref (κ w).2.2.2, .ref f1230_9, .ref f1230_10, .ref f1230_11, .int (nI f1230_12), .int f1230_13, .int f1230_14, .int f1230_15, .int f1230_16, .ref f1230_17]))] _ := va_P.cons hat1230 va_P.nil
  have hB : Bx B0 D _ [(w, .inr (9, [.int f1230_0, .ref f1230_1, .int (nI ((κ w).2.2.1)), .int (nI f1230_3), .int (nI f1230_4), .int f1230_5, .int f1230_6, .int f1230_7, .ref (κ w).2.2.2, .ref f1230_9, .ref f1230_10, .ref f1230_11, .int (nI f1230_12), .int f1230_13, .int f1230_14, .int f1230_15, .int f1230_16, .ref f1230_17]))] [] _ _ := Bx.of (fun a => (κ a).1) hL hP (fa_c hb1230 fa_n) (by simp only [List.map_cons, List.map_nil, hw.1]; decide)
  refine b_put (D := D) (ci := 9) (v := .int 0) (ty := .int) (C := RX9) (T := TX9) (N := 18) hx hb hts iX9_undo_9 tyX9 tyX9_ok nmX9 hown hN hB 0 rfl rfl 0 (by decide) (hts _ mX9_undo_1) (fun _ h9 => h9) rfl (by decide +kernel) rfl rfl (Nat.le_of_ble_eq_true rfl) (.inl rfl) dX9_undo_2 (fun H locs hB => ?_)
  have hB : Bx B0 D _ [(w, .inr (9, [.int 0, .ref f1230_1, .int (nI ((κ w).2.2.1)), .int (nI f1230_3), .int (nI f1230_4), .int f1230_5, .int f1230_6, .int f1230_7, .ref (κ w).2.2.2, .ref f1230_9, .ref f1230_10, .ref f1230_11, .int (nI f1230_12), .int f1230_13, .int f1230_14, .int f1230_15, .int f1230_16, .ref f1230_17]))] [w] _ _ := hB
  refine lv_aload_n hx hb dX9_undo_5 rfl (lv_at hl 0 rfl) ?_
  refine va_get (D := D) (ci := 9) (v := .int (nI f1230_12)) (C := RX9) (T := TX9) (N := 18) hx hb hts iX9_undo_9 hown hN.1 hB.1 0 rfl rfl 12 (by decide) (hts _ mX9_undo_2) (fun _ h9 => h9) rfl dX9_undo_6 ?_
  refine lv_if_ne (tgt := 14) hx hb dX9_undo_9 (by decide) (fun c1231 => ?_) (fun c1231 => ?_)
  · have c1231 : ¬ f1230_12 = 0 := fun h9 => c1231 ((nI_eq (a := f1230_12) (b := 0) (by omega) (by omega)).mpr h9)
    refine lv_aload_n hx hb dX9_undo_14 rfl (lv_at hl 0 rfl) ?_
    refine lv_dup hx hb dX9_undo_15 rfl ?_
    refine va_get (D := D) (ci := 9) (v := .int (nI f1230_12)) (C := RX9) (T := TX9) (N := 18) hx hb hts iX9_undo_9 hown hN.1 hB.1 0 rfl rfl 12 (by decide) (hts _ mX9_undo_2) (fun _ h9 => h9) rfl dX9_undo_16 ?_
    refine lv_iconst (v := 1) hx hb dX9_undo_19 (by decide) ?_
    refine lv_isub hx hb dX9_undo_20 ?_
    refine tp_i (nI (f1230_12 - 1)) (nI_subN (a := f1230_12) (b := 1) (by omega)) ?_
    refine b_put (D := D) (ci := 9) (v := .int (nI (f1230_12 - 1))) (ty := .int) (C := RX9) (T := TX9) (N := 18) hx hb hts iX9_undo_9 tyX9 tyX9_ok nmX9 hown hN hB 0 rfl rfl 12 (by decide) (hts _ mX9_undo_2) (fun _ h9 => h9) rfl (by decide +kernel) rfl rfl (Nat.le_of_ble_eq_true rfl) (.inr ⟨rfl, List.mem_of_getElem? (i := 0) rfl⟩) dX9_undo_21 (fun H locs hB => ?_)
    have hB : Bx B0 D _ [(w, .inr (9, [.int 0, .ref f1230_1, .int (nI ((κ w).2.2.1)), .int (nI f1230_3), .int (nI f1230_4), .int f1230_5, .int f1230_6, .int f1230_7, .ref (κ w).2.2.2, .ref f1230_9, .ref f1230_10, .ref f1230_11, .int (nI (f1230_12 - 1)), .int f1230_13, .int f1230_14, .int f1230_15, .int f1230_16, .ref f1230_17]))] [w] _ _ := hB
    refine lv_aload_n hx hb dX9_undo_24 rfl (lv_at hl 0 rfl) ?_
    refine va_get (D := D) (ci := 9) (v := .ref f1230_11) (C := RX9) (T := TX9) (N := 18) hx hb hts iX9_undo_9 hown hN.1 hB.1 0 rfl rfl 11 (by decide) (hts _ mX9_undo_3) (fun _ h9 => h9) rfl dX9_undo_25 ?_
    refine lv_aload_n hx hb dX9_undo_28 rfl (lv_at hl 0 rfl) ?_
    refine va_get (D := D) (ci := 9) (v := .int (nI (f1230_12 - 1))) (C := RX9) (T := TX9) (N := 18) hx hb hts iX9_undo_9 hown hN.1 hB.1 0 rfl rfl 12 (by decide) (hts _ mX9_undo_2) (fun _ h9 => h9) rfl dX9_undo_29 ?_
    obtain ⟨hb1232, e1232, hat1232, hk1232⟩ := hT.o27 t1230_11.1
    obtain ⟨g1232, rfl, q1232⟩ := hk1232
    have hB : Bx B0 D _ [(w, .inr (9, [.int 0, .ref f1230_1, .int (nI ((κ w).2.2.1)), .int (nI f1230_3), .int (nI f1230_4), .int f1230_5, .int f1230_6, .int f1230_7, .ref (κ w).2.2.2, .ref f1230_9, .ref f1230_10, .ref f1230_11, .int (nI (f1230_12 - 1)), .int f1230_13, .int f1230_14, .int f1230_15, .int f1230_16, .ref f1230_17])), (f1230_11, .inl (cs 6, 8, .inr (.inr (.inr (.inr g1232)))))] [w] _ _ := hB.more hat1232 hb1232 (fa_c (ne_c hw.1 t1230_11.1 (by decide)) fa_n) (fa_c (ne_c hw.1 t1230_11.1 (by decide)) fa_n)
    obtain ⟨a1233, ea1233, ta1233, ua1233⟩ := q1232 ((f1230_12 - 1)) (by omega)
    refine ld_a (v := .ref a1233) hx hb hN hB.1 1 rfl (vp_in_nI (n := (f1230_12 - 1)) (N := 8) (by omega) (by omega)) (by rw [(show ((nI (f1230_12 - 1)) : Int32).toNatClampNeg = (f1230_12 - 1) from nI_clamp (n := (f1230_12 - 1)) (by omega)), ea1233]; rfl) dX9_undo_32 ?_
    refine lv_aload_n hx hb dX9_undo_33 rfl (lv_at hl 0 rfl) ?_
    refine va_get (D := D) (ci := 9) (v := .ref (κ w).2.2.2) (C := RX9) (T := TX9) (N := 18) hx hb hts iX9_undo_9 hown hN.1 hB.1 0 rfl rfl 8 (by decide) (hts _ mX9_undo_4) (fun _ h9 => h9) rfl dX9_undo_34 ?_
    have hT : WT B0 D cs T κ _ := hT.close hB ⟨⟨0, _, rfl, ok_10 hw.1 ⟨_, _, _, _, _, _, _, _, _, _, _, _, _, _, _, _, rfl, (by omega), (by omega), (by omega), (by omega), t1230_1, t1230_8, t1230_9, c1230_sd, t1230_10, t1230_11, t1230_17⟩⟩, trivial⟩
    have hF : Fr B0 [12, 18] κ H0 _ := hF.close hB (fa_c (by simp [hw.2]) fa_n)
    have hL : OkL B0 _ := hB.2.2.2.2.2
    have hP : va_P D vwCl [(w, .inr (9, [.int 0, .ref f1230_1, .int (nI ((κ w).2.2.1)), .int (nI f1230_3), .int (nI f1230_4), .int f1230_5, .int f1230_6, .int f1230_7, .ref (κ w).2.2.2, .ref f1230_9, .ref f1230_10, .ref f1230_11, .int (nI (f1230_12 - 1)), .int f1230_13, .int f1230_14, .int f1230_15, .int f1230_16, .ref f1230_17])), (f1230_11, .inl (cs 6, 8, .inr (.inr (.inr (.inr g1232)))))] _ := hB.1
    refine cs_v (As := [.ref a1233, .ref (κ w).2.2.2]) (rest := []) ⟨hx, hb, hml, hown, hts⟩ (c_X9_copyD hT (a := a1233) ta1233 (b := (κ w).2.2.2) t1230_8 (ne_c ta1233.1 t1230_8.1 (by decide)) (by first | omega | decide | assumption) (by first | omega | decide | assumption)) (va_cwS 2 hts gX9_undo_X9_copy rfl rfl rfl hdX9_copy_o ⟨Nat.le_of_ble_eq_true rfl, Nat.le_of_ble_eq_true rfl⟩) hN hE hL rfl rfl hl.1 (Nat.le_of_ble_eq_true rfl) dX9_undo_37 (Nat.zero_le _) (Nat.zero_le _) (fun H1 locs hL hqr1234 => ?_)
    obtain ⟨hT1, hF1⟩ := hqr1234
    have hP : va_P D vwCl [(w, .inr (9, [.int 0, .ref f1230_1, .int (nI ((κ w).2.2.1)), .int (nI f1230_3), .int (nI f1230_4), .int f1230_5, .int f1230_6, .int f1230_7, .ref (κ w).2.2.2, .ref f1230_9, .ref f1230_10, .ref f1230_11, .int (nI (f1230_12 - 1)), .int f1230_13, .int f1230_14, .int f1230_15, .int f1230_16, .ref f1230_17])), (f1230_11, .inl (cs 6, 8, .inr (.inr (.inr (.inr g1232)))))] _ := hF1.hP (hP.sub [0, 1] rfl) (fa_c ⟨by rw [hw.1]; decide, by rw [hw.2]; first | decide | (simp; done) | (simp [h15a, h15b, h15c]; done) | (simp; omega)⟩ (fa_c ⟨by rw [t1230_11.1]; decide, by rw [t1230_11.2]; first | decide | (simp; done) | (simp [h15a, h15b, h15c]; done) | (simp; omega)⟩ fa_n))
    have hF := hF.tr (hF1.mono (by simp))
    have hT := hT1
    refine lv_aload_n hx hb dX9_undo_40 rfl (lv_at hl 0 rfl) ?_
    refine va_get (D := D) (ci := 9) (v := .int (nI (f1230_12 - 1))) (C := RX9) (T := TX9) (N := 18) hx hb hts iX9_undo_9 hown hN.1 hP 0 rfl rfl 12 (by decide) (hts _ mX9_undo_2) (fun _ h9 => h9) rfl dX9_undo_41 ?_
    exact en_i hx hb hr hlocks hL rfl (Nat.zero_le _) (Nat.zero_le _) dX9_undo_44 (⟨hT, hF⟩)
  · have c1231 : f1230_12 = 0 := (nI_eq (a := f1230_12) (b := 0) (by omega) (by omega)).mp c1231
    refine lv_iconst (v := (-1)) hx hb dX9_undo_12 (by decide) ?_
    have hT : WT B0 D cs T κ _ := hT.close hB ⟨⟨0, _, rfl, ok_10 hw.1 ⟨_, _, _, _, _, _, _, _, _, _, _, _, _, _, _, _, rfl, (by omega), (by omega), (by omega), (by omega), t1230_1, t1230_8, t1230_9, c1230_sd, t1230_10, t1230_11, t1230_17⟩⟩, trivial⟩
    have hF : Fr B0 [12, 18] κ H0 _ := hF.close hB (fa_c (by simp [hw.2]) fa_n)
    have hL : OkL B0 _ := hB.2.2.2.2.2
    have hP : va_P D vwCl [(w, .inr (9, [.int 0, .ref f1230_1, .int (nI ((κ w).2.2.1)), .int (nI f1230_3), .int (nI f1230_4), .int f1230_5, .int f1230_6, .int f1230_7, .ref (κ w).2.2.2, .ref f1230_9, .ref f1230_10, .ref f1230_11, .int (nI f1230_12), .int f1230_13, .int f1230_14, .int f1230_15, .int f1230_16, .ref f1230_17]))] _ := hB.1
    exact en_i hx hb hr hlocks hL rfl (Nat.zero_le _) (Nat.zero_le _) dX9_undo_13 (⟨hT, hF⟩)
