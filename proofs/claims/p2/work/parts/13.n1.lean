set_option maxHeartbeats 4000000 in
set_option maxRecDepth 100000 in
theorem c_X9_safest {l : Launch} {D : va_G} {cs : Nat → ClassId} {B0 T : Nat} {κ : KM} {H0 : Heap} (hT : WT B0 D cs T κ H0) {w : Nat} (hw : T2 κ w 10 12) : KC l yX9_safest wsX9_safest 9 210 0 0 D cs B0 H0 [.ref w] (Qi (fun _ H => WT B0 D cs (T + 24400) κ H ∧ Fr B0 [12, 18] κ H0 H)) := by
  refine KC.of cX9_safest 3 (some .int) (by decide) rfl (Nat.le_of_ble_eq_true rfl) ?_
  intro p e s m below meth c ls hx hb hr hml hown hts hlocks hin hN hE hH0 hl
  have hown : s.vm.findClass RX9 = some m.cls := hown
  have hl : lv_has ls 3 [(0, .ref w)] := hl
  have hL : OkL B0 [] := OkL.nil
  have hF : Fr B0 [12, 18] κ H0 H0 := Fr.rf
  refine lv_aload_n hx hb dX9_safest_0 rfl (lv_at hl 0 rfl) ?_
  refine lv_iconst (v := 0) hx hb dX9_safest_1 (by decide) ?_
  obtain ⟨hb1091, e1091, hat1091, hk1091⟩ := hT.o10 hw.1
  obtain ⟨f1091_0, f1091_1, f1091_3, f1091_4, f1091_5, f1091_6, f1091_7, f1091_9, f1091_10, f1091_11, f1091_12, f1091_13, f1091_14, f1091_15, f1091_16, f1091_17, rfl, c1091_2, c1091_3, c1091_4, c1091_12, t1091_1, t1091_8, t1091_9, c1091_sd, t1091_10, t1091_11, t1091_17⟩ := hk1091
  have hP : va_P D vwCl [(w, .inr (9, [.int f1091_0, .ref f1091_1, .int (nI ((κ w).2.2.1)), .int (nI f1091_3), .int (nI f1091_4), .int f1091_5, .int f1091_6, .int f1091_7, .ref (κ w).2.2.2, .ref f1091_9, .ref f1091_10, .ref f1091_11, .int (nI f1091_12), .int f1091_13, .int f1091_14, .int f1091_15, .int f1091_16, .ref f1091_17]))] _ := va_P.cons hat1091 va_P.nil
  have hB : Bx B0 D _ [(w, .inr (9, [.int f1091_0, .ref f1091_1, .int (nI ((κ w).2.2.1)), .int (nI f1091_3), .int (nI f1091_4), .int f1091_5, .int f1091_6, .int f1091_7, .ref (κ w).2.2.2, .ref f1091_9, .ref f1091_10, .ref f1091_11, .int (nI f1091_12), .int f1091_13, .int f1091_14, .int f1091_15, .int f1091_16, .ref f1091_17]))] [] _ _ := Bx.of (fun a => (κ a).1) hL hP (fa_c hb1091 fa_n) (by simp only [List.map_cons, List.map_nil, hw.1]; decide)
  refine b_put (D := D) (ci := 9) (v := .int 0) (ty := .int) (C := RX9) (T := TX9) (N := 18) hx hb hts iX9_safest_9 tyX9 tyX9_ok nmX9 hown hN hB 0 rfl rfl 0 (by decide) (hts _ mX9_safest_1) (fun _ h9 => h9) rfl (by decide +kernel) rfl rfl (Nat.le_of_ble_eq_true rfl) (.inl rfl) dX9_safest_2 (fun H locs hB => ?_)
  have hB : Bx B0 D _ [(w, .inr (9, [.int 0, .ref f1091_1, .int (nI ((κ w).2.2.1)), .int (nI f1091_3), .int (nI f1091_4), .int f1091_5, .int f1091_6, .int f1091_7, .ref (κ w).2.2.2, .ref f1091_9, .ref f1091_10, .ref f1091_11, .int (nI f1091_12), .int f1091_13, .int f1091_14, .int f1091_15, .int f1091_16, .ref f1091_17]))] [w] _ _ := hB
  refine lv_aload_n hx hb dX9_safest_5 rfl (lv_at hl 0 rfl) ?_
  have hT : WT B0 D cs T κ _ := hT.close hB ⟨⟨0, _, rfl, ok_10 hw.1 ⟨_, _, _, _, _, _, _, _, _, _, _, _, _, _, _, _, rfl, (by omega), (by omega), (by omega), (by omega), t1091_1, t1091_8, t1091_9, c1091_sd, t1091_10, t1091_11, t1091_17⟩⟩, trivial⟩
  have hF : Fr B0 [12, 18] κ H0 _ := hF.close hB (fa_c (by simp [hw.2]) fa_n)
  have hL : OkL B0 _ := hB.2.2.2.2.2
  have hP : va_P D vwCl [(w, .inr (9, [.int 0, .ref f1091_1, .int (nI ((κ w).2.2.1)), .int (nI f1091_3), .int (nI f1091_4), .int f1091_5, .int f1091_6, .int f1091_7, .ref (κ w).2.2.2, .ref f1091_9, .ref f1091_10, .ref f1091_11, .int (nI f1091_12), .int f1091_13, .int f1091_14, .int f1091_15, .int f1091_16, .ref f1091_17]))] _ := hB.1
  refine cv_i (As := []) (rest := []) (b := w) ⟨hx, hb, hml, hown, hts⟩ (c_X9_mayPropose hT (w := w) hw) (cwV 0 hts gX9_safest_X9_mayPropose rfl rfl rfl hdX9_mayPropose_v ⟨Nat.le_of_ble_eq_true rfl, Nat.le_of_ble_eq_true rfl⟩) hN hE hL (rcv10 hN hT hw.1) rfl rfl hl.1 (Nat.le_of_ble_eq_true rfl) dX9_safest_6 (Nat.zero_le _) (Nat.zero_le _) (fun r1092 H1 locs hL hqr1092 => ?_)
  obtain ⟨h9, hqr1092⟩ := hqr1092; replace h9 := h9.symm; subst h9
  rcases hqr1092 with rfl | rfl
  · refine lv_if_ne (tgt := 14) hx hb dX9_safest_9 (by decide) (fun c9 => absurd (by decide) c9) (fun _ => ?_)
    refine lv_iconst (v := (-1)) hx hb dX9_safest_12 (by decide) ?_
    exact en_i hx hb hr hlocks hL rfl (Nat.zero_le _) (Nat.zero_le _) dX9_safest_13 (⟨hT.up (by omega), hF⟩)
  · refine lv_if_ne (tgt := 14) hx hb dX9_safest_9 (by decide) (fun _ => ?_) (fun c9 => absurd c9 (by decide))
    refine lv_aload_n hx hb dX9_safest_14 rfl (lv_at hl 0 rfl) ?_
    refine va_get (D := D) (ci := 9) (v := .ref (κ w).2.2.2) (C := RX9) (T := TX9) (N := 18) hx hb hts iX9_safest_9 hown hN.1 hP 0 rfl rfl 8 (by decide) (hts _ mX9_safest_2) (fun _ h9 => h9) rfl dX9_safest_15 ?_
    refine lv_aload_n hx hb dX9_safest_18 rfl (lv_at hl 0 rfl) ?_
    refine va_get (D := D) (ci := 9) (v := .ref f1091_9) (C := RX9) (T := TX9) (N := 18) hx hb hts iX9_safest_9 hown hN.1 hP 0 rfl rfl 9 (by decide) (hts _ mX9_safest_3) (fun _ h9 => h9) rfl dX9_safest_19 ?_
    refine cs_v (As := [.ref (κ w).2.2.2, .ref f1091_9]) (rest := []) ⟨hx, hb, hml, hown, hts⟩ (c_X9_copyD hT (a := (κ w).2.2.2) t1091_8 (b := f1091_9) t1091_9 (ne_c t1091_8.1 t1091_9.1 (by decide)) (by first | omega | decide | assumption) (by first | omega | decide | assumption)) (va_cwS 2 hts gX9_safest_X9_copy rfl rfl rfl hdX9_copy_o ⟨Nat.le_of_ble_eq_true rfl, Nat.le_of_ble_eq_true rfl⟩) hN hE hL rfl rfl hl.1 (Nat.le_of_ble_eq_true rfl) dX9_safest_22 (Nat.zero_le _) (Nat.zero_le _) (fun H1 locs hL hqr1093 => ?_)
    obtain ⟨hT1, hF1⟩ := hqr1093
    have hP : va_P D vwCl [(w, .inr (9, [.int 0, .ref f1091_1, .int (nI ((κ w).2.2.1)), .int (nI f1091_3), .int (nI f1091_4), .int f1091_5, .int f1091_6, .int f1091_7, .ref (κ w).2.2.2, .ref f1091_9, .ref f1091_10, .ref f1091_11, .int (nI f1091_12), .int f1091_13, .int f1091_14, .int f1091_15, .int f1091_16, .ref f1091_17]))] _ := hF1.hP (hP.sub [0] rfl) (fa_c ⟨by rw [hw.1]; decide, by rw [hw.2]; first | decide | (simp; done) | (simp; omega)⟩ fa_n)
    have hF := hF.tr (hF1.mono (by simp))
    have hT := hT1
    refine lv_iconst (v := 1) hx hb dX9_safest_25 (by decide) ?_
    refine lv_istore_n (lv' := [(1, .int 1), (0, .ref w)]) hx hb dX9_safest_26 rfl hl (by decide) rfl (fun ls hl => ?_)
    refine lp_m (α := Nat) (nL := 3) (fun a9 => 61 - a9) (fun a9 H9 l9 => (1 ≤ a9 ∧ a9 ≤ 61) ∧ (WT B0 D cs (T + 400 * a9) κ H9) ∧ (Fr B0 [12, 18] κ H0 H9) ∧ (OkL B0 l9)) (fun a9 => [(1, .int (nI a9)), (0, .ref w)]) ?_ 1 _ _ _ ⟨(by show 1 ≤ (1) ∧ (1) ≤ 61; omega), hT.up (by omega), hF, hL⟩ (lv_sub hl [0, 1] rfl)
    rintro j H locs ls ih1094 ⟨hj, hT, hF, hL⟩ hl
    have hl : lv_has ls 3 [(1, .int (nI j)), (0, .ref w)] := hl
    have hj : 1 ≤ j ∧ j ≤ 61 := hj
    refine lv_iload_n hx hb dX9_safest_27 rfl (lv_at hl 0 rfl) ?_
    refine lv_bipush (v := 60) hx hb dX9_safest_28 (by decide) ?_
    refine lv_icmp_gt (tgt := 62) hx hb dX9_safest_30 (by decide) (fun c1095 => ?_) (fun c1095 => ?_)
    · have c1095 : 60 < j := (nI_ltI (a := 60) (b := j) (by omega) (by omega)).mp c1095
      refine lv_iconst (v := (-1)) hx hb dX9_safest_62 (by decide) ?_
      exact en_i hx hb hr hlocks hL rfl (Nat.zero_le _) (Nat.zero_le _) dX9_safest_63 (⟨hT.up (by omega), hF⟩)
    · have c1095 : ¬ 60 < j := fun h9 => c1095 ((nI_ltI (a := 60) (b := j) (by omega) (by omega)).mpr h9)
      refine lv_aload_n hx hb dX9_safest_33 rfl (lv_at hl 1 rfl) ?_
      refine lv_iload_n hx hb dX9_safest_34 rfl (lv_at hl 0 rfl) ?_
      refine cv_i (As := [.int (nI j)]) (rest := []) (b := w) ⟨hx, hb, hml, hown, hts⟩ (c_X9_isSafe hT (w := w) hw (x := (nI j))) (cwV 1 hts gX9_safest_X9_isSafe rfl rfl rfl hdX9_isSafe_v ⟨Nat.le_of_ble_eq_true rfl, Nat.le_of_ble_eq_true rfl⟩) hN hE hL (rcv10 hN hT hw.1) rfl rfl hl.1 (Nat.le_of_ble_eq_true rfl) dX9_safest_35 (Nat.zero_le _) (Nat.zero_le _) (fun r1096 H1 locs hL hqr1096 => ?_)
      obtain ⟨hT1, hF1, hqr1096⟩ := hqr1096
      have hF := hF.tr (hF1.mono (by simp))
      have hT := hT1
      rcases hqr1096 with rfl | rfl
      · refine lv_istore_n (lv' := [(2, .int 0), (1, .int (nI j)), (0, .ref w)]) hx hb dX9_safest_38 rfl hl (by decide) rfl (fun ls hl => ?_)
        refine lv_aload_n hx hb dX9_safest_39 rfl (lv_at hl 2 rfl) ?_
        obtain ⟨hb1097, e1097, hat1097, hk1097⟩ := hT.o10 hw.1
        obtain ⟨f1097_0, f1097_1, f1097_3, f1097_4, f1097_5, f1097_6, f1097_7, f1097_9, f1097_10, f1097_11, f1097_12, f1097_13, f1097_14, f1097_15, f1097_16, f1097_17, rfl, c1097_2, c1097_3, c1097_4, c1097_12, t1097_1, t1097_8, t1097_9, c1097_sd, t1097_10, t1097_11, t1097_17⟩ := hk1097
        have hP : va_P D vwCl [(w, .inr (9, [.int f1097_0, .ref f1097_1, .int (nI ((κ w).2.2.1)), .int (nI f1097_3), .int (nI f1097_4), .int f1097_5, .int f1097_6, .int f1097_7, .ref (κ w).2.2.2, .ref f1097_9, .ref f1097_10, .ref f1097_11, .int (nI f1097_12), .int f1097_13, .int f1097_14, .int f1097_15, .int f1097_16, .ref f1097_17]))] _ := va_P.cons hat1097 va_P.nil
        refine va_get (D := D) (ci := 9) (v := .ref f1097_9) (C := RX9) (T := TX9) (N := 18) hx hb hts iX9_safest_9 hown hN.1 hP 0 rfl rfl 9 (by decide) (hts _ mX9_safest_3) (fun _ h9 => h9) rfl dX9_safest_40 ?_
        refine lv_aload_n hx hb dX9_safest_43 rfl (lv_at hl 2 rfl) ?_
        refine va_get (D := D) (ci := 9) (v := .ref (κ w).2.2.2) (C := RX9) (T := TX9) (N := 18) hx hb hts iX9_safest_9 hown hN.1 hP 0 rfl rfl 8 (by decide) (hts _ mX9_safest_2) (fun _ h9 => h9) rfl dX9_safest_44 ?_
        refine cs_v (As := [.ref f1097_9, .ref (κ w).2.2.2]) (rest := []) ⟨hx, hb, hml, hown, hts⟩ (c_X9_copyD hT (a := f1097_9) t1097_9 (b := (κ w).2.2.2) t1097_8 (ne_c t1097_9.1 t1097_8.1 (by decide)) (by first | omega | decide | assumption) (by first | omega | decide | assumption)) (va_cwS 2 hts gX9_safest_X9_copy rfl rfl rfl hdX9_copy_o ⟨Nat.le_of_ble_eq_true rfl, Nat.le_of_ble_eq_true rfl⟩) hN hE hL rfl rfl hl.1 (Nat.le_of_ble_eq_true rfl) dX9_safest_47 (Nat.zero_le _) (Nat.zero_le _) (fun H1 locs hL hqr1098 => ?_)
        obtain ⟨hT1, hF1⟩ := hqr1098
        have hP : va_P D vwCl [(w, .inr (9, [.int f1097_0, .ref f1097_1, .int (nI ((κ w).2.2.1)), .int (nI f1097_3), .int (nI f1097_4), .int f1097_5, .int f1097_6, .int f1097_7, .ref (κ w).2.2.2, .ref f1097_9, .ref f1097_10, .ref f1097_11, .int (nI f1097_12), .int f1097_13, .int f1097_14, .int f1097_15, .int f1097_16, .ref f1097_17]))] _ := hF1.hP (hP.sub [0] rfl) (fa_c ⟨by rw [hw.1]; decide, by rw [hw.2]; first | decide | (simp; done) | (simp; omega)⟩ fa_n)
        have hF := hF.tr (hF1.mono (by simp))
        have hT := hT1
        refine lv_iload_n hx hb dX9_safest_50 rfl (lv_at hl 0 rfl) ?_
        refine lv_if_eq (tgt := 56) hx hb dX9_safest_51 (by decide) (fun _ => ?_) (fun c9 => absurd (by decide) c9)
        refine lv_iinc (v := (nI (j + 1))) (lv' := [(1, .int (nI (j + 1))), (2, .int 0), (0, .ref w)]) hx hb dX9_safest_56 hl (k := 1) rfl (nI_add _ 1) (by decide) rfl (fun ls hl => ?_)
        refine lv_goto (tgt := 27) hx hb dX9_safest_59 (by decide) ?_
        exact ih1094 (j + 1) _ _ _ (by show 61 - ((j + 1)) < 61 - j; omega) ⟨(by show 1 ≤ ((j + 1)) ∧ ((j + 1)) ≤ 61; omega), hT.up (by omega), hF, hL⟩ (lv_sub hl [0, 2] rfl)
      · refine lv_istore_n (lv' := [(2, .int 1), (1, .int (nI j)), (0, .ref w)]) hx hb dX9_safest_38 rfl hl (by decide) rfl (fun ls hl => ?_)
        refine lv_aload_n hx hb dX9_safest_39 rfl (lv_at hl 2 rfl) ?_
        obtain ⟨hb1099, e1099, hat1099, hk1099⟩ := hT.o10 hw.1
        obtain ⟨f1099_0, f1099_1, f1099_3, f1099_4, f1099_5, f1099_6, f1099_7, f1099_9, f1099_10, f1099_11, f1099_12, f1099_13, f1099_14, f1099_15, f1099_16, f1099_17, rfl, c1099_2, c1099_3, c1099_4, c1099_12, t1099_1, t1099_8, t1099_9, c1099_sd, t1099_10, t1099_11, t1099_17⟩ := hk1099
        have hP : va_P D vwCl [(w, .inr (9, [.int f1099_0, .ref f1099_1, .int (nI ((κ w).2.2.1)), .int (nI f1099_3), .int (nI f1099_4), .int f1099_5, .int f1099_6, .int f1099_7, .ref (κ w).2.2.2, .ref f1099_9, .ref f1099_10, .ref f1099_11, .int (nI f1099_12), .int f1099_13, .int f1099_14, .int f1099_15, .int f1099_16, .ref f1099_17]))] _ := va_P.cons hat1099 va_P.nil
        refine va_get (D := D) (ci := 9) (v := .ref f1099_9) (C := RX9) (T := TX9) (N := 18) hx hb hts iX9_safest_9 hown hN.1 hP 0 rfl rfl 9 (by decide) (hts _ mX9_safest_3) (fun _ h9 => h9) rfl dX9_safest_40 ?_
        refine lv_aload_n hx hb dX9_safest_43 rfl (lv_at hl 2 rfl) ?_
        refine va_get (D := D) (ci := 9) (v := .ref (κ w).2.2.2) (C := RX9) (T := TX9) (N := 18) hx hb hts iX9_safest_9 hown hN.1 hP 0 rfl rfl 8 (by decide) (hts _ mX9_safest_2) (fun _ h9 => h9) rfl dX9_safest_44 ?_
        refine cs_v (As := [.ref f1099_9, .ref (κ w).2.2.2]) (rest := []) ⟨hx, hb, hml, hown, hts⟩ (c_X9_copyD hT (a := f1099_9) t1099_9 (b := (κ w).2.2.2) t1099_8 (ne_c t1099_9.1 t1099_8.1 (by decide)) (by first | omega | decide | assumption) (by first | omega | decide | assumption)) (va_cwS 2 hts gX9_safest_X9_copy rfl rfl rfl hdX9_copy_o ⟨Nat.le_of_ble_eq_true rfl, Nat.le_of_ble_eq_true rfl⟩) hN hE hL rfl rfl hl.1 (Nat.le_of_ble_eq_true rfl) dX9_safest_47 (Nat.zero_le _) (Nat.zero_le _) (fun H1 locs hL hqr1100 => ?_)
        obtain ⟨hT1, hF1⟩ := hqr1100
        have hP : va_P D vwCl [(w, .inr (9, [.int f1099_0, .ref f1099_1, .int (nI ((κ w).2.2.1)), .int (nI f1099_3), .int (nI f1099_4), .int f1099_5, .int f1099_6, .int f1099_7, .ref (κ w).2.2.2, .ref f1099_9, .ref f1099_10, .ref f1099_11, .int (nI f1099_12), .int f1099_13, .int f1099_14, .int f1099_15, .int f1099_16, .ref f1099_17]))] _ := hF1.hP (hP.sub [0] rfl) (fa_c ⟨by rw [hw.1]; decide, by rw [hw.2]; first | decide | (simp; done) | (simp; omega)⟩ fa_n)
        have hF := hF.tr (hF1.mono (by simp))
        have hT := hT1
        refine lv_iload_n hx hb dX9_safest_50 rfl (lv_at hl 0 rfl) ?_
        refine lv_if_eq (tgt := 56) hx hb dX9_safest_51 (by decide) (fun c9 => absurd c9 (by decide)) (fun _ => ?_)
        refine lv_iload_n hx hb dX9_safest_54 rfl (lv_at hl 1 rfl) ?_
        exact en_i hx hb hr hlocks hL rfl (Nat.zero_le _) (Nat.zero_le _) dX9_safest_55 (⟨hT.up (by omega), hF⟩)
theorem mX9_propose_1 : (.fieldLink RX9 40 "OneBeatModel" "thrown" "I" : Cond) ∈ wsX9_propose := List.mem_of_getElem? (i := 1) (by decide +kernel)
theorem iX9_propose_9 : ∀ w ∈ wsX90, w ∈ wsX9_propose := fun w h => List.mem_of_mem_drop (List.mem_of_mem_take ((show wsX90 = (wsX9_propose.drop 105).take 18 by decide +kernel) ▸ h))
theorem hdX9_remember_v : yX9_remember.cls = RX9 ∧ yX9_remember.cls ≠ "java/lang/invoke/MethodHandle" ∧ yX9_remember.cls ≠ "java/lang/invoke/VarHandle" ∧ (parseMethodDescriptor yX9_remember.desc).map (fun d => d.parameters.length) = some 0 := by decide +kernel
set_option maxHeartbeats 4000000 in
set_option maxRecDepth 100000 in
theorem c_X9_propose {l : Launch} {D : va_G} {cs : Nat → ClassId} {B0 T : Nat} {κ : KM} {H0 : Heap} (hT : WT B0 D cs T κ H0) {w : Nat} (hw : T2 κ w 10 12) {x : Int32} : KC l yX9_propose wsX9_propose 6 131 0 0 D cs B0 H0 [.ref w, .int x] (Qi (fun _ H => WT B0 D cs T κ H ∧ Fr B0 [12, 18, 19] κ H0 H)) := by
  refine KC.of cX9_propose 2 (some .int) (by decide) rfl (Nat.le_of_ble_eq_true rfl) ?_
  intro p e s m below meth c ls hx hb hr hml hown hts hlocks hin hN hE hH0 hl
  have hown : s.vm.findClass RX9 = some m.cls := hown
  have hl : lv_has ls 2 [(0, .ref w), (1, .int x)] := hl
  have hL : OkL B0 [] := OkL.nil
  have hF : Fr B0 [12, 18, 19] κ H0 H0 := Fr.rf
  refine lv_aload_n hx hb dX9_propose_0 rfl (lv_at hl 0 rfl) ?_
  refine lv_iconst (v := 0) hx hb dX9_propose_1 (by decide) ?_
  obtain ⟨hb1101, e1101, hat1101, hk1101⟩ := hT.o10 hw.1
  obtain ⟨f1101_0, f1101_1, f1101_3, f1101_4, f1101_5, f1101_6, f1101_7, f1101_9, f1101_10, f1101_11, f1101_12, f1101_13, f1101_14, f1101_15, f1101_16, f1101_17, rfl, c1101_2, c1101_3, c1101_4, c1101_12, t1101_1, t1101_8, t1101_9, c1101_sd, t1101_10, t1101_11, t1101_17⟩ := hk1101
  have hP : va_P D vwCl [(w, .inr (9, [.int f1101_0, .ref f1101_1, .int (nI ((κ w).2.2.1)), .int (nI f1101_3), .int (nI f1101_4), .int f1101_5, .int f1101_6, .int f1101_7, .ref (κ w).2.2.2, .ref f1101_9, .ref f1101_10, .ref f1101_11, .int (nI f1101_12), .int f1101_13, .int f1101_14, .int f1101_15, .int f1101_16, .ref f1101_17]))] _ := va_P.cons hat1101 va_P.nil
  have hB : Bx B0 D _ [(w, .inr (9, [.int f1101_0, .ref f1101_1, .int (nI ((κ w).2.2.1)), .int (nI f1101_3), .int (nI f1101_4), .int f1101_5, .int f1101_6, .int f1101_7, .ref (κ w).2.2.2, .ref f1101_9, .ref f1101_10, .ref f1101_11, .int (nI f1101_12), .int f1101_13, .int f1101_14, .int f1101_15, .int f1101_16, .ref f1101_17]))] [] _ _ := Bx.of (fun a => (κ a).1) hL hP (fa_c hb1101 fa_n) (by simp only [List.map_cons, List.map_nil, hw.1]; decide)
  refine b_put (D := D) (ci := 9) (v := .int 0) (ty := .int) (C := RX9) (T := TX9) (N := 18) hx hb hts iX9_propose_9 tyX9 tyX9_ok nmX9 hown hN hB 0 rfl rfl 0 (by decide) (hts _ mX9_propose_1) (fun _ h9 => h9) rfl (by decide +kernel) rfl rfl (Nat.le_of_ble_eq_true rfl) (.inl rfl) dX9_propose_2 (fun H locs hB => ?_)
  have hB : Bx B0 D _ [(w, .inr (9, [.int 0, .ref f1101_1, .int (nI ((κ w).2.2.1)), .int (nI f1101_3), .int (nI f1101_4), .int f1101_5, .int f1101_6, .int f1101_7, .ref (κ w).2.2.2, .ref f1101_9, .ref f1101_10, .ref f1101_11, .int (nI f1101_12), .int f1101_13, .int f1101_14, .int f1101_15, .int f1101_16, .ref f1101_17]))] [w] _ _ := hB
  refine lv_aload_n hx hb dX9_propose_5 rfl (lv_at hl 0 rfl) ?_
  refine lv_iload_n hx hb dX9_propose_6 rfl (lv_at hl 1 rfl) ?_
  refine lv_iconst (v := 0) hx hb dX9_propose_7 (by decide) ?_
  refine lv_bipush (v := 99) hx hb dX9_propose_8 (by decide) ?_
  have hT : WT B0 D cs T κ _ := hT.close hB ⟨⟨0, _, rfl, ok_10 hw.1 ⟨_, _, _, _, _, _, _, _, _, _, _, _, _, _, _, _, rfl, (by omega), (by omega), (by omega), (by omega), t1101_1, t1101_8, t1101_9, c1101_sd, t1101_10, t1101_11, t1101_17⟩⟩, trivial⟩
  have hF : Fr B0 [12, 18, 19] κ H0 _ := hF.close hB (fa_c (by simp [hw.2]) fa_n)
  have hL : OkL B0 _ := hB.2.2.2.2.2
  have hP : va_P D vwCl [(w, .inr (9, [.int 0, .ref f1101_1, .int (nI ((κ w).2.2.1)), .int (nI f1101_3), .int (nI f1101_4), .int f1101_5, .int f1101_6, .int f1101_7, .ref (κ w).2.2.2, .ref f1101_9, .ref f1101_10, .ref f1101_11, .int (nI f1101_12), .int f1101_13, .int f1101_14, .int f1101_15, .int f1101_16, .ref f1101_17]))] _ := hB.1
  refine cs_i (As := [.int x, .int 0, .int 99]) (rest := [.ref w]) ⟨hx, hb, hml, hown, hts⟩ (c_X9_in hT (x := x) (y := 0) (z := 99)) (va_cwS 3 hts gX9_propose_X9_in rfl rfl rfl hdX9_in_o ⟨Nat.le_of_ble_eq_true rfl, Nat.le_of_ble_eq_true rfl⟩) hN hE hL rfl rfl hl.1 (Nat.le_of_ble_eq_true rfl) dX9_propose_10 (Nat.zero_le _) (Nat.zero_le _) (fun r1102 H1 locs hL hqr1102 => ?_)
  obtain ⟨h9, hqr1102⟩ := hqr1102; replace h9 := h9.symm; subst h9
  rcases hqr1102 with ⟨rfl, o1103⟩ | ⟨rfl, l1104, g1105⟩
  · refine lv_if_ne (tgt := 20) hx hb dX9_propose_13 (by decide) (fun c9 => absurd (by decide) c9) (fun _ => ?_)
    refine lv_iconst (v := 1) hx hb dX9_propose_16 (by decide) ?_
    refine lv_goto (tgt := 21) hx hb dX9_propose_17 (by decide) ?_
    refine lv_iconst (v := 1) hx hb dX9_propose_21 (by decide) ?_
    refine cv_i (As := [.int 1, .int 1]) (rest := []) (b := w) ⟨hx, hb, hml, hown, hts⟩ (c_X9_fails hT (w := w) hw (x := 1) (z := 1) (by first | omega | decide | assumption)) (cwV 2 hts gX9_propose_X9_fails rfl rfl rfl hdX9_fails_v ⟨Nat.le_of_ble_eq_true rfl, Nat.le_of_ble_eq_true rfl⟩) hN hE hL (rcv10 hN hT hw.1) rfl rfl hl.1 (Nat.le_of_ble_eq_true rfl) dX9_propose_22 (Nat.zero_le _) (Nat.zero_le _) (fun r1106 H1 locs hL hqr1106 => ?_)
    obtain ⟨hT1, hF1, hqr1106⟩ := hqr1106
    have hF := hF.tr (hF1.mono (by simp))
    have hT := hT1
    rcases hqr1106 with rfl | ⟨rfl, e1107⟩
    · refine lv_if_ne (tgt := 48) hx hb dX9_propose_25 (by decide) (fun _ => ?_) (fun c9 => absurd c9 (by decide))
      refine lv_iconst (v := 0) hx hb dX9_propose_48 (by decide) ?_
      exact en_i hx hb hr hlocks hL rfl (Nat.zero_le _) (Nat.zero_le _) dX9_propose_49 (⟨hT, hF⟩)
    · exact absurd e1107 (by decide)
  · refine lv_if_ne (tgt := 20) hx hb dX9_propose_13 (by decide) (fun _ => ?_) (fun c9 => absurd c9 (by decide))
    refine lv_iconst (v := 0) hx hb dX9_propose_20 (by decide) ?_
    refine lv_iconst (v := 1) hx hb dX9_propose_21 (by decide) ?_
    refine cv_i (As := [.int 0, .int 1]) (rest := []) (b := w) ⟨hx, hb, hml, hown, hts⟩ (c_X9_fails hT (w := w) hw (x := 0) (z := 1) (by first | omega | decide | assumption)) (cwV 2 hts gX9_propose_X9_fails rfl rfl rfl hdX9_fails_v ⟨Nat.le_of_ble_eq_true rfl, Nat.le_of_ble_eq_true rfl⟩) hN hE hL (rcv10 hN hT hw.1) rfl rfl hl.1 (Nat.le_of_ble_eq_true rfl) dX9_propose_22 (Nat.zero_le _) (Nat.zero_le _) (fun r1108 H1 locs hL hqr1108 => ?_)
    obtain ⟨hT1, hF1, hqr1108⟩ := hqr1108
    have hF := hF.tr (hF1.mono (by simp))
    have hT := hT1
    rcases hqr1108 with rfl | ⟨rfl, e1109⟩
    · refine lv_if_ne (tgt := 48) hx hb dX9_propose_25 (by decide) (fun _ => ?_) (fun c9 => absurd c9 (by decide))
      refine lv_iconst (v := 0) hx hb dX9_propose_48 (by decide) ?_
      exact en_i hx hb hr hlocks hL rfl (Nat.zero_le _) (Nat.zero_le _) dX9_propose_49 (⟨hT, hF⟩)
    · refine lv_if_ne (tgt := 48) hx hb dX9_propose_25 (by decide) (fun c9 => absurd (by decide) c9) (fun _ => ?_)
      refine lv_aload_n hx hb dX9_propose_28 rfl (lv_at hl 0 rfl) ?_
      refine lv_aload_n hx hb dX9_propose_29 rfl (lv_at hl 0 rfl) ?_
      refine cv_i (As := []) (rest := [.ref w]) (b := w) ⟨hx, hb, hml, hown, hts⟩ (c_X9_mayPropose hT (w := w) hw) (cwV 0 hts gX9_propose_X9_mayPropose rfl rfl rfl hdX9_mayPropose_v ⟨Nat.le_of_ble_eq_true rfl, Nat.le_of_ble_eq_true rfl⟩) hN hE hL (rcv10 hN hT hw.1) rfl rfl hl.1 (Nat.le_of_ble_eq_true rfl) dX9_propose_30 (Nat.zero_le _) (Nat.zero_le _) (fun r1110 H1 locs hL hqr1110 => ?_)
      obtain ⟨h9, hqr1110⟩ := hqr1110; replace h9 := h9.symm; subst h9
      rcases hqr1110 with rfl | rfl
      · refine lv_if_ne (tgt := 40) hx hb dX9_propose_33 (by decide) (fun c9 => absurd (by decide) c9) (fun _ => ?_)
        refine lv_iconst (v := 1) hx hb dX9_propose_36 (by decide) ?_
        refine lv_goto (tgt := 41) hx hb dX9_propose_37 (by decide) ?_
        refine lv_iconst (v := 2) hx hb dX9_propose_41 (by decide) ?_
        refine cv_i (As := [.int 1, .int 2]) (rest := []) (b := w) ⟨hx, hb, hml, hown, hts⟩ (c_X9_fails hT (w := w) hw (x := 1) (z := 2) ((by decide))) (cwV 2 hts gX9_propose_X9_fails rfl rfl rfl hdX9_fails_v ⟨Nat.le_of_ble_eq_true rfl, Nat.le_of_ble_eq_true rfl⟩) hN hE hL (rcv10 hN hT hw.1) rfl rfl hl.1 (Nat.le_of_ble_eq_true rfl) dX9_propose_42 (Nat.zero_le _) (Nat.zero_le _) (fun r1111 H1 locs hL hqr1111 => ?_)
        obtain ⟨hT1, hF1, hqr1111⟩ := hqr1111
        have hF := hF.tr (hF1.mono (by simp))
        have hT := hT1
        rcases hqr1111 with rfl | ⟨rfl, e1112⟩
        · refine lv_if_eq (tgt := 50) hx hb dX9_propose_45 (by decide) (fun c9 => absurd c9 (by decide)) (fun _ => ?_)
          refine lv_iconst (v := 0) hx hb dX9_propose_48 (by decide) ?_
          exact en_i hx hb hr hlocks hL rfl (Nat.zero_le _) (Nat.zero_le _) dX9_propose_49 (⟨hT, hF⟩)
        · exact absurd e1112 (by decide)
      · refine lv_if_ne (tgt := 40) hx hb dX9_propose_33 (by decide) (fun _ => ?_) (fun c9 => absurd c9 (by decide))
        refine lv_iconst (v := 0) hx hb dX9_propose_40 (by decide) ?_
        refine lv_iconst (v := 2) hx hb dX9_propose_41 (by decide) ?_
        refine cv_i (As := [.int 0, .int 2]) (rest := []) (b := w) ⟨hx, hb, hml, hown, hts⟩ (c_X9_fails hT (w := w) hw (x := 0) (z := 2) ((by decide))) (cwV 2 hts gX9_propose_X9_fails rfl rfl rfl hdX9_fails_v ⟨Nat.le_of_ble_eq_true rfl, Nat.le_of_ble_eq_true rfl⟩) hN hE hL (rcv10 hN hT hw.1) rfl rfl hl.1 (Nat.le_of_ble_eq_true rfl) dX9_propose_42 (Nat.zero_le _) (Nat.zero_le _) (fun r1113 H1 locs hL hqr1113 => ?_)
        obtain ⟨hT1, hF1, hqr1113⟩ := hqr1113
        have hF := hF.tr (hF1.mono (by simp))
        have hT := hT1
        rcases hqr1113 with rfl | ⟨rfl, e1114⟩
        · refine lv_if_eq (tgt := 50) hx hb dX9_propose_45 (by decide) (fun c9 => absurd c9 (by decide)) (fun _ => ?_)
          refine lv_iconst (v := 0) hx hb dX9_propose_48 (by decide) ?_
          exact en_i hx hb hr hlocks hL rfl (Nat.zero_le _) (Nat.zero_le _) dX9_propose_49 (⟨hT, hF⟩)
        · refine lv_if_eq (tgt := 50) hx hb dX9_propose_45 (by decide) (fun _ => ?_) (fun c9 => absurd (by decide) c9)
          refine lv_aload_n hx hb dX9_propose_50 rfl (lv_at hl 0 rfl) ?_
          refine cv_v (As := []) (rest := []) (b := w) ⟨hx, hb, hml, hown, hts⟩ (c_X9_remember hT (w := w) hw) (cwV 0 hts gX9_propose_X9_remember rfl rfl rfl hdX9_remember_v ⟨Nat.le_of_ble_eq_true rfl, Nat.le_of_ble_eq_true rfl⟩) hN hE hL (rcv10 hN hT hw.1) rfl rfl hl.1 (Nat.le_of_ble_eq_true rfl) dX9_propose_51 (Nat.zero_le _) (Nat.zero_le _) (fun H1 locs hL hqr1115 => ?_)
          obtain ⟨hT1, hF1⟩ := hqr1115
          have hF := hF.tr (hF1.mono (by simp))
          have hT := hT1
          refine lv_aload_n hx hb dX9_propose_54 rfl (lv_at hl 0 rfl) ?_
          refine lv_iload_n hx hb dX9_propose_55 rfl (lv_at hl 1 rfl) ?_
          refine lv_aload_n hx hb dX9_propose_56 rfl (lv_at hl 0 rfl) ?_
          refine lv_iload_n hx hb dX9_propose_57 rfl (lv_at hl 1 rfl) ?_
          refine cv_i (As := [.int x]) (rest := [.int x, .ref w]) (b := w) ⟨hx, hb, hml, hown, hts⟩ (c_X9_margin hT (w := w) hw (x := x)) (cwV 1 hts gX9_propose_X9_margin rfl rfl rfl hdX9_margin_v ⟨Nat.le_of_ble_eq_true rfl, Nat.le_of_ble_eq_true rfl⟩) hN hE hL (rcv10 hN hT hw.1) rfl rfl hl.1 (Nat.le_of_ble_eq_true rfl) dX9_propose_58 (Nat.zero_le _) (Nat.zero_le _) (fun r1116 H1 locs hL hqr1116 => ?_)
          obtain ⟨hT1, hF1⟩ := hqr1116
          have hF := hF.tr (hF1.mono (by simp))
          have hT := hT1
          refine cv_i (As := [.int x, .int r1116]) (rest := []) (b := w) ⟨hx, hb, hml, hown, hts⟩ (c_X9_proposeNow hT (w := w) hw (x := x) (y := r1116)) (cwV 2 hts gX9_propose_X9_proposeNow rfl rfl rfl hdX9_proposeNow_v ⟨Nat.le_of_ble_eq_true rfl, Nat.le_of_ble_eq_true rfl⟩) hN hE hL (rcv10 hN hT hw.1) rfl rfl hl.1 (Nat.le_of_ble_eq_true rfl) dX9_propose_61 (Nat.zero_le _) (Nat.zero_le _) (fun r1117 H1 locs hL hqr1117 => ?_)
          obtain ⟨hT1, hF1⟩ := hqr1117
          have hF := hF.tr (hF1.mono (by simp))
          have hT := hT1
          exact en_i hx hb hr hlocks hL rfl (Nat.zero_le _) (Nat.zero_le _) dX9_propose_64 (⟨hT, hF⟩)
theorem mX9_ask_1 : (.fieldLink RX9 40 "OneBeatModel" "thrown" "I" : Cond) ∈ wsX9_ask := List.mem_of_getElem? (i := 1) (by decide +kernel)
theorem iX9_ask_9 : ∀ w ∈ wsX90, w ∈ wsX9_ask := fun w h => List.mem_of_mem_drop (List.mem_of_mem_take ((show wsX90 = (wsX9_ask.drop 46).take 18 by decide +kernel) ▸ h))
theorem mX9_ask_2 : (.fieldLink RX9 18 "OneBeatModel" "data" "[I" : Cond) ∈ wsX9_ask := List.mem_of_getElem? (i := 2) (by decide +kernel)
set_option maxHeartbeats 4000000 in
set_option maxRecDepth 100000 in
theorem c_X9_ask {l : Launch} {D : va_G} {cs : Nat → ClassId} {B0 T : Nat} {κ : KM} {H0 : Heap} (hT : WT B0 D cs T κ H0) {w : Nat} (hw : T2 κ w 10 12) {x : Int32} : KC l yX9_ask wsX9_ask 3 63 0 0 D cs B0 H0 [.ref w, .int x] (Qi (fun r H => WT B0 D cs T κ H ∧ Fr B0 [12, 18] κ H0 H ∧ (r = 0 ∨ r = 1))) := by
  refine KC.of cX9_ask 2 (some .boolean) (by decide) rfl (Nat.le_of_ble_eq_true rfl) ?_
  intro p e s m below meth c ls hx hb hr hml hown hts hlocks hin hN hE hH0 hl
  have hown : s.vm.findClass RX9 = some m.cls := hown
  have hl : lv_has ls 2 [(0, .ref w), (1, .int x)] := hl
  have hL : OkL B0 [] := OkL.nil
  have hF : Fr B0 [12, 18] κ H0 H0 := Fr.rf
  refine lv_aload_n hx hb dX9_ask_0 rfl (lv_at hl 0 rfl) ?_
  refine lv_iconst (v := 0) hx hb dX9_ask_1 (by decide) ?_
  obtain ⟨hb1118, e1118, hat1118, hk1118⟩ := hT.o10 hw.1
  obtain ⟨f1118_0, f1118_1, f1118_3, f1118_4, f1118_5, f1118_6, f1118_7, f1118_9, f1118_10, f1118_11, f1118_12, f1118_13, f1118_14, f1118_15, f1118_16, f1118_17, rfl, c1118_2, c1118_3, c1118_4, c1118_12, t1118_1, t1118_8, t1118_9, c1118_sd, t1118_10, t1118_11, t1118_17⟩ := hk1118
  have hP : va_P D vwCl [(w, .inr (9, [.int f1118_0, .ref f1118_1, .int (nI ((κ w).2.2.1)), .int (nI f1118_3), .int (nI f1118_4), .int f1118_5, .int f1118_6, .int f1118_7, .ref (κ w).2.2.2, .ref f1118_9, .ref f1118_10, .ref f1118_11, .int (nI f1118_12), .int f1118_13, .int f1118_14, .int f1118_15, .int f1118_16, .ref f1118_17]))] _ := va_P.cons hat1118 va_P.nil
  have hB : Bx B0 D _ [(w, .inr (9, [.int f1118_0, .ref f1118_1, .int (nI ((κ w).2.2.1)), .int (nI f1118_3), .int (nI f1118_4), .int f1118_5, .int f1118_6, .int f1118_7, .ref (κ w).2.2.2, .ref f1118_9, .ref f1118_10, .ref f1118_11, .int (nI f1118_12), .int f1118_13, .int f1118_14, .int f1118_15, .int f1118_16, .ref f1118_17]))] [] _ _ := Bx.of (fun a => (κ a).1) hL hP (fa_c hb1118 fa_n) (by simp only [List.map_cons, List.map_nil, hw.1]; decide)
  refine b_put (D := D) (ci := 9) (v := .int 0) (ty := .int) (C := RX9) (T := TX9) (N := 18) hx hb hts iX9_ask_9 tyX9 tyX9_ok nmX9 hown hN hB 0 rfl rfl 0 (by decide) (hts _ mX9_ask_1) (fun _ h9 => h9) rfl (by decide +kernel) rfl rfl (Nat.le_of_ble_eq_true rfl) (.inl rfl) dX9_ask_2 (fun H locs hB => ?_)
  have hB : Bx B0 D _ [(w, .inr (9, [.int 0, .ref f1118_1, .int (nI ((κ w).2.2.1)), .int (nI f1118_3), .int (nI f1118_4), .int f1118_5, .int f1118_6, .int f1118_7, .ref (κ w).2.2.2, .ref f1118_9, .ref f1118_10, .ref f1118_11, .int (nI f1118_12), .int f1118_13, .int f1118_14, .int f1118_15, .int f1118_16, .ref f1118_17]))] [w] _ _ := hB
  refine lv_aload_n hx hb dX9_ask_5 rfl (lv_at hl 0 rfl) ?_
  refine lv_iload_n hx hb dX9_ask_6 rfl (lv_at hl 1 rfl) ?_
  have hT : WT B0 D cs T κ _ := hT.close hB ⟨⟨0, _, rfl, ok_10 hw.1 ⟨_, _, _, _, _, _, _, _, _, _, _, _, _, _, _, _, rfl, (by omega), (by omega), (by omega), (by omega), t1118_1, t1118_8, t1118_9, c1118_sd, t1118_10, t1118_11, t1118_17⟩⟩, trivial⟩
  have hF : Fr B0 [12, 18] κ H0 _ := hF.close hB (fa_c (by simp [hw.2]) fa_n)
  have hL : OkL B0 _ := hB.2.2.2.2.2
  have hP : va_P D vwCl [(w, .inr (9, [.int 0, .ref f1118_1, .int (nI ((κ w).2.2.1)), .int (nI f1118_3), .int (nI f1118_4), .int f1118_5, .int f1118_6, .int f1118_7, .ref (κ w).2.2.2, .ref f1118_9, .ref f1118_10, .ref f1118_11, .int (nI f1118_12), .int f1118_13, .int f1118_14, .int f1118_15, .int f1118_16, .ref f1118_17]))] _ := hB.1
  refine cv_i (As := [.int x]) (rest := []) (b := w) ⟨hx, hb, hml, hown, hts⟩ (c_X9_noPlayer hT (w := w) hw (x := x)) (cwV 1 hts gX9_ask_X9_noPlayer rfl rfl rfl hdX9_noPlayer_v ⟨Nat.le_of_ble_eq_true rfl, Nat.le_of_ble_eq_true rfl⟩) hN hE hL (rcv10 hN hT hw.1) rfl rfl hl.1 (Nat.le_of_ble_eq_true rfl) dX9_ask_7 (Nat.zero_le _) (Nat.zero_le _) (fun r1119 H1 locs hL hqr1119 => ?_)
  obtain ⟨hT1, hF1, hqr1119⟩ := hqr1119
  have hF := hF.tr (hF1.mono (by simp))
  have hT := hT1
  rcases hqr1119 with rfl | ⟨rfl, n1120, h1121, rfl⟩
  · refine lv_if_ne (tgt := 44) hx hb dX9_ask_10 (by decide) (fun _ => ?_) (fun c9 => absurd c9 (by decide))
    refine lv_iconst (v := 0) hx hb dX9_ask_44 (by decide) ?_
    exact en_i hx hb hr hlocks hL rfl (Nat.zero_le _) (Nat.zero_le _) dX9_ask_45 (⟨hT, hF, Or.inl rfl⟩)
  · refine lv_if_ne (tgt := 44) hx hb dX9_ask_10 (by decide) (fun c9 => absurd (by decide) c9) (fun _ => ?_)
    refine lv_aload_n hx hb dX9_ask_13 rfl (lv_at hl 0 rfl) ?_
    refine lv_aload_n hx hb dX9_ask_14 rfl (lv_at hl 0 rfl) ?_
    refine lv_iload_n hx hb dX9_ask_15 rfl (lv_at hl 1 rfl) ?_
    refine cv_i (As := [.int (nI n1120)]) (rest := [.ref w]) (b := w) ⟨hx, hb, hml, hown, hts⟩ (c_X9_isUp hT (w := w) hw (n := n1120) (by first | omega | decide | assumption)) (cwV 1 hts gX9_ask_X9_isUp rfl rfl rfl hdX9_isUp_v ⟨Nat.le_of_ble_eq_true rfl, Nat.le_of_ble_eq_true rfl⟩) hN hE hL (rcv10 hN hT hw.1) rfl rfl hl.1 (Nat.le_of_ble_eq_true rfl) dX9_ask_16 (Nat.zero_le _) (Nat.zero_le _) (fun r1122 H1 locs hL hqr1122 => ?_)
    obtain ⟨h9, hqr1122⟩ := hqr1122; replace h9 := h9.symm; subst h9
    rcases hqr1122 with rfl | rfl
    · refine lv_if_eq (tgt := 32) hx hb dX9_ask_19 (by decide) (fun _ => ?_) (fun c9 => absurd (by decide) c9)
      refine lv_iconst (v := 1) hx hb dX9_ask_32 (by decide) ?_
      refine lv_goto (tgt := 37) hx hb dX9_ask_33 (by decide) ?_
      refine lv_iconst (v := 2) hx hb dX9_ask_37 (by decide) ?_
      refine cv_i (As := [.int 1, .int 2]) (rest := []) (b := w) ⟨hx, hb, hml, hown, hts⟩ (c_X9_fails hT (w := w) hw (x := 1) (z := 2) ((by decide))) (cwV 2 hts gX9_ask_X9_fails rfl rfl rfl hdX9_fails_v ⟨Nat.le_of_ble_eq_true rfl, Nat.le_of_ble_eq_true rfl⟩) hN hE hL (rcv10 hN hT hw.1) rfl rfl hl.1 (Nat.le_of_ble_eq_true rfl) dX9_ask_38 (Nat.zero_le _) (Nat.zero_le _) (fun r1123 H1 locs hL hqr1123 => ?_)
      obtain ⟨hT1, hF1, hqr1123⟩ := hqr1123
      have hF := hF.tr (hF1.mono (by simp))
      have hT := hT1
      rcases hqr1123 with rfl | ⟨rfl, e1124⟩
      · refine lv_if_eq (tgt := 46) hx hb dX9_ask_41 (by decide) (fun c9 => absurd c9 (by decide)) (fun _ => ?_)
        refine lv_iconst (v := 0) hx hb dX9_ask_44 (by decide) ?_
        exact en_i hx hb hr hlocks hL rfl (Nat.zero_le _) (Nat.zero_le _) dX9_ask_45 (⟨hT, hF, Or.inl rfl⟩)
      · exact absurd e1124 (by decide)
    · refine lv_if_eq (tgt := 32) hx hb dX9_ask_19 (by decide) (fun c9 => absurd c9 (by decide)) (fun _ => ?_)
      refine lv_iload_n hx hb dX9_ask_22 rfl (lv_at hl 1 rfl) ?_
      refine lv_aload_n hx hb dX9_ask_23 rfl (lv_at hl 0 rfl) ?_
      obtain ⟨hb1125, e1125, hat1125, hk1125⟩ := hT.o10 hw.1
      obtain ⟨f1125_0, f1125_1, f1125_3, f1125_4, f1125_5, f1125_6, f1125_7, f1125_9, f1125_10, f1125_11, f1125_12, f1125_13, f1125_14, f1125_15, f1125_16, f1125_17, rfl, c1125_2, c1125_3, c1125_4, c1125_12, t1125_1, t1125_8, t1125_9, c1125_sd, t1125_10, t1125_11, t1125_17⟩ := hk1125
      have hP : va_P D vwCl [(w, .inr (9, [.int f1125_0, .ref f1125_1, .int (nI ((κ w).2.2.1)), .int (nI f1125_3), .int (nI f1125_4), .int f1125_5, .int f1125_6, .int f1125_7, .ref (κ w).2.2.2, .ref f1125_9, .ref f1125_10, .ref f1125_11, .int (nI f1125_12), .int f1125_13, .int f1125_14, .int f1125_15, .int f1125_16, .ref f1125_17]))] _ := va_P.cons hat1125 va_P.nil
      refine va_get (D := D) (ci := 9) (v := .ref (κ w).2.2.2) (C := RX9) (T := TX9) (N := 18) hx hb hts iX9_ask_9 hown hN.1 hP 0 rfl rfl 8 (by decide) (hts _ mX9_ask_2) (fun _ h9 => h9) rfl dX9_ask_24 ?_
      refine lv_iconst (v := 2) hx hb dX9_ask_27 (by decide) ?_
      obtain ⟨hb1126, e1126, hat1126, hk1126⟩ := hT.o24 t1125_8.1
      obtain ⟨g1126, rfl, q1126⟩ := hk1126
      have hP : va_P D vwCl [((κ w).2.2.2, .inl (cs 0, 45783, .inl g1126)), (w, .inr (9, [.int f1125_0, .ref f1125_1, .int (nI ((κ w).2.2.1)), .int (nI f1125_3), .int (nI f1125_4), .int f1125_5, .int f1125_6, .int f1125_7, .ref (κ w).2.2.2, .ref f1125_9, .ref f1125_10, .ref f1125_11, .int (nI f1125_12), .int f1125_13, .int f1125_14, .int f1125_15, .int f1125_16, .ref f1125_17]))] _ := va_P.cons hat1126 hP
      refine ld_i (v := (g1126 2)) hx hb hN hP 0 rfl (vp_in_nI (n := 2) (N := 45783) (by omega) (by omega)) (by rw [(show (2 : Int32).toNatClampNeg = 2 from nI_clamp (n := 2) (by omega))]) dX9_ask_28 ?_
      obtain ⟨n1127, hn1127, en1127⟩ := q1126.2.2.1
      refine tp_i (nI n1127) en1127 ?_
      refine lv_icmp_ne (tgt := 36) hx hb dX9_ask_29 (by decide) (fun c1128 => ?_) (fun c1128 => ?_)
      · have c1128 : ¬ n1120 = n1127 := fun h9 => c1128 ((nI_eq (a := n1120) (b := n1127) (by omega) (by omega)).mpr h9)
        refine lv_iconst (v := 0) hx hb dX9_ask_36 (by decide) ?_
        refine lv_iconst (v := 2) hx hb dX9_ask_37 (by decide) ?_
        refine cv_i (As := [.int 0, .int 2]) (rest := []) (b := w) ⟨hx, hb, hml, hown, hts⟩ (c_X9_fails hT (w := w) hw (x := 0) (z := 2) ((by decide))) (cwV 2 hts gX9_ask_X9_fails rfl rfl rfl hdX9_fails_v ⟨Nat.le_of_ble_eq_true rfl, Nat.le_of_ble_eq_true rfl⟩) hN hE hL (rcv10 hN hT hw.1) rfl rfl hl.1 (Nat.le_of_ble_eq_true rfl) dX9_ask_38 (Nat.zero_le _) (Nat.zero_le _) (fun r1129 H1 locs hL hqr1129 => ?_)
        obtain ⟨hT1, hF1, hqr1129⟩ := hqr1129
        have hP : va_P D vwCl [((κ w).2.2.2, .inl (cs 0, 45783, .inl g1126))] _ := hF1.hP (hP.sub [0] rfl) (fa_c ⟨by rw [t1125_8.1]; decide, by rw [t1125_8.2]; first | decide | (simp; done) | (simp; omega)⟩ fa_n)
        have hF := hF.tr (hF1.mono (by simp))
        have hT := hT1
        rcases hqr1129 with rfl | ⟨rfl, e1130⟩
        · refine lv_if_eq (tgt := 46) hx hb dX9_ask_41 (by decide) (fun c9 => absurd c9 (by decide)) (fun _ => ?_)
          refine lv_iconst (v := 0) hx hb dX9_ask_44 (by decide) ?_
          exact en_i hx hb hr hlocks hL rfl (Nat.zero_le _) (Nat.zero_le _) dX9_ask_45 (⟨hT, hF, Or.inl rfl⟩)
        · refine lv_if_eq (tgt := 46) hx hb dX9_ask_41 (by decide) (fun _ => ?_) (fun c9 => absurd (by decide) c9)
          refine lv_aload_n hx hb dX9_ask_46 rfl (lv_at hl 0 rfl) ?_
          refine cv_v (As := []) (rest := []) (b := w) ⟨hx, hb, hml, hown, hts⟩ (c_X9_remember hT (w := w) hw) (cwV 0 hts gX9_ask_X9_remember rfl rfl rfl hdX9_remember_v ⟨Nat.le_of_ble_eq_true rfl, Nat.le_of_ble_eq_true rfl⟩) hN hE hL (rcv10 hN hT hw.1) rfl rfl hl.1 (Nat.le_of_ble_eq_true rfl) dX9_ask_47 (Nat.zero_le _) (Nat.zero_le _) (fun H1 locs hL hqr1131 => ?_)
          obtain ⟨hT1, hF1⟩ := hqr1131
          have hF := hF.tr (hF1.mono (by simp))
          have hT := hT1
          refine lv_aload_n hx hb dX9_ask_50 rfl (lv_at hl 0 rfl) ?_
          refine lv_iconst (v := 0) hx hb dX9_ask_51 (by decide) ?_
          refine lv_iload_n hx hb dX9_ask_52 rfl (lv_at hl 1 rfl) ?_
          refine lv_aload_n hx hb dX9_ask_53 rfl (lv_at hl 0 rfl) ?_
          obtain ⟨hb1132, e1132, hat1132, hk1132⟩ := hT.o10 hw.1
          obtain ⟨f1132_0, f1132_1, f1132_3, f1132_4, f1132_5, f1132_6, f1132_7, f1132_9, f1132_10, f1132_11, f1132_12, f1132_13, f1132_14, f1132_15, f1132_16, f1132_17, rfl, c1132_2, c1132_3, c1132_4, c1132_12, t1132_1, t1132_8, t1132_9, c1132_sd, t1132_10, t1132_11, t1132_17⟩ := hk1132
          have hP : va_P D vwCl [(w, .inr (9, [.int f1132_0, .ref f1132_1, .int (nI ((κ w).2.2.1)), .int (nI f1132_3), .int (nI f1132_4), .int f1132_5, .int f1132_6, .int f1132_7, .ref (κ w).2.2.2, .ref f1132_9, .ref f1132_10, .ref f1132_11, .int (nI f1132_12), .int f1132_13, .int f1132_14, .int f1132_15, .int f1132_16, .ref f1132_17]))] _ := va_P.cons hat1132 va_P.nil
          refine va_get (D := D) (ci := 9) (v := .ref (κ w).2.2.2) (C := RX9) (T := TX9) (N := 18) hx hb hts iX9_ask_9 hown hN.1 hP 0 rfl rfl 8 (by decide) (hts _ mX9_ask_2) (fun _ h9 => h9) rfl dX9_ask_54 ?_
          refine lv_iconst (v := 2) hx hb dX9_ask_57 (by decide) ?_
          obtain ⟨hb1133, e1133, hat1133, hk1133⟩ := hT.o24 t1132_8.1
          obtain ⟨g1133, rfl, q1133⟩ := hk1133
          have hP : va_P D vwCl [((κ w).2.2.2, .inl (cs 0, 45783, .inl g1133)), (w, .inr (9, [.int f1132_0, .ref f1132_1, .int (nI ((κ w).2.2.1)), .int (nI f1132_3), .int (nI f1132_4), .int f1132_5, .int f1132_6, .int f1132_7, .ref (κ w).2.2.2, .ref f1132_9, .ref f1132_10, .ref f1132_11, .int (nI f1132_12), .int f1132_13, .int f1132_14, .int f1132_15, .int f1132_16, .ref f1132_17]))] _ := va_P.cons hat1133 hP
          refine ld_i (v := (g1133 2)) hx hb hN hP 0 rfl (vp_in_nI (n := 2) (N := 45783) (by omega) (by omega)) (by rw [(show (2 : Int32).toNatClampNeg = 2 from nI_clamp (n := 2) (by omega))]) dX9_ask_58 ?_
          obtain ⟨n1134, hn1134, en1134⟩ := q1133.2.2.1
          refine tp_i (nI n1134) en1134 ?_
          refine lv_iconst (v := (-1)) hx hb dX9_ask_59 (by decide) ?_
          refine lv_aload_n hx hb dX9_ask_60 rfl (lv_at hl 0 rfl) ?_
          refine lv_iload_n hx hb dX9_ask_61 rfl (lv_at hl 1 rfl) ?_
          refine cv_i (As := [.int (nI n1120)]) (rest := [.int (-1), .int (nI n1134), .int (nI n1120), .int 0, .ref w]) (b := w) ⟨hx, hb, hml, hown, hts⟩ (c_X9_clock hT (w := w) hw (n := n1120) (by first | omega | decide | assumption)) (cwV 1 hts gX9_ask_X9_clock rfl rfl rfl hdX9_clock_v ⟨Nat.le_of_ble_eq_true rfl, Nat.le_of_ble_eq_true rfl⟩) hN hE hL (rcv10 hN hT hw.1) rfl rfl hl.1 (Nat.le_of_ble_eq_true rfl) dX9_ask_62 (Nat.zero_le _) (Nat.zero_le _) (fun r1135 H1 locs hL hqr1135 => ?_)
          obtain rfl := hqr1135.symm
          refine lv_iconst (v := 0) hx hb dX9_ask_65 (by decide) ?_
          refine cv_i (As := [.int 0, .int (nI n1120), .int (nI n1134), .int (-1), .int r1135, .int 0]) (rest := []) (b := w) ⟨hx, hb, hml, hown, hts⟩ (c_X9_send hT (w := w) hw (x := 0) (n := n1120) (k := n1134) (y := (-1)) (z := r1135) (u := 0) (by first | omega | decide | assumption) (by first | omega | decide | assumption) (by first | omega | decide | assumption)) (cwV 6 hts gX9_ask_X9_send rfl rfl rfl hdX9_send_v ⟨Nat.le_of_ble_eq_true rfl, Nat.le_of_ble_eq_true rfl⟩) hN hE hL (rcv10 hN hT hw.1) rfl rfl hl.1 (Nat.le_of_ble_eq_true rfl) dX9_ask_66 (Nat.zero_le _) (Nat.zero_le _) (fun r1136 H1 locs hL hqr1136 => ?_)
          obtain ⟨hT1, hF1, hqr1136⟩ := hqr1136
          have hP : va_P D vwCl [(w, .inr (9, [.int f1132_0, .ref f1132_1, .int (nI ((κ w).2.2.1)), .int (nI f1132_3), .int (nI f1132_4), .int f1132_5, .int f1132_6, .int f1132_7, .ref (κ w).2.2.2, .ref f1132_9, .ref f1132_10, .ref f1132_11, .int (nI f1132_12), .int f1132_13, .int f1132_14, .int f1132_15, .int f1132_16, .ref f1132_17]))] _ := hF1.hP (hP.sub [1] rfl) (fa_c ⟨by rw [hw.1]; decide, by rw [hw.2]; first | decide | (simp; done) | (simp; omega)⟩ fa_n)
          have hF := hF.tr (hF1.mono (by simp))
          have hT := hT1
          rcases hqr1136 with rfl | rfl
          · exact en_i hx hb hr hlocks hL rfl (Nat.zero_le _) (Nat.zero_le _) dX9_ask_69 (⟨hT, hF, Or.inl rfl⟩)
          · exact en_i hx hb hr hlocks hL rfl (Nat.zero_le _) (Nat.zero_le _) dX9_ask_69 (⟨hT, hF, Or.inr rfl⟩)
      · have c1128 : n1120 = n1127 := (nI_eq (a := n1120) (b := n1127) (by omega) (by omega)).mp c1128
        refine lv_iconst (v := 1) hx hb dX9_ask_32 (by decide) ?_
        refine lv_goto (tgt := 37) hx hb dX9_ask_33 (by decide) ?_
        refine lv_iconst (v := 2) hx hb dX9_ask_37 (by decide) ?_
        refine cv_i (As := [.int 1, .int 2]) (rest := []) (b := w) ⟨hx, hb, hml, hown, hts⟩ (c_X9_fails hT (w := w) hw (x := 1) (z := 2) ((by decide))) (cwV 2 hts gX9_ask_X9_fails rfl rfl rfl hdX9_fails_v ⟨Nat.le_of_ble_eq_true rfl, Nat.le_of_ble_eq_true rfl⟩) hN hE hL (rcv10 hN hT hw.1) rfl rfl hl.1 (Nat.le_of_ble_eq_true rfl) dX9_ask_38 (Nat.zero_le _) (Nat.zero_le _) (fun r1137 H1 locs hL hqr1137 => ?_)
        obtain ⟨hT1, hF1, hqr1137⟩ := hqr1137
        have hP : va_P D vwCl [((κ w).2.2.2, .inl (cs 0, 45783, .inl g1126))] _ := hF1.hP (hP.sub [0] rfl) (fa_c ⟨by rw [t1125_8.1]; decide, by rw [t1125_8.2]; first | decide | (simp; done) | (simp; omega)⟩ fa_n)
        have hF := hF.tr (hF1.mono (by simp))
        have hT := hT1
        rcases hqr1137 with rfl | ⟨rfl, e1138⟩
        · refine lv_if_eq (tgt := 46) hx hb dX9_ask_41 (by decide) (fun c9 => absurd c9 (by decide)) (fun _ => ?_)
          refine lv_iconst (v := 0) hx hb dX9_ask_44 (by decide) ?_
          exact en_i hx hb hr hlocks hL rfl (Nat.zero_le _) (Nat.zero_le _) dX9_ask_45 (⟨hT, hF, Or.inl rfl⟩)
        · exact absurd e1138 (by decide)
theorem mX9_pass_1 : (.fieldLink RX9 40 "OneBeatModel" "thrown" "I" : Cond) ∈ wsX9_pass := List.mem_of_getElem? (i := 1) (by decide +kernel)
theorem iX9_pass_9 : ∀ w ∈ wsX90, w ∈ wsX9_pass := fun w h => List.mem_of_mem_drop (List.mem_of_mem_take ((show wsX90 = (wsX9_pass.drop 90).take 18 by decide +kernel) ▸ h))
theorem mX9_pass_2 : (.fieldLink RX9 18 "OneBeatModel" "data" "[I" : Cond) ∈ wsX9_pass := List.mem_of_getElem? (i := 2) (by decide +kernel)
set_option maxHeartbeats 4000000 in
set_option maxRecDepth 100000 in
theorem c_X9_pass {l : Launch} {D : va_G} {cs : Nat → ClassId} {B0 T : Nat} {κ : KM} {H0 : Heap} (hT : WT B0 D cs T κ H0) {w : Nat} (hw : T2 κ w 10 12) {x : Int32} : KC l yX9_pass wsX9_pass 7 167 0 0 D cs B0 H0 [.ref w, .int x] (Qi (fun _ H => WT B0 D cs (T + 50) κ H ∧ Fr B0 [12, 18] κ H0 H)) := by
  refine KC.of cX9_pass 4 (some .int) (by decide) rfl (Nat.le_of_ble_eq_true rfl) ?_
  intro p e s m below meth c ls hx hb hr hml hown hts hlocks hin hN hE hH0 hl
  have hown : s.vm.findClass RX9 = some m.cls := hown
  have hl : lv_has ls 4 [(0, .ref w), (1, .int x)] := hl
  have hL : OkL B0 [] := OkL.nil
  have hF : Fr B0 [12, 18] κ H0 H0 := Fr.rf
  refine lv_aload_n hx hb dX9_pass_0 rfl (lv_at hl 0 rfl) ?_
  refine lv_iconst (v := 0) hx hb dX9_pass_1 (by decide) ?_
  obtain ⟨hb1139, e1139, hat1139, hk1139⟩ := hT.o10 hw.1
  obtain ⟨f1139_0, f1139_1, f1139_3, f1139_4, f1139_5, f1139_6, f1139_7, f1139_9, f1139_10, f1139_11, f1139_12, f1139_13, f1139_14, f1139_15, f1139_16, f1139_17, rfl, c1139_2, c1139_3, c1139_4, c1139_12, t1139_1, t1139_8, t1139_9, c1139_sd, t1139_10, t1139_11, t1139_17⟩ := hk1139
  have hP : va_P D vwCl [(w, .inr (9, [.int f1139_0, .ref f1139_1, .int (nI ((κ w).2.2.1)), .int (nI f1139_3), .int (nI f1139_4), .int f1139_5, .int f1139_6, .int f1139_7, .ref (κ w).2.2.2, .ref f1139_9, .ref f1139_10, .ref f1139_11, .int (nI f1139_12), .int f1139_13, .int f1139_14, .int f1139_15, .int f1139_16, .ref f1139_17]))] _ := va_P.cons hat1139 va_P.nil
  have hB : Bx B0 D _ [(w, .inr (9, [.int f1139_0, .ref f1139_1, .int (nI ((κ w).2.2.1)), .int (nI f1139_3), .int (nI f1139_4), .int f1139_5, .int f1139_6, .int f1139_7, .ref (κ w).2.2.2, .ref f1139_9, .ref f1139_10, .ref f1139_11, .int (nI f1139_12), .int f1139_13, .int f1139_14, .int f1139_15, .int f1139_16, .ref f1139_17]))] [] _ _ := Bx.of (fun a => (κ a).1) hL hP (fa_c hb1139 fa_n) (by simp only [List.map_cons, List.map_nil, hw.1]; decide)
  refine b_put (D := D) (ci := 9) (v := .int 0) (ty := .int) (C := RX9) (T := TX9) (N := 18) hx hb hts iX9_pass_9 tyX9 tyX9_ok nmX9 hown hN hB 0 rfl rfl 0 (by decide) (hts _ mX9_pass_1) (fun _ h9 => h9) rfl (by decide +kernel) rfl rfl (Nat.le_of_ble_eq_true rfl) (.inl rfl) dX9_pass_2 (fun H locs hB => ?_)
  have hB : Bx B0 D _ [(w, .inr (9, [.int 0, .ref f1139_1, .int (nI ((κ w).2.2.1)), .int (nI f1139_3), .int (nI f1139_4), .int f1139_5, .int f1139_6, .int f1139_7, .ref (κ w).2.2.2, .ref f1139_9, .ref f1139_10, .ref f1139_11, .int (nI f1139_12), .int f1139_13, .int f1139_14, .int f1139_15, .int f1139_16, .ref f1139_17]))] [w] _ _ := hB
  refine lv_aload_n hx hb dX9_pass_5 rfl (lv_at hl 0 rfl) ?_
  refine lv_iload_n hx hb dX9_pass_6 rfl (lv_at hl 1 rfl) ?_
  refine lv_iconst (v := 1) hx hb dX9_pass_7 (by decide) ?_
  refine lv_bipush (v := 50) hx hb dX9_pass_8 (by decide) ?_
  have hT : WT B0 D cs T κ _ := hT.close hB ⟨⟨0, _, rfl, ok_10 hw.1 ⟨_, _, _, _, _, _, _, _, _, _, _, _, _, _, _, _, rfl, (by omega), (by omega), (by omega), (by omega), t1139_1, t1139_8, t1139_9, c1139_sd, t1139_10, t1139_11, t1139_17⟩⟩, trivial⟩
  have hF : Fr B0 [12, 18] κ H0 _ := hF.close hB (fa_c (by simp [hw.2]) fa_n)
  have hL : OkL B0 _ := hB.2.2.2.2.2
  have hP : va_P D vwCl [(w, .inr (9, [.int 0, .ref f1139_1, .int (nI ((κ w).2.2.1)), .int (nI f1139_3), .int (nI f1139_4), .int f1139_5, .int f1139_6, .int f1139_7, .ref (κ w).2.2.2, .ref f1139_9, .ref f1139_10, .ref f1139_11, .int (nI f1139_12), .int f1139_13, .int f1139_14, .int f1139_15, .int f1139_16, .ref f1139_17]))] _ := hB.1
  refine cs_i (As := [.int x, .int 1, .int 50]) (rest := [.ref w]) ⟨hx, hb, hml, hown, hts⟩ (c_X9_in hT (x := x) (y := 1) (z := 50)) (va_cwS 3 hts gX9_pass_X9_in rfl rfl rfl hdX9_in_o ⟨Nat.le_of_ble_eq_true rfl, Nat.le_of_ble_eq_true rfl⟩) hN hE hL rfl rfl hl.1 (Nat.le_of_ble_eq_true rfl) dX9_pass_10 (Nat.zero_le _) (Nat.zero_le _) (fun r1140 H1 locs hL hqr1140 => ?_)
  obtain ⟨h9, hqr1140⟩ := hqr1140; replace h9 := h9.symm; subst h9
  rcases hqr1140 with ⟨rfl, o1141⟩ | ⟨rfl, l1142, g1143⟩
  · refine lv_if_ne (tgt := 20) hx hb dX9_pass_13 (by decide) (fun c9 => absurd (by decide) c9) (fun _ => ?_)
    refine lv_iconst (v := 1) hx hb dX9_pass_16 (by decide) ?_
    refine lv_goto (tgt := 21) hx hb dX9_pass_17 (by decide) ?_
    refine lv_iconst (v := 1) hx hb dX9_pass_21 (by decide) ?_
    refine cv_i (As := [.int 1, .int 1]) (rest := []) (b := w) ⟨hx, hb, hml, hown, hts⟩ (c_X9_fails hT (w := w) hw (x := 1) (z := 1) (by first | omega | decide | assumption)) (cwV 2 hts gX9_pass_X9_fails rfl rfl rfl hdX9_fails_v ⟨Nat.le_of_ble_eq_true rfl, Nat.le_of_ble_eq_true rfl⟩) hN hE hL (rcv10 hN hT hw.1) rfl rfl hl.1 (Nat.le_of_ble_eq_true rfl) dX9_pass_22 (Nat.zero_le _) (Nat.zero_le _) (fun r1144 H1 locs hL hqr1144 => ?_)
    obtain ⟨hT1, hF1, hqr1144⟩ := hqr1144
    have hF := hF.tr (hF1.mono (by simp))
    have hT := hT1
    rcases hqr1144 with rfl | ⟨rfl, e1145⟩
    · refine lv_if_eq (tgt := 30) hx hb dX9_pass_25 (by decide) (fun c9 => absurd c9 (by decide)) (fun _ => ?_)
      refine lv_iconst (v := 0) hx hb dX9_pass_28 (by decide) ?_
      exact en_i hx hb hr hlocks hL rfl (Nat.zero_le _) (Nat.zero_le _) dX9_pass_29 (⟨hT.up (by omega), hF⟩)
    · exact absurd e1145 (by decide)
  · refine lv_if_ne (tgt := 20) hx hb dX9_pass_13 (by decide) (fun _ => ?_) (fun c9 => absurd c9 (by decide))
    refine lv_iconst (v := 0) hx hb dX9_pass_20 (by decide) ?_
    refine lv_iconst (v := 1) hx hb dX9_pass_21 (by decide) ?_
    refine cv_i (As := [.int 0, .int 1]) (rest := []) (b := w) ⟨hx, hb, hml, hown, hts⟩ (c_X9_fails hT (w := w) hw (x := 0) (z := 1) (by first | omega | decide | assumption)) (cwV 2 hts gX9_pass_X9_fails rfl rfl rfl hdX9_fails_v ⟨Nat.le_of_ble_eq_true rfl, Nat.le_of_ble_eq_true rfl⟩) hN hE hL (rcv10 hN hT hw.1) rfl rfl hl.1 (Nat.le_of_ble_eq_true rfl) dX9_pass_22 (Nat.zero_le _) (Nat.zero_le _) (fun r1146 H1 locs hL hqr1146 => ?_)
    obtain ⟨hT1, hF1, hqr1146⟩ := hqr1146
    have hF := hF.tr (hF1.mono (by simp))
    have hT := hT1
    rcases hqr1146 with rfl | ⟨rfl, e1147⟩
    · refine lv_if_eq (tgt := 30) hx hb dX9_pass_25 (by decide) (fun c9 => absurd c9 (by decide)) (fun _ => ?_)
      refine lv_iconst (v := 0) hx hb dX9_pass_28 (by decide) ?_
      exact en_i hx hb hr hlocks hL rfl (Nat.zero_le _) (Nat.zero_le _) dX9_pass_29 (⟨hT.up (by omega), hF⟩)
    · refine lv_if_eq (tgt := 30) hx hb dX9_pass_25 (by decide) (fun _ => ?_) (fun c9 => absurd (by decide) c9)
      obtain ⟨tk, ltk, htk, rfl⟩ := rng (lo := 1) (hi := 50) (by decide) (by decide) l1142 g1143
      refine lv_aload_n hx hb dX9_pass_30 rfl (lv_at hl 0 rfl) ?_
      refine cv_v (As := []) (rest := []) (b := w) ⟨hx, hb, hml, hown, hts⟩ (c_X9_remember hT (w := w) hw) (cwV 0 hts gX9_pass_X9_remember rfl rfl rfl hdX9_remember_v ⟨Nat.le_of_ble_eq_true rfl, Nat.le_of_ble_eq_true rfl⟩) hN hE hL (rcv10 hN hT hw.1) rfl rfl hl.1 (Nat.le_of_ble_eq_true rfl) dX9_pass_31 (Nat.zero_le _) (Nat.zero_le _) (fun H1 locs hL hqr1148 => ?_)
      obtain ⟨hT1, hF1⟩ := hqr1148
      have hF := hF.tr (hF1.mono (by simp))
      have hT := hT1
      refine lv_aload_n hx hb dX9_pass_34 rfl (lv_at hl 0 rfl) ?_
      obtain ⟨hb1149, e1149, hat1149, hk1149⟩ := hT.o10 hw.1
      obtain ⟨f1149_0, f1149_1, f1149_3, f1149_4, f1149_5, f1149_6, f1149_7, f1149_9, f1149_10, f1149_11, f1149_12, f1149_13, f1149_14, f1149_15, f1149_16, f1149_17, rfl, c1149_2, c1149_3, c1149_4, c1149_12, t1149_1, t1149_8, t1149_9, c1149_sd, t1149_10, t1149_11, t1149_17⟩ := hk1149
      have hP : va_P D vwCl [(w, .inr (9, [.int f1149_0, .ref f1149_1, .int (nI ((κ w).2.2.1)), .int (nI f1149_3), .int (nI f1149_4), .int f1149_5, .int f1149_6, .int f1149_7, .ref (κ w).2.2.2, .ref f1149_9, .ref f1149_10, .ref f1149_11, .int (nI f1149_12), .int f1149_13, .int f1149_14, .int f1149_15, .int f1149_16, .ref f1149_17]))] _ := va_P.cons hat1149 va_P.nil
      refine va_get (D := D) (ci := 9) (v := .ref (κ w).2.2.2) (C := RX9) (T := TX9) (N := 18) hx hb hts iX9_pass_9 hown hN.1 hP 0 rfl rfl 8 (by decide) (hts _ mX9_pass_2) (fun _ h9 => h9) rfl dX9_pass_35 ?_
      refine lv_bipush (v := 9) hx hb dX9_pass_38 (by decide) ?_
      obtain ⟨hb1150, e1150, hat1150, hk1150⟩ := hT.o24 t1149_8.1
      obtain ⟨g1150, rfl, q1150⟩ := hk1150
      have hP : va_P D vwCl [((κ w).2.2.2, .inl (cs 0, 45783, .inl g1150)), (w, .inr (9, [.int f1149_0, .ref f1149_1, .int (nI ((κ w).2.2.1)), .int (nI f1149_3), .int (nI f1149_4), .int f1149_5, .int f1149_6, .int f1149_7, .ref (κ w).2.2.2, .ref f1149_9, .ref f1149_10, .ref f1149_11, .int (nI f1149_12), .int f1149_13, .int f1149_14, .int f1149_15, .int f1149_16, .ref f1149_17]))] _ := va_P.cons hat1150 hP
      refine ld_i (v := (g1150 9)) hx hb hN hP 0 rfl (vp_in_nI (n := 9) (N := 45783) (by omega) (by omega)) (by rw [(show (9 : Int32).toNatClampNeg = 9 from nI_clamp (n := 9) (by omega))]) dX9_pass_40 ?_
      refine gn_i (fun x1151 => ?_)
      refine lv_istore_n (lv' := [(2, .int x1151), (0, .ref w), (1, .int (nI tk))]) hx hb dX9_pass_41 rfl hl (by decide) rfl (fun ls hl => ?_)
      refine lv_iconst (v := 0) hx hb dX9_pass_42 (by decide) ?_
      refine lv_istore_n (lv' := [(3, .int 0), (2, .int x1151), (0, .ref w), (1, .int (nI tk))]) hx hb dX9_pass_43 rfl hl (by decide) rfl (fun ls hl => ?_)
      refine lp_m (α := Nat × Int32) (nL := 4) (fun a9 => 50 - a9.1) (fun a9 H9 l9 => (a9.1 ≤ 50) ∧ (WT B0 D cs (T + a9.1) κ H9) ∧ (Fr B0 [12, 18] κ H0 H9) ∧ (OkL B0 l9)) (fun a9 => [(3, .int (nI a9.1)), (2, .int a9.2), (0, .ref w), (1, .int (nI tk))]) ?_ (0, x1151) _ _ _ ⟨(by show (0) ≤ 50; omega), hT.up (by omega), hF, hL⟩ (lv_sub hl [0, 1, 2, 3] rfl)
      rintro ⟨t, z⟩ H locs ls ih1152 ⟨ht, hT, hF, hL⟩ hl
      have hl : lv_has ls 4 [(3, .int (nI t)), (2, .int z), (0, .ref w), (1, .int (nI tk))] := hl
      have ht : t ≤ 50 := ht
      refine lv_iload_n hx hb dX9_pass_44 rfl (lv_at hl 0 rfl) ?_
      refine lv_iload_n hx hb dX9_pass_45 rfl (lv_at hl 3 rfl) ?_
      refine lv_icmp_ge (tgt := 59) hx hb dX9_pass_46 (by decide) (fun c1153 => ?_) (fun c1153 => ?_)
      · have c1153 : tk ≤ t := (nI_leI (a := tk) (b := t) (by omega) (by omega)).mp c1153
        refine lv_aload_n hx hb dX9_pass_59 rfl (lv_at hl 2 rfl) ?_
        obtain ⟨hb1154, e1154, hat1154, hk1154⟩ := hT.o10 hw.1
        obtain ⟨f1154_0, f1154_1, f1154_3, f1154_4, f1154_5, f1154_6, f1154_7, f1154_9, f1154_10, f1154_11, f1154_12, f1154_13, f1154_14, f1154_15, f1154_16, f1154_17, rfl, c1154_2, c1154_3, c1154_4, c1154_12, t1154_1, t1154_8, t1154_9, c1154_sd, t1154_10, t1154_11, t1154_17⟩ := hk1154
        have hP : va_P D vwCl [(w, .inr (9, [.int f1154_0, .ref f1154_1, .int (nI ((κ w).2.2.1)), .int (nI f1154_3), .int (nI f1154_4), .int f1154_5, .int f1154_6, .int f1154_7, .ref (κ w).2.2.2, .ref f1154_9, .ref f1154_10, .ref f1154_11, .int (nI f1154_12), .int f1154_13, .int f1154_14, .int f1154_15, .int f1154_16, .ref f1154_17]))] _ := va_P.cons hat1154 va_P.nil
        refine va_get (D := D) (ci := 9) (v := .ref (κ w).2.2.2) (C := RX9) (T := TX9) (N := 18) hx hb hts iX9_pass_9 hown hN.1 hP 0 rfl rfl 8 (by decide) (hts _ mX9_pass_2) (fun _ h9 => h9) rfl dX9_pass_60 ?_
        refine lv_bipush (v := 9) hx hb dX9_pass_63 (by decide) ?_
        obtain ⟨hb1155, e1155, hat1155, hk1155⟩ := hT.o24 t1154_8.1
        obtain ⟨g1155, rfl, q1155⟩ := hk1155
        have hP : va_P D vwCl [((κ w).2.2.2, .inl (cs 0, 45783, .inl g1155)), (w, .inr (9, [.int f1154_0, .ref f1154_1, .int (nI ((κ w).2.2.1)), .int (nI f1154_3), .int (nI f1154_4), .int f1154_5, .int f1154_6, .int f1154_7, .ref (κ w).2.2.2, .ref f1154_9, .ref f1154_10, .ref f1154_11, .int (nI f1154_12), .int f1154_13, .int f1154_14, .int f1154_15, .int f1154_16, .ref f1154_17]))] _ := va_P.cons hat1155 hP
        refine ld_i (v := (g1155 9)) hx hb hN hP 0 rfl (vp_in_nI (n := 9) (N := 45783) (by omega) (by omega)) (by rw [(show (9 : Int32).toNatClampNeg = 9 from nI_clamp (n := 9) (by omega))]) dX9_pass_65 ?_
        refine gn_i (fun x1156 => ?_)
        refine lv_iload_n hx hb dX9_pass_66 rfl (lv_at hl 1 rfl) ?_
        refine lv_isub hx hb dX9_pass_67 ?_
        refine gn_i (fun x1157 => ?_)
        exact en_i hx hb hr hlocks hL rfl (Nat.zero_le _) (Nat.zero_le _) dX9_pass_68 (⟨hT.up (by omega), hF⟩)
      · have c1153 : ¬ tk ≤ t := fun h9 => c1153 ((nI_leI (a := tk) (b := t) (by omega) (by omega)).mpr h9)
        refine lv_aload_n hx hb dX9_pass_49 rfl (lv_at hl 2 rfl) ?_
        refine cv_v (As := []) (rest := []) (b := w) ⟨hx, hb, hml, hown, hts⟩ (c_X9_tick hT (w := w) hw) (cwV 0 hts gX9_pass_X9_tick rfl rfl rfl hdX9_tick_v ⟨Nat.le_of_ble_eq_true rfl, Nat.le_of_ble_eq_true rfl⟩) hN hE hL (rcv10 hN hT hw.1) rfl rfl hl.1 (Nat.le_of_ble_eq_true rfl) dX9_pass_50 (Nat.zero_le _) (Nat.zero_le _) (fun H1 locs hL hqr1158 => ?_)
        obtain ⟨hT1, hF1⟩ := hqr1158
        have hF := hF.tr (hF1.mono (by simp))
        have hT := hT1
        refine lv_iinc (v := (nI (t + 1))) (lv' := [(3, .int (nI (t + 1))), (2, .int z), (0, .ref w), (1, .int (nI tk))]) hx hb dX9_pass_53 hl (k := 0) rfl (nI_add _ 1) (by decide) rfl (fun ls hl => ?_)
        refine lv_goto (tgt := 44) hx hb dX9_pass_56 (by decide) ?_
        exact ih1152 ((t + 1), z) _ _ _ (by show 50 - ((t + 1)) < 50 - t; omega) ⟨(by show ((t + 1)) ≤ 50; omega), hT.up (by omega), hF, hL⟩ (lv_sub hl [0, 1, 2, 3] rfl)
theorem mX9_power_1 : (.fieldLink RX9 40 "OneBeatModel" "thrown" "I" : Cond) ∈ wsX9_power := List.mem_of_getElem? (i := 1) (by decide +kernel)
theorem iX9_power_9 : ∀ w ∈ wsX90, w ∈ wsX9_power := fun w h => List.mem_of_mem_drop (List.mem_of_mem_take ((show wsX90 = (wsX9_power.drop 43).take 18 by decide +kernel) ▸ h))
set_option maxHeartbeats 4000000 in
set_option maxRecDepth 100000 in
theorem c_X9_power {l : Launch} {D : va_G} {cs : Nat → ClassId} {B0 T : Nat} {κ : KM} {H0 : Heap} (hT : WT B0 D cs T κ H0) {w : Nat} (hw : T2 κ w 10 12) {x : Int32} {y : Int32} : KC l yX9_power wsX9_power 3 64 0 0 D cs B0 H0 [.ref w, .int x, .int y] (Qi (fun r H => WT B0 D cs T κ H ∧ Fr B0 [12, 18] κ H0 H ∧ (r = 0 ∨ r = 1))) := by
  refine KC.of cX9_power 4 (some .boolean) (by decide) rfl (Nat.le_of_ble_eq_true rfl) ?_
  intro p e s m below meth c ls hx hb hr hml hown hts hlocks hin hN hE hH0 hl
  have hown : s.vm.findClass RX9 = some m.cls := hown
  have hl : lv_has ls 4 [(0, .ref w), (1, .int x), (2, .int y)] := hl
  have hL : OkL B0 [] := OkL.nil
  have hF : Fr B0 [12, 18] κ H0 H0 := Fr.rf
  refine lv_aload_n hx hb dX9_power_0 rfl (lv_at hl 0 rfl) ?_
  refine lv_iconst (v := 0) hx hb dX9_power_1 (by decide) ?_
  obtain ⟨hb1159, e1159, hat1159, hk1159⟩ := hT.o10 hw.1
  obtain ⟨f1159_0, f1159_1, f1159_3, f1159_4, f1159_5, f1159_6, f1159_7, f1159_9, f1159_10, f1159_11, f1159_12, f1159_13, f1159_14, f1159_15, f1159_16, f1159_17, rfl, c1159_2, c1159_3, c1159_4, c1159_12, t1159_1, t1159_8, t1159_9, c1159_sd, t1159_10, t1159_11, t1159_17⟩ := hk1159
  have hP : va_P D vwCl [(w, .inr (9, [.int f1159_0, .ref f1159_1, .int (nI ((κ w).2.2.1)), .int (nI f1159_3), .int (nI f1159_4), .int f1159_5, .int f1159_6, .int f1159_7, .ref (κ w).2.2.2, .ref f1159_9, .ref f1159_10, .ref f1159_11, .int (nI f1159_12), .int f1159_13, .int f1159_14, .int f1159_15, .int f1159_16, .ref f1159_17]))] _ := va_P.cons hat1159 va_P.nil
  have hB : Bx B0 D _ [(w, .inr (9, [.int f1159_0, .ref f1159_1, .int (nI ((κ w).2.2.1)), .int (nI f1159_3), .int (nI f1159_4), .int f1159_5, .int f1159_6, .int f1159_7, .ref (κ w).2.2.2, .ref f1159_9, .ref f1159_10, .ref f1159_11, .int (nI f1159_12), .int f1159_13, .int f1159_14, .int f1159_15, .int f1159_16, .ref f1159_17]))] [] _ _ := Bx.of (fun a => (κ a).1) hL hP (fa_c hb1159 fa_n) (by simp only [List.map_cons, List.map_nil, hw.1]; decide)
  refine b_put (D := D) (ci := 9) (v := .int 0) (ty := .int) (C := RX9) (T := TX9) (N := 18) hx hb hts iX9_power_9 tyX9 tyX9_ok nmX9 hown hN hB 0 rfl rfl 0 (by decide) (hts _ mX9_power_1) (fun _ h9 => h9) rfl (by decide +kernel) rfl rfl (Nat.le_of_ble_eq_true rfl) (.inl rfl) dX9_power_2 (fun H locs hB => ?_)
  have hB : Bx B0 D _ [(w, .inr (9, [.int 0, .ref f1159_1, .int (nI ((κ w).2.2.1)), .int (nI f1159_3), .int (nI f1159_4), .int f1159_5, .int f1159_6, .int f1159_7, .ref (κ w).2.2.2, .ref f1159_9, .ref f1159_10, .ref f1159_11, .int (nI f1159_12), .int f1159_13, .int f1159_14, .int f1159_15, .int f1159_16, .ref f1159_17]))] [w] _ _ := hB
  refine lv_aload_n hx hb dX9_power_5 rfl (lv_at hl 0 rfl) ?_
  refine lv_iload_n hx hb dX9_power_6 rfl (lv_at hl 1 rfl) ?_
  have hT : WT B0 D cs T κ _ := hT.close hB ⟨⟨0, _, rfl, ok_10 hw.1 ⟨_, _, _, _, _, _, _, _, _, _, _, _, _, _, _, _, rfl, (by omega), (by omega), (by omega), (by omega), t1159_1, t1159_8, t1159_9, c1159_sd, t1159_10, t1159_11, t1159_17⟩⟩, trivial⟩
  have hF : Fr B0 [12, 18] κ H0 _ := hF.close hB (fa_c (by simp [hw.2]) fa_n)
  have hL : OkL B0 _ := hB.2.2.2.2.2
  have hP : va_P D vwCl [(w, .inr (9, [.int 0, .ref f1159_1, .int (nI ((κ w).2.2.1)), .int (nI f1159_3), .int (nI f1159_4), .int f1159_5, .int f1159_6, .int f1159_7, .ref (κ w).2.2.2, .ref f1159_9, .ref f1159_10, .ref f1159_11, .int (nI f1159_12), .int f1159_13, .int f1159_14, .int f1159_15, .int f1159_16, .ref f1159_17]))] _ := hB.1
  refine cv_i (As := [.int x]) (rest := []) (b := w) ⟨hx, hb, hml, hown, hts⟩ (c_X9_noPlayer hT (w := w) hw (x := x)) (cwV 1 hts gX9_power_X9_noPlayer rfl rfl rfl hdX9_noPlayer_v ⟨Nat.le_of_ble_eq_true rfl, Nat.le_of_ble_eq_true rfl⟩) hN hE hL (rcv10 hN hT hw.1) rfl rfl hl.1 (Nat.le_of_ble_eq_true rfl) dX9_power_7 (Nat.zero_le _) (Nat.zero_le _) (fun r1160 H1 locs hL hqr1160 => ?_)
  obtain ⟨hT1, hF1, hqr1160⟩ := hqr1160
  have hF := hF.tr (hF1.mono (by simp))
  have hT := hT1
  rcases hqr1160 with rfl | ⟨rfl, n1161, h1162, rfl⟩
  · refine lv_if_eq (tgt := 15) hx hb dX9_power_10 (by decide) (fun c9 => absurd c9 (by decide)) (fun _ => ?_)
    refine lv_iconst (v := 0) hx hb dX9_power_13 (by decide) ?_
    exact en_i hx hb hr hlocks hL rfl (Nat.zero_le _) (Nat.zero_le _) dX9_power_14 (⟨hT, hF, Or.inl rfl⟩)
  · refine lv_if_eq (tgt := 15) hx hb dX9_power_10 (by decide) (fun _ => ?_) (fun c9 => absurd (by decide) c9)
    refine lv_aload_n hx hb dX9_power_15 rfl (lv_at hl 0 rfl) ?_
    refine cv_v (As := []) (rest := []) (b := w) ⟨hx, hb, hml, hown, hts⟩ (c_X9_remember hT (w := w) hw) (cwV 0 hts gX9_power_X9_remember rfl rfl rfl hdX9_remember_v ⟨Nat.le_of_ble_eq_true rfl, Nat.le_of_ble_eq_true rfl⟩) hN hE hL (rcv10 hN hT hw.1) rfl rfl hl.1 (Nat.le_of_ble_eq_true rfl) dX9_power_16 (Nat.zero_le _) (Nat.zero_le _) (fun H1 locs hL hqr1163 => ?_)
    obtain ⟨hT1, hF1⟩ := hqr1163
    have hF := hF.tr (hF1.mono (by simp))
    have hT := hT1
    refine lv_aload_n hx hb dX9_power_19 rfl (lv_at hl 0 rfl) ?_
    refine lv_iload_n hx hb dX9_power_20 rfl (lv_at hl 1 rfl) ?_
    refine cv_i (As := [.int (nI n1161)]) (rest := []) (b := w) ⟨hx, hb, hml, hown, hts⟩ (c_X9_isUp hT (w := w) hw (n := n1161) (by first | omega | decide | assumption)) (cwV 1 hts gX9_power_X9_isUp rfl rfl rfl hdX9_isUp_v ⟨Nat.le_of_ble_eq_true rfl, Nat.le_of_ble_eq_true rfl⟩) hN hE hL (rcv10 hN hT hw.1) rfl rfl hl.1 (Nat.le_of_ble_eq_true rfl) dX9_power_21 (Nat.zero_le _) (Nat.zero_le _) (fun r1164 H1 locs hL hqr1164 => ?_)
    obtain ⟨h9, hqr1164⟩ := hqr1164; replace h9 := h9.symm; subst h9
    rcases hqr1164 with rfl | rfl
    · refine lv_istore_n (lv' := [(3, .int 0), (0, .ref w), (1, .int (nI n1161)), (2, .int y)]) hx hb dX9_power_24 rfl hl (by decide) rfl (fun ls hl => ?_)
      refine lv_aload_n hx hb dX9_power_25 rfl (lv_at hl 1 rfl) ?_
      refine lv_iload_n hx hb dX9_power_26 rfl (lv_at hl 2 rfl) ?_
      refine lv_iconst (v := 0) hx hb dX9_power_27 (by decide) ?_
      refine lv_iload_n hx hb dX9_power_28 rfl (lv_at hl 3 rfl) ?_
      refine lv_if_eq (tgt := 36) hx hb dX9_power_29 (by decide) (fun c1165 => ?_) (fun c1165 => ?_)
      · refine lv_iconst (v := 0) hx hb dX9_power_36 (by decide) ?_
        refine cv_v (As := [.int (nI n1161), .int 0, .int 0]) (rest := []) (b := w) ⟨hx, hb, hml, hown, hts⟩ (c_X9_set hT (w := w) hw (n := n1161) (k := 0) (x := 0) (by first | omega | decide | assumption) (by first | omega | decide | assumption)) (cwV 3 hts gX9_power_X9_set rfl rfl rfl hdX9_set_v ⟨Nat.le_of_ble_eq_true rfl, Nat.le_of_ble_eq_true rfl⟩) hN hE hL (rcv10 hN hT hw.1) rfl rfl hl.1 (Nat.le_of_ble_eq_true rfl) dX9_power_37 (Nat.zero_le _) (Nat.zero_le _) (fun H1 locs hL hqr1166 => ?_)
        obtain ⟨hT1, hF1⟩ := hqr1166
        have hF := hF.tr (hF1.mono (by simp))
        have hT := hT1
        refine lv_iload_n hx hb dX9_power_40 rfl (lv_at hl 3 rfl) ?_
        refine lv_if_ne (tgt := 49) hx hb dX9_power_41 (by decide) (fun c1167 => ?_) (fun c1167 => ?_)
        · refine lv_iload_n hx hb dX9_power_49 rfl (lv_at hl 0 rfl) ?_
          exact en_i hx hb hr hlocks hL rfl (Nat.zero_le _) (Nat.zero_le _) dX9_power_50 (⟨hT, hF, Or.inl rfl⟩)
        · refine lv_aload_n hx hb dX9_power_44 rfl (lv_at hl 1 rfl) ?_
          refine lv_iload_n hx hb dX9_power_45 rfl (lv_at hl 2 rfl) ?_
          refine cv_v (As := [.int (nI n1161)]) (rest := []) (b := w) ⟨hx, hb, hml, hown, hts⟩ (c_X9_dropPlan hT (w := w) hw (n := n1161) (by first | omega | decide | assumption)) (cwV 1 hts gX9_power_X9_dropPlan rfl rfl rfl hdX9_dropPlan_v ⟨Nat.le_of_ble_eq_true rfl, Nat.le_of_ble_eq_true rfl⟩) hN hE hL (rcv10 hN hT hw.1) rfl rfl hl.1 (Nat.le_of_ble_eq_true rfl) dX9_power_46 (Nat.zero_le _) (Nat.zero_le _) (fun H1 locs hL hqr1168 => ?_)
          obtain ⟨hT1, hF1⟩ := hqr1168
          have hF := hF.tr (hF1.mono (by simp))
          have hT := hT1
          refine lv_iload_n hx hb dX9_power_49 rfl (lv_at hl 0 rfl) ?_
          exact en_i hx hb hr hlocks hL rfl (Nat.zero_le _) (Nat.zero_le _) dX9_power_50 (⟨hT, hF, Or.inl rfl⟩)
      · refine lv_iconst (v := 1) hx hb dX9_power_32 (by decide) ?_
        refine lv_goto (tgt := 37) hx hb dX9_power_33 (by decide) ?_
        refine cv_v (As := [.int (nI n1161), .int 0, .int 1]) (rest := []) (b := w) ⟨hx, hb, hml, hown, hts⟩ (c_X9_set hT (w := w) hw (n := n1161) (k := 0) (x := 1) (by first | omega | decide | assumption) (by first | omega | decide | assumption)) (cwV 3 hts gX9_power_X9_set rfl rfl rfl hdX9_set_v ⟨Nat.le_of_ble_eq_true rfl, Nat.le_of_ble_eq_true rfl⟩) hN hE hL (rcv10 hN hT hw.1) rfl rfl hl.1 (Nat.le_of_ble_eq_true rfl) dX9_power_37 (Nat.zero_le _) (Nat.zero_le _) (fun H1 locs hL hqr1169 => ?_)
        obtain ⟨hT1, hF1⟩ := hqr1169
        have hF := hF.tr (hF1.mono (by simp))
        have hT := hT1
        refine lv_iload_n hx hb dX9_power_40 rfl (lv_at hl 3 rfl) ?_
        refine lv_if_ne (tgt := 49) hx hb dX9_power_41 (by decide) (fun c1170 => ?_) (fun c1170 => ?_)
        · refine lv_iload_n hx hb dX9_power_49 rfl (lv_at hl 0 rfl) ?_
          exact en_i hx hb hr hlocks hL rfl (Nat.zero_le _) (Nat.zero_le _) dX9_power_50 (⟨hT, hF, Or.inl rfl⟩)
        · refine lv_aload_n hx hb dX9_power_44 rfl (lv_at hl 1 rfl) ?_
          refine lv_iload_n hx hb dX9_power_45 rfl (lv_at hl 2 rfl) ?_
          refine cv_v (As := [.int (nI n1161)]) (rest := []) (b := w) ⟨hx, hb, hml, hown, hts⟩ (c_X9_dropPlan hT (w := w) hw (n := n1161) (by first | omega | decide | assumption)) (cwV 1 hts gX9_power_X9_dropPlan rfl rfl rfl hdX9_dropPlan_v ⟨Nat.le_of_ble_eq_true rfl, Nat.le_of_ble_eq_true rfl⟩) hN hE hL (rcv10 hN hT hw.1) rfl rfl hl.1 (Nat.le_of_ble_eq_true rfl) dX9_power_46 (Nat.zero_le _) (Nat.zero_le _) (fun H1 locs hL hqr1171 => ?_)
          obtain ⟨hT1, hF1⟩ := hqr1171
          have hF := hF.tr (hF1.mono (by simp))
          have hT := hT1
          refine lv_iload_n hx hb dX9_power_49 rfl (lv_at hl 0 rfl) ?_
          exact en_i hx hb hr hlocks hL rfl (Nat.zero_le _) (Nat.zero_le _) dX9_power_50 (⟨hT, hF, Or.inl rfl⟩)
    · refine lv_istore_n (lv' := [(3, .int 1), (0, .ref w), (1, .int (nI n1161)), (2, .int y)]) hx hb dX9_power_24 rfl hl (by decide) rfl (fun ls hl => ?_)
      refine lv_aload_n hx hb dX9_power_25 rfl (lv_at hl 1 rfl) ?_
      refine lv_iload_n hx hb dX9_power_26 rfl (lv_at hl 2 rfl) ?_
      refine lv_iconst (v := 0) hx hb dX9_power_27 (by decide) ?_
      refine lv_iload_n hx hb dX9_power_28 rfl (lv_at hl 3 rfl) ?_
      refine lv_if_eq (tgt := 36) hx hb dX9_power_29 (by decide) (fun c1172 => ?_) (fun c1172 => ?_)
      · refine lv_iconst (v := 0) hx hb dX9_power_36 (by decide) ?_
        refine cv_v (As := [.int (nI n1161), .int 0, .int 0]) (rest := []) (b := w) ⟨hx, hb, hml, hown, hts⟩ (c_X9_set hT (w := w) hw (n := n1161) (k := 0) (x := 0) (by first | omega | decide | assumption) (by first | omega | decide | assumption)) (cwV 3 hts gX9_power_X9_set rfl rfl rfl hdX9_set_v ⟨Nat.le_of_ble_eq_true rfl, Nat.le_of_ble_eq_true rfl⟩) hN hE hL (rcv10 hN hT hw.1) rfl rfl hl.1 (Nat.le_of_ble_eq_true rfl) dX9_power_37 (Nat.zero_le _) (Nat.zero_le _) (fun H1 locs hL hqr1173 => ?_)
        obtain ⟨hT1, hF1⟩ := hqr1173
        have hF := hF.tr (hF1.mono (by simp))
        have hT := hT1
        refine lv_iload_n hx hb dX9_power_40 rfl (lv_at hl 3 rfl) ?_
        refine lv_if_ne (tgt := 49) hx hb dX9_power_41 (by decide) (fun c1174 => ?_) (fun c1174 => ?_)
        · refine lv_iload_n hx hb dX9_power_49 rfl (lv_at hl 0 rfl) ?_
          exact en_i hx hb hr hlocks hL rfl (Nat.zero_le _) (Nat.zero_le _) dX9_power_50 (⟨hT, hF, Or.inr rfl⟩)
        · refine lv_aload_n hx hb dX9_power_44 rfl (lv_at hl 1 rfl) ?_
          refine lv_iload_n hx hb dX9_power_45 rfl (lv_at hl 2 rfl) ?_
          refine cv_v (As := [.int (nI n1161)]) (rest := []) (b := w) ⟨hx, hb, hml, hown, hts⟩ (c_X9_dropPlan hT (w := w) hw (n := n1161) (by first | omega | decide | assumption)) (cwV 1 hts gX9_power_X9_dropPlan rfl rfl rfl hdX9_dropPlan_v ⟨Nat.le_of_ble_eq_true rfl, Nat.le_of_ble_eq_true rfl⟩) hN hE hL (rcv10 hN hT hw.1) rfl rfl hl.1 (Nat.le_of_ble_eq_true rfl) dX9_power_46 (Nat.zero_le _) (Nat.zero_le _) (fun H1 locs hL hqr1175 => ?_)
          obtain ⟨hT1, hF1⟩ := hqr1175
          have hF := hF.tr (hF1.mono (by simp))
          have hT := hT1
          refine lv_iload_n hx hb dX9_power_49 rfl (lv_at hl 0 rfl) ?_
          exact en_i hx hb hr hlocks hL rfl (Nat.zero_le _) (Nat.zero_le _) dX9_power_50 (⟨hT, hF, Or.inr rfl⟩)
      · refine lv_iconst (v := 1) hx hb dX9_power_32 (by decide) ?_
        refine lv_goto (tgt := 37) hx hb dX9_power_33 (by decide) ?_
        refine cv_v (As := [.int (nI n1161), .int 0, .int 1]) (rest := []) (b := w) ⟨hx, hb, hml, hown, hts⟩ (c_X9_set hT (w := w) hw (n := n1161) (k := 0) (x := 1) (by first | omega | decide | assumption) (by first | omega | decide | assumption)) (cwV 3 hts gX9_power_X9_set rfl rfl rfl hdX9_set_v ⟨Nat.le_of_ble_eq_true rfl, Nat.le_of_ble_eq_true rfl⟩) hN hE hL (rcv10 hN hT hw.1) rfl rfl hl.1 (Nat.le_of_ble_eq_true rfl) dX9_power_37 (Nat.zero_le _) (Nat.zero_le _) (fun H1 locs hL hqr1176 => ?_)
        obtain ⟨hT1, hF1⟩ := hqr1176
        have hF := hF.tr (hF1.mono (by simp))
        have hT := hT1
        refine lv_iload_n hx hb dX9_power_40 rfl (lv_at hl 3 rfl) ?_
        refine lv_if_ne (tgt := 49) hx hb dX9_power_41 (by decide) (fun c1177 => ?_) (fun c1177 => ?_)
        · refine lv_iload_n hx hb dX9_power_49 rfl (lv_at hl 0 rfl) ?_
          exact en_i hx hb hr hlocks hL rfl (Nat.zero_le _) (Nat.zero_le _) dX9_power_50 (⟨hT, hF, Or.inr rfl⟩)
        · refine lv_aload_n hx hb dX9_power_44 rfl (lv_at hl 1 rfl) ?_
          refine lv_iload_n hx hb dX9_power_45 rfl (lv_at hl 2 rfl) ?_
          refine cv_v (As := [.int (nI n1161)]) (rest := []) (b := w) ⟨hx, hb, hml, hown, hts⟩ (c_X9_dropPlan hT (w := w) hw (n := n1161) (by first | omega | decide | assumption)) (cwV 1 hts gX9_power_X9_dropPlan rfl rfl rfl hdX9_dropPlan_v ⟨Nat.le_of_ble_eq_true rfl, Nat.le_of_ble_eq_true rfl⟩) hN hE hL (rcv10 hN hT hw.1) rfl rfl hl.1 (Nat.le_of_ble_eq_true rfl) dX9_power_46 (Nat.zero_le _) (Nat.zero_le _) (fun H1 locs hL hqr1178 => ?_)
          obtain ⟨hT1, hF1⟩ := hqr1178
          have hF := hF.tr (hF1.mono (by simp))
          have hT := hT1
          refine lv_iload_n hx hb dX9_power_49 rfl (lv_at hl 0 rfl) ?_
          exact en_i hx hb hr hlocks hL rfl (Nat.zero_le _) (Nat.zero_le _) dX9_power_50 (⟨hT, hF, Or.inr rfl⟩)
theorem mX9_cut_1 : (.fieldLink RX9 40 "OneBeatModel" "thrown" "I" : Cond) ∈ wsX9_cut := List.mem_of_getElem? (i := 1) (by decide +kernel)
theorem iX9_cut_9 : ∀ w ∈ wsX90, w ∈ wsX9_cut := fun w h => List.mem_of_mem_drop (List.mem_of_mem_take ((show wsX90 = (wsX9_cut.drop 31).take 18 by decide +kernel) ▸ h))
theorem mX9_cut_2 : (.fieldLink RX9 18 "OneBeatModel" "data" "[I" : Cond) ∈ wsX9_cut := List.mem_of_getElem? (i := 2) (by decide +kernel)
theorem mX9_cut_3 : (.methodLink RX9 297 Lib.Math.abs.name : Cond) ∈ wsX9_cut := List.mem_of_getElem? (i := 3) (by decide +kernel)
theorem mX9_cut_4 : (.static Lib.Math.abs.name : Cond) ∈ wsX9_cut := List.mem_of_getElem? (i := 4) (by decide +kernel)
theorem mX9_cut_5 : (.initialized "java/lang/Math" : Cond) ∈ wsX9_cut := List.mem_of_getElem? (i := 5) (by decide +kernel)
theorem mX9_cut_6 : (.code Lib.Math.abs.name Lib.Math.abs.code 1 (some .int) : Cond) ∈ wsX9_cut := List.mem_of_getElem? (i := 6) (by decide +kernel)
set_option maxHeartbeats 4000000 in
set_option maxRecDepth 100000 in
theorem c_X9_cut {l : Launch} {D : va_G} {cs : Nat → ClassId} {B0 T : Nat} {κ : KM} {H0 : Heap} (hT : WT B0 D cs T κ H0) {w : Nat} (hw : T2 κ w 10 12) {x : Int32} {y : Int32} {z : Int32} : KC l yX9_cut wsX9_cut 2 44 0 0 D cs B0 H0 [.ref w, .int x, .int y, .int z] (Qi (fun r H => WT B0 D cs T κ H ∧ Fr B0 [12, 18] κ H0 H ∧ (r = 0 ∨ r = 1))) := by
  refine KC.of cX9_cut 6 (some .boolean) (by decide) rfl (Nat.le_of_ble_eq_true rfl) ?_
  intro p e s m below meth c ls hx hb hr hml hown hts hlocks hin hN hE hH0 hl
  have hown : s.vm.findClass RX9 = some m.cls := hown
  have hl : lv_has ls 6 [(0, .ref w), (1, .int x), (2, .int y), (3, .int z)] := hl
  have hL : OkL B0 [] := OkL.nil
  have hF : Fr B0 [12, 18] κ H0 H0 := Fr.rf
  refine lv_aload_n hx hb dX9_cut_0 rfl (lv_at hl 0 rfl) ?_
  refine lv_iconst (v := 0) hx hb dX9_cut_1 (by decide) ?_
  obtain ⟨hb1179, e1179, hat1179, hk1179⟩ := hT.o10 hw.1
  obtain ⟨f1179_0, f1179_1, f1179_3, f1179_4, f1179_5, f1179_6, f1179_7, f1179_9, f1179_10, f1179_11, f1179_12, f1179_13, f1179_14, f1179_15, f1179_16, f1179_17, rfl, c1179_2, c1179_3, c1179_4, c1179_12, t1179_1, t1179_8, t1179_9, c1179_sd, t1179_10, t1179_11, t1179_17⟩ := hk1179
  have hP : va_P D vwCl [(w, .inr (9, [.int f1179_0, .ref f1179_1, .int (nI ((κ w).2.2.1)), .int (nI f1179_3), .int (nI f1179_4), .int f1179_5, .int f1179_6, .int f1179_7, .ref (κ w).2.2.2, .ref f1179_9, .ref f1179_10, .ref f1179_11, .int (nI f1179_12), .int f1179_13, .int f1179_14, .int f1179_15, .int f1179_16, .ref f1179_17]))] _ := va_P.cons hat1179 va_P.nil
  have hB : Bx B0 D _ [(w, .inr (9, [.int f1179_0, .ref f1179_1, .int (nI ((κ w).2.2.1)), .int (nI f1179_3), .int (nI f1179_4), .int f1179_5, .int f1179_6, .int f1179_7, .ref (κ w).2.2.2, .ref f1179_9, .ref f1179_10, .ref f1179_11, .int (nI f1179_12), .int f1179_13, .int f1179_14, .int f1179_15, .int f1179_16, .ref f1179_17]))] [] _ _ := Bx.of (fun a => (κ a).1) hL hP (fa_c hb1179 fa_n) (by simp only [List.map_cons, List.map_nil, hw.1]; decide)
  refine b_put (D := D) (ci := 9) (v := .int 0) (ty := .int) (C := RX9) (T := TX9) (N := 18) hx hb hts iX9_cut_9 tyX9 tyX9_ok nmX9 hown hN hB 0 rfl rfl 0 (by decide) (hts _ mX9_cut_1) (fun _ h9 => h9) rfl (by decide +kernel) rfl rfl (Nat.le_of_ble_eq_true rfl) (.inl rfl) dX9_cut_2 (fun H locs hB => ?_)
  have hB : Bx B0 D _ [(w, .inr (9, [.int 0, .ref f1179_1, .int (nI ((κ w).2.2.1)), .int (nI f1179_3), .int (nI f1179_4), .int f1179_5, .int f1179_6, .int f1179_7, .ref (κ w).2.2.2, .ref f1179_9, .ref f1179_10, .ref f1179_11, .int (nI f1179_12), .int f1179_13, .int f1179_14, .int f1179_15, .int f1179_16, .ref f1179_17]))] [w] _ _ := hB
  refine lv_aload_n hx hb dX9_cut_5 rfl (lv_at hl 0 rfl) ?_
  refine lv_iload_n hx hb dX9_cut_6 rfl (lv_at hl 1 rfl) ?_
  have hT : WT B0 D cs T κ _ := hT.close hB ⟨⟨0, _, rfl, ok_10 hw.1 ⟨_, _, _, _, _, _, _, _, _, _, _, _, _, _, _, _, rfl, (by omega), (by omega), (by omega), (by omega), t1179_1, t1179_8, t1179_9, c1179_sd, t1179_10, t1179_11, t1179_17⟩⟩, trivial⟩
  have hF : Fr B0 [12, 18] κ H0 _ := hF.close hB (fa_c (by simp [hw.2]) fa_n)
  have hL : OkL B0 _ := hB.2.2.2.2.2
  have hP : va_P D vwCl [(w, .inr (9, [.int 0, .ref f1179_1, .int (nI ((κ w).2.2.1)), .int (nI f1179_3), .int (nI f1179_4), .int f1179_5, .int f1179_6, .int f1179_7, .ref (κ w).2.2.2, .ref f1179_9, .ref f1179_10, .ref f1179_11, .int (nI f1179_12), .int f1179_13, .int f1179_14, .int f1179_15, .int f1179_16, .ref f1179_17]))] _ := hB.1
  refine cv_i (As := [.int x]) (rest := []) (b := w) ⟨hx, hb, hml, hown, hts⟩ (c_X9_noPlayer hT (w := w) hw (x := x)) (cwV 1 hts gX9_cut_X9_noPlayer rfl rfl rfl hdX9_noPlayer_v ⟨Nat.le_of_ble_eq_true rfl, Nat.le_of_ble_eq_true rfl⟩) hN hE hL (rcv10 hN hT hw.1) rfl rfl hl.1 (Nat.le_of_ble_eq_true rfl) dX9_cut_7 (Nat.zero_le _) (Nat.zero_le _) (fun r1180 H1 locs hL hqr1180 => ?_)
  obtain ⟨hT1, hF1, hqr1180⟩ := hqr1180
  have hF := hF.tr (hF1.mono (by simp))
  have hT := hT1
  rcases hqr1180 with rfl | ⟨rfl, n1181, h1182, rfl⟩
  · refine lv_if_ne (tgt := 47) hx hb dX9_cut_10 (by decide) (fun _ => ?_) (fun c9 => absurd c9 (by decide))
    refine lv_iconst (v := 0) hx hb dX9_cut_47 (by decide) ?_
    exact en_i hx hb hr hlocks hL rfl (Nat.zero_le _) (Nat.zero_le _) dX9_cut_48 (⟨hT, hF, Or.inl rfl⟩)
  · refine lv_if_ne (tgt := 47) hx hb dX9_cut_10 (by decide) (fun c9 => absurd (by decide) c9) (fun _ => ?_)
    refine lv_aload_n hx hb dX9_cut_13 rfl (lv_at hl 0 rfl) ?_
    refine lv_iload_n hx hb dX9_cut_14 rfl (lv_at hl 2 rfl) ?_
    refine cv_i (As := [.int y]) (rest := []) (b := w) ⟨hx, hb, hml, hown, hts⟩ (c_X9_noPlayer hT (w := w) hw (x := y)) (cwV 1 hts gX9_cut_X9_noPlayer rfl rfl rfl hdX9_noPlayer_v ⟨Nat.le_of_ble_eq_true rfl, Nat.le_of_ble_eq_true rfl⟩) hN hE hL (rcv10 hN hT hw.1) rfl rfl hl.1 (Nat.le_of_ble_eq_true rfl) dX9_cut_15 (Nat.zero_le _) (Nat.zero_le _) (fun r1183 H1 locs hL hqr1183 => ?_)
    obtain ⟨hT1, hF1, hqr1183⟩ := hqr1183
    have hF := hF.tr (hF1.mono (by simp))
    have hT := hT1
    rcases hqr1183 with rfl | ⟨rfl, n1184, h1185, rfl⟩
    · refine lv_if_ne (tgt := 47) hx hb dX9_cut_18 (by decide) (fun _ => ?_) (fun c9 => absurd c9 (by decide))
      refine lv_iconst (v := 0) hx hb dX9_cut_47 (by decide) ?_
      exact en_i hx hb hr hlocks hL rfl (Nat.zero_le _) (Nat.zero_le _) dX9_cut_48 (⟨hT, hF, Or.inl rfl⟩)
    · refine lv_if_ne (tgt := 47) hx hb dX9_cut_18 (by decide) (fun c9 => absurd (by decide) c9) (fun _ => ?_)
      refine lv_aload_n hx hb dX9_cut_21 rfl (lv_at hl 0 rfl) ?_
      refine lv_aload_n hx hb dX9_cut_22 rfl (lv_at hl 0 rfl) ?_
      obtain ⟨hb1186, e1186, hat1186, hk1186⟩ := hT.o10 hw.1
      obtain ⟨f1186_0, f1186_1, f1186_3, f1186_4, f1186_5, f1186_6, f1186_7, f1186_9, f1186_10, f1186_11, f1186_12, f1186_13, f1186_14, f1186_15, f1186_16, f1186_17, rfl, c1186_2, c1186_3, c1186_4, c1186_12, t1186_1, t1186_8, t1186_9, c1186_sd, t1186_10, t1186_11, t1186_17⟩ := hk1186
      have hP : va_P D vwCl [(w, .inr (9, [.int f1186_0, .ref f1186_1, .int (nI ((κ w).2.2.1)), .int (nI f1186_3), .int (nI f1186_4), .int f1186_5, .int f1186_6, .int f1186_7, .ref (κ w).2.2.2, .ref f1186_9, .ref f1186_10, .ref f1186_11, .int (nI f1186_12), .int f1186_13, .int f1186_14, .int f1186_15, .int f1186_16, .ref f1186_17]))] _ := va_P.cons hat1186 va_P.nil
      refine va_get (D := D) (ci := 9) (v := .ref (κ w).2.2.2) (C := RX9) (T := TX9) (N := 18) hx hb hts iX9_cut_9 hown hN.1 hP 0 rfl rfl 8 (by decide) (hts _ mX9_cut_2) (fun _ h9 => h9) rfl dX9_cut_23 ?_
      refine lv_iload_n hx hb dX9_cut_26 rfl (lv_at hl 1 rfl) ?_
      refine lv_iload_n hx hb dX9_cut_27 rfl (lv_at hl 2 rfl) ?_
      refine cs_i (As := [.int (nI n1181), .int (nI n1184)]) (rest := [.ref (κ w).2.2.2, .ref w]) ⟨hx, hb, hml, hown, hts⟩ (c_X9_linkAt hT (n := n1181) (k := n1184) (by first | omega | decide | assumption) (by first | omega | decide | assumption)) (va_cwS 2 hts gX9_cut_X9_linkAt rfl rfl rfl hdX9_linkAt_o ⟨Nat.le_of_ble_eq_true rfl, Nat.le_of_ble_eq_true rfl⟩) hN hE hL rfl rfl hl.1 (Nat.le_of_ble_eq_true rfl) dX9_cut_28 (Nat.zero_le _) (Nat.zero_le _) (fun r1187 H1 locs hL hqr1187 => ?_)
      obtain ⟨h9, hqr1187⟩ := hqr1187; replace h9 := h9.symm; subst h9
      obtain rfl := hqr1187
      obtain ⟨hb1188, e1188, hat1188, hk1188⟩ := hT.o24 t1186_8.1
      obtain ⟨g1188, rfl, q1188⟩ := hk1188
      have hP : va_P D vwCl [((κ w).2.2.2, .inl (cs 0, 45783, .inl g1188)), (w, .inr (9, [.int f1186_0, .ref f1186_1, .int (nI ((κ w).2.2.1)), .int (nI f1186_3), .int (nI f1186_4), .int f1186_5, .int f1186_6, .int f1186_7, .ref (κ w).2.2.2, .ref f1186_9, .ref f1186_10, .ref f1186_11, .int (nI f1186_12), .int f1186_13, .int f1186_14, .int f1186_15, .int f1186_16, .ref f1186_17]))] _ := va_P.cons hat1188 hP
      refine ld_i (v := (g1188 (119 + 8 * n1181 + n1184))) hx hb hN hP 0 rfl (vp_in_nI (n := (119 + 8 * n1181 + n1184)) (N := 45783) (by omega) (by omega)) (by rw [(show ((nI (119 + 8 * n1181 + n1184)) : Int32).toNatClampNeg = (119 + 8 * n1181 + n1184) from nI_clamp (n := (119 + 8 * n1181 + n1184)) (by omega))]) dX9_cut_31 ?_
      refine gn_i (fun x1189 => ?_)
      refine lv_if_ne (tgt := 39) hx hb dX9_cut_32 (by decide) (fun c1190 => ?_) (fun c1190 => ?_)
      · refine lv_iconst (v := 0) hx hb dX9_cut_39 (by decide) ?_
        refine lv_iconst (v := 2) hx hb dX9_cut_40 (by decide) ?_
        refine cv_i (As := [.int 0, .int 2]) (rest := []) (b := w) ⟨hx, hb, hml, hown, hts⟩ (c_X9_fails hT (w := w) hw (x := 0) (z := 2) ((by decide))) (cwV 2 hts gX9_cut_X9_fails rfl rfl rfl hdX9_fails_v ⟨Nat.le_of_ble_eq_true rfl, Nat.le_of_ble_eq_true rfl⟩) hN hE hL (rcv10 hN hT hw.1) rfl rfl hl.1 (Nat.le_of_ble_eq_true rfl) dX9_cut_41 (Nat.zero_le _) (Nat.zero_le _) (fun r1191 H1 locs hL hqr1191 => ?_)
        obtain ⟨hT1, hF1, hqr1191⟩ := hqr1191
        have hP : va_P D vwCl [((κ w).2.2.2, .inl (cs 0, 45783, .inl g1188))] _ := hF1.hP (hP.sub [0] rfl) (fa_c ⟨by rw [t1186_8.1]; decide, by rw [t1186_8.2]; first | decide | (simp; done) | (simp; omega)⟩ fa_n)
        have hF := hF.tr (hF1.mono (by simp))
        have hT := hT1
        rcases hqr1191 with rfl | ⟨rfl, e1192⟩
        · refine lv_if_eq (tgt := 49) hx hb dX9_cut_44 (by decide) (fun c9 => absurd c9 (by decide)) (fun _ => ?_)
          refine lv_iconst (v := 0) hx hb dX9_cut_47 (by decide) ?_
          exact en_i hx hb hr hlocks hL rfl (Nat.zero_le _) (Nat.zero_le _) dX9_cut_48 (⟨hT, hF, Or.inl rfl⟩)
        · refine lv_if_eq (tgt := 49) hx hb dX9_cut_44 (by decide) (fun _ => ?_) (fun c9 => absurd (by decide) c9)
          refine lv_aload_n hx hb dX9_cut_49 rfl (lv_at hl 0 rfl) ?_
          refine cv_v (As := []) (rest := []) (b := w) ⟨hx, hb, hml, hown, hts⟩ (c_X9_remember hT (w := w) hw) (cwV 0 hts gX9_cut_X9_remember rfl rfl rfl hdX9_remember_v ⟨Nat.le_of_ble_eq_true rfl, Nat.le_of_ble_eq_true rfl⟩) hN hE hL (rcv10 hN hT hw.1) rfl rfl hl.1 (Nat.le_of_ble_eq_true rfl) dX9_cut_50 (Nat.zero_le _) (Nat.zero_le _) (fun H1 locs hL hqr1193 => ?_)
          obtain ⟨hT1, hF1⟩ := hqr1193
          have hF := hF.tr (hF1.mono (by simp))
          have hT := hT1
          refine lv_iload_n hx hb dX9_cut_53 rfl (lv_at hl 1 rfl) ?_
          refine lv_iload_n hx hb dX9_cut_54 rfl (lv_at hl 2 rfl) ?_
          refine cs_i (As := [.int (nI n1181), .int (nI n1184)]) (rest := []) ⟨hx, hb, hml, hown, hts⟩ (c_X9_linkAt hT (n := n1181) (k := n1184) (by first | omega | decide | assumption) (by first | omega | decide | assumption)) (va_cwS 2 hts gX9_cut_X9_linkAt rfl rfl rfl hdX9_linkAt_o ⟨Nat.le_of_ble_eq_true rfl, Nat.le_of_ble_eq_true rfl⟩) hN hE hL rfl rfl hl.1 (Nat.le_of_ble_eq_true rfl) dX9_cut_55 (Nat.zero_le _) (Nat.zero_le _) (fun r1194 H1 locs hL hqr1194 => ?_)
          obtain ⟨h9, hqr1194⟩ := hqr1194; replace h9 := h9.symm; subst h9
          obtain rfl := hqr1194
          refine lv_istore (lv' := [(4, .int (nI (119 + 8 * n1181 + n1184))), (0, .ref w), (1, .int (nI n1181)), (2, .int (nI n1184)), (3, .int z)]) hx hb dX9_cut_58 hl (by decide) rfl (fun ls hl => ?_)
          refine lv_aload_n hx hb dX9_cut_60 rfl (lv_at hl 1 rfl) ?_
          obtain ⟨hb1195, e1195, hat1195, hk1195⟩ := hT.o10 hw.1
          obtain ⟨f1195_0, f1195_1, f1195_3, f1195_4, f1195_5, f1195_6, f1195_7, f1195_9, f1195_10, f1195_11, f1195_12, f1195_13, f1195_14, f1195_15, f1195_16, f1195_17, rfl, c1195_2, c1195_3, c1195_4, c1195_12, t1195_1, t1195_8, t1195_9, c1195_sd, t1195_10, t1195_11, t1195_17⟩ := hk1195
          have hP : va_P D vwCl [(w, .inr (9, [.int f1195_0, .ref f1195_1, .int (nI ((κ w).2.2.1)), .int (nI f1195_3), .int (nI f1195_4), .int f1195_5, .int f1195_6, .int f1195_7, .ref (κ w).2.2.2, .ref f1195_9, .ref f1195_10, .ref f1195_11, .int (nI f1195_12), .int f1195_13, .int f1195_14, .int f1195_15, .int f1195_16, .ref f1195_17]))] _ := va_P.cons hat1195 va_P.nil
          refine va_get (D := D) (ci := 9) (v := .ref (κ w).2.2.2) (C := RX9) (T := TX9) (N := 18) hx hb hts iX9_cut_9 hown hN.1 hP 0 rfl rfl 8 (by decide) (hts _ mX9_cut_2) (fun _ h9 => h9) rfl dX9_cut_61 ?_
          refine lv_iload hx hb dX9_cut_64 (lv_at hl 0 rfl) ?_
          obtain ⟨hb1196, e1196, hat1196, hk1196⟩ := hT.o24 t1195_8.1
          obtain ⟨g1196, rfl, q1196⟩ := hk1196
          have hP : va_P D vwCl [((κ w).2.2.2, .inl (cs 0, 45783, .inl g1196)), (w, .inr (9, [.int f1195_0, .ref f1195_1, .int (nI ((κ w).2.2.1)), .int (nI f1195_3), .int (nI f1195_4), .int f1195_5, .int f1195_6, .int f1195_7, .ref (κ w).2.2.2, .ref f1195_9, .ref f1195_10, .ref f1195_11, .int (nI f1195_12), .int f1195_13, .int f1195_14, .int f1195_15, .int f1195_16, .ref f1195_17]))] _ := va_P.cons hat1196 hP
          refine ld_i (v := (g1196 (119 + 8 * n1181 + n1184))) hx hb hN hP 0 rfl (vp_in_nI (n := (119 + 8 * n1181 + n1184)) (N := 45783) (by omega) (by omega)) (by rw [(show ((nI (119 + 8 * n1181 + n1184)) : Int32).toNatClampNeg = (119 + 8 * n1181 + n1184) from nI_clamp (n := (119 + 8 * n1181 + n1184)) (by omega))]) dX9_cut_66 ?_
          refine gn_i (fun x1197 => ?_)
          refine lv_if_ge (tgt := 74) hx hb dX9_cut_67 (by decide) (fun c1198 => ?_) (fun c1198 => ?_)
          · refine lv_iconst (v := 0) hx hb dX9_cut_74 (by decide) ?_
            refine lv_istore (lv' := [(5, .int 0), (4, .int (nI (119 + 8 * n1181 + n1184))), (0, .ref w), (1, .int (nI n1181)), (2, .int (nI n1184)), (3, .int z)]) hx hb dX9_cut_75 hl (by decide) rfl (fun ls hl => ?_)
            refine lv_aload_n hx hb dX9_cut_77 rfl (lv_at hl 2 rfl) ?_
            refine va_get (D := D) (ci := 9) (v := .ref (κ w).2.2.2) (C := RX9) (T := TX9) (N := 18) hx hb hts iX9_cut_9 hown hN.1 hP 1 rfl rfl 8 (by decide) (hts _ mX9_cut_2) (fun _ h9 => h9) rfl dX9_cut_78 ?_
            refine lv_iload hx hb dX9_cut_81 (lv_at hl 1 rfl) ?_
            refine lv_iload_n hx hb dX9_cut_83 rfl (lv_at hl 5 rfl) ?_
            refine lv_if_eq (tgt := 101) hx hb dX9_cut_84 (by decide) (fun c1199 => ?_) (fun c1199 => ?_)
            · refine lv_aload_n hx hb dX9_cut_101 rfl (lv_at hl 2 rfl) ?_
              refine va_get (D := D) (ci := 9) (v := .ref (κ w).2.2.2) (C := RX9) (T := TX9) (N := 18) hx hb hts iX9_cut_9 hown hN.1 hP 1 rfl rfl 8 (by decide) (hts _ mX9_cut_2) (fun _ h9 => h9) rfl dX9_cut_102 ?_
              refine lv_iload hx hb dX9_cut_105 (lv_at hl 1 rfl) ?_
              refine ld_i (v := (g1196 (119 + 8 * n1181 + n1184))) hx hb hN hP 0 rfl (vp_in_nI (n := (119 + 8 * n1181 + n1184)) (N := 45783) (by omega) (by omega)) (by rw [(show ((nI (119 + 8 * n1181 + n1184)) : Int32).toNatClampNeg = (119 + 8 * n1181 + n1184) from nI_clamp (n := (119 + 8 * n1181 + n1184)) (by omega))]) dX9_cut_107 ?_
              refine gn_i (fun x1200 => ?_)
              refine va_mabs hx hb (hml.trans hl.1.symm) hown (hts _ mX9_cut_3) (hts _ mX9_cut_4) (hts _ mX9_cut_5) (hts _ mX9_cut_6) (Nat.le_of_ble_eq_true rfl) (Nat.le_of_ble_eq_true rfl) (Nat.zero_le _) (Nat.zero_le _) dX9_cut_108 ?_
              refine gn_i (fun x1201 => ?_)
              have hB : Bx B0 D _ [((κ w).2.2.2, .inl (cs 0, 45783, .inl g1196)), (w, .inr (9, [.int f1195_0, .ref f1195_1, .int (nI ((κ w).2.2.1)), .int (nI f1195_3), .int (nI f1195_4), .int f1195_5, .int f1195_6, .int f1195_7, .ref (κ w).2.2.2, .ref f1195_9, .ref f1195_10, .ref f1195_11, .int (nI f1195_12), .int f1195_13, .int f1195_14, .int f1195_15, .int f1195_16, .ref f1195_17]))] [] _ _ := Bx.of (fun a => (κ a).1) hL hP (fa_c hb1196 (fa_c hb1195 fa_n)) (by simp only [List.map_cons, List.map_nil, t1195_8.1, hw.1]; decide)
              refine b_i hx hb hN hB 0 rfl (vp_in_nI (n := (119 + 8 * n1181 + n1184)) (N := 45783) (by omega) (by omega)) (.inl rfl) dX9_cut_111 (fun H locs hB => ?_)
              rw [(show ((nI (119 + 8 * n1181 + n1184)) : Int32).toNatClampNeg = (119 + 8 * n1181 + n1184) from nI_clamp (n := (119 + 8 * n1181 + n1184)) (by omega))] at hB
              have hB : Bx B0 D _ [((κ w).2.2.2, .inl (cs 0, 45783, .inl (upd g1196 (119 + 8 * n1181 + n1184) x1201))), (w, .inr (9, [.int f1195_0, .ref f1195_1, .int (nI ((κ w).2.2.1)), .int (nI f1195_3), .int (nI f1195_4), .int f1195_5, .int f1195_6, .int f1195_7, .ref (κ w).2.2.2, .ref f1195_9, .ref f1195_10, .ref f1195_11, .int (nI f1195_12), .int f1195_13, .int f1195_14, .int f1195_15, .int f1195_16, .ref f1195_17]))] [(κ w).2.2.2] _ _ := hB
              have z1202 := DOK.sf q1196 (k := (119 + 8 * n1181 + n1184)) (by omega) (x := x1201)
              refine lv_iload hx hb dX9_cut_112 (lv_at hl 0 rfl) ?_
              have hT : WT B0 D cs T κ _ := hT.close hB ⟨⟨0, _, rfl, ok_24 t1195_8.1 ⟨_, rfl, z1202⟩⟩, trivial⟩
              have hF : Fr B0 [12, 18] κ H0 _ := hF.close hB (fa_c (by simp [t1195_8.2]) fa_n)
              have hL : OkL B0 _ := hB.2.2.2.2.2
              have hP : va_P D vwCl [((κ w).2.2.2, .inl (cs 0, 45783, .inl (upd g1196 (119 + 8 * n1181 + n1184) x1201))), (w, .inr (9, [.int f1195_0, .ref f1195_1, .int (nI ((κ w).2.2.1)), .int (nI f1195_3), .int (nI f1195_4), .int f1195_5, .int f1195_6, .int f1195_7, .ref (κ w).2.2.2, .ref f1195_9, .ref f1195_10, .ref f1195_11, .int (nI f1195_12), .int f1195_13, .int f1195_14, .int f1195_15, .int f1195_16, .ref f1195_17]))] _ := hB.1
              exact en_i hx hb hr hlocks hL rfl (Nat.zero_le _) (Nat.zero_le _) dX9_cut_114 (⟨hT, hF, Or.inl rfl⟩)
            · refine lv_aload_n hx hb dX9_cut_87 rfl (lv_at hl 2 rfl) ?_
              refine va_get (D := D) (ci := 9) (v := .ref (κ w).2.2.2) (C := RX9) (T := TX9) (N := 18) hx hb hts iX9_cut_9 hown hN.1 hP 1 rfl rfl 8 (by decide) (hts _ mX9_cut_2) (fun _ h9 => h9) rfl dX9_cut_88 ?_
              refine lv_iload hx hb dX9_cut_91 (lv_at hl 1 rfl) ?_
              refine ld_i (v := (g1196 (119 + 8 * n1181 + n1184))) hx hb hN hP 0 rfl (vp_in_nI (n := (119 + 8 * n1181 + n1184)) (N := 45783) (by omega) (by omega)) (by rw [(show ((nI (119 + 8 * n1181 + n1184)) : Int32).toNatClampNeg = (119 + 8 * n1181 + n1184) from nI_clamp (n := (119 + 8 * n1181 + n1184)) (by omega))]) dX9_cut_93 ?_
              refine gn_i (fun x1203 => ?_)
              refine va_mabs hx hb (hml.trans hl.1.symm) hown (hts _ mX9_cut_3) (hts _ mX9_cut_4) (hts _ mX9_cut_5) (hts _ mX9_cut_6) (Nat.le_of_ble_eq_true rfl) (Nat.le_of_ble_eq_true rfl) (Nat.zero_le _) (Nat.zero_le _) dX9_cut_94 ?_
              refine gn_i (fun x1204 => ?_)
              refine lv_ineg hx hb dX9_cut_97 ?_
              refine gn_i (fun x1205 => ?_)
              refine lv_goto (tgt := 111) hx hb dX9_cut_98 (by decide) ?_
              have hB : Bx B0 D _ [((κ w).2.2.2, .inl (cs 0, 45783, .inl g1196)), (w, .inr (9, [.int f1195_0, .ref f1195_1, .int (nI ((κ w).2.2.1)), .int (nI f1195_3), .int (nI f1195_4), .int f1195_5, .int f1195_6, .int f1195_7, .ref (κ w).2.2.2, .ref f1195_9, .ref f1195_10, .ref f1195_11, .int (nI f1195_12), .int f1195_13, .int f1195_14, .int f1195_15, .int f1195_16, .ref f1195_17]))] [] _ _ := Bx.of (fun a => (κ a).1) hL hP (fa_c hb1196 (fa_c hb1195 fa_n)) (by simp only [List.map_cons, List.map_nil, t1195_8.1, hw.1]; decide)
              refine b_i hx hb hN hB 0 rfl (vp_in_nI (n := (119 + 8 * n1181 + n1184)) (N := 45783) (by omega) (by omega)) (.inl rfl) dX9_cut_111 (fun H locs hB => ?_)
              rw [(show ((nI (119 + 8 * n1181 + n1184)) : Int32).toNatClampNeg = (119 + 8 * n1181 + n1184) from nI_clamp (n := (119 + 8 * n1181 + n1184)) (by omega))] at hB
              have hB : Bx B0 D _ [((κ w).2.2.2, .inl (cs 0, 45783, .inl (upd g1196 (119 + 8 * n1181 + n1184) x1205))), (w, .inr (9, [.int f1195_0, .ref f1195_1, .int (nI ((κ w).2.2.1)), .int (nI f1195_3), .int (nI f1195_4), .int f1195_5, .int f1195_6, .int f1195_7, .ref (κ w).2.2.2, .ref f1195_9, .ref f1195_10, .ref f1195_11, .int (nI f1195_12), .int f1195_13, .int f1195_14, .int f1195_15, .int f1195_16, .ref f1195_17]))] [(κ w).2.2.2] _ _ := hB
              have z1206 := DOK.sf q1196 (k := (119 + 8 * n1181 + n1184)) (by omega) (x := x1205)
              refine lv_iload hx hb dX9_cut_112 (lv_at hl 0 rfl) ?_
              have hT : WT B0 D cs T κ _ := hT.close hB ⟨⟨0, _, rfl, ok_24 t1195_8.1 ⟨_, rfl, z1206⟩⟩, trivial⟩
              have hF : Fr B0 [12, 18] κ H0 _ := hF.close hB (fa_c (by simp [t1195_8.2]) fa_n)
              have hL : OkL B0 _ := hB.2.2.2.2.2
              have hP : va_P D vwCl [((κ w).2.2.2, .inl (cs 0, 45783, .inl (upd g1196 (119 + 8 * n1181 + n1184) x1205))), (w, .inr (9, [.int f1195_0, .ref f1195_1, .int (nI ((κ w).2.2.1)), .int (nI f1195_3), .int (nI f1195_4), .int f1195_5, .int f1195_6, .int f1195_7, .ref (κ w).2.2.2, .ref f1195_9, .ref f1195_10, .ref f1195_11, .int (nI f1195_12), .int f1195_13, .int f1195_14, .int f1195_15, .int f1195_16, .ref f1195_17]))] _ := hB.1
              exact en_i hx hb hr hlocks hL rfl (Nat.zero_le _) (Nat.zero_le _) dX9_cut_114 (⟨hT, hF, Or.inl rfl⟩)
          · refine lv_iconst (v := 1) hx hb dX9_cut_70 (by decide) ?_
            refine lv_goto (tgt := 75) hx hb dX9_cut_71 (by decide) ?_
            refine lv_istore (lv' := [(5, .int 1), (4, .int (nI (119 + 8 * n1181 + n1184))), (0, .ref w), (1, .int (nI n1181)), (2, .int (nI n1184)), (3, .int z)]) hx hb dX9_cut_75 hl (by decide) rfl (fun ls hl => ?_)
            refine lv_aload_n hx hb dX9_cut_77 rfl (lv_at hl 2 rfl) ?_
            refine va_get (D := D) (ci := 9) (v := .ref (κ w).2.2.2) (C := RX9) (T := TX9) (N := 18) hx hb hts iX9_cut_9 hown hN.1 hP 1 rfl rfl 8 (by decide) (hts _ mX9_cut_2) (fun _ h9 => h9) rfl dX9_cut_78 ?_
            refine lv_iload hx hb dX9_cut_81 (lv_at hl 1 rfl) ?_
            refine lv_iload_n hx hb dX9_cut_83 rfl (lv_at hl 5 rfl) ?_
            refine lv_if_eq (tgt := 101) hx hb dX9_cut_84 (by decide) (fun c1207 => ?_) (fun c1207 => ?_)
            · refine lv_aload_n hx hb dX9_cut_101 rfl (lv_at hl 2 rfl) ?_
              refine va_get (D := D) (ci := 9) (v := .ref (κ w).2.2.2) (C := RX9) (T := TX9) (N := 18) hx hb hts iX9_cut_9 hown hN.1 hP 1 rfl rfl 8 (by decide) (hts _ mX9_cut_2) (fun _ h9 => h9) rfl dX9_cut_102 ?_
              refine lv_iload hx hb dX9_cut_105 (lv_at hl 1 rfl) ?_
              refine ld_i (v := (g1196 (119 + 8 * n1181 + n1184))) hx hb hN hP 0 rfl (vp_in_nI (n := (119 + 8 * n1181 + n1184)) (N := 45783) (by omega) (by omega)) (by rw [(show ((nI (119 + 8 * n1181 + n1184)) : Int32).toNatClampNeg = (119 + 8 * n1181 + n1184) from nI_clamp (n := (119 + 8 * n1181 + n1184)) (by omega))]) dX9_cut_107 ?_
              refine gn_i (fun x1208 => ?_)
              refine va_mabs hx hb (hml.trans hl.1.symm) hown (hts _ mX9_cut_3) (hts _ mX9_cut_4) (hts _ mX9_cut_5) (hts _ mX9_cut_6) (Nat.le_of_ble_eq_true rfl) (Nat.le_of_ble_eq_true rfl) (Nat.zero_le _) (Nat.zero_le _) dX9_cut_108 ?_
              refine gn_i (fun x1209 => ?_)
              have hB : Bx B0 D _ [((κ w).2.2.2, .inl (cs 0, 45783, .inl g1196)), (w, .inr (9, [.int f1195_0, .ref f1195_1, .int (nI ((κ w).2.2.1)), .int (nI f1195_3), .int (nI f1195_4), .int f1195_5, .int f1195_6, .int f1195_7, .ref (κ w).2.2.2, .ref f1195_9, .ref f1195_10, .ref f1195_11, .int (nI f1195_12), .int f1195_13, .int f1195_14, .int f1195_15, .int f1195_16, .ref f1195_17]))] [] _ _ := Bx.of (fun a => (κ a).1) hL hP (fa_c hb1196 (fa_c hb1195 fa_n)) (by simp only [List.map_cons, List.map_nil, t1195_8.1, hw.1]; decide)
              refine b_i hx hb hN hB 0 rfl (vp_in_nI (n := (119 + 8 * n1181 + n1184)) (N := 45783) (by omega) (by omega)) (.inl rfl) dX9_cut_111 (fun H locs hB => ?_)
              rw [(show ((nI (119 + 8 * n1181 + n1184)) : Int32).toNatClampNeg = (119 + 8 * n1181 + n1184) from nI_clamp (n := (119 + 8 * n1181 + n1184)) (by omega))] at hB
              have hB : Bx B0 D _ [((κ w).2.2.2, .inl (cs 0, 45783, .inl (upd g1196 (119 + 8 * n1181 + n1184) x1209))), (w, .inr (9, [.int f1195_0, .ref f1195_1, .int (nI ((κ w).2.2.1)), .int (nI f1195_3), .int (nI f1195_4), .int f1195_5, .int f1195_6, .int f1195_7, .ref (κ w).2.2.2, .ref f1195_9, .ref f1195_10, .ref f1195_11, .int (nI f1195_12), .int f1195_13, .int f1195_14, .int f1195_15, .int f1195_16, .ref f1195_17]))] [(κ w).2.2.2] _ _ := hB
              have z1210 := DOK.sf q1196 (k := (119 + 8 * n1181 + n1184)) (by omega) (x := x1209)
              refine lv_iload hx hb dX9_cut_112 (lv_at hl 0 rfl) ?_
              have hT : WT B0 D cs T κ _ := hT.close hB ⟨⟨0, _, rfl, ok_24 t1195_8.1 ⟨_, rfl, z1210⟩⟩, trivial⟩
              have hF : Fr B0 [12, 18] κ H0 _ := hF.close hB (fa_c (by simp [t1195_8.2]) fa_n)
              have hL : OkL B0 _ := hB.2.2.2.2.2
              have hP : va_P D vwCl [((κ w).2.2.2, .inl (cs 0, 45783, .inl (upd g1196 (119 + 8 * n1181 + n1184) x1209))), (w, .inr (9, [.int f1195_0, .ref f1195_1, .int (nI ((κ w).2.2.1)), .int (nI f1195_3), .int (nI f1195_4), .int f1195_5, .int f1195_6, .int f1195_7, .ref (κ w).2.2.2, .ref f1195_9, .ref f1195_10, .ref f1195_11, .int (nI f1195_12), .int f1195_13, .int f1195_14, .int f1195_15, .int f1195_16, .ref f1195_17]))] _ := hB.1
              exact en_i hx hb hr hlocks hL rfl (Nat.zero_le _) (Nat.zero_le _) dX9_cut_114 (⟨hT, hF, Or.inr rfl⟩)
            · refine lv_aload_n hx hb dX9_cut_87 rfl (lv_at hl 2 rfl) ?_
              refine va_get (D := D) (ci := 9) (v := .ref (κ w).2.2.2) (C := RX9) (T := TX9) (N := 18) hx hb hts iX9_cut_9 hown hN.1 hP 1 rfl rfl 8 (by decide) (hts _ mX9_cut_2) (fun _ h9 => h9) rfl dX9_cut_88 ?_
              refine lv_iload hx hb dX9_cut_91 (lv_at hl 1 rfl) ?_
              refine ld_i (v := (g1196 (119 + 8 * n1181 + n1184))) hx hb hN hP 0 rfl (vp_in_nI (n := (119 + 8 * n1181 + n1184)) (N := 45783) (by omega) (by omega)) (by rw [(show ((nI (119 + 8 * n1181 + n1184)) : Int32).toNatClampNeg = (119 + 8 * n1181 + n1184) from nI_clamp (n := (119 + 8 * n1181 + n1184)) (by omega))]) dX9_cut_93 ?_
              refine gn_i (fun x1211 => ?_)
              refine va_mabs hx hb (hml.trans hl.1.symm) hown (hts _ mX9_cut_3) (hts _ mX9_cut_4) (hts _ mX9_cut_5) (hts _ mX9_cut_6) (Nat.le_of_ble_eq_true rfl) (Nat.le_of_ble_eq_true rfl) (Nat.zero_le _) (Nat.zero_le _) dX9_cut_94 ?_
              refine gn_i (fun x1212 => ?_)
              refine lv_ineg hx hb dX9_cut_97 ?_
              refine gn_i (fun x1213 => ?_)
              refine lv_goto (tgt := 111) hx hb dX9_cut_98 (by decide) ?_
              have hB : Bx B0 D _ [((κ w).2.2.2, .inl (cs 0, 45783, .inl g1196)), (w, .inr (9, [.int f1195_0, .ref f1195_1, .int (nI ((κ w).2.2.1)), .int (nI f1195_3), .int (nI f1195_4), .int f1195_5, .int f1195_6, .int f1195_7, .ref (κ w).2.2.2, .ref f1195_9, .ref f1195_10, .ref f1195_11, .int (nI f1195_12), .int f1195_13, .int f1195_14, .int f1195_15, .int f1195_16, .ref f1195_17]))] [] _ _ := Bx.of (fun a => (κ a).1) hL hP (fa_c hb1196 (fa_c hb1195 fa_n)) (by simp only [List.map_cons, List.map_nil, t1195_8.1, hw.1]; decide)
              refine b_i hx hb hN hB 0 rfl (vp_in_nI (n := (119 + 8 * n1181 + n1184)) (N := 45783) (by omega) (by omega)) (.inl rfl) dX9_cut_111 (fun H locs hB => ?_)
              rw [(show ((nI (119 + 8 * n1181 + n1184)) : Int32).toNatClampNeg = (119 + 8 * n1181 + n1184) from nI_clamp (n := (119 + 8 * n1181 + n1184)) (by omega))] at hB
              have hB : Bx B0 D _ [((κ w).2.2.2, .inl (cs 0, 45783, .inl (upd g1196 (119 + 8 * n1181 + n1184) x1213))), (w, .inr (9, [.int f1195_0, .ref f1195_1, .int (nI ((κ w).2.2.1)), .int (nI f1195_3), .int (nI f1195_4), .int f1195_5, .int f1195_6, .int f1195_7, .ref (κ w).2.2.2, .ref f1195_9, .ref f1195_10, .ref f1195_11, .int (nI f1195_12), .int f1195_13, .int f1195_14, .int f1195_15, .int f1195_16, .ref f1195_17]))] [(κ w).2.2.2] _ _ := hB
              have z1214 := DOK.sf q1196 (k := (119 + 8 * n1181 + n1184)) (by omega) (x := x1213)
              refine lv_iload hx hb dX9_cut_112 (lv_at hl 0 rfl) ?_
              have hT : WT B0 D cs T κ _ := hT.close hB ⟨⟨0, _, rfl, ok_24 t1195_8.1 ⟨_, rfl, z1214⟩⟩, trivial⟩
              have hF : Fr B0 [12, 18] κ H0 _ := hF.close hB (fa_c (by simp [t1195_8.2]) fa_n)
              have hL : OkL B0 _ := hB.2.2.2.2.2
              have hP : va_P D vwCl [((κ w).2.2.2, .inl (cs 0, 45783, .inl (upd g1196 (119 + 8 * n1181 + n1184) x1213))), (w, .inr (9, [.int f1195_0, .ref f1195_1, .int (nI ((κ w).2.2.1)), .int (nI f1195_3), .int (nI f1195_4), .int f1195_5, .int f1195_6, .int f1195_7, .ref (κ w).2.2.2, .ref f1195_9, .ref f1195_10, .ref f1195_11, .int (nI f1195_12), .int f1195_13, .int f1195_14, .int f1195_15, .int f1195_16, .ref f1195_17]))] _ := hB.1
              exact en_i hx hb hr hlocks hL rfl (Nat.zero_le _) (Nat.zero_le _) dX9_cut_114 (⟨hT, hF, Or.inr rfl⟩)
      · refine lv_iconst (v := 1) hx hb dX9_cut_35 (by decide) ?_
        refine lv_goto (tgt := 40) hx hb dX9_cut_36 (by decide) ?_
        refine lv_iconst (v := 2) hx hb dX9_cut_40 (by decide) ?_
        refine cv_i (As := [.int 1, .int 2]) (rest := []) (b := w) ⟨hx, hb, hml, hown, hts⟩ (c_X9_fails hT (w := w) hw (x := 1) (z := 2) ((by decide))) (cwV 2 hts gX9_cut_X9_fails rfl rfl rfl hdX9_fails_v ⟨Nat.le_of_ble_eq_true rfl, Nat.le_of_ble_eq_true rfl⟩) hN hE hL (rcv10 hN hT hw.1) rfl rfl hl.1 (Nat.le_of_ble_eq_true rfl) dX9_cut_41 (Nat.zero_le _) (Nat.zero_le _) (fun r1215 H1 locs hL hqr1215 => ?_)
        obtain ⟨hT1, hF1, hqr1215⟩ := hqr1215
        have hP : va_P D vwCl [((κ w).2.2.2, .inl (cs 0, 45783, .inl g1188))] _ := hF1.hP (hP.sub [0] rfl) (fa_c ⟨by rw [t1186_8.1]; decide, by rw [t1186_8.2]; first | decide | (simp; done) | (simp; omega)⟩ fa_n)
        have hF := hF.tr (hF1.mono (by simp))
        have hT := hT1
        rcases hqr1215 with rfl | ⟨rfl, e1216⟩
        · refine lv_if_eq (tgt := 49) hx hb dX9_cut_44 (by decide) (fun c9 => absurd c9 (by decide)) (fun _ => ?_)
          refine lv_iconst (v := 0) hx hb dX9_cut_47 (by decide) ?_
          exact en_i hx hb hr hlocks hL rfl (Nat.zero_le _) (Nat.zero_le _) dX9_cut_48 (⟨hT, hF, Or.inl rfl⟩)
        · exact absurd e1216 (by decide)
theorem mX9_lead_1 : (.fieldLink RX9 40 "OneBeatModel" "thrown" "I" : Cond) ∈ wsX9_lead := List.mem_of_getElem? (i := 1) (by decide +kernel)
theorem iX9_lead_9 : ∀ w ∈ wsX90, w ∈ wsX9_lead := fun w h => List.mem_of_mem_drop (List.mem_of_mem_take ((show wsX90 = (wsX9_lead.drop 31).take 18 by decide +kernel) ▸ h))
theorem mX9_lead_2 : (.fieldLink RX9 18 "OneBeatModel" "data" "[I" : Cond) ∈ wsX9_lead := List.mem_of_getElem? (i := 2) (by decide +kernel)
set_option maxHeartbeats 4000000 in
set_option maxRecDepth 100000 in
theorem c_X9_lead {l : Launch} {D : va_G} {cs : Nat → ClassId} {B0 T : Nat} {κ : KM} {H0 : Heap} (hT : WT B0 D cs T κ H0) {w : Nat} (hw : T2 κ w 10 12) {x : Int32} : KC l yX9_lead wsX9_lead 2 44 0 0 D cs B0 H0 [.ref w, .int x] (Qi (fun _ H => WT B0 D cs T κ H ∧ Fr B0 [12, 18] κ H0 H)) := by
  refine KC.of cX9_lead 4 (some .int) (by decide) rfl (Nat.le_of_ble_eq_true rfl) ?_
  intro p e s m below meth c ls hx hb hr hml hown hts hlocks hin hN hE hH0 hl
  have hown : s.vm.findClass RX9 = some m.cls := hown
  have hl : lv_has ls 4 [(0, .ref w), (1, .int x)] := hl
  have hL : OkL B0 [] := OkL.nil
  have hF : Fr B0 [12, 18] κ H0 H0 := Fr.rf
  refine lv_aload_n hx hb dX9_lead_0 rfl (lv_at hl 0 rfl) ?_
  refine lv_iconst (v := 0) hx hb dX9_lead_1 (by decide) ?_
  obtain ⟨hb1217, e1217, hat1217, hk1217⟩ := hT.o10 hw.1
  obtain ⟨f1217_0, f1217_1, f1217_3, f1217_4, f1217_5, f1217_6, f1217_7, f1217_9, f1217_10, f1217_11, f1217_12, f1217_13, f1217_14, f1217_15, f1217_16, f1217_17, rfl, c1217_2, c1217_3, c1217_4, c1217_12, t1217_1, t1217_8, t1217_9, c1217_sd, t1217_10, t1217_11, t1217_17⟩ := hk1217
  have hP : va_P D vwCl [(w, .inr (9, [.int f1217_0, .ref f1217_1, .int (nI ((κ w).2.2.1)), .int (nI f1217_3), .int (nI f1217_4), .int f1217_5, .int f1217_6, .int f1217_7, .ref (κ w).2.2.2, .ref f1217_9, .ref f1217_10, .ref f1217_11, .int (nI f1217_12), .int f1217_13, .int f1217_14, .int f1217_15, .int f1217_16, .ref f1217_17]))] _ := va_P.cons hat1217 va_P.nil
  have hB : Bx B0 D _ [(w, .inr (9, [.int f1217_0, .ref f1217_1, .int (nI ((κ w).2.2.1)), .int (nI f1217_3), .int (nI f1217_4), .int f1217_5, .int f1217_6, .int f1217_7, .ref (κ w).2.2.2, .ref f1217_9, .ref f1217_10, .ref f1217_11, .int (nI f1217_12), .int f1217_13, .int f1217_14, .int f1217_15, .int f1217_16, .ref f1217_17]))] [] _ _ := Bx.of (fun a => (κ a).1) hL hP (fa_c hb1217 fa_n) (by simp only [List.map_cons, List.map_nil, hw.1]; decide)
  refine b_put (D := D) (ci := 9) (v := .int 0) (ty := .int) (C := RX9) (T := TX9) (N := 18) hx hb hts iX9_lead_9 tyX9 tyX9_ok nmX9 hown hN hB 0 rfl rfl 0 (by decide) (hts _ mX9_lead_1) (fun _ h9 => h9) rfl (by decide +kernel) rfl rfl (Nat.le_of_ble_eq_true rfl) (.inl rfl) dX9_lead_2 (fun H locs hB => ?_)
  have hB : Bx B0 D _ [(w, .inr (9, [.int 0, .ref f1217_1, .int (nI ((κ w).2.2.1)), .int (nI f1217_3), .int (nI f1217_4), .int f1217_5, .int f1217_6, .int f1217_7, .ref (κ w).2.2.2, .ref f1217_9, .ref f1217_10, .ref f1217_11, .int (nI f1217_12), .int f1217_13, .int f1217_14, .int f1217_15, .int f1217_16, .ref f1217_17]))] [w] _ _ := hB
  refine lv_aload_n hx hb dX9_lead_5 rfl (lv_at hl 0 rfl) ?_
  refine lv_iload_n hx hb dX9_lead_6 rfl (lv_at hl 1 rfl) ?_
  have hT : WT B0 D cs T κ _ := hT.close hB ⟨⟨0, _, rfl, ok_10 hw.1 ⟨_, _, _, _, _, _, _, _, _, _, _, _, _, _, _, _, rfl, (by omega), (by omega), (by omega), (by omega), t1217_1, t1217_8, t1217_9, c1217_sd, t1217_10, t1217_11, t1217_17⟩⟩, trivial⟩
  have hF : Fr B0 [12, 18] κ H0 _ := hF.close hB (fa_c (by simp [hw.2]) fa_n)
  have hL : OkL B0 _ := hB.2.2.2.2.2
  have hP : va_P D vwCl [(w, .inr (9, [.int 0, .ref f1217_1, .int (nI ((κ w).2.2.1)), .int (nI f1217_3), .int (nI f1217_4), .int f1217_5, .int f1217_6, .int f1217_7, .ref (κ w).2.2.2, .ref f1217_9, .ref f1217_10, .ref f1217_11, .int (nI f1217_12), .int f1217_13, .int f1217_14, .int f1217_15, .int f1217_16, .ref f1217_17]))] _ := hB.1
  refine cv_i (As := [.int x]) (rest := []) (b := w) ⟨hx, hb, hml, hown, hts⟩ (c_X9_noPlayer hT (w := w) hw (x := x)) (cwV 1 hts gX9_lead_X9_noPlayer rfl rfl rfl hdX9_noPlayer_v ⟨Nat.le_of_ble_eq_true rfl, Nat.le_of_ble_eq_true rfl⟩) hN hE hL (rcv10 hN hT hw.1) rfl rfl hl.1 (Nat.le_of_ble_eq_true rfl) dX9_lead_7 (Nat.zero_le _) (Nat.zero_le _) (fun r1218 H1 locs hL hqr1218 => ?_)
  obtain ⟨hT1, hF1, hqr1218⟩ := hqr1218
  have hF := hF.tr (hF1.mono (by simp))
  have hT := hT1
  rcases hqr1218 with rfl | ⟨rfl, n1219, h1220, rfl⟩
  · refine lv_if_eq (tgt := 15) hx hb dX9_lead_10 (by decide) (fun c9 => absurd c9 (by decide)) (fun _ => ?_)
    refine lv_iconst (v := 0) hx hb dX9_lead_13 (by decide) ?_
    exact en_i hx hb hr hlocks hL rfl (Nat.zero_le _) (Nat.zero_le _) dX9_lead_14 (⟨hT, hF⟩)
  · refine lv_if_eq (tgt := 15) hx hb dX9_lead_10 (by decide) (fun _ => ?_) (fun c9 => absurd (by decide) c9)
    refine lv_aload_n hx hb dX9_lead_15 rfl (lv_at hl 0 rfl) ?_
    refine cv_v (As := []) (rest := []) (b := w) ⟨hx, hb, hml, hown, hts⟩ (c_X9_remember hT (w := w) hw) (cwV 0 hts gX9_lead_X9_remember rfl rfl rfl hdX9_remember_v ⟨Nat.le_of_ble_eq_true rfl, Nat.le_of_ble_eq_true rfl⟩) hN hE hL (rcv10 hN hT hw.1) rfl rfl hl.1 (Nat.le_of_ble_eq_true rfl) dX9_lead_16 (Nat.zero_le _) (Nat.zero_le _) (fun H1 locs hL hqr1221 => ?_)
    obtain ⟨hT1, hF1⟩ := hqr1221
    have hF := hF.tr (hF1.mono (by simp))
    have hT := hT1
    refine lv_aload_n hx hb dX9_lead_19 rfl (lv_at hl 0 rfl) ?_
    obtain ⟨hb1222, e1222, hat1222, hk1222⟩ := hT.o10 hw.1
    obtain ⟨f1222_0, f1222_1, f1222_3, f1222_4, f1222_5, f1222_6, f1222_7, f1222_9, f1222_10, f1222_11, f1222_12, f1222_13, f1222_14, f1222_15, f1222_16, f1222_17, rfl, c1222_2, c1222_3, c1222_4, c1222_12, t1222_1, t1222_8, t1222_9, c1222_sd, t1222_10, t1222_11, t1222_17⟩ := hk1222
    have hP : va_P D vwCl [(w, .inr (9, [.int f1222_0, .ref f1222_1, .int (nI ((κ w).2.2.1)), .int (nI f1222_3), .int (nI f1222_4), .int f1222_5, .int f1222_6, .int f1222_7, .ref (κ w).2.2.2, .ref f1222_9, .ref f1222_10, .ref f1222_11, .int (nI f1222_12), .int f1222_13, .int f1222_14, .int f1222_15, .int f1222_16, .ref f1222_17]))] _ := va_P.cons hat1222 va_P.nil
    refine va_get (D := D) (ci := 9) (v := .ref (κ w).2.2.2) (C := RX9) (T := TX9) (N := 18) hx hb hts iX9_lead_9 hown hN.1 hP 0 rfl rfl 8 (by decide) (hts _ mX9_lead_2) (fun _ h9 => h9) rfl dX9_lead_20 ?_
    refine lv_iconst (v := 2) hx hb dX9_lead_23 (by decide) ?_
    obtain ⟨hb1223, e1223, hat1223, hk1223⟩ := hT.o24 t1222_8.1
    obtain ⟨g1223, rfl, q1223⟩ := hk1223
    have hP : va_P D vwCl [((κ w).2.2.2, .inl (cs 0, 45783, .inl g1223)), (w, .inr (9, [.int f1222_0, .ref f1222_1, .int (nI ((κ w).2.2.1)), .int (nI f1222_3), .int (nI f1222_4), .int f1222_5, .int f1222_6, .int f1222_7, .ref (κ w).2.2.2, .ref f1222_9, .ref f1222_10, .ref f1222_11, .int (nI f1222_12), .int f1222_13, .int f1222_14, .int f1222_15, .int f1222_16, .ref f1222_17]))] _ := va_P.cons hat1223 hP
    refine ld_i (v := (g1223 2)) hx hb hN hP 0 rfl (vp_in_nI (n := 2) (N := 45783) (by omega) (by omega)) (by rw [(show (2 : Int32).toNatClampNeg = 2 from nI_clamp (n := 2) (by omega))]) dX9_lead_24 ?_
    obtain ⟨n1224, hn1224, en1224⟩ := q1223.2.2.1
    refine tp_i (nI n1224) en1224 ?_
    refine lv_istore_n (lv' := [(2, .int (nI n1224)), (0, .ref w), (1, .int (nI n1219))]) hx hb dX9_lead_25 rfl hl (by decide) rfl (fun ls hl => ?_)
    refine lv_aload_n hx hb dX9_lead_26 rfl (lv_at hl 1 rfl) ?_
    refine va_get (D := D) (ci := 9) (v := .ref (κ w).2.2.2) (C := RX9) (T := TX9) (N := 18) hx hb hts iX9_lead_9 hown hN.1 hP 1 rfl rfl 8 (by decide) (hts _ mX9_lead_2) (fun _ h9 => h9) rfl dX9_lead_27 ?_
    refine lv_iconst (v := 2) hx hb dX9_lead_30 (by decide) ?_
    refine lv_iload_n hx hb dX9_lead_31 rfl (lv_at hl 2 rfl) ?_
    have hB : Bx B0 D _ [((κ w).2.2.2, .inl (cs 0, 45783, .inl g1223)), (w, .inr (9, [.int f1222_0, .ref f1222_1, .int (nI ((κ w).2.2.1)), .int (nI f1222_3), .int (nI f1222_4), .int f1222_5, .int f1222_6, .int f1222_7, .ref (κ w).2.2.2, .ref f1222_9, .ref f1222_10, .ref f1222_11, .int (nI f1222_12), .int f1222_13, .int f1222_14, .int f1222_15, .int f1222_16, .ref f1222_17]))] [] _ _ := Bx.of (fun a => (κ a).1) hL hP (fa_c hb1223 (fa_c hb1222 fa_n)) (by simp only [List.map_cons, List.map_nil, t1222_8.1, hw.1]; decide)
    refine b_i hx hb hN hB 0 rfl (vp_in_nI (n := 2) (N := 45783) (by omega) (by omega)) (.inl rfl) dX9_lead_32 (fun H locs hB => ?_)
    rw [(show (2 : Int32).toNatClampNeg = 2 from nI_clamp (n := 2) (by omega))] at hB
    have hB : Bx B0 D _ [((κ w).2.2.2, .inl (cs 0, 45783, .inl (upd g1223 2 (nI n1219)))), (w, .inr (9, [.int f1222_0, .ref f1222_1, .int (nI ((κ w).2.2.1)), .int (nI f1222_3), .int (nI f1222_4), .int f1222_5, .int f1222_6, .int f1222_7, .ref (κ w).2.2.2, .ref f1222_9, .ref f1222_10, .ref f1222_11, .int (nI f1222_12), .int f1222_13, .int f1222_14, .int f1222_15, .int f1222_16, .ref f1222_17]))] [(κ w).2.2.2] _ _ := hB
    have z1225 := DOK.s2 q1223 (n := n1219) (by omega)
    refine lv_iconst (v := 0) hx hb dX9_lead_33 (by decide) ?_
    refine lv_istore_n (lv' := [(3, .int 0), (2, .int (nI n1224)), (0, .ref w), (1, .int (nI n1219))]) hx hb dX9_lead_34 rfl hl (by decide) rfl (fun ls hl => ?_)
    have hT : WT B0 D cs T κ _ := hT.close hB ⟨⟨0, _, rfl, ok_24 t1222_8.1 ⟨_, rfl, z1225⟩⟩, trivial⟩
    have hF : Fr B0 [12, 18] κ H0 _ := hF.close hB (fa_c (by simp [t1222_8.2]) fa_n)
    have hL : OkL B0 _ := hB.2.2.2.2.2
    have hP : va_P D vwCl [((κ w).2.2.2, .inl (cs 0, 45783, .inl (upd g1223 2 (nI n1219)))), (w, .inr (9, [.int f1222_0, .ref f1222_1, .int (nI ((κ w).2.2.1)), .int (nI f1222_3), .int (nI f1222_4), .int f1222_5, .int f1222_6, .int f1222_7, .ref (κ w).2.2.2, .ref f1222_9, .ref f1222_10, .ref f1222_11, .int (nI f1222_12), .int f1222_13, .int f1222_14, .int f1222_15, .int f1222_16, .ref f1222_17]))] _ := hB.1
    refine lp_m (α := Nat × Int32) (nL := 4) (fun a9 => 8 - a9.1) (fun a9 H9 l9 => (a9.1 ≤ 8) ∧ (WT B0 D cs T κ H9) ∧ (Fr B0 [12, 18] κ H0 H9) ∧ (OkL B0 l9)) (fun a9 => [(3, .int (nI a9.1)), (2, .int a9.2), (0, .ref w)]) ?_ (0, (nI n1224)) _ _ _ ⟨(by show (0) ≤ 8; omega), hT, hF, hL⟩ (lv_sub hl [0, 1, 2] rfl)
    rintro ⟨p, z⟩ H locs ls ih1226 ⟨hp, hT, hF, hL⟩ hl
    have hl : lv_has ls 4 [(3, .int (nI p)), (2, .int z), (0, .ref w)] := hl
    have hp : p ≤ 8 := hp
    refine lv_iload_n hx hb dX9_lead_35 rfl (lv_at hl 0 rfl) ?_
    refine lv_aload_n hx hb dX9_lead_36 rfl (lv_at hl 2 rfl) ?_
    obtain ⟨hb1227, e1227, hat1227, hk1227⟩ := hT.o10 hw.1
    obtain ⟨f1227_0, f1227_1, f1227_3, f1227_4, f1227_5, f1227_6, f1227_7, f1227_9, f1227_10, f1227_11, f1227_12, f1227_13, f1227_14, f1227_15, f1227_16, f1227_17, rfl, c1227_2, c1227_3, c1227_4, c1227_12, t1227_1, t1227_8, t1227_9, c1227_sd, t1227_10, t1227_11, t1227_17⟩ := hk1227
    have hP : va_P D vwCl [(w, .inr (9, [.int f1227_0, .ref f1227_1, .int (nI ((κ w).2.2.1)), .int (nI f1227_3), .int (nI f1227_4), .int f1227_5, .int f1227_6, .int f1227_7, .ref (κ w).2.2.2, .ref f1227_9, .ref f1227_10, .ref f1227_11, .int (nI f1227_12), .int f1227_13, .int f1227_14, .int f1227_15, .int f1227_16, .ref f1227_17]))] _ := va_P.cons hat1227 va_P.nil
    refine va_get (D := D) (ci := 9) (v := .ref (κ w).2.2.2) (C := RX9) (T := TX9) (N := 18) hx hb hts iX9_lead_9 hown hN.1 hP 0 rfl rfl 8 (by decide) (hts _ mX9_lead_2) (fun _ h9 => h9) rfl dX9_lead_37 ?_
    refine lv_iconst (v := 0) hx hb dX9_lead_40 (by decide) ?_
    obtain ⟨hb1228, e1228, hat1228, hk1228⟩ := hT.o24 t1227_8.1
    obtain ⟨g1228, rfl, q1228⟩ := hk1228
    have hP : va_P D vwCl [((κ w).2.2.2, .inl (cs 0, 45783, .inl g1228)), (w, .inr (9, [.int f1227_0, .ref f1227_1, .int (nI ((κ w).2.2.1)), .int (nI f1227_3), .int (nI f1227_4), .int f1227_5, .int f1227_6, .int f1227_7, .ref (κ w).2.2.2, .ref f1227_9, .ref f1227_10, .ref f1227_11, .int (nI f1227_12), .int f1227_13, .int f1227_14, .int f1227_15, .int f1227_16, .ref f1227_17]))] _ := va_P.cons hat1228 hP
    refine ld_i (v := (g1228 0)) hx hb hN hP 0 rfl (vp_in_nI (n := 0) (N := 45783) (by omega) (by omega)) (by rw [(show (0 : Int32).toNatClampNeg = 0 from nI_clamp (n := 0) (by omega))]) dX9_lead_41 ?_
    obtain ⟨n1229, hn1229, en1229⟩ := q1228.1
    refine tp_i (nI n1229) en1229 ?_
    refine lv_icmp_ge (tgt := 58) hx hb dX9_lead_42 (by decide) (fun c1230 => ?_) (fun c1230 => ?_)
    · have c1230 : n1229 ≤ p := (nI_leI (a := n1229) (b := p) (by omega) (by omega)).mp c1230
      refine lv_iload_n hx hb dX9_lead_58 rfl (lv_at hl 1 rfl) ?_
      exact en_i hx hb hr hlocks hL rfl (Nat.zero_le _) (Nat.zero_le _) dX9_lead_59 (⟨hT, hF⟩)
    · have c1230 : ¬ n1229 ≤ p := fun h9 => c1230 ((nI_leI (a := n1229) (b := p) (by omega) (by omega)).mpr h9)
      refine lv_aload_n hx hb dX9_lead_45 rfl (lv_at hl 2 rfl) ?_
      refine lv_iload_n hx hb dX9_lead_46 rfl (lv_at hl 0 rfl) ?_
      refine lv_iconst (v := 3) hx hb dX9_lead_47 (by decide) ?_
      refine lv_iconst (v := 0) hx hb dX9_lead_48 (by decide) ?_
      refine cv_v (As := [.int (nI p), .int 3, .int 0]) (rest := []) (b := w) ⟨hx, hb, hml, hown, hts⟩ (c_X9_set hT (w := w) hw (n := p) (k := 3) (x := 0) (by first | omega | decide | assumption) (by first | omega | decide | assumption)) (cwV 3 hts gX9_lead_X9_set rfl rfl rfl hdX9_set_v ⟨Nat.le_of_ble_eq_true rfl, Nat.le_of_ble_eq_true rfl⟩) hN hE hL (rcv10 hN hT hw.1) rfl rfl hl.1 (Nat.le_of_ble_eq_true rfl) dX9_lead_49 (Nat.zero_le _) (Nat.zero_le _) (fun H1 locs hL hqr1231 => ?_)
      obtain ⟨hT1, hF1⟩ := hqr1231
      have hP : va_P D vwCl [(w, .inr (9, [.int f1227_0, .ref f1227_1, .int (nI ((κ w).2.2.1)), .int (nI f1227_3), .int (nI f1227_4), .int f1227_5, .int f1227_6, .int f1227_7, .ref (κ w).2.2.2, .ref f1227_9, .ref f1227_10, .ref f1227_11, .int (nI f1227_12), .int f1227_13, .int f1227_14, .int f1227_15, .int f1227_16, .ref f1227_17]))] _ := hF1.hP (hP.sub [1] rfl) (fa_c ⟨by rw [hw.1]; decide, by rw [hw.2]; first | decide | (simp; done) | (simp; omega)⟩ fa_n)
      have hF := hF.tr (hF1.mono (by simp))
      have hT := hT1
      refine lv_iinc (v := (nI (p + 1))) (lv' := [(3, .int (nI (p + 1))), (2, .int z), (0, .ref w)]) hx hb dX9_lead_52 hl (k := 0) rfl (nI_add _ 1) (by decide) rfl (fun ls hl => ?_)
      refine lv_goto (tgt := 35) hx hb dX9_lead_55 (by decide) ?_
      exact ih1226 ((p + 1), z) _ _ _ (by show 8 - ((p + 1)) < 8 - p; omega) ⟨(by show ((p + 1)) ≤ 8; omega), hT, hF, hL⟩ (lv_sub hl [0, 1, 2] rfl)
theorem mX9_undo_1 : (.fieldLink RX9 40 "OneBeatModel" "thrown" "I" : Cond) ∈ wsX9_undo := List.mem_of_getElem? (i := 1) (by decide +kernel)
theorem iX9_undo_9 : ∀ w ∈ wsX90, w ∈ wsX9_undo := fun w h => List.mem_of_mem_drop (List.mem_of_mem_take ((show wsX90 = (wsX9_undo.drop 9).take 18 by decide +kernel) ▸ h))
theorem mX9_undo_2 : (.fieldLink RX9 302 "OneBeatModel" "undoDepth" "I" : Cond) ∈ wsX9_undo := List.mem_of_getElem? (i := 2) (by decide +kernel)
theorem mX9_undo_3 : (.fieldLink RX9 29 "OneBeatModel" "history" "[[I" : Cond) ∈ wsX9_undo := List.mem_of_getElem? (i := 3) (by decide +kernel)
theorem mX9_undo_4 : (.fieldLink RX9 18 "OneBeatModel" "data" "[I" : Cond) ∈ wsX9_undo := List.mem_of_getElem? (i := 4) (by decide +kernel)
set_option maxHeartbeats 4000000 in
set_option maxRecDepth 100000 in
theorem c_X9_undo {l : Launch} {D : va_G} {cs : Nat → ClassId} {B0 T : Nat} {κ : KM} {H0 : Heap} (hT : WT B0 D cs T κ H0) {w : Nat} (hw : T2 κ w 10 12) : KC l yX9_undo wsX9_undo 1 23 0 0 D cs B0 H0 [.ref w] (Qi (fun _ H => WT B0 D cs T κ H ∧ Fr B0 [12, 18] κ H0 H)) := by
  refine KC.of cX9_undo 1 (some .int) (by decide) rfl (Nat.le_of_ble_eq_true rfl) ?_
  intro p e s m below meth c ls hx hb hr hml hown hts hlocks hin hN hE hH0 hl
  have hown : s.vm.findClass RX9 = some m.cls := hown
  have hl : lv_has ls 1 [(0, .ref w)] := hl
  have hL : OkL B0 [] := OkL.nil
  have hF : Fr B0 [12, 18] κ H0 H0 := Fr.rf
  refine lv_aload_n hx hb dX9_undo_0 rfl (lv_at hl 0 rfl) ?_
  refine lv_iconst (v := 0) hx hb dX9_undo_1 (by decide) ?_
  obtain ⟨hb1232, e1232, hat1232, hk1232⟩ := hT.o10 hw.1
  obtain ⟨f1232_0, f1232_1, f1232_3, f1232_4, f1232_5, f1232_6, f1232_7, f1232_9, f1232_10, f1232_11, f1232_12, f1232_13, f1232_14, f1232_15, f1232_16, f1232_17, rfl, c1232_2, c1232_3, c1232_4, c1232_12, t1232_1, t1232_8, t1232_9, c1232_sd, t1232_10, t1232_11, t1232_17⟩ := hk1232
  have hP : va_P D vwCl [(w, .inr (9, [.int f1232_0, .ref f1232_1, .int (nI ((κ w).2.2.1)), .int (nI f1232_3), .int (nI f1232_4), .int f1232_5, .int f1232_6, .int f1232_7, .ref (κ w).2.2.2, .ref f1232_9, .ref f1232_10, .ref f1232_11, .int (nI f1232_12), .int f1232_13, .int f1232_14, .int f1232_15, .int f1232_16, .ref f1232_17]))] _ := va_P.cons hat1232 va_P.nil
  have hB : Bx B0 D _ [(w, .inr (9, [.int f1232_0, .ref f1232_1, .int (nI ((κ w).2.2.1)), .int (nI f1232_3), .int (nI f1232_4), .int f1232_5, .int f1232_6, .int f1232_7, .ref (κ w).2.2.2, .ref f1232_9, .ref f1232_10, .ref f1232_11, .int (nI f1232_12), .int f1232_13, .int f1232_14, .int f1232_15, .int f1232_16, .ref f1232_17]))] [] _ _ := Bx.of (fun a => (κ a).1) hL hP (fa_c hb1232 fa_n) (by simp only [List.map_cons, List.map_nil, hw.1]; decide)
  refine b_put (D := D) (ci := 9) (v := .int 0) (ty := .int) (C := RX9) (T := TX9) (N := 18) hx hb hts iX9_undo_9 tyX9 tyX9_ok nmX9 hown hN hB 0 rfl rfl 0 (by decide) (hts _ mX9_undo_1) (fun _ h9 => h9) rfl (by decide +kernel) rfl rfl (Nat.le_of_ble_eq_true rfl) (.inl rfl) dX9_undo_2 (fun H locs hB => ?_)
  have hB : Bx B0 D _ [(w, .inr (9, [.int 0, .ref f1232_1, .int (nI ((κ w).2.2.1)), .int (nI f1232_3), .int (nI f1232_4), .int f1232_5, .int f1232_6, .int f1232_7, .ref (κ w).2.2.2, .ref f1232_9, .ref f1232_10, .ref f1232_11, .int (nI f1232_12), .int f1232_13, .int f1232_14, .int f1232_15, .int f1232_16, .ref f1232_17]))] [w] _ _ := hB
  refine lv_aload_n hx hb dX9_undo_5 rfl (lv_at hl 0 rfl) ?_
  refine va_get (D := D) (ci := 9) (v := .int (nI f1232_12)) (C := RX9) (T := TX9) (N := 18) hx hb hts iX9_undo_9 hown hN.1 hB.1 0 rfl rfl 12 (by decide) (hts _ mX9_undo_2) (fun _ h9 => h9) rfl dX9_undo_6 ?_
  refine lv_if_ne (tgt := 14) hx hb dX9_undo_9 (by decide) (fun c1233 => ?_) (fun c1233 => ?_)
  · have c1233 : ¬ f1232_12 = 0 := fun h9 => c1233 ((nI_eq (a := f1232_12) (b := 0) (by omega) (by omega)).mpr h9)
    refine lv_aload_n hx hb dX9_undo_14 rfl (lv_at hl 0 rfl) ?_
    refine lv_dup hx hb dX9_undo_15 rfl ?_
    refine va_get (D := D) (ci := 9) (v := .int (nI f1232_12)) (C := RX9) (T := TX9) (N := 18) hx hb hts iX9_undo_9 hown hN.1 hB.1 0 rfl rfl 12 (by decide) (hts _ mX9_undo_2) (fun _ h9 => h9) rfl dX9_undo_16 ?_
    refine lv_iconst (v := 1) hx hb dX9_undo_19 (by decide) ?_
    refine lv_isub hx hb dX9_undo_20 ?_
    refine tp_i (nI (f1232_12 - 1)) (nI_subN (a := f1232_12) (b := 1) (by omega)) ?_
    refine b_put (D := D) (ci := 9) (v := .int (nI (f1232_12 - 1))) (ty := .int) (C := RX9) (T := TX9) (N := 18) hx hb hts iX9_undo_9 tyX9 tyX9_ok nmX9 hown hN hB 0 rfl rfl 12 (by decide) (hts _ mX9_undo_2) (fun _ h9 => h9) rfl (by decide +kernel) rfl rfl (Nat.le_of_ble_eq_true rfl) (.inr ⟨rfl, List.mem_of_getElem? (i := 0) rfl⟩) dX9_undo_21 (fun H locs hB => ?_)
    have hB : Bx B0 D _ [(w, .inr (9, [.int 0, .ref f1232_1, .int (nI ((κ w).2.2.1)), .int (nI f1232_3), .int (nI f1232_4), .int f1232_5, .int f1232_6, .int f1232_7, .ref (κ w).2.2.2, .ref f1232_9, .ref f1232_10, .ref f1232_11, .int (nI (f1232_12 - 1)), .int f1232_13, .int f1232_14, .int f1232_15, .int f1232_16, .ref f1232_17]))] [w] _ _ := hB
    refine lv_aload_n hx hb dX9_undo_24 rfl (lv_at hl 0 rfl) ?_
    refine va_get (D := D) (ci := 9) (v := .ref f1232_11) (C := RX9) (T := TX9) (N := 18) hx hb hts iX9_undo_9 hown hN.1 hB.1 0 rfl rfl 11 (by decide) (hts _ mX9_undo_3) (fun _ h9 => h9) rfl dX9_undo_25 ?_
    refine lv_aload_n hx hb dX9_undo_28 rfl (lv_at hl 0 rfl) ?_
    refine va_get (D := D) (ci := 9) (v := .int (nI (f1232_12 - 1))) (C := RX9) (T := TX9) (N := 18) hx hb hts iX9_undo_9 hown hN.1 hB.1 0 rfl rfl 12 (by decide) (hts _ mX9_undo_2) (fun _ h9 => h9) rfl dX9_undo_29 ?_
    obtain ⟨hb1234, e1234, hat1234, hk1234⟩ := hT.o27 t1232_11.1
    obtain ⟨g1234, rfl, q1234⟩ := hk1234
    have hB : Bx B0 D _ [(w, .inr (9, [.int 0, .ref f1232_1, .int (nI ((κ w).2.2.1)), .int (nI f1232_3), .int (nI f1232_4), .int f1232_5, .int f1232_6, .int f1232_7, .ref (κ w).2.2.2, .ref f1232_9, .ref f1232_10, .ref f1232_11, .int (nI (f1232_12 - 1)), .int f1232_13, .int f1232_14, .int f1232_15, .int f1232_16, .ref f1232_17])), (f1232_11, .inl (cs 6, 8, .inr (.inr (.inr (.inr g1234)))))] [w] _ _ := hB.more hat1234 hb1234 (fa_c (ne_c hw.1 t1232_11.1 (by decide)) fa_n) (fa_c (ne_c hw.1 t1232_11.1 (by decide)) fa_n)
    obtain ⟨a1235, ea1235, ta1235, ua1235⟩ := q1234 ((f1232_12 - 1)) (by omega)
    refine ld_a (v := .ref a1235) hx hb hN hB.1 1 rfl (vp_in_nI (n := (f1232_12 - 1)) (N := 8) (by omega) (by omega)) (by rw [(show ((nI (f1232_12 - 1)) : Int32).toNatClampNeg = (f1232_12 - 1) from nI_clamp (n := (f1232_12 - 1)) (by omega)), ea1235]; rfl) dX9_undo_32 ?_
    refine lv_aload_n hx hb dX9_undo_33 rfl (lv_at hl 0 rfl) ?_
    refine va_get (D := D) (ci := 9) (v := .ref (κ w).2.2.2) (C := RX9) (T := TX9) (N := 18) hx hb hts iX9_undo_9 hown hN.1 hB.1 0 rfl rfl 8 (by decide) (hts _ mX9_undo_4) (fun _ h9 => h9) rfl dX9_undo_34 ?_
    have hT : WT B0 D cs T κ _ := hT.close hB ⟨⟨0, _, rfl, ok_10 hw.1 ⟨_, _, _, _, _, _, _, _, _, _, _, _, _, _, _, _, rfl, (by omega), (by omega), (by omega), (by omega), t1232_1, t1232_8, t1232_9, c1232_sd, t1232_10, t1232_11, t1232_17⟩⟩, trivial⟩
    have hF : Fr B0 [12, 18] κ H0 _ := hF.close hB (fa_c (by simp [hw.2]) fa_n)
    have hL : OkL B0 _ := hB.2.2.2.2.2
    have hP : va_P D vwCl [(w, .inr (9, [.int 0, .ref f1232_1, .int (nI ((κ w).2.2.1)), .int (nI f1232_3), .int (nI f1232_4), .int f1232_5, .int f1232_6, .int f1232_7, .ref (κ w).2.2.2, .ref f1232_9, .ref f1232_10, .ref f1232_11, .int (nI (f1232_12 - 1)), .int f1232_13, .int f1232_14, .int f1232_15, .int f1232_16, .ref f1232_17])), (f1232_11, .inl (cs 6, 8, .inr (.inr (.inr (.inr g1234)))))] _ := hB.1
    refine cs_v (As := [.ref a1235, .ref (κ w).2.2.2]) (rest := []) ⟨hx, hb, hml, hown, hts⟩ (c_X9_copyD hT (a := a1235) ta1235 (b := (κ w).2.2.2) t1232_8 (ne_c ta1235.1 t1232_8.1 (by decide)) (by first | omega | decide | assumption) (by first | omega | decide | assumption)) (va_cwS 2 hts gX9_undo_X9_copy rfl rfl rfl hdX9_copy_o ⟨Nat.le_of_ble_eq_true rfl, Nat.le_of_ble_eq_true rfl⟩) hN hE hL rfl rfl hl.1 (Nat.le_of_ble_eq_true rfl) dX9_undo_37 (Nat.zero_le _) (Nat.zero_le _) (fun H1 locs hL hqr1236 => ?_)
    obtain ⟨hT1, hF1⟩ := hqr1236
    have hP : va_P D vwCl [(w, .inr (9, [.int 0, .ref f1232_1, .int (nI ((κ w).2.2.1)), .int (nI f1232_3), .int (nI f1232_4), .int f1232_5, .int f1232_6, .int f1232_7, .ref (κ w).2.2.2, .ref f1232_9, .ref f1232_10, .ref f1232_11, .int (nI (f1232_12 - 1)), .int f1232_13, .int f1232_14, .int f1232_15, .int f1232_16, .ref f1232_17])), (f1232_11, .inl (cs 6, 8, .inr (.inr (.inr (.inr g1234)))))] _ := hF1.hP (hP.sub [0, 1] rfl) (fa_c ⟨by rw [hw.1]; decide, by rw [hw.2]; first | decide | (simp; done) | (simp; omega)⟩ (fa_c ⟨by rw [t1232_11.1]; decide, by rw [t1232_11.2]; first | decide | (simp; done) | (simp; omega)⟩ fa_n))
    have hF := hF.tr (hF1.mono (by simp))
    have hT := hT1
    refine lv_aload_n hx hb dX9_undo_40 rfl (lv_at hl 0 rfl) ?_
    refine va_get (D := D) (ci := 9) (v := .int (nI (f1232_12 - 1))) (C := RX9) (T := TX9) (N := 18) hx hb hts iX9_undo_9 hown hN.1 hP 0 rfl rfl 12 (by decide) (hts _ mX9_undo_2) (fun _ h9 => h9) rfl dX9_undo_41 ?_
    exact en_i hx hb hr hlocks hL rfl (Nat.zero_le _) (Nat.zero_le _) dX9_undo_44 (⟨hT, hF⟩)
  · have c1233 : f1232_12 = 0 := (nI_eq (a := f1232_12) (b := 0) (by omega) (by omega)).mp c1233
    refine lv_iconst (v := (-1)) hx hb dX9_undo_12 (by decide) ?_
    have hT : WT B0 D cs T κ _ := hT.close hB ⟨⟨0, _, rfl, ok_10 hw.1 ⟨_, _, _, _, _, _, _, _, _, _, _, _, _, _, _, _, rfl, (by omega), (by omega), (by omega), (by omega), t1232_1, t1232_8, t1232_9, c1232_sd, t1232_10, t1232_11, t1232_17⟩⟩, trivial⟩
    have hF : Fr B0 [12, 18] κ H0 _ := hF.close hB (fa_c (by simp [hw.2]) fa_n)
    have hL : OkL B0 _ := hB.2.2.2.2.2
    have hP : va_P D vwCl [(w, .inr (9, [.int 0, .ref f1232_1, .int (nI ((κ w).2.2.1)), .int (nI f1232_3), .int (nI f1232_4), .int f1232_5, .int f1232_6, .int f1232_7, .ref (κ w).2.2.2, .ref f1232_9, .ref f1232_10, .ref f1232_11, .int (nI f1232_12), .int f1232_13, .int f1232_14, .int f1232_15, .int f1232_16, .ref f1232_17]))] _ := hB.1
    exact en_i hx hb hr hlocks hL rfl (Nat.zero_le _) (Nat.zero_le _) dX9_undo_13 (⟨hT, hF⟩)
