set_option maxHeartbeats 4000000 in
set_option maxRecDepth 100000 in
theorem c_X5_readSum_d1 {l : Launch} {D : va_G} {cs : Nat → ClassId} {B0 T : Nat} {κ : KM} {H0 : Heap} (hT : WT B0 D cs T κ H0) {w : Nat} (hw : T2 κ w 6 10) : KC l yX5_readSum wsX5_readSum 17 376 0 0 D cs B0 H0 [.ref w, .int 1] (Qi (fun r H => WT B0 D cs T κ H ∧ Fr B0 [10] κ H0 H ∧ (r = 0 ∨ r = 1))) := by
  refine KC.of cX5_readSum 4 (some .boolean) (by decide) rfl (Nat.le_of_ble_eq_true rfl) ?_
  intro p e s m below meth c ls hx hb hr hml hown hts hlocks hin hN hE hH0 hl
  have hown : s.vm.findClass RX5 = some m.cls := hown
  have hl : lv_has ls 4 [(0, .ref w), (1, .int 1)] := hl
  have hL : OkL B0 [] := OkL.nil
  have hF : Fr B0 [10] κ H0 H0 := Fr.rf
  refine lv_aload_n hx hb dX5_readSum_0 rfl (lv_at hl 0 rfl) ?_
  refine lv_iload_n hx hb dX5_readSum_1 rfl (lv_at hl 1 rfl) ?_
  refine cv_i (As := [.int 1]) (rest := []) (b := w) ⟨hx, hb, hml, hown, hts⟩ (c_X5_readTerm_d1 hT (w := w) hw) (cwV 1 hts gX5_readSum_X5_readTerm rfl rfl rfl hdX5_readTerm_v ⟨Nat.le_of_ble_eq_true rfl, Nat.le_of_ble_eq_true rfl⟩) hN hE hL (rcv6 hN hT hw.1) rfl rfl hl.1 (Nat.le_of_ble_eq_true rfl) dX5_readSum_2 (Nat.zero_le _) (Nat.zero_le _) (fun r1850 H1 locs hL hqr1850 => ?_)
  obtain ⟨hT1, hF1, hqr1850⟩ := hqr1850
  have hF := hF.tr (hF1.mono (by simp))
  have hT := hT1
  rcases hqr1850 with rfl | rfl
  · refine lv_if_ne (tgt := 10) hx hb dX5_readSum_5 (by decide) (fun c9 => absurd (by decide) c9) (fun _ => ?_)
    refine lv_iconst (v := 0) hx hb dX5_readSum_8 (by decide) ?_
    exact en_i hx hb hr hlocks hL rfl (Nat.zero_le _) (Nat.zero_le _) dX5_readSum_9 (⟨hT, hF, Or.inl rfl⟩)
  · refine lv_if_ne (tgt := 10) hx hb dX5_readSum_5 (by decide) (fun _ => ?_) (fun c9 => absurd c9 (by decide))
    refine lv_iconst (v := 0) hx hb dX5_readSum_10 (by decide) ?_
    refine lv_istore_n (lv' := [(2, .int 0), (0, .ref w), (1, .int 1)]) hx hb dX5_readSum_11 rfl hl (by decide) rfl (fun ls hl => ?_)
    refine lp_m (α := Nat) (nL := 4) (fun a9 => 600 - a9) (fun a9 H9 l9 => (a9 ≤ 600) ∧ (WT B0 D cs T κ H9) ∧ (Fr B0 [10] κ H0 H9) ∧ (OkL B0 l9)) (fun a9 => [(2, .int (nI a9)), (0, .ref w), (1, .int 1)]) ?_ 0 _ _ _ ⟨(by show (0) ≤ 600; omega), hT, hF, hL⟩ (lv_sub hl [0, 1, 2] rfl)
    rintro k H locs ls ih1851 ⟨hk, hT, hF, hL⟩ hl
    have hl : lv_has ls 4 [(2, .int (nI k)), (0, .ref w), (1, .int 1)] := hl
    have hk : k ≤ 600 := hk
    refine lv_iload_n hx hb dX5_readSum_12 rfl (lv_at hl 0 rfl) ?_
    refine lv_sipush (v := 600) hx hb dX5_readSum_13 (by decide) ?_
    refine lv_icmp_ge (tgt := 79) hx hb dX5_readSum_16 (by decide) (fun c1852 => ?_) (fun c1852 => ?_)
    · have c1852 : 600 ≤ k := (nI_leI (a := 600) (b := k) (by omega) (by omega)).mp c1852
      refine lv_iconst (v := 1) hx hb dX5_readSum_79 (by decide) ?_
      exact en_i hx hb hr hlocks hL rfl (Nat.zero_le _) (Nat.zero_le _) dX5_readSum_80 (⟨hT, hF, Or.inr rfl⟩)
    · have c1852 : ¬ 600 ≤ k := fun h9 => c1852 ((nI_leI (a := 600) (b := k) (by omega) (by omega)).mpr h9)
      refine lv_aload_n hx hb dX5_readSum_19 rfl (lv_at hl 1 rfl) ?_
      refine lv_bipush (v := 43) hx hb dX5_readSum_20 (by decide) ?_
      refine cv_i (As := [.int 43]) (rest := []) (b := w) ⟨hx, hb, hml, hown, hts⟩ (c_X5_isMark hT (w := w) hw (x := 43)) (cwV 1 hts gX5_readSum_X5_isMark rfl rfl rfl hdX5_isMark_v ⟨Nat.le_of_ble_eq_true rfl, Nat.le_of_ble_eq_true rfl⟩) hN hE hL (rcv6 hN hT hw.1) rfl rfl hl.1 (Nat.le_of_ble_eq_true rfl) dX5_readSum_22 (Nat.zero_le _) (Nat.zero_le _) (fun r1853 H1 locs hL hqr1853 => ?_)
      obtain ⟨h9, hqr1853⟩ := hqr1853; replace h9 := h9.symm; subst h9
      rcases hqr1853 with rfl | rfl
      · refine lv_if_ne (tgt := 37) hx hb dX5_readSum_25 (by decide) (fun c9 => absurd (by decide) c9) (fun _ => ?_)
        refine lv_aload_n hx hb dX5_readSum_28 rfl (lv_at hl 1 rfl) ?_
        refine lv_bipush (v := 45) hx hb dX5_readSum_29 (by decide) ?_
        refine cv_i (As := [.int 45]) (rest := []) (b := w) ⟨hx, hb, hml, hown, hts⟩ (c_X5_isMark hT (w := w) hw (x := 45)) (cwV 1 hts gX5_readSum_X5_isMark rfl rfl rfl hdX5_isMark_v ⟨Nat.le_of_ble_eq_true rfl, Nat.le_of_ble_eq_true rfl⟩) hN hE hL (rcv6 hN hT hw.1) rfl rfl hl.1 (Nat.le_of_ble_eq_true rfl) dX5_readSum_31 (Nat.zero_le _) (Nat.zero_le _) (fun r1854 H1 locs hL hqr1854 => ?_)
        obtain ⟨h9, hqr1854⟩ := hqr1854; replace h9 := h9.symm; subst h9
        rcases hqr1854 with rfl | rfl
        · refine lv_if_eq (tgt := 79) hx hb dX5_readSum_34 (by decide) (fun _ => ?_) (fun c9 => absurd (by decide) c9)
          refine lv_iconst (v := 1) hx hb dX5_readSum_79 (by decide) ?_
          exact en_i hx hb hr hlocks hL rfl (Nat.zero_le _) (Nat.zero_le _) dX5_readSum_80 (⟨hT, hF, Or.inr rfl⟩)
        · refine lv_if_eq (tgt := 79) hx hb dX5_readSum_34 (by decide) (fun c9 => absurd c9 (by decide)) (fun _ => ?_)
          refine lv_aload_n hx hb dX5_readSum_37 rfl (lv_at hl 1 rfl) ?_
          refine lv_bipush (v := 43) hx hb dX5_readSum_38 (by decide) ?_
          refine cv_i (As := [.int 43]) (rest := []) (b := w) ⟨hx, hb, hml, hown, hts⟩ (c_X5_isMark hT (w := w) hw (x := 43)) (cwV 1 hts gX5_readSum_X5_isMark rfl rfl rfl hdX5_isMark_v ⟨Nat.le_of_ble_eq_true rfl, Nat.le_of_ble_eq_true rfl⟩) hN hE hL (rcv6 hN hT hw.1) rfl rfl hl.1 (Nat.le_of_ble_eq_true rfl) dX5_readSum_40 (Nat.zero_le _) (Nat.zero_le _) (fun r1855 H1 locs hL hqr1855 => ?_)
          obtain ⟨h9, hqr1855⟩ := hqr1855; replace h9 := h9.symm; subst h9
          rcases hqr1855 with rfl | rfl
          · refine lv_if_eq (tgt := 51) hx hb dX5_readSum_43 (by decide) (fun _ => ?_) (fun c9 => absurd (by decide) c9)
            refine lv_bipush (v := (-6)) hx hb dX5_readSum_51 (by decide) ?_
            refine lv_istore_n (lv' := [(3, .int (-6)), (2, .int (nI k)), (0, .ref w), (1, .int 1)]) hx hb dX5_readSum_53 rfl hl (by decide) rfl (fun ls hl => ?_)
            refine lv_aload_n hx hb dX5_readSum_54 rfl (lv_at hl 2 rfl) ?_
            refine cv_v (As := []) (rest := []) (b := w) ⟨hx, hb, hml, hown, hts⟩ (c_X5_step hT (w := w) hw) (cwV 0 hts gX5_readSum_X5_step rfl rfl rfl hdX5_step_v ⟨Nat.le_of_ble_eq_true rfl, Nat.le_of_ble_eq_true rfl⟩) hN hE hL (rcv6 hN hT hw.1) rfl rfl hl.1 (Nat.le_of_ble_eq_true rfl) dX5_readSum_55 (Nat.zero_le _) (Nat.zero_le _) (fun H1 locs hL hqr1856 => ?_)
            obtain ⟨hT1, hF1, hqr1856⟩ := hqr1856
            have hF := hF.tr (hF1.mono (by simp))
            have hT := hT1
            have f1857 := hqr1856
            refine lv_aload_n hx hb dX5_readSum_58 rfl (lv_at hl 2 rfl) ?_
            refine lv_iload_n hx hb dX5_readSum_59 rfl (lv_at hl 3 rfl) ?_
            refine cv_i (As := [.int 1]) (rest := []) (b := w) ⟨hx, hb, hml, hown, hts⟩ (c_X5_readTerm_d1 hT (w := w) hw) (cwV 1 hts gX5_readSum_X5_readTerm rfl rfl rfl hdX5_readTerm_v ⟨Nat.le_of_ble_eq_true rfl, Nat.le_of_ble_eq_true rfl⟩) hN hE hL (rcv6 hN hT hw.1) rfl rfl hl.1 (Nat.le_of_ble_eq_true rfl) dX5_readSum_60 (Nat.zero_le _) (Nat.zero_le _) (fun r1858 H1 locs hL hqr1858 => ?_)
            obtain ⟨hT1, hF1, hqr1858⟩ := hqr1858
            have hF := hF.tr (hF1.mono (by simp))
            have hT := hT1
            rcases hqr1858 with rfl | rfl
            · refine lv_if_ne (tgt := 68) hx hb dX5_readSum_63 (by decide) (fun c9 => absurd (by decide) c9) (fun _ => ?_)
              refine lv_iconst (v := 0) hx hb dX5_readSum_66 (by decide) ?_
              exact en_i hx hb hr hlocks hL rfl (Nat.zero_le _) (Nat.zero_le _) dX5_readSum_67 (⟨hT, hF, Or.inl rfl⟩)
            · refine lv_if_ne (tgt := 68) hx hb dX5_readSum_63 (by decide) (fun _ => ?_) (fun c9 => absurd c9 (by decide))
              refine lv_aload_n hx hb dX5_readSum_68 rfl (lv_at hl 2 rfl) ?_
              refine lv_iload_n hx hb dX5_readSum_69 rfl (lv_at hl 0 rfl) ?_
              refine cv_v (As := [.int (-6)]) (rest := []) (b := w) ⟨hx, hb, hml, hown, hts⟩ (c_X5_putCode hT (w := w) hw (x := (-6))) (cwV 1 hts gX5_readSum_X5_putCode rfl rfl rfl hdX5_putCode_v ⟨Nat.le_of_ble_eq_true rfl, Nat.le_of_ble_eq_true rfl⟩) hN hE hL (rcv6 hN hT hw.1) rfl rfl hl.1 (Nat.le_of_ble_eq_true rfl) dX5_readSum_70 (Nat.zero_le _) (Nat.zero_le _) (fun H1 locs hL hqr1859 => ?_)
              obtain ⟨hT1, hF1⟩ := hqr1859
              have hF := hF.tr (hF1.mono (by simp))
              have hT := hT1
              refine lv_iinc (v := (nI (k + 1))) (lv' := [(2, .int (nI (k + 1))), (3, .int (-6)), (0, .ref w), (1, .int 1)]) hx hb dX5_readSum_73 hl (k := 1) rfl (nI_add _ 1) (by decide) rfl (fun ls hl => ?_)
              refine lv_goto (tgt := 12) hx hb dX5_readSum_76 (by decide) ?_
              exact ih1851 (k + 1) _ _ _ (by show 600 - ((k + 1)) < 600 - k; omega) ⟨(by show ((k + 1)) ≤ 600; omega), hT, hF, hL⟩ (lv_sub hl [0, 2, 3] rfl)
          · refine lv_if_eq (tgt := 51) hx hb dX5_readSum_43 (by decide) (fun c9 => absurd c9 (by decide)) (fun _ => ?_)
            refine lv_bipush (v := (-5)) hx hb dX5_readSum_46 (by decide) ?_
            refine lv_goto (tgt := 53) hx hb dX5_readSum_48 (by decide) ?_
            refine lv_istore_n (lv' := [(3, .int (-5)), (2, .int (nI k)), (0, .ref w), (1, .int 1)]) hx hb dX5_readSum_53 rfl hl (by decide) rfl (fun ls hl => ?_)
            refine lv_aload_n hx hb dX5_readSum_54 rfl (lv_at hl 2 rfl) ?_
            refine cv_v (As := []) (rest := []) (b := w) ⟨hx, hb, hml, hown, hts⟩ (c_X5_step hT (w := w) hw) (cwV 0 hts gX5_readSum_X5_step rfl rfl rfl hdX5_step_v ⟨Nat.le_of_ble_eq_true rfl, Nat.le_of_ble_eq_true rfl⟩) hN hE hL (rcv6 hN hT hw.1) rfl rfl hl.1 (Nat.le_of_ble_eq_true rfl) dX5_readSum_55 (Nat.zero_le _) (Nat.zero_le _) (fun H1 locs hL hqr1860 => ?_)
            obtain ⟨hT1, hF1, hqr1860⟩ := hqr1860
            have hF := hF.tr (hF1.mono (by simp))
            have hT := hT1
            have f1861 := hqr1860
            refine lv_aload_n hx hb dX5_readSum_58 rfl (lv_at hl 2 rfl) ?_
            refine lv_iload_n hx hb dX5_readSum_59 rfl (lv_at hl 3 rfl) ?_
            refine cv_i (As := [.int 1]) (rest := []) (b := w) ⟨hx, hb, hml, hown, hts⟩ (c_X5_readTerm_d1 hT (w := w) hw) (cwV 1 hts gX5_readSum_X5_readTerm rfl rfl rfl hdX5_readTerm_v ⟨Nat.le_of_ble_eq_true rfl, Nat.le_of_ble_eq_true rfl⟩) hN hE hL (rcv6 hN hT hw.1) rfl rfl hl.1 (Nat.le_of_ble_eq_true rfl) dX5_readSum_60 (Nat.zero_le _) (Nat.zero_le _) (fun r1862 H1 locs hL hqr1862 => ?_)
            obtain ⟨hT1, hF1, hqr1862⟩ := hqr1862
            have hF := hF.tr (hF1.mono (by simp))
            have hT := hT1
            rcases hqr1862 with rfl | rfl
            · refine lv_if_ne (tgt := 68) hx hb dX5_readSum_63 (by decide) (fun c9 => absurd (by decide) c9) (fun _ => ?_)
              refine lv_iconst (v := 0) hx hb dX5_readSum_66 (by decide) ?_
              exact en_i hx hb hr hlocks hL rfl (Nat.zero_le _) (Nat.zero_le _) dX5_readSum_67 (⟨hT, hF, Or.inl rfl⟩)
            · refine lv_if_ne (tgt := 68) hx hb dX5_readSum_63 (by decide) (fun _ => ?_) (fun c9 => absurd c9 (by decide))
              refine lv_aload_n hx hb dX5_readSum_68 rfl (lv_at hl 2 rfl) ?_
              refine lv_iload_n hx hb dX5_readSum_69 rfl (lv_at hl 0 rfl) ?_
              refine cv_v (As := [.int (-5)]) (rest := []) (b := w) ⟨hx, hb, hml, hown, hts⟩ (c_X5_putCode hT (w := w) hw (x := (-5))) (cwV 1 hts gX5_readSum_X5_putCode rfl rfl rfl hdX5_putCode_v ⟨Nat.le_of_ble_eq_true rfl, Nat.le_of_ble_eq_true rfl⟩) hN hE hL (rcv6 hN hT hw.1) rfl rfl hl.1 (Nat.le_of_ble_eq_true rfl) dX5_readSum_70 (Nat.zero_le _) (Nat.zero_le _) (fun H1 locs hL hqr1863 => ?_)
              obtain ⟨hT1, hF1⟩ := hqr1863
              have hF := hF.tr (hF1.mono (by simp))
              have hT := hT1
              refine lv_iinc (v := (nI (k + 1))) (lv' := [(2, .int (nI (k + 1))), (3, .int (-5)), (0, .ref w), (1, .int 1)]) hx hb dX5_readSum_73 hl (k := 1) rfl (nI_add _ 1) (by decide) rfl (fun ls hl => ?_)
              refine lv_goto (tgt := 12) hx hb dX5_readSum_76 (by decide) ?_
              exact ih1851 (k + 1) _ _ _ (by show 600 - ((k + 1)) < 600 - k; omega) ⟨(by show ((k + 1)) ≤ 600; omega), hT, hF, hL⟩ (lv_sub hl [0, 2, 3] rfl)
      · refine lv_if_ne (tgt := 37) hx hb dX5_readSum_25 (by decide) (fun _ => ?_) (fun c9 => absurd c9 (by decide))
        refine lv_aload_n hx hb dX5_readSum_37 rfl (lv_at hl 1 rfl) ?_
        refine lv_bipush (v := 43) hx hb dX5_readSum_38 (by decide) ?_
        refine cv_i (As := [.int 43]) (rest := []) (b := w) ⟨hx, hb, hml, hown, hts⟩ (c_X5_isMark hT (w := w) hw (x := 43)) (cwV 1 hts gX5_readSum_X5_isMark rfl rfl rfl hdX5_isMark_v ⟨Nat.le_of_ble_eq_true rfl, Nat.le_of_ble_eq_true rfl⟩) hN hE hL (rcv6 hN hT hw.1) rfl rfl hl.1 (Nat.le_of_ble_eq_true rfl) dX5_readSum_40 (Nat.zero_le _) (Nat.zero_le _) (fun r1864 H1 locs hL hqr1864 => ?_)
        obtain ⟨h9, hqr1864⟩ := hqr1864; replace h9 := h9.symm; subst h9
        rcases hqr1864 with rfl | rfl
        · refine lv_if_eq (tgt := 51) hx hb dX5_readSum_43 (by decide) (fun _ => ?_) (fun c9 => absurd (by decide) c9)
          refine lv_bipush (v := (-6)) hx hb dX5_readSum_51 (by decide) ?_
          refine lv_istore_n (lv' := [(3, .int (-6)), (2, .int (nI k)), (0, .ref w), (1, .int 1)]) hx hb dX5_readSum_53 rfl hl (by decide) rfl (fun ls hl => ?_)
          refine lv_aload_n hx hb dX5_readSum_54 rfl (lv_at hl 2 rfl) ?_
          refine cv_v (As := []) (rest := []) (b := w) ⟨hx, hb, hml, hown, hts⟩ (c_X5_step hT (w := w) hw) (cwV 0 hts gX5_readSum_X5_step rfl rfl rfl hdX5_step_v ⟨Nat.le_of_ble_eq_true rfl, Nat.le_of_ble_eq_true rfl⟩) hN hE hL (rcv6 hN hT hw.1) rfl rfl hl.1 (Nat.le_of_ble_eq_true rfl) dX5_readSum_55 (Nat.zero_le _) (Nat.zero_le _) (fun H1 locs hL hqr1865 => ?_)
          obtain ⟨hT1, hF1, hqr1865⟩ := hqr1865
          have hF := hF.tr (hF1.mono (by simp))
          have hT := hT1
          have f1866 := hqr1865
          refine lv_aload_n hx hb dX5_readSum_58 rfl (lv_at hl 2 rfl) ?_
          refine lv_iload_n hx hb dX5_readSum_59 rfl (lv_at hl 3 rfl) ?_
          refine cv_i (As := [.int 1]) (rest := []) (b := w) ⟨hx, hb, hml, hown, hts⟩ (c_X5_readTerm_d1 hT (w := w) hw) (cwV 1 hts gX5_readSum_X5_readTerm rfl rfl rfl hdX5_readTerm_v ⟨Nat.le_of_ble_eq_true rfl, Nat.le_of_ble_eq_true rfl⟩) hN hE hL (rcv6 hN hT hw.1) rfl rfl hl.1 (Nat.le_of_ble_eq_true rfl) dX5_readSum_60 (Nat.zero_le _) (Nat.zero_le _) (fun r1867 H1 locs hL hqr1867 => ?_)
          obtain ⟨hT1, hF1, hqr1867⟩ := hqr1867
          have hF := hF.tr (hF1.mono (by simp))
          have hT := hT1
          rcases hqr1867 with rfl | rfl
          · refine lv_if_ne (tgt := 68) hx hb dX5_readSum_63 (by decide) (fun c9 => absurd (by decide) c9) (fun _ => ?_)
            refine lv_iconst (v := 0) hx hb dX5_readSum_66 (by decide) ?_
            exact en_i hx hb hr hlocks hL rfl (Nat.zero_le _) (Nat.zero_le _) dX5_readSum_67 (⟨hT, hF, Or.inl rfl⟩)
          · refine lv_if_ne (tgt := 68) hx hb dX5_readSum_63 (by decide) (fun _ => ?_) (fun c9 => absurd c9 (by decide))
            refine lv_aload_n hx hb dX5_readSum_68 rfl (lv_at hl 2 rfl) ?_
            refine lv_iload_n hx hb dX5_readSum_69 rfl (lv_at hl 0 rfl) ?_
            refine cv_v (As := [.int (-6)]) (rest := []) (b := w) ⟨hx, hb, hml, hown, hts⟩ (c_X5_putCode hT (w := w) hw (x := (-6))) (cwV 1 hts gX5_readSum_X5_putCode rfl rfl rfl hdX5_putCode_v ⟨Nat.le_of_ble_eq_true rfl, Nat.le_of_ble_eq_true rfl⟩) hN hE hL (rcv6 hN hT hw.1) rfl rfl hl.1 (Nat.le_of_ble_eq_true rfl) dX5_readSum_70 (Nat.zero_le _) (Nat.zero_le _) (fun H1 locs hL hqr1868 => ?_)
            obtain ⟨hT1, hF1⟩ := hqr1868
            have hF := hF.tr (hF1.mono (by simp))
            have hT := hT1
            refine lv_iinc (v := (nI (k + 1))) (lv' := [(2, .int (nI (k + 1))), (3, .int (-6)), (0, .ref w), (1, .int 1)]) hx hb dX5_readSum_73 hl (k := 1) rfl (nI_add _ 1) (by decide) rfl (fun ls hl => ?_)
            refine lv_goto (tgt := 12) hx hb dX5_readSum_76 (by decide) ?_
            exact ih1851 (k + 1) _ _ _ (by show 600 - ((k + 1)) < 600 - k; omega) ⟨(by show ((k + 1)) ≤ 600; omega), hT, hF, hL⟩ (lv_sub hl [0, 2, 3] rfl)
        · refine lv_if_eq (tgt := 51) hx hb dX5_readSum_43 (by decide) (fun c9 => absurd c9 (by decide)) (fun _ => ?_)
          refine lv_bipush (v := (-5)) hx hb dX5_readSum_46 (by decide) ?_
          refine lv_goto (tgt := 53) hx hb dX5_readSum_48 (by decide) ?_
          refine lv_istore_n (lv' := [(3, .int (-5)), (2, .int (nI k)), (0, .ref w), (1, .int 1)]) hx hb dX5_readSum_53 rfl hl (by decide) rfl (fun ls hl => ?_)
          refine lv_aload_n hx hb dX5_readSum_54 rfl (lv_at hl 2 rfl) ?_
          refine cv_v (As := []) (rest := []) (b := w) ⟨hx, hb, hml, hown, hts⟩ (c_X5_step hT (w := w) hw) (cwV 0 hts gX5_readSum_X5_step rfl rfl rfl hdX5_step_v ⟨Nat.le_of_ble_eq_true rfl, Nat.le_of_ble_eq_true rfl⟩) hN hE hL (rcv6 hN hT hw.1) rfl rfl hl.1 (Nat.le_of_ble_eq_true rfl) dX5_readSum_55 (Nat.zero_le _) (Nat.zero_le _) (fun H1 locs hL hqr1869 => ?_)
          obtain ⟨hT1, hF1, hqr1869⟩ := hqr1869
          have hF := hF.tr (hF1.mono (by simp))
          have hT := hT1
          have f1870 := hqr1869
          refine lv_aload_n hx hb dX5_readSum_58 rfl (lv_at hl 2 rfl) ?_
          refine lv_iload_n hx hb dX5_readSum_59 rfl (lv_at hl 3 rfl) ?_
          refine cv_i (As := [.int 1]) (rest := []) (b := w) ⟨hx, hb, hml, hown, hts⟩ (c_X5_readTerm_d1 hT (w := w) hw) (cwV 1 hts gX5_readSum_X5_readTerm rfl rfl rfl hdX5_readTerm_v ⟨Nat.le_of_ble_eq_true rfl, Nat.le_of_ble_eq_true rfl⟩) hN hE hL (rcv6 hN hT hw.1) rfl rfl hl.1 (Nat.le_of_ble_eq_true rfl) dX5_readSum_60 (Nat.zero_le _) (Nat.zero_le _) (fun r1871 H1 locs hL hqr1871 => ?_)
          obtain ⟨hT1, hF1, hqr1871⟩ := hqr1871
          have hF := hF.tr (hF1.mono (by simp))
          have hT := hT1
          rcases hqr1871 with rfl | rfl
          · refine lv_if_ne (tgt := 68) hx hb dX5_readSum_63 (by decide) (fun c9 => absurd (by decide) c9) (fun _ => ?_)
            refine lv_iconst (v := 0) hx hb dX5_readSum_66 (by decide) ?_
            exact en_i hx hb hr hlocks hL rfl (Nat.zero_le _) (Nat.zero_le _) dX5_readSum_67 (⟨hT, hF, Or.inl rfl⟩)
          · refine lv_if_ne (tgt := 68) hx hb dX5_readSum_63 (by decide) (fun _ => ?_) (fun c9 => absurd c9 (by decide))
            refine lv_aload_n hx hb dX5_readSum_68 rfl (lv_at hl 2 rfl) ?_
            refine lv_iload_n hx hb dX5_readSum_69 rfl (lv_at hl 0 rfl) ?_
            refine cv_v (As := [.int (-5)]) (rest := []) (b := w) ⟨hx, hb, hml, hown, hts⟩ (c_X5_putCode hT (w := w) hw (x := (-5))) (cwV 1 hts gX5_readSum_X5_putCode rfl rfl rfl hdX5_putCode_v ⟨Nat.le_of_ble_eq_true rfl, Nat.le_of_ble_eq_true rfl⟩) hN hE hL (rcv6 hN hT hw.1) rfl rfl hl.1 (Nat.le_of_ble_eq_true rfl) dX5_readSum_70 (Nat.zero_le _) (Nat.zero_le _) (fun H1 locs hL hqr1872 => ?_)
            obtain ⟨hT1, hF1⟩ := hqr1872
            have hF := hF.tr (hF1.mono (by simp))
            have hT := hT1
            refine lv_iinc (v := (nI (k + 1))) (lv' := [(2, .int (nI (k + 1))), (3, .int (-5)), (0, .ref w), (1, .int 1)]) hx hb dX5_readSum_73 hl (k := 1) rfl (nI_add _ 1) (by decide) rfl (fun ls hl => ?_)
            refine lv_goto (tgt := 12) hx hb dX5_readSum_76 (by decide) ?_
            exact ih1851 (k + 1) _ _ _ (by show 600 - ((k + 1)) < 600 - k; omega) ⟨(by show ((k + 1)) ≤ 600; omega), hT, hF, hL⟩ (lv_sub hl [0, 2, 3] rfl)
set_option maxHeartbeats 4000000 in
set_option maxRecDepth 100000 in
theorem c_X5_readFactor_d0 {l : Launch} {D : va_G} {cs : Nat → ClassId} {B0 T : Nat} {κ : KM} {H0 : Heap} (hT : WT B0 D cs T κ H0) {w : Nat} (hw : T2 κ w 6 10) : KC l yX5_readFactor wsX5_readFactor 18 399 0 0 D cs B0 H0 [.ref w, .int 0] (Qi (fun r H => WT B0 D cs T κ H ∧ Fr B0 [10] κ H0 H ∧ (r = 0 ∨ r = 1))) := by
  refine KC.of cX5_readFactor 3 (some .boolean) (by decide) rfl (Nat.le_of_ble_eq_true rfl) ?_
  intro p e s m below meth c ls hx hb hr hml hown hts hlocks hin hN hE hH0 hl
  have hown : s.vm.findClass RX5 = some m.cls := hown
  have hl : lv_has ls 3 [(0, .ref w), (1, .int 0)] := hl
  have hL : OkL B0 [] := OkL.nil
  have hF : Fr B0 [10] κ H0 H0 := Fr.rf
  refine lv_aload_n hx hb dX5_readFactor_0 rfl (lv_at hl 0 rfl) ?_
  obtain ⟨hb1873, e1873, hat1873, hk1873⟩ := hT.o6 hw.1
  obtain ⟨f1873_0, f1873_2, f1873_3, f1873_4, f1873_5, f1873_6, f1873_7, f1873_8, f1873_9, f1873_10, f1873_11, f1873_12, f1873_13, rfl, c1873_1, c1873_2, c1873_3, c1873_5, c1873_10, t1873_0, t1873_9, c1873_11, c1873_p2⟩ := hk1873
  have hP : va_P D vwCl [(w, .inr (5, [.ref f1873_0, .int (nI ((κ w).2.2.1)), .int (nI f1873_2), .int (nI f1873_3), .int f1873_4, .int (nI f1873_5), .int f1873_6, .int f1873_7, .int f1873_8, .ref f1873_9, .int (nI f1873_10), f1873_11, .int f1873_12, .int f1873_13]))] _ := va_P.cons hat1873 va_P.nil
  refine va_get (D := D) (ci := 5) (v := .int f1873_4) (C := RX5) (T := TX5) (N := 14) hx hb hts iX5_readFactor_5 hown hN.1 hP 0 rfl rfl 4 (by decide) (hts _ mX5_readFactor_1) (fun _ h9 => h9) rfl dX5_readFactor_1 ?_
  refine lv_iconst (v := 1) hx hb dX5_readFactor_4 (by decide) ?_
  refine lv_icmp_ne (tgt := 31) hx hb dX5_readFactor_5 (by decide) (fun c1874 => ?_) (fun c1874 => ?_)
  · refine lv_aload_n hx hb dX5_readFactor_31 rfl (lv_at hl 0 rfl) ?_
    refine lv_bipush (v := 40) hx hb dX5_readFactor_32 (by decide) ?_
    refine cv_i (As := [.int 40]) (rest := []) (b := w) ⟨hx, hb, hml, hown, hts⟩ (c_X5_isMark hT (w := w) hw (x := 40)) (cwV 1 hts gX5_readFactor_X5_isMark rfl rfl rfl hdX5_isMark_v ⟨Nat.le_of_ble_eq_true rfl, Nat.le_of_ble_eq_true rfl⟩) hN hE hL (rcv6 hN hT hw.1) rfl rfl hl.1 (Nat.le_of_ble_eq_true rfl) dX5_readFactor_34 (Nat.zero_le _) (Nat.zero_le _) (fun r1875 H1 locs hL hqr1875 => ?_)
    obtain ⟨h9, hqr1875⟩ := hqr1875; replace h9 := h9.symm; subst h9
    rcases hqr1875 with rfl | rfl
    · refine lv_if_eq (tgt := 85) hx hb dX5_readFactor_37 (by decide) (fun _ => ?_) (fun c9 => absurd (by decide) c9)
      refine lv_aload_n hx hb dX5_readFactor_85 rfl (lv_at hl 0 rfl) ?_
      refine cv_i (As := []) (rest := []) (b := w) ⟨hx, hb, hml, hown, hts⟩ (c_X5_codeOfWord hT (w := w) hw) (cwV 0 hts gX5_readFactor_X5_codeOfWord rfl rfl rfl hdX5_codeOfWord_v ⟨Nat.le_of_ble_eq_true rfl, Nat.le_of_ble_eq_true rfl⟩) hN hE hL (rcv6 hN hT hw.1) rfl rfl hl.1 (Nat.le_of_ble_eq_true rfl) dX5_readFactor_86 (Nat.zero_le _) (Nat.zero_le _) (fun r1876 H1 locs hL hqr1876 => ?_)
      obtain rfl := hqr1876.symm
      refine lv_istore_n (lv' := [(2, .int r1876), (0, .ref w), (1, .int 0)]) hx hb dX5_readFactor_89 rfl hl (by decide) rfl (fun ls hl => ?_)
      refine lv_iload_n hx hb dX5_readFactor_90 rfl (lv_at hl 0 rfl) ?_
      refine lv_if_ne (tgt := 105) hx hb dX5_readFactor_91 (by decide) (fun c1877 => ?_) (fun c1877 => ?_)
      · refine lv_aload_n hx hb dX5_readFactor_105 rfl (lv_at hl 1 rfl) ?_
        refine lv_iload_n hx hb dX5_readFactor_106 rfl (lv_at hl 0 rfl) ?_
        refine cv_v (As := [.int r1876]) (rest := []) (b := w) ⟨hx, hb, hml, hown, hts⟩ (c_X5_putCode hT (w := w) hw (x := r1876)) (cwV 1 hts gX5_readFactor_X5_putCode rfl rfl rfl hdX5_putCode_v ⟨Nat.le_of_ble_eq_true rfl, Nat.le_of_ble_eq_true rfl⟩) hN hE hL (rcv6 hN hT hw.1) rfl rfl hl.1 (Nat.le_of_ble_eq_true rfl) dX5_readFactor_107 (Nat.zero_le _) (Nat.zero_le _) (fun H1 locs hL hqr1878 => ?_)
        obtain ⟨hT1, hF1⟩ := hqr1878
        have hF := hF.tr (hF1.mono (by simp))
        have hT := hT1
        refine lv_aload_n hx hb dX5_readFactor_110 rfl (lv_at hl 1 rfl) ?_
        refine cv_v (As := []) (rest := []) (b := w) ⟨hx, hb, hml, hown, hts⟩ (c_X5_step hT (w := w) hw) (cwV 0 hts gX5_readFactor_X5_step rfl rfl rfl hdX5_step_v ⟨Nat.le_of_ble_eq_true rfl, Nat.le_of_ble_eq_true rfl⟩) hN hE hL (rcv6 hN hT hw.1) rfl rfl hl.1 (Nat.le_of_ble_eq_true rfl) dX5_readFactor_111 (Nat.zero_le _) (Nat.zero_le _) (fun H1 locs hL hqr1879 => ?_)
        obtain ⟨hT1, hF1, hqr1879⟩ := hqr1879
        have hF := hF.tr (hF1.mono (by simp))
        have hT := hT1
        have f1880 := hqr1879
        refine lv_iconst (v := 1) hx hb dX5_readFactor_114 (by decide) ?_
        exact en_i hx hb hr hlocks hL rfl (Nat.zero_le _) (Nat.zero_le _) dX5_readFactor_115 (⟨hT, hF, Or.inr rfl⟩)
      · refine lv_aload_n hx hb dX5_readFactor_94 rfl (lv_at hl 1 rfl) ?_
        refine lv_bipush (v := (-2)) hx hb dX5_readFactor_95 (by decide) ?_
        refine lv_aload_n hx hb dX5_readFactor_97 rfl (lv_at hl 1 rfl) ?_
        refine va_get (D := D) (ci := 5) (v := .int (nI f1873_5)) (C := RX5) (T := TX5) (N := 14) hx hb hts iX5_readFactor_5 hown hN.1 hP 0 rfl rfl 5 (by decide) (hts _ mX5_readFactor_3) (fun _ h9 => h9) rfl dX5_readFactor_98 ?_
        refine cv_i (As := [.int (-2), .int (nI f1873_5)]) (rest := []) (b := w) ⟨hx, hb, hml, hown, hts⟩ (c_X5_fail hT (w := w) hw (x := (-2)) (y := (nI f1873_5))) (cwV 2 hts gX5_readFactor_X5_fail rfl rfl rfl hdX5_fail_v ⟨Nat.le_of_ble_eq_true rfl, Nat.le_of_ble_eq_true rfl⟩) hN hE hL (rcv6 hN hT hw.1) rfl rfl hl.1 (Nat.le_of_ble_eq_true rfl) dX5_readFactor_101 (Nat.zero_le _) (Nat.zero_le _) (fun r1881 H1 locs hL hqr1881 => ?_)
        obtain ⟨hT1, hF1, hqr1881⟩ := hqr1881
        have hF := hF.tr (hF1.mono (by simp))
        have hT := hT1
        obtain rfl := hqr1881
        exact en_i hx hb hr hlocks hL rfl (Nat.zero_le _) (Nat.zero_le _) dX5_readFactor_104 (⟨hT, hF, Or.inl rfl⟩)
    · refine lv_if_eq (tgt := 85) hx hb dX5_readFactor_37 (by decide) (fun c9 => absurd c9 (by decide)) (fun _ => ?_)
      refine lv_iload_n hx hb dX5_readFactor_40 rfl (lv_at hl 1 rfl) ?_
      refine lv_iconst (v := 4) hx hb dX5_readFactor_41 (by decide) ?_
      refine lv_icmp_lt (tgt := 56) hx hb dX5_readFactor_42 (by decide) (fun _ => ?_) (fun c9 => absurd (by decide) c9)
      refine lv_aload_n hx hb dX5_readFactor_56 rfl (lv_at hl 0 rfl) ?_
      refine cv_v (As := []) (rest := []) (b := w) ⟨hx, hb, hml, hown, hts⟩ (c_X5_step hT (w := w) hw) (cwV 0 hts gX5_readFactor_X5_step rfl rfl rfl hdX5_step_v ⟨Nat.le_of_ble_eq_true rfl, Nat.le_of_ble_eq_true rfl⟩) hN hE hL (rcv6 hN hT hw.1) rfl rfl hl.1 (Nat.le_of_ble_eq_true rfl) dX5_readFactor_57 (Nat.zero_le _) (Nat.zero_le _) (fun H1 locs hL hqr1882 => ?_)
      obtain ⟨hT1, hF1, hqr1882⟩ := hqr1882
      have hF := hF.tr (hF1.mono (by simp))
      have hT := hT1
      have f1883 := hqr1882
      refine lv_aload_n hx hb dX5_readFactor_60 rfl (lv_at hl 0 rfl) ?_
      refine lv_iload_n hx hb dX5_readFactor_61 rfl (lv_at hl 1 rfl) ?_
      refine lv_iconst (v := 1) hx hb dX5_readFactor_62 (by decide) ?_
      refine lv_iadd hx hb dX5_readFactor_63 ?_
      refine tp_i 1 (by decide) ?_
      refine cv_i (As := [.int 1]) (rest := []) (b := w) ⟨hx, hb, hml, hown, hts⟩ (c_X5_readSum_d1 hT (w := w) hw) (cwV 1 hts gX5_readFactor_X5_readSum rfl rfl rfl hdX5_readSum_v ⟨Nat.le_of_ble_eq_true rfl, Nat.le_of_ble_eq_true rfl⟩) hN hE hL (rcv6 hN hT hw.1) rfl rfl hl.1 (Nat.le_of_ble_eq_true rfl) dX5_readFactor_64 (Nat.zero_le _) (Nat.zero_le _) (fun r1884 H1 locs hL hqr1884 => ?_)
      obtain ⟨hT1, hF1, hqr1884⟩ := hqr1884
      have hF := hF.tr (hF1.mono (by simp))
      have hT := hT1
      rcases hqr1884 with rfl | rfl
      · refine lv_if_eq (tgt := 83) hx hb dX5_readFactor_67 (by decide) (fun _ => ?_) (fun c9 => absurd (by decide) c9)
        refine lv_iconst (v := 0) hx hb dX5_readFactor_83 (by decide) ?_
        exact en_i hx hb hr hlocks hL rfl (Nat.zero_le _) (Nat.zero_le _) dX5_readFactor_84 (⟨hT, hF, Or.inl rfl⟩)
      · refine lv_if_eq (tgt := 83) hx hb dX5_readFactor_67 (by decide) (fun c9 => absurd c9 (by decide)) (fun _ => ?_)
        refine lv_aload_n hx hb dX5_readFactor_70 rfl (lv_at hl 0 rfl) ?_
        refine lv_bipush (v := 41) hx hb dX5_readFactor_71 (by decide) ?_
        refine cv_i (As := [.int 41]) (rest := []) (b := w) ⟨hx, hb, hml, hown, hts⟩ (c_X5_takeMark hT (w := w) hw (x := 41)) (cwV 1 hts gX5_readFactor_X5_takeMark rfl rfl rfl hdX5_takeMark_v ⟨Nat.le_of_ble_eq_true rfl, Nat.le_of_ble_eq_true rfl⟩) hN hE hL (rcv6 hN hT hw.1) rfl rfl hl.1 (Nat.le_of_ble_eq_true rfl) dX5_readFactor_73 (Nat.zero_le _) (Nat.zero_le _) (fun r1885 H1 locs hL hqr1885 => ?_)
        obtain ⟨hT1, hF1, hqr1885⟩ := hqr1885
        have hF := hF.tr (hF1.mono (by simp))
        have hT := hT1
        rcases hqr1885 with rfl | rfl
        · refine lv_if_eq (tgt := 83) hx hb dX5_readFactor_76 (by decide) (fun _ => ?_) (fun c9 => absurd (by decide) c9)
          refine lv_iconst (v := 0) hx hb dX5_readFactor_83 (by decide) ?_
          exact en_i hx hb hr hlocks hL rfl (Nat.zero_le _) (Nat.zero_le _) dX5_readFactor_84 (⟨hT, hF, Or.inl rfl⟩)
        · refine lv_if_eq (tgt := 83) hx hb dX5_readFactor_76 (by decide) (fun c9 => absurd c9 (by decide)) (fun _ => ?_)
          refine lv_iconst (v := 1) hx hb dX5_readFactor_79 (by decide) ?_
          refine lv_goto (tgt := 84) hx hb dX5_readFactor_80 (by decide) ?_
          exact en_i hx hb hr hlocks hL rfl (Nat.zero_le _) (Nat.zero_le _) dX5_readFactor_84 (⟨hT, hF, Or.inr rfl⟩)
  · refine lv_aload_n hx hb dX5_readFactor_8 rfl (lv_at hl 0 rfl) ?_
    refine lv_iconst (v := 0) hx hb dX5_readFactor_9 (by decide) ?_
    refine lv_sipush (v := 9999) hx hb dX5_readFactor_10 (by decide) ?_
    refine cv_i (As := [.int 0, .int 9999]) (rest := []) (b := w) ⟨hx, hb, hml, hown, hts⟩ (c_X5_takeNumber hT (w := w) hw (x := 0) (y := 9999)) (cwV 2 hts gX5_readFactor_X5_takeNumber rfl rfl rfl hdX5_takeNumber_v ⟨Nat.le_of_ble_eq_true rfl, Nat.le_of_ble_eq_true rfl⟩) hN hE hL (rcv6 hN hT hw.1) rfl rfl hl.1 (Nat.le_of_ble_eq_true rfl) dX5_readFactor_13 (Nat.zero_le _) (Nat.zero_le _) (fun r1886 H1 locs hL hqr1886 => ?_)
    obtain ⟨hT1, hF1, hqr1886⟩ := hqr1886
    have hF := hF.tr (hF1.mono (by simp))
    have hT := hT1
    rcases hqr1886 with rfl | ⟨rfl, v1887, l1888, g1889, f1890⟩
    · refine lv_if_ne (tgt := 21) hx hb dX5_readFactor_16 (by decide) (fun c9 => absurd (by decide) c9) (fun _ => ?_)
      refine lv_iconst (v := 0) hx hb dX5_readFactor_19 (by decide) ?_
      exact en_i hx hb hr hlocks hL rfl (Nat.zero_le _) (Nat.zero_le _) dX5_readFactor_20 (⟨hT, hF, Or.inl rfl⟩)
    · obtain ⟨n1891, hn1891a, hn1891b, rfl⟩ := rng (x := v1887) (lo := 0) (hi := 9999) (by decide) (by decide) l1888 g1889
      refine lv_if_ne (tgt := 21) hx hb dX5_readFactor_16 (by decide) (fun _ => ?_) (fun c9 => absurd c9 (by decide))
      refine lv_aload_n hx hb dX5_readFactor_21 rfl (lv_at hl 0 rfl) ?_
      refine lv_aload_n hx hb dX5_readFactor_22 rfl (lv_at hl 0 rfl) ?_
      obtain ⟨hb1892, e1892, hat1892, hk1892⟩ := hT.o6 hw.1
      obtain ⟨f1892_0, f1892_2, f1892_3, f1892_4, f1892_5, f1892_6, f1892_7, f1892_8, f1892_9, f1892_10, f1892_11, f1892_12, f1892_13, rfl, c1892_1, c1892_2, c1892_3, c1892_5, c1892_10, t1892_0, t1892_9, c1892_11, c1892_p2⟩ := hk1892
      obtain rfl : f1892_7 = nI n1891 := Value.int.inj (f1890.eq hat1892 rfl (by decide) rfl)
      have hP : va_P D vwCl [(w, .inr (5, [.ref f1892_0, .int (nI ((κ w).2.2.1)), .int (nI f1892_2), .int (nI f1892_3), .int f1892_4, .int (nI f1892_5), .int f1892_6, .int (nI n1891), .int f1892_8, .ref f1892_9, .int (nI f1892_10), f1892_11, .int f1892_12, .int f1892_13]))] _ := va_P.cons hat1892 va_P.nil
      refine va_get (D := D) (ci := 5) (v := .int (nI n1891)) (C := RX5) (T := TX5) (N := 14) hx hb hts iX5_readFactor_5 hown hN.1 hP 0 rfl rfl 7 (by decide) (hts _ mX5_readFactor_2) (fun _ h9 => h9) rfl dX5_readFactor_23 ?_
      refine cv_v (As := [.int (nI n1891)]) (rest := []) (b := w) ⟨hx, hb, hml, hown, hts⟩ (c_X5_putCode hT (w := w) hw (x := (nI n1891))) (cwV 1 hts gX5_readFactor_X5_putCode rfl rfl rfl hdX5_putCode_v ⟨Nat.le_of_ble_eq_true rfl, Nat.le_of_ble_eq_true rfl⟩) hN hE hL (rcv6 hN hT hw.1) rfl rfl hl.1 (Nat.le_of_ble_eq_true rfl) dX5_readFactor_26 (Nat.zero_le _) (Nat.zero_le _) (fun H1 locs hL hqr1893 => ?_)
      obtain ⟨hT1, hF1⟩ := hqr1893
      have hF := hF.tr (hF1.mono (by simp))
      have hT := hT1
      refine lv_iconst (v := 1) hx hb dX5_readFactor_29 (by decide) ?_
      exact en_i hx hb hr hlocks hL rfl (Nat.zero_le _) (Nat.zero_le _) dX5_readFactor_30 (⟨hT, hF, Or.inr rfl⟩)
set_option maxHeartbeats 4000000 in
set_option maxRecDepth 100000 in
theorem c_X5_readTerm_d0 {l : Launch} {D : va_G} {cs : Nat → ClassId} {B0 T : Nat} {κ : KM} {H0 : Heap} (hT : WT B0 D cs T κ H0) {w : Nat} (hw : T2 κ w 6 10) : KC l yX5_readTerm wsX5_readTerm 19 421 0 0 D cs B0 H0 [.ref w, .int 0] (Qi (fun r H => WT B0 D cs T κ H ∧ Fr B0 [10] κ H0 H ∧ (r = 0 ∨ r = 1))) := by
  refine KC.of cX5_readTerm 4 (some .boolean) (by decide) rfl (Nat.le_of_ble_eq_true rfl) ?_
  intro p e s m below meth c ls hx hb hr hml hown hts hlocks hin hN hE hH0 hl
  have hown : s.vm.findClass RX5 = some m.cls := hown
  have hl : lv_has ls 4 [(0, .ref w), (1, .int 0)] := hl
  have hL : OkL B0 [] := OkL.nil
  have hF : Fr B0 [10] κ H0 H0 := Fr.rf
  refine lv_aload_n hx hb dX5_readTerm_0 rfl (lv_at hl 0 rfl) ?_
  refine lv_iload_n hx hb dX5_readTerm_1 rfl (lv_at hl 1 rfl) ?_
  refine cv_i (As := [.int 0]) (rest := []) (b := w) ⟨hx, hb, hml, hown, hts⟩ (c_X5_readFactor_d0 hT (w := w) hw) (cwV 1 hts gX5_readTerm_X5_readFactor rfl rfl rfl hdX5_readFactor_v ⟨Nat.le_of_ble_eq_true rfl, Nat.le_of_ble_eq_true rfl⟩) hN hE hL (rcv6 hN hT hw.1) rfl rfl hl.1 (Nat.le_of_ble_eq_true rfl) dX5_readTerm_2 (Nat.zero_le _) (Nat.zero_le _) (fun r1894 H1 locs hL hqr1894 => ?_)
  obtain ⟨hT1, hF1, hqr1894⟩ := hqr1894
  have hF := hF.tr (hF1.mono (by simp))
  have hT := hT1
  rcases hqr1894 with rfl | rfl
  · refine lv_if_ne (tgt := 10) hx hb dX5_readTerm_5 (by decide) (fun c9 => absurd (by decide) c9) (fun _ => ?_)
    refine lv_iconst (v := 0) hx hb dX5_readTerm_8 (by decide) ?_
    exact en_i hx hb hr hlocks hL rfl (Nat.zero_le _) (Nat.zero_le _) dX5_readTerm_9 (⟨hT, hF, Or.inl rfl⟩)
  · refine lv_if_ne (tgt := 10) hx hb dX5_readTerm_5 (by decide) (fun _ => ?_) (fun c9 => absurd c9 (by decide))
    refine lv_iconst (v := 0) hx hb dX5_readTerm_10 (by decide) ?_
    refine lv_istore_n (lv' := [(2, .int 0), (0, .ref w), (1, .int 0)]) hx hb dX5_readTerm_11 rfl hl (by decide) rfl (fun ls hl => ?_)
    refine lp_m (α := Nat) (nL := 4) (fun a9 => 600 - a9) (fun a9 H9 l9 => (a9 ≤ 600) ∧ (WT B0 D cs T κ H9) ∧ (Fr B0 [10] κ H0 H9) ∧ (OkL B0 l9)) (fun a9 => [(2, .int (nI a9)), (0, .ref w), (1, .int 0)]) ?_ 0 _ _ _ ⟨(by show (0) ≤ 600; omega), hT, hF, hL⟩ (lv_sub hl [0, 1, 2] rfl)
    rintro k H locs ls ih1895 ⟨hk, hT, hF, hL⟩ hl
    have hl : lv_has ls 4 [(2, .int (nI k)), (0, .ref w), (1, .int 0)] := hl
    have hk : k ≤ 600 := hk
    refine lv_iload_n hx hb dX5_readTerm_12 rfl (lv_at hl 0 rfl) ?_
    refine lv_sipush (v := 600) hx hb dX5_readTerm_13 (by decide) ?_
    refine lv_icmp_ge (tgt := 79) hx hb dX5_readTerm_16 (by decide) (fun c1896 => ?_) (fun c1896 => ?_)
    · have c1896 : 600 ≤ k := (nI_leI (a := 600) (b := k) (by omega) (by omega)).mp c1896
      refine lv_iconst (v := 1) hx hb dX5_readTerm_79 (by decide) ?_
      exact en_i hx hb hr hlocks hL rfl (Nat.zero_le _) (Nat.zero_le _) dX5_readTerm_80 (⟨hT, hF, Or.inr rfl⟩)
    · have c1896 : ¬ 600 ≤ k := fun h9 => c1896 ((nI_leI (a := 600) (b := k) (by omega) (by omega)).mpr h9)
      refine lv_aload_n hx hb dX5_readTerm_19 rfl (lv_at hl 1 rfl) ?_
      refine lv_bipush (v := 42) hx hb dX5_readTerm_20 (by decide) ?_
      refine cv_i (As := [.int 42]) (rest := []) (b := w) ⟨hx, hb, hml, hown, hts⟩ (c_X5_isMark hT (w := w) hw (x := 42)) (cwV 1 hts gX5_readTerm_X5_isMark rfl rfl rfl hdX5_isMark_v ⟨Nat.le_of_ble_eq_true rfl, Nat.le_of_ble_eq_true rfl⟩) hN hE hL (rcv6 hN hT hw.1) rfl rfl hl.1 (Nat.le_of_ble_eq_true rfl) dX5_readTerm_22 (Nat.zero_le _) (Nat.zero_le _) (fun r1897 H1 locs hL hqr1897 => ?_)
      obtain ⟨h9, hqr1897⟩ := hqr1897; replace h9 := h9.symm; subst h9
      rcases hqr1897 with rfl | rfl
      · refine lv_if_ne (tgt := 37) hx hb dX5_readTerm_25 (by decide) (fun c9 => absurd (by decide) c9) (fun _ => ?_)
        refine lv_aload_n hx hb dX5_readTerm_28 rfl (lv_at hl 1 rfl) ?_
        refine lv_bipush (v := 47) hx hb dX5_readTerm_29 (by decide) ?_
        refine cv_i (As := [.int 47]) (rest := []) (b := w) ⟨hx, hb, hml, hown, hts⟩ (c_X5_isMark hT (w := w) hw (x := 47)) (cwV 1 hts gX5_readTerm_X5_isMark rfl rfl rfl hdX5_isMark_v ⟨Nat.le_of_ble_eq_true rfl, Nat.le_of_ble_eq_true rfl⟩) hN hE hL (rcv6 hN hT hw.1) rfl rfl hl.1 (Nat.le_of_ble_eq_true rfl) dX5_readTerm_31 (Nat.zero_le _) (Nat.zero_le _) (fun r1898 H1 locs hL hqr1898 => ?_)
        obtain ⟨h9, hqr1898⟩ := hqr1898; replace h9 := h9.symm; subst h9
        rcases hqr1898 with rfl | rfl
        · refine lv_if_eq (tgt := 79) hx hb dX5_readTerm_34 (by decide) (fun _ => ?_) (fun c9 => absurd (by decide) c9)
          refine lv_iconst (v := 1) hx hb dX5_readTerm_79 (by decide) ?_
          exact en_i hx hb hr hlocks hL rfl (Nat.zero_le _) (Nat.zero_le _) dX5_readTerm_80 (⟨hT, hF, Or.inr rfl⟩)
        · refine lv_if_eq (tgt := 79) hx hb dX5_readTerm_34 (by decide) (fun c9 => absurd c9 (by decide)) (fun _ => ?_)
          refine lv_aload_n hx hb dX5_readTerm_37 rfl (lv_at hl 1 rfl) ?_
          refine lv_bipush (v := 42) hx hb dX5_readTerm_38 (by decide) ?_
          refine cv_i (As := [.int 42]) (rest := []) (b := w) ⟨hx, hb, hml, hown, hts⟩ (c_X5_isMark hT (w := w) hw (x := 42)) (cwV 1 hts gX5_readTerm_X5_isMark rfl rfl rfl hdX5_isMark_v ⟨Nat.le_of_ble_eq_true rfl, Nat.le_of_ble_eq_true rfl⟩) hN hE hL (rcv6 hN hT hw.1) rfl rfl hl.1 (Nat.le_of_ble_eq_true rfl) dX5_readTerm_40 (Nat.zero_le _) (Nat.zero_le _) (fun r1899 H1 locs hL hqr1899 => ?_)
          obtain ⟨h9, hqr1899⟩ := hqr1899; replace h9 := h9.symm; subst h9
          rcases hqr1899 with rfl | rfl
          · refine lv_if_eq (tgt := 51) hx hb dX5_readTerm_43 (by decide) (fun _ => ?_) (fun c9 => absurd (by decide) c9)
            refine lv_bipush (v := (-8)) hx hb dX5_readTerm_51 (by decide) ?_
            refine lv_istore_n (lv' := [(3, .int (-8)), (2, .int (nI k)), (0, .ref w), (1, .int 0)]) hx hb dX5_readTerm_53 rfl hl (by decide) rfl (fun ls hl => ?_)
            refine lv_aload_n hx hb dX5_readTerm_54 rfl (lv_at hl 2 rfl) ?_
            refine cv_v (As := []) (rest := []) (b := w) ⟨hx, hb, hml, hown, hts⟩ (c_X5_step hT (w := w) hw) (cwV 0 hts gX5_readTerm_X5_step rfl rfl rfl hdX5_step_v ⟨Nat.le_of_ble_eq_true rfl, Nat.le_of_ble_eq_true rfl⟩) hN hE hL (rcv6 hN hT hw.1) rfl rfl hl.1 (Nat.le_of_ble_eq_true rfl) dX5_readTerm_55 (Nat.zero_le _) (Nat.zero_le _) (fun H1 locs hL hqr1900 => ?_)
            obtain ⟨hT1, hF1, hqr1900⟩ := hqr1900
            have hF := hF.tr (hF1.mono (by simp))
            have hT := hT1
            have f1901 := hqr1900
            refine lv_aload_n hx hb dX5_readTerm_58 rfl (lv_at hl 2 rfl) ?_
            refine lv_iload_n hx hb dX5_readTerm_59 rfl (lv_at hl 3 rfl) ?_
            refine cv_i (As := [.int 0]) (rest := []) (b := w) ⟨hx, hb, hml, hown, hts⟩ (c_X5_readFactor_d0 hT (w := w) hw) (cwV 1 hts gX5_readTerm_X5_readFactor rfl rfl rfl hdX5_readFactor_v ⟨Nat.le_of_ble_eq_true rfl, Nat.le_of_ble_eq_true rfl⟩) hN hE hL (rcv6 hN hT hw.1) rfl rfl hl.1 (Nat.le_of_ble_eq_true rfl) dX5_readTerm_60 (Nat.zero_le _) (Nat.zero_le _) (fun r1902 H1 locs hL hqr1902 => ?_)
            obtain ⟨hT1, hF1, hqr1902⟩ := hqr1902
            have hF := hF.tr (hF1.mono (by simp))
            have hT := hT1
            rcases hqr1902 with rfl | rfl
            · refine lv_if_ne (tgt := 68) hx hb dX5_readTerm_63 (by decide) (fun c9 => absurd (by decide) c9) (fun _ => ?_)
              refine lv_iconst (v := 0) hx hb dX5_readTerm_66 (by decide) ?_
              exact en_i hx hb hr hlocks hL rfl (Nat.zero_le _) (Nat.zero_le _) dX5_readTerm_67 (⟨hT, hF, Or.inl rfl⟩)
            · refine lv_if_ne (tgt := 68) hx hb dX5_readTerm_63 (by decide) (fun _ => ?_) (fun c9 => absurd c9 (by decide))
              refine lv_aload_n hx hb dX5_readTerm_68 rfl (lv_at hl 2 rfl) ?_
              refine lv_iload_n hx hb dX5_readTerm_69 rfl (lv_at hl 0 rfl) ?_
              refine cv_v (As := [.int (-8)]) (rest := []) (b := w) ⟨hx, hb, hml, hown, hts⟩ (c_X5_putCode hT (w := w) hw (x := (-8))) (cwV 1 hts gX5_readTerm_X5_putCode rfl rfl rfl hdX5_putCode_v ⟨Nat.le_of_ble_eq_true rfl, Nat.le_of_ble_eq_true rfl⟩) hN hE hL (rcv6 hN hT hw.1) rfl rfl hl.1 (Nat.le_of_ble_eq_true rfl) dX5_readTerm_70 (Nat.zero_le _) (Nat.zero_le _) (fun H1 locs hL hqr1903 => ?_)
              obtain ⟨hT1, hF1⟩ := hqr1903
              have hF := hF.tr (hF1.mono (by simp))
              have hT := hT1
              refine lv_iinc (v := (nI (k + 1))) (lv' := [(2, .int (nI (k + 1))), (3, .int (-8)), (0, .ref w), (1, .int 0)]) hx hb dX5_readTerm_73 hl (k := 1) rfl (nI_add _ 1) (by decide) rfl (fun ls hl => ?_)
              refine lv_goto (tgt := 12) hx hb dX5_readTerm_76 (by decide) ?_
              exact ih1895 (k + 1) _ _ _ (by show 600 - ((k + 1)) < 600 - k; omega) ⟨(by show ((k + 1)) ≤ 600; omega), hT, hF, hL⟩ (lv_sub hl [0, 2, 3] rfl)
          · refine lv_if_eq (tgt := 51) hx hb dX5_readTerm_43 (by decide) (fun c9 => absurd c9 (by decide)) (fun _ => ?_)
            refine lv_bipush (v := (-7)) hx hb dX5_readTerm_46 (by decide) ?_
            refine lv_goto (tgt := 53) hx hb dX5_readTerm_48 (by decide) ?_
            refine lv_istore_n (lv' := [(3, .int (-7)), (2, .int (nI k)), (0, .ref w), (1, .int 0)]) hx hb dX5_readTerm_53 rfl hl (by decide) rfl (fun ls hl => ?_)
            refine lv_aload_n hx hb dX5_readTerm_54 rfl (lv_at hl 2 rfl) ?_
            refine cv_v (As := []) (rest := []) (b := w) ⟨hx, hb, hml, hown, hts⟩ (c_X5_step hT (w := w) hw) (cwV 0 hts gX5_readTerm_X5_step rfl rfl rfl hdX5_step_v ⟨Nat.le_of_ble_eq_true rfl, Nat.le_of_ble_eq_true rfl⟩) hN hE hL (rcv6 hN hT hw.1) rfl rfl hl.1 (Nat.le_of_ble_eq_true rfl) dX5_readTerm_55 (Nat.zero_le _) (Nat.zero_le _) (fun H1 locs hL hqr1904 => ?_)
            obtain ⟨hT1, hF1, hqr1904⟩ := hqr1904
            have hF := hF.tr (hF1.mono (by simp))
            have hT := hT1
            have f1905 := hqr1904
            refine lv_aload_n hx hb dX5_readTerm_58 rfl (lv_at hl 2 rfl) ?_
            refine lv_iload_n hx hb dX5_readTerm_59 rfl (lv_at hl 3 rfl) ?_
            refine cv_i (As := [.int 0]) (rest := []) (b := w) ⟨hx, hb, hml, hown, hts⟩ (c_X5_readFactor_d0 hT (w := w) hw) (cwV 1 hts gX5_readTerm_X5_readFactor rfl rfl rfl hdX5_readFactor_v ⟨Nat.le_of_ble_eq_true rfl, Nat.le_of_ble_eq_true rfl⟩) hN hE hL (rcv6 hN hT hw.1) rfl rfl hl.1 (Nat.le_of_ble_eq_true rfl) dX5_readTerm_60 (Nat.zero_le _) (Nat.zero_le _) (fun r1906 H1 locs hL hqr1906 => ?_)
            obtain ⟨hT1, hF1, hqr1906⟩ := hqr1906
            have hF := hF.tr (hF1.mono (by simp))
            have hT := hT1
            rcases hqr1906 with rfl | rfl
            · refine lv_if_ne (tgt := 68) hx hb dX5_readTerm_63 (by decide) (fun c9 => absurd (by decide) c9) (fun _ => ?_)
              refine lv_iconst (v := 0) hx hb dX5_readTerm_66 (by decide) ?_
              exact en_i hx hb hr hlocks hL rfl (Nat.zero_le _) (Nat.zero_le _) dX5_readTerm_67 (⟨hT, hF, Or.inl rfl⟩)
            · refine lv_if_ne (tgt := 68) hx hb dX5_readTerm_63 (by decide) (fun _ => ?_) (fun c9 => absurd c9 (by decide))
              refine lv_aload_n hx hb dX5_readTerm_68 rfl (lv_at hl 2 rfl) ?_
              refine lv_iload_n hx hb dX5_readTerm_69 rfl (lv_at hl 0 rfl) ?_
              refine cv_v (As := [.int (-7)]) (rest := []) (b := w) ⟨hx, hb, hml, hown, hts⟩ (c_X5_putCode hT (w := w) hw (x := (-7))) (cwV 1 hts gX5_readTerm_X5_putCode rfl rfl rfl hdX5_putCode_v ⟨Nat.le_of_ble_eq_true rfl, Nat.le_of_ble_eq_true rfl⟩) hN hE hL (rcv6 hN hT hw.1) rfl rfl hl.1 (Nat.le_of_ble_eq_true rfl) dX5_readTerm_70 (Nat.zero_le _) (Nat.zero_le _) (fun H1 locs hL hqr1907 => ?_)
              obtain ⟨hT1, hF1⟩ := hqr1907
              have hF := hF.tr (hF1.mono (by simp))
              have hT := hT1
              refine lv_iinc (v := (nI (k + 1))) (lv' := [(2, .int (nI (k + 1))), (3, .int (-7)), (0, .ref w), (1, .int 0)]) hx hb dX5_readTerm_73 hl (k := 1) rfl (nI_add _ 1) (by decide) rfl (fun ls hl => ?_)
              refine lv_goto (tgt := 12) hx hb dX5_readTerm_76 (by decide) ?_
              exact ih1895 (k + 1) _ _ _ (by show 600 - ((k + 1)) < 600 - k; omega) ⟨(by show ((k + 1)) ≤ 600; omega), hT, hF, hL⟩ (lv_sub hl [0, 2, 3] rfl)
      · refine lv_if_ne (tgt := 37) hx hb dX5_readTerm_25 (by decide) (fun _ => ?_) (fun c9 => absurd c9 (by decide))
        refine lv_aload_n hx hb dX5_readTerm_37 rfl (lv_at hl 1 rfl) ?_
        refine lv_bipush (v := 42) hx hb dX5_readTerm_38 (by decide) ?_
        refine cv_i (As := [.int 42]) (rest := []) (b := w) ⟨hx, hb, hml, hown, hts⟩ (c_X5_isMark hT (w := w) hw (x := 42)) (cwV 1 hts gX5_readTerm_X5_isMark rfl rfl rfl hdX5_isMark_v ⟨Nat.le_of_ble_eq_true rfl, Nat.le_of_ble_eq_true rfl⟩) hN hE hL (rcv6 hN hT hw.1) rfl rfl hl.1 (Nat.le_of_ble_eq_true rfl) dX5_readTerm_40 (Nat.zero_le _) (Nat.zero_le _) (fun r1908 H1 locs hL hqr1908 => ?_)
        obtain ⟨h9, hqr1908⟩ := hqr1908; replace h9 := h9.symm; subst h9
        rcases hqr1908 with rfl | rfl
        · refine lv_if_eq (tgt := 51) hx hb dX5_readTerm_43 (by decide) (fun _ => ?_) (fun c9 => absurd (by decide) c9)
          refine lv_bipush (v := (-8)) hx hb dX5_readTerm_51 (by decide) ?_
          refine lv_istore_n (lv' := [(3, .int (-8)), (2, .int (nI k)), (0, .ref w), (1, .int 0)]) hx hb dX5_readTerm_53 rfl hl (by decide) rfl (fun ls hl => ?_)
          refine lv_aload_n hx hb dX5_readTerm_54 rfl (lv_at hl 2 rfl) ?_
          refine cv_v (As := []) (rest := []) (b := w) ⟨hx, hb, hml, hown, hts⟩ (c_X5_step hT (w := w) hw) (cwV 0 hts gX5_readTerm_X5_step rfl rfl rfl hdX5_step_v ⟨Nat.le_of_ble_eq_true rfl, Nat.le_of_ble_eq_true rfl⟩) hN hE hL (rcv6 hN hT hw.1) rfl rfl hl.1 (Nat.le_of_ble_eq_true rfl) dX5_readTerm_55 (Nat.zero_le _) (Nat.zero_le _) (fun H1 locs hL hqr1909 => ?_)
          obtain ⟨hT1, hF1, hqr1909⟩ := hqr1909
          have hF := hF.tr (hF1.mono (by simp))
          have hT := hT1
          have f1910 := hqr1909
          refine lv_aload_n hx hb dX5_readTerm_58 rfl (lv_at hl 2 rfl) ?_
          refine lv_iload_n hx hb dX5_readTerm_59 rfl (lv_at hl 3 rfl) ?_
          refine cv_i (As := [.int 0]) (rest := []) (b := w) ⟨hx, hb, hml, hown, hts⟩ (c_X5_readFactor_d0 hT (w := w) hw) (cwV 1 hts gX5_readTerm_X5_readFactor rfl rfl rfl hdX5_readFactor_v ⟨Nat.le_of_ble_eq_true rfl, Nat.le_of_ble_eq_true rfl⟩) hN hE hL (rcv6 hN hT hw.1) rfl rfl hl.1 (Nat.le_of_ble_eq_true rfl) dX5_readTerm_60 (Nat.zero_le _) (Nat.zero_le _) (fun r1911 H1 locs hL hqr1911 => ?_)
          obtain ⟨hT1, hF1, hqr1911⟩ := hqr1911
          have hF := hF.tr (hF1.mono (by simp))
          have hT := hT1
          rcases hqr1911 with rfl | rfl
          · refine lv_if_ne (tgt := 68) hx hb dX5_readTerm_63 (by decide) (fun c9 => absurd (by decide) c9) (fun _ => ?_)
            refine lv_iconst (v := 0) hx hb dX5_readTerm_66 (by decide) ?_
            exact en_i hx hb hr hlocks hL rfl (Nat.zero_le _) (Nat.zero_le _) dX5_readTerm_67 (⟨hT, hF, Or.inl rfl⟩)
          · refine lv_if_ne (tgt := 68) hx hb dX5_readTerm_63 (by decide) (fun _ => ?_) (fun c9 => absurd c9 (by decide))
            refine lv_aload_n hx hb dX5_readTerm_68 rfl (lv_at hl 2 rfl) ?_
            refine lv_iload_n hx hb dX5_readTerm_69 rfl (lv_at hl 0 rfl) ?_
            refine cv_v (As := [.int (-8)]) (rest := []) (b := w) ⟨hx, hb, hml, hown, hts⟩ (c_X5_putCode hT (w := w) hw (x := (-8))) (cwV 1 hts gX5_readTerm_X5_putCode rfl rfl rfl hdX5_putCode_v ⟨Nat.le_of_ble_eq_true rfl, Nat.le_of_ble_eq_true rfl⟩) hN hE hL (rcv6 hN hT hw.1) rfl rfl hl.1 (Nat.le_of_ble_eq_true rfl) dX5_readTerm_70 (Nat.zero_le _) (Nat.zero_le _) (fun H1 locs hL hqr1912 => ?_)
            obtain ⟨hT1, hF1⟩ := hqr1912
            have hF := hF.tr (hF1.mono (by simp))
            have hT := hT1
            refine lv_iinc (v := (nI (k + 1))) (lv' := [(2, .int (nI (k + 1))), (3, .int (-8)), (0, .ref w), (1, .int 0)]) hx hb dX5_readTerm_73 hl (k := 1) rfl (nI_add _ 1) (by decide) rfl (fun ls hl => ?_)
            refine lv_goto (tgt := 12) hx hb dX5_readTerm_76 (by decide) ?_
            exact ih1895 (k + 1) _ _ _ (by show 600 - ((k + 1)) < 600 - k; omega) ⟨(by show ((k + 1)) ≤ 600; omega), hT, hF, hL⟩ (lv_sub hl [0, 2, 3] rfl)
        · refine lv_if_eq (tgt := 51) hx hb dX5_readTerm_43 (by decide) (fun c9 => absurd c9 (by decide)) (fun _ => ?_)
          refine lv_bipush (v := (-7)) hx hb dX5_readTerm_46 (by decide) ?_
          refine lv_goto (tgt := 53) hx hb dX5_readTerm_48 (by decide) ?_
          refine lv_istore_n (lv' := [(3, .int (-7)), (2, .int (nI k)), (0, .ref w), (1, .int 0)]) hx hb dX5_readTerm_53 rfl hl (by decide) rfl (fun ls hl => ?_)
          refine lv_aload_n hx hb dX5_readTerm_54 rfl (lv_at hl 2 rfl) ?_
          refine cv_v (As := []) (rest := []) (b := w) ⟨hx, hb, hml, hown, hts⟩ (c_X5_step hT (w := w) hw) (cwV 0 hts gX5_readTerm_X5_step rfl rfl rfl hdX5_step_v ⟨Nat.le_of_ble_eq_true rfl, Nat.le_of_ble_eq_true rfl⟩) hN hE hL (rcv6 hN hT hw.1) rfl rfl hl.1 (Nat.le_of_ble_eq_true rfl) dX5_readTerm_55 (Nat.zero_le _) (Nat.zero_le _) (fun H1 locs hL hqr1913 => ?_)
          obtain ⟨hT1, hF1, hqr1913⟩ := hqr1913
          have hF := hF.tr (hF1.mono (by simp))
          have hT := hT1
          have f1914 := hqr1913
          refine lv_aload_n hx hb dX5_readTerm_58 rfl (lv_at hl 2 rfl) ?_
          refine lv_iload_n hx hb dX5_readTerm_59 rfl (lv_at hl 3 rfl) ?_
          refine cv_i (As := [.int 0]) (rest := []) (b := w) ⟨hx, hb, hml, hown, hts⟩ (c_X5_readFactor_d0 hT (w := w) hw) (cwV 1 hts gX5_readTerm_X5_readFactor rfl rfl rfl hdX5_readFactor_v ⟨Nat.le_of_ble_eq_true rfl, Nat.le_of_ble_eq_true rfl⟩) hN hE hL (rcv6 hN hT hw.1) rfl rfl hl.1 (Nat.le_of_ble_eq_true rfl) dX5_readTerm_60 (Nat.zero_le _) (Nat.zero_le _) (fun r1915 H1 locs hL hqr1915 => ?_)
          obtain ⟨hT1, hF1, hqr1915⟩ := hqr1915
          have hF := hF.tr (hF1.mono (by simp))
          have hT := hT1
          rcases hqr1915 with rfl | rfl
          · refine lv_if_ne (tgt := 68) hx hb dX5_readTerm_63 (by decide) (fun c9 => absurd (by decide) c9) (fun _ => ?_)
            refine lv_iconst (v := 0) hx hb dX5_readTerm_66 (by decide) ?_
            exact en_i hx hb hr hlocks hL rfl (Nat.zero_le _) (Nat.zero_le _) dX5_readTerm_67 (⟨hT, hF, Or.inl rfl⟩)
          · refine lv_if_ne (tgt := 68) hx hb dX5_readTerm_63 (by decide) (fun _ => ?_) (fun c9 => absurd c9 (by decide))
            refine lv_aload_n hx hb dX5_readTerm_68 rfl (lv_at hl 2 rfl) ?_
            refine lv_iload_n hx hb dX5_readTerm_69 rfl (lv_at hl 0 rfl) ?_
            refine cv_v (As := [.int (-7)]) (rest := []) (b := w) ⟨hx, hb, hml, hown, hts⟩ (c_X5_putCode hT (w := w) hw (x := (-7))) (cwV 1 hts gX5_readTerm_X5_putCode rfl rfl rfl hdX5_putCode_v ⟨Nat.le_of_ble_eq_true rfl, Nat.le_of_ble_eq_true rfl⟩) hN hE hL (rcv6 hN hT hw.1) rfl rfl hl.1 (Nat.le_of_ble_eq_true rfl) dX5_readTerm_70 (Nat.zero_le _) (Nat.zero_le _) (fun H1 locs hL hqr1916 => ?_)
            obtain ⟨hT1, hF1⟩ := hqr1916
            have hF := hF.tr (hF1.mono (by simp))
            have hT := hT1
            refine lv_iinc (v := (nI (k + 1))) (lv' := [(2, .int (nI (k + 1))), (3, .int (-7)), (0, .ref w), (1, .int 0)]) hx hb dX5_readTerm_73 hl (k := 1) rfl (nI_add _ 1) (by decide) rfl (fun ls hl => ?_)
            refine lv_goto (tgt := 12) hx hb dX5_readTerm_76 (by decide) ?_
            exact ih1895 (k + 1) _ _ _ (by show 600 - ((k + 1)) < 600 - k; omega) ⟨(by show ((k + 1)) ≤ 600; omega), hT, hF, hL⟩ (lv_sub hl [0, 2, 3] rfl)
set_option maxHeartbeats 4000000 in
set_option maxRecDepth 100000 in
theorem c_X5_readSum_d0 {l : Launch} {D : va_G} {cs : Nat → ClassId} {B0 T : Nat} {κ : KM} {H0 : Heap} (hT : WT B0 D cs T κ H0) {w : Nat} (hw : T2 κ w 6 10) : KC l yX5_readSum wsX5_readSum 20 444 0 0 D cs B0 H0 [.ref w, .int 0] (Qi (fun r H => WT B0 D cs T κ H ∧ Fr B0 [10] κ H0 H ∧ (r = 0 ∨ r = 1))) := by
  refine KC.of cX5_readSum 4 (some .boolean) (by decide) rfl (Nat.le_of_ble_eq_true rfl) ?_
  intro p e s m below meth c ls hx hb hr hml hown hts hlocks hin hN hE hH0 hl
  have hown : s.vm.findClass RX5 = some m.cls := hown
  have hl : lv_has ls 4 [(0, .ref w), (1, .int 0)] := hl
  have hL : OkL B0 [] := OkL.nil
  have hF : Fr B0 [10] κ H0 H0 := Fr.rf
  refine lv_aload_n hx hb dX5_readSum_0 rfl (lv_at hl 0 rfl) ?_
  refine lv_iload_n hx hb dX5_readSum_1 rfl (lv_at hl 1 rfl) ?_
  refine cv_i (As := [.int 0]) (rest := []) (b := w) ⟨hx, hb, hml, hown, hts⟩ (c_X5_readTerm_d0 hT (w := w) hw) (cwV 1 hts gX5_readSum_X5_readTerm rfl rfl rfl hdX5_readTerm_v ⟨Nat.le_of_ble_eq_true rfl, Nat.le_of_ble_eq_true rfl⟩) hN hE hL (rcv6 hN hT hw.1) rfl rfl hl.1 (Nat.le_of_ble_eq_true rfl) dX5_readSum_2 (Nat.zero_le _) (Nat.zero_le _) (fun r1917 H1 locs hL hqr1917 => ?_)
  obtain ⟨hT1, hF1, hqr1917⟩ := hqr1917
  have hF := hF.tr (hF1.mono (by simp))
  have hT := hT1
  rcases hqr1917 with rfl | rfl
  · refine lv_if_ne (tgt := 10) hx hb dX5_readSum_5 (by decide) (fun c9 => absurd (by decide) c9) (fun _ => ?_)
    refine lv_iconst (v := 0) hx hb dX5_readSum_8 (by decide) ?_
    exact en_i hx hb hr hlocks hL rfl (Nat.zero_le _) (Nat.zero_le _) dX5_readSum_9 (⟨hT, hF, Or.inl rfl⟩)
  · refine lv_if_ne (tgt := 10) hx hb dX5_readSum_5 (by decide) (fun _ => ?_) (fun c9 => absurd c9 (by decide))
    refine lv_iconst (v := 0) hx hb dX5_readSum_10 (by decide) ?_
    refine lv_istore_n (lv' := [(2, .int 0), (0, .ref w), (1, .int 0)]) hx hb dX5_readSum_11 rfl hl (by decide) rfl (fun ls hl => ?_)
    refine lp_m (α := Nat) (nL := 4) (fun a9 => 600 - a9) (fun a9 H9 l9 => (a9 ≤ 600) ∧ (WT B0 D cs T κ H9) ∧ (Fr B0 [10] κ H0 H9) ∧ (OkL B0 l9)) (fun a9 => [(2, .int (nI a9)), (0, .ref w), (1, .int 0)]) ?_ 0 _ _ _ ⟨(by show (0) ≤ 600; omega), hT, hF, hL⟩ (lv_sub hl [0, 1, 2] rfl)
    rintro k H locs ls ih1918 ⟨hk, hT, hF, hL⟩ hl
    have hl : lv_has ls 4 [(2, .int (nI k)), (0, .ref w), (1, .int 0)] := hl
    have hk : k ≤ 600 := hk
    refine lv_iload_n hx hb dX5_readSum_12 rfl (lv_at hl 0 rfl) ?_
    refine lv_sipush (v := 600) hx hb dX5_readSum_13 (by decide) ?_
    refine lv_icmp_ge (tgt := 79) hx hb dX5_readSum_16 (by decide) (fun c1919 => ?_) (fun c1919 => ?_)
    · have c1919 : 600 ≤ k := (nI_leI (a := 600) (b := k) (by omega) (by omega)).mp c1919
      refine lv_iconst (v := 1) hx hb dX5_readSum_79 (by decide) ?_
      exact en_i hx hb hr hlocks hL rfl (Nat.zero_le _) (Nat.zero_le _) dX5_readSum_80 (⟨hT, hF, Or.inr rfl⟩)
    · have c1919 : ¬ 600 ≤ k := fun h9 => c1919 ((nI_leI (a := 600) (b := k) (by omega) (by omega)).mpr h9)
      refine lv_aload_n hx hb dX5_readSum_19 rfl (lv_at hl 1 rfl) ?_
      refine lv_bipush (v := 43) hx hb dX5_readSum_20 (by decide) ?_
      refine cv_i (As := [.int 43]) (rest := []) (b := w) ⟨hx, hb, hml, hown, hts⟩ (c_X5_isMark hT (w := w) hw (x := 43)) (cwV 1 hts gX5_readSum_X5_isMark rfl rfl rfl hdX5_isMark_v ⟨Nat.le_of_ble_eq_true rfl, Nat.le_of_ble_eq_true rfl⟩) hN hE hL (rcv6 hN hT hw.1) rfl rfl hl.1 (Nat.le_of_ble_eq_true rfl) dX5_readSum_22 (Nat.zero_le _) (Nat.zero_le _) (fun r1920 H1 locs hL hqr1920 => ?_)
      obtain ⟨h9, hqr1920⟩ := hqr1920; replace h9 := h9.symm; subst h9
      rcases hqr1920 with rfl | rfl
      · refine lv_if_ne (tgt := 37) hx hb dX5_readSum_25 (by decide) (fun c9 => absurd (by decide) c9) (fun _ => ?_)
        refine lv_aload_n hx hb dX5_readSum_28 rfl (lv_at hl 1 rfl) ?_
        refine lv_bipush (v := 45) hx hb dX5_readSum_29 (by decide) ?_
        refine cv_i (As := [.int 45]) (rest := []) (b := w) ⟨hx, hb, hml, hown, hts⟩ (c_X5_isMark hT (w := w) hw (x := 45)) (cwV 1 hts gX5_readSum_X5_isMark rfl rfl rfl hdX5_isMark_v ⟨Nat.le_of_ble_eq_true rfl, Nat.le_of_ble_eq_true rfl⟩) hN hE hL (rcv6 hN hT hw.1) rfl rfl hl.1 (Nat.le_of_ble_eq_true rfl) dX5_readSum_31 (Nat.zero_le _) (Nat.zero_le _) (fun r1921 H1 locs hL hqr1921 => ?_)
        obtain ⟨h9, hqr1921⟩ := hqr1921; replace h9 := h9.symm; subst h9
        rcases hqr1921 with rfl | rfl
        · refine lv_if_eq (tgt := 79) hx hb dX5_readSum_34 (by decide) (fun _ => ?_) (fun c9 => absurd (by decide) c9)
          refine lv_iconst (v := 1) hx hb dX5_readSum_79 (by decide) ?_
          exact en_i hx hb hr hlocks hL rfl (Nat.zero_le _) (Nat.zero_le _) dX5_readSum_80 (⟨hT, hF, Or.inr rfl⟩)
        · refine lv_if_eq (tgt := 79) hx hb dX5_readSum_34 (by decide) (fun c9 => absurd c9 (by decide)) (fun _ => ?_)
          refine lv_aload_n hx hb dX5_readSum_37 rfl (lv_at hl 1 rfl) ?_
          refine lv_bipush (v := 43) hx hb dX5_readSum_38 (by decide) ?_
          refine cv_i (As := [.int 43]) (rest := []) (b := w) ⟨hx, hb, hml, hown, hts⟩ (c_X5_isMark hT (w := w) hw (x := 43)) (cwV 1 hts gX5_readSum_X5_isMark rfl rfl rfl hdX5_isMark_v ⟨Nat.le_of_ble_eq_true rfl, Nat.le_of_ble_eq_true rfl⟩) hN hE hL (rcv6 hN hT hw.1) rfl rfl hl.1 (Nat.le_of_ble_eq_true rfl) dX5_readSum_40 (Nat.zero_le _) (Nat.zero_le _) (fun r1922 H1 locs hL hqr1922 => ?_)
          obtain ⟨h9, hqr1922⟩ := hqr1922; replace h9 := h9.symm; subst h9
          rcases hqr1922 with rfl | rfl
          · refine lv_if_eq (tgt := 51) hx hb dX5_readSum_43 (by decide) (fun _ => ?_) (fun c9 => absurd (by decide) c9)
            refine lv_bipush (v := (-6)) hx hb dX5_readSum_51 (by decide) ?_
            refine lv_istore_n (lv' := [(3, .int (-6)), (2, .int (nI k)), (0, .ref w), (1, .int 0)]) hx hb dX5_readSum_53 rfl hl (by decide) rfl (fun ls hl => ?_)
            refine lv_aload_n hx hb dX5_readSum_54 rfl (lv_at hl 2 rfl) ?_
            refine cv_v (As := []) (rest := []) (b := w) ⟨hx, hb, hml, hown, hts⟩ (c_X5_step hT (w := w) hw) (cwV 0 hts gX5_readSum_X5_step rfl rfl rfl hdX5_step_v ⟨Nat.le_of_ble_eq_true rfl, Nat.le_of_ble_eq_true rfl⟩) hN hE hL (rcv6 hN hT hw.1) rfl rfl hl.1 (Nat.le_of_ble_eq_true rfl) dX5_readSum_55 (Nat.zero_le _) (Nat.zero_le _) (fun H1 locs hL hqr1923 => ?_)
            obtain ⟨hT1, hF1, hqr1923⟩ := hqr1923
            have hF := hF.tr (hF1.mono (by simp))
            have hT := hT1
            have f1924 := hqr1923
            refine lv_aload_n hx hb dX5_readSum_58 rfl (lv_at hl 2 rfl) ?_
            refine lv_iload_n hx hb dX5_readSum_59 rfl (lv_at hl 3 rfl) ?_
            refine cv_i (As := [.int 0]) (rest := []) (b := w) ⟨hx, hb, hml, hown, hts⟩ (c_X5_readTerm_d0 hT (w := w) hw) (cwV 1 hts gX5_readSum_X5_readTerm rfl rfl rfl hdX5_readTerm_v ⟨Nat.le_of_ble_eq_true rfl, Nat.le_of_ble_eq_true rfl⟩) hN hE hL (rcv6 hN hT hw.1) rfl rfl hl.1 (Nat.le_of_ble_eq_true rfl) dX5_readSum_60 (Nat.zero_le _) (Nat.zero_le _) (fun r1925 H1 locs hL hqr1925 => ?_)
            obtain ⟨hT1, hF1, hqr1925⟩ := hqr1925
            have hF := hF.tr (hF1.mono (by simp))
            have hT := hT1
            rcases hqr1925 with rfl | rfl
            · refine lv_if_ne (tgt := 68) hx hb dX5_readSum_63 (by decide) (fun c9 => absurd (by decide) c9) (fun _ => ?_)
              refine lv_iconst (v := 0) hx hb dX5_readSum_66 (by decide) ?_
              exact en_i hx hb hr hlocks hL rfl (Nat.zero_le _) (Nat.zero_le _) dX5_readSum_67 (⟨hT, hF, Or.inl rfl⟩)
            · refine lv_if_ne (tgt := 68) hx hb dX5_readSum_63 (by decide) (fun _ => ?_) (fun c9 => absurd c9 (by decide))
              refine lv_aload_n hx hb dX5_readSum_68 rfl (lv_at hl 2 rfl) ?_
              refine lv_iload_n hx hb dX5_readSum_69 rfl (lv_at hl 0 rfl) ?_
              refine cv_v (As := [.int (-6)]) (rest := []) (b := w) ⟨hx, hb, hml, hown, hts⟩ (c_X5_putCode hT (w := w) hw (x := (-6))) (cwV 1 hts gX5_readSum_X5_putCode rfl rfl rfl hdX5_putCode_v ⟨Nat.le_of_ble_eq_true rfl, Nat.le_of_ble_eq_true rfl⟩) hN hE hL (rcv6 hN hT hw.1) rfl rfl hl.1 (Nat.le_of_ble_eq_true rfl) dX5_readSum_70 (Nat.zero_le _) (Nat.zero_le _) (fun H1 locs hL hqr1926 => ?_)
              obtain ⟨hT1, hF1⟩ := hqr1926
              have hF := hF.tr (hF1.mono (by simp))
              have hT := hT1
              refine lv_iinc (v := (nI (k + 1))) (lv' := [(2, .int (nI (k + 1))), (3, .int (-6)), (0, .ref w), (1, .int 0)]) hx hb dX5_readSum_73 hl (k := 1) rfl (nI_add _ 1) (by decide) rfl (fun ls hl => ?_)
              refine lv_goto (tgt := 12) hx hb dX5_readSum_76 (by decide) ?_
              exact ih1918 (k + 1) _ _ _ (by show 600 - ((k + 1)) < 600 - k; omega) ⟨(by show ((k + 1)) ≤ 600; omega), hT, hF, hL⟩ (lv_sub hl [0, 2, 3] rfl)
          · refine lv_if_eq (tgt := 51) hx hb dX5_readSum_43 (by decide) (fun c9 => absurd c9 (by decide)) (fun _ => ?_)
            refine lv_bipush (v := (-5)) hx hb dX5_readSum_46 (by decide) ?_
            refine lv_goto (tgt := 53) hx hb dX5_readSum_48 (by decide) ?_
            refine lv_istore_n (lv' := [(3, .int (-5)), (2, .int (nI k)), (0, .ref w), (1, .int 0)]) hx hb dX5_readSum_53 rfl hl (by decide) rfl (fun ls hl => ?_)
            refine lv_aload_n hx hb dX5_readSum_54 rfl (lv_at hl 2 rfl) ?_
            refine cv_v (As := []) (rest := []) (b := w) ⟨hx, hb, hml, hown, hts⟩ (c_X5_step hT (w := w) hw) (cwV 0 hts gX5_readSum_X5_step rfl rfl rfl hdX5_step_v ⟨Nat.le_of_ble_eq_true rfl, Nat.le_of_ble_eq_true rfl⟩) hN hE hL (rcv6 hN hT hw.1) rfl rfl hl.1 (Nat.le_of_ble_eq_true rfl) dX5_readSum_55 (Nat.zero_le _) (Nat.zero_le _) (fun H1 locs hL hqr1927 => ?_)
            obtain ⟨hT1, hF1, hqr1927⟩ := hqr1927
            have hF := hF.tr (hF1.mono (by simp))
            have hT := hT1
            have f1928 := hqr1927
            refine lv_aload_n hx hb dX5_readSum_58 rfl (lv_at hl 2 rfl) ?_
            refine lv_iload_n hx hb dX5_readSum_59 rfl (lv_at hl 3 rfl) ?_
            refine cv_i (As := [.int 0]) (rest := []) (b := w) ⟨hx, hb, hml, hown, hts⟩ (c_X5_readTerm_d0 hT (w := w) hw) (cwV 1 hts gX5_readSum_X5_readTerm rfl rfl rfl hdX5_readTerm_v ⟨Nat.le_of_ble_eq_true rfl, Nat.le_of_ble_eq_true rfl⟩) hN hE hL (rcv6 hN hT hw.1) rfl rfl hl.1 (Nat.le_of_ble_eq_true rfl) dX5_readSum_60 (Nat.zero_le _) (Nat.zero_le _) (fun r1929 H1 locs hL hqr1929 => ?_)
            obtain ⟨hT1, hF1, hqr1929⟩ := hqr1929
            have hF := hF.tr (hF1.mono (by simp))
            have hT := hT1
            rcases hqr1929 with rfl | rfl
            · refine lv_if_ne (tgt := 68) hx hb dX5_readSum_63 (by decide) (fun c9 => absurd (by decide) c9) (fun _ => ?_)
              refine lv_iconst (v := 0) hx hb dX5_readSum_66 (by decide) ?_
              exact en_i hx hb hr hlocks hL rfl (Nat.zero_le _) (Nat.zero_le _) dX5_readSum_67 (⟨hT, hF, Or.inl rfl⟩)
            · refine lv_if_ne (tgt := 68) hx hb dX5_readSum_63 (by decide) (fun _ => ?_) (fun c9 => absurd c9 (by decide))
              refine lv_aload_n hx hb dX5_readSum_68 rfl (lv_at hl 2 rfl) ?_
              refine lv_iload_n hx hb dX5_readSum_69 rfl (lv_at hl 0 rfl) ?_
              refine cv_v (As := [.int (-5)]) (rest := []) (b := w) ⟨hx, hb, hml, hown, hts⟩ (c_X5_putCode hT (w := w) hw (x := (-5))) (cwV 1 hts gX5_readSum_X5_putCode rfl rfl rfl hdX5_putCode_v ⟨Nat.le_of_ble_eq_true rfl, Nat.le_of_ble_eq_true rfl⟩) hN hE hL (rcv6 hN hT hw.1) rfl rfl hl.1 (Nat.le_of_ble_eq_true rfl) dX5_readSum_70 (Nat.zero_le _) (Nat.zero_le _) (fun H1 locs hL hqr1930 => ?_)
              obtain ⟨hT1, hF1⟩ := hqr1930
              have hF := hF.tr (hF1.mono (by simp))
              have hT := hT1
              refine lv_iinc (v := (nI (k + 1))) (lv' := [(2, .int (nI (k + 1))), (3, .int (-5)), (0, .ref w), (1, .int 0)]) hx hb dX5_readSum_73 hl (k := 1) rfl (nI_add _ 1) (by decide) rfl (fun ls hl => ?_)
              refine lv_goto (tgt := 12) hx hb dX5_readSum_76 (by decide) ?_
              exact ih1918 (k + 1) _ _ _ (by show 600 - ((k + 1)) < 600 - k; omega) ⟨(by show ((k + 1)) ≤ 600; omega), hT, hF, hL⟩ (lv_sub hl [0, 2, 3] rfl)
      · refine lv_if_ne (tgt := 37) hx hb dX5_readSum_25 (by decide) (fun _ => ?_) (fun c9 => absurd c9 (by decide))
        refine lv_aload_n hx hb dX5_readSum_37 rfl (lv_at hl 1 rfl) ?_
        refine lv_bipush (v := 43) hx hb dX5_readSum_38 (by decide) ?_
        refine cv_i (As := [.int 43]) (rest := []) (b := w) ⟨hx, hb, hml, hown, hts⟩ (c_X5_isMark hT (w := w) hw (x := 43)) (cwV 1 hts gX5_readSum_X5_isMark rfl rfl rfl hdX5_isMark_v ⟨Nat.le_of_ble_eq_true rfl, Nat.le_of_ble_eq_true rfl⟩) hN hE hL (rcv6 hN hT hw.1) rfl rfl hl.1 (Nat.le_of_ble_eq_true rfl) dX5_readSum_40 (Nat.zero_le _) (Nat.zero_le _) (fun r1931 H1 locs hL hqr1931 => ?_)
        obtain ⟨h9, hqr1931⟩ := hqr1931; replace h9 := h9.symm; subst h9
        rcases hqr1931 with rfl | rfl
        · refine lv_if_eq (tgt := 51) hx hb dX5_readSum_43 (by decide) (fun _ => ?_) (fun c9 => absurd (by decide) c9)
          refine lv_bipush (v := (-6)) hx hb dX5_readSum_51 (by decide) ?_
          refine lv_istore_n (lv' := [(3, .int (-6)), (2, .int (nI k)), (0, .ref w), (1, .int 0)]) hx hb dX5_readSum_53 rfl hl (by decide) rfl (fun ls hl => ?_)
          refine lv_aload_n hx hb dX5_readSum_54 rfl (lv_at hl 2 rfl) ?_
          refine cv_v (As := []) (rest := []) (b := w) ⟨hx, hb, hml, hown, hts⟩ (c_X5_step hT (w := w) hw) (cwV 0 hts gX5_readSum_X5_step rfl rfl rfl hdX5_step_v ⟨Nat.le_of_ble_eq_true rfl, Nat.le_of_ble_eq_true rfl⟩) hN hE hL (rcv6 hN hT hw.1) rfl rfl hl.1 (Nat.le_of_ble_eq_true rfl) dX5_readSum_55 (Nat.zero_le _) (Nat.zero_le _) (fun H1 locs hL hqr1932 => ?_)
          obtain ⟨hT1, hF1, hqr1932⟩ := hqr1932
          have hF := hF.tr (hF1.mono (by simp))
          have hT := hT1
          have f1933 := hqr1932
          refine lv_aload_n hx hb dX5_readSum_58 rfl (lv_at hl 2 rfl) ?_
          refine lv_iload_n hx hb dX5_readSum_59 rfl (lv_at hl 3 rfl) ?_
          refine cv_i (As := [.int 0]) (rest := []) (b := w) ⟨hx, hb, hml, hown, hts⟩ (c_X5_readTerm_d0 hT (w := w) hw) (cwV 1 hts gX5_readSum_X5_readTerm rfl rfl rfl hdX5_readTerm_v ⟨Nat.le_of_ble_eq_true rfl, Nat.le_of_ble_eq_true rfl⟩) hN hE hL (rcv6 hN hT hw.1) rfl rfl hl.1 (Nat.le_of_ble_eq_true rfl) dX5_readSum_60 (Nat.zero_le _) (Nat.zero_le _) (fun r1934 H1 locs hL hqr1934 => ?_)
          obtain ⟨hT1, hF1, hqr1934⟩ := hqr1934
          have hF := hF.tr (hF1.mono (by simp))
          have hT := hT1
          rcases hqr1934 with rfl | rfl
          · refine lv_if_ne (tgt := 68) hx hb dX5_readSum_63 (by decide) (fun c9 => absurd (by decide) c9) (fun _ => ?_)
            refine lv_iconst (v := 0) hx hb dX5_readSum_66 (by decide) ?_
            exact en_i hx hb hr hlocks hL rfl (Nat.zero_le _) (Nat.zero_le _) dX5_readSum_67 (⟨hT, hF, Or.inl rfl⟩)
          · refine lv_if_ne (tgt := 68) hx hb dX5_readSum_63 (by decide) (fun _ => ?_) (fun c9 => absurd c9 (by decide))
            refine lv_aload_n hx hb dX5_readSum_68 rfl (lv_at hl 2 rfl) ?_
            refine lv_iload_n hx hb dX5_readSum_69 rfl (lv_at hl 0 rfl) ?_
            refine cv_v (As := [.int (-6)]) (rest := []) (b := w) ⟨hx, hb, hml, hown, hts⟩ (c_X5_putCode hT (w := w) hw (x := (-6))) (cwV 1 hts gX5_readSum_X5_putCode rfl rfl rfl hdX5_putCode_v ⟨Nat.le_of_ble_eq_true rfl, Nat.le_of_ble_eq_true rfl⟩) hN hE hL (rcv6 hN hT hw.1) rfl rfl hl.1 (Nat.le_of_ble_eq_true rfl) dX5_readSum_70 (Nat.zero_le _) (Nat.zero_le _) (fun H1 locs hL hqr1935 => ?_)
            obtain ⟨hT1, hF1⟩ := hqr1935
            have hF := hF.tr (hF1.mono (by simp))
            have hT := hT1
            refine lv_iinc (v := (nI (k + 1))) (lv' := [(2, .int (nI (k + 1))), (3, .int (-6)), (0, .ref w), (1, .int 0)]) hx hb dX5_readSum_73 hl (k := 1) rfl (nI_add _ 1) (by decide) rfl (fun ls hl => ?_)
            refine lv_goto (tgt := 12) hx hb dX5_readSum_76 (by decide) ?_
            exact ih1918 (k + 1) _ _ _ (by show 600 - ((k + 1)) < 600 - k; omega) ⟨(by show ((k + 1)) ≤ 600; omega), hT, hF, hL⟩ (lv_sub hl [0, 2, 3] rfl)
        · refine lv_if_eq (tgt := 51) hx hb dX5_readSum_43 (by decide) (fun c9 => absurd c9 (by decide)) (fun _ => ?_)
          refine lv_bipush (v := (-5)) hx hb dX5_readSum_46 (by decide) ?_
          refine lv_goto (tgt := 53) hx hb dX5_readSum_48 (by decide) ?_
          refine lv_istore_n (lv' := [(3, .int (-5)), (2, .int (nI k)), (0, .ref w), (1, .int 0)]) hx hb dX5_readSum_53 rfl hl (by decide) rfl (fun ls hl => ?_)
          refine lv_aload_n hx hb dX5_readSum_54 rfl (lv_at hl 2 rfl) ?_
          refine cv_v (As := []) (rest := []) (b := w) ⟨hx, hb, hml, hown, hts⟩ (c_X5_step hT (w := w) hw) (cwV 0 hts gX5_readSum_X5_step rfl rfl rfl hdX5_step_v ⟨Nat.le_of_ble_eq_true rfl, Nat.le_of_ble_eq_true rfl⟩) hN hE hL (rcv6 hN hT hw.1) rfl rfl hl.1 (Nat.le_of_ble_eq_true rfl) dX5_readSum_55 (Nat.zero_le _) (Nat.zero_le _) (fun H1 locs hL hqr1936 => ?_)
          obtain ⟨hT1, hF1, hqr1936⟩ := hqr1936
          have hF := hF.tr (hF1.mono (by simp))
          have hT := hT1
          have f1937 := hqr1936
          refine lv_aload_n hx hb dX5_readSum_58 rfl (lv_at hl 2 rfl) ?_
          refine lv_iload_n hx hb dX5_readSum_59 rfl (lv_at hl 3 rfl) ?_
          refine cv_i (As := [.int 0]) (rest := []) (b := w) ⟨hx, hb, hml, hown, hts⟩ (c_X5_readTerm_d0 hT (w := w) hw) (cwV 1 hts gX5_readSum_X5_readTerm rfl rfl rfl hdX5_readTerm_v ⟨Nat.le_of_ble_eq_true rfl, Nat.le_of_ble_eq_true rfl⟩) hN hE hL (rcv6 hN hT hw.1) rfl rfl hl.1 (Nat.le_of_ble_eq_true rfl) dX5_readSum_60 (Nat.zero_le _) (Nat.zero_le _) (fun r1938 H1 locs hL hqr1938 => ?_)
          obtain ⟨hT1, hF1, hqr1938⟩ := hqr1938
          have hF := hF.tr (hF1.mono (by simp))
          have hT := hT1
          rcases hqr1938 with rfl | rfl
          · refine lv_if_ne (tgt := 68) hx hb dX5_readSum_63 (by decide) (fun c9 => absurd (by decide) c9) (fun _ => ?_)
            refine lv_iconst (v := 0) hx hb dX5_readSum_66 (by decide) ?_
            exact en_i hx hb hr hlocks hL rfl (Nat.zero_le _) (Nat.zero_le _) dX5_readSum_67 (⟨hT, hF, Or.inl rfl⟩)
          · refine lv_if_ne (tgt := 68) hx hb dX5_readSum_63 (by decide) (fun _ => ?_) (fun c9 => absurd c9 (by decide))
            refine lv_aload_n hx hb dX5_readSum_68 rfl (lv_at hl 2 rfl) ?_
            refine lv_iload_n hx hb dX5_readSum_69 rfl (lv_at hl 0 rfl) ?_
            refine cv_v (As := [.int (-5)]) (rest := []) (b := w) ⟨hx, hb, hml, hown, hts⟩ (c_X5_putCode hT (w := w) hw (x := (-5))) (cwV 1 hts gX5_readSum_X5_putCode rfl rfl rfl hdX5_putCode_v ⟨Nat.le_of_ble_eq_true rfl, Nat.le_of_ble_eq_true rfl⟩) hN hE hL (rcv6 hN hT hw.1) rfl rfl hl.1 (Nat.le_of_ble_eq_true rfl) dX5_readSum_70 (Nat.zero_le _) (Nat.zero_le _) (fun H1 locs hL hqr1939 => ?_)
            obtain ⟨hT1, hF1⟩ := hqr1939
            have hF := hF.tr (hF1.mono (by simp))
            have hT := hT1
            refine lv_iinc (v := (nI (k + 1))) (lv' := [(2, .int (nI (k + 1))), (3, .int (-5)), (0, .ref w), (1, .int 0)]) hx hb dX5_readSum_73 hl (k := 1) rfl (nI_add _ 1) (by decide) rfl (fun ls hl => ?_)
            refine lv_goto (tgt := 12) hx hb dX5_readSum_76 (by decide) ?_
            exact ih1918 (k + 1) _ _ _ (by show 600 - ((k + 1)) < 600 - k; omega) ⟨(by show ((k + 1)) ≤ 600; omega), hT, hF, hL⟩ (lv_sub hl [0, 2, 3] rfl)
