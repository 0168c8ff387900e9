set_option maxHeartbeats 4000000 in
set_option maxRecDepth 100000 in
theorem c_X5_readSum_d1 {l : Launch} {D : va_G} {cs : Nat → ClassId} {B0 T : Nat} {κ : KM} {H0 : Heap} (hT : WT B0 D cs T κ H0) {w : Nat} (hw : T2 κ w 6 10) : KC l yX5_readSum wsX5_readSum 17 376 0 0 D cs B0 H0 [.ref w, .int 1] (Qi (fun r H => WT B0 D cs T κ H ∧ Fr B0 [10] κ H0 H ∧ (r = 0 ∨ r = 1))) := by
  refine KC.of cX5_readSum 4 (some .boolean) (by decide) rfl (Nat.le_of_ble_eq_true rfl) ?_
  intro p e s m below meth c ls hx hb hr hml hown hts hlocks hin hN hE hH0 hl
  have hown : s.vm.findClass RX5 = some m.cls := hown
  have hl : lv_has ls 4 [(0, .ref w), (1, .int 1)] := hl
  have hL : OkL B0 [] := OkL.nil
  have hF : Fr B0 [10] κ H0 H0 := Fr.rf
  refine lv_aload_n hx hb dX5_readSum_0 rfl (lv_at hl 0 rfl) ?_
  refine lv_iload_n hx hb dX5_readSum_1 rfl (lv_at hl 1 rfl) ?_
  refine cv_i (As := [.int 1]) (rest := []) (b := w) ⟨hx, hb, hml, hown, hts⟩ (c_X5_readTerm_d1 hT (w := w) hw) (cwV 1 hts gX5_readSum_X5_readTerm rfl rfl rfl hdX5_readTerm_v ⟨Nat.le_of_ble_eq_true rfl, Nat.le_of_ble_eq_true rfl⟩) hN hE hL (rcv6 hN hT hw.1) rfl rfl hl.1 (Nat.le_of_ble_eq_true rfl) dX5_readSum_2 (Nat.zero_le _) (Nat.zero_le _) (fun r1848 H1 locs hL hqr1848 => ?_)
  obtain ⟨hT1, hF1, hqr1848⟩ := hqr1848
  have hF := hF.tr (hF1.mono (by simp))
  have hT := hT1
  rcases hqr1848 with rfl | rfl
  · refine lv_if_ne (tgt := 10) hx hb dX5_readSum_5 (by decide) (fun c9 => absurd (by decide) c9) (fun _ => ?_)
    refine lv_iconst (v := 0) hx hb dX5_readSum_8 (by decide) ?_
    exact en_i hx hb hr hlocks hL rfl (Nat.zero_le _) (Nat.zero_le _) dX5_readSum_9 (⟨hT, hF, Or.inl rfl⟩)
  · refine lv_if_ne (tgt := 10) hx hb dX5_readSum_5 (by decide) (fun _ => ?_) (fun c9 => absurd c9 (by decide))
    refine lv_iconst (v := 0) hx hb dX5_readSum_10 (by decide) ?_
    refine lv_istore_n (lv' := [(2, .int 0), (0, .ref w), (1, .int 1)]) hx hb dX5_readSum_11 rfl hl (by decide) rfl (fun ls hl => ?_)
    refine lp_m (α := Nat) (nL := 4) (fun a9 => 600 - a9) (fun a9 H9 l9 => (a9 ≤ 600) ∧ (WT B0 D cs T κ H9) ∧ (Fr B0 [10] κ H0 H9) ∧ (OkL B0 l9)) (fun a9 => [(2, .int (nI a9)), (0, .ref w), (1, .int 1)]) ?_ 0 _ _ _ ⟨(by show (0) ≤ 600; omega), hT, hF, hL⟩ (lv_sub hl [0, 1, 2] rfl)
    rintro k H locs ls ih1849 ⟨hk, hT, hF, hL⟩ hl
    have hl : lv_has ls 4 [(2, .int (nI k)), (0, .ref w), (1, .int 1)] := hl
    have hk : k ≤ 600 := hk
    refine lv_iload_n hx hb dX5_readSum_12 rfl (lv_at hl 0 rfl) ?_
    refine lv_sipush (v := 600) hx hb dX5_readSum_13 (by decide) ?_
    refine lv_icmp_ge (tgt := 79) hx hb dX5_readSum_16 (by decide) (fun c1850 => ?_) (fun c1850 => ?_)
    · have c1850 : 600 ≤ k := (nI_leI (a := 600) (b := k) (by omega) (by omega)).mp c1850
      refine lv_iconst (v := 1) hx hb dX5_readSum_79 (by decide) ?_
      exact en_i hx hb hr hlocks hL rfl (Nat.zero_le _) (Nat.zero_le _) dX5_readSum_80 (⟨hT, hF, Or.inr rfl⟩)
    · have c1850 : ¬ 600 ≤ k := fun h9 => c1850 ((nI_leI (a := 600) (b := k) (by omega) (by omega)).mpr h9)
      refine lv_aload_n hx hb dX5_readSum_19 rfl (lv_at hl 1 rfl) ?_
      refine lv_bipush (v := 43) hx hb dX5_readSum_20 (by decide) ?_
      refine cv_i (As := [.int 43]) (rest := []) (b := w) ⟨hx, hb, hml, hown, hts⟩ (c_X5_isMark hT (w := w) hw (x := 43)) (cwV 1 hts gX5_readSum_X5_isMark rfl rfl rfl hdX5_isMark_v ⟨Nat.le_of_ble_eq_true rfl, Nat.le_of_ble_eq_true rfl⟩) hN hE hL (rcv6 hN hT hw.1) rfl rfl hl.1 (Nat.le_of_ble_eq_true rfl) dX5_readSum_22 (Nat.zero_le _) (Nat.zero_le _) (fun r1851 H1 locs hL hqr1851 => ?_)
      obtain ⟨h9, hqr1851⟩ := hqr1851; replace h9 := h9.symm; subst h9
      rcases hqr1851 with rfl | rfl
      · refine lv_if_ne (tgt := 37) hx hb dX5_readSum_25 (by decide) (fun c9 => absurd (by decide) c9) (fun _ => ?_)
        refine lv_aload_n hx hb dX5_readSum_28 rfl (lv_at hl 1 rfl) ?_
        refine lv_bipush (v := 45) hx hb dX5_readSum_29 (by decide) ?_
        refine cv_i (As := [.int 45]) (rest := []) (b := w) ⟨hx, hb, hml, hown, hts⟩ (c_X5_isMark hT (w := w) hw (x := 45)) (cwV 1 hts gX5_readSum_X5_isMark rfl rfl rfl hdX5_isMark_v ⟨Nat.le_of_ble_eq_true rfl, Nat.le_of_ble_eq_true rfl⟩) hN hE hL (rcv6 hN hT hw.1) rfl rfl hl.1 (Nat.le_of_ble_eq_true rfl) dX5_readSum_31 (Nat.zero_le _) (Nat.zero_le _) (fun r1852 H1 locs hL hqr1852 => ?_)
        obtain ⟨h9, hqr1852⟩ := hqr1852; replace h9 := h9.symm; subst h9
        rcases hqr1852 with rfl | rfl
        · refine lv_if_eq (tgt := 79) hx hb dX5_readSum_34 (by decide) (fun _ => ?_) (fun c9 => absurd (by decide) c9)
          refine lv_iconst (v := 1) hx hb dX5_readSum_79 (by decide) ?_
          exact en_i hx hb hr hlocks hL rfl (Nat.zero_le _) (Nat.zero_le _) dX5_readSum_80 (⟨hT, hF, Or.inr rfl⟩)
        · refine lv_if_eq (tgt := 79) hx hb dX5_readSum_34 (by decide) (fun c9 => absurd c9 (by decide)) (fun _ => ?_)
          refine lv_aload_n hx hb dX5_readSum_37 rfl (lv_at hl 1 rfl) ?_
          refine lv_bipush (v := 43) hx hb dX5_readSum_38 (by decide) ?_
          refine cv_i (As := [.int 43]) (rest := []) (b := w) ⟨hx, hb, hml, hown, hts⟩ (c_X5_isMark hT (w := w) hw (x := 43)) (cwV 1 hts gX5_readSum_X5_isMark rfl rfl rfl hdX5_isMark_v ⟨Nat.le_of_ble_eq_true rfl, Nat.le_of_ble_eq_true rfl⟩) hN hE hL (rcv6 hN hT hw.1) rfl rfl hl.1 (Nat.le_of_ble_eq_true rfl) dX5_readSum_40 (Nat.zero_le _) (Nat.zero_le _) (fun r1853 H1 locs hL hqr1853 => ?_)
          obtain ⟨h9, hqr1853⟩ := hqr1853; replace h9 := h9.symm; subst h9
          rcases hqr1853 with rfl | rfl
          · refine lv_if_eq (tgt := 51) hx hb dX5_readSum_43 (by decide) (fun _ => ?_) (fun c9 => absurd (by decide) c9)
            refine lv_bipush (v := (-6)) hx hb dX5_readSum_51 (by decide) ?_
            refine lv_istore_n (lv' := [(3, .int (-6)), (2, .int (nI k)), (0, .ref w), (1, .int 1)]) hx hb dX5_readSum_53 rfl hl (by decide) rfl (fun ls hl => ?_)
            refine lv_aload_n hx hb dX5_readSum_54 rfl (lv_at hl 2 rfl) ?_
            refine cv_v (As := []) (rest := []) (b := w) ⟨hx, hb, hml, hown, hts⟩ (c_X5_step hT (w := w) hw) (cwV 0 hts gX5_readSum_X5_step rfl rfl rfl hdX5_step_v ⟨Nat.le_of_ble_eq_true rfl, Nat.le_of_ble_eq_true rfl⟩) hN hE hL (rcv6 hN hT hw.1) rfl rfl hl.1 (Nat.le_of_ble_eq_true rfl) dX5_readSum_55 (Nat.zero_le _) (Nat.zero_le _) (fun H1 locs hL hqr1854 => ?_)
            obtain ⟨hT1, hF1, hqr1854⟩ := hqr1854
            have hF := hF.tr (hF1.mono (by simp))
            have hT := hT1
            have f1855 := hqr1854
            refine lv_aload_n hx hb dX5_readSum_58 rfl (lv_at hl 2 rfl) ?_
            refine lv_iload_n hx hb dX5_readSum_59 rfl (lv_at hl 3 rfl) ?_
            refine cv_i (As := [.int 1]) (rest := []) (b := w) ⟨hx, hb, hml, hown, hts⟩ (c_X5_readTerm_d1 hT (w := w) hw) (cwV 1 hts gX5_readSum_X5_readTerm rfl rfl rfl hdX5_readTerm_v ⟨Nat.le_of_ble_eq_true rfl, Nat.le_of_ble_eq_true rfl⟩) hN hE hL (rcv6 hN hT hw.1) rfl rfl hl.1 (Nat.le_of_ble_eq_true rfl) dX5_readSum_60 (Nat.zero_le _) (Nat.zero_le _) (fun r1856 H1 locs hL hqr1856 => ?_)
            obtain ⟨hT1, hF1, hqr1856⟩ := hqr1856
            have hF := hF.tr (hF1.mono (by simp))
            have hT := hT1
            rcases hqr1856 with rfl | rfl
            · refine lv_if_ne (tgt := 68) hx hb dX5_readSum_63 (by decide) (fun c9 => absurd (by decide) c9) (fun _ => ?_)
              refine lv_iconst (v := 0) hx hb dX5_readSum_66 (by decide) ?_
              exact en_i hx hb hr hlocks hL rfl (Nat.zero_le _) (Nat.zero_le _) dX5_readSum_67 (⟨hT, hF, Or.inl rfl⟩)
            · refine lv_if_ne (tgt := 68) hx hb dX5_readSum_63 (by decide) (fun _ => ?_) (fun c9 => absurd c9 (by decide))
              refine lv_aload_n hx hb dX5_readSum_68 rfl (lv_at hl 2 rfl) ?_
              refine lv_iload_n hx hb dX5_readSum_69 rfl (lv_at hl 0 rfl) ?_
              refine cv_v (As := [.int (-6)]) (rest := []) (b := w) ⟨hx, hb, hml, hown, hts⟩ (c_X5_putCode hT (w := w) hw (x := (-6))) (cwV 1 hts gX5_readSum_X5_putCode rfl rfl rfl hdX5_putCode_v ⟨Nat.le_of_ble_eq_true rfl, Nat.le_of_ble_eq_true rfl⟩) hN hE hL (rcv6 hN hT hw.1) rfl rfl hl.1 (Nat.le_of_ble_eq_true rfl) dX5_readSum_70 (Nat.zero_le _) (Nat.zero_le _) (fun H1 locs hL hqr1857 => ?_)
              obtain ⟨hT1, hF1⟩ := hqr1857
              have hF := hF.tr (hF1.mono (by simp))
              have hT := hT1
              refine lv_iinc (v := (nI (k + 1))) (lv' := [(2, .int (nI (k + 1))), (3, .int (-6)), (0, .ref w), (1, .int 1)]) hx hb dX5_readSum_73 hl (k := 1) rfl (nI_add _ 1) (by decide) rfl (fun ls hl => ?_)
              refine lv_goto (tgt := 12) hx hb dX5_readSum_76 (by decide) ?_
              exact ih1849 (k + 1) _ _ _ (by show 600 - ((k + 1)) < 600 - k; omega) ⟨(by show ((k + 1)) ≤ 600; omega), hT, hF, hL⟩ (lv_sub hl [0, 2, 3] rfl)
          · refine lv_if_eq (tgt := 51) hx hb dX5_readSum_43 (by decide) (fun c9 => absurd c9 (by decide)) (fun _ => ?_)
            refine lv_bipush (v := (-5)) hx hb dX5_readSum_46 (by decide) ?_
            refine lv_goto (tgt := 53) hx hb dX5_readSum_48 (by decide) ?_
            refine lv_istore_n (lv' := [(3, .int (-5)), (2, .int (nI k)), (0, .ref w), (1, .int 1)]) hx hb dX5_readSum_53 rfl hl (by decide) rfl (fun ls hl => ?_)
            refine lv_aload_n hx hb dX5_readSum_54 rfl (lv_at hl 2 rfl) ?_
            refine cv_v (As := []) (rest := []) (b := w) ⟨hx, hb, hml, hown, hts⟩ (c_X5_step hT (w := w) hw) (cwV 0 hts gX5_readSum_X5_step rfl rfl rfl hdX5_step_v ⟨Nat.le_of_ble_eq_true rfl, Nat.le_of_ble_eq_true rfl⟩) hN hE hL (rcv6 hN hT hw.1) rfl rfl hl.1 (Nat.le_of_ble_eq_true rfl) dX5_readSum_55 (Nat.zero_le _) (Nat.zero_le _) (fun H1 locs hL hqr1858 => ?_)
            obtain ⟨hT1, hF1, hqr1858⟩ := hqr1858
            have hF := hF.tr (hF1.mono (by simp))
            have hT := hT1
            have f1859 := hqr1858
            refine lv_aload_n hx hb dX5_readSum_58 rfl (lv_at hl 2 rfl) ?_
            refine lv_iload_n hx hb dX5_readSum_59 rfl (lv_at hl 3 rfl) ?_
            refine cv_i (As := [.int 1]) (rest := []) (b := w) ⟨hx, hb, hml, hown, hts⟩ (c_X5_readTerm_d1 hT (w := w) hw) (cwV 1 hts gX5_readSum_X5_readTerm rfl rfl rfl hdX5_readTerm_v ⟨Nat.le_of_ble_eq_true rfl, Nat.le_of_ble_eq_true rfl⟩) hN hE hL (rcv6 hN hT hw.1) rfl rfl hl.1 (Nat.le_of_ble_eq_true rfl) dX5_readSum_60 (Nat.zero_le _) (Nat.zero_le _) (fun r1860 H1 locs hL hqr1860 => ?_)
            obtain ⟨hT1, hF1, hqr1860⟩ := hqr1860
            have hF := hF.tr (hF1.mono (by simp))
            have hT := hT1
            rcases hqr1860 with rfl | rfl
            · refine lv_if_ne (tgt := 68) hx hb dX5_readSum_63 (by decide) (fun c9 => absurd (by decide) c9) (fun _ => ?_)
              refine lv_iconst (v := 0) hx hb dX5_readSum_66 (by decide) ?_
              exact en_i hx hb hr hlocks hL rfl (Nat.zero_le _) (Nat.zero_le _) dX5_readSum_67 (⟨hT, hF, Or.inl rfl⟩)
            · refine lv_if_ne (tgt := 68) hx hb dX5_readSum_63 (by decide) (fun _ => ?_) (fun c9 => absurd c9 (by decide))
              refine lv_aload_n hx hb dX5_readSum_68 rfl (lv_at hl 2 rfl) ?_
              refine lv_iload_n hx hb dX5_readSum_69 rfl (lv_at hl 0 rfl) ?_
              refine cv_v (As := [.int (-5)]) (rest := []) (b := w) ⟨hx, hb, hml, hown, hts⟩ (c_X5_putCode hT (w := w) hw (x := (-5))) (cwV 1 hts gX5_readSum_X5_putCode rfl rfl rfl hdX5_putCode_v ⟨Nat.le_of_ble_eq_true rfl, Nat.le_of_ble_eq_true rfl⟩) hN hE hL (rcv6 hN hT hw.1) rfl rfl hl.1 (Nat.le_of_ble_eq_true rfl) dX5_readSum_70 (Nat.zero_le _) (Nat.zero_le _) (fun H1 locs hL hqr1861 => ?_)
              obtain ⟨hT1, hF1⟩ := hqr1861
              have hF := hF.tr (hF1.mono (by simp))
              have hT := hT1
              refine lv_iinc (v := (nI (k + 1))) (lv' := [(2, .int (nI (k + 1))), (3, .int (-5)), (0, .ref w), (1, .int 1)]) hx hb dX5_readSum_73 hl (k := 1) rfl (nI_add _ 1) (by decide) rfl (fun ls hl => ?_)
              refine lv_goto (tgt := 12) hx hb dX5_readSum_76 (by decide) ?_
              exact ih1849 (k + 1) _ _ _ (by show 600 - ((k + 1)) < 600 - k; omega) ⟨(by show ((k + 1)) ≤ 600; omega), hT, hF, hL⟩ (lv_sub hl [0, 2, 3] rfl)
      · refine lv_if_ne (tgt := 37) hx hb dX5_readSum_25 (by decide) (fun _ => ?_) (fun c9 => absurd c9 (by decide))
        refine lv_aload_n hx hb dX5_readSum_37 rfl (lv_at hl 1 rfl) ?_
        refine lv_bipush (v := 43) hx hb dX5_readSum_38 (by decide) ?_
        refine cv_i (As := [.int 43]) (rest := []) (b := w) ⟨hx, hb, hml, hown, hts⟩ (c_X5_isMark hT (w := w) hw (x := 43)) (cwV 1 hts gX5_readSum_X5_isMark rfl rfl rfl hdX5_isMark_v ⟨Nat.le_of_ble_eq_true rfl, Nat.le_of_ble_eq_true rfl⟩) hN hE hL (rcv6 hN hT hw.1) rfl rfl hl.1 (Nat.le_of_ble_eq_true rfl) dX5_readSum_40 (Nat.zero_le _) (Nat.zero_le _) (fun r1862 H1 locs hL hqr1862 => ?_)
        obtain ⟨h9, hqr1862⟩ := hqr1862; replace h9 := h9.symm; subst h9
        rcases hqr1862 with rfl | rfl
        · refine lv_if_eq (tgt := 51) hx hb dX5_readSum_43 (by decide) (fun _ => ?_) (fun c9 => absurd (by decide) c9)
          refine lv_bipush (v := (-6)) hx hb dX5_readSum_51 (by decide) ?_
          refine lv_istore_n (lv' := [(3, .int (-6)), (2, .int (nI k)), (0, .ref w), (1, .int 1)]) hx hb dX5_readSum_53 rfl hl (by decide) rfl (fun ls hl => ?_)
          refine lv_aload_n hx hb dX5_readSum_54 rfl (lv_at hl 2 rfl) ?_
          refine cv_v (As := []) (rest := []) (b := w) ⟨hx, hb, hml, hown, hts⟩ (c_X5_step hT (w := w) hw) (cwV 0 hts gX5_readSum_X5_step rfl rfl rfl hdX5_step_v ⟨Nat.le_of_ble_eq_true rfl, Nat.le_of_ble_eq_true rfl⟩) hN hE hL (rcv6 hN hT hw.1) rfl rfl hl.1 (Nat.le_of_ble_eq_true rfl) dX5_readSum_55 (Nat.zero_le _) (Nat.zero_le _) (fun H1 locs hL hqr1863 => ?_)
          obtain ⟨hT1, hF1, hqr1863⟩ := hqr1863
          have hF := hF.tr (hF1.mono (by simp))
          have hT := hT1
          have f1864 := hqr1863
          refine lv_aload_n hx hb dX5_readSum_58 rfl (lv_at hl 2 rfl) ?_
          refine lv_iload_n hx hb dX5_readSum_59 rfl (lv_at hl 3 rfl) ?_
          refine cv_i (As := [.int 1]) (rest := []) (b := w) ⟨hx, hb, hml, hown, hts⟩ (c_X5_readTerm_d1 hT (w := w) hw) (cwV 1 hts gX5_readSum_X5_readTerm rfl rfl rfl hdX5_readTerm_v ⟨Nat.le_of_ble_eq_true rfl, Nat.le_of_ble_eq_true rfl⟩) hN hE hL (rcv6 hN hT hw.1) rfl rfl hl.1 (Nat.le_of_ble_eq_true rfl) dX5_readSum_60 (Nat.zero_le _) (Nat.zero_le _) (fun r1865 H1 locs hL hqr1865 => ?_)
          obtain ⟨hT1, hF1, hqr1865⟩ := hqr1865
          have hF := hF.tr (hF1.mono (by simp))
          have hT := hT1
          rcases hqr1865 with rfl | rfl
          · refine lv_if_ne (tgt := 68) hx hb dX5_readSum_63 (by decide) (fun c9 => absurd (by decide) c9) (fun _ => ?_)
            refine lv_iconst (v := 0) hx hb dX5_readSum_66 (by decide) ?_
            exact en_i hx hb hr hlocks hL rfl (Nat.zero_le _) (Nat.zero_le _) dX5_readSum_67 (⟨hT, hF, Or.inl rfl⟩)
          · refine lv_if_ne (tgt := 68) hx hb dX5_readSum_63 (by decide) (fun _ => ?_) (fun c9 => absurd c9 (by decide))
            refine lv_aload_n hx hb dX5_readSum_68 rfl (lv_at hl 2 rfl) ?_
            refine lv_iload_n hx hb dX5_readSum_69 rfl (lv_at hl 0 rfl) ?_
            refine cv_v (As := [.int (-6)]) (rest := []) (b := w) ⟨hx, hb, hml, hown, hts⟩ (c_X5_putCode hT (w := w) hw (x := (-6))) (cwV 1 hts gX5_readSum_X5_putCode rfl rfl rfl hdX5_putCode_v ⟨Nat.le_of_ble_eq_true rfl, Nat.le_of_ble_eq_true rfl⟩) hN hE hL (rcv6 hN hT hw.1) rfl rfl hl.1 (Nat.le_of_ble_eq_true rfl) dX5_readSum_70 (Nat.zero_le _) (Nat.zero_le _) (fun H1 locs hL hqr1866 => ?_)
            obtain ⟨hT1, hF1⟩ := hqr1866
            have hF := hF.tr (hF1.mono (by simp))
            have hT := hT1
            refine lv_iinc (v := (nI (k + 1))) (lv' := [(2, .int (nI (k + 1))), (3, .int (-6)), (0, .ref w), (1, .int 1)]) hx hb dX5_readSum_73 hl (k := 1) rfl (nI_add _ 1) (by decide) rfl (fun ls hl => ?_)
            refine lv_goto (tgt := 12) hx hb dX5_readSum_76 (by decide) ?_
            exact ih1849 (k + 1) _ _ _ (by show 600 - ((k + 1)) < 600 - k; omega) ⟨(by show ((k + 1)) ≤ 600; omega), hT, hF, hL⟩ (lv_sub hl [0, 2, 3] rfl)
        · refine lv_if_eq (tgt := 51) hx hb dX5_readSum_43 (by decide) (fun c9 => absurd c9 (by decide)) (fun _ => ?_)
          refine lv_bipush (v := (-5)) hx hb dX5_readSum_46 (by decide) ?_
          refine lv_goto (tgt := 53) hx hb dX5_readSum_48 (by decide) ?_
          refine lv_istore_n (lv' := [(3, .int (-5)), (2, .int (nI k)), (0, .ref w), (1, .int 1)]) hx hb dX5_readSum_53 rfl hl (by decide) rfl (fun ls hl => ?_)
          refine lv_aload_n hx hb dX5_readSum_54 rfl (lv_at hl 2 rfl) ?_
          refine cv_v (As := []) (rest := []) (b := w) ⟨hx, hb, hml, hown, hts⟩ (c_X5_step hT (w := w) hw) (cwV 0 hts gX5_readSum_X5_step rfl rfl rfl hdX5_step_v ⟨Nat.le_of_ble_eq_true rfl, Nat.le_of_ble_eq_true rfl⟩) hN hE hL (rcv6 hN hT hw.1) rfl rfl hl.1 (Nat.le_of_ble_eq_true rfl) dX5_readSum_55 (Nat.zero_le _) (Nat.zero_le _) (fun H1 locs hL hqr1867 => ?_)
          obtain ⟨hT1, hF1, hqr1867⟩ := hqr1867
          have hF := hF.tr (hF1.mono (by simp))
          have hT := hT1
          have f1868 := hqr1867
          refine lv_aload_n hx hb dX5_readSum_58 rfl (lv_at hl 2 rfl) ?_
          refine lv_iload_n hx hb dX5_readSum_59 rfl (lv_at hl 3 rfl) ?_
          refine cv_i (As := [.int 1]) (rest := []) (b := w) ⟨hx, hb, hml, hown, hts⟩ (c_X5_readTerm_d1 hT (w := w) hw) (cwV 1 hts gX5_readSum_X5_readTerm rfl rfl rfl hdX5_readTerm_v ⟨Nat.le_of_ble_eq_true rfl, Nat.le_of_ble_eq_true rfl⟩) hN hE hL (rcv6 hN hT hw.1) rfl rfl hl.1 (Nat.le_of_ble_eq_true rfl) dX5_readSum_60 (Nat.zero_le _) (Nat.zero_le _) (fun r1869 H1 locs hL hqr1869 => ?_)
          obtain ⟨hT1, hF1, hqr1869⟩ := hqr1869
          have hF := hF.tr (hF1.mono (by simp))
          have hT := hT1
          rcases hqr1869 with rfl | rfl
          · refine lv_if_ne (tgt := 68) hx hb dX5_readSum_63 (by decide) (fun c9 => absurd (by decide) c9) (fun _ => ?_)
            refine lv_iconst (v := 0) hx hb dX5_readSum_66 (by decide) ?_
            exact en_i hx hb hr hlocks hL rfl (Nat.zero_le _) (Nat.zero_le _) dX5_readSum_67 (⟨hT, hF, Or.inl rfl⟩)
          · refine lv_if_ne (tgt := 68) hx hb dX5_readSum_63 (by decide) (fun _ => ?_) (fun c9 => absurd c9 (by decide))
            refine lv_aload_n hx hb dX5_readSum_68 rfl (lv_at hl 2 rfl) ?_
            refine lv_iload_n hx hb dX5_readSum_69 rfl (lv_at hl 0 rfl) ?_
            refine cv_v (As := [.int (-5)]) (rest := []) (b := w) ⟨hx, hb, hml, hown, hts⟩ (c_X5_putCode hT (w := w) hw (x := (-5))) (cwV 1 hts gX5_readSum_X5_putCode rfl rfl rfl hdX5_putCode_v ⟨Nat.le_of_ble_eq_true rfl, Nat.le_of_ble_eq_true rfl⟩) hN hE hL (rcv6 hN hT hw.1) rfl rfl hl.1 (Nat.le_of_ble_eq_true rfl) dX5_readSum_70 (Nat.zero_le _) (Nat.zero_le _) (fun H1 locs hL hqr1870 => ?_)
            obtain ⟨hT1, hF1⟩ := hqr1870
            have hF := hF.tr (hF1.mono (by simp))
            have hT := hT1
            refine lv_iinc (v := (nI (k + 1))) (lv' := [(2, .int (nI (k + 1))), (3, .int (-5)), (0, .ref w), (1, .int 1)]) hx hb dX5_readSum_73 hl (k := 1) rfl (nI_add _ 1) (by decide) rfl (fun ls hl => ?_)
            refine lv_goto (tgt := 12) hx hb dX5_readSum_76 (by decide) ?_
            exact ih1849 (k + 1) _ _ _ (by show 600 - ((k + 1)) < 600 - k; omega) ⟨(by show ((k + 1)) ≤ 600; omega), hT, hF, hL⟩ (lv_sub hl [0, 2, 3] rfl)
set_option maxHeartbeats 4000000 in
set_option maxRecDepth 100000 in
theorem c_X5_readFactor_d0 {l : Launch} {D : va_G} {cs : Nat → ClassId} {B0 T : Nat} {κ : KM} {H0 : Heap} (hT : WT B0 D cs T κ H0) {w : Nat} (hw : T2 κ w 6 10) : KC l yX5_readFactor wsX5_readFactor 18 399 0 0 D cs B0 H0 [.ref w, .int 0] (Qi (fun r H => WT B0 D cs T κ H ∧ Fr B0 [10] κ H0 H ∧ (r = 0 ∨ r = 1))) := by
  refine KC.of cX5_readFactor 3 (some .boolean) (by decide) rfl (Nat.le_of_ble_eq_true rfl) ?_
  intro p e s m below meth c ls hx hb hr hml hown hts hlocks hin hN hE hH0 hl
  have hown : s.vm.findClass RX5 = some m.cls := hown
  have hl : lv_has ls 3 [(0, .ref w), (1, .int 0)] := hl
  have hL : OkL B0 [] := OkL.nil
  have hF : Fr B0 [10] κ H0 H0 := Fr.rf
  refine lv_aload_n hx hb dX5_readFactor_0 rfl (lv_at hl 0 rfl) ?_
  obtain ⟨hb1871, e1871, hat1871, hk1871⟩ := hT.o6 hw.1
  obtain ⟨f1871_0, f1871_2, f1871_3, f1871_4, f1871_5, f1871_6, f1871_7, f1871_8, f1871_9, f1871_10, f1871_11, f1871_12, f1871_13, rfl, c1871_1, c1871_2, c1871_3, c1871_5, c1871_10, t1871_0, t1871_9, c1871_11, c1871_p2⟩ := hk1871
  have hP : va_P D vwCl [(w, .inr (5, [.ref f1871_0, .int (nI ((κ w).2.2.1)), .int (nI f1871_2), .int (nI f1871_3), .int f1871_4, .int (nI f1871_5), .int f1871_6, .int f1871_7, .int f1871_8, .ref f1871_9, .int (nI f1871_10), f1871_11, .int f1871_12, .int f1871_13]))] _ := va_P.cons hat1871 va_P.nil
  refine va_get (D := D) (ci := 5) (v := .int f1871_4) (C := RX5) (T := TX5) (N := 14) hx hb hts iX5_readFactor_5 hown hN.1 hP 0 rfl rfl 4 (by decide) (hts _ mX5_readFactor_1) (fun _ h9 => h9) rfl dX5_readFactor_1 ?_
  refine lv_iconst (v := 1) hx hb dX5_readFactor_4 (by decide) ?_
  refine lv_icmp_ne (tgt := 31) hx hb dX5_readFactor_5 (by decide) (fun c1872 => ?_) (fun c1872 => ?_)
  · refine lv_aload_n hx hb dX5_readFactor_31 rfl (lv_at hl 0 rfl) ?_
    refine lv_bipush (v := 40) hx hb dX5_readFactor_32 (by decide) ?_
    refine cv_i (As := [.int 40]) (rest := []) (b := w) ⟨hx, hb, hml, hown, hts⟩ (c_X5_isMark hT (w := w) hw (x := 40)) (cwV 1 hts gX5_readFactor_X5_isMark rfl rfl rfl hdX5_isMark_v ⟨Nat.le_of_ble_eq_true rfl, Nat.le_of_ble_eq_true rfl⟩) hN hE hL (rcv6 hN hT hw.1) rfl rfl hl.1 (Nat.le_of_ble_eq_true rfl) dX5_readFactor_34 (Nat.zero_le _) (Nat.zero_le _) (fun r1873 H1 locs hL hqr1873 => ?_)
    obtain ⟨h9, hqr1873⟩ := hqr1873; replace h9 := h9.symm; subst h9
    rcases hqr1873 with rfl | rfl
    · refine lv_if_eq (tgt := 85) hx hb dX5_readFactor_37 (by decide) (fun _ => ?_) (fun c9 => absurd (by decide) c9)
      refine lv_aload_n hx hb dX5_readFactor_85 rfl (lv_at hl 0 rfl) ?_
      refine cv_i (As := []) (rest := []) (b := w) ⟨hx, hb, hml, hown, hts⟩ (c_X5_codeOfWord hT (w := w) hw) (cwV 0 hts gX5_readFactor_X5_codeOfWord rfl rfl rfl hdX5_codeOfWord_v ⟨Nat.le_of_ble_eq_true rfl, Nat.le_of_ble_eq_true rfl⟩) hN hE hL (rcv6 hN hT hw.1) rfl rfl hl.1 (Nat.le_of_ble_eq_true rfl) dX5_readFactor_86 (Nat.zero_le _) (Nat.zero_le _) (fun r1874 H1 locs hL hqr1874 => ?_)
      obtain rfl := hqr1874.symm
      refine lv_istore_n (lv' := [(2, .int r1874), (0, .ref w), (1, .int 0)]) hx hb dX5_readFactor_89 rfl hl (by decide) rfl (fun ls hl => ?_)
      refine lv_iload_n hx hb dX5_readFactor_90 rfl (lv_at hl 0 rfl) ?_
      refine lv_if_ne (tgt := 105) hx hb dX5_readFactor_91 (by decide) (fun c1875 => ?_) (fun c1875 => ?_)
      · refine lv_aload_n hx hb dX5_readFactor_105 rfl (lv_at hl 1 rfl) ?_
        refine lv_iload_n hx hb dX5_readFactor_106 rfl (lv_at hl 0 rfl) ?_
        refine cv_v (As := [.int r1874]) (rest := []) (b := w) ⟨hx, hb, hml, hown, hts⟩ (c_X5_putCode hT (w := w) hw (x := r1874)) (cwV 1 hts gX5_readFactor_X5_putCode rfl rfl rfl hdX5_putCode_v ⟨Nat.le_of_ble_eq_true rfl, Nat.le_of_ble_eq_true rfl⟩) hN hE hL (rcv6 hN hT hw.1) rfl rfl hl.1 (Nat.le_of_ble_eq_true rfl) dX5_readFactor_107 (Nat.zero_le _) (Nat.zero_le _) (fun H1 locs hL hqr1876 => ?_)
        obtain ⟨hT1, hF1⟩ := hqr1876
        have hF := hF.tr (hF1.mono (by simp))
        have hT := hT1
        refine lv_aload_n hx hb dX5_readFactor_110 rfl (lv_at hl 1 rfl) ?_
        refine cv_v (As := []) (rest := []) (b := w) ⟨hx, hb, hml, hown, hts⟩ (c_X5_step hT (w := w) hw) (cwV 0 hts gX5_readFactor_X5_step rfl rfl rfl hdX5_step_v ⟨Nat.le_of_ble_eq_true rfl, Nat.le_of_ble_eq_true rfl⟩) hN hE hL (rcv6 hN hT hw.1) rfl rfl hl.1 (Nat.le_of_ble_eq_true rfl) dX5_readFactor_111 (Nat.zero_le _) (Nat.zero_le _) (fun H1 locs hL hqr1877 => ?_)
        obtain ⟨hT1, hF1, hqr1877⟩ := hqr1877
        have hF := hF.tr (hF1.mono (by simp))
        have hT := hT1
        have f1878 := hqr1877
        refine lv_iconst (v := 1) hx hb dX5_readFactor_114 (by decide) ?_
        exact en_i hx hb hr hlocks hL rfl (Nat.zero_le _) (Nat.zero_le _) dX5_readFactor_115 (⟨hT, hF, Or.inr rfl⟩)
      · refine lv_aload_n hx hb dX5_readFactor_94 rfl (lv_at hl 1 rfl) ?_
        refine lv_bipush (v := (-2)) hx hb dX5_readFactor_95 (by decide) ?_
        refine lv_aload_n hx hb dX5_readFactor_97 rfl (lv_at hl 1 rfl) ?_
        refine va_get (D := D) (ci := 5) (v := .int (nI f1871_5)) (C := RX5) (T := TX5) (N := 14) hx hb hts iX5_readFactor_5 hown hN.1 hP 0 rfl rfl 5 (by decide) (hts _ mX5_readFactor_3) (fun _ h9 => h9) rfl dX5_readFactor_98 ?_
        refine cv_i (As := [.int (-2), .int (nI f1871_5)]) (rest := []) (b := w) ⟨hx, hb, hml, hown, hts⟩ (c_X5_fail hT (w := w) hw (x := (-2)) (y := (nI f1871_5))) (cwV 2 hts gX5_readFactor_X5_fail rfl rfl rfl hdX5_fail_v ⟨Nat.le_of_ble_eq_true rfl, Nat.le_of_ble_eq_true rfl⟩) hN hE hL (rcv6 hN hT hw.1) rfl rfl hl.1 (Nat.le_of_ble_eq_true rfl) dX5_readFactor_101 (Nat.zero_le _) (Nat.zero_le _) (fun r1879 H1 locs hL hqr1879 => ?_)
        obtain ⟨hT1, hF1, hqr1879⟩ := hqr1879
        have hF := hF.tr (hF1.mono (by simp))
        have hT := hT1
        obtain rfl := hqr1879
        exact en_i hx hb hr hlocks hL rfl (Nat.zero_le _) (Nat.zero_le _) dX5_readFactor_104 (⟨hT, hF, Or.inl rfl⟩)
    · refine lv_if_eq (tgt := 85) hx hb dX5_readFactor_37 (by decide) (fun c9 => absurd c9 (by decide)) (fun _ => ?_)
      refine lv_iload_n hx hb dX5_readFactor_40 rfl (lv_at hl 1 rfl) ?_
      refine lv_iconst (v := 4) hx hb dX5_readFactor_41 (by decide) ?_
      refine lv_icmp_lt (tgt := 56) hx hb dX5_readFactor_42 (by decide) (fun _ => ?_) (fun c9 => absurd (by decide) c9)
      refine lv_aload_n hx hb dX5_readFactor_56 rfl (lv_at hl 0 rfl) ?_
      refine cv_v (As := []) (rest := []) (b := w) ⟨hx, hb, hml, hown, hts⟩ (c_X5_step hT (w := w) hw) (cwV 0 hts gX5_readFactor_X5_step rfl rfl rfl hdX5_step_v ⟨Nat.le_of_ble_eq_true rfl, Nat.le_of_ble_eq_true rfl⟩) hN hE hL (rcv6 hN hT hw.1) rfl rfl hl.1 (Nat.le_of_ble_eq_true rfl) dX5_readFactor_57 (Nat.zero_le _) (Nat.zero_le _) (fun H1 locs hL hqr1880 => ?_)
      obtain ⟨hT1, hF1, hqr1880⟩ := hqr1880
      have hF := hF.tr (hF1.mono (by simp))
      have hT := hT1
      have f1881 := hqr1880
      refine lv_aload_n hx hb dX5_readFactor_60 rfl (lv_at hl 0 rfl) ?_
      refine lv_iload_n hx hb dX5_readFactor_61 rfl (lv_at hl 1 rfl) ?_
      refine lv_iconst (v := 1) hx hb dX5_readFactor_62 (by decide) ?_
      refine lv_iadd hx hb dX5_readFactor_63 ?_
      refine tp_i 1 (by decide) ?_
      refine cv_i (As := [.int 1]) (rest := []) (b := w) ⟨hx, hb, hml, hown, hts⟩ (c_X5_readSum_d1 hT (w := w) hw) (cwV 1 hts gX5_readFactor_X5_readSum rfl rfl rfl hdX5_readSum_v ⟨Nat.le_of_ble_eq_true rfl, Nat.le_of_ble_eq_true rfl⟩) hN hE hL (rcv6 hN hT hw.1) rfl rfl hl.1 (Nat.le_of_ble_eq_true rfl) dX5_readFactor_64 (Nat.zero_le _) (Nat.zero_le _) (fun r1882 H1 locs hL hqr1882 => ?_)
      obtain ⟨hT1, hF1, hqr1882⟩ := hqr1882
      have hF := hF.tr (hF1.mono (by simp))
      have hT := hT1
      rcases hqr1882 with rfl | rfl
      · refine lv_if_eq (tgt := 83) hx hb dX5_readFactor_67 (by decide) (fun _ => ?_) (fun c9 => absurd (by decide) c9)
        refine lv_iconst (v := 0) hx hb dX5_readFactor_83 (by decide) ?_
        exact en_i hx hb hr hlocks hL rfl (Nat.zero_le _) (Nat.zero_le _) dX5_readFactor_84 (⟨hT, hF, Or.inl rfl⟩)
      · refine lv_if_eq (tgt := 83) hx hb dX5_readFactor_67 (by decide) (fun c9 => absurd c9 (by decide)) (fun _ => ?_)
        refine lv_aload_n hx hb dX5_readFactor_70 rfl (lv_at hl 0 rfl) ?_
        refine lv_bipush (v := 41) hx hb dX5_readFactor_71 (by decide) ?_
        refine cv_i (As := [.int 41]) (rest := []) (b := w) ⟨hx, hb, hml, hown, hts⟩ (c_X5_takeMark hT (w := w) hw (x := 41)) (cwV 1 hts gX5_readFactor_X5_takeMark rfl rfl rfl hdX5_takeMark_v ⟨Nat.le_of_ble_eq_true rfl, Nat.le_of_ble_eq_true rfl⟩) hN hE hL (rcv6 hN hT hw.1) rfl rfl hl.1 (Nat.le_of_ble_eq_true rfl) dX5_readFactor_73 (Nat.zero_le _) (Nat.zero_le _) (fun r1883 H1 locs hL hqr1883 => ?_)
        obtain ⟨hT1, hF1, hqr1883⟩ := hqr1883
        have hF := hF.tr (hF1.mono (by simp))
        have hT := hT1
        rcases hqr1883 with rfl | rfl
        · refine lv_if_eq (tgt := 83) hx hb dX5_readFactor_76 (by decide) (fun _ => ?_) (fun c9 => absurd (by decide) c9)
          refine lv_iconst (v := 0) hx hb dX5_readFactor_83 (by decide) ?_
          exact en_i hx hb hr hlocks hL rfl (Nat.zero_le _) (Nat.zero_le _) dX5_readFactor_84 (⟨hT, hF, Or.inl rfl⟩)
        · refine lv_if_eq (tgt := 83) hx hb dX5_readFactor_76 (by decide) (fun c9 => absurd c9 (by decide)) (fun _ => ?_)
          refine lv_iconst (v := 1) hx hb dX5_readFactor_79 (by decide) ?_
          refine lv_goto (tgt := 84) hx hb dX5_readFactor_80 (by decide) ?_
          exact en_i hx hb hr hlocks hL rfl (Nat.zero_le _) (Nat.zero_le _) dX5_readFactor_84 (⟨hT, hF, Or.inr rfl⟩)
  · refine lv_aload_n hx hb dX5_readFactor_8 rfl (lv_at hl 0 rfl) ?_
    refine lv_iconst (v := 0) hx hb dX5_readFactor_9 (by decide) ?_
    refine lv_sipush (v := 9999) hx hb dX5_readFactor_10 (by decide) ?_
    refine cv_i (As := [.int 0, .int 9999]) (rest := []) (b := w) ⟨hx, hb, hml, hown, hts⟩ (c_X5_takeNumber hT (w := w) hw (x := 0) (y := 9999)) (cwV 2 hts gX5_readFactor_X5_takeNumber rfl rfl rfl hdX5_takeNumber_v ⟨Nat.le_of_ble_eq_true rfl, Nat.le_of_ble_eq_true rfl⟩) hN hE hL (rcv6 hN hT hw.1) rfl rfl hl.1 (Nat.le_of_ble_eq_true rfl) dX5_readFactor_13 (Nat.zero_le _) (Nat.zero_le _) (fun r1884 H1 locs hL hqr1884 => ?_)
    obtain ⟨hT1, hF1, hqr1884⟩ := hqr1884
    have hF := hF.tr (hF1.mono (by simp))
    have hT := hT1
    rcases hqr1884 with rfl | ⟨rfl, v1885, l1886, g1887, f1888⟩
    · refine lv_if_ne (tgt := 21) hx hb dX5_readFactor_16 (by decide) (fun c9 => absurd (by decide) c9) (fun _ => ?_)
      refine lv_iconst (v := 0) hx hb dX5_readFactor_19 (by decide) ?_
      exact en_i hx hb hr hlocks hL rfl (Nat.zero_le _) (Nat.zero_le _) dX5_readFactor_20 (⟨hT, hF, Or.inl rfl⟩)
    · obtain ⟨n1889, hn1889a, hn1889b, rfl⟩ := rng (x := v1885) (lo := 0) (hi := 9999) (by decide) (by decide) l1886 g1887
      refine lv_if_ne (tgt := 21) hx hb dX5_readFactor_16 (by decide) (fun _ => ?_) (fun c9 => absurd c9 (by decide))
      refine lv_aload_n hx hb dX5_readFactor_21 rfl (lv_at hl 0 rfl) ?_
      refine lv_aload_n hx hb dX5_readFactor_22 rfl (lv_at hl 0 rfl) ?_
      obtain ⟨hb1890, e1890, hat1890, hk1890⟩ := hT.o6 hw.1
      obtain ⟨f1890_0, f1890_2, f1890_3, f1890_4, f1890_5, f1890_6, f1890_7, f1890_8, f1890_9, f1890_10, f1890_11, f1890_12, f1890_13, rfl, c1890_1, c1890_2, c1890_3, c1890_5, c1890_10, t1890_0, t1890_9, c1890_11, c1890_p2⟩ := hk1890
      obtain rfl : f1890_7 = nI n1889 := Value.int.inj (f1888.eq hat1890 rfl (by decide) rfl)
      have hP : va_P D vwCl [(w, .inr (5, [.ref f1890_0, .int (nI ((κ w).2.2.1)), .int (nI f1890_2), .int (nI f1890_3), .int f1890_4, .int (nI f1890_5), .int f1890_6, .int (nI n1889), .int f1890_8, .ref f1890_9, .int (nI f1890_10), f1890_11, .int f1890_12, .int f1890_13]))] _ := va_P.cons hat1890 va_P.nil
      refine va_get (D := D) (ci := 5) (v := .int (nI n1889)) (C := RX5) (T := TX5) (N := 14) hx hb hts iX5_readFactor_5 hown hN.1 hP 0 rfl rfl 7 (by decide) (hts _ mX5_readFactor_2) (fun _ h9 => h9) rfl dX5_readFactor_23 ?_
      refine cv_v (As := [.int (nI n1889)]) (rest := []) (b := w) ⟨hx, hb, hml, hown, hts⟩ (c_X5_putCode hT (w := w) hw (x := (nI n1889))) (cwV 1 hts gX5_readFactor_X5_putCode rfl rfl rfl hdX5_putCode_v ⟨Nat.le_of_ble_eq_true rfl, Nat.le_of_ble_eq_true rfl⟩) hN hE hL (rcv6 hN hT hw.1) rfl rfl hl.1 (Nat.le_of_ble_eq_true rfl) dX5_readFactor_26 (Nat.zero_le _) (Nat.zero_le _) (fun H1 locs hL hqr1891 => ?_)
      obtain ⟨hT1, hF1⟩ := hqr1891
      have hF := hF.tr (hF1.mono (by simp))
      have hT := hT1
      refine lv_iconst (v := 1) hx hb dX5_readFactor_29 (by decide) ?_
      exact en_i hx hb hr hlocks hL rfl (Nat.zero_le _) (Nat.zero_le _) dX5_readFactor_30 (⟨hT, hF, Or.inr rfl⟩)
set_option maxHeartbeats 4000000 in
set_option maxRecDepth 100000 in
theorem c_X5_readTerm_d0 {l : Launch} {D : va_G} {cs : Nat → ClassId} {B0 T : Nat} {κ : KM} {H0 : Heap} (hT : WT B0 D cs T κ H0) {w : Nat} (hw : T2 κ w 6 10) : KC l yX5_readTerm wsX5_readTerm 19 421 0 0 D cs B0 H0 [.ref w, .int 0] (Qi (fun r H => WT B0 D cs T κ H ∧ Fr B0 [10] κ H0 H ∧ (r = 0 ∨ r = 1))) := by
  refine KC.of cX5_readTerm 4 (some .boolean) (by decide) rfl (Nat.le_of_ble_eq_true rfl) ?_
  intro p e s m below meth c ls hx hb hr hml hown hts hlocks hin hN hE hH0 hl
  have hown : s.vm.findClass RX5 = some m.cls := hown
  have hl : lv_has ls 4 [(0, .ref w), (1, .int 0)] := hl
  have hL : OkL B0 [] := OkL.nil
  have hF : Fr B0 [10] κ H0 H0 := Fr.rf
  refine lv_aload_n hx hb dX5_readTerm_0 rfl (lv_at hl 0 rfl) ?_
  refine lv_iload_n hx hb dX5_readTerm_1 rfl (lv_at hl 1 rfl) ?_
  refine cv_i (As := [.int 0]) (rest := []) (b := w) ⟨hx, hb, hml, hown, hts⟩ (c_X5_readFactor_d0 hT (w := w) hw) (cwV 1 hts gX5_readTerm_X5_readFactor rfl rfl rfl hdX5_readFactor_v ⟨Nat.le_of_ble_eq_true rfl, Nat.le_of_ble_eq_true rfl⟩) hN hE hL (rcv6 hN hT hw.1) rfl rfl hl.1 (Nat.le_of_ble_eq_true rfl) dX5_readTerm_2 (Nat.zero_le _) (Nat.zero_le _) (fun r1892 H1 locs hL hqr1892 => ?_)
  obtain ⟨hT1, hF1, hqr1892⟩ := hqr1892
  have hF := hF.tr (hF1.mono (by simp))
  have hT := hT1
  rcases hqr1892 with rfl | rfl
  · refine lv_if_ne (tgt := 10) hx hb dX5_readTerm_5 (by decide) (fun c9 => absurd (by decide) c9) (fun _ => ?_)
    refine lv_iconst (v := 0) hx hb dX5_readTerm_8 (by decide) ?_
    exact en_i hx hb hr hlocks hL rfl (Nat.zero_le _) (Nat.zero_le _) dX5_readTerm_9 (⟨hT, hF, Or.inl rfl⟩)
  · refine lv_if_ne (tgt := 10) hx hb dX5_readTerm_5 (by decide) (fun _ => ?_) (fun c9 => absurd c9 (by decide))
    refine lv_iconst (v := 0) hx hb dX5_readTerm_10 (by decide) ?_
    refine lv_istore_n (lv' := [(2, .int 0), (0, .ref w), (1, .int 0)]) hx hb dX5_readTerm_11 rfl hl (by decide) rfl (fun ls hl => ?_)
    refine lp_m (α := Nat) (nL := 4) (fun a9 => 600 - a9) (fun a9 H9 l9 => (a9 ≤ 600) ∧ (WT B0 D cs T κ H9) ∧ (Fr B0 [10] κ H0 H9) ∧ (OkL B0 l9)) (fun a9 => [(2, .int (nI a9)), (0, .ref w), (1, .int 0)]) ?_ 0 _ _ _ ⟨(by show (0) ≤ 600; omega), hT, hF, hL⟩ (lv_sub hl [0, 1, 2] rfl)
    rintro k H locs ls ih1893 ⟨hk, hT, hF, hL⟩ hl
    have hl : lv_has ls 4 [(2, .int (nI k)), (0, .ref w), (1, .int 0)] := hl
    have hk : k ≤ 600 := hk
    refine lv_iload_n hx hb dX5_readTerm_12 rfl (lv_at hl 0 rfl) ?_
    refine lv_sipush (v := 600) hx hb dX5_readTerm_13 (by decide) ?_
    refine lv_icmp_ge (tgt := 79) hx hb dX5_readTerm_16 (by decide) (fun c1894 => ?_) (fun c1894 => ?_)
    · have c1894 : 600 ≤ k := (nI_leI (a := 600) (b := k) (by omega) (by omega)).mp c1894
      refine lv_iconst (v := 1) hx hb dX5_readTerm_79 (by decide) ?_
      exact en_i hx hb hr hlocks hL rfl (Nat.zero_le _) (Nat.zero_le _) dX5_readTerm_80 (⟨hT, hF, Or.inr rfl⟩)
    · have c1894 : ¬ 600 ≤ k := fun h9 => c1894 ((nI_leI (a := 600) (b := k) (by omega) (by omega)).mpr h9)
      refine lv_aload_n hx hb dX5_readTerm_19 rfl (lv_at hl 1 rfl) ?_
      refine lv_bipush (v := 42) hx hb dX5_readTerm_20 (by decide) ?_
      refine cv_i (As := [.int 42]) (rest := []) (b := w) ⟨hx, hb, hml, hown, hts⟩ (c_X5_isMark hT (w := w) hw (x := 42)) (cwV 1 hts gX5_readTerm_X5_isMark rfl rfl rfl hdX5_isMark_v ⟨Nat.le_of_ble_eq_true rfl, Nat.le_of_ble_eq_true rfl⟩) hN hE hL (rcv6 hN hT hw.1) rfl rfl hl.1 (Nat.le_of_ble_eq_true rfl) dX5_readTerm_22 (Nat.zero_le _) (Nat.zero_le _) (fun r1895 H1 locs hL hqr1895 => ?_)
      obtain ⟨h9, hqr1895⟩ := hqr1895; replace h9 := h9.symm; subst h9
      rcases hqr1895 with rfl | rfl
      · refine lv_if_ne (tgt := 37) hx hb dX5_readTerm_25 (by decide) (fun c9 => absurd (by decide) c9) (fun _ => ?_)
        refine lv_aload_n hx hb dX5_readTerm_28 rfl (lv_at hl 1 rfl) ?_
        refine lv_bipush (v := 47) hx hb dX5_readTerm_29 (by decide) ?_
        refine cv_i (As := [.int 47]) (rest := []) (b := w) ⟨hx, hb, hml, hown, hts⟩ (c_X5_isMark hT (w := w) hw (x := 47)) (cwV 1 hts gX5_readTerm_X5_isMark rfl rfl rfl hdX5_isMark_v ⟨Nat.le_of_ble_eq_true rfl, Nat.le_of_ble_eq_true rfl⟩) hN hE hL (rcv6 hN hT hw.1) rfl rfl hl.1 (Nat.le_of_ble_eq_true rfl) dX5_readTerm_31 (Nat.zero_le _) (Nat.zero_le _) (fun r1896 H1 locs hL hqr1896 => ?_)
        obtain ⟨h9, hqr1896⟩ := hqr1896; replace h9 := h9.symm; subst h9
        rcases hqr1896 with rfl | rfl
        · refine lv_if_eq (tgt := 79) hx hb dX5_readTerm_34 (by decide) (fun _ => ?_) (fun c9 => absurd (by decide) c9)
          refine lv_iconst (v := 1) hx hb dX5_readTerm_79 (by decide) ?_
          exact en_i hx hb hr hlocks hL rfl (Nat.zero_le _) (Nat.zero_le _) dX5_readTerm_80 (⟨hT, hF, Or.inr rfl⟩)
        · refine lv_if_eq (tgt := 79) hx hb dX5_readTerm_34 (by decide) (fun c9 => absurd c9 (by decide)) (fun _ => ?_)
          refine lv_aload_n hx hb dX5_readTerm_37 rfl (lv_at hl 1 rfl) ?_
          refine lv_bipush (v := 42) hx hb dX5_readTerm_38 (by decide) ?_
          refine cv_i (As := [.int 42]) (rest := []) (b := w) ⟨hx, hb, hml, hown, hts⟩ (c_X5_isMark hT (w := w) hw (x := 42)) (cwV 1 hts gX5_readTerm_X5_isMark rfl rfl rfl hdX5_isMark_v ⟨Nat.le_of_ble_eq_true rfl, Nat.le_of_ble_eq_true rfl⟩) hN hE hL (rcv6 hN hT hw.1) rfl rfl hl.1 (Nat.le_of_ble_eq_true rfl) dX5_readTerm_40 (Nat.zero_le _) (Nat.zero_le _) (fun r1897 H1 locs hL hqr1897 => ?_)
          obtain ⟨h9, hqr1897⟩ := hqr1897; replace h9 := h9.symm; subst h9
          rcases hqr1897 with rfl | rfl
          · refine lv_if_eq (tgt := 51) hx hb dX5_readTerm_43 (by decide) (fun _ => ?_) (fun c9 => absurd (by decide) c9)
            refine lv_bipush (v := (-8)) hx hb dX5_readTerm_51 (by decide) ?_
            refine lv_istore_n (lv' := [(3, .int (-8)), (2, .int (nI k)), (0, .ref w), (1, .int 0)]) hx hb dX5_readTerm_53 rfl hl (by decide) rfl (fun ls hl => ?_)
            refine lv_aload_n hx hb dX5_readTerm_54 rfl (lv_at hl 2 rfl) ?_
            refine cv_v (As := []) (rest := []) (b := w) ⟨hx, hb, hml, hown, hts⟩ (c_X5_step hT (w := w) hw) (cwV 0 hts gX5_readTerm_X5_step rfl rfl rfl hdX5_step_v ⟨Nat.le_of_ble_eq_true rfl, Nat.le_of_ble_eq_true rfl⟩) hN hE hL (rcv6 hN hT hw.1) rfl rfl hl.1 (Nat.le_of_ble_eq_true rfl) dX5_readTerm_55 (Nat.zero_le _) (Nat.zero_le _) (fun H1 locs hL hqr1898 => ?_)
            obtain ⟨hT1, hF1, hqr1898⟩ := hqr1898
            have hF := hF.tr (hF1.mono (by simp))
            have hT := hT1
            have f1899 := hqr1898
            refine lv_aload_n hx hb dX5_readTerm_58 rfl (lv_at hl 2 rfl) ?_
            refine lv_iload_n hx hb dX5_readTerm_59 rfl (lv_at hl 3 rfl) ?_
            refine cv_i (As := [.int 0]) (rest := []) (b := w) ⟨hx, hb, hml, hown, hts⟩ (c_X5_readFactor_d0 hT (w := w) hw) (cwV 1 hts gX5_readTerm_X5_readFactor rfl rfl rfl hdX5_readFactor_v ⟨Nat.le_of_ble_eq_true rfl, Nat.le_of_ble_eq_true rfl⟩) hN hE hL (rcv6 hN hT hw.1) rfl rfl hl.1 (Nat.le_of_ble_eq_true rfl) dX5_readTerm_60 (Nat.zero_le _) (Nat.zero_le _) (fun r1900 H1 locs hL hqr1900 => ?_)
            obtain ⟨hT1, hF1, hqr1900⟩ := hqr1900
            have hF := hF.tr (hF1.mono (by simp))
            have hT := hT1
            rcases hqr1900 with rfl | rfl
            · refine lv_if_ne (tgt := 68) hx hb dX5_readTerm_63 (by decide) (fun c9 => absurd (by decide) c9) (fun _ => ?_)
              refine lv_iconst (v := 0) hx hb dX5_readTerm_66 (by decide) ?_
              exact en_i hx hb hr hlocks hL rfl (Nat.zero_le _) (Nat.zero_le _) dX5_readTerm_67 (⟨hT, hF, Or.inl rfl⟩)
            · refine lv_if_ne (tgt := 68) hx hb dX5_readTerm_63 (by decide) (fun _ => ?_) (fun c9 => absurd c9 (by decide))
              refine lv_aload_n hx hb dX5_readTerm_68 rfl (lv_at hl 2 rfl) ?_
              refine lv_iload_n hx hb dX5_readTerm_69 rfl (lv_at hl 0 rfl) ?_
              refine cv_v (As := [.int (-8)]) (rest := []) (b := w) ⟨hx, hb, hml, hown, hts⟩ (c_X5_putCode hT (w := w) hw (x := (-8))) (cwV 1 hts gX5_readTerm_X5_putCode rfl rfl rfl hdX5_putCode_v ⟨Nat.le_of_ble_eq_true rfl, Nat.le_of_ble_eq_true rfl⟩) hN hE hL (rcv6 hN hT hw.1) rfl rfl hl.1 (Nat.le_of_ble_eq_true rfl) dX5_readTerm_70 (Nat.zero_le _) (Nat.zero_le _) (fun H1 locs hL hqr1901 => ?_)
              obtain ⟨hT1, hF1⟩ := hqr1901
              have hF := hF.tr (hF1.mono (by simp))
              have hT := hT1
              refine lv_iinc (v := (nI (k + 1))) (lv' := [(2, .int (nI (k + 1))), (3, .int (-8)), (0, .ref w), (1, .int 0)]) hx hb dX5_readTerm_73 hl (k := 1) rfl (nI_add _ 1) (by decide) rfl (fun ls hl => ?_)
              refine lv_goto (tgt := 12) hx hb dX5_readTerm_76 (by decide) ?_
              exact ih1893 (k + 1) _ _ _ (by show 600 - ((k + 1)) < 600 - k; omega) ⟨(by show ((k + 1)) ≤ 600; omega), hT, hF, hL⟩ (lv_sub hl [0, 2, 3] rfl)
          · refine lv_if_eq (tgt := 51) hx hb dX5_readTerm_43 (by decide) (fun c9 => absurd c9 (by decide)) (fun _ => ?_)
            refine lv_bipush (v := (-7)) hx hb dX5_readTerm_46 (by decide) ?_
            refine lv_goto (tgt := 53) hx hb dX5_readTerm_48 (by decide) ?_
            refine lv_istore_n (lv' := [(3, .int (-7)), (2, .int (nI k)), (0, .ref w), (1, .int 0)]) hx hb dX5_readTerm_53 rfl hl (by decide) rfl (fun ls hl => ?_)
            refine lv_aload_n hx hb dX5_readTerm_54 rfl (lv_at hl 2 rfl) ?_
            refine cv_v (As := []) (rest := []) (b := w) ⟨hx, hb, hml, hown, hts⟩ (c_X5_step hT (w := w) hw) (cwV 0 hts gX5_readTerm_X5_step rfl rfl rfl hdX5_step_v ⟨Nat.le_of_ble_eq_true rfl, Nat.le_of_ble_eq_true rfl⟩) hN hE hL (rcv6 hN hT hw.1) rfl rfl hl.1 (Nat.le_of_ble_eq_true rfl) dX5_readTerm_55 (Nat.zero_le _) (Nat.zero_le _) (fun H1 locs hL hqr1902 => ?_)
            obtain ⟨hT1, hF1, hqr1902⟩ := hqr1902
            have hF := hF.tr (hF1.mono (by simp))
            have hT := hT1
            have f1903 := hqr1902
            refine lv_aload_n hx hb dX5_readTerm_58 rfl (lv_at hl 2 rfl) ?_
            refine lv_iload_n hx hb dX5_readTerm_59 rfl (lv_at hl 3 rfl) ?_
            refine cv_i (As := [.int 0]) (rest := []) (b := w) ⟨hx, hb, hml, hown, hts⟩ (c_X5_readFactor_d0 hT (w := w) hw) (cwV 1 hts gX5_readTerm_X5_readFactor rfl rfl rfl hdX5_readFactor_v ⟨Nat.le_of_ble_eq_true rfl, Nat.le_of_ble_eq_true rfl⟩) hN hE hL (rcv6 hN hT hw.1) rfl rfl hl.1 (Nat.le_of_ble_eq_true rfl) dX5_readTerm_60 (Nat.zero_le _) (Nat.zero_le _) (fun r1904 H1 locs hL hqr1904 => ?_)
            obtain ⟨hT1, hF1, hqr1904⟩ := hqr1904
            have hF := hF.tr (hF1.mono (by simp))
            have hT := hT1
            rcases hqr1904 with rfl | rfl
            · refine lv_if_ne (tgt := 68) hx hb dX5_readTerm_63 (by decide) (fun c9 => absurd (by decide) c9) (fun _ => ?_)
              refine lv_iconst (v := 0) hx hb dX5_readTerm_66 (by decide) ?_
              exact en_i hx hb hr hlocks hL rfl (Nat.zero_le _) (Nat.zero_le _) dX5_readTerm_67 (⟨hT, hF, Or.inl rfl⟩)
            · refine lv_if_ne (tgt := 68) hx hb dX5_readTerm_63 (by decide) (fun _ => ?_) (fun c9 => absurd c9 (by decide))
              refine lv_aload_n hx hb dX5_readTerm_68 rfl (lv_at hl 2 rfl) ?_
              refine lv_iload_n hx hb dX5_readTerm_69 rfl (lv_at hl 0 rfl) ?_
              refine cv_v (As := [.int (-7)]) (rest := []) (b := w) ⟨hx, hb, hml, hown, hts⟩ (c_X5_putCode hT (w := w) hw (x := (-7))) (cwV 1 hts gX5_readTerm_X5_putCode rfl rfl rfl hdX5_putCode_v ⟨Nat.le_of_ble_eq_true rfl, Nat.le_of_ble_eq_true rfl⟩) hN hE hL (rcv6 hN hT hw.1) rfl rfl hl.1 (Nat.le_of_ble_eq_true rfl) dX5_readTerm_70 (Nat.zero_le _) (Nat.zero_le _) (fun H1 locs hL hqr1905 => ?_)
              obtain ⟨hT1, hF1⟩ := hqr1905
              have hF := hF.tr (hF1.mono (by simp))
              have hT := hT1
              refine lv_iinc (v := (nI (k + 1))) (lv' := [(2, .int (nI (k + 1))), (3, .int (-7)), (0, .ref w), (1, .int 0)]) hx hb dX5_readTerm_73 hl (k := 1) rfl (nI_add _ 1) (by decide) rfl (fun ls hl => ?_)
              refine lv_goto (tgt := 12) hx hb dX5_readTerm_76 (by decide) ?_
              exact ih1893 (k + 1) _ _ _ (by show 600 - ((k + 1)) < 600 - k; omega) ⟨(by show ((k + 1)) ≤ 600; omega), hT, hF, hL⟩ (lv_sub hl [0, 2, 3] rfl)
      · refine lv_if_ne (tgt := 37) hx hb dX5_readTerm_25 (by decide) (fun _ => ?_) (fun c9 => absurd c9 (by decide))
        refine lv_aload_n hx hb dX5_readTerm_37 rfl (lv_at hl 1 rfl) ?_
        refine lv_bipush (v := 42) hx hb dX5_readTerm_38 (by decide) ?_
        refine cv_i (As := [.int 42]) (rest := []) (b := w) ⟨hx, hb, hml, hown, hts⟩ (c_X5_isMark hT (w := w) hw (x := 42)) (cwV 1 hts gX5_readTerm_X5_isMark rfl rfl rfl hdX5_isMark_v ⟨Nat.le_of_ble_eq_true rfl, Nat.le_of_ble_eq_true rfl⟩) hN hE hL (rcv6 hN hT hw.1) rfl rfl hl.1 (Nat.le_of_ble_eq_true rfl) dX5_readTerm_40 (Nat.zero_le _) (Nat.zero_le _) (fun r1906 H1 locs hL hqr1906 => ?_)
        obtain ⟨h9, hqr1906⟩ := hqr1906; replace h9 := h9.symm; subst h9
        rcases hqr1906 with rfl | rfl
        · refine lv_if_eq (tgt := 51) hx hb dX5_readTerm_43 (by decide) (fun _ => ?_) (fun c9 => absurd (by decide) c9)
          refine lv_bipush (v := (-8)) hx hb dX5_readTerm_51 (by decide) ?_
          refine lv_istore_n (lv' := [(3, .int (-8)), (2, .int (nI k)), (0, .ref w), (1, .int 0)]) hx hb dX5_readTerm_53 rfl hl (by decide) rfl (fun ls hl => ?_)
          refine lv_aload_n hx hb dX5_readTerm_54 rfl (lv_at hl 2 rfl) ?_
          refine cv_v (As := []) (rest := []) (b := w) ⟨hx, hb, hml, hown, hts⟩ (c_X5_step hT (w := w) hw) (cwV 0 hts gX5_readTerm_X5_step rfl rfl rfl hdX5_step_v ⟨Nat.le_of_ble_eq_true rfl, Nat.le_of_ble_eq_true rfl⟩) hN hE hL (rcv6 hN hT hw.1) rfl rfl hl.1 (Nat.le_of_ble_eq_true rfl) dX5_readTerm_55 (Nat.zero_le _) (Nat.zero_le _) (fun H1 locs hL hqr1907 => ?_)
          obtain ⟨hT1, hF1, hqr1907⟩ := hqr1907
          have hF := hF.tr (hF1.mono (by simp))
          have hT := hT1
          have f1908 := hqr1907
          refine lv_aload_n hx hb dX5_readTerm_58 rfl (lv_at hl 2 rfl) ?_
          refine lv_iload_n hx hb dX5_readTerm_59 rfl (lv_at hl 3 rfl) ?_
          refine cv_i (As := [.int 0]) (rest := []) (b := w) ⟨hx, hb, hml, hown, hts⟩ (c_X5_readFactor_d0 hT (w := w) hw) (cwV 1 hts gX5_readTerm_X5_readFactor rfl rfl rfl hdX5_readFactor_v ⟨Nat.le_of_ble_eq_true rfl, Nat.le_of_ble_eq_true rfl⟩) hN hE hL (rcv6 hN hT hw.1) rfl rfl hl.1 (Nat.le_of_ble_eq_true rfl) dX5_readTerm_60 (Nat.zero_le _) (Nat.zero_le _) (fun r1909 H1 locs hL hqr1909 => ?_)
          obtain ⟨hT1, hF1, hqr1909⟩ := hqr1909
          have hF := hF.tr (hF1.mono (by simp))
          have hT := hT1
          rcases hqr1909 with rfl | rfl
          · refine lv_if_ne (tgt := 68) hx hb dX5_readTerm_63 (by decide) (fun c9 => absurd (by decide) c9) (fun _ => ?_)
            refine lv_iconst (v := 0) hx hb dX5_readTerm_66 (by decide) ?_
            exact en_i hx hb hr hlocks hL rfl (Nat.zero_le _) (Nat.zero_le _) dX5_readTerm_67 (⟨hT, hF, Or.inl rfl⟩)
          · refine lv_if_ne (tgt := 68) hx hb dX5_readTerm_63 (by decide) (fun _ => ?_) (fun c9 => absurd c9 (by decide))
            refine lv_aload_n hx hb dX5_readTerm_68 rfl (lv_at hl 2 rfl) ?_
            refine lv_iload_n hx hb dX5_readTerm_69 rfl (lv_at hl 0 rfl) ?_
            refine cv_v (As := [.int (-8)]) (rest := []) (b := w) ⟨hx, hb, hml, hown, hts⟩ (c_X5_putCode hT (w := w) hw (x := (-8))) (cwV 1 hts gX5_readTerm_X5_putCode rfl rfl rfl hdX5_putCode_v ⟨Nat.le_of_ble_eq_true rfl, Nat.le_of_ble_eq_true rfl⟩) hN hE hL (rcv6 hN hT hw.1) rfl rfl hl.1 (Nat.le_of_ble_eq_true rfl) dX5_readTerm_70 (Nat.zero_le _) (Nat.zero_le _) (fun H1 locs hL hqr1910 => ?_)
            obtain ⟨hT1, hF1⟩ := hqr1910
            have hF := hF.tr (hF1.mono (by simp))
            have hT := hT1
            refine lv_iinc (v := (nI (k + 1))) (lv' := [(2, .int (nI (k + 1))), (3, .int (-8)), (0, .ref w), (1, .int 0)]) hx hb dX5_readTerm_73 hl (k := 1) rfl (nI_add _ 1) (by decide) rfl (fun ls hl => ?_)
            refine lv_goto (tgt := 12) hx hb dX5_readTerm_76 (by decide) ?_
            exact ih1893 (k + 1) _ _ _ (by show 600 - ((k + 1)) < 600 - k; omega) ⟨(by show ((k + 1)) ≤ 600; omega), hT, hF, hL⟩ (lv_sub hl [0, 2, 3] rfl)
        · refine lv_if_eq (tgt := 51) hx hb dX5_readTerm_43 (by decide) (fun c9 => absurd c9 (by decide)) (fun _ => ?_)
          refine lv_bipush (v := (-7)) hx hb dX5_readTerm_46 (by decide) ?_
          refine lv_goto (tgt := 53) hx hb dX5_readTerm_48 (by decide) ?_
          refine lv_istore_n (lv' := [(3, .int (-7)), (2, .int (nI k)), (0, .ref w), (1, .int 0)]) hx hb dX5_readTerm_53 rfl hl (by decide) rfl (fun ls hl => ?_)
          refine lv_aload_n hx hb dX5_readTerm_54 rfl (lv_at hl 2 rfl) ?_
          refine cv_v (As := []) (rest := []) (b := w) ⟨hx, hb, hml, hown, hts⟩ (c_X5_step hT (w := w) hw) (cwV 0 hts gX5_readTerm_X5_step rfl rfl rfl hdX5_step_v ⟨Nat.le_of_ble_eq_true rfl, Nat.le_of_ble_eq_true rfl⟩) hN hE hL (rcv6 hN hT hw.1) rfl rfl hl.1 (Nat.le_of_ble_eq_true rfl) dX5_readTerm_55 (Nat.zero_le _) (Nat.zero_le _) (fun H1 locs hL hqr1911 => ?_)
          obtain ⟨hT1, hF1, hqr1911⟩ := hqr1911
          have hF := hF.tr (hF1.mono (by simp))
          have hT := hT1
          have f1912 := hqr1911
          refine lv_aload_n hx hb dX5_readTerm_58 rfl (lv_at hl 2 rfl) ?_
          refine lv_iload_n hx hb dX5_readTerm_59 rfl (lv_at hl 3 rfl) ?_
          refine cv_i (As := [.int 0]) (rest := []) (b := w) ⟨hx, hb, hml, hown, hts⟩ (c_X5_readFactor_d0 hT (w := w) hw) (cwV 1 hts gX5_readTerm_X5_readFactor rfl rfl rfl hdX5_readFactor_v ⟨Nat.le_of_ble_eq_true rfl, Nat.le_of_ble_eq_true rfl⟩) hN hE hL (rcv6 hN hT hw.1) rfl rfl hl.1 (Nat.le_of_ble_eq_true rfl) dX5_readTerm_60 (Nat.zero_le _) (Nat.zero_le _) (fun r1913 H1 locs hL hqr1913 => ?_)
          obtain ⟨hT1, hF1, hqr1913⟩ := hqr1913
          have hF := hF.tr (hF1.mono (by simp))
          have hT := hT1
          rcases hqr1913 with rfl | rfl
          · refine lv_if_ne (tgt := 68) hx hb dX5_readTerm_63 (by decide) (fun c9 => absurd (by decide) c9) (fun _ => ?_)
            refine lv_iconst (v := 0) hx hb dX5_readTerm_66 (by decide) ?_
            exact en_i hx hb hr hlocks hL rfl (Nat.zero_le _) (Nat.zero_le _) dX5_readTerm_67 (⟨hT, hF, Or.inl rfl⟩)
          · refine lv_if_ne (tgt := 68) hx hb dX5_readTerm_63 (by decide) (fun _ => ?_) (fun c9 => absurd c9 (by decide))
            refine lv_aload_n hx hb dX5_readTerm_68 rfl (lv_at hl 2 rfl) ?_
            refine lv_iload_n hx hb dX5_readTerm_69 rfl (lv_at hl 0 rfl) ?_
            refine cv_v (As := [.int (-7)]) (rest := []) (b := w) ⟨hx, hb, hml, hown, hts⟩ (c_X5_putCode hT (w := w) hw (x := (-7))) (cwV 1 hts gX5_readTerm_X5_putCode rfl rfl rfl hdX5_putCode_v ⟨Nat.le_of_ble_eq_true rfl, Nat.le_of_ble_eq_true rfl⟩) hN hE hL (rcv6 hN hT hw.1) rfl rfl hl.1 (Nat.le_of_ble_eq_true rfl) dX5_readTerm_70 (Nat.zero_le _) (Nat.zero_le _) (fun H1 locs hL hqr1914 => ?_)
            obtain ⟨hT1, hF1⟩ := hqr1914
            have hF := hF.tr (hF1.mono (by simp))
            have hT := hT1
            refine lv_iinc (v := (nI (k + 1))) (lv' := [(2, .int (nI (k + 1))), (3, .int (-7)), (0, .ref w), (1, .int 0)]) hx hb dX5_readTerm_73 hl (k := 1) rfl (nI_add _ 1) (by decide) rfl (fun ls hl => ?_)
            refine lv_goto (tgt := 12) hx hb dX5_readTerm_76 (by decide) ?_
            exact ih1893 (k + 1) _ _ _ (by show 600 - ((k + 1)) < 600 - k; omega) ⟨(by show ((k + 1)) ≤ 600; omega), hT, hF, hL⟩ (lv_sub hl [0, 2, 3] rfl)
set_option maxHeartbeats 4000000 in
set_option maxRecDepth 100000 in
theorem c_X5_readSum_d0 {l : Launch} {D : va_G} {cs : Nat → ClassId} {B0 T : Nat} {κ : KM} {H0 : Heap} (hT : WT B0 D cs T κ H0) {w : Nat} (hw : T2 κ w 6 10) : KC l yX5_readSum wsX5_readSum 20 444 0 0 D cs B0 H0 [.ref w, .int 0] (Qi (fun r H => WT B0 D cs T κ H ∧ Fr B0 [10] κ H0 H ∧ (r = 0 ∨ r = 1))) := by
  refine KC.of cX5_readSum 4 (some .boolean) (by decide) rfl (Nat.le_of_ble_eq_true rfl) ?_
  intro p e s m below meth c ls hx hb hr hml hown hts hlocks hin hN hE hH0 hl
  have hown : s.vm.findClass RX5 = some m.cls := hown
  have hl : lv_has ls 4 [(0, .ref w), (1, .int 0)] := hl
  have hL : OkL B0 [] := OkL.nil
  have hF : Fr B0 [10] κ H0 H0 := Fr.rf
  refine lv_aload_n hx hb dX5_readSum_0 rfl (lv_at hl 0 rfl) ?_
  refine lv_iload_n hx hb dX5_readSum_1 rfl (lv_at hl 1 rfl) ?_
  refine cv_i (As := [.int 0]) (rest := []) (b := w) ⟨hx, hb, hml, hown, hts⟩ (c_X5_readTerm_d0 hT (w := w) hw) (cwV 1 hts gX5_readSum_X5_readTerm rfl rfl rfl hdX5_readTerm_v ⟨Nat.le_of_ble_eq_true rfl, Nat.le_of_ble_eq_true rfl⟩) hN hE hL (rcv6 hN hT hw.1) rfl rfl hl.1 (Nat.le_of_ble_eq_true rfl) dX5_readSum_2 (Nat.zero_le _) (Nat.zero_le _) (fun r1915 H1 locs hL hqr1915 => ?_)
  obtain ⟨hT1, hF1, hqr1915⟩ := hqr1915
  have hF := hF.tr (hF1.mono (by simp))
  have hT := hT1
  rcases hqr1915 with rfl | rfl
  · refine lv_if_ne (tgt := 10) hx hb dX5_readSum_5 (by decide) (fun c9 => absurd (by decide) c9) (fun _ => ?_)
    refine lv_iconst (v := 0) hx hb dX5_readSum_8 (by decide) ?_
    exact en_i hx hb hr hlocks hL rfl (Nat.zero_le _) (Nat.zero_le _) dX5_readSum_9 (⟨hT, hF, Or.inl rfl⟩)
  · refine lv_if_ne (tgt := 10) hx hb dX5_readSum_5 (by decide) (fun _ => ?_) (fun c9 => absurd c9 (by decide))
    refine lv_iconst (v := 0) hx hb dX5_readSum_10 (by decide) ?_
    refine lv_istore_n (lv' := [(2, .int 0), (0, .ref w), (1, .int 0)]) hx hb dX5_readSum_11 rfl hl (by decide) rfl (fun ls hl => ?_)
    refine lp_m (α := Nat) (nL := 4) (fun a9 => 600 - a9) (fun a9 H9 l9 => (a9 ≤ 600) ∧ (WT B0 D cs T κ H9) ∧ (Fr B0 [10] κ H0 H9) ∧ (OkL B0 l9)) (fun a9 => [(2, .int (nI a9)), (0, .ref w), (1, .int 0)]) ?_ 0 _ _ _ ⟨(by show (0) ≤ 600; omega), hT, hF, hL⟩ (lv_sub hl [0, 1, 2] rfl)
    rintro k H locs ls ih1916 ⟨hk, hT, hF, hL⟩ hl
    have hl : lv_has ls 4 [(2, .int (nI k)), (0, .ref w), (1, .int 0)] := hl
    have hk : k ≤ 600 := hk
    refine lv_iload_n hx hb dX5_readSum_12 rfl (lv_at hl 0 rfl) ?_
    refine lv_sipush (v := 600) hx hb dX5_readSum_13 (by decide) ?_
    refine lv_icmp_ge (tgt := 79) hx hb dX5_readSum_16 (by decide) (fun c1917 => ?_) (fun c1917 => ?_)
    · have c1917 : 600 ≤ k := (nI_leI (a := 600) (b := k) (by omega) (by omega)).mp c1917
      refine lv_iconst (v := 1) hx hb dX5_readSum_79 (by decide) ?_
      exact en_i hx hb hr hlocks hL rfl (Nat.zero_le _) (Nat.zero_le _) dX5_readSum_80 (⟨hT, hF, Or.inr rfl⟩)
    · have c1917 : ¬ 600 ≤ k := fun h9 => c1917 ((nI_leI (a := 600) (b := k) (by omega) (by omega)).mpr h9)
      refine lv_aload_n hx hb dX5_readSum_19 rfl (lv_at hl 1 rfl) ?_
      refine lv_bipush (v := 43) hx hb dX5_readSum_20 (by decide) ?_
      refine cv_i (As := [.int 43]) (rest := []) (b := w) ⟨hx, hb, hml, hown, hts⟩ (c_X5_isMark hT (w := w) hw (x := 43)) (cwV 1 hts gX5_readSum_X5_isMark rfl rfl rfl hdX5_isMark_v ⟨Nat.le_of_ble_eq_true rfl, Nat.le_of_ble_eq_true rfl⟩) hN hE hL (rcv6 hN hT hw.1) rfl rfl hl.1 (Nat.le_of_ble_eq_true rfl) dX5_readSum_22 (Nat.zero_le _) (Nat.zero_le _) (fun r1918 H1 locs hL hqr1918 => ?_)
      obtain ⟨h9, hqr1918⟩ := hqr1918; replace h9 := h9.symm; subst h9
      rcases hqr1918 with rfl | rfl
      · refine lv_if_ne (tgt := 37) hx hb dX5_readSum_25 (by decide) (fun c9 => absurd (by decide) c9) (fun _ => ?_)
        refine lv_aload_n hx hb dX5_readSum_28 rfl (lv_at hl 1 rfl) ?_
        refine lv_bipush (v := 45) hx hb dX5_readSum_29 (by decide) ?_
        refine cv_i (As := [.int 45]) (rest := []) (b := w) ⟨hx, hb, hml, hown, hts⟩ (c_X5_isMark hT (w := w) hw (x := 45)) (cwV 1 hts gX5_readSum_X5_isMark rfl rfl rfl hdX5_isMark_v ⟨Nat.le_of_ble_eq_true rfl, Nat.le_of_ble_eq_true rfl⟩) hN hE hL (rcv6 hN hT hw.1) rfl rfl hl.1 (Nat.le_of_ble_eq_true rfl) dX5_readSum_31 (Nat.zero_le _) (Nat.zero_le _) (fun r1919 H1 locs hL hqr1919 => ?_)
        obtain ⟨h9, hqr1919⟩ := hqr1919; replace h9 := h9.symm; subst h9
        rcases hqr1919 with rfl | rfl
        · refine lv_if_eq (tgt := 79) hx hb dX5_readSum_34 (by decide) (fun _ => ?_) (fun c9 => absurd (by decide) c9)
          refine lv_iconst (v := 1) hx hb dX5_readSum_79 (by decide) ?_
          exact en_i hx hb hr hlocks hL rfl (Nat.zero_le _) (Nat.zero_le _) dX5_readSum_80 (⟨hT, hF, Or.inr rfl⟩)
        · refine lv_if_eq (tgt := 79) hx hb dX5_readSum_34 (by decide) (fun c9 => absurd c9 (by decide)) (fun _ => ?_)
          refine lv_aload_n hx hb dX5_readSum_37 rfl (lv_at hl 1 rfl) ?_
          refine lv_bipush (v := 43) hx hb dX5_readSum_38 (by decide) ?_
          refine cv_i (As := [.int 43]) (rest := []) (b := w) ⟨hx, hb, hml, hown, hts⟩ (c_X5_isMark hT (w := w) hw (x := 43)) (cwV 1 hts gX5_readSum_X5_isMark rfl rfl rfl hdX5_isMark_v ⟨Nat.le_of_ble_eq_true rfl, Nat.le_of_ble_eq_true rfl⟩) hN hE hL (rcv6 hN hT hw.1) rfl rfl hl.1 (Nat.le_of_ble_eq_true rfl) dX5_readSum_40 (Nat.zero_le _) (Nat.zero_le _) (fun r1920 H1 locs hL hqr1920 => ?_)
          obtain ⟨h9, hqr1920⟩ := hqr1920; replace h9 := h9.symm; subst h9
          rcases hqr1920 with rfl | rfl
          · refine lv_if_eq (tgt := 51) hx hb dX5_readSum_43 (by decide) (fun _ => ?_) (fun c9 => absurd (by decide) c9)
            refine lv_bipush (v := (-6)) hx hb dX5_readSum_51 (by decide) ?_
            refine lv_istore_n (lv' := [(3, .int (-6)), (2, .int (nI k)), (0, .ref w), (1, .int 0)]) hx hb dX5_readSum_53 rfl hl (by decide) rfl (fun ls hl => ?_)
            refine lv_aload_n hx hb dX5_readSum_54 rfl (lv_at hl 2 rfl) ?_
            refine cv_v (As := []) (rest := []) (b := w) ⟨hx, hb, hml, hown, hts⟩ (c_X5_step hT (w := w) hw) (cwV 0 hts gX5_readSum_X5_step rfl rfl rfl hdX5_step_v ⟨Nat.le_of_ble_eq_true rfl, Nat.le_of_ble_eq_true rfl⟩) hN hE hL (rcv6 hN hT hw.1) rfl rfl hl.1 (Nat.le_of_ble_eq_true rfl) dX5_readSum_55 (Nat.zero_le _) (Nat.zero_le _) (fun H1 locs hL hqr1921 => ?_)
            obtain ⟨hT1, hF1, hqr1921⟩ := hqr1921
            have hF := hF.tr (hF1.mono (by simp))
            have hT := hT1
            have f1922 := hqr1921
            refine lv_aload_n hx hb dX5_readSum_58 rfl (lv_at hl 2 rfl) ?_
            refine lv_iload_n hx hb dX5_readSum_59 rfl (lv_at hl 3 rfl) ?_
            refine cv_i (As := [.int 0]) (rest := []) (b := w) ⟨hx, hb, hml, hown, hts⟩ (c_X5_readTerm_d0 hT (w := w) hw) (cwV 1 hts gX5_readSum_X5_readTerm rfl rfl rfl hdX5_readTerm_v ⟨Nat.le_of_ble_eq_true rfl, Nat.le_of_ble_eq_true rfl⟩) hN hE hL (rcv6 hN hT hw.1) rfl rfl hl.1 (Nat.le_of_ble_eq_true rfl) dX5_readSum_60 (Nat.zero_le _) (Nat.zero_le _) (fun r1923 H1 locs hL hqr1923 => ?_)
            obtain ⟨hT1, hF1, hqr1923⟩ := hqr1923
            have hF := hF.tr (hF1.mono (by simp))
            have hT := hT1
            rcases hqr1923 with rfl | rfl
            · refine lv_if_ne (tgt := 68) hx hb dX5_readSum_63 (by decide) (fun c9 => absurd (by decide) c9) (fun _ => ?_)
              refine lv_iconst (v := 0) hx hb dX5_readSum_66 (by decide) ?_
              exact en_i hx hb hr hlocks hL rfl (Nat.zero_le _) (Nat.zero_le _) dX5_readSum_67 (⟨hT, hF, Or.inl rfl⟩)
            · refine lv_if_ne (tgt := 68) hx hb dX5_readSum_63 (by decide) (fun _ => ?_) (fun c9 => absurd c9 (by decide))
              refine lv_aload_n hx hb dX5_readSum_68 rfl (lv_at hl 2 rfl) ?_
              refine lv_iload_n hx hb dX5_readSum_69 rfl (lv_at hl 0 rfl) ?_
              refine cv_v (As := [.int (-6)]) (rest := []) (b := w) ⟨hx, hb, hml, hown, hts⟩ (c_X5_putCode hT (w := w) hw (x := (-6))) (cwV 1 hts gX5_readSum_X5_putCode rfl rfl rfl hdX5_putCode_v ⟨Nat.le_of_ble_eq_true rfl, Nat.le_of_ble_eq_true rfl⟩) hN hE hL (rcv6 hN hT hw.1) rfl rfl hl.1 (Nat.le_of_ble_eq_true rfl) dX5_readSum_70 (Nat.zero_le _) (Nat.zero_le _) (fun H1 locs hL hqr1924 => ?_)
              obtain ⟨hT1, hF1⟩ := hqr1924
              have hF := hF.tr (hF1.mono (by simp))
              have hT := hT1
              refine lv_iinc (v := (nI (k + 1))) (lv' := [(2, .int (nI (k + 1))), (3, .int (-6)), (0, .ref w), (1, .int 0)]) hx hb dX5_readSum_73 hl (k := 1) rfl (nI_add _ 1) (by decide) rfl (fun ls hl => ?_)
              refine lv_goto (tgt := 12) hx hb dX5_readSum_76 (by decide) ?_
              exact ih1916 (k + 1) _ _ _ (by show 600 - ((k + 1)) < 600 - k; omega) ⟨(by show ((k + 1)) ≤ 600; omega), hT, hF, hL⟩ (lv_sub hl [0, 2, 3] rfl)
          · refine lv_if_eq (tgt := 51) hx hb dX5_readSum_43 (by decide) (fun c9 => absurd c9 (by decide)) (fun _ => ?_)
            refine lv_bipush (v := (-5)) hx hb dX5_readSum_46 (by decide) ?_
            refine lv_goto (tgt := 53) hx hb dX5_readSum_48 (by decide) ?_
            refine lv_istore_n (lv' := [(3, .int (-5)), (2, .int (nI k)), (0, .ref w), (1, .int 0)]) hx hb dX5_readSum_53 rfl hl (by decide) rfl (fun ls hl => ?_)
            refine lv_aload_n hx hb dX5_readSum_54 rfl (lv_at hl 2 rfl) ?_
            refine cv_v (As := []) (rest := []) (b := w) ⟨hx, hb, hml, hown, hts⟩ (c_X5_step hT (w := w) hw) (cwV 0 hts gX5_readSum_X5_step rfl rfl rfl hdX5_step_v ⟨Nat.le_of_ble_eq_true rfl, Nat.le_of_ble_eq_true rfl⟩) hN hE hL (rcv6 hN hT hw.1) rfl rfl hl.1 (Nat.le_of_ble_eq_true rfl) dX5_readSum_55 (Nat.zero_le _) (Nat.zero_le _) (fun H1 locs hL hqr1925 => ?_)
            obtain ⟨hT1, hF1, hqr1925⟩ := hqr1925
            have hF := hF.tr (hF1.mono (by simp))
            have hT := hT1
            have f1926 := hqr1925
            refine lv_aload_n hx hb dX5_readSum_58 rfl (lv_at hl 2 rfl) ?_
            refine lv_iload_n hx hb dX5_readSum_59 rfl (lv_at hl 3 rfl) ?_
            refine cv_i (As := [.int 0]) (rest := []) (b := w) ⟨hx, hb, hml, hown, hts⟩ (c_X5_readTerm_d0 hT (w := w) hw) (cwV 1 hts gX5_readSum_X5_readTerm rfl rfl rfl hdX5_readTerm_v ⟨Nat.le_of_ble_eq_true rfl, Nat.le_of_ble_eq_true rfl⟩) hN hE hL (rcv6 hN hT hw.1) rfl rfl hl.1 (Nat.le_of_ble_eq_true rfl) dX5_readSum_60 (Nat.zero_le _) (Nat.zero_le _) (fun r1927 H1 locs hL hqr1927 => ?_)
            obtain ⟨hT1, hF1, hqr1927⟩ := hqr1927
            have hF := hF.tr (hF1.mono (by simp))
            have hT := hT1
            rcases hqr1927 with rfl | rfl
            · refine lv_if_ne (tgt := 68) hx hb dX5_readSum_63 (by decide) (fun c9 => absurd (by decide) c9) (fun _ => ?_)
              refine lv_iconst (v := 0) hx hb dX5_readSum_66 (by decide) ?_
              exact en_i hx hb hr hlocks hL rfl (Nat.zero_le _) (Nat.zero_le _) dX5_readSum_67 (⟨hT, hF, Or.inl rfl⟩)
            · refine lv_if_ne (tgt := 68) hx hb dX5_readSum_63 (by decide) (fun _ => ?_) (fun c9 => absurd c9 (by decide))
              refine lv_aload_n hx hb dX5_readSum_68 rfl (lv_at hl 2 rfl) ?_
              refine lv_iload_n hx hb dX5_readSum_69 rfl (lv_at hl 0 rfl) ?_
              refine cv_v (As := [.int (-5)]) (rest := []) (b := w) ⟨hx, hb, hml, hown, hts⟩ (c_X5_putCode hT (w := w) hw (x := (-5))) (cwV 1 hts gX5_readSum_X5_putCode rfl rfl rfl hdX5_putCode_v ⟨Nat.le_of_ble_eq_true rfl, Nat.le_of_ble_eq_true rfl⟩) hN hE hL (rcv6 hN hT hw.1) rfl rfl hl.1 (Nat.le_of_ble_eq_true rfl) dX5_readSum_70 (Nat.zero_le _) (Nat.zero_le _) (fun H1 locs hL hqr1928 => ?_)
              obtain ⟨hT1, hF1⟩ := hqr1928
              have hF := hF.tr (hF1.mono (by simp))
              have hT := hT1
              refine lv_iinc (v := (nI (k + 1))) (lv' := [(2, .int (nI (k + 1))), (3, .int (-5)), (0, .ref w), (1, .int 0)]) hx hb dX5_readSum_73 hl (k := 1) rfl (nI_add _ 1) (by decide) rfl (fun ls hl => ?_)
              refine lv_goto (tgt := 12) hx hb dX5_readSum_76 (by decide) ?_
              exact ih1916 (k + 1) _ _ _ (by show 600 - ((k + 1)) < 600 - k; omega) ⟨(by show ((k + 1)) ≤ 600; omega), hT, hF, hL⟩ (lv_sub hl [0, 2, 3] rfl)
      · refine lv_if_ne (tgt := 37) hx hb dX5_readSum_25 (by decide) (fun _ => ?_) (fun c9 => absurd c9 (by decide))
        refine lv_aload_n hx hb dX5_readSum_37 rfl (lv_at hl 1 rfl) ?_
        refine lv_bipush (v := 43) hx hb dX5_readSum_38 (by decide) ?_
        refine cv_i (As := [.int 43]) (rest := []) (b := w) ⟨hx, hb, hml, hown, hts⟩ (c_X5_isMark hT (w := w) hw (x := 43)) (cwV 1 hts gX5_readSum_X5_isMark rfl rfl rfl hdX5_isMark_v ⟨Nat.le_of_ble_eq_true rfl, Nat.le_of_ble_eq_true rfl⟩) hN hE hL (rcv6 hN hT hw.1) rfl rfl hl.1 (Nat.le_of_ble_eq_true rfl) dX5_readSum_40 (Nat.zero_le _) (Nat.zero_le _) (fun r1929 H1 locs hL hqr1929 => ?_)
        obtain ⟨h9, hqr1929⟩ := hqr1929; replace h9 := h9.symm; subst h9
        rcases hqr1929 with rfl | rfl
        · refine lv_if_eq (tgt := 51) hx hb dX5_readSum_43 (by decide) (fun _ => ?_) (fun c9 => absurd (by decide) c9)
          refine lv_bipush (v := (-6)) hx hb dX5_readSum_51 (by decide) ?_
          refine lv_istore_n (lv' := [(3, .int (-6)), (2, .int (nI k)), (0, .ref w), (1, .int 0)]) hx hb dX5_readSum_53 rfl hl (by decide) rfl (fun ls hl => ?_)
          refine lv_aload_n hx hb dX5_readSum_54 rfl (lv_at hl 2 rfl) ?_
          refine cv_v (As := []) (rest := []) (b := w) ⟨hx, hb, hml, hown, hts⟩ (c_X5_step hT (w := w) hw) (cwV 0 hts gX5_readSum_X5_step rfl rfl rfl hdX5_step_v ⟨Nat.le_of_ble_eq_true rfl, Nat.le_of_ble_eq_true rfl⟩) hN hE hL (rcv6 hN hT hw.1) rfl rfl hl.1 (Nat.le_of_ble_eq_true rfl) dX5_readSum_55 (Nat.zero_le _) (Nat.zero_le _) (fun H1 locs hL hqr1930 => ?_)
          obtain ⟨hT1, hF1, hqr1930⟩ := hqr1930
          have hF := hF.tr (hF1.mono (by simp))
          have hT := hT1
          have f1931 := hqr1930
          refine lv_aload_n hx hb dX5_readSum_58 rfl (lv_at hl 2 rfl) ?_
          refine lv_iload_n hx hb dX5_readSum_59 rfl (lv_at hl 3 rfl) ?_
          refine cv_i (As := [.int 0]) (rest := []) (b := w) ⟨hx, hb, hml, hown, hts⟩ (c_X5_readTerm_d0 hT (w := w) hw) (cwV 1 hts gX5_readSum_X5_readTerm rfl rfl rfl hdX5_readTerm_v ⟨Nat.le_of_ble_eq_true rfl, Nat.le_of_ble_eq_true rfl⟩) hN hE hL (rcv6 hN hT hw.1) rfl rfl hl.1 (Nat.le_of_ble_eq_true rfl) dX5_readSum_60 (Nat.zero_le _) (Nat.zero_le _) (fun r1932 H1 locs hL hqr1932 => ?_)
          obtain ⟨hT1, hF1, hqr1932⟩ := hqr1932
          have hF := hF.tr (hF1.mono (by simp))
          have hT := hT1
          rcases hqr1932 with rfl | rfl
          · refine lv_if_ne (tgt := 68) hx hb dX5_readSum_63 (by decide) (fun c9 => absurd (by decide) c9) (fun _ => ?_)
            refine lv_iconst (v := 0) hx hb dX5_readSum_66 (by decide) ?_
            exact en_i hx hb hr hlocks hL rfl (Nat.zero_le _) (Nat.zero_le _) dX5_readSum_67 (⟨hT, hF, Or.inl rfl⟩)
          · refine lv_if_ne (tgt := 68) hx hb dX5_readSum_63 (by decide) (fun _ => ?_) (fun c9 => absurd c9 (by decide))
            refine lv_aload_n hx hb dX5_readSum_68 rfl (lv_at hl 2 rfl) ?_
            refine lv_iload_n hx hb dX5_readSum_69 rfl (lv_at hl 0 rfl) ?_
            refine cv_v (As := [.int (-6)]) (rest := []) (b := w) ⟨hx, hb, hml, hown, hts⟩ (c_X5_putCode hT (w := w) hw (x := (-6))) (cwV 1 hts gX5_readSum_X5_putCode rfl rfl rfl hdX5_putCode_v ⟨Nat.le_of_ble_eq_true rfl, Nat.le_of_ble_eq_true rfl⟩) hN hE hL (rcv6 hN hT hw.1) rfl rfl hl.1 (Nat.le_of_ble_eq_true rfl) dX5_readSum_70 (Nat.zero_le _) (Nat.zero_le _) (fun H1 locs hL hqr1933 => ?_)
            obtain ⟨hT1, hF1⟩ := hqr1933
            have hF := hF.tr (hF1.mono (by simp))
            have hT := hT1
            refine lv_iinc (v := (nI (k + 1))) (lv' := [(2, .int (nI (k + 1))), (3, .int (-6)), (0, .ref w), (1, .int 0)]) hx hb dX5_readSum_73 hl (k := 1) rfl (nI_add _ 1) (by decide) rfl (fun ls hl => ?_)
            refine lv_goto (tgt := 12) hx hb dX5_readSum_76 (by decide) ?_
            exact ih1916 (k + 1) _ _ _ (by show 600 - ((k + 1)) < 600 - k; omega) ⟨(by show ((k + 1)) ≤ 600; omega), hT, hF, hL⟩ (lv_sub hl [0, 2, 3] rfl)
        · refine lv_if_eq (tgt := 51) hx hb dX5_readSum_43 (by decide) (fun c9 => absurd c9 (by decide)) (fun _ => ?_)
          refine lv_bipush (v := (-5)) hx hb dX5_readSum_46 (by decide) ?_
          refine lv_goto (tgt := 53) hx hb dX5_readSum_48 (by decide) ?_
          refine lv_istore_n (lv' := [(3, .int (-5)), (2, .int (nI k)), (0, .ref w), (1, .int 0)]) hx hb dX5_readSum_53 rfl hl (by decide) rfl (fun ls hl => ?_)
          refine lv_aload_n hx hb dX5_readSum_54 rfl (lv_at hl 2 rfl) ?_
          refine cv_v (As := []) (rest := []) (b := w) ⟨hx, hb, hml, hown, hts⟩ (c_X5_step hT (w := w) hw) (cwV 0 hts gX5_readSum_X5_step rfl rfl rfl hdX5_step_v ⟨Nat.le_of_ble_eq_true rfl, Nat.le_of_ble_eq_true rfl⟩) hN hE hL (rcv6 hN hT hw.1) rfl rfl hl.1 (Nat.le_of_ble_eq_true rfl) dX5_readSum_55 (Nat.zero_le _) (Nat.zero_le _) (fun H1 locs hL hqr1934 => ?_)
          obtain ⟨hT1, hF1, hqr1934⟩ := hqr1934
          have hF := hF.tr (hF1.mono (by simp))
          have hT := hT1
          have f1935 := hqr1934
          refine lv_aload_n hx hb dX5_readSum_58 rfl (lv_at hl 2 rfl) ?_
          refine lv_iload_n hx hb dX5_readSum_59 rfl (lv_at hl 3 rfl) ?_
          refine cv_i (As := [.int 0]) (rest := []) (b := w) ⟨hx, hb, hml, hown, hts⟩ (c_X5_readTerm_d0 hT (w := w) hw) (cwV 1 hts gX5_readSum_X5_readTerm rfl rfl rfl hdX5_readTerm_v ⟨Nat.le_of_ble_eq_true rfl, Nat.le_of_ble_eq_true rfl⟩) hN hE hL (rcv6 hN hT hw.1) rfl rfl hl.1 (Nat.le_of_ble_eq_true rfl) dX5_readSum_60 (Nat.zero_le _) (Nat.zero_le _) (fun r1936 H1 locs hL hqr1936 => ?_)
          obtain ⟨hT1, hF1, hqr1936⟩ := hqr1936
          have hF := hF.tr (hF1.mono (by simp))
          have hT := hT1
          rcases hqr1936 with rfl | rfl
          · refine lv_if_ne (tgt := 68) hx hb dX5_readSum_63 (by decide) (fun c9 => absurd (by decide) c9) (fun _ => ?_)
            refine lv_iconst (v := 0) hx hb dX5_readSum_66 (by decide) ?_
            exact en_i hx hb hr hlocks hL rfl (Nat.zero_le _) (Nat.zero_le _) dX5_readSum_67 (⟨hT, hF, Or.inl rfl⟩)
          · refine lv_if_ne (tgt := 68) hx hb dX5_readSum_63 (by decide) (fun _ => ?_) (fun c9 => absurd c9 (by decide))
            refine lv_aload_n hx hb dX5_readSum_68 rfl (lv_at hl 2 rfl) ?_
            refine lv_iload_n hx hb dX5_readSum_69 rfl (lv_at hl 0 rfl) ?_
            refine cv_v (As := [.int (-5)]) (rest := []) (b := w) ⟨hx, hb, hml, hown, hts⟩ (c_X5_putCode hT (w := w) hw (x := (-5))) (cwV 1 hts gX5_readSum_X5_putCode rfl rfl rfl hdX5_putCode_v ⟨Nat.le_of_ble_eq_true rfl, Nat.le_of_ble_eq_true rfl⟩) hN hE hL (rcv6 hN hT hw.1) rfl rfl hl.1 (Nat.le_of_ble_eq_true rfl) dX5_readSum_70 (Nat.zero_le _) (Nat.zero_le _) (fun H1 locs hL hqr1937 => ?_)
            obtain ⟨hT1, hF1⟩ := hqr1937
            have hF := hF.tr (hF1.mono (by simp))
            have hT := hT1
            refine lv_iinc (v := (nI (k + 1))) (lv' := [(2, .int (nI (k + 1))), (3, .int (-5)), (0, .ref w), (1, .int 0)]) hx hb dX5_readSum_73 hl (k := 1) rfl (nI_add _ 1) (by decide) rfl (fun ls hl => ?_)
            refine lv_goto (tgt := 12) hx hb dX5_readSum_76 (by decide) ?_
            exact ih1916 (k + 1) _ _ _ (by show 600 - ((k + 1)) < 600 - k; omega) ⟨(by show ((k + 1)) ≤ 600; omega), hT, hF, hL⟩ (lv_sub hl [0, 2, 3] rfl)
