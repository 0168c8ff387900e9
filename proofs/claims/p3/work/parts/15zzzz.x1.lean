set_option maxHeartbeats 4000000 in
set_option maxRecDepth 100000 in
theorem c_X8_checksum {l : Launch} {D : va_G} {cs : Nat → ClassId} {B0 T : Nat} {κ : KM} {H0 : Heap} (hT : WT B0 D cs T κ H0) {w : Nat} (hw : T2 κ w 9 13) {C : Nat → Nat} {LN : Nat → Nat → Nat} (hR : RQ D cs κ H0 C LN er) : KC l yX8_checksum wsX8_checksum 6 136 ((336 * sumN C 16 + 137000 - PotN LN) / 35) (336 * sumN C 16 + 137000 - PotN LN) D cs B0 H0 [.ref w] (Ql (fun _ H => ∃ κ1, KW κ κ1 ∧ WT B0 D cs T κ1 H ∧ ∃ C1 LN1 k n, sumN C1 16 ≤ sumN C 16 + 24 ∧ RQ D cs κ1 H C1 LN1 er ∧ GQ H0 H LN LN1 k n)) := by
  refine KC.of cX8_checksum 5 (some .long) (by decide) rfl (Nat.le_of_ble_eq_true rfl) ?_
  intro p e s m below meth c ls hx hb hr hml hown hts hlocks hin hN hE hH0 hl
  have hown : s.vm.findClass RX8 = some m.cls := hown
  have hl : lv_has ls 5 [(0, .ref w)] := hl
  have hL : OkL B0 [] := OkL.nil
  have hGN : 35 * 0 ≤ 0 ∧ 0 + PotN LN ≤ PotN LN := ⟨Nat.le_refl _, by omega⟩
  have hs0 := hR.pot
  refine lv_lconst (v := 0) hx hb dX8_checksum_0 (by decide) ?_
  refine lv_lstore_n (lv' := [(1, .long 0), (0, .ref w)]) hx hb dX8_checksum_1 rfl hl (by decide) rfl (fun ls hl => ?_)
  refine lv_iconst (v := 0) hx hb dX8_checksum_2 (by decide) ?_
  refine lv_istore_n (lv' := [(3, .int 0), (1, .long 0), (0, .ref w)]) hx hb dX8_checksum_3 rfl hl (by decide) rfl (fun ls hl => ?_)
  refine lp_m (α := Nat × Int64) (nL := 5) (fun a9 => 13 - a9.1) (fun a9 H9 l9 => (a9.1 ≤ 13) ∧ (RQ D cs κ H9 C LN er) ∧ (WT B0 D cs T κ H9) ∧ (OkL B0 l9)) (fun a9 => [(3, .int (nI a9.1)), (1, .long a9.2), (0, .ref w)]) ?_ (0, 0) _ _ _ ⟨(by show (0) ≤ 13; omega), hR, hT, hL⟩ (lv_sub hl [0, 1, 2] rfl)
  rintro ⟨k, y⟩ H locs ls ih5722 ⟨hk, hR, hT, hL⟩ hl
  have hl : lv_has ls 5 [(3, .int (nI k)), (1, .long y), (0, .ref w)] := hl
  have hk : k ≤ 13 := hk
  have hR : RQ D cs κ H C LN er := hR
  refine lv_iload_n hx hb dX8_checksum_4 rfl (lv_at hl 0 rfl) ?_
  refine lv_bipush (v := 12) hx hb dX8_checksum_5 (by decide) ?_
  refine lv_icmp_gt (tgt := 32) hx hb dX8_checksum_7 (by decide) (fun c5723 => ?_) (fun c5723 => ?_)
  · have c5723 : 12 < k := (nI_ltI (a := 12) (b := k) (by omega) (by omega)).mp c5723
    refine lv_iconst (v := 0) hx hb dX8_checksum_32 (by decide) ?_
    refine lv_istore_n (lv' := [(3, .int 0), (1, .long y), (0, .ref w)]) hx hb dX8_checksum_33 rfl hl (by decide) rfl (fun ls hl => ?_)
    refine lp_m (α := Nat × Int64) (nL := 5) (fun a9 => 8 - a9.1) (fun a9 H9 l9 => (a9.1 ≤ 8) ∧ (RQ D cs κ H9 C LN er) ∧ (WT B0 D cs T κ H9) ∧ (OkL B0 l9)) (fun a9 => [(3, .int (nI a9.1)), (1, .long a9.2), (0, .ref w)]) ?_ (0, y) _ _ _ ⟨(by show (0) ≤ 8; omega), hR, hT, hL⟩ (lv_sub hl [0, 1, 2] rfl)
    rintro ⟨k, y⟩ H locs ls ih5724 ⟨hk, hR, hT, hL⟩ hl
    have hl : lv_has ls 5 [(3, .int (nI k)), (1, .long y), (0, .ref w)] := hl
    have hk : k ≤ 8 := hk
    have hR : RQ D cs κ H C LN er := hR
    refine lv_iload_n hx hb dX8_checksum_34 rfl (lv_at hl 0 rfl) ?_
    refine lv_aload_n hx hb dX8_checksum_35 rfl (lv_at hl 2 rfl) ?_
    obtain ⟨hb5725, e5725, hat5725, hk5725⟩ := hT.o9 hw.1
    obtain ⟨f5725_0, f5725_1, f5725_2, f5725_3, f5725_4, f5725_5, f5725_6, rfl, t5725_0, t5725_1, t5725_2, t5725_3, rfl, rfl, rfl⟩ := hk5725
    have hP : va_P D vwCl [(w, .inr (8, [.ref (cs 450), .ref (cs 440), .ref (cs 441), .ref f5725_3, .int f5725_4, .int f5725_5, .int f5725_6]))] _ := va_P.cons hat5725 va_P.nil
    refine va_get (D := D) (ci := 8) (v := .ref (cs 440)) (C := RX8) (T := TX8) (N := 7) hx hb hts iX8_checksum_8 hown hN.1 hP 0 rfl rfl 1 (by decide) (hts _ mX8_checksum_2) (fun _ h9 => h9) rfl dX8_checksum_36 ?_
    obtain ⟨hb5726, e5726, hat5726, hk5726⟩ := hT.o8 t5725_1.1
    obtain ⟨f5726_0, f5726_1, f5726_2, f5726_3, f5726_4, f5726_5, f5726_6, f5726_7, f5726_8, f5726_9, f5726_10, f5726_11, f5726_12, f5726_13, f5726_14, f5726_15, rfl, t5726_0, c5726_su, t5726_1, t5726_2, t5726_3, t5726_4, t5726_5, c5726_tm, c5726_lt, c5726_ml, c5726_pr, c5726_li⟩ := hk5726
    rw [t5725_1.2] at t5726_1
    rw [t5725_1.2] at t5726_2
    rw [t5725_1.2] at t5726_3
    rw [t5725_1.2] at t5726_4
    rw [t5725_1.2] at t5726_5
    rw [t5725_1.2] at c5726_lt c5726_ml c5726_pr c5726_li
    subst c5726_ml
    subst c5726_pr
    subst c5726_li
    have hP : va_P D vwCl [((cs 440), .inr (7, [.ref f5726_0, .ref f5726_1, .ref (cs (400 + 0)), .ref (cs (420 + 0)), .ref (cs (460 + 0)), .ref f5726_5, .long f5726_6, .int f5726_7, .int f5726_8, .int f5726_9, .int f5726_10, .int f5726_11, .int f5726_12, .int f5726_13, .int f5726_14, .int f5726_15])), (w, .inr (8, [.ref (cs 450), .ref (cs 440), .ref (cs 441), .ref f5725_3, .int f5725_4, .int f5725_5, .int f5725_6]))] _ := va_P.cons hat5726 hP
    refine va_getN (D := D) (ci := 7) (v := .ref f5726_0) (C := RX7) (T := TX7) (N := 16) hx hb hts iX8_checksum_7 hown hN.1 hP 0 rfl rfl 0 (by decide) (hN.f 46 rfl) (fun _ h9 => h9) rfl dX8_checksum_39 ?_
    obtain ⟨hb5727, e5727, hat5727, hk5727⟩ := hT.o7 t5726_0.1
    obtain ⟨f5727_0, f5727_1, f5727_2, f5727_3, f5727_4, f5727_5, f5727_6, f5727_7, rfl, c5727_0, c5727_3, c5727_mg, t5727_4, t5727_5, t5727_6, t5727_7⟩ := hk5727
    rw [t5726_0.2] at t5727_4
    rw [t5726_0.2] at t5727_5
    rw [t5726_0.2] at t5727_6
    rw [t5726_0.2] at t5727_7
    have hP : va_P D vwCl [(f5726_0, .inr (6, [.int (nI f5727_0), .int f5727_1, .int f5727_2, f5727_3, .ref f5727_4, .ref f5727_5, .ref f5727_6, .ref f5727_7])), ((cs 440), .inr (7, [.ref f5726_0, .ref f5726_1, .ref (cs (400 + 0)), .ref (cs (420 + 0)), .ref (cs (460 + 0)), .ref f5726_5, .long f5726_6, .int f5726_7, .int f5726_8, .int f5726_9, .int f5726_10, .int f5726_11, .int f5726_12, .int f5726_13, .int f5726_14, .int f5726_15])), (w, .inr (8, [.ref (cs 450), .ref (cs 440), .ref (cs 441), .ref f5725_3, .int f5725_4, .int f5725_5, .int f5725_6]))] _ := va_P.cons hat5727 hP
    refine va_getN (D := D) (ci := 6) (v := .int (nI f5727_0)) (C := RX6) (T := TX6) (N := 8) hx hb hts iX8_checksum_6 hown hN.1 hP 0 rfl rfl 0 (by decide) (hN.f 37 rfl) (fun _ h9 => h9) rfl dX8_checksum_42 ?_
    refine lv_icmp_ge (tgt := 88) hx hb dX8_checksum_45 (by decide) (fun c5728 => ?_) (fun c5728 => ?_)
    · have c5728 : f5727_0 ≤ k := (nI_leI (a := f5727_0) (b := k) (by omega) (by omega)).mp c5728
      refine lv_iconst (v := 0) hx hb dX8_checksum_88 (by decide) ?_
      refine lv_istore_n (lv' := [(3, .int 0), (1, .long y), (0, .ref w)]) hx hb dX8_checksum_89 rfl hl (by decide) rfl (fun ls hl => ?_)
      refine lp_m (α := Nat × Int64) (nL := 5) (fun a9 => 2147483648 - a9.1) (fun a9 H9 l9 => (a9.1 < 2147483648) ∧ (RQ D cs κ H9 C LN er) ∧ (WT B0 D cs T κ H9) ∧ (OkL B0 l9)) (fun a9 => [(3, .int (nI a9.1)), (1, .long a9.2), (0, .ref w)]) ?_ (0, y) _ _ _ ⟨(by show (0) < 2147483648; omega), hR, hT, hL⟩ (lv_sub hl [0, 1, 2] rfl)
      rintro ⟨k, y⟩ H locs ls ih5729 ⟨hk, hR, hT, hL⟩ hl
      have hl : lv_has ls 5 [(3, .int (nI k)), (1, .long y), (0, .ref w)] := hl
      have hk : k < 2147483648 := hk
      have hR : RQ D cs κ H C LN er := hR
      refine lv_iload_n hx hb dX8_checksum_90 rfl (lv_at hl 0 rfl) ?_
      refine lv_aload_n hx hb dX8_checksum_91 rfl (lv_at hl 2 rfl) ?_
      obtain ⟨hb5730, e5730, hat5730, hk5730⟩ := hT.o9 hw.1
      obtain ⟨f5730_0, f5730_1, f5730_2, f5730_3, f5730_4, f5730_5, f5730_6, rfl, t5730_0, t5730_1, t5730_2, t5730_3, rfl, rfl, rfl⟩ := hk5730
      have hP : va_P D vwCl [(w, .inr (8, [.ref (cs 450), .ref (cs 440), .ref (cs 441), .ref f5730_3, .int f5730_4, .int f5730_5, .int f5730_6]))] _ := va_P.cons hat5730 va_P.nil
      refine va_get (D := D) (ci := 8) (v := .ref (cs 440)) (C := RX8) (T := TX8) (N := 7) hx hb hts iX8_checksum_8 hown hN.1 hP 0 rfl rfl 1 (by decide) (hts _ mX8_checksum_2) (fun _ h9 => h9) rfl dX8_checksum_92 ?_
      obtain ⟨hb5731, e5731, hat5731, hk5731⟩ := hT.o8 t5730_1.1
      obtain ⟨f5731_0, f5731_1, f5731_2, f5731_3, f5731_4, f5731_5, f5731_6, f5731_7, f5731_8, f5731_9, f5731_10, f5731_11, f5731_12, f5731_13, f5731_14, f5731_15, rfl, t5731_0, c5731_su, t5731_1, t5731_2, t5731_3, t5731_4, t5731_5, c5731_tm, c5731_lt, c5731_ml, c5731_pr, c5731_li⟩ := hk5731
      rw [t5730_1.2] at t5731_1
      rw [t5730_1.2] at t5731_2
      rw [t5730_1.2] at t5731_3
      rw [t5730_1.2] at t5731_4
      rw [t5730_1.2] at t5731_5
      rw [t5730_1.2] at c5731_lt c5731_ml c5731_pr c5731_li
      subst c5731_ml
      subst c5731_pr
      subst c5731_li
      have hP : va_P D vwCl [((cs 440), .inr (7, [.ref f5731_0, .ref f5731_1, .ref (cs (400 + 0)), .ref (cs (420 + 0)), .ref (cs (460 + 0)), .ref f5731_5, .long f5731_6, .int f5731_7, .int f5731_8, .int f5731_9, .int f5731_10, .int f5731_11, .int f5731_12, .int f5731_13, .int f5731_14, .int f5731_15])), (w, .inr (8, [.ref (cs 450), .ref (cs 440), .ref (cs 441), .ref f5730_3, .int f5730_4, .int f5730_5, .int f5730_6]))] _ := va_P.cons hat5731 hP
      refine va_getN (D := D) (ci := 7) (v := .ref (cs (400 + 0))) (C := RX7) (T := TX7) (N := 16) hx hb hts iX8_checksum_7 hown hN.1 hP 0 rfl rfl 2 (by decide) (hN.f 47 rfl) (fun _ h9 => h9) rfl dX8_checksum_95 ?_
      obtain ⟨hb5732, e5732, hat5732, hk5732⟩ := hT.o3 t5731_2.1
      obtain ⟨f5732_0, f5732_1, f5732_2, rfl, t5732_0, t5732_1⟩ := hk5732
      rw [t5731_2.2] at t5732_0
      rw [t5731_2.2] at t5732_1
      have hP : va_P D vwCl [((cs (400 + 0)), .inr (2, [.ref f5732_0, .ref f5732_1, .int f5732_2])), ((cs 440), .inr (7, [.ref f5731_0, .ref f5731_1, .ref (cs (400 + 0)), .ref (cs (420 + 0)), .ref (cs (460 + 0)), .ref f5731_5, .long f5731_6, .int f5731_7, .int f5731_8, .int f5731_9, .int f5731_10, .int f5731_11, .int f5731_12, .int f5731_13, .int f5731_14, .int f5731_15])), (w, .inr (8, [.ref (cs 450), .ref (cs 440), .ref (cs 441), .ref f5730_3, .int f5730_4, .int f5730_5, .int f5730_6]))] _ := va_P.cons hat5732 hP
      refine va_getN (D := D) (ci := 2) (v := .int f5732_2) (C := RX2) (T := TX2) (N := 3) hx hb hts iX8_checksum_2 hown hN.1 hP 0 rfl rfl 2 (by decide) (hN.f 3 rfl) (fun _ h9 => h9) rfl dX8_checksum_98 ?_
      refine lv_icmp_ge (tgt := 143) hx hb dX8_checksum_101 (by decide) (fun c5733 => ?_) (fun c5733 => ?_)
      · refine lv_aload_n hx hb dX8_checksum_143 rfl (lv_at hl 2 rfl) ?_
        refine va_get (D := D) (ci := 8) (v := .ref (cs 440)) (C := RX8) (T := TX8) (N := 7) hx hb hts iX8_checksum_8 hown hN.1 hP 2 rfl rfl 1 (by decide) (hts _ mX8_checksum_2) (fun _ h9 => h9) rfl dX8_checksum_144 ?_
        refine va_getN (D := D) (ci := 7) (v := .int f5731_11) (C := RX7) (T := TX7) (N := 16) hx hb hts iX8_checksum_7 hown hN.1 hP 1 rfl rfl 11 (by decide) (hN.f 50 rfl) (fun _ h9 => h9) rfl dX8_checksum_147 ?_
        refine lv_if_le (tgt := 203) hx hb dX8_checksum_150 (by decide) (fun c5734 => ?_) (fun c5734 => ?_)
        · refine lv_lload_n hx hb dX8_checksum_203 rfl (lv_at hl 1 rfl) ?_
          refine W.know (fun hg => ?_)
          rw [hH0] at hg
          exact en_l hx hb hr hlocks hL (Nat.zero_le _) (Nat.zero_le _) dX8_checksum_204 (⟨κ, KW.rf, hT, C, LN, 0, 0, Nat.le_add_right _ _, hR, ⟨hg, hGN⟩⟩)
        · refine lv_iconst (v := 0) hx hb dX8_checksum_153 (by decide) ?_
          refine lv_istore_n (lv' := [(3, .int 0), (1, .long y), (0, .ref w)]) hx hb dX8_checksum_154 rfl hl (by decide) rfl (fun ls hl => ?_)
          refine lp_m (α := Nat × Int64) (nL := 5) (fun a9 => 6 - a9.1) (fun a9 H9 l9 => (a9.1 ≤ 6) ∧ (RQ D cs κ H9 C LN er) ∧ (WT B0 D cs T κ H9) ∧ (OkL B0 l9)) (fun a9 => [(3, .int (nI a9.1)), (1, .long a9.2), (0, .ref w)]) ?_ (0, y) _ _ _ ⟨(by show (0) ≤ 6; omega), hR, hT, hL⟩ (lv_sub hl [0, 1, 2] rfl)
          rintro ⟨k, y⟩ H locs ls ih5735 ⟨hk, hR, hT, hL⟩ hl
          have hl : lv_has ls 5 [(3, .int (nI k)), (1, .long y), (0, .ref w)] := hl
          have hk : k ≤ 6 := hk
          have hR : RQ D cs κ H C LN er := hR
          refine lv_iload_n hx hb dX8_checksum_155 rfl (lv_at hl 0 rfl) ?_
          refine lv_iconst (v := 5) hx hb dX8_checksum_156 (by decide) ?_
          refine lv_icmp_gt (tgt := 185) hx hb dX8_checksum_157 (by decide) (fun c5736 => ?_) (fun c5736 => ?_)
          · have c5736 : 5 < k := (nI_ltI (a := 5) (b := k) (by omega) (by omega)).mp c5736
            refine lv_ldc2 (v := 31) hx hb hown (hts _ mX8_checksum_1) dX8_checksum_185 ?_
            refine lv_lload_n hx hb dX8_checksum_188 rfl (lv_at hl 1 rfl) ?_
            refine lv_lmul hx hb dX8_checksum_189 ?_
            refine gn_l (fun y5737 => ?_)
            refine lv_aload_n hx hb dX8_checksum_190 rfl (lv_at hl 2 rfl) ?_
            obtain ⟨hb5738, e5738, hat5738, hk5738⟩ := hT.o9 hw.1
            obtain ⟨f5738_0, f5738_1, f5738_2, f5738_3, f5738_4, f5738_5, f5738_6, rfl, t5738_0, t5738_1, t5738_2, t5738_3, rfl, rfl, rfl⟩ := hk5738
            have hP : va_P D vwCl [(w, .inr (8, [.ref (cs 450), .ref (cs 440), .ref (cs 441), .ref f5738_3, .int f5738_4, .int f5738_5, .int f5738_6]))] _ := va_P.cons hat5738 va_P.nil
            refine va_get (D := D) (ci := 8) (v := .ref (cs 440)) (C := RX8) (T := TX8) (N := 7) hx hb hts iX8_checksum_8 hown hN.1 hP 0 rfl rfl 1 (by decide) (hts _ mX8_checksum_2) (fun _ h9 => h9) rfl dX8_checksum_191 ?_
            obtain ⟨hb5739, e5739, hat5739, hk5739⟩ := hT.o8 t5738_1.1
            obtain ⟨f5739_0, f5739_1, f5739_2, f5739_3, f5739_4, f5739_5, f5739_6, f5739_7, f5739_8, f5739_9, f5739_10, f5739_11, f5739_12, f5739_13, f5739_14, f5739_15, rfl, t5739_0, c5739_su, t5739_1, t5739_2, t5739_3, t5739_4, t5739_5, c5739_tm, c5739_lt, c5739_ml, c5739_pr, c5739_li⟩ := hk5739
            rw [t5738_1.2] at t5739_1
            rw [t5738_1.2] at t5739_2
            rw [t5738_1.2] at t5739_3
            rw [t5738_1.2] at t5739_4
            rw [t5738_1.2] at t5739_5
            rw [t5738_1.2] at c5739_lt c5739_ml c5739_pr c5739_li
            subst c5739_ml
            subst c5739_pr
            subst c5739_li
            have hP : va_P D vwCl [((cs 440), .inr (7, [.ref f5739_0, .ref f5739_1, .ref (cs (400 + 0)), .ref (cs (420 + 0)), .ref (cs (460 + 0)), .ref f5739_5, .long f5739_6, .int f5739_7, .int f5739_8, .int f5739_9, .int f5739_10, .int f5739_11, .int f5739_12, .int f5739_13, .int f5739_14, .int f5739_15])), (w, .inr (8, [.ref (cs 450), .ref (cs 440), .ref (cs 441), .ref f5738_3, .int f5738_4, .int f5738_5, .int f5738_6]))] _ := va_P.cons hat5739 hP
            refine va_getN (D := D) (ci := 7) (v := .ref (cs (420 + 0))) (C := RX7) (T := TX7) (N := 16) hx hb hts iX8_checksum_7 hown hN.1 hP 0 rfl rfl 3 (by decide) (hN.f 48 rfl) (fun _ h9 => h9) rfl dX8_checksum_194 ?_
            refine cv_i (As := []) (rest := [.long y5737]) (b := (cs (420 + 0))) ⟨hx, hb, hml, hown, hts⟩ (c_X4_spreadOfChanges hT (w := (cs (420 + 0))) t5739_3) (cwV 0 hts gX8_checksum_X4_spreadOfChanges rfl rfl rfl hdX4_spreadOfChanges_v ⟨Nat.le_of_ble_eq_true rfl, Nat.le_of_ble_eq_true rfl⟩) hN hE hL (rcv5 hN hT t5739_3.1) rfl rfl hl.1 (Nat.le_of_ble_eq_true rfl) dX8_checksum_197 (Nat.zero_le _) (Nat.zero_le _) (fun r5740 H1 locs hL hqr5740 => ?_)
            obtain rfl := hqr5740.symm
            refine lv_i2l hx hb dX8_checksum_200 rfl ?_
            refine gn_l (fun y5741 => ?_)
            refine lv_ladd hx hb dX8_checksum_201 ?_
            refine gn_l (fun y5742 => ?_)
            refine lv_lstore_n (lv' := [(1, .long y5742), (3, .int (nI k)), (0, .ref w)]) hx hb dX8_checksum_202 rfl hl (by decide) rfl (fun ls hl => ?_)
            refine lv_lload_n hx hb dX8_checksum_203 rfl (lv_at hl 0 rfl) ?_
            refine W.know (fun hg => ?_)
            rw [hH0] at hg
            exact en_l hx hb hr hlocks hL (Nat.zero_le _) (Nat.zero_le _) dX8_checksum_204 (⟨κ, KW.rf, hT, C, LN, 0, 0, Nat.le_add_right _ _, hR, ⟨hg, hGN⟩⟩)
          · have c5736 : ¬ 5 < k := fun h9 => c5736 ((nI_ltI (a := 5) (b := k) (by omega) (by omega)).mpr h9)
            refine lv_ldc2 (v := 31) hx hb hown (hts _ mX8_checksum_1) dX8_checksum_160 ?_
            refine lv_lload_n hx hb dX8_checksum_163 rfl (lv_at hl 1 rfl) ?_
            refine lv_lmul hx hb dX8_checksum_164 ?_
            refine gn_l (fun y5743 => ?_)
            refine lv_aload_n hx hb dX8_checksum_165 rfl (lv_at hl 2 rfl) ?_
            obtain ⟨hb5744, e5744, hat5744, hk5744⟩ := hT.o9 hw.1
            obtain ⟨f5744_0, f5744_1, f5744_2, f5744_3, f5744_4, f5744_5, f5744_6, rfl, t5744_0, t5744_1, t5744_2, t5744_3, rfl, rfl, rfl⟩ := hk5744
            have hP : va_P D vwCl [(w, .inr (8, [.ref (cs 450), .ref (cs 440), .ref (cs 441), .ref f5744_3, .int f5744_4, .int f5744_5, .int f5744_6]))] _ := va_P.cons hat5744 va_P.nil
            refine va_get (D := D) (ci := 8) (v := .ref (cs 440)) (C := RX8) (T := TX8) (N := 7) hx hb hts iX8_checksum_8 hown hN.1 hP 0 rfl rfl 1 (by decide) (hts _ mX8_checksum_2) (fun _ h9 => h9) rfl dX8_checksum_166 ?_
            obtain ⟨hb5745, e5745, hat5745, hk5745⟩ := hT.o8 t5744_1.1
            obtain ⟨f5745_0, f5745_1, f5745_2, f5745_3, f5745_4, f5745_5, f5745_6, f5745_7, f5745_8, f5745_9, f5745_10, f5745_11, f5745_12, f5745_13, f5745_14, f5745_15, rfl, t5745_0, c5745_su, t5745_1, t5745_2, t5745_3, t5745_4, t5745_5, c5745_tm, c5745_lt, c5745_ml, c5745_pr, c5745_li⟩ := hk5745
            rw [t5744_1.2] at t5745_1
            rw [t5744_1.2] at t5745_2
            rw [t5744_1.2] at t5745_3
            rw [t5744_1.2] at t5745_4
            rw [t5744_1.2] at t5745_5
            rw [t5744_1.2] at c5745_lt c5745_ml c5745_pr c5745_li
            subst c5745_ml
            subst c5745_pr
            subst c5745_li
            have hP : va_P D vwCl [((cs 440), .inr (7, [.ref f5745_0, .ref f5745_1, .ref (cs (400 + 0)), .ref (cs (420 + 0)), .ref (cs (460 + 0)), .ref f5745_5, .long f5745_6, .int f5745_7, .int f5745_8, .int f5745_9, .int f5745_10, .int f5745_11, .int f5745_12, .int f5745_13, .int f5745_14, .int f5745_15])), (w, .inr (8, [.ref (cs 450), .ref (cs 440), .ref (cs 441), .ref f5744_3, .int f5744_4, .int f5744_5, .int f5744_6]))] _ := va_P.cons hat5745 hP
            refine va_getN (D := D) (ci := 7) (v := .ref (cs (420 + 0))) (C := RX7) (T := TX7) (N := 16) hx hb hts iX8_checksum_7 hown hN.1 hP 0 rfl rfl 3 (by decide) (hN.f 48 rfl) (fun _ h9 => h9) rfl dX8_checksum_169 ?_
            refine lv_iload_n hx hb dX8_checksum_172 rfl (lv_at hl 0 rfl) ?_
            refine cv_i (As := [.int (nI k)]) (rest := [.long y5743]) (b := (cs (420 + 0))) ⟨hx, hb, hml, hown, hts⟩ (c_X4_tell hT (w := (cs (420 + 0))) t5745_3 (x := (nI k))) (cwV 1 hts gX8_checksum_X4_tell rfl rfl rfl hdX4_tell_v ⟨Nat.le_of_ble_eq_true rfl, Nat.le_of_ble_eq_true rfl⟩) hN hE hL (rcv5 hN hT t5745_3.1) rfl rfl hl.1 (Nat.le_of_ble_eq_true rfl) dX8_checksum_173 (Nat.zero_le _) (Nat.zero_le _) (fun r5746 H1 locs hL hqr5746 => ?_)
            obtain rfl := hqr5746.symm
            refine lv_i2l hx hb dX8_checksum_176 rfl ?_
            refine gn_l (fun y5747 => ?_)
            refine lv_ladd hx hb dX8_checksum_177 ?_
            refine gn_l (fun y5748 => ?_)
            refine lv_lstore_n (lv' := [(1, .long y5748), (3, .int (nI k)), (0, .ref w)]) hx hb dX8_checksum_178 rfl hl (by decide) rfl (fun ls hl => ?_)
            refine lv_iinc (v := (nI (k + 1))) (lv' := [(3, .int (nI (k + 1))), (1, .long y5748), (0, .ref w)]) hx hb dX8_checksum_179 hl (k := 1) rfl (nI_add _ 1) (by decide) rfl (fun ls hl => ?_)
            refine lv_goto (tgt := 155) hx hb dX8_checksum_182 (by decide) ?_
            exact ih5735 ((k + 1), y5748) _ _ _ (by show 6 - ((k + 1)) < 6 - k; omega) ⟨(by show ((k + 1)) ≤ 6; omega), hR, hT, hL⟩ (lv_sub hl [0, 1, 2] rfl)
      · have hk9 := tot_lt hk c5733
        refine lv_iconst (v := 0) hx hb dX8_checksum_104 (by decide) ?_
        refine lv_istore (lv' := [(4, .int 0), (3, .int (nI k)), (1, .long y), (0, .ref w)]) hx hb dX8_checksum_105 hl (by decide) rfl (fun ls hl => ?_)
        refine lp_m (α := Nat × Int64) (nL := 5) (fun a9 => 6 - a9.1) (fun a9 H9 l9 => (a9.1 ≤ 6) ∧ (RQ D cs κ H9 C LN er) ∧ (WT B0 D cs T κ H9) ∧ (OkL B0 l9)) (fun a9 => [(4, .int (nI a9.1)), (1, .long a9.2), (0, .ref w), (3, .int (nI k))]) ?_ (0, y) _ _ _ ⟨(by show (0) ≤ 6; omega), hR, hT, hL⟩ (lv_sub hl [0, 2, 3, 1] rfl)
        rintro ⟨q, y⟩ H locs ls ih5749 ⟨hq, hR, hT, hL⟩ hl
        have hl : lv_has ls 5 [(4, .int (nI q)), (1, .long y), (0, .ref w), (3, .int (nI k))] := hl
        have hq : q ≤ 6 := hq
        have hR : RQ D cs κ H C LN er := hR
        refine lv_iload hx hb dX8_checksum_107 (lv_at hl 0 rfl) ?_
        refine lv_iconst (v := 5) hx hb dX8_checksum_109 (by decide) ?_
        refine lv_icmp_gt (tgt := 137) hx hb dX8_checksum_110 (by decide) (fun c5750 => ?_) (fun c5750 => ?_)
        · have c5750 : 5 < q := (nI_ltI (a := 5) (b := q) (by omega) (by omega)).mp c5750
          refine lv_iinc (v := (nI (k + 1))) (lv' := [(3, .int (nI (k + 1))), (4, .int (nI q)), (1, .long y), (0, .ref w)]) hx hb dX8_checksum_137 hl (k := 3) rfl (nI_add _ 1) (by decide) rfl (fun ls hl => ?_)
          refine lv_goto (tgt := 90) hx hb dX8_checksum_140 (by decide) ?_
          exact ih5729 ((k + 1), y) _ _ _ (by show 2147483648 - ((k + 1)) < 2147483648 - k; omega) ⟨(by show ((k + 1)) < 2147483648; omega), hR, hT, hL⟩ (lv_sub hl [0, 2, 3] rfl)
        · have c5750 : ¬ 5 < q := fun h9 => c5750 ((nI_ltI (a := 5) (b := q) (by omega) (by omega)).mpr h9)
          refine lv_ldc2 (v := 31) hx hb hown (hts _ mX8_checksum_1) dX8_checksum_113 ?_
          refine lv_lload_n hx hb dX8_checksum_116 rfl (lv_at hl 1 rfl) ?_
          refine lv_lmul hx hb dX8_checksum_117 ?_
          refine gn_l (fun y5751 => ?_)
          refine lv_aload_n hx hb dX8_checksum_118 rfl (lv_at hl 2 rfl) ?_
          obtain ⟨hb5752, e5752, hat5752, hk5752⟩ := hT.o9 hw.1
          obtain ⟨f5752_0, f5752_1, f5752_2, f5752_3, f5752_4, f5752_5, f5752_6, rfl, t5752_0, t5752_1, t5752_2, t5752_3, rfl, rfl, rfl⟩ := hk5752
          have hP : va_P D vwCl [(w, .inr (8, [.ref (cs 450), .ref (cs 440), .ref (cs 441), .ref f5752_3, .int f5752_4, .int f5752_5, .int f5752_6]))] _ := va_P.cons hat5752 va_P.nil
          refine va_get (D := D) (ci := 8) (v := .ref (cs 440)) (C := RX8) (T := TX8) (N := 7) hx hb hts iX8_checksum_8 hown hN.1 hP 0 rfl rfl 1 (by decide) (hts _ mX8_checksum_2) (fun _ h9 => h9) rfl dX8_checksum_119 ?_
          refine lv_iload_n hx hb dX8_checksum_122 rfl (lv_at hl 3 rfl) ?_
          refine lv_iload hx hb dX8_checksum_123 (lv_at hl 0 rfl) ?_
          refine cv_i (As := [.int (nI k), .int (nI q)]) (rest := [.long y5751]) (b := (cs 440)) ⟨hx, hb, hml, hown, hts⟩ (c_X7_tellMessage hT (w := (cs 440)) t5752_1 (x := (nI k)) (y := (nI q))) (cwV 2 hts gX8_checksum_X7_tellMessage rfl rfl rfl hdX7_tellMessage_v ⟨Nat.le_of_ble_eq_true rfl, Nat.le_of_ble_eq_true rfl⟩) hN hE hL (rcv8 hN hT t5752_1.1) rfl rfl hl.1 (Nat.le_of_ble_eq_true rfl) dX8_checksum_125 (Nat.zero_le _) (Nat.zero_le _) (fun r5753 H1 locs hL hqr5753 => ?_)
          obtain ⟨hT1, hF1⟩ := hqr5753
          have hR := hR.fr hT trivial hF1 (by decide)
          have hT := hT1
          refine lv_i2l hx hb dX8_checksum_128 rfl ?_
          refine gn_l (fun y5754 => ?_)
          refine lv_ladd hx hb dX8_checksum_129 ?_
          refine gn_l (fun y5755 => ?_)
          refine lv_lstore_n (lv' := [(1, .long y5755), (4, .int (nI q)), (0, .ref w), (3, .int (nI k))]) hx hb dX8_checksum_130 rfl hl (by decide) rfl (fun ls hl => ?_)
          refine lv_iinc (v := (nI (q + 1))) (lv' := [(4, .int (nI (q + 1))), (1, .long y5755), (0, .ref w), (3, .int (nI k))]) hx hb dX8_checksum_131 hl (k := 1) rfl (nI_add _ 1) (by decide) rfl (fun ls hl => ?_)
          refine lv_goto (tgt := 107) hx hb dX8_checksum_134 (by decide) ?_
          exact ih5749 ((q + 1), y5755) _ _ _ (by show 6 - ((q + 1)) < 6 - q; omega) ⟨(by show ((q + 1)) ≤ 6; omega), hR, hT, hL⟩ (lv_sub hl [0, 1, 2, 3] rfl)
    · have c5728 : ¬ f5727_0 ≤ k := fun h9 => c5728 ((nI_leI (a := f5727_0) (b := k) (by omega) (by omega)).mpr h9)
      refine lv_iconst (v := 0) hx hb dX8_checksum_48 (by decide) ?_
      refine lv_istore (lv' := [(4, .int 0), (3, .int (nI k)), (1, .long y), (0, .ref w)]) hx hb dX8_checksum_49 hl (by decide) rfl (fun ls hl => ?_)
      refine lp_m (α := Nat × Int64) (nL := 5) (fun a9 => 10 - a9.1) (fun a9 H9 l9 => (a9.1 ≤ 10) ∧ (RQ D cs κ H9 C LN er) ∧ (WT B0 D cs T κ H9) ∧ (OkL B0 l9)) (fun a9 => [(4, .int (nI a9.1)), (1, .long a9.2), (0, .ref w), (3, .int (nI k))]) ?_ (0, y) _ _ _ ⟨(by show (0) ≤ 10; omega), hR, hT, hL⟩ (lv_sub hl [0, 2, 3, 1] rfl)
      rintro ⟨q, y⟩ H locs ls ih5756 ⟨hq, hR, hT, hL⟩ hl
      have hl : lv_has ls 5 [(4, .int (nI q)), (1, .long y), (0, .ref w), (3, .int (nI k))] := hl
      have hq : q ≤ 10 := hq
      have hR : RQ D cs κ H C LN er := hR
      refine lv_iload hx hb dX8_checksum_51 (lv_at hl 0 rfl) ?_
      refine lv_bipush (v := 9) hx hb dX8_checksum_53 (by decide) ?_
      refine lv_icmp_gt (tgt := 82) hx hb dX8_checksum_55 (by decide) (fun c5757 => ?_) (fun c5757 => ?_)
      · have c5757 : 9 < q := (nI_ltI (a := 9) (b := q) (by omega) (by omega)).mp c5757
        refine lv_iinc (v := (nI (k + 1))) (lv' := [(3, .int (nI (k + 1))), (4, .int (nI q)), (1, .long y), (0, .ref w)]) hx hb dX8_checksum_82 hl (k := 3) rfl (nI_add _ 1) (by decide) rfl (fun ls hl => ?_)
        refine lv_goto (tgt := 34) hx hb dX8_checksum_85 (by decide) ?_
        exact ih5724 ((k + 1), y) _ _ _ (by show 8 - ((k + 1)) < 8 - k; omega) ⟨(by show ((k + 1)) ≤ 8; omega), hR, hT, hL⟩ (lv_sub hl [0, 2, 3] rfl)
      · have c5757 : ¬ 9 < q := fun h9 => c5757 ((nI_ltI (a := 9) (b := q) (by omega) (by omega)).mpr h9)
        refine lv_ldc2 (v := 31) hx hb hown (hts _ mX8_checksum_1) dX8_checksum_58 ?_
        refine lv_lload_n hx hb dX8_checksum_61 rfl (lv_at hl 1 rfl) ?_
        refine lv_lmul hx hb dX8_checksum_62 ?_
        refine gn_l (fun y5758 => ?_)
        refine lv_aload_n hx hb dX8_checksum_63 rfl (lv_at hl 2 rfl) ?_
        obtain ⟨hb5759, e5759, hat5759, hk5759⟩ := hT.o9 hw.1
        obtain ⟨f5759_0, f5759_1, f5759_2, f5759_3, f5759_4, f5759_5, f5759_6, rfl, t5759_0, t5759_1, t5759_2, t5759_3, rfl, rfl, rfl⟩ := hk5759
        have hP : va_P D vwCl [(w, .inr (8, [.ref (cs 450), .ref (cs 440), .ref (cs 441), .ref f5759_3, .int f5759_4, .int f5759_5, .int f5759_6]))] _ := va_P.cons hat5759 va_P.nil
        refine va_get (D := D) (ci := 8) (v := .ref (cs 440)) (C := RX8) (T := TX8) (N := 7) hx hb hts iX8_checksum_8 hown hN.1 hP 0 rfl rfl 1 (by decide) (hts _ mX8_checksum_2) (fun _ h9 => h9) rfl dX8_checksum_64 ?_
        refine lv_iload_n hx hb dX8_checksum_67 rfl (lv_at hl 3 rfl) ?_
        refine lv_iload hx hb dX8_checksum_68 (lv_at hl 0 rfl) ?_
        refine cv_i (As := [.int (nI k), .int (nI q)]) (rest := [.long y5758]) (b := (cs 440)) ⟨hx, hb, hml, hown, hts⟩ (c_X7_tellPlayer hT (w := (cs 440)) t5759_1 (x := (nI k)) (y := (nI q))) (cwV 2 hts gX8_checksum_X7_tellPlayer rfl rfl rfl hdX7_tellPlayer_v ⟨Nat.le_of_ble_eq_true rfl, Nat.le_of_ble_eq_true rfl⟩) hN hE hL (rcv8 hN hT t5759_1.1) rfl rfl hl.1 (Nat.le_of_ble_eq_true rfl) dX8_checksum_70 (Nat.zero_le _) (Nat.zero_le _) (fun r5760 H1 locs hL hqr5760 => ?_)
        obtain rfl := hqr5760.symm
        refine lv_i2l hx hb dX8_checksum_73 rfl ?_
        refine gn_l (fun y5761 => ?_)
        refine lv_ladd hx hb dX8_checksum_74 ?_
        refine gn_l (fun y5762 => ?_)
        refine lv_lstore_n (lv' := [(1, .long y5762), (4, .int (nI q)), (0, .ref w), (3, .int (nI k))]) hx hb dX8_checksum_75 rfl hl (by decide) rfl (fun ls hl => ?_)
        refine lv_iinc (v := (nI (q + 1))) (lv' := [(4, .int (nI (q + 1))), (1, .long y5762), (0, .ref w), (3, .int (nI k))]) hx hb dX8_checksum_76 hl (k := 1) rfl (nI_add _ 1) (by decide) rfl (fun ls hl => ?_)
        refine lv_goto (tgt := 51) hx hb dX8_checksum_79 (by decide) ?_
        exact ih5756 ((q + 1), y5762) _ _ _ (by show 10 - ((q + 1)) < 10 - q; omega) ⟨(by show ((q + 1)) ≤ 10; omega), hR, hT, hL⟩ (lv_sub hl [0, 1, 2, 3] rfl)
  · have c5723 : ¬ 12 < k := fun h9 => c5723 ((nI_ltI (a := 12) (b := k) (by omega) (by omega)).mpr h9)
    refine lv_ldc2 (v := 31) hx hb hown (hts _ mX8_checksum_1) dX8_checksum_10 ?_
    refine lv_lload_n hx hb dX8_checksum_13 rfl (lv_at hl 1 rfl) ?_
    refine lv_lmul hx hb dX8_checksum_14 ?_
    refine gn_l (fun y5763 => ?_)
    refine lv_aload_n hx hb dX8_checksum_15 rfl (lv_at hl 2 rfl) ?_
    obtain ⟨hb5764, e5764, hat5764, hk5764⟩ := hT.o9 hw.1
    obtain ⟨f5764_0, f5764_1, f5764_2, f5764_3, f5764_4, f5764_5, f5764_6, rfl, t5764_0, t5764_1, t5764_2, t5764_3, rfl, rfl, rfl⟩ := hk5764
    have hP : va_P D vwCl [(w, .inr (8, [.ref (cs 450), .ref (cs 440), .ref (cs 441), .ref f5764_3, .int f5764_4, .int f5764_5, .int f5764_6]))] _ := va_P.cons hat5764 va_P.nil
    refine va_get (D := D) (ci := 8) (v := .ref (cs 440)) (C := RX8) (T := TX8) (N := 7) hx hb hts iX8_checksum_8 hown hN.1 hP 0 rfl rfl 1 (by decide) (hts _ mX8_checksum_2) (fun _ h9 => h9) rfl dX8_checksum_16 ?_
    refine lv_iload_n hx hb dX8_checksum_19 rfl (lv_at hl 0 rfl) ?_
    refine cv_i (As := [.int (nI k)]) (rest := [.long y5763]) (b := (cs 440)) ⟨hx, hb, hml, hown, hts⟩ (c_X7_count hT (w := (cs 440)) t5764_1 (x := (nI k))) (cwV 1 hts gX8_checksum_X7_count rfl rfl rfl hdX7_count_v ⟨Nat.le_of_ble_eq_true rfl, Nat.le_of_ble_eq_true rfl⟩) hN hE hL (rcv8 hN hT t5764_1.1) rfl rfl hl.1 (Nat.le_of_ble_eq_true rfl) dX8_checksum_20 (Nat.zero_le _) (Nat.zero_le _) (fun r5765 H1 locs hL hqr5765 => ?_)
    obtain ⟨hT1, hF1⟩ := hqr5765
    have hP : va_P D vwCl [(w, .inr (8, [.ref (cs 450), .ref (cs 440), .ref (cs 441), .ref f5764_3, .int f5764_4, .int f5764_5, .int f5764_6]))] _ := hF1.hP (hP.sub [0] rfl) (fa_c ⟨by rw [hw.1]; decide, by rw [hw.2]; first | decide | (simp; done) | (simp [h15a, h15b, h15c]; done) | (simp; omega)⟩ fa_n)
    have hR := hR.fr hT trivial hF1 (by decide)
    have hT := hT1
    refine lv_i2l hx hb dX8_checksum_23 rfl ?_
    refine gn_l (fun y5766 => ?_)
    refine lv_ladd hx hb dX8_checksum_24 ?_
    refine gn_l (fun y5767 => ?_)
    refine lv_lstore_n (lv' := [(1, .long y5767), (3, .int (nI k)), (0, .ref w)]) hx hb dX8_checksum_25 rfl hl (by decide) rfl (fun ls hl => ?_)
    refine lv_iinc (v := (nI (k + 1))) (lv' := [(3, .int (nI (k + 1))), (1, .long y5767), (0, .ref w)]) hx hb dX8_checksum_26 hl (k := 1) rfl (nI_add _ 1) (by decide) rfl (fun ls hl => ?_)
    refine lv_goto (tgt := 4) hx hb dX8_checksum_29 (by decide) ?_
    exact ih5722 ((k + 1), y5767) _ _ _ (by show 13 - ((k + 1)) < 13 - k; omega) ⟨(by show ((k + 1)) ≤ 13; omega), hR, hT, hL⟩ (lv_sub hl [0, 1, 2] rfl)
theorem mX8_append_1 : (.fieldLink RX8 10 "OneBeat" "reader" "LOneBeat$Reader;" : Cond) ∈ wsX8_append := List.mem_of_getElem? (i := 1) (by decide +kernel)
theorem iX8_append_8 : ∀ w ∈ wsX80, w ∈ wsX8_append := fun w h => List.mem_of_mem_drop (List.mem_of_mem_take ((show wsX80 = (wsX8_append.drop 13).take 7 by decide +kernel) ▸ h))
theorem hdX5_hasRoomFor_v : yX5_hasRoomFor.cls = RX5 ∧ yX5_hasRoomFor.cls ≠ "java/lang/invoke/MethodHandle" ∧ yX5_hasRoomFor.cls ≠ "java/lang/invoke/VarHandle" ∧ (parseMethodDescriptor yX5_hasRoomFor.desc).map (fun d => d.parameters.length) = some 1 := by decide +kernel
theorem hdX5_store_v : yX5_store.cls = RX5 ∧ yX5_store.cls ≠ "java/lang/invoke/MethodHandle" ∧ yX5_store.cls ≠ "java/lang/invoke/VarHandle" ∧ (parseMethodDescriptor yX5_store.desc).map (fun d => d.parameters.length) = some 1 := by decide +kernel
theorem iX8_append_5 : ∀ w ∈ wsX50, w ∈ wsX8_append := fun w h => List.mem_of_mem_drop (List.mem_of_mem_take ((show wsX50 = (wsX8_append.drop 20).take 14 by decide +kernel) ▸ h))
set_option maxHeartbeats 4000000 in
set_option maxRecDepth 100000 in
theorem c_X8_append {l : Launch} {D : va_G} {cs : Nat → ClassId} {B0 T : Nat} {κ : KM} {H0 : Heap} (hT : WT B0 D cs T κ H0) {w : Nat} (hw : T2 κ w 9 13) {C : Nat → Nat} {LN : Nat → Nat → Nat} (hR : RQ D cs κ H0 C LN er) {x : Int32} {y : Int32} {z : Int32} {u : Int32} {v : Int32} : KC l yX8_append wsX8_append 1 22 0 0 D cs B0 H0 [.ref w, .int x, .int y, .int z, .int u, .int v] (Qi (fun r H => ∃ κ1, RDK (cs 450) κ κ1 ∧ WT B0 D cs T κ1 H ∧ RQ D cs κ1 H C LN er ∧ ((r = -1 ∧ 600 < (κ (cs 450)).2.2.1 + 20 ∧ (κ1 (cs 450)).2.2.1 = (κ (cs 450)).2.2.1) ∨ (r = nI ((κ (cs 450)).2.2.1 + 20) ∧ (κ (cs 450)).2.2.1 + 20 ≤ 600 ∧ (κ1 (cs 450)).2.2.1 = (κ (cs 450)).2.2.1 + 20)))) := by
  refine KC.of cX8_append 6 (some .int) (by decide) rfl (Nat.le_of_ble_eq_true rfl) ?_
  intro p e s m below meth c ls hx hb hr hml hown hts hlocks hin hN hE hH0 hl
  have hown : s.vm.findClass RX8 = some m.cls := hown
  have hl : lv_has ls 6 [(0, .ref w), (1, .int x), (2, .int y), (3, .int z), (4, .int u), (5, .int v)] := hl
  have hL : OkL B0 [] := OkL.nil
  have hF : Fr B0 [10] κ H0 H0 := Fr.rf
  have hT0 := hT
  obtain ⟨-, e0, hat0, rd0, nw0, tr0, pa0, a0, b0, c0, rfl, hrd0, -, -, -, -, -, hrd9⟩ := hT.o9 hw.1
  subst hrd9
  refine lv_aload_n hx hb dX8_append_0 rfl (lv_at hl 0 rfl) ?_
  obtain ⟨hb5768, e5768, hat5768, hk5768⟩ := hT.o9 hw.1
  obtain ⟨f5768_0, f5768_1, f5768_2, f5768_3, f5768_4, f5768_5, f5768_6, rfl, t5768_0, t5768_1, t5768_2, t5768_3, rfl, rfl, rfl⟩ := hk5768
  have hP : va_P D vwCl [(w, .inr (8, [.ref (cs 450), .ref (cs 440), .ref (cs 441), .ref f5768_3, .int f5768_4, .int f5768_5, .int f5768_6]))] _ := va_P.cons hat5768 va_P.nil
  refine va_get (D := D) (ci := 8) (v := .ref (cs 450)) (C := RX8) (T := TX8) (N := 7) hx hb hts iX8_append_8 hown hN.1 hP 0 rfl rfl 0 (by decide) (hts _ mX8_append_1) (fun _ h9 => h9) rfl dX8_append_1 ?_
  refine lv_bipush (v := 20) hx hb dX8_append_4 (by decide) ?_
  refine cv_i (As := [.int 20]) (rest := []) (b := (cs 450)) ⟨hx, hb, hml, hown, hts⟩ (c_X5_hasRoomFor hT (w := (cs 450)) t5768_0 (n := 20) (by first | omega | decide | assumption)) (cwV 1 hts gX8_append_X5_hasRoomFor rfl rfl rfl hdX5_hasRoomFor_v ⟨Nat.le_of_ble_eq_true rfl, Nat.le_of_ble_eq_true rfl⟩) hN hE hL (rcv6 hN hT t5768_0.1) rfl rfl hl.1 (Nat.le_of_ble_eq_true rfl) dX8_append_6 (Nat.zero_le _) (Nat.zero_le _) (fun r5769 H1 locs hL hqr5769 => ?_)
  obtain ⟨h9, hqr5769⟩ := hqr5769; replace h9 := h9.symm; subst h9
  rcases hqr5769 with ⟨rfl, h5770⟩ | ⟨rfl, h5771⟩
  · refine lv_if_ne (tgt := 14) hx hb dX8_append_9 (by decide) (fun c9 => absurd (by decide) c9) (fun _ => ?_)
    refine lv_iconst (v := (-1)) hx hb dX8_append_12 (by decide) ?_
    exact en_i hx hb hr hlocks hL rfl (Nat.zero_le _) (Nat.zero_le _) dX8_append_13 (⟨κ, RDK.rf, hT, (hR.fr hT0 trivial hF (by decide)), Or.inl ⟨rfl, (by omega), rfl⟩⟩)
  · refine lv_if_ne (tgt := 14) hx hb dX8_append_9 (by decide) (fun _ => ?_) (fun c9 => absurd c9 (by decide))
    refine lv_aload_n hx hb dX8_append_14 rfl (lv_at hl 0 rfl) ?_
    refine va_get (D := D) (ci := 8) (v := .ref (cs 450)) (C := RX8) (T := TX8) (N := 7) hx hb hts iX8_append_8 hown hN.1 hP 0 rfl rfl 0 (by decide) (hts _ mX8_append_1) (fun _ h9 => h9) rfl dX8_append_15 ?_
    refine lv_iload_n hx hb dX8_append_18 rfl (lv_at hl 1 rfl) ?_
    refine cv_v (As := [.int x]) (rest := []) (b := (cs 450)) ⟨hx, hb, hml, hown, hts⟩ (c_X5_store hT (w := (cs 450)) t5768_0 (x := x) (by first | omega | decide | assumption)) (cwV 1 hts gX8_append_X5_store rfl rfl rfl hdX5_store_v ⟨Nat.le_of_ble_eq_true rfl, Nat.le_of_ble_eq_true rfl⟩) hN hE hL (rcv6 hN hT t5768_0.1) rfl rfl hl.1 (Nat.le_of_ble_eq_true rfl) dX8_append_19 (Nat.zero_le _) (Nat.zero_le _) (fun H1 locs hL hqr5772 => ?_)
    obtain ⟨hT1, hF1⟩ := hqr5772
    have hF := hF.tr (hF1.mono (by simp))
    have hT := hT1
    obtain ⟨κ5773, hκ5773⟩ : ∃ κq : KM, κq = (kp κ (cs 450) ((κ (cs 450)).2.2.1 + 4) (κ (cs 450)).2.2.2) := ⟨_, rfl⟩
    rw [← hκ5773] at hT
    have hxf5773 : KF κ κ5773 := by rw [hκ5773]; exact KF.kp
    have hKF : KF κ κ5773 := hxf5773
    have hRd : RDK (cs 450) κ κ5773 := (show RDK (cs 450) κ κ5773 by rw [hκ5773]; exact RDK.kp)
    have hw := (KF.t2 hxf5773 hw (by decide))
    have hkpa : (κ5773 (cs 450)).2.2.1 = ((κ (cs 450)).2.2.1 + 4) := by rw [hκ5773, kp_a]
    refine lv_aload_n hx hb dX8_append_22 rfl (lv_at hl 0 rfl) ?_
    obtain ⟨hb5774, e5774, hat5774, hk5774⟩ := hT.o9 hw.1
    obtain ⟨f5774_0, f5774_1, f5774_2, f5774_3, f5774_4, f5774_5, f5774_6, rfl, t5774_0, t5774_1, t5774_2, t5774_3, rfl, rfl, rfl⟩ := hk5774
    have hP : va_P D vwCl [(w, .inr (8, [.ref (cs 450), .ref (cs 440), .ref (cs 441), .ref f5774_3, .int f5774_4, .int f5774_5, .int f5774_6]))] _ := va_P.cons hat5774 va_P.nil
    refine va_get (D := D) (ci := 8) (v := .ref (cs 450)) (C := RX8) (T := TX8) (N := 7) hx hb hts iX8_append_8 hown hN.1 hP 0 rfl rfl 0 (by decide) (hts _ mX8_append_1) (fun _ h9 => h9) rfl dX8_append_23 ?_
    refine lv_iload_n hx hb dX8_append_26 rfl (lv_at hl 2 rfl) ?_
    refine cv_v (As := [.int y]) (rest := []) (b := (cs 450)) ⟨hx, hb, hml, hown, hts⟩ (c_X5_store hT (w := (cs 450)) t5774_0 (x := y) (by first | omega | decide | assumption)) (cwV 1 hts gX8_append_X5_store rfl rfl rfl hdX5_store_v ⟨Nat.le_of_ble_eq_true rfl, Nat.le_of_ble_eq_true rfl⟩) hN hE hL (rcv6 hN hT t5774_0.1) rfl rfl hl.1 (Nat.le_of_ble_eq_true rfl) dX8_append_27 (Nat.zero_le _) (Nat.zero_le _) (fun H1 locs hL hqr5775 => ?_)
    obtain ⟨hT1, hF1⟩ := hqr5775
    have hF := hF.tr ((hF1.kf hKF).mono (by simp))
    have hT := hT1
    obtain ⟨κ5776, hκ5776⟩ : ∃ κq : KM, κq = (kp κ5773 (cs 450) ((κ5773 (cs 450)).2.2.1 + 4) (κ5773 (cs 450)).2.2.2) := ⟨_, rfl⟩
    rw [← hκ5776] at hT
    have hxf5776 : KF κ5773 κ5776 := by rw [hκ5776]; exact KF.kp
    have hKF := hKF.tr hxf5776
    have hRd : RDK (cs 450) κ κ5776 := hRd.tr (show RDK (cs 450) κ5773 κ5776 by rw [hκ5776]; exact RDK.kp)
    have hw := (KF.t2 hxf5776 hw (by decide))
    have hkpa : (κ5776 (cs 450)).2.2.1 = ((κ5773 (cs 450)).2.2.1 + 4) := by rw [hκ5776, kp_a]
    refine lv_aload_n hx hb dX8_append_30 rfl (lv_at hl 0 rfl) ?_
    obtain ⟨hb5777, e5777, hat5777, hk5777⟩ := hT.o9 hw.1
    obtain ⟨f5777_0, f5777_1, f5777_2, f5777_3, f5777_4, f5777_5, f5777_6, rfl, t5777_0, t5777_1, t5777_2, t5777_3, rfl, rfl, rfl⟩ := hk5777
    have hP : va_P D vwCl [(w, .inr (8, [.ref (cs 450), .ref (cs 440), .ref (cs 441), .ref f5777_3, .int f5777_4, .int f5777_5, .int f5777_6]))] _ := va_P.cons hat5777 va_P.nil
    refine va_get (D := D) (ci := 8) (v := .ref (cs 450)) (C := RX8) (T := TX8) (N := 7) hx hb hts iX8_append_8 hown hN.1 hP 0 rfl rfl 0 (by decide) (hts _ mX8_append_1) (fun _ h9 => h9) rfl dX8_append_31 ?_
    refine lv_iload_n hx hb dX8_append_34 rfl (lv_at hl 3 rfl) ?_
    refine cv_v (As := [.int z]) (rest := []) (b := (cs 450)) ⟨hx, hb, hml, hown, hts⟩ (c_X5_store hT (w := (cs 450)) t5777_0 (x := z) (by first | omega | decide | assumption)) (cwV 1 hts gX8_append_X5_store rfl rfl rfl hdX5_store_v ⟨Nat.le_of_ble_eq_true rfl, Nat.le_of_ble_eq_true rfl⟩) hN hE hL (rcv6 hN hT t5777_0.1) rfl rfl hl.1 (Nat.le_of_ble_eq_true rfl) dX8_append_35 (Nat.zero_le _) (Nat.zero_le _) (fun H1 locs hL hqr5778 => ?_)
    obtain ⟨hT1, hF1⟩ := hqr5778
    have hF := hF.tr ((hF1.kf hKF).mono (by simp))
    have hT := hT1
    obtain ⟨κ5779, hκ5779⟩ : ∃ κq : KM, κq = (kp κ5776 (cs 450) ((κ5776 (cs 450)).2.2.1 + 4) (κ5776 (cs 450)).2.2.2) := ⟨_, rfl⟩
    rw [← hκ5779] at hT
    have hxf5779 : KF κ5776 κ5779 := by rw [hκ5779]; exact KF.kp
    have hKF := hKF.tr hxf5779
    have hRd : RDK (cs 450) κ κ5779 := hRd.tr (show RDK (cs 450) κ5776 κ5779 by rw [hκ5779]; exact RDK.kp)
    have hw := (KF.t2 hxf5779 hw (by decide))
    have hkpa : (κ5779 (cs 450)).2.2.1 = ((κ5776 (cs 450)).2.2.1 + 4) := by rw [hκ5779, kp_a]
    refine lv_aload_n hx hb dX8_append_38 rfl (lv_at hl 0 rfl) ?_
    obtain ⟨hb5780, e5780, hat5780, hk5780⟩ := hT.o9 hw.1
    obtain ⟨f5780_0, f5780_1, f5780_2, f5780_3, f5780_4, f5780_5, f5780_6, rfl, t5780_0, t5780_1, t5780_2, t5780_3, rfl, rfl, rfl⟩ := hk5780
    have hP : va_P D vwCl [(w, .inr (8, [.ref (cs 450), .ref (cs 440), .ref (cs 441), .ref f5780_3, .int f5780_4, .int f5780_5, .int f5780_6]))] _ := va_P.cons hat5780 va_P.nil
    refine va_get (D := D) (ci := 8) (v := .ref (cs 450)) (C := RX8) (T := TX8) (N := 7) hx hb hts iX8_append_8 hown hN.1 hP 0 rfl rfl 0 (by decide) (hts _ mX8_append_1) (fun _ h9 => h9) rfl dX8_append_39 ?_
    refine lv_iload hx hb dX8_append_42 (lv_at hl 4 rfl) ?_
    refine cv_v (As := [.int u]) (rest := []) (b := (cs 450)) ⟨hx, hb, hml, hown, hts⟩ (c_X5_store hT (w := (cs 450)) t5780_0 (x := u) (by first | omega | decide | assumption)) (cwV 1 hts gX8_append_X5_store rfl rfl rfl hdX5_store_v ⟨Nat.le_of_ble_eq_true rfl, Nat.le_of_ble_eq_true rfl⟩) hN hE hL (rcv6 hN hT t5780_0.1) rfl rfl hl.1 (Nat.le_of_ble_eq_true rfl) dX8_append_44 (Nat.zero_le _) (Nat.zero_le _) (fun H1 locs hL hqr5781 => ?_)
    obtain ⟨hT1, hF1⟩ := hqr5781
    have hF := hF.tr ((hF1.kf hKF).mono (by simp))
    have hT := hT1
    obtain ⟨κ5782, hκ5782⟩ : ∃ κq : KM, κq = (kp κ5779 (cs 450) ((κ5779 (cs 450)).2.2.1 + 4) (κ5779 (cs 450)).2.2.2) := ⟨_, rfl⟩
    rw [← hκ5782] at hT
    have hxf5782 : KF κ5779 κ5782 := by rw [hκ5782]; exact KF.kp
    have hKF := hKF.tr hxf5782
    have hRd : RDK (cs 450) κ κ5782 := hRd.tr (show RDK (cs 450) κ5779 κ5782 by rw [hκ5782]; exact RDK.kp)
    have hw := (KF.t2 hxf5782 hw (by decide))
    have hkpa : (κ5782 (cs 450)).2.2.1 = ((κ5779 (cs 450)).2.2.1 + 4) := by rw [hκ5782, kp_a]
    refine lv_aload_n hx hb dX8_append_47 rfl (lv_at hl 0 rfl) ?_
    obtain ⟨hb5783, e5783, hat5783, hk5783⟩ := hT.o9 hw.1
    obtain ⟨f5783_0, f5783_1, f5783_2, f5783_3, f5783_4, f5783_5, f5783_6, rfl, t5783_0, t5783_1, t5783_2, t5783_3, rfl, rfl, rfl⟩ := hk5783
    have hP : va_P D vwCl [(w, .inr (8, [.ref (cs 450), .ref (cs 440), .ref (cs 441), .ref f5783_3, .int f5783_4, .int f5783_5, .int f5783_6]))] _ := va_P.cons hat5783 va_P.nil
    refine va_get (D := D) (ci := 8) (v := .ref (cs 450)) (C := RX8) (T := TX8) (N := 7) hx hb hts iX8_append_8 hown hN.1 hP 0 rfl rfl 0 (by decide) (hts _ mX8_append_1) (fun _ h9 => h9) rfl dX8_append_48 ?_
    refine lv_iload hx hb dX8_append_51 (lv_at hl 5 rfl) ?_
    refine cv_v (As := [.int v]) (rest := []) (b := (cs 450)) ⟨hx, hb, hml, hown, hts⟩ (c_X5_store hT (w := (cs 450)) t5783_0 (x := v) (by first | omega | decide | assumption)) (cwV 1 hts gX8_append_X5_store rfl rfl rfl hdX5_store_v ⟨Nat.le_of_ble_eq_true rfl, Nat.le_of_ble_eq_true rfl⟩) hN hE hL (rcv6 hN hT t5783_0.1) rfl rfl hl.1 (Nat.le_of_ble_eq_true rfl) dX8_append_53 (Nat.zero_le _) (Nat.zero_le _) (fun H1 locs hL hqr5784 => ?_)
    obtain ⟨hT1, hF1⟩ := hqr5784
    have hF := hF.tr ((hF1.kf hKF).mono (by simp))
    have hT := hT1
    obtain ⟨κ5785, hκ5785⟩ : ∃ κq : KM, κq = (kp κ5782 (cs 450) ((κ5782 (cs 450)).2.2.1 + 4) (κ5782 (cs 450)).2.2.2) := ⟨_, rfl⟩
    rw [← hκ5785] at hT
    have hxf5785 : KF κ5782 κ5785 := by rw [hκ5785]; exact KF.kp
    have hKF := hKF.tr hxf5785
    have hRd : RDK (cs 450) κ κ5785 := hRd.tr (show RDK (cs 450) κ5782 κ5785 by rw [hκ5785]; exact RDK.kp)
    have hw := (KF.t2 hxf5785 hw (by decide))
    have hkpa : (κ5785 (cs 450)).2.2.1 = ((κ5782 (cs 450)).2.2.1 + 4) := by rw [hκ5785, kp_a]
    refine lv_aload_n hx hb dX8_append_56 rfl (lv_at hl 0 rfl) ?_
    obtain ⟨hb5786, e5786, hat5786, hk5786⟩ := hT.o9 hw.1
    obtain ⟨f5786_0, f5786_1, f5786_2, f5786_3, f5786_4, f5786_5, f5786_6, rfl, t5786_0, t5786_1, t5786_2, t5786_3, rfl, rfl, rfl⟩ := hk5786
    have hP : va_P D vwCl [(w, .inr (8, [.ref (cs 450), .ref (cs 440), .ref (cs 441), .ref f5786_3, .int f5786_4, .int f5786_5, .int f5786_6]))] _ := va_P.cons hat5786 va_P.nil
    refine va_get (D := D) (ci := 8) (v := .ref (cs 450)) (C := RX8) (T := TX8) (N := 7) hx hb hts iX8_append_8 hown hN.1 hP 0 rfl rfl 0 (by decide) (hts _ mX8_append_1) (fun _ h9 => h9) rfl dX8_append_57 ?_
    obtain ⟨hb5787, e5787, hat5787, hk5787⟩ := hT.o6 t5786_0.1
    obtain ⟨f5787_0, f5787_2, f5787_3, f5787_4, f5787_5, f5787_6, f5787_7, f5787_8, f5787_9, f5787_10, f5787_11, f5787_12, f5787_13, rfl, c5787_1, c5787_2, c5787_3, c5787_5, c5787_10, t5787_0, t5787_9, c5787_11, c5787_p2⟩ := hk5787
    have hP : va_P D vwCl [((cs 450), .inr (5, [.ref f5787_0, .int (nI ((κ5785 (cs 450)).2.2.1)), .int (nI f5787_2), .int (nI f5787_3), .int f5787_4, .int (nI f5787_5), .int f5787_6, .int f5787_7, .int f5787_8, .ref f5787_9, .int (nI f5787_10), f5787_11, .int f5787_12, .int f5787_13])), (w, .inr (8, [.ref (cs 450), .ref (cs 440), .ref (cs 441), .ref f5786_3, .int f5786_4, .int f5786_5, .int f5786_6]))] _ := va_P.cons hat5787 hP
    refine va_getN (D := D) (ci := 5) (v := .int (nI ((κ5785 (cs 450)).2.2.1))) (C := RX5) (T := TX5) (N := 14) hx hb hts iX8_append_5 hown hN.1 hP 0 rfl rfl 1 (by decide) (hN.f 0 rfl) (fun _ h9 => h9) rfl dX8_append_60 ?_
    exact en_i hx hb hr hlocks hL rfl (Nat.zero_le _) (Nat.zero_le _) dX8_append_63 (⟨_, hRd, hT, RQ.kk9 (hR.fr hT0 trivial hF (by decide)) hT0 (fun a h8 _ => hRd.2 a (by rcases h8 with h8 | h8 <;> rw [h8] <;> decide) (fun e9 => by have h6 := hrd0.1; rw [← e9] at h6; rcases h8 with h8 | h8 <;> rw [h8] at h6 <;> cases h6)), Or.inr ⟨by rw [show (κ5785 (cs 450)).2.2.1 = (κ (cs 450)).2.2.1 + 20 by omega], by omega, by omega⟩⟩)
