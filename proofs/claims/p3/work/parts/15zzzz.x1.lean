set_option maxHeartbeats 4000000 in
set_option maxRecDepth 100000 in
theorem c_X8_checksum {l : Launch} {D : va_G} {cs : Nat → ClassId} {B0 T : Nat} {κ : KM} {H0 : Heap} (hT : WT B0 D cs T κ H0) {w : Nat} (hw : T2 κ w 9 13) {C : Nat → Nat} {LN : Nat → Nat → Nat} (hR : RQ D cs κ H0 C LN er) : KC l yX8_checksum wsX8_checksum 6 136 ((336 * sumN C 16 + 137000 - PotN LN) / 35) (336 * sumN C 16 + 137000 - PotN LN) D cs B0 H0 [.ref w] (Ql (fun _ H => ∃ κ1, KW κ κ1 ∧ WT B0 D cs T κ1 H ∧ ∃ C1 LN1 k n, sumN C1 16 ≤ sumN C 16 + 24 ∧ RQ D cs κ1 H C1 LN1 er ∧ GQ H0 H LN LN1 k n ∧ BTK D cs κ H0 H)) := by
  refine KC.of cX8_checksum 5 (some .long) (by decide) rfl (Nat.le_of_ble_eq_true rfl) ?_
  intro p e s m below meth c ls hx hb hr hml hown hts hlocks hin hN hE hH0 hl
  have hown : s.vm.findClass RX8 = some m.cls := hown
  have hl : lv_has ls 5 [(0, .ref w)] := hl
  have hL : OkL B0 [] := OkL.nil
  have hGN : 35 * 0 ≤ 0 ∧ 0 + PotN LN ≤ PotN LN := ⟨Nat.le_refl _, by omega⟩
  have hs0 := hR.pot
  have hbt : BTK D cs κ H0 H0 := BTK.rf
  refine lv_lconst (v := 0) hx hb dX8_checksum_0 (by decide) ?_
  refine lv_lstore_n (lv' := [(1, .long 0), (0, .ref w)]) hx hb dX8_checksum_1 rfl hl (by decide) rfl (fun ls hl => ?_)
  refine lv_iconst (v := 0) hx hb dX8_checksum_2 (by decide) ?_
  refine lv_istore_n (lv' := [(3, .int 0), (1, .long 0), (0, .ref w)]) hx hb dX8_checksum_3 rfl hl (by decide) rfl (fun ls hl => ?_)
  refine lp_m (α := Nat × Int64) (nL := 5) (fun a9 => 13 - a9.1) (fun a9 H9 l9 => (a9.1 ≤ 13) ∧ (RQ D cs κ H9 C LN er) ∧ (BTK D cs κ H0 H9) ∧ (WT B0 D cs T κ H9) ∧ (OkL B0 l9)) (fun a9 => [(3, .int (nI a9.1)), (1, .long a9.2), (0, .ref w)]) ?_ (0, 0) _ _ _ ⟨(by show (0) ≤ 13; omega), hR, hbt, hT, hL⟩ (lv_sub hl [0, 1, 2] rfl)
  rintro ⟨k, y⟩ H locs ls ih3817 ⟨hk, hR, hbt, hT, hL⟩ hl
  have hl : lv_has ls 5 [(3, .int (nI k)), (1, .long y), (0, .ref w)] := hl
  have hk : k ≤ 13 := hk
  have hR : RQ D cs κ H C LN er := hR
  have hbt : BTK D cs κ H0 H := hbt
  refine lv_iload_n hx hb dX8_checksum_4 rfl (lv_at hl 0 rfl) ?_
  refine lv_bipush (v := 12) hx hb dX8_checksum_5 (by decide) ?_
  refine lv_icmp_gt (tgt := 32) hx hb dX8_checksum_7 (by decide) (fun c3818 => ?_) (fun c3818 => ?_)
  · have c3818 : 12 < k := (nI_ltI (a := 12) (b := k) (by omega) (by omega)).mp c3818
    refine lv_iconst (v := 0) hx hb dX8_checksum_32 (by decide) ?_
    refine lv_istore_n (lv' := [(3, .int 0), (1, .long y), (0, .ref w)]) hx hb dX8_checksum_33 rfl hl (by decide) rfl (fun ls hl => ?_)
    refine lp_m (α := Nat × Int64) (nL := 5) (fun a9 => 8 - a9.1) (fun a9 H9 l9 => (a9.1 ≤ 8) ∧ (RQ D cs κ H9 C LN er) ∧ (BTK D cs κ H0 H9) ∧ (WT B0 D cs T κ H9) ∧ (OkL B0 l9)) (fun a9 => [(3, .int (nI a9.1)), (1, .long a9.2), (0, .ref w)]) ?_ (0, y) _ _ _ ⟨(by show (0) ≤ 8; omega), hR, hbt, hT, hL⟩ (lv_sub hl [0, 1, 2] rfl)
    rintro ⟨k, y⟩ H locs ls ih3819 ⟨hk, hR, hbt, hT, hL⟩ hl
    have hl : lv_has ls 5 [(3, .int (nI k)), (1, .long y), (0, .ref w)] := hl
    have hk : k ≤ 8 := hk
    have hR : RQ D cs κ H C LN er := hR
    have hbt : BTK D cs κ H0 H := hbt
    refine lv_iload_n hx hb dX8_checksum_34 rfl (lv_at hl 0 rfl) ?_
    refine lv_aload_n hx hb dX8_checksum_35 rfl (lv_at hl 2 rfl) ?_
    obtain ⟨hb3820, e3820, hat3820, hk3820⟩ := hT.o9 hw.1
    obtain ⟨f3820_0, f3820_1, f3820_2, f3820_3, f3820_4, f3820_5, f3820_6, rfl, t3820_0, t3820_1, t3820_2, t3820_3, rfl, rfl, rfl⟩ := hk3820
    have hP : va_P D vwCl [(w, .inr (8, [.ref (cs 450), .ref (cs 440), .ref (cs 441), .ref f3820_3, .int f3820_4, .int f3820_5, .int f3820_6]))] _ := va_P.cons hat3820 va_P.nil
    refine va_get (D := D) (ci := 8) (v := .ref (cs 440)) (C := RX8) (T := TX8) (N := 7) hx hb hts iX8_checksum_8 hown hN.1 hP 0 rfl rfl 1 (by decide) (hts _ mX8_checksum_2) (fun _ h9 => h9) rfl dX8_checksum_36 ?_
    obtain ⟨hb3821, e3821, hat3821, hk3821⟩ := hT.o8 t3820_1.1
    obtain ⟨f3821_0, f3821_1, f3821_2, f3821_3, f3821_4, f3821_5, f3821_6, f3821_7, f3821_8, f3821_9, f3821_10, f3821_11, f3821_12, f3821_13, f3821_14, f3821_15, rfl, t3821_0, c3821_su, t3821_1, t3821_2, t3821_3, t3821_4, t3821_5, c3821_tm, c3821_lt, c3821_ml, c3821_pr, c3821_li⟩ := hk3821
    rw [t3820_1.2] at t3821_1
    rw [t3820_1.2] at t3821_2
    rw [t3820_1.2] at t3821_3
    rw [t3820_1.2] at t3821_4
    rw [t3820_1.2] at t3821_5
    rw [t3820_1.2] at c3821_lt c3821_ml c3821_pr c3821_li
    subst c3821_ml
    subst c3821_pr
    subst c3821_li
    have hP : va_P D vwCl [((cs 440), .inr (7, [.ref f3821_0, .ref f3821_1, .ref (cs (400 + 0)), .ref (cs (420 + 0)), .ref (cs (460 + 0)), .ref f3821_5, .long f3821_6, .int f3821_7, .int f3821_8, .int f3821_9, .int f3821_10, .int f3821_11, .int f3821_12, .int f3821_13, .int f3821_14, .int f3821_15])), (w, .inr (8, [.ref (cs 450), .ref (cs 440), .ref (cs 441), .ref f3820_3, .int f3820_4, .int f3820_5, .int f3820_6]))] _ := va_P.cons hat3821 hP
    refine va_getN (D := D) (ci := 7) (v := .ref f3821_0) (C := RX7) (T := TX7) (N := 16) hx hb hts iX8_checksum_7 hown hN.1 hP 0 rfl rfl 0 (by decide) (hN.f 46 rfl) (fun _ h9 => h9) rfl dX8_checksum_39 ?_
    obtain ⟨hb3822, e3822, hat3822, hk3822⟩ := hT.o7 t3821_0.1
    obtain ⟨f3822_0, f3822_1, f3822_2, f3822_3, f3822_4, f3822_5, f3822_6, f3822_7, rfl, c3822_0, c3822_3, c3822_mg, t3822_4, t3822_5, t3822_6, t3822_7⟩ := hk3822
    rw [t3821_0.2] at t3822_4
    rw [t3821_0.2] at t3822_5
    rw [t3821_0.2] at t3822_6
    rw [t3821_0.2] at t3822_7
    have hP : va_P D vwCl [(f3821_0, .inr (6, [.int (nI f3822_0), .int f3822_1, .int f3822_2, f3822_3, .ref f3822_4, .ref f3822_5, .ref f3822_6, .ref f3822_7])), ((cs 440), .inr (7, [.ref f3821_0, .ref f3821_1, .ref (cs (400 + 0)), .ref (cs (420 + 0)), .ref (cs (460 + 0)), .ref f3821_5, .long f3821_6, .int f3821_7, .int f3821_8, .int f3821_9, .int f3821_10, .int f3821_11, .int f3821_12, .int f3821_13, .int f3821_14, .int f3821_15])), (w, .inr (8, [.ref (cs 450), .ref (cs 440), .ref (cs 441), .ref f3820_3, .int f3820_4, .int f3820_5, .int f3820_6]))] _ := va_P.cons hat3822 hP
    refine va_getN (D := D) (ci := 6) (v := .int (nI f3822_0)) (C := RX6) (T := TX6) (N := 8) hx hb hts iX8_checksum_6 hown hN.1 hP 0 rfl rfl 0 (by decide) (hN.f 37 rfl) (fun _ h9 => h9) rfl dX8_checksum_42 ?_
    refine lv_icmp_ge (tgt := 88) hx hb dX8_checksum_45 (by decide) (fun c3823 => ?_) (fun c3823 => ?_)
    · have c3823 : f3822_0 ≤ k := (nI_leI (a := f3822_0) (b := k) (by omega) (by omega)).mp c3823
      refine lv_iconst (v := 0) hx hb dX8_checksum_88 (by decide) ?_
      refine lv_istore_n (lv' := [(3, .int 0), (1, .long y), (0, .ref w)]) hx hb dX8_checksum_89 rfl hl (by decide) rfl (fun ls hl => ?_)
      refine lp_m (α := Nat × Int64) (nL := 5) (fun a9 => 2147483648 - a9.1) (fun a9 H9 l9 => (a9.1 < 2147483648) ∧ (RQ D cs κ H9 C LN er) ∧ (BTK D cs κ H0 H9) ∧ (WT B0 D cs T κ H9) ∧ (OkL B0 l9)) (fun a9 => [(3, .int (nI a9.1)), (1, .long a9.2), (0, .ref w)]) ?_ (0, y) _ _ _ ⟨(by show (0) < 2147483648; omega), hR, hbt, hT, hL⟩ (lv_sub hl [0, 1, 2] rfl)
      rintro ⟨k, y⟩ H locs ls ih3824 ⟨hk, hR, hbt, hT, hL⟩ hl
      have hl : lv_has ls 5 [(3, .int (nI k)), (1, .long y), (0, .ref w)] := hl
      have hk : k < 2147483648 := hk
      have hR : RQ D cs κ H C LN er := hR
      have hbt : BTK D cs κ H0 H := hbt
      refine lv_iload_n hx hb dX8_checksum_90 rfl (lv_at hl 0 rfl) ?_
      refine lv_aload_n hx hb dX8_checksum_91 rfl (lv_at hl 2 rfl) ?_
      obtain ⟨hb3825, e3825, hat3825, hk3825⟩ := hT.o9 hw.1
      obtain ⟨f3825_0, f3825_1, f3825_2, f3825_3, f3825_4, f3825_5, f3825_6, rfl, t3825_0, t3825_1, t3825_2, t3825_3, rfl, rfl, rfl⟩ := hk3825
      have hP : va_P D vwCl [(w, .inr (8, [.ref (cs 450), .ref (cs 440), .ref (cs 441), .ref f3825_3, .int f3825_4, .int f3825_5, .int f3825_6]))] _ := va_P.cons hat3825 va_P.nil
      refine va_get (D := D) (ci := 8) (v := .ref (cs 440)) (C := RX8) (T := TX8) (N := 7) hx hb hts iX8_checksum_8 hown hN.1 hP 0 rfl rfl 1 (by decide) (hts _ mX8_checksum_2) (fun _ h9 => h9) rfl dX8_checksum_92 ?_
      obtain ⟨hb3826, e3826, hat3826, hk3826⟩ := hT.o8 t3825_1.1
      obtain ⟨f3826_0, f3826_1, f3826_2, f3826_3, f3826_4, f3826_5, f3826_6, f3826_7, f3826_8, f3826_9, f3826_10, f3826_11, f3826_12, f3826_13, f3826_14, f3826_15, rfl, t3826_0, c3826_su, t3826_1, t3826_2, t3826_3, t3826_4, t3826_5, c3826_tm, c3826_lt, c3826_ml, c3826_pr, c3826_li⟩ := hk3826
      rw [t3825_1.2] at t3826_1
      rw [t3825_1.2] at t3826_2
      rw [t3825_1.2] at t3826_3
      rw [t3825_1.2] at t3826_4
      rw [t3825_1.2] at t3826_5
      rw [t3825_1.2] at c3826_lt c3826_ml c3826_pr c3826_li
      subst c3826_ml
      subst c3826_pr
      subst c3826_li
      have hP : va_P D vwCl [((cs 440), .inr (7, [.ref f3826_0, .ref f3826_1, .ref (cs (400 + 0)), .ref (cs (420 + 0)), .ref (cs (460 + 0)), .ref f3826_5, .long f3826_6, .int f3826_7, .int f3826_8, .int f3826_9, .int f3826_10, .int f3826_11, .int f3826_12, .int f3826_13, .int f3826_14, .int f3826_15])), (w, .inr (8, [.ref (cs 450), .ref (cs 440), .ref (cs 441), .ref f3825_3, .int f3825_4, .int f3825_5, .int f3825_6]))] _ := va_P.cons hat3826 hP
      refine va_getN (D := D) (ci := 7) (v := .ref (cs (400 + 0))) (C := RX7) (T := TX7) (N := 16) hx hb hts iX8_checksum_7 hown hN.1 hP 0 rfl rfl 2 (by decide) (hN.f 47 rfl) (fun _ h9 => h9) rfl dX8_checksum_95 ?_
      obtain ⟨hb3827, e3827, hat3827, hk3827⟩ := hT.o3 t3826_2.1
      obtain ⟨f3827_0, f3827_1, f3827_2, rfl, t3827_0, t3827_1⟩ := hk3827
      rw [t3826_2.2] at t3827_0
      rw [t3826_2.2] at t3827_1
      have hP : va_P D vwCl [((cs (400 + 0)), .inr (2, [.ref f3827_0, .ref f3827_1, .int f3827_2])), ((cs 440), .inr (7, [.ref f3826_0, .ref f3826_1, .ref (cs (400 + 0)), .ref (cs (420 + 0)), .ref (cs (460 + 0)), .ref f3826_5, .long f3826_6, .int f3826_7, .int f3826_8, .int f3826_9, .int f3826_10, .int f3826_11, .int f3826_12, .int f3826_13, .int f3826_14, .int f3826_15])), (w, .inr (8, [.ref (cs 450), .ref (cs 440), .ref (cs 441), .ref f3825_3, .int f3825_4, .int f3825_5, .int f3825_6]))] _ := va_P.cons hat3827 hP
      refine va_getN (D := D) (ci := 2) (v := .int f3827_2) (C := RX2) (T := TX2) (N := 3) hx hb hts iX8_checksum_2 hown hN.1 hP 0 rfl rfl 2 (by decide) (hN.f 3 rfl) (fun _ h9 => h9) rfl dX8_checksum_98 ?_
      refine lv_icmp_ge (tgt := 143) hx hb dX8_checksum_101 (by decide) (fun c3828 => ?_) (fun c3828 => ?_)
      · refine lv_aload_n hx hb dX8_checksum_143 rfl (lv_at hl 2 rfl) ?_
        refine va_get (D := D) (ci := 8) (v := .ref (cs 440)) (C := RX8) (T := TX8) (N := 7) hx hb hts iX8_checksum_8 hown hN.1 hP 2 rfl rfl 1 (by decide) (hts _ mX8_checksum_2) (fun _ h9 => h9) rfl dX8_checksum_144 ?_
        refine va_getN (D := D) (ci := 7) (v := .int f3826_11) (C := RX7) (T := TX7) (N := 16) hx hb hts iX8_checksum_7 hown hN.1 hP 1 rfl rfl 11 (by decide) (hN.f 50 rfl) (fun _ h9 => h9) rfl dX8_checksum_147 ?_
        refine lv_if_le (tgt := 203) hx hb dX8_checksum_150 (by decide) (fun c3829 => ?_) (fun c3829 => ?_)
        · refine lv_lload_n hx hb dX8_checksum_203 rfl (lv_at hl 1 rfl) ?_
          refine W.know (fun hg => ?_)
          rw [hH0] at hg
          exact en_l hx hb hr hlocks hL (Nat.zero_le _) (Nat.zero_le _) dX8_checksum_204 (⟨κ, KW.rf, hT, C, LN, 0, 0, Nat.le_add_right _ _, hR, ⟨hg, hGN⟩, hbt⟩)
        · refine lv_iconst (v := 0) hx hb dX8_checksum_153 (by decide) ?_
          refine lv_istore_n (lv' := [(3, .int 0), (1, .long y), (0, .ref w)]) hx hb dX8_checksum_154 rfl hl (by decide) rfl (fun ls hl => ?_)
          refine lp_m (α := Nat × Int64) (nL := 5) (fun a9 => 6 - a9.1) (fun a9 H9 l9 => (a9.1 ≤ 6) ∧ (RQ D cs κ H9 C LN er) ∧ (BTK D cs κ H0 H9) ∧ (WT B0 D cs T κ H9) ∧ (OkL B0 l9)) (fun a9 => [(3, .int (nI a9.1)), (1, .long a9.2), (0, .ref w)]) ?_ (0, y) _ _ _ ⟨(by show (0) ≤ 6; omega), hR, hbt, hT, hL⟩ (lv_sub hl [0, 1, 2] rfl)
          rintro ⟨k, y⟩ H locs ls ih3830 ⟨hk, hR, hbt, hT, hL⟩ hl
          have hl : lv_has ls 5 [(3, .int (nI k)), (1, .long y), (0, .ref w)] := hl
          have hk : k ≤ 6 := hk
          have hR : RQ D cs κ H C LN er := hR
          have hbt : BTK D cs κ H0 H := hbt
          refine lv_iload_n hx hb dX8_checksum_155 rfl (lv_at hl 0 rfl) ?_
          refine lv_iconst (v := 5) hx hb dX8_checksum_156 (by decide) ?_
          refine lv_icmp_gt (tgt := 185) hx hb dX8_checksum_157 (by decide) (fun c3831 => ?_) (fun c3831 => ?_)
          · have c3831 : 5 < k := (nI_ltI (a := 5) (b := k) (by omega) (by omega)).mp c3831
            refine lv_ldc2 (v := 31) hx hb hown (hts _ mX8_checksum_1) dX8_checksum_185 ?_
            refine lv_lload_n hx hb dX8_checksum_188 rfl (lv_at hl 1 rfl) ?_
            refine lv_lmul hx hb dX8_checksum_189 ?_
            refine gn_l (fun y3832 => ?_)
            refine lv_aload_n hx hb dX8_checksum_190 rfl (lv_at hl 2 rfl) ?_
            obtain ⟨hb3833, e3833, hat3833, hk3833⟩ := hT.o9 hw.1
            obtain ⟨f3833_0, f3833_1, f3833_2, f3833_3, f3833_4, f3833_5, f3833_6, rfl, t3833_0, t3833_1, t3833_2, t3833_3, rfl, rfl, rfl⟩ := hk3833
            have hP : va_P D vwCl [(w, .inr (8, [.ref (cs 450), .ref (cs 440), .ref (cs 441), .ref f3833_3, .int f3833_4, .int f3833_5, .int f3833_6]))] _ := va_P.cons hat3833 va_P.nil
            refine va_get (D := D) (ci := 8) (v := .ref (cs 440)) (C := RX8) (T := TX8) (N := 7) hx hb hts iX8_checksum_8 hown hN.1 hP 0 rfl rfl 1 (by decide) (hts _ mX8_checksum_2) (fun _ h9 => h9) rfl dX8_checksum_191 ?_
            obtain ⟨hb3834, e3834, hat3834, hk3834⟩ := hT.o8 t3833_1.1
            obtain ⟨f3834_0, f3834_1, f3834_2, f3834_3, f3834_4, f3834_5, f3834_6, f3834_7, f3834_8, f3834_9, f3834_10, f3834_11, f3834_12, f3834_13, f3834_14, f3834_15, rfl, t3834_0, c3834_su, t3834_1, t3834_2, t3834_3, t3834_4, t3834_5, c3834_tm, c3834_lt, c3834_ml, c3834_pr, c3834_li⟩ := hk3834
            rw [t3833_1.2] at t3834_1
            rw [t3833_1.2] at t3834_2
            rw [t3833_1.2] at t3834_3
            rw [t3833_1.2] at t3834_4
            rw [t3833_1.2] at t3834_5
            rw [t3833_1.2] at c3834_lt c3834_ml c3834_pr c3834_li
            subst c3834_ml
            subst c3834_pr
            subst c3834_li
            have hP : va_P D vwCl [((cs 440), .inr (7, [.ref f3834_0, .ref f3834_1, .ref (cs (400 + 0)), .ref (cs (420 + 0)), .ref (cs (460 + 0)), .ref f3834_5, .long f3834_6, .int f3834_7, .int f3834_8, .int f3834_9, .int f3834_10, .int f3834_11, .int f3834_12, .int f3834_13, .int f3834_14, .int f3834_15])), (w, .inr (8, [.ref (cs 450), .ref (cs 440), .ref (cs 441), .ref f3833_3, .int f3833_4, .int f3833_5, .int f3833_6]))] _ := va_P.cons hat3834 hP
            refine va_getN (D := D) (ci := 7) (v := .ref (cs (420 + 0))) (C := RX7) (T := TX7) (N := 16) hx hb hts iX8_checksum_7 hown hN.1 hP 0 rfl rfl 3 (by decide) (hN.f 48 rfl) (fun _ h9 => h9) rfl dX8_checksum_194 ?_
            refine cv_i (As := []) (rest := [.long y3832]) (b := (cs (420 + 0))) ⟨hx, hb, hml, hown, hts⟩ (c_X4_spreadOfChanges hT (w := (cs (420 + 0))) t3834_3) (cwV 0 hts gX8_checksum_X4_spreadOfChanges rfl rfl rfl hdX4_spreadOfChanges_v ⟨Nat.le_of_ble_eq_true rfl, Nat.le_of_ble_eq_true rfl⟩) hN hE hL (rcv5 hN hT t3834_3.1) rfl rfl hl.1 (Nat.le_of_ble_eq_true rfl) dX8_checksum_197 (Nat.zero_le _) (Nat.zero_le _) (fun r3835 H1 locs hL hqr3835 => ?_)
            obtain rfl := hqr3835.symm
            refine lv_i2l hx hb dX8_checksum_200 rfl ?_
            refine gn_l (fun y3836 => ?_)
            refine lv_ladd hx hb dX8_checksum_201 ?_
            refine gn_l (fun y3837 => ?_)
            refine lv_lstore_n (lv' := [(1, .long y3837), (3, .int (nI k)), (0, .ref w)]) hx hb dX8_checksum_202 rfl hl (by decide) rfl (fun ls hl => ?_)
            refine lv_lload_n hx hb dX8_checksum_203 rfl (lv_at hl 0 rfl) ?_
            refine W.know (fun hg => ?_)
            rw [hH0] at hg
            exact en_l hx hb hr hlocks hL (Nat.zero_le _) (Nat.zero_le _) dX8_checksum_204 (⟨κ, KW.rf, hT, C, LN, 0, 0, Nat.le_add_right _ _, hR, ⟨hg, hGN⟩, hbt⟩)
          · have c3831 : ¬ 5 < k := fun h9 => c3831 ((nI_ltI (a := 5) (b := k) (by omega) (by omega)).mpr h9)
            refine lv_ldc2 (v := 31) hx hb hown (hts _ mX8_checksum_1) dX8_checksum_160 ?_
            refine lv_lload_n hx hb dX8_checksum_163 rfl (lv_at hl 1 rfl) ?_
            refine lv_lmul hx hb dX8_checksum_164 ?_
            refine gn_l (fun y3838 => ?_)
            refine lv_aload_n hx hb dX8_checksum_165 rfl (lv_at hl 2 rfl) ?_
            obtain ⟨hb3839, e3839, hat3839, hk3839⟩ := hT.o9 hw.1
            obtain ⟨f3839_0, f3839_1, f3839_2, f3839_3, f3839_4, f3839_5, f3839_6, rfl, t3839_0, t3839_1, t3839_2, t3839_3, rfl, rfl, rfl⟩ := hk3839
            have hP : va_P D vwCl [(w, .inr (8, [.ref (cs 450), .ref (cs 440), .ref (cs 441), .ref f3839_3, .int f3839_4, .int f3839_5, .int f3839_6]))] _ := va_P.cons hat3839 va_P.nil
            refine va_get (D := D) (ci := 8) (v := .ref (cs 440)) (C := RX8) (T := TX8) (N := 7) hx hb hts iX8_checksum_8 hown hN.1 hP 0 rfl rfl 1 (by decide) (hts _ mX8_checksum_2) (fun _ h9 => h9) rfl dX8_checksum_166 ?_
            obtain ⟨hb3840, e3840, hat3840, hk3840⟩ := hT.o8 t3839_1.1
            obtain ⟨f3840_0, f3840_1, f3840_2, f3840_3, f3840_4, f3840_5, f3840_6, f3840_7, f3840_8, f3840_9, f3840_10, f3840_11, f3840_12, f3840_13, f3840_14, f3840_15, rfl, t3840_0, c3840_su, t3840_1, t3840_2, t3840_3, t3840_4, t3840_5, c3840_tm, c3840_lt, c3840_ml, c3840_pr, c3840_li⟩ := hk3840
            rw [t3839_1.2] at t3840_1
            rw [t3839_1.2] at t3840_2
            rw [t3839_1.2] at t3840_3
            rw [t3839_1.2] at t3840_4
            rw [t3839_1.2] at t3840_5
            rw [t3839_1.2] at c3840_lt c3840_ml c3840_pr c3840_li
            subst c3840_ml
            subst c3840_pr
            subst c3840_li
            have hP : va_P D vwCl [((cs 440), .inr (7, [.ref f3840_0, .ref f3840_1, .ref (cs (400 + 0)), .ref (cs (420 + 0)), .ref (cs (460 + 0)), .ref f3840_5, .long f3840_6, .int f3840_7, .int f3840_8, .int f3840_9, .int f3840_10, .int f3840_11, .int f3840_12, .int f3840_13, .int f3840_14, .int f3840_15])), (w, .inr (8, [.ref (cs 450), .ref (cs 440), .ref (cs 441), .ref f3839_3, .int f3839_4, .int f3839_5, .int f3839_6]))] _ := va_P.cons hat3840 hP
            refine va_getN (D := D) (ci := 7) (v := .ref (cs (420 + 0))) (C := RX7) (T := TX7) (N := 16) hx hb hts iX8_checksum_7 hown hN.1 hP 0 rfl rfl 3 (by decide) (hN.f 48 rfl) (fun _ h9 => h9) rfl dX8_checksum_169 ?_
            refine lv_iload_n hx hb dX8_checksum_172 rfl (lv_at hl 0 rfl) ?_
            refine cv_i (As := [.int (nI k)]) (rest := [.long y3838]) (b := (cs (420 + 0))) ⟨hx, hb, hml, hown, hts⟩ (c_X4_tell hT (w := (cs (420 + 0))) t3840_3 (x := (nI k))) (cwV 1 hts gX8_checksum_X4_tell rfl rfl rfl hdX4_tell_v ⟨Nat.le_of_ble_eq_true rfl, Nat.le_of_ble_eq_true rfl⟩) hN hE hL (rcv5 hN hT t3840_3.1) rfl rfl hl.1 (Nat.le_of_ble_eq_true rfl) dX8_checksum_173 (Nat.zero_le _) (Nat.zero_le _) (fun r3841 H1 locs hL hqr3841 => ?_)
            obtain rfl := hqr3841.symm
            refine lv_i2l hx hb dX8_checksum_176 rfl ?_
            refine gn_l (fun y3842 => ?_)
            refine lv_ladd hx hb dX8_checksum_177 ?_
            refine gn_l (fun y3843 => ?_)
            refine lv_lstore_n (lv' := [(1, .long y3843), (3, .int (nI k)), (0, .ref w)]) hx hb dX8_checksum_178 rfl hl (by decide) rfl (fun ls hl => ?_)
            refine lv_iinc (v := (nI (k + 1))) (lv' := [(3, .int (nI (k + 1))), (1, .long y3843), (0, .ref w)]) hx hb dX8_checksum_179 hl (k := 1) rfl (nI_add _ 1) (by decide) rfl (fun ls hl => ?_)
            refine lv_goto (tgt := 155) hx hb dX8_checksum_182 (by decide) ?_
            exact ih3830 ((k + 1), y3843) _ _ _ (by show 6 - ((k + 1)) < 6 - k; omega) ⟨(by show ((k + 1)) ≤ 6; omega), hR, hbt, hT, hL⟩ (lv_sub hl [0, 1, 2] rfl)
      · have hk9 := tot_lt hk c3828
        refine lv_iconst (v := 0) hx hb dX8_checksum_104 (by decide) ?_
        refine lv_istore (lv' := [(4, .int 0), (3, .int (nI k)), (1, .long y), (0, .ref w)]) hx hb dX8_checksum_105 hl (by decide) rfl (fun ls hl => ?_)
        refine lp_m (α := Nat × Int64) (nL := 5) (fun a9 => 6 - a9.1) (fun a9 H9 l9 => (a9.1 ≤ 6) ∧ (RQ D cs κ H9 C LN er) ∧ (BTK D cs κ H0 H9) ∧ (WT B0 D cs T κ H9) ∧ (OkL B0 l9)) (fun a9 => [(4, .int (nI a9.1)), (1, .long a9.2), (0, .ref w), (3, .int (nI k))]) ?_ (0, y) _ _ _ ⟨(by show (0) ≤ 6; omega), hR, hbt, hT, hL⟩ (lv_sub hl [0, 2, 3, 1] rfl)
        rintro ⟨q, y⟩ H locs ls ih3844 ⟨hq, hR, hbt, hT, hL⟩ hl
        have hl : lv_has ls 5 [(4, .int (nI q)), (1, .long y), (0, .ref w), (3, .int (nI k))] := hl
        have hq : q ≤ 6 := hq
        have hR : RQ D cs κ H C LN er := hR
        have hbt : BTK D cs κ H0 H := hbt
        refine lv_iload hx hb dX8_checksum_107 (lv_at hl 0 rfl) ?_
        refine lv_iconst (v := 5) hx hb dX8_checksum_109 (by decide) ?_
        refine lv_icmp_gt (tgt := 137) hx hb dX8_checksum_110 (by decide) (fun c3845 => ?_) (fun c3845 => ?_)
        · have c3845 : 5 < q := (nI_ltI (a := 5) (b := q) (by omega) (by omega)).mp c3845
          refine lv_iinc (v := (nI (k + 1))) (lv' := [(3, .int (nI (k + 1))), (4, .int (nI q)), (1, .long y), (0, .ref w)]) hx hb dX8_checksum_137 hl (k := 3) rfl (nI_add _ 1) (by decide) rfl (fun ls hl => ?_)
          refine lv_goto (tgt := 90) hx hb dX8_checksum_140 (by decide) ?_
          exact ih3824 ((k + 1), y) _ _ _ (by show 2147483648 - ((k + 1)) < 2147483648 - k; omega) ⟨(by show ((k + 1)) < 2147483648; omega), hR, hbt, hT, hL⟩ (lv_sub hl [0, 2, 3] rfl)
        · have c3845 : ¬ 5 < q := fun h9 => c3845 ((nI_ltI (a := 5) (b := q) (by omega) (by omega)).mpr h9)
          refine lv_ldc2 (v := 31) hx hb hown (hts _ mX8_checksum_1) dX8_checksum_113 ?_
          refine lv_lload_n hx hb dX8_checksum_116 rfl (lv_at hl 1 rfl) ?_
          refine lv_lmul hx hb dX8_checksum_117 ?_
          refine gn_l (fun y3846 => ?_)
          refine lv_aload_n hx hb dX8_checksum_118 rfl (lv_at hl 2 rfl) ?_
          obtain ⟨hb3847, e3847, hat3847, hk3847⟩ := hT.o9 hw.1
          obtain ⟨f3847_0, f3847_1, f3847_2, f3847_3, f3847_4, f3847_5, f3847_6, rfl, t3847_0, t3847_1, t3847_2, t3847_3, rfl, rfl, rfl⟩ := hk3847
          have hP : va_P D vwCl [(w, .inr (8, [.ref (cs 450), .ref (cs 440), .ref (cs 441), .ref f3847_3, .int f3847_4, .int f3847_5, .int f3847_6]))] _ := va_P.cons hat3847 va_P.nil
          refine va_get (D := D) (ci := 8) (v := .ref (cs 440)) (C := RX8) (T := TX8) (N := 7) hx hb hts iX8_checksum_8 hown hN.1 hP 0 rfl rfl 1 (by decide) (hts _ mX8_checksum_2) (fun _ h9 => h9) rfl dX8_checksum_119 ?_
          refine lv_iload_n hx hb dX8_checksum_122 rfl (lv_at hl 3 rfl) ?_
          refine lv_iload hx hb dX8_checksum_123 (lv_at hl 0 rfl) ?_
          refine cv_i (As := [.int (nI k), .int (nI q)]) (rest := [.long y3846]) (b := (cs 440)) ⟨hx, hb, hml, hown, hts⟩ (c_X7_tellMessage hT (w := (cs 440)) t3847_1 (x := (nI k)) (y := (nI q))) (cwV 2 hts gX8_checksum_X7_tellMessage rfl rfl rfl hdX7_tellMessage_v ⟨Nat.le_of_ble_eq_true rfl, Nat.le_of_ble_eq_true rfl⟩) hN hE hL (rcv8 hN hT t3847_1.1) rfl rfl hl.1 (Nat.le_of_ble_eq_true rfl) dX8_checksum_125 (Nat.zero_le _) (Nat.zero_le _) (fun r3848 H1 locs hL hqr3848 => ?_)
          obtain ⟨hT1, hF1⟩ := hqr3848
          have hR := hR.fr hT trivial hF1 (by decide)
          have hbt := hbt.fr KZ.rf hT (hT.rd hw) hF1 (by first | decide | (simp; omega)) (by first | decide | (simp; omega))
          have hT := hT1
          refine lv_i2l hx hb dX8_checksum_128 rfl ?_
          refine gn_l (fun y3849 => ?_)
          refine lv_ladd hx hb dX8_checksum_129 ?_
          refine gn_l (fun y3850 => ?_)
          refine lv_lstore_n (lv' := [(1, .long y3850), (4, .int (nI q)), (0, .ref w), (3, .int (nI k))]) hx hb dX8_checksum_130 rfl hl (by decide) rfl (fun ls hl => ?_)
          refine lv_iinc (v := (nI (q + 1))) (lv' := [(4, .int (nI (q + 1))), (1, .long y3850), (0, .ref w), (3, .int (nI k))]) hx hb dX8_checksum_131 hl (k := 1) rfl (nI_add _ 1) (by decide) rfl (fun ls hl => ?_)
          refine lv_goto (tgt := 107) hx hb dX8_checksum_134 (by decide) ?_
          exact ih3844 ((q + 1), y3850) _ _ _ (by show 6 - ((q + 1)) < 6 - q; omega) ⟨(by show ((q + 1)) ≤ 6; omega), hR, hbt, hT, hL⟩ (lv_sub hl [0, 1, 2, 3] rfl)
    · have c3823 : ¬ f3822_0 ≤ k := fun h9 => c3823 ((nI_leI (a := f3822_0) (b := k) (by omega) (by omega)).mpr h9)
      refine lv_iconst (v := 0) hx hb dX8_checksum_48 (by decide) ?_
      refine lv_istore (lv' := [(4, .int 0), (3, .int (nI k)), (1, .long y), (0, .ref w)]) hx hb dX8_checksum_49 hl (by decide) rfl (fun ls hl => ?_)
      refine lp_m (α := Nat × Int64) (nL := 5) (fun a9 => 10 - a9.1) (fun a9 H9 l9 => (a9.1 ≤ 10) ∧ (RQ D cs κ H9 C LN er) ∧ (BTK D cs κ H0 H9) ∧ (WT B0 D cs T κ H9) ∧ (OkL B0 l9)) (fun a9 => [(4, .int (nI a9.1)), (1, .long a9.2), (0, .ref w), (3, .int (nI k))]) ?_ (0, y) _ _ _ ⟨(by show (0) ≤ 10; omega), hR, hbt, hT, hL⟩ (lv_sub hl [0, 2, 3, 1] rfl)
      rintro ⟨q, y⟩ H locs ls ih3851 ⟨hq, hR, hbt, hT, hL⟩ hl
      have hl : lv_has ls 5 [(4, .int (nI q)), (1, .long y), (0, .ref w), (3, .int (nI k))] := hl
      have hq : q ≤ 10 := hq
      have hR : RQ D cs κ H C LN er := hR
      have hbt : BTK D cs κ H0 H := hbt
      refine lv_iload hx hb dX8_checksum_51 (lv_at hl 0 rfl) ?_
      refine lv_bipush (v := 9) hx hb dX8_checksum_53 (by decide) ?_
      refine lv_icmp_gt (tgt := 82) hx hb dX8_checksum_55 (by decide) (fun c3852 => ?_) (fun c3852 => ?_)
      · have c3852 : 9 < q := (nI_ltI (a := 9) (b := q) (by omega) (by omega)).mp c3852
        refine lv_iinc (v := (nI (k + 1))) (lv' := [(3, .int (nI (k + 1))), (4, .int (nI q)), (1, .long y), (0, .ref w)]) hx hb dX8_checksum_82 hl (k := 3) rfl (nI_add _ 1) (by decide) rfl (fun ls hl => ?_)
        refine lv_goto (tgt := 34) hx hb dX8_checksum_85 (by decide) ?_
        exact ih3819 ((k + 1), y) _ _ _ (by show 8 - ((k + 1)) < 8 - k; omega) ⟨(by show ((k + 1)) ≤ 8; omega), hR, hbt, hT, hL⟩ (lv_sub hl [0, 2, 3] rfl)
      · have c3852 : ¬ 9 < q := fun h9 => c3852 ((nI_ltI (a := 9) (b := q) (by omega) (by omega)).mpr h9)
        refine lv_ldc2 (v := 31) hx hb hown (hts _ mX8_checksum_1) dX8_checksum_58 ?_
        refine lv_lload_n hx hb dX8_checksum_61 rfl (lv_at hl 1 rfl) ?_
        refine lv_lmul hx hb dX8_checksum_62 ?_
        refine gn_l (fun y3853 => ?_)
        refine lv_aload_n hx hb dX8_checksum_63 rfl (lv_at hl 2 rfl) ?_
        obtain ⟨hb3854, e3854, hat3854, hk3854⟩ := hT.o9 hw.1
        obtain ⟨f3854_0, f3854_1, f3854_2, f3854_3, f3854_4, f3854_5, f3854_6, rfl, t3854_0, t3854_1, t3854_2, t3854_3, rfl, rfl, rfl⟩ := hk3854
        have hP : va_P D vwCl [(w, .inr (8, [.ref (cs 450), .ref (cs 440), .ref (cs 441), .ref f3854_3, .int f3854_4, .int f3854_5, .int f3854_6]))] _ := va_P.cons hat3854 va_P.nil
        refine va_get (D := D) (ci := 8) (v := .ref (cs 440)) (C := RX8) (T := TX8) (N := 7) hx hb hts iX8_checksum_8 hown hN.1 hP 0 rfl rfl 1 (by decide) (hts _ mX8_checksum_2) (fun _ h9 => h9) rfl dX8_checksum_64 ?_
        refine lv_iload_n hx hb dX8_checksum_67 rfl (lv_at hl 3 rfl) ?_
        refine lv_iload hx hb dX8_checksum_68 (lv_at hl 0 rfl) ?_
        refine cv_i (As := [.int (nI k), .int (nI q)]) (rest := [.long y3853]) (b := (cs 440)) ⟨hx, hb, hml, hown, hts⟩ (c_X7_tellPlayer hT (w := (cs 440)) t3854_1 (x := (nI k)) (y := (nI q))) (cwV 2 hts gX8_checksum_X7_tellPlayer rfl rfl rfl hdX7_tellPlayer_v ⟨Nat.le_of_ble_eq_true rfl, Nat.le_of_ble_eq_true rfl⟩) hN hE hL (rcv8 hN hT t3854_1.1) rfl rfl hl.1 (Nat.le_of_ble_eq_true rfl) dX8_checksum_70 (Nat.zero_le _) (Nat.zero_le _) (fun r3855 H1 locs hL hqr3855 => ?_)
        obtain rfl := hqr3855.symm
        refine lv_i2l hx hb dX8_checksum_73 rfl ?_
        refine gn_l (fun y3856 => ?_)
        refine lv_ladd hx hb dX8_checksum_74 ?_
        refine gn_l (fun y3857 => ?_)
        refine lv_lstore_n (lv' := [(1, .long y3857), (4, .int (nI q)), (0, .ref w), (3, .int (nI k))]) hx hb dX8_checksum_75 rfl hl (by decide) rfl (fun ls hl => ?_)
        refine lv_iinc (v := (nI (q + 1))) (lv' := [(4, .int (nI (q + 1))), (1, .long y3857), (0, .ref w), (3, .int (nI k))]) hx hb dX8_checksum_76 hl (k := 1) rfl (nI_add _ 1) (by decide) rfl (fun ls hl => ?_)
        refine lv_goto (tgt := 51) hx hb dX8_checksum_79 (by decide) ?_
        exact ih3851 ((q + 1), y3857) _ _ _ (by show 10 - ((q + 1)) < 10 - q; omega) ⟨(by show ((q + 1)) ≤ 10; omega), hR, hbt, hT, hL⟩ (lv_sub hl [0, 1, 2, 3] rfl)
  · have c3818 : ¬ 12 < k := fun h9 => c3818 ((nI_ltI (a := 12) (b := k) (by omega) (by omega)).mpr h9)
    refine lv_ldc2 (v := 31) hx hb hown (hts _ mX8_checksum_1) dX8_checksum_10 ?_
    refine lv_lload_n hx hb dX8_checksum_13 rfl (lv_at hl 1 rfl) ?_
    refine lv_lmul hx hb dX8_checksum_14 ?_
    refine gn_l (fun y3858 => ?_)
    refine lv_aload_n hx hb dX8_checksum_15 rfl (lv_at hl 2 rfl) ?_
    obtain ⟨hb3859, e3859, hat3859, hk3859⟩ := hT.o9 hw.1
    obtain ⟨f3859_0, f3859_1, f3859_2, f3859_3, f3859_4, f3859_5, f3859_6, rfl, t3859_0, t3859_1, t3859_2, t3859_3, rfl, rfl, rfl⟩ := hk3859
    have hP : va_P D vwCl [(w, .inr (8, [.ref (cs 450), .ref (cs 440), .ref (cs 441), .ref f3859_3, .int f3859_4, .int f3859_5, .int f3859_6]))] _ := va_P.cons hat3859 va_P.nil
    refine va_get (D := D) (ci := 8) (v := .ref (cs 440)) (C := RX8) (T := TX8) (N := 7) hx hb hts iX8_checksum_8 hown hN.1 hP 0 rfl rfl 1 (by decide) (hts _ mX8_checksum_2) (fun _ h9 => h9) rfl dX8_checksum_16 ?_
    refine lv_iload_n hx hb dX8_checksum_19 rfl (lv_at hl 0 rfl) ?_
    refine cv_i (As := [.int (nI k)]) (rest := [.long y3858]) (b := (cs 440)) ⟨hx, hb, hml, hown, hts⟩ (c_X7_count hT (w := (cs 440)) t3859_1 (x := (nI k))) (cwV 1 hts gX8_checksum_X7_count rfl rfl rfl hdX7_count_v ⟨Nat.le_of_ble_eq_true rfl, Nat.le_of_ble_eq_true rfl⟩) hN hE hL (rcv8 hN hT t3859_1.1) rfl rfl hl.1 (Nat.le_of_ble_eq_true rfl) dX8_checksum_20 (Nat.zero_le _) (Nat.zero_le _) (fun r3860 H1 locs hL hqr3860 => ?_)
    obtain ⟨hT1, hF1⟩ := hqr3860
    have hP : va_P D vwCl [(w, .inr (8, [.ref (cs 450), .ref (cs 440), .ref (cs 441), .ref f3859_3, .int f3859_4, .int f3859_5, .int f3859_6]))] _ := hF1.hP (hP.sub [0] rfl) (fa_c ⟨by rw [hw.1]; decide, by rw [hw.2]; first | decide | (simp; done) | (simp [h15a, h15b, h15c]; done) | (simp; omega)⟩ fa_n)
    have hR := hR.fr hT trivial hF1 (by decide)
    have hbt := hbt.fr KZ.rf hT (hT.rd hw) hF1 (by first | decide | (simp; omega)) (by first | decide | (simp; omega))
    have hT := hT1
    refine lv_i2l hx hb dX8_checksum_23 rfl ?_
    refine gn_l (fun y3861 => ?_)
    refine lv_ladd hx hb dX8_checksum_24 ?_
    refine gn_l (fun y3862 => ?_)
    refine lv_lstore_n (lv' := [(1, .long y3862), (3, .int (nI k)), (0, .ref w)]) hx hb dX8_checksum_25 rfl hl (by decide) rfl (fun ls hl => ?_)
    refine lv_iinc (v := (nI (k + 1))) (lv' := [(3, .int (nI (k + 1))), (1, .long y3862), (0, .ref w)]) hx hb dX8_checksum_26 hl (k := 1) rfl (nI_add _ 1) (by decide) rfl (fun ls hl => ?_)
    refine lv_goto (tgt := 4) hx hb dX8_checksum_29 (by decide) ?_
    exact ih3817 ((k + 1), y3862) _ _ _ (by show 13 - ((k + 1)) < 13 - k; omega) ⟨(by show ((k + 1)) ≤ 13; omega), hR, hbt, hT, hL⟩ (lv_sub hl [0, 1, 2] rfl)
theorem mX8_append_1 : (.fieldLink RX8 10 "OneBeat" "reader" "LOneBeat$Reader;" : Cond) ∈ wsX8_append := List.mem_of_getElem? (i := 1) (by decide +kernel)
theorem iX8_append_8 : ∀ w ∈ wsX80, w ∈ wsX8_append := fun w h => List.mem_of_mem_drop (List.mem_of_mem_take ((show wsX80 = (wsX8_append.drop 13).take 7 by decide +kernel) ▸ h))
theorem hdX5_hasRoomFor_v : yX5_hasRoomFor.cls = RX5 ∧ yX5_hasRoomFor.cls ≠ "java/lang/invoke/MethodHandle" ∧ yX5_hasRoomFor.cls ≠ "java/lang/invoke/VarHandle" ∧ (parseMethodDescriptor yX5_hasRoomFor.desc).map (fun d => d.parameters.length) = some 1 := by decide +kernel
theorem hdX5_store_v : yX5_store.cls = RX5 ∧ yX5_store.cls ≠ "java/lang/invoke/MethodHandle" ∧ yX5_store.cls ≠ "java/lang/invoke/VarHandle" ∧ (parseMethodDescriptor yX5_store.desc).map (fun d => d.parameters.length) = some 1 := by decide +kernel
theorem iX8_append_5 : ∀ w ∈ wsX50, w ∈ wsX8_append := fun w h => List.mem_of_mem_drop (List.mem_of_mem_take ((show wsX50 = (wsX8_append.drop 20).take 14 by decide +kernel) ▸ h))
set_option maxHeartbeats 4000000 in
set_option maxRecDepth 100000 in
theorem c_X8_append {l : Launch} {D : va_G} {cs : Nat → ClassId} {B0 T : Nat} {κ : KM} {H0 : Heap} (hT : WT B0 D cs T κ H0) {w : Nat} (hw : T2 κ w 9 13) {C : Nat → Nat} {LN : Nat → Nat → Nat} (hR : RQ D cs κ H0 C LN er) {x : Int32} {y : Int32} {z : Int32} {u : Int32} {v : Int32} {tx : Nat} {f : Nat → Int32} (hbr : BRT D cs (cs 450) H0 tx f) : KC l yX8_append wsX8_append 1 22 0 0 D cs B0 H0 [.ref w, .int x, .int y, .int z, .int u, .int v] (Qi (fun r H => ∃ κ1, RDK (cs 450) κ κ1 ∧ WT B0 D cs T κ1 H ∧ RQ D cs κ1 H C LN er ∧ ((r = -1 ∧ 600 < (κ (cs 450)).2.2.1 + 20 ∧ (κ1 (cs 450)).2.2.1 = (κ (cs 450)).2.2.1 ∧ BRT D cs (cs 450) H tx f) ∨ (r = nI ((κ (cs 450)).2.2.1 + 20) ∧ (κ (cs 450)).2.2.1 + 20 ≤ 600 ∧ (κ1 (cs 450)).2.2.1 = (κ (cs 450)).2.2.1 + 20 ∧ BRT D cs (cs 450) H tx (st20 f (κ (cs 450)).2.2.1 x y z u v))))) := by
  refine KC.of cX8_append 6 (some .int) (by decide) rfl (Nat.le_of_ble_eq_true rfl) ?_
  intro p e s m below meth c ls hx hb hr hml hown hts hlocks hin hN hE hH0 hl
  have hown : s.vm.findClass RX8 = some m.cls := hown
  have hl : lv_has ls 6 [(0, .ref w), (1, .int x), (2, .int y), (3, .int z), (4, .int u), (5, .int v)] := hl
  have hL : OkL B0 [] := OkL.nil
  have hF : Fr B0 [10] κ H0 H0 := Fr.rf
  have hT0 := hT
  obtain ⟨-, e0, hat0, rd0, nw0, tr0, pa0, a0, b0, c0, rfl, hrd0, -, -, -, -, -, hrd9⟩ := hT.o9 hw.1
  subst hrd9
  refine lv_aload_n hx hb dX8_append_0 rfl (lv_at hl 0 rfl) ?_
  obtain ⟨hb3863, e3863, hat3863, hk3863⟩ := hT.o9 hw.1
  obtain ⟨f3863_0, f3863_1, f3863_2, f3863_3, f3863_4, f3863_5, f3863_6, rfl, t3863_0, t3863_1, t3863_2, t3863_3, rfl, rfl, rfl⟩ := hk3863
  have hP : va_P D vwCl [(w, .inr (8, [.ref (cs 450), .ref (cs 440), .ref (cs 441), .ref f3863_3, .int f3863_4, .int f3863_5, .int f3863_6]))] _ := va_P.cons hat3863 va_P.nil
  refine va_get (D := D) (ci := 8) (v := .ref (cs 450)) (C := RX8) (T := TX8) (N := 7) hx hb hts iX8_append_8 hown hN.1 hP 0 rfl rfl 0 (by decide) (hts _ mX8_append_1) (fun _ h9 => h9) rfl dX8_append_1 ?_
  refine lv_bipush (v := 20) hx hb dX8_append_4 (by decide) ?_
  refine cv_i (As := [.int 20]) (rest := []) (b := (cs 450)) ⟨hx, hb, hml, hown, hts⟩ (c_X5_hasRoomFor hT (w := (cs 450)) t3863_0 (n := 20) (by first | omega | decide | assumption)) (cwV 1 hts gX8_append_X5_hasRoomFor rfl rfl rfl hdX5_hasRoomFor_v ⟨Nat.le_of_ble_eq_true rfl, Nat.le_of_ble_eq_true rfl⟩) hN hE hL (rcv6 hN hT t3863_0.1) rfl rfl hl.1 (Nat.le_of_ble_eq_true rfl) dX8_append_6 (Nat.zero_le _) (Nat.zero_le _) (fun r3864 H1 locs hL hqr3864 => ?_)
  obtain ⟨h9, hqr3864⟩ := hqr3864; replace h9 := h9.symm; subst h9
  rcases hqr3864 with ⟨rfl, h3865⟩ | ⟨rfl, h3866⟩
  · refine lv_if_ne (tgt := 14) hx hb dX8_append_9 (by decide) (fun c9 => absurd (by decide) c9) (fun _ => ?_)
    refine lv_iconst (v := (-1)) hx hb dX8_append_12 (by decide) ?_
    exact en_i hx hb hr hlocks hL rfl (Nat.zero_le _) (Nat.zero_le _) dX8_append_13 (⟨κ, RDK.rf, hT, (hR.fr hT0 trivial hF (by decide)), Or.inl ⟨rfl, (by omega), rfl, hbr⟩⟩)
  · refine lv_if_ne (tgt := 14) hx hb dX8_append_9 (by decide) (fun _ => ?_) (fun c9 => absurd c9 (by decide))
    refine lv_aload_n hx hb dX8_append_14 rfl (lv_at hl 0 rfl) ?_
    refine va_get (D := D) (ci := 8) (v := .ref (cs 450)) (C := RX8) (T := TX8) (N := 7) hx hb hts iX8_append_8 hown hN.1 hP 0 rfl rfl 0 (by decide) (hts _ mX8_append_1) (fun _ h9 => h9) rfl dX8_append_15 ?_
    refine lv_iload_n hx hb dX8_append_18 rfl (lv_at hl 1 rfl) ?_
    refine cv_v (As := [.int x]) (rest := []) (b := (cs 450)) ⟨hx, hb, hml, hown, hts⟩ (c_X5_store hT (w := (cs 450)) t3863_0 (x := x) (by first | omega | decide | assumption) (by first | omega | decide | assumption)) (cwV 1 hts gX8_append_X5_store rfl rfl rfl hdX5_store_v ⟨Nat.le_of_ble_eq_true rfl, Nat.le_of_ble_eq_true rfl⟩) hN hE hL (rcv6 hN hT t3863_0.1) rfl rfl hl.1 (Nat.le_of_ble_eq_true rfl) dX8_append_19 (Nat.zero_le _) (Nat.zero_le _) (fun H1 locs hL hqr3867 => ?_)
    obtain ⟨hT1, hF1, hqr3867⟩ := hqr3867
    have hF := hF.tr (hF1.mono (by simp))
    have hT := hT1
    obtain ⟨κ3868, hκ3868⟩ : ∃ κq : KM, κq = (kp κ (cs 450) ((κ (cs 450)).2.2.1 + 4) (κ (cs 450)).2.2.2) := ⟨_, rfl⟩
    rw [← hκ3868] at hT
    have hxf3868 : KF κ κ3868 := by rw [hκ3868]; exact KF.kp
    have hKF : KF κ κ3868 := hxf3868
    have hRd : RDK (cs 450) κ κ3868 := (show RDK (cs 450) κ κ3868 by rw [hκ3868]; exact RDK.kp)
    have hw := (KF.t2 hxf3868 hw (by decide))
    have hkpa : (κ3868 (cs 450)).2.2.1 = ((κ (cs 450)).2.2.1 + 4) := by rw [hκ3868, kp_a]
    have b3869 := hqr3867
    have hbr := b3869
    refine lv_aload_n hx hb dX8_append_22 rfl (lv_at hl 0 rfl) ?_
    obtain ⟨hb3870, e3870, hat3870, hk3870⟩ := hT.o9 hw.1
    obtain ⟨f3870_0, f3870_1, f3870_2, f3870_3, f3870_4, f3870_5, f3870_6, rfl, t3870_0, t3870_1, t3870_2, t3870_3, rfl, rfl, rfl⟩ := hk3870
    have hP : va_P D vwCl [(w, .inr (8, [.ref (cs 450), .ref (cs 440), .ref (cs 441), .ref f3870_3, .int f3870_4, .int f3870_5, .int f3870_6]))] _ := va_P.cons hat3870 va_P.nil
    refine va_get (D := D) (ci := 8) (v := .ref (cs 450)) (C := RX8) (T := TX8) (N := 7) hx hb hts iX8_append_8 hown hN.1 hP 0 rfl rfl 0 (by decide) (hts _ mX8_append_1) (fun _ h9 => h9) rfl dX8_append_23 ?_
    refine lv_iload_n hx hb dX8_append_26 rfl (lv_at hl 2 rfl) ?_
    refine cv_v (As := [.int y]) (rest := []) (b := (cs 450)) ⟨hx, hb, hml, hown, hts⟩ (c_X5_store hT (w := (cs 450)) t3870_0 (x := y) (by first | omega | decide | assumption) (by first | omega | decide | assumption)) (cwV 1 hts gX8_append_X5_store rfl rfl rfl hdX5_store_v ⟨Nat.le_of_ble_eq_true rfl, Nat.le_of_ble_eq_true rfl⟩) hN hE hL (rcv6 hN hT t3870_0.1) rfl rfl hl.1 (Nat.le_of_ble_eq_true rfl) dX8_append_27 (Nat.zero_le _) (Nat.zero_le _) (fun H1 locs hL hqr3871 => ?_)
    obtain ⟨hT1, hF1, hqr3871⟩ := hqr3871
    have hF := hF.tr ((hF1.kf hKF).mono (by simp))
    have hT := hT1
    obtain ⟨κ3872, hκ3872⟩ : ∃ κq : KM, κq = (kp κ3868 (cs 450) ((κ3868 (cs 450)).2.2.1 + 4) (κ3868 (cs 450)).2.2.2) := ⟨_, rfl⟩
    rw [← hκ3872] at hT
    have hxf3872 : KF κ3868 κ3872 := by rw [hκ3872]; exact KF.kp
    have hKF := hKF.tr hxf3872
    have hRd : RDK (cs 450) κ κ3872 := hRd.tr (show RDK (cs 450) κ3868 κ3872 by rw [hκ3872]; exact RDK.kp)
    have hw := (KF.t2 hxf3872 hw (by decide))
    have hkpa : (κ3872 (cs 450)).2.2.1 = ((κ3868 (cs 450)).2.2.1 + 4) := by rw [hκ3872, kp_a]
    have b3873 := hqr3871
    have hbr := b3873
    rw [show (κ3868 (cs 450)).2.2.1 = (κ (cs 450)).2.2.1 + 4 by omega] at hbr
    refine lv_aload_n hx hb dX8_append_30 rfl (lv_at hl 0 rfl) ?_
    obtain ⟨hb3874, e3874, hat3874, hk3874⟩ := hT.o9 hw.1
    obtain ⟨f3874_0, f3874_1, f3874_2, f3874_3, f3874_4, f3874_5, f3874_6, rfl, t3874_0, t3874_1, t3874_2, t3874_3, rfl, rfl, rfl⟩ := hk3874
    have hP : va_P D vwCl [(w, .inr (8, [.ref (cs 450), .ref (cs 440), .ref (cs 441), .ref f3874_3, .int f3874_4, .int f3874_5, .int f3874_6]))] _ := va_P.cons hat3874 va_P.nil
    refine va_get (D := D) (ci := 8) (v := .ref (cs 450)) (C := RX8) (T := TX8) (N := 7) hx hb hts iX8_append_8 hown hN.1 hP 0 rfl rfl 0 (by decide) (hts _ mX8_append_1) (fun _ h9 => h9) rfl dX8_append_31 ?_
    refine lv_iload_n hx hb dX8_append_34 rfl (lv_at hl 3 rfl) ?_
    refine cv_v (As := [.int z]) (rest := []) (b := (cs 450)) ⟨hx, hb, hml, hown, hts⟩ (c_X5_store hT (w := (cs 450)) t3874_0 (x := z) (by first | omega | decide | assumption) (by first | omega | decide | assumption)) (cwV 1 hts gX8_append_X5_store rfl rfl rfl hdX5_store_v ⟨Nat.le_of_ble_eq_true rfl, Nat.le_of_ble_eq_true rfl⟩) hN hE hL (rcv6 hN hT t3874_0.1) rfl rfl hl.1 (Nat.le_of_ble_eq_true rfl) dX8_append_35 (Nat.zero_le _) (Nat.zero_le _) (fun H1 locs hL hqr3875 => ?_)
    obtain ⟨hT1, hF1, hqr3875⟩ := hqr3875
    have hF := hF.tr ((hF1.kf hKF).mono (by simp))
    have hT := hT1
    obtain ⟨κ3876, hκ3876⟩ : ∃ κq : KM, κq = (kp κ3872 (cs 450) ((κ3872 (cs 450)).2.2.1 + 4) (κ3872 (cs 450)).2.2.2) := ⟨_, rfl⟩
    rw [← hκ3876] at hT
    have hxf3876 : KF κ3872 κ3876 := by rw [hκ3876]; exact KF.kp
    have hKF := hKF.tr hxf3876
    have hRd : RDK (cs 450) κ κ3876 := hRd.tr (show RDK (cs 450) κ3872 κ3876 by rw [hκ3876]; exact RDK.kp)
    have hw := (KF.t2 hxf3876 hw (by decide))
    have hkpa : (κ3876 (cs 450)).2.2.1 = ((κ3872 (cs 450)).2.2.1 + 4) := by rw [hκ3876, kp_a]
    have b3877 := hqr3875
    have hbr := b3877
    rw [show (κ3872 (cs 450)).2.2.1 = (κ (cs 450)).2.2.1 + 8 by omega] at hbr
    refine lv_aload_n hx hb dX8_append_38 rfl (lv_at hl 0 rfl) ?_
    obtain ⟨hb3878, e3878, hat3878, hk3878⟩ := hT.o9 hw.1
    obtain ⟨f3878_0, f3878_1, f3878_2, f3878_3, f3878_4, f3878_5, f3878_6, rfl, t3878_0, t3878_1, t3878_2, t3878_3, rfl, rfl, rfl⟩ := hk3878
    have hP : va_P D vwCl [(w, .inr (8, [.ref (cs 450), .ref (cs 440), .ref (cs 441), .ref f3878_3, .int f3878_4, .int f3878_5, .int f3878_6]))] _ := va_P.cons hat3878 va_P.nil
    refine va_get (D := D) (ci := 8) (v := .ref (cs 450)) (C := RX8) (T := TX8) (N := 7) hx hb hts iX8_append_8 hown hN.1 hP 0 rfl rfl 0 (by decide) (hts _ mX8_append_1) (fun _ h9 => h9) rfl dX8_append_39 ?_
    refine lv_iload hx hb dX8_append_42 (lv_at hl 4 rfl) ?_
    refine cv_v (As := [.int u]) (rest := []) (b := (cs 450)) ⟨hx, hb, hml, hown, hts⟩ (c_X5_store hT (w := (cs 450)) t3878_0 (x := u) (by first | omega | decide | assumption) (by first | omega | decide | assumption)) (cwV 1 hts gX8_append_X5_store rfl rfl rfl hdX5_store_v ⟨Nat.le_of_ble_eq_true rfl, Nat.le_of_ble_eq_true rfl⟩) hN hE hL (rcv6 hN hT t3878_0.1) rfl rfl hl.1 (Nat.le_of_ble_eq_true rfl) dX8_append_44 (Nat.zero_le _) (Nat.zero_le _) (fun H1 locs hL hqr3879 => ?_)
    obtain ⟨hT1, hF1, hqr3879⟩ := hqr3879
    have hF := hF.tr ((hF1.kf hKF).mono (by simp))
    have hT := hT1
    obtain ⟨κ3880, hκ3880⟩ : ∃ κq : KM, κq = (kp κ3876 (cs 450) ((κ3876 (cs 450)).2.2.1 + 4) (κ3876 (cs 450)).2.2.2) := ⟨_, rfl⟩
    rw [← hκ3880] at hT
    have hxf3880 : KF κ3876 κ3880 := by rw [hκ3880]; exact KF.kp
    have hKF := hKF.tr hxf3880
    have hRd : RDK (cs 450) κ κ3880 := hRd.tr (show RDK (cs 450) κ3876 κ3880 by rw [hκ3880]; exact RDK.kp)
    have hw := (KF.t2 hxf3880 hw (by decide))
    have hkpa : (κ3880 (cs 450)).2.2.1 = ((κ3876 (cs 450)).2.2.1 + 4) := by rw [hκ3880, kp_a]
    have b3881 := hqr3879
    have hbr := b3881
    rw [show (κ3876 (cs 450)).2.2.1 = (κ (cs 450)).2.2.1 + 12 by omega] at hbr
    refine lv_aload_n hx hb dX8_append_47 rfl (lv_at hl 0 rfl) ?_
    obtain ⟨hb3882, e3882, hat3882, hk3882⟩ := hT.o9 hw.1
    obtain ⟨f3882_0, f3882_1, f3882_2, f3882_3, f3882_4, f3882_5, f3882_6, rfl, t3882_0, t3882_1, t3882_2, t3882_3, rfl, rfl, rfl⟩ := hk3882
    have hP : va_P D vwCl [(w, .inr (8, [.ref (cs 450), .ref (cs 440), .ref (cs 441), .ref f3882_3, .int f3882_4, .int f3882_5, .int f3882_6]))] _ := va_P.cons hat3882 va_P.nil
    refine va_get (D := D) (ci := 8) (v := .ref (cs 450)) (C := RX8) (T := TX8) (N := 7) hx hb hts iX8_append_8 hown hN.1 hP 0 rfl rfl 0 (by decide) (hts _ mX8_append_1) (fun _ h9 => h9) rfl dX8_append_48 ?_
    refine lv_iload hx hb dX8_append_51 (lv_at hl 5 rfl) ?_
    refine cv_v (As := [.int v]) (rest := []) (b := (cs 450)) ⟨hx, hb, hml, hown, hts⟩ (c_X5_store hT (w := (cs 450)) t3882_0 (x := v) (by first | omega | decide | assumption) (by first | omega | decide | assumption)) (cwV 1 hts gX8_append_X5_store rfl rfl rfl hdX5_store_v ⟨Nat.le_of_ble_eq_true rfl, Nat.le_of_ble_eq_true rfl⟩) hN hE hL (rcv6 hN hT t3882_0.1) rfl rfl hl.1 (Nat.le_of_ble_eq_true rfl) dX8_append_53 (Nat.zero_le _) (Nat.zero_le _) (fun H1 locs hL hqr3883 => ?_)
    obtain ⟨hT1, hF1, hqr3883⟩ := hqr3883
    have hF := hF.tr ((hF1.kf hKF).mono (by simp))
    have hT := hT1
    obtain ⟨κ3884, hκ3884⟩ : ∃ κq : KM, κq = (kp κ3880 (cs 450) ((κ3880 (cs 450)).2.2.1 + 4) (κ3880 (cs 450)).2.2.2) := ⟨_, rfl⟩
    rw [← hκ3884] at hT
    have hxf3884 : KF κ3880 κ3884 := by rw [hκ3884]; exact KF.kp
    have hKF := hKF.tr hxf3884
    have hRd : RDK (cs 450) κ κ3884 := hRd.tr (show RDK (cs 450) κ3880 κ3884 by rw [hκ3884]; exact RDK.kp)
    have hw := (KF.t2 hxf3884 hw (by decide))
    have hkpa : (κ3884 (cs 450)).2.2.1 = ((κ3880 (cs 450)).2.2.1 + 4) := by rw [hκ3884, kp_a]
    have b3885 := hqr3883
    have hbr := b3885
    rw [show (κ3880 (cs 450)).2.2.1 = (κ (cs 450)).2.2.1 + 16 by omega] at hbr
    refine lv_aload_n hx hb dX8_append_56 rfl (lv_at hl 0 rfl) ?_
    obtain ⟨hb3886, e3886, hat3886, hk3886⟩ := hT.o9 hw.1
    obtain ⟨f3886_0, f3886_1, f3886_2, f3886_3, f3886_4, f3886_5, f3886_6, rfl, t3886_0, t3886_1, t3886_2, t3886_3, rfl, rfl, rfl⟩ := hk3886
    have hP : va_P D vwCl [(w, .inr (8, [.ref (cs 450), .ref (cs 440), .ref (cs 441), .ref f3886_3, .int f3886_4, .int f3886_5, .int f3886_6]))] _ := va_P.cons hat3886 va_P.nil
    refine va_get (D := D) (ci := 8) (v := .ref (cs 450)) (C := RX8) (T := TX8) (N := 7) hx hb hts iX8_append_8 hown hN.1 hP 0 rfl rfl 0 (by decide) (hts _ mX8_append_1) (fun _ h9 => h9) rfl dX8_append_57 ?_
    obtain ⟨hb3887, e3887, hat3887, hk3887⟩ := hT.o6 t3886_0.1
    obtain ⟨f3887_0, f3887_2, f3887_3, f3887_4, f3887_5, f3887_6, f3887_7, f3887_8, f3887_9, f3887_10, f3887_11, f3887_12, f3887_13, rfl, c3887_1, c3887_2, c3887_3, c3887_5, c3887_10, t3887_0, t3887_9, c3887_11, c3887_p2⟩ := hk3887
    have hP : va_P D vwCl [((cs 450), .inr (5, [.ref f3887_0, .int (nI ((κ3884 (cs 450)).2.2.1)), .int (nI f3887_2), .int (nI f3887_3), .int f3887_4, .int (nI f3887_5), .int f3887_6, .int f3887_7, .int f3887_8, .ref f3887_9, .int (nI f3887_10), f3887_11, .int f3887_12, .int f3887_13])), (w, .inr (8, [.ref (cs 450), .ref (cs 440), .ref (cs 441), .ref f3886_3, .int f3886_4, .int f3886_5, .int f3886_6]))] _ := va_P.cons hat3887 hP
    refine va_getN (D := D) (ci := 5) (v := .int (nI ((κ3884 (cs 450)).2.2.1))) (C := RX5) (T := TX5) (N := 14) hx hb hts iX8_append_5 hown hN.1 hP 0 rfl rfl 1 (by decide) (hN.f 0 rfl) (fun _ h9 => h9) rfl dX8_append_60 ?_
    exact en_i hx hb hr hlocks hL rfl (Nat.zero_le _) (Nat.zero_le _) dX8_append_63 (⟨_, hRd, hT, RQ.kk9 (hR.fr hT0 trivial hF (by decide)) hT0 (fun a h8 _ => hRd.2 a (by rcases h8 with h8 | h8 <;> rw [h8] <;> decide) (fun e9 => by have h6 := hrd0.1; rw [← e9] at h6; rcases h8 with h8 | h8 <;> rw [h8] at h6 <;> cases h6)), Or.inr ⟨by rw [show (κ3884 (cs 450)).2.2.1 = (κ (cs 450)).2.2.1 + 20 by omega], by omega, by omega, hbr⟩⟩)
