theorem MF.fr {B0 : Nat} {D : va_G} {cs : Nat → ClassId} {κ : KM} {w : Nat} {H H1 : Heap} {pos tl : Nat} {er ns : Int32} {dr bu : Nat} {g : Nat → Int32} {S : List Nat} (h : MF D cs w H pos tl er ns dr bu g) (hw : T2 κ w 10 12) (hb : T2 κ bu 23 14) (hF : Fr B0 S κ H H1) (h1 : 12 ∉ S) (h2 : 14 ∉ S) : MF D cs w H1 pos tl er ns dr bu g := by
  obtain ⟨a1, a2, a3, a4, a5, a6, a7, a8, a9⟩ := h
  have k : ∀ {i : Nat} {v : Value}, FI D w 9 i v H → FI D w 9 i v H1 := fun ⟨fs, e1, e2⟩ => ⟨fs, e1.kept (hF.2 w e1.lt (Or.inr ⟨by rw [hw.1]; decide, by rw [hw.2]; exact h1⟩)), e2⟩
  exact ⟨k a1, k a2, k a3, k a4, k a5, k a6, a7.kept (hF.2 bu a7.lt (Or.inr ⟨by rw [hb.1]; decide, by rw [hb.2]; exact h2⟩)), a8, a9⟩
theorem ld_u (er : Int32) : ∃ u : Nat, u ≤ 1 ∧ (er = 0 → u = 1) ∧ (¬ er = 0 → u = 0) := by
  by_cases e : er = 0
  · exact ⟨1, Nat.le_refl _, fun _ => rfl, fun h => absurd e h⟩
  · exact ⟨0, by omega, fun h => absurd h e, fun _ => rfl⟩

set_option maxHeartbeats 4000000 in
set_option maxRecDepth 100000 in
theorem c_X9_fails_dz {l : Launch} {D : va_G} {cs : Nat → ClassId} {B0 T : Nat} {κ : KM} {H0 : Heap} (hT : WT B0 D cs T κ H0) {w : Nat} (hw : T2 κ w 10 12) {x z : Int32} (hz : ¬ z = 0) (hz0 : FI D w 9 0 (.int (nI 0)) H0) : KC l yX9_fails wsX9_fails 0 0 0 0 D cs B0 H0 [.ref w, .int x, .int z] (Qi (fun r H => WT B0 D cs T κ H ∧ Fr B0 [12] κ H0 H ∧ ((r = 1 ∧ ¬ x = 0) ∨ (r = 0 ∧ x = 0)))) := by
  refine KC.of cX9_fails 3 (some .boolean) (by decide) rfl (Nat.le_of_ble_eq_true rfl) ?_
  intro p e s m below meth c ls hx hb hr hml hown hts hlocks hin hN hE hH0 hl
  have hown : s.vm.findClass RX9 = some m.cls := hown
  have hl : lv_has ls 3 [(0, .ref w), (1, .int x), (2, .int z)] := hl
  have hL : OkL B0 [] := OkL.nil
  have hF : Fr B0 [12] κ H0 H0 := Fr.rf
  refine lv_iload_n hx hb dX9_fails_0 rfl (lv_at hl 1 rfl) ?_
  refine lv_if_eq (tgt := 16) hx hb dX9_fails_1 (by decide) (fun c4866 => ?_) (fun c4866 => ?_)
  · refine lv_aload_n hx hb dX9_fails_16 rfl (lv_at hl 0 rfl) ?_
    obtain ⟨hb4867, e4867, hat4867, hk4867⟩ := hT.o10 hw.1
    obtain ⟨f4867_0, f4867_1, f4867_3, f4867_4, f4867_5, f4867_6, f4867_7, f4867_9, f4867_10, f4867_11, f4867_12, f4867_13, f4867_14, f4867_15, f4867_16, f4867_17, rfl, c4867_2, c4867_3, c4867_4, c4867_12, t4867_1, t4867_8, t4867_9, c4867_sd, t4867_10, t4867_11, t4867_17⟩ := hk4867
    obtain rfl : f4867_0 = nI 0 := Value.int.inj (hz0.eq hat4867 rfl (by decide) rfl)
    have hP : va_P D vwCl [(w, .inr (9, [.int (nI 0), .ref f4867_1, .int (nI ((κ w).2.2.1)), .int (nI f4867_3), .int (nI f4867_4), .int f4867_5, .int f4867_6, .int f4867_7, .ref (κ w).2.2.2, .ref f4867_9, .ref f4867_10, .ref f4867_11, .int (nI f4867_12), .int f4867_13, .int f4867_14, .int f4867_15, .int f4867_16, .ref f4867_17]))] _ := va_P.cons hat4867 va_P.nil
    refine va_get (D := D) (ci := 9) (v := .int (nI 0)) (C := RX9) (T := TX9) (N := 18) hx hb hts iX9_fails_9 hown hN.1 hP 0 rfl rfl 0 (by decide) (hts _ mX9_fails_1) (fun _ h9 => h9) rfl dX9_fails_17 ?_
    refine lv_if_eq (tgt := 27) hx hb dX9_fails_20 (by decide) (fun c4868 => ?_) (fun c4868 => ?_)
    · have c4868 : 0 = 0 := (nI_eq (a := 0) (b := 0) (by omega) (by omega)).mp c4868
      refine lv_iconst (v := 0) hx hb dX9_fails_27 (by decide) ?_
      exact en_i hx hb hr hlocks hL rfl (Nat.zero_le _) (Nat.zero_le _) dX9_fails_28 (⟨hT, hF, Or.inr ⟨rfl, c4866⟩⟩)
    · have c4868 : ¬ 0 = 0 := fun h9 => c4868 ((nI_eq (a := 0) (b := 0) (by omega) (by omega)).mpr h9)
      omega
  · refine lv_aload_n hx hb dX9_fails_4 rfl (lv_at hl 0 rfl) ?_
    obtain ⟨hb4869, e4869, hat4869, hk4869⟩ := hT.o10 hw.1
    obtain ⟨f4869_0, f4869_1, f4869_3, f4869_4, f4869_5, f4869_6, f4869_7, f4869_9, f4869_10, f4869_11, f4869_12, f4869_13, f4869_14, f4869_15, f4869_16, f4869_17, rfl, c4869_2, c4869_3, c4869_4, c4869_12, t4869_1, t4869_8, t4869_9, c4869_sd, t4869_10, t4869_11, t4869_17⟩ := hk4869
    obtain rfl : f4869_0 = nI 0 := Value.int.inj (hz0.eq hat4869 rfl (by decide) rfl)
    have hP : va_P D vwCl [(w, .inr (9, [.int (nI 0), .ref f4869_1, .int (nI ((κ w).2.2.1)), .int (nI f4869_3), .int (nI f4869_4), .int f4869_5, .int f4869_6, .int f4869_7, .ref (κ w).2.2.2, .ref f4869_9, .ref f4869_10, .ref f4869_11, .int (nI f4869_12), .int f4869_13, .int f4869_14, .int f4869_15, .int f4869_16, .ref f4869_17]))] _ := va_P.cons hat4869 va_P.nil
    refine va_get (D := D) (ci := 9) (v := .int (nI 0)) (C := RX9) (T := TX9) (N := 18) hx hb hts iX9_fails_9 hown hN.1 hP 0 rfl rfl 0 (by decide) (hts _ mX9_fails_1) (fun _ h9 => h9) rfl dX9_fails_5 ?_
    refine lv_if_ne (tgt := 16) hx hb dX9_fails_8 (by decide) (fun c4870 => ?_) (fun c4870 => ?_)
    · have c4870 : ¬ 0 = 0 := fun h9 => c4870 ((nI_eq (a := 0) (b := 0) (by omega) (by omega)).mpr h9)
      omega
    · have c4870 : 0 = 0 := (nI_eq (a := 0) (b := 0) (by omega) (by omega)).mp c4870
      refine lv_aload_n hx hb dX9_fails_11 rfl (lv_at hl 0 rfl) ?_
      refine lv_iload_n hx hb dX9_fails_12 rfl (lv_at hl 2 rfl) ?_
      have hB : Bx B0 D _ [(w, .inr (9, [.int (nI 0), .ref f4869_1, .int (nI ((κ w).2.2.1)), .int (nI f4869_3), .int (nI f4869_4), .int f4869_5, .int f4869_6, .int f4869_7, .ref (κ w).2.2.2, .ref f4869_9, .ref f4869_10, .ref f4869_11, .int (nI f4869_12), .int f4869_13, .int f4869_14, .int f4869_15, .int f4869_16, .ref f4869_17]))] [] _ _ := Bx.of (fun a => (κ a).1) hL hP (fa_c hb4869 fa_n) (by simp only [List.map_cons, List.map_nil, hw.1]; decide)
      refine b_put (D := D) (ci := 9) (v := .int z) (ty := .int) (C := RX9) (T := TX9) (N := 18) hx hb hts iX9_fails_9 tyX9 tyX9_ok nmX9 hown hN hB 0 rfl rfl 0 (by decide) (hts _ mX9_fails_1) (fun _ h9 => h9) rfl (by decide +kernel) rfl rfl (Nat.le_of_ble_eq_true rfl) (.inl rfl) dX9_fails_13 (fun H locs hB => ?_)
      have hB : Bx B0 D _ [(w, .inr (9, [.int z, .ref f4869_1, .int (nI ((κ w).2.2.1)), .int (nI f4869_3), .int (nI f4869_4), .int f4869_5, .int f4869_6, .int f4869_7, .ref (κ w).2.2.2, .ref f4869_9, .ref f4869_10, .ref f4869_11, .int (nI f4869_12), .int f4869_13, .int f4869_14, .int f4869_15, .int f4869_16, .ref f4869_17]))] [w] _ _ := hB
      refine lv_aload_n hx hb dX9_fails_16 rfl (lv_at hl 0 rfl) ?_
      refine va_get (D := D) (ci := 9) (v := .int z) (C := RX9) (T := TX9) (N := 18) hx hb hts iX9_fails_9 hown hN.1 hB.1 0 rfl rfl 0 (by decide) (hts _ mX9_fails_1) (fun _ h9 => h9) rfl dX9_fails_17 ?_
      refine lv_if_eq (tgt := 27) hx hb dX9_fails_20 (by decide) (fun c4871 => ?_) (fun c4871 => ?_)
      · exact absurd c4871 hz
      · refine lv_iconst (v := 1) hx hb dX9_fails_23 (by decide) ?_
        refine lv_goto (tgt := 28) hx hb dX9_fails_24 (by decide) ?_
        have hT : WT B0 D cs T κ _ := hT.close hB ⟨⟨0, _, rfl, ok_10 hw.1 ⟨_, _, _, _, _, _, _, _, _, _, _, _, _, _, _, _, rfl, (by omega), (by omega), (by omega), (by omega), t4869_1, t4869_8, t4869_9, c4869_sd, t4869_10, t4869_11, t4869_17⟩⟩, trivial⟩
        have hF : Fr B0 [12] κ H0 _ := hF.close hB (fa_c (by simp [hw.2]) fa_n)
        have hL : OkL B0 _ := hB.2.2.2.2.2
        have hP : va_P D vwCl [(w, .inr (9, [.int z, .ref f4869_1, .int (nI ((κ w).2.2.1)), .int (nI f4869_3), .int (nI f4869_4), .int f4869_5, .int f4869_6, .int f4869_7, .ref (κ w).2.2.2, .ref f4869_9, .ref f4869_10, .ref f4869_11, .int (nI f4869_12), .int f4869_13, .int f4869_14, .int f4869_15, .int f4869_16, .ref f4869_17]))] _ := hB.1
        exact en_i hx hb hr hlocks hL rfl (Nat.zero_le _) (Nat.zero_le _) dX9_fails_28 (⟨hT, hF, Or.inl ⟨rfl, c4866⟩⟩)
set_option maxHeartbeats 4000000 in
set_option maxRecDepth 100000 in
theorem c_X9_remember_dd {l : Launch} {D : va_G} {cs : Nat → ClassId} {B0 T : Nat} {κ : KM} {H0 : Heap} (hT : WT B0 D cs T κ H0) {w : Nat} (hw : T2 κ w 10 12) {dr : Nat} (hfd : FI D w 9 10 (.ref dr) H0) : KC l yX9_remember wsX9_remember 1 23 0 0 D cs B0 H0 [.ref w] (Qv (fun H => WT B0 D cs T κ H ∧ Fr B0 [12, 18] κ H0 H ∧ FI D w 9 10 (.ref dr) H)) := by
  refine KC.of cX9_remember 2 none (by decide) rfl (Nat.le_of_ble_eq_true rfl) ?_
  intro p e s m below meth c ls hx hb hr hml hown hts hlocks hin hN hE hH0 hl
  have hown : s.vm.findClass RX9 = some m.cls := hown
  have hl : lv_has ls 2 [(0, .ref w)] := hl
  have hL : OkL B0 [] := OkL.nil
  have hF : Fr B0 [12, 18] κ H0 H0 := Fr.rf
  refine lv_aload_n hx hb dX9_remember_0 rfl (lv_at hl 0 rfl) ?_
  obtain ⟨hb4872, e4872, hat4872, hk4872⟩ := hT.o10 hw.1
  obtain ⟨f4872_0, f4872_1, f4872_3, f4872_4, f4872_5, f4872_6, f4872_7, f4872_9, f4872_10, f4872_11, f4872_12, f4872_13, f4872_14, f4872_15, f4872_16, f4872_17, rfl, c4872_2, c4872_3, c4872_4, c4872_12, t4872_1, t4872_8, t4872_9, c4872_sd, t4872_10, t4872_11, t4872_17⟩ := hk4872
  have efi4872 : dr = f4872_10 := (Value.ref.inj (hfd.eq hat4872 rfl (by decide) rfl)).symm
  subst efi4872
  have hP : va_P D vwCl [(w, .inr (9, [.int f4872_0, .ref f4872_1, .int (nI ((κ w).2.2.1)), .int (nI f4872_3), .int (nI f4872_4), .int f4872_5, .int f4872_6, .int f4872_7, .ref (κ w).2.2.2, .ref f4872_9, .ref dr, .ref f4872_11, .int (nI f4872_12), .int f4872_13, .int f4872_14, .int f4872_15, .int f4872_16, .ref f4872_17]))] _ := va_P.cons hat4872 va_P.nil
  refine va_get (D := D) (ci := 9) (v := .int (nI f4872_12)) (C := RX9) (T := TX9) (N := 18) hx hb hts iX9_remember_9 hown hN.1 hP 0 rfl rfl 12 (by decide) (hts _ mX9_remember_1) (fun _ h9 => h9) rfl dX9_remember_1 ?_
  refine lv_bipush (v := 8) hx hb dX9_remember_4 (by decide) ?_
  refine lv_icmp_ne (tgt := 50) hx hb dX9_remember_6 (by decide) (fun c4873 => ?_) (fun c4873 => ?_)
  · have c4873 : ¬ f4872_12 = 8 := fun h9 => c4873 ((nI_eq (a := f4872_12) (b := 8) (by omega) (by omega)).mpr h9)
    refine lv_aload_n hx hb dX9_remember_50 rfl (lv_at hl 0 rfl) ?_
    refine va_get (D := D) (ci := 9) (v := .ref (κ w).2.2.2) (C := RX9) (T := TX9) (N := 18) hx hb hts iX9_remember_9 hown hN.1 hP 0 rfl rfl 8 (by decide) (hts _ mX9_remember_3) (fun _ h9 => h9) rfl dX9_remember_51 ?_
    refine lv_aload_n hx hb dX9_remember_54 rfl (lv_at hl 0 rfl) ?_
    refine va_get (D := D) (ci := 9) (v := .ref f4872_11) (C := RX9) (T := TX9) (N := 18) hx hb hts iX9_remember_9 hown hN.1 hP 0 rfl rfl 11 (by decide) (hts _ mX9_remember_2) (fun _ h9 => h9) rfl dX9_remember_55 ?_
    refine lv_aload_n hx hb dX9_remember_58 rfl (lv_at hl 0 rfl) ?_
    refine va_get (D := D) (ci := 9) (v := .int (nI f4872_12)) (C := RX9) (T := TX9) (N := 18) hx hb hts iX9_remember_9 hown hN.1 hP 0 rfl rfl 12 (by decide) (hts _ mX9_remember_1) (fun _ h9 => h9) rfl dX9_remember_59 ?_
    obtain ⟨hb4874, e4874, hat4874, hk4874⟩ := hT.o27 t4872_11.1
    obtain ⟨g4874, rfl, q4874⟩ := hk4874
    have hP : va_P D vwCl [(f4872_11, .inl (cs 6, 8, .inr (.inr (.inr (.inr g4874))))), (w, .inr (9, [.int f4872_0, .ref f4872_1, .int (nI ((κ w).2.2.1)), .int (nI f4872_3), .int (nI f4872_4), .int f4872_5, .int f4872_6, .int f4872_7, .ref (κ w).2.2.2, .ref f4872_9, .ref dr, .ref f4872_11, .int (nI f4872_12), .int f4872_13, .int f4872_14, .int f4872_15, .int f4872_16, .ref f4872_17]))] _ := va_P.cons hat4874 hP
    obtain ⟨a4875, ea4875, ta4875, ua4875⟩ := q4874 (f4872_12) (by omega)
    refine ld_a (v := .ref a4875) hx hb hN hP 0 rfl (vp_in_nI (n := f4872_12) (N := 8) (by omega) (by omega)) (by rw [(show ((nI f4872_12) : Int32).toNatClampNeg = f4872_12 from nI_clamp (n := f4872_12) (by omega)), ea4875]; rfl) dX9_remember_62 ?_
    refine cs_v (As := [.ref (κ w).2.2.2, .ref a4875]) (rest := []) ⟨hx, hb, hml, hown, hts⟩ (c_X9_copyD hT (a := (κ w).2.2.2) t4872_8 (b := a4875) ta4875 (ne_c t4872_8.1 ta4875.1 (by decide)) (by first | omega | decide | assumption) (by first | omega | decide | assumption)) (va_cwS 2 hts gX9_remember_X9_copy rfl rfl rfl hdX9_copy_o ⟨Nat.le_of_ble_eq_true rfl, Nat.le_of_ble_eq_true rfl⟩) hN hE hL rfl rfl hl.1 (Nat.le_of_ble_eq_true rfl) dX9_remember_63 (Nat.zero_le _) (Nat.zero_le _) (fun H1 locs hL hqr4876 => ?_)
    obtain ⟨hT1, hF1⟩ := hqr4876
    have hP : va_P D vwCl [(f4872_11, .inl (cs 6, 8, .inr (.inr (.inr (.inr g4874))))), (w, .inr (9, [.int f4872_0, .ref f4872_1, .int (nI ((κ w).2.2.1)), .int (nI f4872_3), .int (nI f4872_4), .int f4872_5, .int f4872_6, .int f4872_7, .ref (κ w).2.2.2, .ref f4872_9, .ref dr, .ref f4872_11, .int (nI f4872_12), .int f4872_13, .int f4872_14, .int f4872_15, .int f4872_16, .ref f4872_17]))] _ := hF1.hP (hP.sub [0, 1] rfl) (fa_c ⟨by rw [t4872_11.1]; decide, by rw [t4872_11.2]; first | decide | (simp; done) | (simp [h15a, h15b, h15c]; done) | (simp; omega)⟩ (fa_c ⟨by rw [hw.1]; decide, by rw [hw.2]; first | decide | (simp; done) | (simp [h15a, h15b, h15c]; done) | (simp; omega)⟩ fa_n))
    have hF := hF.tr (hF1.mono (by simp))
    have hT := hT1
    refine lv_aload_n hx hb dX9_remember_66 rfl (lv_at hl 0 rfl) ?_
    refine lv_dup hx hb dX9_remember_67 rfl ?_
    refine va_get (D := D) (ci := 9) (v := .int (nI f4872_12)) (C := RX9) (T := TX9) (N := 18) hx hb hts iX9_remember_9 hown hN.1 hP 1 rfl rfl 12 (by decide) (hts _ mX9_remember_1) (fun _ h9 => h9) rfl dX9_remember_68 ?_
    refine lv_iconst (v := 1) hx hb dX9_remember_71 (by decide) ?_
    refine lv_iadd hx hb dX9_remember_72 ?_
    refine tp_i (nI (f4872_12 + 1)) (nI_add f4872_12 1) ?_
    have hB : Bx B0 D _ [(f4872_11, .inl (cs 6, 8, .inr (.inr (.inr (.inr g4874))))), (w, .inr (9, [.int f4872_0, .ref f4872_1, .int (nI ((κ w).2.2.1)), .int (nI f4872_3), .int (nI f4872_4), .int f4872_5, .int f4872_6, .int f4872_7, .ref (κ w).2.2.2, .ref f4872_9, .ref dr, .ref f4872_11, .int (nI f4872_12), .int f4872_13, .int f4872_14, .int f4872_15, .int f4872_16, .ref f4872_17]))] [] _ _ := Bx.of (fun a => (κ a).1) hL hP (fa_c hb4874 (fa_c hb4872 fa_n)) (by simp only [List.map_cons, List.map_nil, t4872_11.1, hw.1]; decide)
    refine b_put (D := D) (ci := 9) (v := .int (nI (f4872_12 + 1))) (ty := .int) (C := RX9) (T := TX9) (N := 18) hx hb hts iX9_remember_9 tyX9 tyX9_ok nmX9 hown hN hB 1 rfl rfl 12 (by decide) (hts _ mX9_remember_1) (fun _ h9 => h9) rfl (by decide +kernel) rfl rfl (Nat.le_of_ble_eq_true rfl) (.inl rfl) dX9_remember_73 (fun H locs hB => ?_)
    have hB : Bx B0 D _ [(f4872_11, .inl (cs 6, 8, .inr (.inr (.inr (.inr g4874))))), (w, .inr (9, [.int f4872_0, .ref f4872_1, .int (nI ((κ w).2.2.1)), .int (nI f4872_3), .int (nI f4872_4), .int f4872_5, .int f4872_6, .int f4872_7, .ref (κ w).2.2.2, .ref f4872_9, .ref dr, .ref f4872_11, .int (nI (f4872_12 + 1)), .int f4872_13, .int f4872_14, .int f4872_15, .int f4872_16, .ref f4872_17]))] [w] _ _ := hB
    have hT : WT B0 D cs T κ _ := hT.close hB ⟨⟨1, _, rfl, ok_10 hw.1 ⟨_, _, _, _, _, _, _, _, _, _, _, _, _, _, _, _, rfl, (by omega), (by omega), (by omega), (by omega), t4872_1, t4872_8, t4872_9, c4872_sd, t4872_10, t4872_11, t4872_17⟩⟩, trivial⟩
    have hF : Fr B0 [12, 18] κ H0 _ := hF.close hB (fa_c (by simp [hw.2]) fa_n)
    have hL : OkL B0 _ := hB.2.2.2.2.2
    have hP : va_P D vwCl [(f4872_11, .inl (cs 6, 8, .inr (.inr (.inr (.inr g4874))))), (w, .inr (9, [.int f4872_0, .ref f4872_1, .int (nI ((κ w).2.2.1)), .int (nI f4872_3), .int (nI f4872_4), .int f4872_5, .int f4872_6, .int f4872_7, .ref (κ w).2.2.2, .ref f4872_9, .ref dr, .ref f4872_11, .int (nI (f4872_12 + 1)), .int f4872_13, .int f4872_14, .int f4872_15, .int f4872_16, .ref f4872_17]))] _ := hB.1
    exact en_v hx hb hr hlocks hL (Nat.zero_le _) (Nat.zero_le _) dX9_remember_76 (⟨hT, hF, ⟨_, hP 1 _ rfl, rfl⟩⟩)
  · have c4873 : f4872_12 = 8 := (nI_eq (a := f4872_12) (b := 8) (by omega) (by omega)).mp c4873
    refine lv_iconst (v := 1) hx hb dX9_remember_9 (by decide) ?_
    refine lv_istore_n (lv' := [(1, .int 1), (0, .ref w)]) hx hb dX9_remember_10 rfl hl (by decide) rfl (fun ls hl => ?_)
    refine lp_m (α := Nat) (nL := 2) (fun a9 => 8 - a9) (fun a9 H9 l9 => (1 ≤ a9 ∧ a9 ≤ 8) ∧ (WT B0 D cs T κ H9) ∧ (Fr B0 [12, 18] κ H0 H9) ∧ (OkL B0 l9) ∧ (va_P D vwCl [(w, .inr (9, [.int f4872_0, .ref f4872_1, .int (nI ((κ w).2.2.1)), .int (nI f4872_3), .int (nI f4872_4), .int f4872_5, .int f4872_6, .int f4872_7, .ref (κ w).2.2.2, .ref f4872_9, .ref dr, .ref f4872_11, .int (nI f4872_12), .int f4872_13, .int f4872_14, .int f4872_15, .int f4872_16, .ref f4872_17]))] H9)) (fun a9 => [(1, .int (nI a9)), (0, .ref w)]) ?_ 1 _ _ _ ⟨(by show 1 ≤ (1) ∧ (1) ≤ 8; omega), hT, hF, hL, (hP.sub [0] rfl)⟩ (lv_sub hl [0, 1] rfl)
    rintro k H locs ls ih4877 ⟨hk, hT, hF, hL, hP⟩ hl
    have hl : lv_has ls 2 [(1, .int (nI k)), (0, .ref w)] := hl
    have hk : 1 ≤ k ∧ k ≤ 8 := hk
    refine lv_iload_n hx hb dX9_remember_11 rfl (lv_at hl 0 rfl) ?_
    refine lv_bipush (v := 8) hx hb dX9_remember_12 (by decide) ?_
    refine lv_icmp_ge (tgt := 40) hx hb dX9_remember_14 (by decide) (fun c4878 => ?_) (fun c4878 => ?_)
    · have c4878 : 8 ≤ k := (nI_leI (a := 8) (b := k) (by omega) (by omega)).mp c4878
      refine lv_aload_n hx hb dX9_remember_40 rfl (lv_at hl 1 rfl) ?_
      refine lv_dup hx hb dX9_remember_41 rfl ?_
      refine va_get (D := D) (ci := 9) (v := .int (nI f4872_12)) (C := RX9) (T := TX9) (N := 18) hx hb hts iX9_remember_9 hown hN.1 hP 0 rfl rfl 12 (by decide) (hts _ mX9_remember_1) (fun _ h9 => h9) rfl dX9_remember_42 ?_
      refine lv_iconst (v := 1) hx hb dX9_remember_45 (by decide) ?_
      refine lv_isub hx hb dX9_remember_46 ?_
      refine tp_i (nI (f4872_12 - 1)) (nI_subN (a := f4872_12) (b := 1) (by omega)) ?_
      have hB : Bx B0 D _ [(w, .inr (9, [.int f4872_0, .ref f4872_1, .int (nI ((κ w).2.2.1)), .int (nI f4872_3), .int (nI f4872_4), .int f4872_5, .int f4872_6, .int f4872_7, .ref (κ w).2.2.2, .ref f4872_9, .ref dr, .ref f4872_11, .int (nI f4872_12), .int f4872_13, .int f4872_14, .int f4872_15, .int f4872_16, .ref f4872_17]))] [] _ _ := Bx.of (fun a => (κ a).1) hL hP (fa_c hb4872 fa_n) (by simp only [List.map_cons, List.map_nil, hw.1]; decide)
      refine b_put (D := D) (ci := 9) (v := .int (nI (f4872_12 - 1))) (ty := .int) (C := RX9) (T := TX9) (N := 18) hx hb hts iX9_remember_9 tyX9 tyX9_ok nmX9 hown hN hB 0 rfl rfl 12 (by decide) (hts _ mX9_remember_1) (fun _ h9 => h9) rfl (by decide +kernel) rfl rfl (Nat.le_of_ble_eq_true rfl) (.inl rfl) dX9_remember_47 (fun H locs hB => ?_)
      have hB : Bx B0 D _ [(w, .inr (9, [.int f4872_0, .ref f4872_1, .int (nI ((κ w).2.2.1)), .int (nI f4872_3), .int (nI f4872_4), .int f4872_5, .int f4872_6, .int f4872_7, .ref (κ w).2.2.2, .ref f4872_9, .ref dr, .ref f4872_11, .int (nI (f4872_12 - 1)), .int f4872_13, .int f4872_14, .int f4872_15, .int f4872_16, .ref f4872_17]))] [w] _ _ := hB
      refine lv_aload_n hx hb dX9_remember_50 rfl (lv_at hl 1 rfl) ?_
      refine va_get (D := D) (ci := 9) (v := .ref (κ w).2.2.2) (C := RX9) (T := TX9) (N := 18) hx hb hts iX9_remember_9 hown hN.1 hB.1 0 rfl rfl 8 (by decide) (hts _ mX9_remember_3) (fun _ h9 => h9) rfl dX9_remember_51 ?_
      refine lv_aload_n hx hb dX9_remember_54 rfl (lv_at hl 1 rfl) ?_
      refine va_get (D := D) (ci := 9) (v := .ref f4872_11) (C := RX9) (T := TX9) (N := 18) hx hb hts iX9_remember_9 hown hN.1 hB.1 0 rfl rfl 11 (by decide) (hts _ mX9_remember_2) (fun _ h9 => h9) rfl dX9_remember_55 ?_
      refine lv_aload_n hx hb dX9_remember_58 rfl (lv_at hl 1 rfl) ?_
      refine va_get (D := D) (ci := 9) (v := .int (nI (f4872_12 - 1))) (C := RX9) (T := TX9) (N := 18) hx hb hts iX9_remember_9 hown hN.1 hB.1 0 rfl rfl 12 (by decide) (hts _ mX9_remember_1) (fun _ h9 => h9) rfl dX9_remember_59 ?_
      obtain ⟨hb4879, e4879, hat4879, hk4879⟩ := hT.o27 t4872_11.1
      obtain ⟨g4879, rfl, q4879⟩ := hk4879
      have hB : Bx B0 D _ [(w, .inr (9, [.int f4872_0, .ref f4872_1, .int (nI ((κ w).2.2.1)), .int (nI f4872_3), .int (nI f4872_4), .int f4872_5, .int f4872_6, .int f4872_7, .ref (κ w).2.2.2, .ref f4872_9, .ref dr, .ref f4872_11, .int (nI (f4872_12 - 1)), .int f4872_13, .int f4872_14, .int f4872_15, .int f4872_16, .ref f4872_17])), (f4872_11, .inl (cs 6, 8, .inr (.inr (.inr (.inr g4879)))))] [w] _ _ := hB.more hat4879 hb4879 (fa_c (ne_c hw.1 t4872_11.1 (by decide)) fa_n) (fa_c (ne_c hw.1 t4872_11.1 (by decide)) fa_n)
      obtain ⟨a4880, ea4880, ta4880, ua4880⟩ := q4879 ((f4872_12 - 1)) (by omega)
      refine ld_a (v := .ref a4880) hx hb hN hB.1 1 rfl (vp_in_nI (n := (f4872_12 - 1)) (N := 8) (by omega) (by omega)) (by rw [(show ((nI (f4872_12 - 1)) : Int32).toNatClampNeg = (f4872_12 - 1) from nI_clamp (n := (f4872_12 - 1)) (by omega)), ea4880]; rfl) dX9_remember_62 ?_
      have hT : WT B0 D cs T κ _ := hT.close hB ⟨⟨0, _, rfl, ok_10 hw.1 ⟨_, _, _, _, _, _, _, _, _, _, _, _, _, _, _, _, rfl, (by omega), (by omega), (by omega), (by omega), t4872_1, t4872_8, t4872_9, c4872_sd, t4872_10, t4872_11, t4872_17⟩⟩, trivial⟩
      have hF : Fr B0 [12, 18] κ H0 _ := hF.close hB (fa_c (by simp [hw.2]) fa_n)
      have hL : OkL B0 _ := hB.2.2.2.2.2
      have hP : va_P D vwCl [(w, .inr (9, [.int f4872_0, .ref f4872_1, .int (nI ((κ w).2.2.1)), .int (nI f4872_3), .int (nI f4872_4), .int f4872_5, .int f4872_6, .int f4872_7, .ref (κ w).2.2.2, .ref f4872_9, .ref dr, .ref f4872_11, .int (nI (f4872_12 - 1)), .int f4872_13, .int f4872_14, .int f4872_15, .int f4872_16, .ref f4872_17])), (f4872_11, .inl (cs 6, 8, .inr (.inr (.inr (.inr g4879)))))] _ := hB.1
      refine cs_v (As := [.ref (κ w).2.2.2, .ref a4880]) (rest := []) ⟨hx, hb, hml, hown, hts⟩ (c_X9_copyD hT (a := (κ w).2.2.2) t4872_8 (b := a4880) ta4880 (ne_c t4872_8.1 ta4880.1 (by decide)) (by first | omega | decide | assumption) (by first | omega | decide | assumption)) (va_cwS 2 hts gX9_remember_X9_copy rfl rfl rfl hdX9_copy_o ⟨Nat.le_of_ble_eq_true rfl, Nat.le_of_ble_eq_true rfl⟩) hN hE hL rfl rfl hl.1 (Nat.le_of_ble_eq_true rfl) dX9_remember_63 (Nat.zero_le _) (Nat.zero_le _) (fun H1 locs hL hqr4881 => ?_)
      obtain ⟨hT1, hF1⟩ := hqr4881
      have hP : va_P D vwCl [(w, .inr (9, [.int f4872_0, .ref f4872_1, .int (nI ((κ w).2.2.1)), .int (nI f4872_3), .int (nI f4872_4), .int f4872_5, .int f4872_6, .int f4872_7, .ref (κ w).2.2.2, .ref f4872_9, .ref dr, .ref f4872_11, .int (nI (f4872_12 - 1)), .int f4872_13, .int f4872_14, .int f4872_15, .int f4872_16, .ref f4872_17])), (f4872_11, .inl (cs 6, 8, .inr (.inr (.inr (.inr g4879)))))] _ := hF1.hP (hP.sub [0, 1] rfl) (fa_c ⟨by rw [hw.1]; decide, by rw [hw.2]; first | decide | (simp; done) | (simp [h15a, h15b, h15c]; done) | (simp; omega)⟩ (fa_c ⟨by rw [t4872_11.1]; decide, by rw [t4872_11.2]; first | decide | (simp; done) | (simp [h15a, h15b, h15c]; done) | (simp; omega)⟩ fa_n))
      have hF := hF.tr (hF1.mono (by simp))
      have hT := hT1
      refine lv_aload_n hx hb dX9_remember_66 rfl (lv_at hl 1 rfl) ?_
      refine lv_dup hx hb dX9_remember_67 rfl ?_
      refine va_get (D := D) (ci := 9) (v := .int (nI (f4872_12 - 1))) (C := RX9) (T := TX9) (N := 18) hx hb hts iX9_remember_9 hown hN.1 hP 0 rfl rfl 12 (by decide) (hts _ mX9_remember_1) (fun _ h9 => h9) rfl dX9_remember_68 ?_
      refine lv_iconst (v := 1) hx hb dX9_remember_71 (by decide) ?_
      refine lv_iadd hx hb dX9_remember_72 ?_
      refine tp_i (nI ((f4872_12 - 1) + 1)) (nI_add (f4872_12 - 1) 1) ?_
      have hB : Bx B0 D _ [(w, .inr (9, [.int f4872_0, .ref f4872_1, .int (nI ((κ w).2.2.1)), .int (nI f4872_3), .int (nI f4872_4), .int f4872_5, .int f4872_6, .int f4872_7, .ref (κ w).2.2.2, .ref f4872_9, .ref dr, .ref f4872_11, .int (nI (f4872_12 - 1)), .int f4872_13, .int f4872_14, .int f4872_15, .int f4872_16, .ref f4872_17])), (f4872_11, .inl (cs 6, 8, .inr (.inr (.inr (.inr g4879)))))] [] _ _ := Bx.of (fun a => (κ a).1) hL hP (fa_c hb4872 (fa_c hb4879 fa_n)) (by simp only [List.map_cons, List.map_nil, hw.1, t4872_11.1]; decide)
      refine b_put (D := D) (ci := 9) (v := .int (nI ((f4872_12 - 1) + 1))) (ty := .int) (C := RX9) (T := TX9) (N := 18) hx hb hts iX9_remember_9 tyX9 tyX9_ok nmX9 hown hN hB 0 rfl rfl 12 (by decide) (hts _ mX9_remember_1) (fun _ h9 => h9) rfl (by decide +kernel) rfl rfl (Nat.le_of_ble_eq_true rfl) (.inl rfl) dX9_remember_73 (fun H locs hB => ?_)
      have hB : Bx B0 D _ [(w, .inr (9, [.int f4872_0, .ref f4872_1, .int (nI ((κ w).2.2.1)), .int (nI f4872_3), .int (nI f4872_4), .int f4872_5, .int f4872_6, .int f4872_7, .ref (κ w).2.2.2, .ref f4872_9, .ref dr, .ref f4872_11, .int (nI ((f4872_12 - 1) + 1)), .int f4872_13, .int f4872_14, .int f4872_15, .int f4872_16, .ref f4872_17])), (f4872_11, .inl (cs 6, 8, .inr (.inr (.inr (.inr g4879)))))] [w] _ _ := hB
      have hT : WT B0 D cs T κ _ := hT.close hB ⟨⟨0, _, rfl, ok_10 hw.1 ⟨_, _, _, _, _, _, _, _, _, _, _, _, _, _, _, _, rfl, (by omega), (by omega), (by omega), (by omega), t4872_1, t4872_8, t4872_9, c4872_sd, t4872_10, t4872_11, t4872_17⟩⟩, trivial⟩
      have hF : Fr B0 [12, 18] κ H0 _ := hF.close hB (fa_c (by simp [hw.2]) fa_n)
      have hL : OkL B0 _ := hB.2.2.2.2.2
      have hP : va_P D vwCl [(w, .inr (9, [.int f4872_0, .ref f4872_1, .int (nI ((κ w).2.2.1)), .int (nI f4872_3), .int (nI f4872_4), .int f4872_5, .int f4872_6, .int f4872_7, .ref (κ w).2.2.2, .ref f4872_9, .ref dr, .ref f4872_11, .int (nI ((f4872_12 - 1) + 1)), .int f4872_13, .int f4872_14, .int f4872_15, .int f4872_16, .ref f4872_17])), (f4872_11, .inl (cs 6, 8, .inr (.inr (.inr (.inr g4879)))))] _ := hB.1
      exact en_v hx hb hr hlocks hL (Nat.zero_le _) (Nat.zero_le _) dX9_remember_76 (⟨hT, hF, ⟨_, hP 0 _ rfl, rfl⟩⟩)
    · have c4878 : ¬ 8 ≤ k := fun h9 => c4878 ((nI_leI (a := 8) (b := k) (by omega) (by omega)).mpr h9)
      refine lv_aload_n hx hb dX9_remember_17 rfl (lv_at hl 1 rfl) ?_
      refine va_get (D := D) (ci := 9) (v := .ref f4872_11) (C := RX9) (T := TX9) (N := 18) hx hb hts iX9_remember_9 hown hN.1 hP 0 rfl rfl 11 (by decide) (hts _ mX9_remember_2) (fun _ h9 => h9) rfl dX9_remember_18 ?_
      refine lv_iload_n hx hb dX9_remember_21 rfl (lv_at hl 0 rfl) ?_
      obtain ⟨hb4882, e4882, hat4882, hk4882⟩ := hT.o27 t4872_11.1
      obtain ⟨g4882, rfl, q4882⟩ := hk4882
      have hP : va_P D vwCl [(f4872_11, .inl (cs 6, 8, .inr (.inr (.inr (.inr g4882))))), (w, .inr (9, [.int f4872_0, .ref f4872_1, .int (nI ((κ w).2.2.1)), .int (nI f4872_3), .int (nI f4872_4), .int f4872_5, .int f4872_6, .int f4872_7, .ref (κ w).2.2.2, .ref f4872_9, .ref dr, .ref f4872_11, .int (nI f4872_12), .int f4872_13, .int f4872_14, .int f4872_15, .int f4872_16, .ref f4872_17]))] _ := va_P.cons hat4882 hP
      obtain ⟨a4883, ea4883, ta4883, ua4883⟩ := q4882 (k) (by omega)
      refine ld_a (v := .ref a4883) hx hb hN hP 0 rfl (vp_in_nI (n := k) (N := 8) (by omega) (by omega)) (by rw [(show ((nI k) : Int32).toNatClampNeg = k from nI_clamp (n := k) (by omega)), ea4883]; rfl) dX9_remember_22 ?_
      refine lv_aload_n hx hb dX9_remember_23 rfl (lv_at hl 1 rfl) ?_
      refine va_get (D := D) (ci := 9) (v := .ref f4872_11) (C := RX9) (T := TX9) (N := 18) hx hb hts iX9_remember_9 hown hN.1 hP 1 rfl rfl 11 (by decide) (hts _ mX9_remember_2) (fun _ h9 => h9) rfl dX9_remember_24 ?_
      refine lv_iload_n hx hb dX9_remember_27 rfl (lv_at hl 0 rfl) ?_
      refine lv_iconst (v := 1) hx hb dX9_remember_28 (by decide) ?_
      refine lv_isub hx hb dX9_remember_29 ?_
      refine tp_i (nI (k - 1)) (nI_subN (a := k) (b := 1) (by omega)) ?_
      obtain ⟨a4884, ea4884, ta4884, ua4884⟩ := q4882 ((k - 1)) (by omega)
      refine ld_a (v := .ref a4884) hx hb hN hP 0 rfl (vp_in_nI (n := (k - 1)) (N := 8) (by omega) (by omega)) (by rw [(show ((nI (k - 1)) : Int32).toNatClampNeg = (k - 1) from nI_clamp (n := (k - 1)) (by omega)), ea4884]; rfl) dX9_remember_30 ?_
      refine cs_v (As := [.ref a4883, .ref a4884]) (rest := []) ⟨hx, hb, hml, hown, hts⟩ (c_X9_copyD hT (a := a4883) ta4883 (b := a4884) ta4884 (ne_p ua4883 ua4884 (by omega)) (by first | omega | decide | assumption) (by first | omega | decide | assumption)) (va_cwS 2 hts gX9_remember_X9_copy rfl rfl rfl hdX9_copy_o ⟨Nat.le_of_ble_eq_true rfl, Nat.le_of_ble_eq_true rfl⟩) hN hE hL rfl rfl hl.1 (Nat.le_of_ble_eq_true rfl) dX9_remember_31 (Nat.zero_le _) (Nat.zero_le _) (fun H1 locs hL hqr4885 => ?_)
      obtain ⟨hT1, hF1⟩ := hqr4885
      have hP : va_P D vwCl [(f4872_11, .inl (cs 6, 8, .inr (.inr (.inr (.inr g4882))))), (w, .inr (9, [.int f4872_0, .ref f4872_1, .int (nI ((κ w).2.2.1)), .int (nI f4872_3), .int (nI f4872_4), .int f4872_5, .int f4872_6, .int f4872_7, .ref (κ w).2.2.2, .ref f4872_9, .ref dr, .ref f4872_11, .int (nI f4872_12), .int f4872_13, .int f4872_14, .int f4872_15, .int f4872_16, .ref f4872_17]))] _ := hF1.hP (hP.sub [0, 1] rfl) (fa_c ⟨by rw [t4872_11.1]; decide, by rw [t4872_11.2]; first | decide | (simp; done) | (simp [h15a, h15b, h15c]; done) | (simp; omega)⟩ (fa_c ⟨by rw [hw.1]; decide, by rw [hw.2]; first | decide | (simp; done) | (simp [h15a, h15b, h15c]; done) | (simp; omega)⟩ fa_n))
      have hF := hF.tr (hF1.mono (by simp))
      have hT := hT1
      refine lv_iinc (v := (nI (k + 1))) (lv' := [(1, .int (nI (k + 1))), (0, .ref w)]) hx hb dX9_remember_34 hl (k := 0) rfl (nI_add _ 1) (by decide) rfl (fun ls hl => ?_)
      refine lv_goto (tgt := 11) hx hb dX9_remember_37 (by decide) ?_
      exact ih4877 (k + 1) _ _ _ (by show 8 - ((k + 1)) < 8 - k; omega) ⟨(by show 1 ≤ ((k + 1)) ∧ ((k + 1)) ≤ 8; omega), hT, hF, hL, (hP.sub [1] rfl)⟩ (lv_sub hl [0, 1] rfl)
theorem mX9_load_1 : (.fieldLink RX9 40 "OneBeatModel" "thrown" "I" : Cond) ∈ wsX9_load := List.mem_of_getElem? (i := 1) (by decide +kernel)
theorem iX9_load_9 : ∀ w ∈ wsX90, w ∈ wsX9_load := fun w h => List.mem_of_mem_drop (List.mem_of_mem_take ((show wsX90 = (wsX9_load.drop 161).take 18 by decide +kernel) ▸ h))
theorem mX9_load_2 : (.fieldLink RX9 47 "OneBeatModel" "bufferLength" "I" : Cond) ∈ wsX9_load := List.mem_of_getElem? (i := 2) (by decide +kernel)
theorem mX9_load_3 : (.fieldLink RX9 50 "OneBeatModel" "textLength" "I" : Cond) ∈ wsX9_load := List.mem_of_getElem? (i := 3) (by decide +kernel)
theorem mX9_load_4 : (.fieldLink RX9 53 "OneBeatModel" "position" "I" : Cond) ∈ wsX9_load := List.mem_of_getElem? (i := 4) (by decide +kernel)
theorem mX9_load_5 : (.fieldLink RX9 59 "OneBeatModel" "error" "I" : Cond) ∈ wsX9_load := List.mem_of_getElem? (i := 5) (by decide +kernel)
theorem mX9_load_6 : (.fieldLink RX9 62 "OneBeatModel" "errorAt" "I" : Cond) ∈ wsX9_load := List.mem_of_getElem? (i := 6) (by decide +kernel)
theorem mX9_load_7 : (.fieldLink RX9 102 "OneBeatModel" "nesting" "I" : Cond) ∈ wsX9_load := List.mem_of_getElem? (i := 7) (by decide +kernel)
theorem mX9_load_8 : (.fieldLink RX9 136 "OneBeatModel" "seen" "I" : Cond) ∈ wsX9_load := List.mem_of_getElem? (i := 8) (by decide +kernel)
theorem mX9_load_9 : (.fieldLink RX9 139 "OneBeatModel" "toldClocks" "I" : Cond) ∈ wsX9_load := List.mem_of_getElem? (i := 9) (by decide +kernel)
theorem mX9_load_10 : (.fieldLink RX9 24 "OneBeatModel" "draft" "[I" : Cond) ∈ wsX9_load := List.mem_of_getElem? (i := 10) (by decide +kernel)
theorem hdX9_layPlayers_o : yX9_layPlayers.cls ≠ "java/lang/invoke/MethodHandle" ∧ yX9_layPlayers.cls ≠ "java/lang/invoke/VarHandle" ∧ (parseMethodDescriptor yX9_layPlayers.desc).map (fun d => d.parameters.length) = some 2 := by decide +kernel
theorem mX9_load_11 : (.fieldLink RX9 13 "OneBeatModel" "errorOffset" "I" : Cond) ∈ wsX9_load := List.mem_of_getElem? (i := 11) (by decide +kernel)
theorem mX9_load_12 : (.fieldLink RX9 18 "OneBeatModel" "data" "[I" : Cond) ∈ wsX9_load := List.mem_of_getElem? (i := 12) (by decide +kernel)
theorem hdX9_statement_v : yX9_statement.cls = RX9 ∧ yX9_statement.cls ≠ "java/lang/invoke/MethodHandle" ∧ yX9_statement.cls ≠ "java/lang/invoke/VarHandle" ∧ (parseMethodDescriptor yX9_statement.desc).map (fun d => d.parameters.length) = some 0 := by decide +kernel
set_option maxHeartbeats 4000000 in
set_option maxRecDepth 100000 in
theorem c_X9_load {l : Launch} {D : va_G} {cs : Nat → ClassId} {B0 T : Nat} {κ : KM} {H0 : Heap} (hT : WT B0 D cs T κ H0) {w : Nat} (hw : T2 κ w 10 12) {x : Int32} : KC l yX9_load wsX9_load 21 453 0 0 D cs B0 H0 [.ref w, .int x] (Qi (fun _ H => Fr B0 [12, 17, 18] κ H0 H ∧ (((x < 0 ∨ nI (κ w).2.2.1 < x) ∧ WT B0 D cs T κ H) ∨ (¬ x < 0 ∧ ¬ nI (κ w).2.2.1 < x ∧ WT B0 D cs T (kp κ w 0 (κ w).2.2.2) H)))) := by
  refine KC.of cX9_load 3 (some .int) (by decide) rfl (Nat.le_of_ble_eq_true rfl) ?_
  intro p e s m below meth c ls hx hb hr hml hown hts hlocks hin hN hE hH0 hl
  have hown : s.vm.findClass RX9 = some m.cls := hown
  have hl : lv_has ls 3 [(0, .ref w), (1, .int x)] := hl
  have hL : OkL B0 [] := OkL.nil
  have hF : Fr B0 [12, 17, 18] κ H0 H0 := Fr.rf
  refine lv_aload_n hx hb dX9_load_0 rfl (lv_at hl 0 rfl) ?_
  refine lv_iconst (v := 0) hx hb dX9_load_1 (by decide) ?_
  obtain ⟨hb4886, e4886, hat4886, hk4886⟩ := hT.o10 hw.1
  obtain ⟨f4886_0, f4886_1, f4886_3, f4886_4, f4886_5, f4886_6, f4886_7, f4886_9, f4886_10, f4886_11, f4886_12, f4886_13, f4886_14, f4886_15, f4886_16, f4886_17, rfl, c4886_2, c4886_3, c4886_4, c4886_12, t4886_1, t4886_8, t4886_9, c4886_sd, t4886_10, t4886_11, t4886_17⟩ := hk4886
  have hP : va_P D vwCl [(w, .inr (9, [.int f4886_0, .ref f4886_1, .int (nI ((κ w).2.2.1)), .int (nI f4886_3), .int (nI f4886_4), .int f4886_5, .int f4886_6, .int f4886_7, .ref (κ w).2.2.2, .ref f4886_9, .ref f4886_10, .ref f4886_11, .int (nI f4886_12), .int f4886_13, .int f4886_14, .int f4886_15, .int f4886_16, .ref f4886_17]))] _ := va_P.cons hat4886 va_P.nil
  have hB : Bx B0 D _ [(w, .inr (9, [.int f4886_0, .ref f4886_1, .int (nI ((κ w).2.2.1)), .int (nI f4886_3), .int (nI f4886_4), .int f4886_5, .int f4886_6, .int f4886_7, .ref (κ w).2.2.2, .ref f4886_9, .ref f4886_10, .ref f4886_11, .int (nI f4886_12), .int f4886_13, .int f4886_14, .int f4886_15, .int f4886_16, .ref f4886_17]))] [] _ _ := Bx.of (fun a => (κ a).1) hL hP (fa_c hb4886 fa_n) (by simp only [List.map_cons, List.map_nil, hw.1]; decide)
  refine b_put (D := D) (ci := 9) (v := .int 0) (ty := .int) (C := RX9) (T := TX9) (N := 18) hx hb hts iX9_load_9 tyX9 tyX9_ok nmX9 hown hN hB 0 rfl rfl 0 (by decide) (hts _ mX9_load_1) (fun _ h9 => h9) rfl (by decide +kernel) rfl rfl (Nat.le_of_ble_eq_true rfl) (.inl rfl) dX9_load_2 (fun H locs hB => ?_)
  have hB : Bx B0 D _ [(w, .inr (9, [.int 0, .ref f4886_1, .int (nI ((κ w).2.2.1)), .int (nI f4886_3), .int (nI f4886_4), .int f4886_5, .int f4886_6, .int f4886_7, .ref (κ w).2.2.2, .ref f4886_9, .ref f4886_10, .ref f4886_11, .int (nI f4886_12), .int f4886_13, .int f4886_14, .int f4886_15, .int f4886_16, .ref f4886_17]))] [w] _ _ := hB
  refine lv_aload_n hx hb dX9_load_5 rfl (lv_at hl 0 rfl) ?_
  refine lv_iload_n hx hb dX9_load_6 rfl (lv_at hl 1 rfl) ?_
  refine lv_iconst (v := 0) hx hb dX9_load_7 (by decide) ?_
  refine lv_aload_n hx hb dX9_load_8 rfl (lv_at hl 0 rfl) ?_
  refine va_get (D := D) (ci := 9) (v := .int (nI ((κ w).2.2.1))) (C := RX9) (T := TX9) (N := 18) hx hb hts iX9_load_9 hown hN.1 hB.1 0 rfl rfl 2 (by decide) (hts _ mX9_load_2) (fun _ h9 => h9) rfl dX9_load_9 ?_
  have hT : WT B0 D cs T κ _ := hT.close hB ⟨⟨0, _, rfl, ok_10 hw.1 ⟨_, _, _, _, _, _, _, _, _, _, _, _, _, _, _, _, rfl, (by omega), (by omega), (by omega), (by omega), t4886_1, t4886_8, t4886_9, c4886_sd, t4886_10, t4886_11, t4886_17⟩⟩, trivial⟩
  have hF : Fr B0 [12, 17, 18] κ H0 _ := hF.close hB (fa_c (by simp [hw.2]) fa_n)
  have hL : OkL B0 _ := hB.2.2.2.2.2
  have hP : va_P D vwCl [(w, .inr (9, [.int 0, .ref f4886_1, .int (nI ((κ w).2.2.1)), .int (nI f4886_3), .int (nI f4886_4), .int f4886_5, .int f4886_6, .int f4886_7, .ref (κ w).2.2.2, .ref f4886_9, .ref f4886_10, .ref f4886_11, .int (nI f4886_12), .int f4886_13, .int f4886_14, .int f4886_15, .int f4886_16, .ref f4886_17]))] _ := hB.1
  refine cs_i (As := [.int x, .int 0, .int (nI ((κ w).2.2.1))]) (rest := [.ref w]) ⟨hx, hb, hml, hown, hts⟩ (c_X9_in hT (x := x) (y := 0) (z := (nI ((κ w).2.2.1)))) (va_cwS 3 hts gX9_load_X9_in rfl rfl rfl hdX9_in_o ⟨Nat.le_of_ble_eq_true rfl, Nat.le_of_ble_eq_true rfl⟩) hN hE hL rfl rfl hl.1 (Nat.le_of_ble_eq_true rfl) dX9_load_12 (Nat.zero_le _) (Nat.zero_le _) (fun r4887 H1 locs hL hqr4887 => ?_)
  obtain ⟨h9, hqr4887⟩ := hqr4887; replace h9 := h9.symm; subst h9
  rcases hqr4887 with ⟨rfl, o4888⟩ | ⟨rfl, l4889, g4890⟩
  · refine lv_if_ne (tgt := 22) hx hb dX9_load_15 (by decide) (fun c9 => absurd (by decide) c9) (fun _ => ?_)
    refine lv_iconst (v := 1) hx hb dX9_load_18 (by decide) ?_
    refine lv_goto (tgt := 23) hx hb dX9_load_19 (by decide) ?_
    refine lv_iconst (v := 1) hx hb dX9_load_23 (by decide) ?_
    refine cv_i (As := [.int 1, .int 1]) (rest := []) (b := w) ⟨hx, hb, hml, hown, hts⟩ (c_X9_fails_dz hT (w := w) hw (x := 1) (z := 1) ((by decide)) (⟨_, hP 0 _ rfl, rfl⟩)) (cwV 2 hts gX9_load_X9_fails rfl rfl rfl hdX9_fails_v ⟨Nat.le_of_ble_eq_true rfl, Nat.le_of_ble_eq_true rfl⟩) hN hE hL (rcv10 hN hT hw.1) rfl rfl hl.1 (Nat.le_of_ble_eq_true rfl) dX9_load_24 (Nat.zero_le _) (Nat.zero_le _) (fun r4891 H1 locs hL hqr4891 => ?_)
    obtain ⟨hT1, hF1, hqr4891⟩ := hqr4891
    have hF := hF.tr (hF1.mono (by simp))
    have hT := hT1
    rcases hqr4891 with ⟨rfl, e4892⟩ | ⟨rfl, e4893⟩
    · refine lv_if_eq (tgt := 32) hx hb dX9_load_27 (by decide) (fun c9 => absurd c9 (by decide)) (fun _ => ?_)
      refine lv_iconst (v := 0) hx hb dX9_load_30 (by decide) ?_
      exact en_i hx hb hr hlocks hL rfl (Nat.zero_le _) (Nat.zero_le _) dX9_load_31 (⟨hF, Or.inl ⟨o4888, hT⟩⟩)
    · exact absurd e4893 (by decide)
  · refine lv_if_ne (tgt := 22) hx hb dX9_load_15 (by decide) (fun _ => ?_) (fun c9 => absurd c9 (by decide))
    refine lv_iconst (v := 0) hx hb dX9_load_22 (by decide) ?_
    refine lv_iconst (v := 1) hx hb dX9_load_23 (by decide) ?_
    refine cv_i (As := [.int 0, .int 1]) (rest := []) (b := w) ⟨hx, hb, hml, hown, hts⟩ (c_X9_fails_dz hT (w := w) hw (x := 0) (z := 1) ((by decide)) (⟨_, hP 0 _ rfl, rfl⟩)) (cwV 2 hts gX9_load_X9_fails rfl rfl rfl hdX9_fails_v ⟨Nat.le_of_ble_eq_true rfl, Nat.le_of_ble_eq_true rfl⟩) hN hE hL (rcv10 hN hT hw.1) rfl rfl hl.1 (Nat.le_of_ble_eq_true rfl) dX9_load_24 (Nat.zero_le _) (Nat.zero_le _) (fun r4894 H1 locs hL hqr4894 => ?_)
    obtain ⟨hT1, hF1, hqr4894⟩ := hqr4894
    have hF := hF.tr (hF1.mono (by simp))
    have hT := hT1
    rcases hqr4894 with ⟨rfl, e4895⟩ | ⟨rfl, e4896⟩
    · exact absurd rfl e4895
    · refine lv_if_eq (tgt := 32) hx hb dX9_load_27 (by decide) (fun _ => ?_) (fun c9 => absurd (by decide) c9)
      obtain ⟨tl, -, htl, htl2⟩ := rng (lo := 0) (by decide) (by omega) l4889 g4890
      subst htl2
      have hl : lv_has ls 3 [(0, .ref w), (1, .int (nI tl))] := hl
      refine lv_aload_n hx hb dX9_load_32 rfl (lv_at hl 0 rfl) ?_
      refine lv_iconst (v := 0) hx hb dX9_load_33 (by decide) ?_
      obtain ⟨hb4897, e4897, hat4897, hk4897⟩ := hT.o10 hw.1
      obtain ⟨f4897_0, f4897_1, f4897_3, f4897_4, f4897_5, f4897_6, f4897_7, f4897_9, f4897_10, f4897_11, f4897_12, f4897_13, f4897_14, f4897_15, f4897_16, f4897_17, rfl, c4897_2, c4897_3, c4897_4, c4897_12, t4897_1, t4897_8, t4897_9, c4897_sd, t4897_10, t4897_11, t4897_17⟩ := hk4897
      have hP : va_P D vwCl [(w, .inr (9, [.int f4897_0, .ref f4897_1, .int (nI ((κ w).2.2.1)), .int (nI f4897_3), .int (nI f4897_4), .int f4897_5, .int f4897_6, .int f4897_7, .ref (κ w).2.2.2, .ref f4897_9, .ref f4897_10, .ref f4897_11, .int (nI f4897_12), .int f4897_13, .int f4897_14, .int f4897_15, .int f4897_16, .ref f4897_17]))] _ := va_P.cons hat4897 va_P.nil
      have hB : Bx B0 D _ [(w, .inr (9, [.int f4897_0, .ref f4897_1, .int (nI ((κ w).2.2.1)), .int (nI f4897_3), .int (nI f4897_4), .int f4897_5, .int f4897_6, .int f4897_7, .ref (κ w).2.2.2, .ref f4897_9, .ref f4897_10, .ref f4897_11, .int (nI f4897_12), .int f4897_13, .int f4897_14, .int f4897_15, .int f4897_16, .ref f4897_17]))] [] _ _ := Bx.of (fun a => (κ a).1) hL hP (fa_c hb4897 fa_n) (by simp only [List.map_cons, List.map_nil, hw.1]; decide)
      refine tp_i (nI 0) rfl ?_
      refine b_put (D := D) (ci := 9) (v := .int (nI 0)) (ty := .int) (C := RX9) (T := TX9) (N := 18) hx hb hts iX9_load_9 tyX9 tyX9_ok nmX9 hown hN hB 0 rfl rfl 2 (by decide) (hts _ mX9_load_2) (fun _ h9 => h9) rfl (by decide +kernel) rfl rfl (Nat.le_of_ble_eq_true rfl) (.inl rfl) dX9_load_34 (fun H locs hB => ?_)
      have hB : Bx B0 D _ [(w, .inr (9, [.int f4897_0, .ref f4897_1, .int (nI 0), .int (nI f4897_3), .int (nI f4897_4), .int f4897_5, .int f4897_6, .int f4897_7, .ref (κ w).2.2.2, .ref f4897_9, .ref f4897_10, .ref f4897_11, .int (nI f4897_12), .int f4897_13, .int f4897_14, .int f4897_15, .int f4897_16, .ref f4897_17]))] [w] _ _ := hB
      refine lv_aload_n hx hb dX9_load_37 rfl (lv_at hl 0 rfl) ?_
      refine lv_iload_n hx hb dX9_load_38 rfl (lv_at hl 1 rfl) ?_
      refine b_put (D := D) (ci := 9) (v := .int (nI tl)) (ty := .int) (C := RX9) (T := TX9) (N := 18) hx hb hts iX9_load_9 tyX9 tyX9_ok nmX9 hown hN hB 0 rfl rfl 3 (by decide) (hts _ mX9_load_3) (fun _ h9 => h9) rfl (by decide +kernel) rfl rfl (Nat.le_of_ble_eq_true rfl) (.inr ⟨rfl, List.mem_of_getElem? (i := 0) rfl⟩) dX9_load_39 (fun H locs hB => ?_)
      have hB : Bx B0 D _ [(w, .inr (9, [.int f4897_0, .ref f4897_1, .int (nI 0), .int (nI tl), .int (nI f4897_4), .int f4897_5, .int f4897_6, .int f4897_7, .ref (κ w).2.2.2, .ref f4897_9, .ref f4897_10, .ref f4897_11, .int (nI f4897_12), .int f4897_13, .int f4897_14, .int f4897_15, .int f4897_16, .ref f4897_17]))] [w] _ _ := hB
      refine lv_aload_n hx hb dX9_load_42 rfl (lv_at hl 0 rfl) ?_
      refine lv_iconst (v := 0) hx hb dX9_load_43 (by decide) ?_
      refine tp_i (nI 0) rfl ?_
      refine b_put (D := D) (ci := 9) (v := .int (nI 0)) (ty := .int) (C := RX9) (T := TX9) (N := 18) hx hb hts iX9_load_9 tyX9 tyX9_ok nmX9 hown hN hB 0 rfl rfl 4 (by decide) (hts _ mX9_load_4) (fun _ h9 => h9) rfl (by decide +kernel) rfl rfl (Nat.le_of_ble_eq_true rfl) (.inr ⟨rfl, List.mem_of_getElem? (i := 0) rfl⟩) dX9_load_44 (fun H locs hB => ?_)
      have hB : Bx B0 D _ [(w, .inr (9, [.int f4897_0, .ref f4897_1, .int (nI 0), .int (nI tl), .int (nI 0), .int f4897_5, .int f4897_6, .int f4897_7, .ref (κ w).2.2.2, .ref f4897_9, .ref f4897_10, .ref f4897_11, .int (nI f4897_12), .int f4897_13, .int f4897_14, .int f4897_15, .int f4897_16, .ref f4897_17]))] [w] _ _ := hB
      refine lv_aload_n hx hb dX9_load_47 rfl (lv_at hl 0 rfl) ?_
      refine lv_iconst (v := 0) hx hb dX9_load_48 (by decide) ?_
      refine b_put (D := D) (ci := 9) (v := .int 0) (ty := .int) (C := RX9) (T := TX9) (N := 18) hx hb hts iX9_load_9 tyX9 tyX9_ok nmX9 hown hN hB 0 rfl rfl 5 (by decide) (hts _ mX9_load_5) (fun _ h9 => h9) rfl (by decide +kernel) rfl rfl (Nat.le_of_ble_eq_true rfl) (.inr ⟨rfl, List.mem_of_getElem? (i := 0) rfl⟩) dX9_load_49 (fun H locs hB => ?_)
      have hB : Bx B0 D _ [(w, .inr (9, [.int f4897_0, .ref f4897_1, .int (nI 0), .int (nI tl), .int (nI 0), .int 0, .int f4897_6, .int f4897_7, .ref (κ w).2.2.2, .ref f4897_9, .ref f4897_10, .ref f4897_11, .int (nI f4897_12), .int f4897_13, .int f4897_14, .int f4897_15, .int f4897_16, .ref f4897_17]))] [w] _ _ := hB
      refine lv_aload_n hx hb dX9_load_52 rfl (lv_at hl 0 rfl) ?_
      refine lv_iconst (v := (-1)) hx hb dX9_load_53 (by decide) ?_
      refine b_put (D := D) (ci := 9) (v := .int (-1)) (ty := .int) (C := RX9) (T := TX9) (N := 18) hx hb hts iX9_load_9 tyX9 tyX9_ok nmX9 hown hN hB 0 rfl rfl 6 (by decide) (hts _ mX9_load_6) (fun _ h9 => h9) rfl (by decide +kernel) rfl rfl (Nat.le_of_ble_eq_true rfl) (.inr ⟨rfl, List.mem_of_getElem? (i := 0) rfl⟩) dX9_load_54 (fun H locs hB => ?_)
      have hB : Bx B0 D _ [(w, .inr (9, [.int f4897_0, .ref f4897_1, .int (nI 0), .int (nI tl), .int (nI 0), .int 0, .int (-1), .int f4897_7, .ref (κ w).2.2.2, .ref f4897_9, .ref f4897_10, .ref f4897_11, .int (nI f4897_12), .int f4897_13, .int f4897_14, .int f4897_15, .int f4897_16, .ref f4897_17]))] [w] _ _ := hB
      refine lv_aload_n hx hb dX9_load_57 rfl (lv_at hl 0 rfl) ?_
      refine lv_iconst (v := 0) hx hb dX9_load_58 (by decide) ?_
      refine b_put (D := D) (ci := 9) (v := .int 0) (ty := .int) (C := RX9) (T := TX9) (N := 18) hx hb hts iX9_load_9 tyX9 tyX9_ok nmX9 hown hN hB 0 rfl rfl 14 (by decide) (hts _ mX9_load_7) (fun _ h9 => h9) rfl (by decide +kernel) rfl rfl (Nat.le_of_ble_eq_true rfl) (.inr ⟨rfl, List.mem_of_getElem? (i := 0) rfl⟩) dX9_load_59 (fun H locs hB => ?_)
      have hB : Bx B0 D _ [(w, .inr (9, [.int f4897_0, .ref f4897_1, .int (nI 0), .int (nI tl), .int (nI 0), .int 0, .int (-1), .int f4897_7, .ref (κ w).2.2.2, .ref f4897_9, .ref f4897_10, .ref f4897_11, .int (nI f4897_12), .int f4897_13, .int 0, .int f4897_15, .int f4897_16, .ref f4897_17]))] [w] _ _ := hB
      refine lv_aload_n hx hb dX9_load_62 rfl (lv_at hl 0 rfl) ?_
      refine lv_iconst (v := 0) hx hb dX9_load_63 (by decide) ?_
      refine b_put (D := D) (ci := 9) (v := .int 0) (ty := .int) (C := RX9) (T := TX9) (N := 18) hx hb hts iX9_load_9 tyX9 tyX9_ok nmX9 hown hN hB 0 rfl rfl 15 (by decide) (hts _ mX9_load_8) (fun _ h9 => h9) rfl (by decide +kernel) rfl rfl (Nat.le_of_ble_eq_true rfl) (.inr ⟨rfl, List.mem_of_getElem? (i := 0) rfl⟩) dX9_load_64 (fun H locs hB => ?_)
      have hB : Bx B0 D _ [(w, .inr (9, [.int f4897_0, .ref f4897_1, .int (nI 0), .int (nI tl), .int (nI 0), .int 0, .int (-1), .int f4897_7, .ref (κ w).2.2.2, .ref f4897_9, .ref f4897_10, .ref f4897_11, .int (nI f4897_12), .int f4897_13, .int 0, .int 0, .int f4897_16, .ref f4897_17]))] [w] _ _ := hB
      refine lv_aload_n hx hb dX9_load_67 rfl (lv_at hl 0 rfl) ?_
      refine lv_iconst (v := 0) hx hb dX9_load_68 (by decide) ?_
      refine b_put (D := D) (ci := 9) (v := .int 0) (ty := .int) (C := RX9) (T := TX9) (N := 18) hx hb hts iX9_load_9 tyX9 tyX9_ok nmX9 hown hN hB 0 rfl rfl 16 (by decide) (hts _ mX9_load_9) (fun _ h9 => h9) rfl (by decide +kernel) rfl rfl (Nat.le_of_ble_eq_true rfl) (.inr ⟨rfl, List.mem_of_getElem? (i := 0) rfl⟩) dX9_load_69 (fun H locs hB => ?_)
      have hB : Bx B0 D _ [(w, .inr (9, [.int f4897_0, .ref f4897_1, .int (nI 0), .int (nI tl), .int (nI 0), .int 0, .int (-1), .int f4897_7, .ref (κ w).2.2.2, .ref f4897_9, .ref f4897_10, .ref f4897_11, .int (nI f4897_12), .int f4897_13, .int 0, .int 0, .int 0, .ref f4897_17]))] [w] _ _ := hB
      have hF : Fr B0 [12, 17, 18] κ H0 _ := hF.close hB (fa_c (by simp [hw.2]) fa_n)
      have hT : WT B0 D cs T (kp κ w 0 (κ w).2.2.2) _ := hT.closeK w 0 (κ w).2.2.2 hB (by rw [hw.1]; decide) (by rw [hw.1]; decide) (List.mem_of_getElem? (i := 0) rfl) ⟨⟨0, _, rfl, kp_ok (ok_10 (k := ((κ w).1, (κ w).2.1, _, _)) hw.1 ⟨_, _, _, _, _, _, _, _, _, _, _, _, _, _, _, _, rfl, (by show 0 ≤ 600; omega), (by omega), (by omega), (by omega), (t2kp t4897_1), (t2kp t4897_8), (t2kp t4897_9), (by rw [kp_n (ne_c t4897_9.1 hw.1 (by decide))]; exact c4897_sd), (t2kp t4897_10), (t2kp t4897_11), (t2kp t4897_17)⟩)⟩, trivial⟩
      have hL : OkL B0 _ := hB.2.2.2.2.2
      have hP : va_P D vwCl [(w, .inr (9, [.int f4897_0, .ref f4897_1, .int (nI 0), .int (nI tl), .int (nI 0), .int 0, .int (-1), .int f4897_7, .ref (κ w).2.2.2, .ref f4897_9, .ref f4897_10, .ref f4897_11, .int (nI f4897_12), .int f4897_13, .int 0, .int 0, .int 0, .ref f4897_17]))] _ := hB.1
      obtain ⟨κ4898, hκ4898⟩ : ∃ κq : KM, κq = (kp κ w 0 (κ w).2.2.2) := ⟨_, rfl⟩
      have hxf4898 : KF κ κ4898 := by rw [hκ4898]; exact KF.kp
      rw [← hκ4898] at hT
      have hKF : KF κ κ4898 := hxf4898
      have hw := (KF.t2 hxf4898 hw (by decide))
      have hbT : T2 κ4898 f4897_1 23 14 := KF.t2 hxf4898 t4897_1 (by decide)
      have hdT : T2 κ4898 f4897_10 26 17 := KF.t2 hxf4898 t4897_10 (by decide)
      obtain ⟨-, e9, hat9, g, rfl⟩ := hT.o23 hbT.1
      have hm : MF D cs w _ 0 tl 0 0 f4897_10 f4897_1 g := ⟨⟨_, hP 0 _ rfl, rfl⟩, ⟨_, hP 0 _ rfl, rfl⟩, ⟨_, hP 0 _ rfl, rfl⟩, ⟨_, hP 0 _ rfl, rfl⟩, ⟨_, hP 0 _ rfl, rfl⟩, ⟨_, hP 0 _ rfl, rfl⟩, hat9, (by omega), (by omega)⟩
      obtain ⟨dr, hdr9⟩ : ∃ q9 : Nat, f4897_10 = q9 := ⟨_, rfl⟩
      rw [hdr9] at hm hdT
      obtain ⟨bu, hbu9⟩ : ∃ q9 : Nat, f4897_1 = q9 := ⟨_, rfl⟩
      rw [hbu9] at hm hbT
      have hm8 := hm.2.2.2.2.2.2.2
      refine lv_aload_n hx hb dX9_load_72 rfl (lv_at hl 0 rfl) ?_
      refine va_ldcS hx hb hown (hN.s 19 rfl) dX9_load_73 ?_
      refine cv_i (As := [.ref (cs 119)]) (rest := []) (b := w) ⟨hx, hb, hml, hown, hts⟩ (c_X9_takeWord hT (w := w) hw (i := 19) (by decide) hbT hdT hm) (cwV 1 hts gX9_load_X9_takeWord rfl rfl rfl hdX9_takeWord_v ⟨Nat.le_of_ble_eq_true rfl, Nat.le_of_ble_eq_true rfl⟩) hN hE hL (rcv10 hN hT hw.1) rfl rfl hl.1 (Nat.le_of_ble_eq_true rfl) dX9_load_75 (Nat.zero_le _) (Nat.zero_le _) (fun r4899 H1 locs hL hqr4899 => ?_)
      obtain ⟨hT1, hF1, hqr4899⟩ := hqr4899
      have hF := hF.tr ((hF1.kf hKF).mono (by simp))
      have hT := hT1
      rcases hqr4899 with ⟨rfl, p4900, h4901, m4902⟩ | ⟨rfl, p4903, q4904, e4905, m4906⟩
      · have hm := m4902
        have hm8 := hm.2.2.2.2.2.2.2
        refine lv_if_ne (tgt := 91) hx hb dX9_load_78 (by decide) (fun c9 => absurd (by decide) c9) (fun _ => ?_)
        refine lv_aload_n hx hb dX9_load_81 rfl (lv_at hl 0 rfl) ?_
        refine lv_bipush (v := (-2)) hx hb dX9_load_82 (by decide) ?_
        refine lv_aload_n hx hb dX9_load_84 rfl (lv_at hl 0 rfl) ?_
        obtain ⟨hb4907, e4907, hat4907, hk4907⟩ := hT.o10 hw.1
        obtain ⟨f4907_0, f4907_1, f4907_3, f4907_4, f4907_5, f4907_6, f4907_7, f4907_9, f4907_10, f4907_11, f4907_12, f4907_13, f4907_14, f4907_15, f4907_16, f4907_17, rfl, c4907_2, c4907_3, c4907_4, c4907_12, t4907_1, t4907_8, t4907_9, c4907_sd, t4907_10, t4907_11, t4907_17⟩ := hk4907
        obtain ⟨rfl, rfl, rfl, rfl, rfl, rfl⟩ := hm.at hat4907 c4907_3 (by omega)
        have hm8 := hm.2.2.2.2.2.2.2
        have hP : va_P D vwCl [(w, .inr (9, [.int f4907_0, .ref bu, .int (nI ((κ4898 w).2.2.1)), .int (nI tl), .int (nI p4900), .int 0, .int f4907_6, .int f4907_7, .ref (κ4898 w).2.2.2, .ref f4907_9, .ref dr, .ref f4907_11, .int (nI f4907_12), .int f4907_13, .int 0, .int f4907_15, .int f4907_16, .ref f4907_17]))] _ := va_P.cons hat4907 va_P.nil
        refine va_get (D := D) (ci := 9) (v := .int (nI p4900)) (C := RX9) (T := TX9) (N := 18) hx hb hts iX9_load_9 hown hN.1 hP 0 rfl rfl 4 (by decide) (hts _ mX9_load_4) (fun _ h9 => h9) rfl dX9_load_85 ?_
        refine cv_v (As := [.int (-2), .int (nI p4900)]) (rest := []) (b := w) ⟨hx, hb, hml, hown, hts⟩ (c_X9_report hT (w := w) hw (x := (-2)) (y := (nI p4900)) hbT hdT hm ((by decide))) (cwV 2 hts gX9_load_X9_report rfl rfl rfl hdX9_report_v ⟨Nat.le_of_ble_eq_true rfl, Nat.le_of_ble_eq_true rfl⟩) hN hE hL (rcv10 hN hT hw.1) rfl rfl hl.1 (Nat.le_of_ble_eq_true rfl) dX9_load_88 (Nat.zero_le _) (Nat.zero_le _) (fun H1 locs hL hqr4908 => ?_)
        obtain ⟨hT1, hF1, hqr4908⟩ := hqr4908
        have hF := hF.tr ((hF1.kf hKF).mono (by simp))
        have hT := hT1
        obtain ⟨er4909, z4910, m4911⟩ := hqr4908
        have hm := m4911
        have hm8 := hm.2.2.2.2.2.2.2
        refine lv_aload_n hx hb dX9_load_91 rfl (lv_at hl 0 rfl) ?_
        refine lv_iconst (v := 1) hx hb dX9_load_92 (by decide) ?_
        refine lv_bipush (v := 8) hx hb dX9_load_93 (by decide) ?_
        refine cv_i (As := [.int 1, .int 8]) (rest := []) (b := w) ⟨hx, hb, hml, hown, hts⟩ (c_X9_number hT (w := w) hw (x := 1) (y := 8) hbT hdT hm) (cwV 2 hts gX9_load_X9_number rfl rfl rfl hdX9_number_v ⟨Nat.le_of_ble_eq_true rfl, Nat.le_of_ble_eq_true rfl⟩) hN hE hL (rcv10 hN hT hw.1) rfl rfl hl.1 (Nat.le_of_ble_eq_true rfl) dX9_load_95 (Nat.zero_le _) (Nat.zero_le _) (fun r4912 H1 locs hL hqr4912 => ?_)
        obtain ⟨hT1, hF1, hqr4912⟩ := hqr4912
        have hF := hF.tr ((hF1.kf hKF).mono (by simp))
        have hT := hT1
        obtain ⟨p4913, er4914, a4915, z4916, m4917, q4918⟩ := hqr4912
        have hm := m4917
        have hm8 := hm.2.2.2.2.2.2.2
        obtain ⟨n4919, hn4919, rfl⟩ := num_c (lo := 1) (hi := 8) (by decide) (by decide) rfl rfl q4918
        refine lv_istore_n (lv' := [(2, .int (nI n4919)), (0, .ref w), (1, .int (nI tl))]) hx hb dX9_load_98 rfl hl (by decide) rfl (fun ls hl => ?_)
        refine lv_aload_n hx hb dX9_load_99 rfl (lv_at hl 1 rfl) ?_
        obtain ⟨hb4920, e4920, hat4920, hk4920⟩ := hT.o10 hw.1
        obtain ⟨f4920_0, f4920_1, f4920_3, f4920_4, f4920_5, f4920_6, f4920_7, f4920_9, f4920_10, f4920_11, f4920_12, f4920_13, f4920_14, f4920_15, f4920_16, f4920_17, rfl, c4920_2, c4920_3, c4920_4, c4920_12, t4920_1, t4920_8, t4920_9, c4920_sd, t4920_10, t4920_11, t4920_17⟩ := hk4920
        obtain ⟨rfl, rfl, rfl, rfl, rfl, rfl⟩ := hm.at hat4920 c4920_3 (by omega)
        have hm8 := hm.2.2.2.2.2.2.2
        have hP : va_P D vwCl [(w, .inr (9, [.int f4920_0, .ref bu, .int (nI ((κ4898 w).2.2.1)), .int (nI tl), .int (nI p4913), .int er4914, .int f4920_6, .int f4920_7, .ref (κ4898 w).2.2.2, .ref f4920_9, .ref dr, .ref f4920_11, .int (nI f4920_12), .int f4920_13, .int 0, .int f4920_15, .int f4920_16, .ref f4920_17]))] _ := va_P.cons hat4920 va_P.nil
        refine va_get (D := D) (ci := 9) (v := .ref dr) (C := RX9) (T := TX9) (N := 18) hx hb hts iX9_load_9 hown hN.1 hP 0 rfl rfl 10 (by decide) (hts _ mX9_load_10) (fun _ h9 => h9) rfl dX9_load_100 ?_
        refine lv_iload_n hx hb dX9_load_103 rfl (lv_at hl 0 rfl) ?_
        refine cs_v (As := [.ref dr, .int (nI n4919)]) (rest := []) ⟨hx, hb, hml, hown, hts⟩ (c_X9_layPlayers hT (w := dr) hdT (n := n4919) (by first | omega | decide | assumption)) (va_cwS 2 hts gX9_load_X9_layPlayers rfl rfl rfl hdX9_layPlayers_o ⟨Nat.le_of_ble_eq_true rfl, Nat.le_of_ble_eq_true rfl⟩) hN hE hL rfl rfl hl.1 (Nat.le_of_ble_eq_true rfl) dX9_load_104 (Nat.zero_le _) (Nat.zero_le _) (fun H1 locs hL hqr4921 => ?_)
        obtain ⟨hT1, hF1, hqr4921⟩ := hqr4921
        have hP : va_P D vwCl [(w, .inr (9, [.int f4920_0, .ref bu, .int (nI ((κ4898 w).2.2.1)), .int (nI tl), .int (nI p4913), .int er4914, .int f4920_6, .int f4920_7, .ref (κ4898 w).2.2.2, .ref f4920_9, .ref dr, .ref f4920_11, .int (nI f4920_12), .int f4920_13, .int 0, .int f4920_15, .int f4920_16, .ref f4920_17]))] _ := hF1.hP (hP.sub [0] rfl) (fa_c ⟨by rw [hw.1]; decide, by rw [hw.2]; first | decide | (simp; done) | (simp [h15a, h15b, h15c]; done) | (simp; omega)⟩ fa_n)
        have hF := hF.tr ((hF1.kf hKF).mono (by simp))
        have hT := hT1
        obtain ⟨f4922, d4923, e4924⟩ := hqr4921
        have hm := hm.fr hw hbT hF1 (by decide) (by decide)
        have hm8 := hm.2.2.2.2.2.2.2
        have hbd : B0 ≤ dr := (hT.o26 hdT.1).1
        have hDR := hT.dr hdT d4923
        have hP : va_P D vwCl [(dr, .inl (cs 0, 1383, .inl f4922)), (w, .inr (9, [.int f4920_0, .ref bu, .int (nI ((κ4898 w).2.2.1)), .int (nI tl), .int (nI p4913), .int er4914, .int f4920_6, .int f4920_7, .ref (κ4898 w).2.2.2, .ref f4920_9, .ref dr, .ref f4920_11, .int (nI f4920_12), .int f4920_13, .int 0, .int f4920_15, .int f4920_16, .ref f4920_17]))] _ := va_P.cons d4923 hP
        refine lv_aload_n hx hb dX9_load_107 rfl (lv_at hl 1 rfl) ?_
        refine lv_bipush (v := 59) hx hb dX9_load_108 (by decide) ?_
        refine cv_v (As := [.int 59]) (rest := []) (b := w) ⟨hx, hb, hml, hown, hts⟩ (c_X9_expect hT (w := w) hw (x := 59) hbT hdT hm ((by decide))) (cwV 1 hts gX9_load_X9_expect rfl rfl rfl hdX9_expect_v ⟨Nat.le_of_ble_eq_true rfl, Nat.le_of_ble_eq_true rfl⟩) hN hE hL (rcv10 hN hT hw.1) rfl rfl hl.1 (Nat.le_of_ble_eq_true rfl) dX9_load_110 (Nat.zero_le _) (Nat.zero_le _) (fun H1 locs hL hqr4926 => ?_)
        obtain ⟨hT1, hF1, hqr4926⟩ := hqr4926
        have hP : va_P D vwCl [(dr, .inl (cs 0, 1383, .inl f4922))] _ := hF1.hP (hP.sub [0] rfl) (fa_c ⟨by rw [hdT.1]; decide, by rw [hdT.2]; first | decide | (simp; done) | (simp [h15a, h15b, h15c]; done) | (simp; omega)⟩ fa_n)
        have hF := hF.tr ((hF1.kf hKF).mono (by simp))
        have hT := hT1
        obtain ⟨p4927, er4928, a4929, z4930, m4931⟩ := hqr4926
        have hm := m4931
        have hm8 := hm.2.2.2.2.2.2.2
        have hps : PS D cs w _ (p4927) (tl) (er4928) (0) dr bu g (0) (0) := ⟨hm, f4922, hP 0 _ rfl, e4924, by omega, (fun e9 => (fun _ => CV.z _) (z4930 e9))⟩
        obtain ⟨u4932, hu4932, iu4932, ku4932⟩ := ld_u (er4928)
        refine lp_m (α := Nat × Nat × Nat × Int32 × Nat) (nL := 3) (fun a9 => 2 * (600 - a9.1) + a9.2.2.2.2) (fun a9 H9 l9 => (PS D cs w H9 a9.1 tl a9.2.2.2.1 0 dr bu g a9.2.1 a9.2.2.1) ∧ (a9.2.2.2.2 ≤ 1) ∧ (a9.2.2.2.1 = 0 → a9.2.2.2.2 = 1) ∧ (WT B0 D cs T κ4898 H9) ∧ (Fr B0 [12, 17, 18] κ H0 H9) ∧ (OkL B0 l9)) (fun a9 => [(0, .ref w)]) ?_ (p4927, 0, 0, er4928, u4932) _ _ _ ⟨hps, hu4932, iu4932, hT, hF, hL⟩ (lv_sub hl [1] rfl)
        rintro ⟨p, N1, h1, er1, u⟩ H locs ls ih4933 ⟨hps, hu, hu1, hT, hF, hL⟩ hl
        have hl : lv_has ls 3 [(0, .ref w)] := hl
        have hps : PS D cs w H p tl er1 0 dr bu g N1 h1 := hps
        have hu : u ≤ 1 := hu
        have hu1 : er1 = 0 → u = 1 := hu1
        obtain ⟨hm, f4934, hd4934, e4934, n4934, v4934⟩ := hps
        have hm8 := hm.2.2.2.2.2.2.2
        have hbd : B0 ≤ dr := (hT.o26 hdT.1).1
        have hDR := hT.dr hdT hd4934
        have hP : va_P D vwCl [(dr, .inl (cs 0, 1383, .inl f4934))] _ := va_P.cons hd4934 va_P.nil
        refine lv_aload_n hx hb dX9_load_113 rfl (lv_at hl 0 rfl) ?_
        refine cv_i (As := []) (rest := []) (b := w) ⟨hx, hb, hml, hown, hts⟩ (c_X9_isGood hT (w := w) hw hbT hdT hm) (cwV 0 hts gX9_load_X9_isGood rfl rfl rfl hdX9_isGood_v ⟨Nat.le_of_ble_eq_true rfl, Nat.le_of_ble_eq_true rfl⟩) hN hE hL (rcv10 hN hT hw.1) rfl rfl hl.1 (Nat.le_of_ble_eq_true rfl) dX9_load_114 (Nat.zero_le _) (Nat.zero_le _) (fun r4936 H1 locs hL hqr4936 => ?_)
        obtain ⟨h9, hqr4936⟩ := hqr4936; replace h9 := h9.symm; subst h9
        rcases hqr4936 with ⟨rfl, e4937⟩ | ⟨rfl, e4938⟩
        · refine lv_if_eq (tgt := 135) hx hb dX9_load_117 (by decide) (fun c9 => absurd c9 (by decide)) (fun _ => ?_)
          refine lv_aload_n hx hb dX9_load_120 rfl (lv_at hl 0 rfl) ?_
          refine cv_i (As := []) (rest := []) (b := w) ⟨hx, hb, hml, hown, hts⟩ (c_X9_ahead hT (w := w) hw hbT hdT hm) (cwV 0 hts gX9_load_X9_ahead rfl rfl rfl hdX9_ahead_v ⟨Nat.le_of_ble_eq_true rfl, Nat.le_of_ble_eq_true rfl⟩) hN hE hL (rcv10 hN hT hw.1) rfl rfl hl.1 (Nat.le_of_ble_eq_true rfl) dX9_load_121 (Nat.zero_le _) (Nat.zero_le _) (fun r4939 H1 locs hL hqr4939 => ?_)
          obtain ⟨hT1, hF1, hqr4939⟩ := hqr4939
          have hP : va_P D vwCl [(dr, .inl (cs 0, 1383, .inl f4934))] _ := hF1.hP (hP.sub [0] rfl) (fa_c ⟨by rw [hdT.1]; decide, by rw [hdT.2]; first | decide | (simp; done) | (simp [h15a, h15b, h15c]; done) | (simp; omega)⟩ fa_n)
          have hF := hF.tr ((hF1.kf hKF).mono (by simp))
          have hT := hT1
          obtain ⟨p4940, h4941, m4942, n4943, s4944, rfl⟩ := hqr4939
          have hm := m4942
          have hm8 := hm.2.2.2.2.2.2.2
          refine lv_iconst (v := (-1)) hx hb dX9_load_124 (by decide) ?_
          refine lv_icmp_eq (tgt := 135) hx hb dX9_load_125 (by decide) (fun c4945 => ?_) (fun c4945 => ?_)
          · refine lv_aload_n hx hb dX9_load_135 rfl (lv_at hl 0 rfl) ?_
            refine lv_aload_n hx hb dX9_load_136 rfl (lv_at hl 0 rfl) ?_
            obtain ⟨hb4946, e4946, hat4946, hk4946⟩ := hT.o10 hw.1
            obtain ⟨f4946_0, f4946_1, f4946_3, f4946_4, f4946_5, f4946_6, f4946_7, f4946_9, f4946_10, f4946_11, f4946_12, f4946_13, f4946_14, f4946_15, f4946_16, f4946_17, rfl, c4946_2, c4946_3, c4946_4, c4946_12, t4946_1, t4946_8, t4946_9, c4946_sd, t4946_10, t4946_11, t4946_17⟩ := hk4946
            obtain ⟨rfl, rfl, rfl, rfl, rfl, rfl⟩ := hm.at hat4946 c4946_3 (by omega)
            have hm8 := hm.2.2.2.2.2.2.2
            have hP : va_P D vwCl [(w, .inr (9, [.int f4946_0, .ref bu, .int (nI ((κ4898 w).2.2.1)), .int (nI tl), .int (nI p4940), .int er1, .int f4946_6, .int f4946_7, .ref (κ4898 w).2.2.2, .ref f4946_9, .ref dr, .ref f4946_11, .int (nI f4946_12), .int f4946_13, .int 0, .int f4946_15, .int f4946_16, .ref f4946_17])), (dr, .inl (cs 0, 1383, .inl f4934))] _ := va_P.cons hat4946 hP
            refine va_get (D := D) (ci := 9) (v := .int f4946_6) (C := RX9) (T := TX9) (N := 18) hx hb hts iX9_load_9 hown hN.1 hP 0 rfl rfl 6 (by decide) (hts _ mX9_load_6) (fun _ h9 => h9) rfl dX9_load_137 ?_
            have hB : Bx B0 D _ [(w, .inr (9, [.int f4946_0, .ref bu, .int (nI ((κ4898 w).2.2.1)), .int (nI tl), .int (nI p4940), .int er1, .int f4946_6, .int f4946_7, .ref (κ4898 w).2.2.2, .ref f4946_9, .ref dr, .ref f4946_11, .int (nI f4946_12), .int f4946_13, .int 0, .int f4946_15, .int f4946_16, .ref f4946_17])), (dr, .inl (cs 0, 1383, .inl f4934))] [] _ _ := Bx.of (fun a => (κ4898 a).1) hL hP (fa_c hb4946 (fa_c hbd fa_n)) (by simp only [List.map_cons, List.map_nil, hw.1, hdT.1]; decide)
            refine b_put (D := D) (ci := 9) (v := .int f4946_6) (ty := .int) (C := RX9) (T := TX9) (N := 18) hx hb hts iX9_load_9 tyX9 tyX9_ok nmX9 hown hN hB 0 rfl rfl 7 (by decide) (hts _ mX9_load_11) (fun _ h9 => h9) rfl (by decide +kernel) rfl rfl (Nat.le_of_ble_eq_true rfl) (.inl rfl) dX9_load_140 (fun H locs hB => ?_)
            have hB : Bx B0 D _ [(w, .inr (9, [.int f4946_0, .ref bu, .int (nI ((κ4898 w).2.2.1)), .int (nI tl), .int (nI p4940), .int er1, .int f4946_6, .int f4946_6, .ref (κ4898 w).2.2.2, .ref f4946_9, .ref dr, .ref f4946_11, .int (nI f4946_12), .int f4946_13, .int 0, .int f4946_15, .int f4946_16, .ref f4946_17])), (dr, .inl (cs 0, 1383, .inl f4934))] [w] _ _ := hB
            refine lv_aload_n hx hb dX9_load_143 rfl (lv_at hl 0 rfl) ?_
            have hT : WT B0 D cs T κ4898 _ := hT.close hB ⟨⟨0, _, rfl, ok_10 hw.1 ⟨_, _, _, _, _, _, _, _, _, _, _, _, _, _, _, _, rfl, (by omega), (by omega), (by omega), (by omega), hbT, t4946_8, t4946_9, c4946_sd, hdT, t4946_11, t4946_17⟩⟩, trivial⟩
            have hF : Fr B0 [12, 17, 18] κ H0 _ := hF.closeN hB (fa_c (fun h9 => by rw [← (hKF _ h9).2, hw.2]; simp) fa_n)
            have hL : OkL B0 _ := hB.2.2.2.2.2
            have hP : va_P D vwCl [(w, .inr (9, [.int f4946_0, .ref bu, .int (nI ((κ4898 w).2.2.1)), .int (nI tl), .int (nI p4940), .int er1, .int f4946_6, .int f4946_6, .ref (κ4898 w).2.2.2, .ref f4946_9, .ref dr, .ref f4946_11, .int (nI f4946_12), .int f4946_13, .int 0, .int f4946_15, .int f4946_16, .ref f4946_17])), (dr, .inl (cs 0, 1383, .inl f4934))] _ := hB.1
            have hbu9 := (hm.2.2.2.2.2.2.1).kept (hB.2.2.2.1 _ hm.2.2.2.2.2.2.1.lt (by simp only [List.mem_cons, List.not_mem_nil, or_false, not_or]; exact ne_c hbT.1 hw.1 (by decide)))
            have hm : MF D cs w _ (p4940) (tl) (er1) (0) dr bu g := ⟨⟨_, hP 0 _ rfl, rfl⟩, ⟨_, hP 0 _ rfl, rfl⟩, ⟨_, hP 0 _ rfl, rfl⟩, ⟨_, hP 0 _ rfl, rfl⟩, ⟨_, hP 0 _ rfl, rfl⟩, ⟨_, hP 0 _ rfl, rfl⟩, hbu9, (by omega), (by omega)⟩
            refine cv_i (As := []) (rest := []) (b := w) ⟨hx, hb, hml, hown, hts⟩ (c_X9_isGood hT (w := w) hw hbT hdT hm) (cwV 0 hts gX9_load_X9_isGood rfl rfl rfl hdX9_isGood_v ⟨Nat.le_of_ble_eq_true rfl, Nat.le_of_ble_eq_true rfl⟩) hN hE hL (rcv10 hN hT hw.1) rfl rfl hl.1 (Nat.le_of_ble_eq_true rfl) dX9_load_144 (Nat.zero_le _) (Nat.zero_le _) (fun r4947 H1 locs hL hqr4947 => ?_)
            obtain ⟨h9, hqr4947⟩ := hqr4947; replace h9 := h9.symm; subst h9
            rcases hqr4947 with ⟨rfl, e4948⟩ | ⟨rfl, e4949⟩
            · refine lv_if_ne (tgt := 155) hx hb dX9_load_147 (by decide) (fun _ => ?_) (fun c9 => absurd c9 (by decide))
              refine lv_aload_n hx hb dX9_load_155 rfl (lv_at hl 0 rfl) ?_
              refine cv_v (As := []) (rest := []) (b := w) ⟨hx, hb, hml, hown, hts⟩ (c_X9_remember_dd hT (w := w) hw (hm.2.2.2.2.1)) (cwV 0 hts gX9_load_X9_remember rfl rfl rfl hdX9_remember_v ⟨Nat.le_of_ble_eq_true rfl, Nat.le_of_ble_eq_true rfl⟩) hN hE hL (rcv10 hN hT hw.1) rfl rfl hl.1 (Nat.le_of_ble_eq_true rfl) dX9_load_156 (Nat.zero_le _) (Nat.zero_le _) (fun H1 locs hL hqr4950 => ?_)
              obtain ⟨hT1, hF1, hqr4950⟩ := hqr4950
              have hP : va_P D vwCl [(dr, .inl (cs 0, 1383, .inl f4934))] _ := hF1.hP (hP.sub [1] rfl) (fa_c ⟨by rw [hdT.1]; decide, by rw [hdT.2]; first | decide | (simp; done) | (simp [h15a, h15b, h15c]; done) | (simp; omega)⟩ fa_n)
              have hF := hF.tr ((hF1.kf hKF).mono (by simp))
              have hT := hT1
              have f4951 := hqr4950
              have hfd := f4951
              refine lv_aload_n hx hb dX9_load_159 rfl (lv_at hl 0 rfl) ?_
              obtain ⟨hb4952, e4952, hat4952, hk4952⟩ := hT.o10 hw.1
              obtain ⟨f4952_0, f4952_1, f4952_3, f4952_4, f4952_5, f4952_6, f4952_7, f4952_9, f4952_10, f4952_11, f4952_12, f4952_13, f4952_14, f4952_15, f4952_16, f4952_17, rfl, c4952_2, c4952_3, c4952_4, c4952_12, t4952_1, t4952_8, t4952_9, c4952_sd, t4952_10, t4952_11, t4952_17⟩ := hk4952
              have efi4952 : dr = f4952_10 := (Value.ref.inj (hfd.eq hat4952 rfl (by decide) rfl)).symm
              subst efi4952
              have hP : va_P D vwCl [(w, .inr (9, [.int f4952_0, .ref f4952_1, .int (nI ((κ4898 w).2.2.1)), .int (nI f4952_3), .int (nI f4952_4), .int f4952_5, .int f4952_6, .int f4952_7, .ref (κ4898 w).2.2.2, .ref f4952_9, .ref dr, .ref f4952_11, .int (nI f4952_12), .int f4952_13, .int f4952_14, .int f4952_15, .int f4952_16, .ref f4952_17])), (dr, .inl (cs 0, 1383, .inl f4934))] _ := va_P.cons hat4952 hP
              refine va_get (D := D) (ci := 9) (v := .ref dr) (C := RX9) (T := TX9) (N := 18) hx hb hts iX9_load_9 hown hN.1 hP 0 rfl rfl 10 (by decide) (hts _ mX9_load_10) (fun _ h9 => h9) rfl dX9_load_160 ?_
              refine lv_aload_n hx hb dX9_load_163 rfl (lv_at hl 0 rfl) ?_
              refine va_get (D := D) (ci := 9) (v := .ref (κ4898 w).2.2.2) (C := RX9) (T := TX9) (N := 18) hx hb hts iX9_load_9 hown hN.1 hP 0 rfl rfl 8 (by decide) (hts _ mX9_load_12) (fun _ h9 => h9) rfl dX9_load_164 ?_
              refine cs_v (As := [.ref dr, .ref (κ4898 w).2.2.2]) (rest := []) ⟨hx, hb, hml, hown, hts⟩ (c_X9_copyR hT (a := dr) t4952_10 (b := (κ4898 w).2.2.2) t4952_8 (n := N1) (h := h1) (hP 1 _ rfl) hDR e4934 (by omega) (v4934 e4948)) (va_cwS 2 hts gX9_load_X9_copy rfl rfl rfl hdX9_copy_o ⟨Nat.le_of_ble_eq_true rfl, Nat.le_of_ble_eq_true rfl⟩) hN hE hL rfl rfl hl.1 (Nat.le_of_ble_eq_true rfl) dX9_load_167 (Nat.zero_le _) (Nat.zero_le _) (fun H1 locs hL hqr4953 => ?_)
              obtain ⟨hT1, hF1⟩ := hqr4953
              have hP : va_P D vwCl [(w, .inr (9, [.int f4952_0, .ref f4952_1, .int (nI ((κ4898 w).2.2.1)), .int (nI f4952_3), .int (nI f4952_4), .int f4952_5, .int f4952_6, .int f4952_7, .ref (κ4898 w).2.2.2, .ref f4952_9, .ref dr, .ref f4952_11, .int (nI f4952_12), .int f4952_13, .int f4952_14, .int f4952_15, .int f4952_16, .ref f4952_17])), (dr, .inl (cs 0, 1383, .inl f4934))] _ := hF1.hP (hP.sub [0, 1] rfl) (fa_c ⟨by rw [hw.1]; decide, by rw [hw.2]; first | decide | (simp; done) | (simp [h15a, h15b, h15c]; done) | (simp; omega)⟩ (fa_c ⟨by rw [hdT.1]; decide, by rw [hdT.2]; first | decide | (simp; done) | (simp [h15a, h15b, h15c]; done) | (simp; omega)⟩ fa_n))
              have hF := hF.tr ((hF1.kf hKF).mono (by simp))
              have hT := hT1
              refine lv_aload_n hx hb dX9_load_170 rfl (lv_at hl 0 rfl) ?_
              refine va_get (D := D) (ci := 9) (v := .ref (κ4898 w).2.2.2) (C := RX9) (T := TX9) (N := 18) hx hb hts iX9_load_9 hown hN.1 hP 0 rfl rfl 8 (by decide) (hts _ mX9_load_12) (fun _ h9 => h9) rfl dX9_load_171 ?_
              refine lv_iconst (v := 0) hx hb dX9_load_174 (by decide) ?_
              obtain ⟨hb4954, e4954, hat4954, hk4954⟩ := hT.o24 t4952_8.1
              obtain ⟨g4954, rfl, q4954⟩ := hk4954
              have hP : va_P D vwCl [((κ4898 w).2.2.2, .inl (cs 0, 45783, .inl g4954)), (w, .inr (9, [.int f4952_0, .ref f4952_1, .int (nI ((κ4898 w).2.2.1)), .int (nI f4952_3), .int (nI f4952_4), .int f4952_5, .int f4952_6, .int f4952_7, .ref (κ4898 w).2.2.2, .ref f4952_9, .ref dr, .ref f4952_11, .int (nI f4952_12), .int f4952_13, .int f4952_14, .int f4952_15, .int f4952_16, .ref f4952_17])), (dr, .inl (cs 0, 1383, .inl f4934))] _ := va_P.cons hat4954 hP
              refine ld_i (v := (g4954 0)) hx hb hN hP 0 rfl (vp_in_nI (n := 0) (N := 45783) (by omega) (by omega)) (by rw [(show (0 : Int32).toNatClampNeg = 0 from nI_clamp (n := 0) (by omega))]) dX9_load_175 ?_
              obtain ⟨n4955, hn4955, en4955⟩ := q4954.1
              refine tp_i (nI n4955) en4955 ?_
              exact en_i hx hb hr hlocks hL rfl (Nat.zero_le _) (Nat.zero_le _) dX9_load_176 (⟨hF, Or.inr ⟨l4889, g4890, hκ4898 ▸ hT⟩⟩)
            · exact absurd e4937 e4949
          · refine lv_aload_n hx hb dX9_load_128 rfl (lv_at hl 0 rfl) ?_
            have hps : PS D cs w _ (p4940) (tl) (er1) (0) dr bu g (N1) (h1) := ⟨hm, f4934, hP 0 _ rfl, e4934, by omega, v4934⟩
            refine cv_v (As := []) (rest := []) (b := w) ⟨hx, hb, hml, hown, hts⟩ (c_X9_statement hT (w := w) hw hbT hdT hps) (cwV 0 hts gX9_load_X9_statement rfl rfl rfl hdX9_statement_v ⟨Nat.le_of_ble_eq_true rfl, Nat.le_of_ble_eq_true rfl⟩) hN hE hL (rcv10 hN hT hw.1) rfl rfl hl.1 (Nat.le_of_ble_eq_true rfl) dX9_load_129 (Nat.zero_le _) (Nat.zero_le _) (fun H1 locs hL hqr4956 => ?_)
            obtain ⟨hT1, hF1, hqr4956⟩ := hqr4956
            have hF := hF.tr ((hF1.kf hKF).mono (by simp))
            have hT := hT1
            obtain ⟨N4957, h4958, p4959, er4960, b4961, z4962, m4963, f4964, d4965, e4966, n4967, v4968⟩ := hqr4956
            have hm := m4963
            have hm8 := hm.2.2.2.2.2.2.2
            have hbd : B0 ≤ dr := (hT.o26 hdT.1).1
            have hDR := hT.dr hdT d4965
            have hP : va_P D vwCl [(dr, .inl (cs 0, 1383, .inl f4964))] _ := va_P.cons d4965 va_P.nil
            refine lv_goto (tgt := 113) hx hb dX9_load_132 (by decide) ?_
            have hps : PS D cs w _ (p4959) (tl) (er4960) (0) dr bu g (N4957) (h4958) := ⟨hm, f4964, hP 0 _ rfl, e4966, by omega, v4968⟩
            obtain ⟨u4970, hu4970, iu4970, ku4970⟩ := ld_u (er4960)
            have hzs9 := z4962
            have hm9 : 2 * (600 - p4959) + u4970 < 2 * (600 - p) + u := by
              have q9 := hu1 e4937
              by_cases e9 : er4960 = 0
              · have q8 := hzs9 e9; omega
              · have q8 := ku4970 e9; omega
            exact ih4933 (p4959, N4957, h4958, er4960, u4970) _ _ _ (by show 2 * (600 - (p4959)) + (u4970) < 2 * (600 - p) + u; omega) ⟨hps, hu4970, iu4970, hT, hF, hL⟩ (lv_sub hl [0] rfl)
        · refine lv_if_eq (tgt := 135) hx hb dX9_load_117 (by decide) (fun _ => ?_) (fun c9 => absurd (by decide) c9)
          refine lv_aload_n hx hb dX9_load_135 rfl (lv_at hl 0 rfl) ?_
          refine lv_aload_n hx hb dX9_load_136 rfl (lv_at hl 0 rfl) ?_
          obtain ⟨hb4971, e4971, hat4971, hk4971⟩ := hT.o10 hw.1
          obtain ⟨f4971_0, f4971_1, f4971_3, f4971_4, f4971_5, f4971_6, f4971_7, f4971_9, f4971_10, f4971_11, f4971_12, f4971_13, f4971_14, f4971_15, f4971_16, f4971_17, rfl, c4971_2, c4971_3, c4971_4, c4971_12, t4971_1, t4971_8, t4971_9, c4971_sd, t4971_10, t4971_11, t4971_17⟩ := hk4971
          obtain ⟨rfl, rfl, rfl, rfl, rfl, rfl⟩ := hm.at hat4971 c4971_3 (by omega)
          have hm8 := hm.2.2.2.2.2.2.2
          have hP : va_P D vwCl [(w, .inr (9, [.int f4971_0, .ref bu, .int (nI ((κ4898 w).2.2.1)), .int (nI tl), .int (nI p), .int er1, .int f4971_6, .int f4971_7, .ref (κ4898 w).2.2.2, .ref f4971_9, .ref dr, .ref f4971_11, .int (nI f4971_12), .int f4971_13, .int 0, .int f4971_15, .int f4971_16, .ref f4971_17])), (dr, .inl (cs 0, 1383, .inl f4934))] _ := va_P.cons hat4971 hP
          refine va_get (D := D) (ci := 9) (v := .int f4971_6) (C := RX9) (T := TX9) (N := 18) hx hb hts iX9_load_9 hown hN.1 hP 0 rfl rfl 6 (by decide) (hts _ mX9_load_6) (fun _ h9 => h9) rfl dX9_load_137 ?_
          have hB : Bx B0 D _ [(w, .inr (9, [.int f4971_0, .ref bu, .int (nI ((κ4898 w).2.2.1)), .int (nI tl), .int (nI p), .int er1, .int f4971_6, .int f4971_7, .ref (κ4898 w).2.2.2, .ref f4971_9, .ref dr, .ref f4971_11, .int (nI f4971_12), .int f4971_13, .int 0, .int f4971_15, .int f4971_16, .ref f4971_17])), (dr, .inl (cs 0, 1383, .inl f4934))] [] _ _ := Bx.of (fun a => (κ4898 a).1) hL hP (fa_c hb4971 (fa_c hbd fa_n)) (by simp only [List.map_cons, List.map_nil, hw.1, hdT.1]; decide)
          refine b_put (D := D) (ci := 9) (v := .int f4971_6) (ty := .int) (C := RX9) (T := TX9) (N := 18) hx hb hts iX9_load_9 tyX9 tyX9_ok nmX9 hown hN hB 0 rfl rfl 7 (by decide) (hts _ mX9_load_11) (fun _ h9 => h9) rfl (by decide +kernel) rfl rfl (Nat.le_of_ble_eq_true rfl) (.inl rfl) dX9_load_140 (fun H locs hB => ?_)
          have hB : Bx B0 D _ [(w, .inr (9, [.int f4971_0, .ref bu, .int (nI ((κ4898 w).2.2.1)), .int (nI tl), .int (nI p), .int er1, .int f4971_6, .int f4971_6, .ref (κ4898 w).2.2.2, .ref f4971_9, .ref dr, .ref f4971_11, .int (nI f4971_12), .int f4971_13, .int 0, .int f4971_15, .int f4971_16, .ref f4971_17])), (dr, .inl (cs 0, 1383, .inl f4934))] [w] _ _ := hB
          refine lv_aload_n hx hb dX9_load_143 rfl (lv_at hl 0 rfl) ?_
          have hT : WT B0 D cs T κ4898 _ := hT.close hB ⟨⟨0, _, rfl, ok_10 hw.1 ⟨_, _, _, _, _, _, _, _, _, _, _, _, _, _, _, _, rfl, (by omega), (by omega), (by omega), (by omega), hbT, t4971_8, t4971_9, c4971_sd, hdT, t4971_11, t4971_17⟩⟩, trivial⟩
          have hF : Fr B0 [12, 17, 18] κ H0 _ := hF.closeN hB (fa_c (fun h9 => by rw [← (hKF _ h9).2, hw.2]; simp) fa_n)
          have hL : OkL B0 _ := hB.2.2.2.2.2
          have hP : va_P D vwCl [(w, .inr (9, [.int f4971_0, .ref bu, .int (nI ((κ4898 w).2.2.1)), .int (nI tl), .int (nI p), .int er1, .int f4971_6, .int f4971_6, .ref (κ4898 w).2.2.2, .ref f4971_9, .ref dr, .ref f4971_11, .int (nI f4971_12), .int f4971_13, .int 0, .int f4971_15, .int f4971_16, .ref f4971_17])), (dr, .inl (cs 0, 1383, .inl f4934))] _ := hB.1
          have hbu9 := (hm.2.2.2.2.2.2.1).kept (hB.2.2.2.1 _ hm.2.2.2.2.2.2.1.lt (by simp only [List.mem_cons, List.not_mem_nil, or_false, not_or]; exact ne_c hbT.1 hw.1 (by decide)))
          have hm : MF D cs w _ (p) (tl) (er1) (0) dr bu g := ⟨⟨_, hP 0 _ rfl, rfl⟩, ⟨_, hP 0 _ rfl, rfl⟩, ⟨_, hP 0 _ rfl, rfl⟩, ⟨_, hP 0 _ rfl, rfl⟩, ⟨_, hP 0 _ rfl, rfl⟩, ⟨_, hP 0 _ rfl, rfl⟩, hbu9, (by omega), (by omega)⟩
          refine cv_i (As := []) (rest := []) (b := w) ⟨hx, hb, hml, hown, hts⟩ (c_X9_isGood hT (w := w) hw hbT hdT hm) (cwV 0 hts gX9_load_X9_isGood rfl rfl rfl hdX9_isGood_v ⟨Nat.le_of_ble_eq_true rfl, Nat.le_of_ble_eq_true rfl⟩) hN hE hL (rcv10 hN hT hw.1) rfl rfl hl.1 (Nat.le_of_ble_eq_true rfl) dX9_load_144 (Nat.zero_le _) (Nat.zero_le _) (fun r4972 H1 locs hL hqr4972 => ?_)
          obtain ⟨h9, hqr4972⟩ := hqr4972; replace h9 := h9.symm; subst h9
          rcases hqr4972 with ⟨rfl, e4973⟩ | ⟨rfl, e4974⟩
          · exact absurd e4973 e4938
          · refine lv_if_ne (tgt := 155) hx hb dX9_load_147 (by decide) (fun c9 => absurd (by decide) c9) (fun _ => ?_)
            refine lv_aload_n hx hb dX9_load_150 rfl (lv_at hl 0 rfl) ?_
            refine va_get (D := D) (ci := 9) (v := .int er1) (C := RX9) (T := TX9) (N := 18) hx hb hts iX9_load_9 hown hN.1 hP 0 rfl rfl 5 (by decide) (hts _ mX9_load_5) (fun _ h9 => h9) rfl dX9_load_151 ?_
            exact en_i hx hb hr hlocks hL rfl (Nat.zero_le _) (Nat.zero_le _) dX9_load_154 (⟨hF, Or.inr ⟨l4889, g4890, hκ4898 ▸ hT⟩⟩)
      · have hm := m4906
        have hm8 := hm.2.2.2.2.2.2.2
        refine lv_if_ne (tgt := 91) hx hb dX9_load_78 (by decide) (fun _ => ?_) (fun c9 => absurd c9 (by decide))
        refine lv_aload_n hx hb dX9_load_91 rfl (lv_at hl 0 rfl) ?_
        refine lv_iconst (v := 1) hx hb dX9_load_92 (by decide) ?_
        refine lv_bipush (v := 8) hx hb dX9_load_93 (by decide) ?_
        refine cv_i (As := [.int 1, .int 8]) (rest := []) (b := w) ⟨hx, hb, hml, hown, hts⟩ (c_X9_number hT (w := w) hw (x := 1) (y := 8) hbT hdT hm) (cwV 2 hts gX9_load_X9_number rfl rfl rfl hdX9_number_v ⟨Nat.le_of_ble_eq_true rfl, Nat.le_of_ble_eq_true rfl⟩) hN hE hL (rcv10 hN hT hw.1) rfl rfl hl.1 (Nat.le_of_ble_eq_true rfl) dX9_load_95 (Nat.zero_le _) (Nat.zero_le _) (fun r4975 H1 locs hL hqr4975 => ?_)
        obtain ⟨hT1, hF1, hqr4975⟩ := hqr4975
        have hF := hF.tr ((hF1.kf hKF).mono (by simp))
        have hT := hT1
        obtain ⟨p4976, er4977, a4978, z4979, m4980, q4981⟩ := hqr4975
        have hm := m4980
        have hm8 := hm.2.2.2.2.2.2.2
        obtain ⟨n4982, hn4982, rfl⟩ := num_c (lo := 1) (hi := 8) (by decide) (by decide) rfl rfl q4981
        refine lv_istore_n (lv' := [(2, .int (nI n4982)), (0, .ref w), (1, .int (nI tl))]) hx hb dX9_load_98 rfl hl (by decide) rfl (fun ls hl => ?_)
        refine lv_aload_n hx hb dX9_load_99 rfl (lv_at hl 1 rfl) ?_
        obtain ⟨hb4983, e4983, hat4983, hk4983⟩ := hT.o10 hw.1
        obtain ⟨f4983_0, f4983_1, f4983_3, f4983_4, f4983_5, f4983_6, f4983_7, f4983_9, f4983_10, f4983_11, f4983_12, f4983_13, f4983_14, f4983_15, f4983_16, f4983_17, rfl, c4983_2, c4983_3, c4983_4, c4983_12, t4983_1, t4983_8, t4983_9, c4983_sd, t4983_10, t4983_11, t4983_17⟩ := hk4983
        obtain ⟨rfl, rfl, rfl, rfl, rfl, rfl⟩ := hm.at hat4983 c4983_3 (by omega)
        have hm8 := hm.2.2.2.2.2.2.2
        have hP : va_P D vwCl [(w, .inr (9, [.int f4983_0, .ref bu, .int (nI ((κ4898 w).2.2.1)), .int (nI tl), .int (nI p4976), .int er4977, .int f4983_6, .int f4983_7, .ref (κ4898 w).2.2.2, .ref f4983_9, .ref dr, .ref f4983_11, .int (nI f4983_12), .int f4983_13, .int 0, .int f4983_15, .int f4983_16, .ref f4983_17]))] _ := va_P.cons hat4983 va_P.nil
        refine va_get (D := D) (ci := 9) (v := .ref dr) (C := RX9) (T := TX9) (N := 18) hx hb hts iX9_load_9 hown hN.1 hP 0 rfl rfl 10 (by decide) (hts _ mX9_load_10) (fun _ h9 => h9) rfl dX9_load_100 ?_
        refine lv_iload_n hx hb dX9_load_103 rfl (lv_at hl 0 rfl) ?_
        refine cs_v (As := [.ref dr, .int (nI n4982)]) (rest := []) ⟨hx, hb, hml, hown, hts⟩ (c_X9_layPlayers hT (w := dr) hdT (n := n4982) (by first | omega | decide | assumption)) (va_cwS 2 hts gX9_load_X9_layPlayers rfl rfl rfl hdX9_layPlayers_o ⟨Nat.le_of_ble_eq_true rfl, Nat.le_of_ble_eq_true rfl⟩) hN hE hL rfl rfl hl.1 (Nat.le_of_ble_eq_true rfl) dX9_load_104 (Nat.zero_le _) (Nat.zero_le _) (fun H1 locs hL hqr4984 => ?_)
        obtain ⟨hT1, hF1, hqr4984⟩ := hqr4984
        have hP : va_P D vwCl [(w, .inr (9, [.int f4983_0, .ref bu, .int (nI ((κ4898 w).2.2.1)), .int (nI tl), .int (nI p4976), .int er4977, .int f4983_6, .int f4983_7, .ref (κ4898 w).2.2.2, .ref f4983_9, .ref dr, .ref f4983_11, .int (nI f4983_12), .int f4983_13, .int 0, .int f4983_15, .int f4983_16, .ref f4983_17]))] _ := hF1.hP (hP.sub [0] rfl) (fa_c ⟨by rw [hw.1]; decide, by rw [hw.2]; first | decide | (simp; done) | (simp [h15a, h15b, h15c]; done) | (simp; omega)⟩ fa_n)
        have hF := hF.tr ((hF1.kf hKF).mono (by simp))
        have hT := hT1
        obtain ⟨f4985, d4986, e4987⟩ := hqr4984
        have hm := hm.fr hw hbT hF1 (by decide) (by decide)
        have hm8 := hm.2.2.2.2.2.2.2
        have hbd : B0 ≤ dr := (hT.o26 hdT.1).1
        have hDR := hT.dr hdT d4986
        have hP : va_P D vwCl [(dr, .inl (cs 0, 1383, .inl f4985)), (w, .inr (9, [.int f4983_0, .ref bu, .int (nI ((κ4898 w).2.2.1)), .int (nI tl), .int (nI p4976), .int er4977, .int f4983_6, .int f4983_7, .ref (κ4898 w).2.2.2, .ref f4983_9, .ref dr, .ref f4983_11, .int (nI f4983_12), .int f4983_13, .int 0, .int f4983_15, .int f4983_16, .ref f4983_17]))] _ := va_P.cons d4986 hP
        refine lv_aload_n hx hb dX9_load_107 rfl (lv_at hl 1 rfl) ?_
        refine lv_bipush (v := 59) hx hb dX9_load_108 (by decide) ?_
        refine cv_v (As := [.int 59]) (rest := []) (b := w) ⟨hx, hb, hml, hown, hts⟩ (c_X9_expect hT (w := w) hw (x := 59) hbT hdT hm ((by decide))) (cwV 1 hts gX9_load_X9_expect rfl rfl rfl hdX9_expect_v ⟨Nat.le_of_ble_eq_true rfl, Nat.le_of_ble_eq_true rfl⟩) hN hE hL (rcv10 hN hT hw.1) rfl rfl hl.1 (Nat.le_of_ble_eq_true rfl) dX9_load_110 (Nat.zero_le _) (Nat.zero_le _) (fun H1 locs hL hqr4989 => ?_)
        obtain ⟨hT1, hF1, hqr4989⟩ := hqr4989
        have hP : va_P D vwCl [(dr, .inl (cs 0, 1383, .inl f4985))] _ := hF1.hP (hP.sub [0] rfl) (fa_c ⟨by rw [hdT.1]; decide, by rw [hdT.2]; first | decide | (simp; done) | (simp [h15a, h15b, h15c]; done) | (simp; omega)⟩ fa_n)
        have hF := hF.tr ((hF1.kf hKF).mono (by simp))
        have hT := hT1
        obtain ⟨p4990, er4991, a4992, z4993, m4994⟩ := hqr4989
        have hm := m4994
        have hm8 := hm.2.2.2.2.2.2.2
        have hps : PS D cs w _ (p4990) (tl) (er4991) (0) dr bu g (0) (0) := ⟨hm, f4985, hP 0 _ rfl, e4987, by omega, (fun e9 => (fun _ => CV.z _) (z4993 e9))⟩
        obtain ⟨u4995, hu4995, iu4995, ku4995⟩ := ld_u (er4991)
        refine lp_m (α := Nat × Nat × Nat × Int32 × Nat) (nL := 3) (fun a9 => 2 * (600 - a9.1) + a9.2.2.2.2) (fun a9 H9 l9 => (PS D cs w H9 a9.1 tl a9.2.2.2.1 0 dr bu g a9.2.1 a9.2.2.1) ∧ (a9.2.2.2.2 ≤ 1) ∧ (a9.2.2.2.1 = 0 → a9.2.2.2.2 = 1) ∧ (WT B0 D cs T κ4898 H9) ∧ (Fr B0 [12, 17, 18] κ H0 H9) ∧ (OkL B0 l9)) (fun a9 => [(0, .ref w)]) ?_ (p4990, 0, 0, er4991, u4995) _ _ _ ⟨hps, hu4995, iu4995, hT, hF, hL⟩ (lv_sub hl [1] rfl)
        rintro ⟨p, N1, h1, er1, u⟩ H locs ls ih4996 ⟨hps, hu, hu1, hT, hF, hL⟩ hl
        have hl : lv_has ls 3 [(0, .ref w)] := hl
        have hps : PS D cs w H p tl er1 0 dr bu g N1 h1 := hps
        have hu : u ≤ 1 := hu
        have hu1 : er1 = 0 → u = 1 := hu1
        obtain ⟨hm, f4997, hd4997, e4997, n4997, v4997⟩ := hps
        have hm8 := hm.2.2.2.2.2.2.2
        have hbd : B0 ≤ dr := (hT.o26 hdT.1).1
        have hDR := hT.dr hdT hd4997
        have hP : va_P D vwCl [(dr, .inl (cs 0, 1383, .inl f4997))] _ := va_P.cons hd4997 va_P.nil
        refine lv_aload_n hx hb dX9_load_113 rfl (lv_at hl 0 rfl) ?_
        refine cv_i (As := []) (rest := []) (b := w) ⟨hx, hb, hml, hown, hts⟩ (c_X9_isGood hT (w := w) hw hbT hdT hm) (cwV 0 hts gX9_load_X9_isGood rfl rfl rfl hdX9_isGood_v ⟨Nat.le_of_ble_eq_true rfl, Nat.le_of_ble_eq_true rfl⟩) hN hE hL (rcv10 hN hT hw.1) rfl rfl hl.1 (Nat.le_of_ble_eq_true rfl) dX9_load_114 (Nat.zero_le _) (Nat.zero_le _) (fun r4999 H1 locs hL hqr4999 => ?_)
        obtain ⟨h9, hqr4999⟩ := hqr4999; replace h9 := h9.symm; subst h9
        rcases hqr4999 with ⟨rfl, e5000⟩ | ⟨rfl, e5001⟩
        · refine lv_if_eq (tgt := 135) hx hb dX9_load_117 (by decide) (fun c9 => absurd c9 (by decide)) (fun _ => ?_)
          refine lv_aload_n hx hb dX9_load_120 rfl (lv_at hl 0 rfl) ?_
          refine cv_i (As := []) (rest := []) (b := w) ⟨hx, hb, hml, hown, hts⟩ (c_X9_ahead hT (w := w) hw hbT hdT hm) (cwV 0 hts gX9_load_X9_ahead rfl rfl rfl hdX9_ahead_v ⟨Nat.le_of_ble_eq_true rfl, Nat.le_of_ble_eq_true rfl⟩) hN hE hL (rcv10 hN hT hw.1) rfl rfl hl.1 (Nat.le_of_ble_eq_true rfl) dX9_load_121 (Nat.zero_le _) (Nat.zero_le _) (fun r5002 H1 locs hL hqr5002 => ?_)
          obtain ⟨hT1, hF1, hqr5002⟩ := hqr5002
          have hP : va_P D vwCl [(dr, .inl (cs 0, 1383, .inl f4997))] _ := hF1.hP (hP.sub [0] rfl) (fa_c ⟨by rw [hdT.1]; decide, by rw [hdT.2]; first | decide | (simp; done) | (simp [h15a, h15b, h15c]; done) | (simp; omega)⟩ fa_n)
          have hF := hF.tr ((hF1.kf hKF).mono (by simp))
          have hT := hT1
          obtain ⟨p5003, h5004, m5005, n5006, s5007, rfl⟩ := hqr5002
          have hm := m5005
          have hm8 := hm.2.2.2.2.2.2.2
          refine lv_iconst (v := (-1)) hx hb dX9_load_124 (by decide) ?_
          refine lv_icmp_eq (tgt := 135) hx hb dX9_load_125 (by decide) (fun c5008 => ?_) (fun c5008 => ?_)
          · refine lv_aload_n hx hb dX9_load_135 rfl (lv_at hl 0 rfl) ?_
            refine lv_aload_n hx hb dX9_load_136 rfl (lv_at hl 0 rfl) ?_
            obtain ⟨hb5009, e5009, hat5009, hk5009⟩ := hT.o10 hw.1
            obtain ⟨f5009_0, f5009_1, f5009_3, f5009_4, f5009_5, f5009_6, f5009_7, f5009_9, f5009_10, f5009_11, f5009_12, f5009_13, f5009_14, f5009_15, f5009_16, f5009_17, rfl, c5009_2, c5009_3, c5009_4, c5009_12, t5009_1, t5009_8, t5009_9, c5009_sd, t5009_10, t5009_11, t5009_17⟩ := hk5009
            obtain ⟨rfl, rfl, rfl, rfl, rfl, rfl⟩ := hm.at hat5009 c5009_3 (by omega)
            have hm8 := hm.2.2.2.2.2.2.2
            have hP : va_P D vwCl [(w, .inr (9, [.int f5009_0, .ref bu, .int (nI ((κ4898 w).2.2.1)), .int (nI tl), .int (nI p5003), .int er1, .int f5009_6, .int f5009_7, .ref (κ4898 w).2.2.2, .ref f5009_9, .ref dr, .ref f5009_11, .int (nI f5009_12), .int f5009_13, .int 0, .int f5009_15, .int f5009_16, .ref f5009_17])), (dr, .inl (cs 0, 1383, .inl f4997))] _ := va_P.cons hat5009 hP
            refine va_get (D := D) (ci := 9) (v := .int f5009_6) (C := RX9) (T := TX9) (N := 18) hx hb hts iX9_load_9 hown hN.1 hP 0 rfl rfl 6 (by decide) (hts _ mX9_load_6) (fun _ h9 => h9) rfl dX9_load_137 ?_
            have hB : Bx B0 D _ [(w, .inr (9, [.int f5009_0, .ref bu, .int (nI ((κ4898 w).2.2.1)), .int (nI tl), .int (nI p5003), .int er1, .int f5009_6, .int f5009_7, .ref (κ4898 w).2.2.2, .ref f5009_9, .ref dr, .ref f5009_11, .int (nI f5009_12), .int f5009_13, .int 0, .int f5009_15, .int f5009_16, .ref f5009_17])), (dr, .inl (cs 0, 1383, .inl f4997))] [] _ _ := Bx.of (fun a => (κ4898 a).1) hL hP (fa_c hb5009 (fa_c hbd fa_n)) (by simp only [List.map_cons, List.map_nil, hw.1, hdT.1]; decide)
            refine b_put (D := D) (ci := 9) (v := .int f5009_6) (ty := .int) (C := RX9) (T := TX9) (N := 18) hx hb hts iX9_load_9 tyX9 tyX9_ok nmX9 hown hN hB 0 rfl rfl 7 (by decide) (hts _ mX9_load_11) (fun _ h9 => h9) rfl (by decide +kernel) rfl rfl (Nat.le_of_ble_eq_true rfl) (.inl rfl) dX9_load_140 (fun H locs hB => ?_)
            have hB : Bx B0 D _ [(w, .inr (9, [.int f5009_0, .ref bu, .int (nI ((κ4898 w).2.2.1)), .int (nI tl), .int (nI p5003), .int er1, .int f5009_6, .int f5009_6, .ref (κ4898 w).2.2.2, .ref f5009_9, .ref dr, .ref f5009_11, .int (nI f5009_12), .int f5009_13, .int 0, .int f5009_15, .int f5009_16, .ref f5009_17])), (dr, .inl (cs 0, 1383, .inl f4997))] [w] _ _ := hB
            refine lv_aload_n hx hb dX9_load_143 rfl (lv_at hl 0 rfl) ?_
            have hT : WT B0 D cs T κ4898 _ := hT.close hB ⟨⟨0, _, rfl, ok_10 hw.1 ⟨_, _, _, _, _, _, _, _, _, _, _, _, _, _, _, _, rfl, (by omega), (by omega), (by omega), (by omega), hbT, t5009_8, t5009_9, c5009_sd, hdT, t5009_11, t5009_17⟩⟩, trivial⟩
            have hF : Fr B0 [12, 17, 18] κ H0 _ := hF.closeN hB (fa_c (fun h9 => by rw [← (hKF _ h9).2, hw.2]; simp) fa_n)
            have hL : OkL B0 _ := hB.2.2.2.2.2
            have hP : va_P D vwCl [(w, .inr (9, [.int f5009_0, .ref bu, .int (nI ((κ4898 w).2.2.1)), .int (nI tl), .int (nI p5003), .int er1, .int f5009_6, .int f5009_6, .ref (κ4898 w).2.2.2, .ref f5009_9, .ref dr, .ref f5009_11, .int (nI f5009_12), .int f5009_13, .int 0, .int f5009_15, .int f5009_16, .ref f5009_17])), (dr, .inl (cs 0, 1383, .inl f4997))] _ := hB.1
            have hbu9 := (hm.2.2.2.2.2.2.1).kept (hB.2.2.2.1 _ hm.2.2.2.2.2.2.1.lt (by simp only [List.mem_cons, List.not_mem_nil, or_false, not_or]; exact ne_c hbT.1 hw.1 (by decide)))
            have hm : MF D cs w _ (p5003) (tl) (er1) (0) dr bu g := ⟨⟨_, hP 0 _ rfl, rfl⟩, ⟨_, hP 0 _ rfl, rfl⟩, ⟨_, hP 0 _ rfl, rfl⟩, ⟨_, hP 0 _ rfl, rfl⟩, ⟨_, hP 0 _ rfl, rfl⟩, ⟨_, hP 0 _ rfl, rfl⟩, hbu9, (by omega), (by omega)⟩
            refine cv_i (As := []) (rest := []) (b := w) ⟨hx, hb, hml, hown, hts⟩ (c_X9_isGood hT (w := w) hw hbT hdT hm) (cwV 0 hts gX9_load_X9_isGood rfl rfl rfl hdX9_isGood_v ⟨Nat.le_of_ble_eq_true rfl, Nat.le_of_ble_eq_true rfl⟩) hN hE hL (rcv10 hN hT hw.1) rfl rfl hl.1 (Nat.le_of_ble_eq_true rfl) dX9_load_144 (Nat.zero_le _) (Nat.zero_le _) (fun r5010 H1 locs hL hqr5010 => ?_)
            obtain ⟨h9, hqr5010⟩ := hqr5010; replace h9 := h9.symm; subst h9
            rcases hqr5010 with ⟨rfl, e5011⟩ | ⟨rfl, e5012⟩
            · refine lv_if_ne (tgt := 155) hx hb dX9_load_147 (by decide) (fun _ => ?_) (fun c9 => absurd c9 (by decide))
              refine lv_aload_n hx hb dX9_load_155 rfl (lv_at hl 0 rfl) ?_
              refine cv_v (As := []) (rest := []) (b := w) ⟨hx, hb, hml, hown, hts⟩ (c_X9_remember_dd hT (w := w) hw (hm.2.2.2.2.1)) (cwV 0 hts gX9_load_X9_remember rfl rfl rfl hdX9_remember_v ⟨Nat.le_of_ble_eq_true rfl, Nat.le_of_ble_eq_true rfl⟩) hN hE hL (rcv10 hN hT hw.1) rfl rfl hl.1 (Nat.le_of_ble_eq_true rfl) dX9_load_156 (Nat.zero_le _) (Nat.zero_le _) (fun H1 locs hL hqr5013 => ?_)
              obtain ⟨hT1, hF1, hqr5013⟩ := hqr5013
              have hP : va_P D vwCl [(dr, .inl (cs 0, 1383, .inl f4997))] _ := hF1.hP (hP.sub [1] rfl) (fa_c ⟨by rw [hdT.1]; decide, by rw [hdT.2]; first | decide | (simp; done) | (simp [h15a, h15b, h15c]; done) | (simp; omega)⟩ fa_n)
              have hF := hF.tr ((hF1.kf hKF).mono (by simp))
              have hT := hT1
              have f5014 := hqr5013
              have hfd := f5014
              refine lv_aload_n hx hb dX9_load_159 rfl (lv_at hl 0 rfl) ?_
              obtain ⟨hb5015, e5015, hat5015, hk5015⟩ := hT.o10 hw.1
              obtain ⟨f5015_0, f5015_1, f5015_3, f5015_4, f5015_5, f5015_6, f5015_7, f5015_9, f5015_10, f5015_11, f5015_12, f5015_13, f5015_14, f5015_15, f5015_16, f5015_17, rfl, c5015_2, c5015_3, c5015_4, c5015_12, t5015_1, t5015_8, t5015_9, c5015_sd, t5015_10, t5015_11, t5015_17⟩ := hk5015
              have efi5015 : dr = f5015_10 := (Value.ref.inj (hfd.eq hat5015 rfl (by decide) rfl)).symm
              subst efi5015
              have hP : va_P D vwCl [(w, .inr (9, [.int f5015_0, .ref f5015_1, .int (nI ((κ4898 w).2.2.1)), .int (nI f5015_3), .int (nI f5015_4), .int f5015_5, .int f5015_6, .int f5015_7, .ref (κ4898 w).2.2.2, .ref f5015_9, .ref dr, .ref f5015_11, .int (nI f5015_12), .int f5015_13, .int f5015_14, .int f5015_15, .int f5015_16, .ref f5015_17])), (dr, .inl (cs 0, 1383, .inl f4997))] _ := va_P.cons hat5015 hP
              refine va_get (D := D) (ci := 9) (v := .ref dr) (C := RX9) (T := TX9) (N := 18) hx hb hts iX9_load_9 hown hN.1 hP 0 rfl rfl 10 (by decide) (hts _ mX9_load_10) (fun _ h9 => h9) rfl dX9_load_160 ?_
              refine lv_aload_n hx hb dX9_load_163 rfl (lv_at hl 0 rfl) ?_
              refine va_get (D := D) (ci := 9) (v := .ref (κ4898 w).2.2.2) (C := RX9) (T := TX9) (N := 18) hx hb hts iX9_load_9 hown hN.1 hP 0 rfl rfl 8 (by decide) (hts _ mX9_load_12) (fun _ h9 => h9) rfl dX9_load_164 ?_
              refine cs_v (As := [.ref dr, .ref (κ4898 w).2.2.2]) (rest := []) ⟨hx, hb, hml, hown, hts⟩ (c_X9_copyR hT (a := dr) t5015_10 (b := (κ4898 w).2.2.2) t5015_8 (n := N1) (h := h1) (hP 1 _ rfl) hDR e4997 (by omega) (v4997 e5011)) (va_cwS 2 hts gX9_load_X9_copy rfl rfl rfl hdX9_copy_o ⟨Nat.le_of_ble_eq_true rfl, Nat.le_of_ble_eq_true rfl⟩) hN hE hL rfl rfl hl.1 (Nat.le_of_ble_eq_true rfl) dX9_load_167 (Nat.zero_le _) (Nat.zero_le _) (fun H1 locs hL hqr5016 => ?_)
              obtain ⟨hT1, hF1⟩ := hqr5016
              have hP : va_P D vwCl [(w, .inr (9, [.int f5015_0, .ref f5015_1, .int (nI ((κ4898 w).2.2.1)), .int (nI f5015_3), .int (nI f5015_4), .int f5015_5, .int f5015_6, .int f5015_7, .ref (κ4898 w).2.2.2, .ref f5015_9, .ref dr, .ref f5015_11, .int (nI f5015_12), .int f5015_13, .int f5015_14, .int f5015_15, .int f5015_16, .ref f5015_17])), (dr, .inl (cs 0, 1383, .inl f4997))] _ := hF1.hP (hP.sub [0, 1] rfl) (fa_c ⟨by rw [hw.1]; decide, by rw [hw.2]; first | decide | (simp; done) | (simp [h15a, h15b, h15c]; done) | (simp; omega)⟩ (fa_c ⟨by rw [hdT.1]; decide, by rw [hdT.2]; first | decide | (simp; done) | (simp [h15a, h15b, h15c]; done) | (simp; omega)⟩ fa_n))
              have hF := hF.tr ((hF1.kf hKF).mono (by simp))
              have hT := hT1
              refine lv_aload_n hx hb dX9_load_170 rfl (lv_at hl 0 rfl) ?_
              refine va_get (D := D) (ci := 9) (v := .ref (κ4898 w).2.2.2) (C := RX9) (T := TX9) (N := 18) hx hb hts iX9_load_9 hown hN.1 hP 0 rfl rfl 8 (by decide) (hts _ mX9_load_12) (fun _ h9 => h9) rfl dX9_load_171 ?_
              refine lv_iconst (v := 0) hx hb dX9_load_174 (by decide) ?_
              obtain ⟨hb5017, e5017, hat5017, hk5017⟩ := hT.o24 t5015_8.1
              obtain ⟨g5017, rfl, q5017⟩ := hk5017
              have hP : va_P D vwCl [((κ4898 w).2.2.2, .inl (cs 0, 45783, .inl g5017)), (w, .inr (9, [.int f5015_0, .ref f5015_1, .int (nI ((κ4898 w).2.2.1)), .int (nI f5015_3), .int (nI f5015_4), .int f5015_5, .int f5015_6, .int f5015_7, .ref (κ4898 w).2.2.2, .ref f5015_9, .ref dr, .ref f5015_11, .int (nI f5015_12), .int f5015_13, .int f5015_14, .int f5015_15, .int f5015_16, .ref f5015_17])), (dr, .inl (cs 0, 1383, .inl f4997))] _ := va_P.cons hat5017 hP
              refine ld_i (v := (g5017 0)) hx hb hN hP 0 rfl (vp_in_nI (n := 0) (N := 45783) (by omega) (by omega)) (by rw [(show (0 : Int32).toNatClampNeg = 0 from nI_clamp (n := 0) (by omega))]) dX9_load_175 ?_
              obtain ⟨n5018, hn5018, en5018⟩ := q5017.1
              refine tp_i (nI n5018) en5018 ?_
              exact en_i hx hb hr hlocks hL rfl (Nat.zero_le _) (Nat.zero_le _) dX9_load_176 (⟨hF, Or.inr ⟨l4889, g4890, hκ4898 ▸ hT⟩⟩)
            · exact absurd e5000 e5012
          · refine lv_aload_n hx hb dX9_load_128 rfl (lv_at hl 0 rfl) ?_
            have hps : PS D cs w _ (p5003) (tl) (er1) (0) dr bu g (N1) (h1) := ⟨hm, f4997, hP 0 _ rfl, e4997, by omega, v4997⟩
            refine cv_v (As := []) (rest := []) (b := w) ⟨hx, hb, hml, hown, hts⟩ (c_X9_statement hT (w := w) hw hbT hdT hps) (cwV 0 hts gX9_load_X9_statement rfl rfl rfl hdX9_statement_v ⟨Nat.le_of_ble_eq_true rfl, Nat.le_of_ble_eq_true rfl⟩) hN hE hL (rcv10 hN hT hw.1) rfl rfl hl.1 (Nat.le_of_ble_eq_true rfl) dX9_load_129 (Nat.zero_le _) (Nat.zero_le _) (fun H1 locs hL hqr5019 => ?_)
            obtain ⟨hT1, hF1, hqr5019⟩ := hqr5019
            have hF := hF.tr ((hF1.kf hKF).mono (by simp))
            have hT := hT1
            obtain ⟨N5020, h5021, p5022, er5023, b5024, z5025, m5026, f5027, d5028, e5029, n5030, v5031⟩ := hqr5019
            have hm := m5026
            have hm8 := hm.2.2.2.2.2.2.2
            have hbd : B0 ≤ dr := (hT.o26 hdT.1).1
            have hDR := hT.dr hdT d5028
            have hP : va_P D vwCl [(dr, .inl (cs 0, 1383, .inl f5027))] _ := va_P.cons d5028 va_P.nil
            refine lv_goto (tgt := 113) hx hb dX9_load_132 (by decide) ?_
            have hps : PS D cs w _ (p5022) (tl) (er5023) (0) dr bu g (N5020) (h5021) := ⟨hm, f5027, hP 0 _ rfl, e5029, by omega, v5031⟩
            obtain ⟨u5033, hu5033, iu5033, ku5033⟩ := ld_u (er5023)
            have hzs9 := z5025
            have hm9 : 2 * (600 - p5022) + u5033 < 2 * (600 - p) + u := by
              have q9 := hu1 e5000
              by_cases e9 : er5023 = 0
              · have q8 := hzs9 e9; omega
              · have q8 := ku5033 e9; omega
            exact ih4996 (p5022, N5020, h5021, er5023, u5033) _ _ _ (by show 2 * (600 - (p5022)) + (u5033) < 2 * (600 - p) + u; omega) ⟨hps, hu5033, iu5033, hT, hF, hL⟩ (lv_sub hl [0] rfl)
        · refine lv_if_eq (tgt := 135) hx hb dX9_load_117 (by decide) (fun _ => ?_) (fun c9 => absurd (by decide) c9)
          refine lv_aload_n hx hb dX9_load_135 rfl (lv_at hl 0 rfl) ?_
          refine lv_aload_n hx hb dX9_load_136 rfl (lv_at hl 0 rfl) ?_
          obtain ⟨hb5034, e5034, hat5034, hk5034⟩ := hT.o10 hw.1
          obtain ⟨f5034_0, f5034_1, f5034_3, f5034_4, f5034_5, f5034_6, f5034_7, f5034_9, f5034_10, f5034_11, f5034_12, f5034_13, f5034_14, f5034_15, f5034_16, f5034_17, rfl, c5034_2, c5034_3, c5034_4, c5034_12, t5034_1, t5034_8, t5034_9, c5034_sd, t5034_10, t5034_11, t5034_17⟩ := hk5034
          obtain ⟨rfl, rfl, rfl, rfl, rfl, rfl⟩ := hm.at hat5034 c5034_3 (by omega)
          have hm8 := hm.2.2.2.2.2.2.2
          have hP : va_P D vwCl [(w, .inr (9, [.int f5034_0, .ref bu, .int (nI ((κ4898 w).2.2.1)), .int (nI tl), .int (nI p), .int er1, .int f5034_6, .int f5034_7, .ref (κ4898 w).2.2.2, .ref f5034_9, .ref dr, .ref f5034_11, .int (nI f5034_12), .int f5034_13, .int 0, .int f5034_15, .int f5034_16, .ref f5034_17])), (dr, .inl (cs 0, 1383, .inl f4997))] _ := va_P.cons hat5034 hP
          refine va_get (D := D) (ci := 9) (v := .int f5034_6) (C := RX9) (T := TX9) (N := 18) hx hb hts iX9_load_9 hown hN.1 hP 0 rfl rfl 6 (by decide) (hts _ mX9_load_6) (fun _ h9 => h9) rfl dX9_load_137 ?_
          have hB : Bx B0 D _ [(w, .inr (9, [.int f5034_0, .ref bu, .int (nI ((κ4898 w).2.2.1)), .int (nI tl), .int (nI p), .int er1, .int f5034_6, .int f5034_7, .ref (κ4898 w).2.2.2, .ref f5034_9, .ref dr, .ref f5034_11, .int (nI f5034_12), .int f5034_13, .int 0, .int f5034_15, .int f5034_16, .ref f5034_17])), (dr, .inl (cs 0, 1383, .inl f4997))] [] _ _ := Bx.of (fun a => (κ4898 a).1) hL hP (fa_c hb5034 (fa_c hbd fa_n)) (by simp only [List.map_cons, List.map_nil, hw.1, hdT.1]; decide)
          refine b_put (D := D) (ci := 9) (v := .int f5034_6) (ty := .int) (C := RX9) (T := TX9) (N := 18) hx hb hts iX9_load_9 tyX9 tyX9_ok nmX9 hown hN hB 0 rfl rfl 7 (by decide) (hts _ mX9_load_11) (fun _ h9 => h9) rfl (by decide +kernel) rfl rfl (Nat.le_of_ble_eq_true rfl) (.inl rfl) dX9_load_140 (fun H locs hB => ?_)
          have hB : Bx B0 D _ [(w, .inr (9, [.int f5034_0, .ref bu, .int (nI ((κ4898 w).2.2.1)), .int (nI tl), .int (nI p), .int er1, .int f5034_6, .int f5034_6, .ref (κ4898 w).2.2.2, .ref f5034_9, .ref dr, .ref f5034_11, .int (nI f5034_12), .int f5034_13, .int 0, .int f5034_15, .int f5034_16, .ref f5034_17])), (dr, .inl (cs 0, 1383, .inl f4997))] [w] _ _ := hB
          refine lv_aload_n hx hb dX9_load_143 rfl (lv_at hl 0 rfl) ?_
          have hT : WT B0 D cs T κ4898 _ := hT.close hB ⟨⟨0, _, rfl, ok_10 hw.1 ⟨_, _, _, _, _, _, _, _, _, _, _, _, _, _, _, _, rfl, (by omega), (by omega), (by omega), (by omega), hbT, t5034_8, t5034_9, c5034_sd, hdT, t5034_11, t5034_17⟩⟩, trivial⟩
          have hF : Fr B0 [12, 17, 18] κ H0 _ := hF.closeN hB (fa_c (fun h9 => by rw [← (hKF _ h9).2, hw.2]; simp) fa_n)
          have hL : OkL B0 _ := hB.2.2.2.2.2
          have hP : va_P D vwCl [(w, .inr (9, [.int f5034_0, .ref bu, .int (nI ((κ4898 w).2.2.1)), .int (nI tl), .int (nI p), .int er1, .int f5034_6, .int f5034_6, .ref (κ4898 w).2.2.2, .ref f5034_9, .ref dr, .ref f5034_11, .int (nI f5034_12), .int f5034_13, .int 0, .int f5034_15, .int f5034_16, .ref f5034_17])), (dr, .inl (cs 0, 1383, .inl f4997))] _ := hB.1
          have hbu9 := (hm.2.2.2.2.2.2.1).kept (hB.2.2.2.1 _ hm.2.2.2.2.2.2.1.lt (by simp only [List.mem_cons, List.not_mem_nil, or_false, not_or]; exact ne_c hbT.1 hw.1 (by decide)))
          have hm : MF D cs w _ (p) (tl) (er1) (0) dr bu g := ⟨⟨_, hP 0 _ rfl, rfl⟩, ⟨_, hP 0 _ rfl, rfl⟩, ⟨_, hP 0 _ rfl, rfl⟩, ⟨_, hP 0 _ rfl, rfl⟩, ⟨_, hP 0 _ rfl, rfl⟩, ⟨_, hP 0 _ rfl, rfl⟩, hbu9, (by omega), (by omega)⟩
          refine cv_i (As := []) (rest := []) (b := w) ⟨hx, hb, hml, hown, hts⟩ (c_X9_isGood hT (w := w) hw hbT hdT hm) (cwV 0 hts gX9_load_X9_isGood rfl rfl rfl hdX9_isGood_v ⟨Nat.le_of_ble_eq_true rfl, Nat.le_of_ble_eq_true rfl⟩) hN hE hL (rcv10 hN hT hw.1) rfl rfl hl.1 (Nat.le_of_ble_eq_true rfl) dX9_load_144 (Nat.zero_le _) (Nat.zero_le _) (fun r5035 H1 locs hL hqr5035 => ?_)
          obtain ⟨h9, hqr5035⟩ := hqr5035; replace h9 := h9.symm; subst h9
          rcases hqr5035 with ⟨rfl, e5036⟩ | ⟨rfl, e5037⟩
          · exact absurd e5036 e5001
          · refine lv_if_ne (tgt := 155) hx hb dX9_load_147 (by decide) (fun c9 => absurd (by decide) c9) (fun _ => ?_)
            refine lv_aload_n hx hb dX9_load_150 rfl (lv_at hl 0 rfl) ?_
            refine va_get (D := D) (ci := 9) (v := .int er1) (C := RX9) (T := TX9) (N := 18) hx hb hts iX9_load_9 hown hN.1 hP 0 rfl rfl 5 (by decide) (hts _ mX9_load_5) (fun _ h9 => h9) rfl dX9_load_151 ?_
            exact en_i hx hb hr hlocks hL rfl (Nat.zero_le _) (Nat.zero_le _) dX9_load_154 (⟨hF, Or.inr ⟨l4889, g4890, hκ4898 ▸ hT⟩⟩)
