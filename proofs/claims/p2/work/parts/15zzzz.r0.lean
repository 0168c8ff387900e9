theorem MF.fr {B0 : Nat} {D : va_G} {cs : Nat → ClassId} {κ : KM} {w : Nat} {H H1 : Heap} {pos tl : Nat} {er ns : Int32} {dr bu : Nat} {g : Nat → Int32} {S : List Nat} (h : MF D cs w H pos tl er ns dr bu g) (hw : T2 κ w 10 12) (hb : T2 κ bu 23 14) (hF : Fr B0 S κ H H1) (h1 : 12 ∉ S) (h2 : 14 ∉ S) : MF D cs w H1 pos tl er ns dr bu g := by
  obtain ⟨a1, a2, a3, a4, a5, a6, a7, a8, a9⟩ := h
  have k : ∀ {i : Nat} {v : Value}, FI D w 9 i v H → FI D w 9 i v H1 := fun ⟨fs, e1, e2⟩ => ⟨fs, e1.kept (hF.2 w e1.lt (Or.inr ⟨by rw [hw.1]; decide, by rw [hw.2]; exact h1⟩)), e2⟩
  exact ⟨k a1, k a2, k a3, k a4, k a5, k a6, a7.kept (hF.2 bu a7.lt (Or.inr ⟨by rw [hb.1]; decide, by rw [hb.2]; exact h2⟩)), a8, a9⟩
theorem ld_u (er : Int32) : ∃ u : Nat, u ≤ 1 ∧ (er = 0 → u = 1) ∧ (¬ er = 0 → u = 0) := by
  by_cases e : er = 0
  · exact ⟨1, Nat.le_refl _, fun _ => rfl, fun h => absurd e h⟩
  · exact ⟨0, by omega, fun h => absurd h e, fun _ => rfl⟩

set_option maxHeartbeats 4000000 in
set_option maxRecDepth 100000 in
theorem c_X9_fails_dz {l : Launch} {D : va_G} {cs : Nat → ClassId} {B0 T : Nat} {κ : KM} {H0 : Heap} (hT : WT B0 D cs T κ H0) {w : Nat} (hw : T2 κ w 10 12) {x z : Int32} (hz : ¬ z = 0) (hz0 : FI D w 9 0 (.int (nI 0)) H0) : KC l yX9_fails wsX9_fails 0 0 0 0 D cs B0 H0 [.ref w, .int x, .int z] (Qi (fun r H => WT B0 D cs T κ H ∧ Fr B0 [12] κ H0 H ∧ ((r = 1 ∧ ¬ x = 0) ∨ (r = 0 ∧ x = 0)))) := by
  refine KC.of cX9_fails 3 (some .boolean) (by decide) rfl (Nat.le_of_ble_eq_true rfl) ?_
  intro p e s m below meth c ls hx hb hr hml hown hts hlocks hin hN hE hH0 hl
  have hown : s.vm.findClass RX9 = some m.cls := hown
  have hl : lv_has ls 3 [(0, .ref w), (1, .int x), (2, .int z)] := hl
  have hL : OkL B0 [] := OkL.nil
  have hF : Fr B0 [12] κ H0 H0 := Fr.rf
  refine lv_iload_n hx hb dX9_fails_0 rfl (lv_at hl 1 rfl) ?_
  refine lv_if_eq (tgt := 16) hx hb dX9_fails_1 (by decide) (fun c4866 => ?_) (fun c4866 => ?_)
  · refine lv_aload_n hx hb dX9_fails_16 rfl (lv_at hl 0 rfl) ?_
    obtain ⟨hb4867, e4867, hat4867, hk4867⟩ := hT.o10 hw.1
    obtain ⟨f4867_0, f4867_1, f4867_3, f4867_4, f4867_5, f4867_6, f4867_7, f4867_9, f4867_10, f4867_11, f4867_12, f4867_13, f4867_14, f4867_15, f4867_16, f4867_17, rfl, c4867_2, c4867_3, c4867_4, c4867_12, t4867_1, t4867_8, t4867_9, c4867_sd, t4867_10, t4867_11, t4867_17⟩ := hk4867
    obtain rfl : f4867_0 = nI 0 := Value.int.inj (hz0.eq hat4867 rfl (by decide) rfl)
    have hP : va_P D vwCl [(w, .inr (9, [.int (nI 0), .ref f4867_1, .int (nI ((κ w).2.2.1)), .int (nI f4867_3), .int (nI f4867_4), .int f4867_5, .int f4867_6, .int f4867_7, .ref (κ w).2.2.2, .ref f4867_9, .ref f4867_10, .ref f4867_11, .int (nI f4867_12), .int f4867_13, .int f4867_14, .int f4867_15, .int f4867_16, .ref f4867_17]))] _ := va_P.cons hat4867 va_P.nil
    refine va_get (D := D) (ci := 9) (v := .int (nI 0)) (C := RX9) (T := TX9) (N := 18) hx hb hts iX9_fails_9 hown hN.1 hP 0 rfl rfl 0 (by decide) (hts _ mX9_fails_1) (fun _ h9 => h9) rfl dX9_fails_17 ?_
    refine lv_if_eq (tgt := 27) hx hb dX9_fails_20 (by decide) (fun c4868 => ?_) (fun c4868 => ?_)
    · have c4868 : 0 = 0 := (nI_eq (a := 0) (b := 0) (by omega) (by omega)).mp c4868
      refine lv_iconst (v := 0) hx hb dX9_fails_27 (by decide) ?_
      exact en_i hx hb hr hlocks hL rfl (Nat.zero_le _) (Nat.zero_le _) dX9_fails_28 (⟨hT, hF, Or.inr ⟨rfl, c4866⟩⟩)
    · have c4868 : ¬ 0 = 0 := fun h9 => c4868 ((nI_eq (a := 0) (b := 0) (by omega) (by omega)).mpr h9)
      omega
  · refine lv_aload_n hx hb dX9_fails_4 rfl (lv_at hl 0 rfl) ?_
    obtain ⟨hb4869, e4869, hat4869, hk4869⟩ := hT.o10 hw.1
    obtain ⟨f4869_0, f4869_1, f4869_3, f4869_4, f4869_5, f4869_6, f4869_7, f4869_9, f4869_10, f4869_11, f4869_12, f4869_13, f4869_14, f4869_15, f4869_16, f4869_17, rfl, c4869_2, c4869_3, c4869_4, c4869_12, t4869_1, t4869_8, t4869_9, c4869_sd, t4869_10, t4869_11, t4869_17⟩ := hk4869
    obtain rfl : f4869_0 = nI 0 := Value.int.inj (hz0.eq hat4869 rfl (by decide) rfl)
    have hP : va_P D vwCl [(w, .inr (9, [.int (nI 0), .ref f4869_1, .int (nI ((κ w).2.2.1)), .int (nI f4869_3), .int (nI f4869_4), .int f4869_5, .int f4869_6, .int f4869_7, .ref (κ w).2.2.2, .ref f4869_9, .ref f4869_10, .ref f4869_11, .int (nI f4869_12), .int f4869_13, .int f4869_14, .int f4869_15, .int f4869_16, .ref f4869_17]))] _ := va_P.cons hat4869 va_P.nil
    refine va_get (D := D) (ci := 9) (v := .int (nI 0)) (C := RX9) (T := TX9) (N := 18) hx hb hts iX9_fails_9 hown hN.1 hP 0 rfl rfl 0 (by decide) (hts _ mX9_fails_1) (fun _ h9 => h9) rfl dX9_fails_5 ?_
    refine lv_if_ne (tgt := 16) hx hb dX9_fails_8 (by decide) (fun c4870 => ?_) (fun c4870 => ?_)
    · have c4870 : ¬ 0 = 0 := fun h9 => c4870 ((nI_eq (a := 0) (b := 0) (by omega) (by omega)).mpr h9)
      omega
    · have c4870 : 0 = 0 := (nI_eq (a := 0) (b := 0) (by omega) (by omega)).mp c4870
      refine lv_aload_n hx hb dX9_fails_11 rfl (lv_at hl 0 rfl) ?_
      refine lv_iload_n hx hb dX9_fails_12 rfl (lv_at hl 2 rfl) ?_
      have hB : Bx B0 D _ [(w, .inr (9, [.int (nI 0), .ref f4869_1, .int (nI ((κ w).2.2.1)), .int (nI f4869_3), .int (nI f4869_4), .int f4869_5, .int f4869_6, .int f4869_7, .ref (κ w).2.2.2, .ref f4869_9, .ref f4869_10, .ref f4869_11, .int (nI f4869_12), .int f4869_13, .int f4869_14, .int f4869_15, .int f4869_16, .ref f4869_17]))] [] _ _ := Bx.of (fun a => (κ a).1) hL hP (fa_c hb4869 fa_n) (by simp only [List.map_cons, List.map_nil, hw.1]; decide)
      refine b_put (D := D) (ci := 9) (v := .int z) (ty := .int) (C := RX9) (T := TX9) (N := 18) hx hb hts iX9_fails_9 tyX9 tyX9_ok nmX9 hown hN hB 0 rfl rfl 0 (by decide) (hts _ mX9_fails_1) (fun _ h9 => h9) rfl (by decide +kernel) rfl rfl (Nat.le_of_ble_eq_true rfl) (.inl rfl) dX9_fails_13 (fun H locs hB => ?_)
      have hB : Bx B0 D _ [(w, .inr (9, [.int z, .ref f4869_1, .int (nI ((κ w).2.2.1)), .int (nI f4869_3), .int (nI f4869_4), .int f4869_5, .int f4869_6, .int f4869_7, .ref (κ w).2.2.2, .ref f4869_9, .ref f4869_10, .ref f4869_11, .int (nI f4869_12), .int f4869_13, .int f4869_14, .int f4869_15, .int f4869_16, .ref f4869_17]))] [w] _ _ := hB
      refine lv_aload_n hx hb dX9_fails_16 rfl (lv_at hl 0 rfl) ?_
      refine va_get (D := D) (ci := 9) (v := .int z) (C := RX9) (T := TX9) (N := 18) hx hb hts iX9_fails_9 hown hN.1 hB.1 0 rfl rfl 0 (by decide) (hts _ mX9_fails_1) (fun _ h9 => h9) rfl dX9_fails_17 ?_
      refine lv_if_eq (tgt := 27) hx hb dX9_fails_20 (by decide) (fun c4871 => ?_) (fun c4871 => ?_)
      · exact absurd c4871 hz
      · refine lv_iconst (v := 1) hx hb dX9_fails_23 (by decide) ?_
        refine lv_goto (tgt := 28) hx hb dX9_fails_24 (by decide) ?_
        have hT : WT B0 D cs T κ _ := hT.close hB ⟨⟨0, _, rfl, ok_10 hw.1 ⟨_, _, _, _, _, _, _, _, _, _, _, _, _, _, _, _, rfl, (by omega), (by omega), (by omega), (by omega), t4869_1, t4869_8, t4869_9, c4869_sd, t4869_10, t4869_11, t4869_17⟩⟩, trivial⟩
        have hF : Fr B0 [12] κ H0 _ := hF.close hB (fa_c (by simp [hw.2]) fa_n)
        have hL : OkL B0 _ := hB.2.2.2.2.2
        have hP : va_P D vwCl [(w, .inr (9, [.int z, .ref f4869_1, .int (nI ((κ w).2.2.1)), .int (nI f4869_3), .int (nI f4869_4), .int f4869_5, .int f4869_6, .int f4869_7, .ref (κ w).2.2.2, .ref f4869_9, .ref f4869_10, .ref f4869_11, .int (nI f4869_12), .int f4869_13, .int f4869_14, .int f4869_15, .int f4869_16, .ref f4869_17]))] _ := hB.1
        exact en_i hx hb hr hlocks hL rfl (Nat.zero_le _) (Nat.zero_le _) dX9_fails_28 (⟨hT, hF, Or.inl ⟨rfl, c4866⟩⟩)
theorem mX9_load_1 : (.fieldLink RX9 40 "OneBeatModel" "thrown" "I" : Cond) ∈ wsX9_load := List.mem_of_getElem? (i := 1) (by decide +kernel)
theorem iX9_load_9 : ∀ w ∈ wsX90, w ∈ wsX9_load := fun w h => List.mem_of_mem_drop (List.mem_of_mem_take ((show wsX90 = (wsX9_load.drop 161).take 18 by decide +kernel) ▸ h))
theorem mX9_load_2 : (.fieldLink RX9 47 "OneBeatModel" "bufferLength" "I" : Cond) ∈ wsX9_load := List.mem_of_getElem? (i := 2) (by decide +kernel)
theorem mX9_load_3 : (.fieldLink RX9 50 "OneBeatModel" "textLength" "I" : Cond) ∈ wsX9_load := List.mem_of_getElem? (i := 3) (by decide +kernel)
theorem mX9_load_4 : (.fieldLink RX9 53 "OneBeatModel" "position" "I" : Cond) ∈ wsX9_load := List.mem_of_getElem? (i := 4) (by decide +kernel)
theorem mX9_load_5 : (.fieldLink RX9 59 "OneBeatModel" "error" "I" : Cond) ∈ wsX9_load := List.mem_of_getElem? (i := 5) (by decide +kernel)
theorem mX9_load_6 : (.fieldLink RX9 62 "OneBeatModel" "errorAt" "I" : Cond) ∈ wsX9_load := List.mem_of_getElem? (i := 6) (by decide +kernel)
theorem mX9_load_7 : (.fieldLink RX9 102 "OneBeatModel" "nesting" "I" : Cond) ∈ wsX9_load := List.mem_of_getElem? (i := 7) (by decide +kernel)
theorem mX9_load_8 : (.fieldLink RX9 136 "OneBeatModel" "seen" "I" : Cond) ∈ wsX9_load := List.mem_of_getElem? (i := 8) (by decide +kernel)
theorem mX9_load_9 : (.fieldLink RX9 139 "OneBeatModel" "toldClocks" "I" : Cond) ∈ wsX9_load := List.mem_of_getElem? (i := 9) (by decide +kernel)
theorem mX9_load_10 : (.fieldLink RX9 24 "OneBeatModel" "draft" "[I" : Cond) ∈ wsX9_load := List.mem_of_getElem? (i := 10) (by decide +kernel)
theorem hdX9_layPlayers_o : yX9_layPlayers.cls ≠ "java/lang/invoke/MethodHandle" ∧ yX9_layPlayers.cls ≠ "java/lang/invoke/VarHandle" ∧ (parseMethodDescriptor yX9_layPlayers.desc).map (fun d => d.parameters.length) = some 2 := by decide +kernel
theorem mX9_load_11 : (.fieldLink RX9 13 "OneBeatModel" "errorOffset" "I" : Cond) ∈ wsX9_load := List.mem_of_getElem? (i := 11) (by decide +kernel)
theorem mX9_load_12 : (.fieldLink RX9 18 "OneBeatModel" "data" "[I" : Cond) ∈ wsX9_load := List.mem_of_getElem? (i := 12) (by decide +kernel)
theorem hdX9_statement_v : yX9_statement.cls = RX9 ∧ yX9_statement.cls ≠ "java/lang/invoke/MethodHandle" ∧ yX9_statement.cls ≠ "java/lang/invoke/VarHandle" ∧ (parseMethodDescriptor yX9_statement.desc).map (fun d => d.parameters.length) = some 0 := by decide +kernel
set_option maxHeartbeats 4000000 in
set_option maxRecDepth 100000 in
theorem c_X9_load {l : Launch} {D : va_G} {cs : Nat → ClassId} {B0 T : Nat} {κ : KM} {H0 : Heap} (hT : WT B0 D cs T κ H0) {w : Nat} (hw : T2 κ w 10 12) {x : Int32} : KC l yX9_load wsX9_load 21 453 0 0 D cs B0 H0 [.ref w, .int x] (Qi (fun _ H => Fr B0 [12, 17, 18] κ H0 H ∧ (((x < 0 ∨ nI (κ w).2.2.1 < x) ∧ WT B0 D cs T κ H) ∨ (¬ x < 0 ∧ ¬ nI (κ w).2.2.1 < x ∧ WT B0 D cs T (kp κ w 0 (κ w).2.2.2) H)))) := by
  refine KC.of cX9_load 3 (some .int) (by decide) rfl (Nat.le_of_ble_eq_true rfl) ?_
  intro p e s m below meth c ls hx hb hr hml hown hts hlocks hin hN hE hH0 hl
  have hown : s.vm.findClass RX9 = some m.cls := hown
  have hl : lv_has ls 3 [(0, .ref w), (1, .int x)] := hl
  have hL : OkL B0 [] := OkL.nil
  have hF : Fr B0 [12, 17, 18] κ H0 H0 := Fr.rf
  refine lv_aload_n hx hb dX9_load_0 rfl (lv_at hl 0 rfl) ?_
  refine lv_iconst (v := 0) hx hb dX9_load_1 (by decide) ?_
  obtain ⟨hb4872, e4872, hat4872, hk4872⟩ := hT.o10 hw.1
  obtain ⟨f4872_0, f4872_1, f4872_3, f4872_4, f4872_5, f4872_6, f4872_7, f4872_9, f4872_10, f4872_11, f4872_12, f4872_13, f4872_14, f4872_15, f4872_16, f4872_17, rfl, c4872_2, c4872_3, c4872_4, c4872_12, t4872_1, t4872_8, t4872_9, c4872_sd, t4872_10, t4872_11, t4872_17⟩ := hk4872
  have hP : va_P D vwCl [(w, .inr (9, [.int f4872_0, .ref f4872_1, .int (nI ((κ w).2.2.1)), .int (nI f4872_3), .int (nI f4872_4), .int f4872_5, .int f4872_6, .int f4872_7, .ref (κ w).2.2.2, .ref f4872_9, .ref f4872_10, .ref f4872_11, .int (nI f4872_12), .int f4872_13, .int f4872_14, .int f4872_15, .int f4872_16, .ref f4872_17]))] _ := va_P.cons hat4872 va_P.nil
  have hB : Bx B0 D _ [(w, .inr (9, [.int f4872_0, .ref f4872_1, .int (nI ((κ w).2.2.1)), .int (nI f4872_3), .int (nI f4872_4), .int f4872_5, .int f4872_6, .int f4872_7, .ref (κ w).2.2.2, .ref f4872_9, .ref f4872_10, .ref f4872_11, .int (nI f4872_12), .int f4872_13, .int f4872_14, .int f4872_15, .int f4872_16, .ref f4872_17]))] [] _ _ := Bx.of (fun a => (κ a).1) hL hP (fa_c hb4872 fa_n) (by simp only [List.map_cons, List.map_nil, hw.1]; decide)
  refine b_put (D := D) (ci := 9) (v := .int 0) (ty := .int) (C := RX9) (T := TX9) (N := 18) hx hb hts iX9_load_9 tyX9 tyX9_ok nmX9 hown hN hB 0 rfl rfl 0 (by decide) (hts _ mX9_load_1) (fun _ h9 => h9) rfl (by decide +kernel) rfl rfl (Nat.le_of_ble_eq_true rfl) (.inl rfl) dX9_load_2 (fun H locs hB => ?_)
  have hB : Bx B0 D _ [(w, .inr (9, [.int 0, .ref f4872_1, .int (nI ((κ w).2.2.1)), .int (nI f4872_3), .int (nI f4872_4), .int f4872_5, .int f4872_6, .int f4872_7, .ref (κ w).2.2.2, .ref f4872_9, .ref f4872_10, .ref f4872_11, .int (nI f4872_12), .int f4872_13, .int f4872_14, .int f4872_15, .int f4872_16, .ref f4872_17]))] [w] _ _ := hB
  refine lv_aload_n hx hb dX9_load_5 rfl (lv_at hl 0 rfl) ?_
  refine lv_iload_n hx hb dX9_load_6 rfl (lv_at hl 1 rfl) ?_
  refine lv_iconst (v := 0) hx hb dX9_load_7 (by decide) ?_
  refine lv_aload_n hx hb dX9_load_8 rfl (lv_at hl 0 rfl) ?_
  refine va_get (D := D) (ci := 9) (v := .int (nI ((κ w).2.2.1))) (C := RX9) (T := TX9) (N := 18) hx hb hts iX9_load_9 hown hN.1 hB.1 0 rfl rfl 2 (by decide) (hts _ mX9_load_2) (fun _ h9 => h9) rfl dX9_load_9 ?_
  have hT : WT B0 D cs T κ _ := hT.close hB ⟨⟨0, _, rfl, ok_10 hw.1 ⟨_, _, _, _, _, _, _, _, _, _, _, _, _, _, _, _, rfl, (by omega), (by omega), (by omega), (by omega), t4872_1, t4872_8, t4872_9, c4872_sd, t4872_10, t4872_11, t4872_17⟩⟩, trivial⟩
  have hF : Fr B0 [12, 17, 18] κ H0 _ := hF.close hB (fa_c (by simp [hw.2]) fa_n)
  have hL : OkL B0 _ := hB.2.2.2.2.2
  have hP : va_P D vwCl [(w, .inr (9, [.int 0, .ref f4872_1, .int (nI ((κ w).2.2.1)), .int (nI f4872_3), .int (nI f4872_4), .int f4872_5, .int f4872_6, .int f4872_7, .ref (κ w).2.2.2, .ref f4872_9, .ref f4872_10, .ref f4872_11, .int (nI f4872_12), .int f4872_13, .int f4872_14, .int f4872_15, .int f4872_16, .ref f4872_17]))] _ := hB.1
  refine cs_i (As := [.int x, .int 0, .int (nI ((κ w).2.2.1))]) (rest := [.ref w]) ⟨hx, hb, hml, hown, hts⟩ (c_X9_in hT (x := x) (y := 0) (z := (nI ((κ w).2.2.1)))) (va_cwS 3 hts gX9_load_X9_in rfl rfl rfl hdX9_in_o ⟨Nat.le_of_ble_eq_true rfl, Nat.le_of_ble_eq_true rfl⟩) hN hE hL rfl rfl hl.1 (Nat.le_of_ble_eq_true rfl) dX9_load_12 (Nat.zero_le _) (Nat.zero_le _) (fun r4873 H1 locs hL hqr4873 => ?_)
  obtain ⟨h9, hqr4873⟩ := hqr4873; replace h9 := h9.symm; subst h9
  rcases hqr4873 with ⟨rfl, o4874⟩ | ⟨rfl, l4875, g4876⟩
  · refine lv_if_ne (tgt := 22) hx hb dX9_load_15 (by decide) (fun c9 => absurd (by decide) c9) (fun _ => ?_)
    refine lv_iconst (v := 1) hx hb dX9_load_18 (by decide) ?_
    refine lv_goto (tgt := 23) hx hb dX9_load_19 (by decide) ?_
    refine lv_iconst (v := 1) hx hb dX9_load_23 (by decide) ?_
    refine cv_i (As := [.int 1, .int 1]) (rest := []) (b := w) ⟨hx, hb, hml, hown, hts⟩ (c_X9_fails_dz hT (w := w) hw (x := 1) (z := 1) ((by decide)) (⟨_, hP 0 _ rfl, rfl⟩)) (cwV 2 hts gX9_load_X9_fails rfl rfl rfl hdX9_fails_v ⟨Nat.le_of_ble_eq_true rfl, Nat.le_of_ble_eq_true rfl⟩) hN hE hL (rcv10 hN hT hw.1) rfl rfl hl.1 (Nat.le_of_ble_eq_true rfl) dX9_load_24 (Nat.zero_le _) (Nat.zero_le _) (fun r4877 H1 locs hL hqr4877 => ?_)
    obtain ⟨hT1, hF1, hqr4877⟩ := hqr4877
    have hF := hF.tr (hF1.mono (by simp))
    have hT := hT1
    rcases hqr4877 with ⟨rfl, e4878⟩ | ⟨rfl, e4879⟩
    · refine lv_if_eq (tgt := 32) hx hb dX9_load_27 (by decide) (fun c9 => absurd c9 (by decide)) (fun _ => ?_)
      refine lv_iconst (v := 0) hx hb dX9_load_30 (by decide) ?_
      exact en_i hx hb hr hlocks hL rfl (Nat.zero_le _) (Nat.zero_le _) dX9_load_31 (⟨hF, Or.inl ⟨o4874, hT⟩⟩)
    · exact absurd e4879 (by decide)
  · refine lv_if_ne (tgt := 22) hx hb dX9_load_15 (by decide) (fun _ => ?_) (fun c9 => absurd c9 (by decide))
    refine lv_iconst (v := 0) hx hb dX9_load_22 (by decide) ?_
    refine lv_iconst (v := 1) hx hb dX9_load_23 (by decide) ?_
    refine cv_i (As := [.int 0, .int 1]) (rest := []) (b := w) ⟨hx, hb, hml, hown, hts⟩ (c_X9_fails_dz hT (w := w) hw (x := 0) (z := 1) ((by decide)) (⟨_, hP 0 _ rfl, rfl⟩)) (cwV 2 hts gX9_load_X9_fails rfl rfl rfl hdX9_fails_v ⟨Nat.le_of_ble_eq_true rfl, Nat.le_of_ble_eq_true rfl⟩) hN hE hL (rcv10 hN hT hw.1) rfl rfl hl.1 (Nat.le_of_ble_eq_true rfl) dX9_load_24 (Nat.zero_le _) (Nat.zero_le _) (fun r4880 H1 locs hL hqr4880 => ?_)
    obtain ⟨hT1, hF1, hqr4880⟩ := hqr4880
    have hF := hF.tr (hF1.mono (by simp))
    have hT := hT1
    rcases hqr4880 with ⟨rfl, e4881⟩ | ⟨rfl, e4882⟩
    · exact absurd rfl e4881
    · refine lv_if_eq (tgt := 32) hx hb dX9_load_27 (by decide) (fun _ => ?_) (fun c9 => absurd (by decide) c9)
      obtain ⟨tl, -, htl, htl2⟩ := rng (lo := 0) (by decide) (by omega) l4875 g4876
      subst htl2
      have hl : lv_has ls 3 [(0, .ref w), (1, .int (nI tl))] := hl
      refine lv_aload_n hx hb dX9_load_32 rfl (lv_at hl 0 rfl) ?_
      refine lv_iconst (v := 0) hx hb dX9_load_33 (by decide) ?_
      obtain ⟨hb4883, e4883, hat4883, hk4883⟩ := hT.o10 hw.1
      obtain ⟨f4883_0, f4883_1, f4883_3, f4883_4, f4883_5, f4883_6, f4883_7, f4883_9, f4883_10, f4883_11, f4883_12, f4883_13, f4883_14, f4883_15, f4883_16, f4883_17, rfl, c4883_2, c4883_3, c4883_4, c4883_12, t4883_1, t4883_8, t4883_9, c4883_sd, t4883_10, t4883_11, t4883_17⟩ := hk4883
      have hP : va_P D vwCl [(w, .inr (9, [.int f4883_0, .ref f4883_1, .int (nI ((κ w).2.2.1)), .int (nI f4883_3), .int (nI f4883_4), .int f4883_5, .int f4883_6, .int f4883_7, .ref (κ w).2.2.2, .ref f4883_9, .ref f4883_10, .ref f4883_11, .int (nI f4883_12), .int f4883_13, .int f4883_14, .int f4883_15, .int f4883_16, .ref f4883_17]))] _ := va_P.cons hat4883 va_P.nil
      have hB : Bx B0 D _ [(w, .inr (9, [.int f4883_0, .ref f4883_1, .int (nI ((κ w).2.2.1)), .int (nI f4883_3), .int (nI f4883_4), .int f4883_5, .int f4883_6, .int f4883_7, .ref (κ w).2.2.2, .ref f4883_9, .ref f4883_10, .ref f4883_11, .int (nI f4883_12), .int f4883_13, .int f4883_14, .int f4883_15, .int f4883_16, .ref f4883_17]))] [] _ _ := Bx.of (fun a => (κ a).1) hL hP (fa_c hb4883 fa_n) (by simp only [List.map_cons, List.map_nil, hw.1]; decide)
      refine tp_i (nI 0) rfl ?_
      refine b_put (D := D) (ci := 9) (v := .int (nI 0)) (ty := .int) (C := RX9) (T := TX9) (N := 18) hx hb hts iX9_load_9 tyX9 tyX9_ok nmX9 hown hN hB 0 rfl rfl 2 (by decide) (hts _ mX9_load_2) (fun _ h9 => h9) rfl (by decide +kernel) rfl rfl (Nat.le_of_ble_eq_true rfl) (.inl rfl) dX9_load_34 (fun H locs hB => ?_)
      have hB : Bx B0 D _ [(w, .inr (9, [.int f4883_0, .ref f4883_1, .int (nI 0), .int (nI f4883_3), .int (nI f4883_4), .int f4883_5, .int f4883_6, .int f4883_7, .ref (κ w).2.2.2, .ref f4883_9, .ref f4883_10, .ref f4883_11, .int (nI f4883_12), .int f4883_13, .int f4883_14, .int f4883_15, .int f4883_16, .ref f4883_17]))] [w] _ _ := hB
      refine lv_aload_n hx hb dX9_load_37 rfl (lv_at hl 0 rfl) ?_
      refine lv_iload_n hx hb dX9_load_38 rfl (lv_at hl 1 rfl) ?_
      refine b_put (D := D) (ci := 9) (v := .int (nI tl)) (ty := .int) (C := RX9) (T := TX9) (N := 18) hx hb hts iX9_load_9 tyX9 tyX9_ok nmX9 hown hN hB 0 rfl rfl 3 (by decide) (hts _ mX9_load_3) (fun _ h9 => h9) rfl (by decide +kernel) rfl rfl (Nat.le_of_ble_eq_true rfl) (.inr ⟨rfl, List.mem_of_getElem? (i := 0) rfl⟩) dX9_load_39 (fun H locs hB => ?_)
      have hB : Bx B0 D _ [(w, .inr (9, [.int f4883_0, .ref f4883_1, .int (nI 0), .int (nI tl), .int (nI f4883_4), .int f4883_5, .int f4883_6, .int f4883_7, .ref (κ w).2.2.2, .ref f4883_9, .ref f4883_10, .ref f4883_11, .int (nI f4883_12), .int f4883_13, .int f4883_14, .int f4883_15, .int f4883_16, .ref f4883_17]))] [w] _ _ := hB
      refine lv_aload_n hx hb dX9_load_42 rfl (lv_at hl 0 rfl) ?_
      refine lv_iconst (v := 0) hx hb dX9_load_43 (by decide) ?_
      refine tp_i (nI 0) rfl ?_
      refine b_put (D := D) (ci := 9) (v := .int (nI 0)) (ty := .int) (C := RX9) (T := TX9) (N := 18) hx hb hts iX9_load_9 tyX9 tyX9_ok nmX9 hown hN hB 0 rfl rfl 4 (by decide) (hts _ mX9_load_4) (fun _ h9 => h9) rfl (by decide +kernel) rfl rfl (Nat.le_of_ble_eq_true rfl) (.inr ⟨rfl, List.mem_of_getElem? (i := 0) rfl⟩) dX9_load_44 (fun H locs hB => ?_)
      have hB : Bx B0 D _ [(w, .inr (9, [.int f4883_0, .ref f4883_1, .int (nI 0), .int (nI tl), .int (nI 0), .int f4883_5, .int f4883_6, .int f4883_7, .ref (κ w).2.2.2, .ref f4883_9, .ref f4883_10, .ref f4883_11, .int (nI f4883_12), .int f4883_13, .int f4883_14, .int f4883_15, .int f4883_16, .ref f4883_17]))] [w] _ _ := hB
      refine lv_aload_n hx hb dX9_load_47 rfl (lv_at hl 0 rfl) ?_
      refine lv_iconst (v := 0) hx hb dX9_load_48 (by decide) ?_
      refine b_put (D := D) (ci := 9) (v := .int 0) (ty := .int) (C := RX9) (T := TX9) (N := 18) hx hb hts iX9_load_9 tyX9 tyX9_ok nmX9 hown hN hB 0 rfl rfl 5 (by decide) (hts _ mX9_load_5) (fun _ h9 => h9) rfl (by decide +kernel) rfl rfl (Nat.le_of_ble_eq_true rfl) (.inr ⟨rfl, List.mem_of_getElem? (i := 0) rfl⟩) dX9_load_49 (fun H locs hB => ?_)
      have hB : Bx B0 D _ [(w, .inr (9, [.int f4883_0, .ref f4883_1, .int (nI 0), .int (nI tl), .int (nI 0), .int 0, .int f4883_6, .int f4883_7, .ref (κ w).2.2.2, .ref f4883_9, .ref f4883_10, .ref f4883_11, .int (nI f4883_12), .int f4883_13, .int f4883_14, .int f4883_15, .int f4883_16, .ref f4883_17]))] [w] _ _ := hB
      refine lv_aload_n hx hb dX9_load_52 rfl (lv_at hl 0 rfl) ?_
      refine lv_iconst (v := (-1)) hx hb dX9_load_53 (by decide) ?_
      refine b_put (D := D) (ci := 9) (v := .int (-1)) (ty := .int) (C := RX9) (T := TX9) (N := 18) hx hb hts iX9_load_9 tyX9 tyX9_ok nmX9 hown hN hB 0 rfl rfl 6 (by decide) (hts _ mX9_load_6) (fun _ h9 => h9) rfl (by decide +kernel) rfl rfl (Nat.le_of_ble_eq_true rfl) (.inr ⟨rfl, List.mem_of_getElem? (i := 0) rfl⟩) dX9_load_54 (fun H locs hB => ?_)
      have hB : Bx B0 D _ [(w, .inr (9, [.int f4883_0, .ref f4883_1, .int (nI 0), .int (nI tl), .int (nI 0), .int 0, .int (-1), .int f4883_7, .ref (κ w).2.2.2, .ref f4883_9, .ref f4883_10, .ref f4883_11, .int (nI f4883_12), .int f4883_13, .int f4883_14, .int f4883_15, .int f4883_16, .ref f4883_17]))] [w] _ _ := hB
      refine lv_aload_n hx hb dX9_load_57 rfl (lv_at hl 0 rfl) ?_
      refine lv_iconst (v := 0) hx hb dX9_load_58 (by decide) ?_
      refine b_put (D := D) (ci := 9) (v := .int 0) (ty := .int) (C := RX9) (T := TX9) (N := 18) hx hb hts iX9_load_9 tyX9 tyX9_ok nmX9 hown hN hB 0 rfl rfl 14 (by decide) (hts _ mX9_load_7) (fun _ h9 => h9) rfl (by decide +kernel) rfl rfl (Nat.le_of_ble_eq_true rfl) (.inr ⟨rfl, List.mem_of_getElem? (i := 0) rfl⟩) dX9_load_59 (fun H locs hB => ?_)
      have hB : Bx B0 D _ [(w, .inr (9, [.int f4883_0, .ref f4883_1, .int (nI 0), .int (nI tl), .int (nI 0), .int 0, .int (-1), .int f4883_7, .ref (κ w).2.2.2, .ref f4883_9, .ref f4883_10, .ref f4883_11, .int (nI f4883_12), .int f4883_13, .int 0, .int f4883_15, .int f4883_16, .ref f4883_17]))] [w] _ _ := hB
      refine lv_aload_n hx hb dX9_load_62 rfl (lv_at hl 0 rfl) ?_
      refine lv_iconst (v := 0) hx hb dX9_load_63 (by decide) ?_
      refine b_put (D := D) (ci := 9) (v := .int 0) (ty := .int) (C := RX9) (T := TX9) (N := 18) hx hb hts iX9_load_9 tyX9 tyX9_ok nmX9 hown hN hB 0 rfl rfl 15 (by decide) (hts _ mX9_load_8) (fun _ h9 => h9) rfl (by decide +kernel) rfl rfl (Nat.le_of_ble_eq_true rfl) (.inr ⟨rfl, List.mem_of_getElem? (i := 0) rfl⟩) dX9_load_64 (fun H locs hB => ?_)
      have hB : Bx B0 D _ [(w, .inr (9, [.int f4883_0, .ref f4883_1, .int (nI 0), .int (nI tl), .int (nI 0), .int 0, .int (-1), .int f4883_7, .ref (κ w).2.2.2, .ref f4883_9, .ref f4883_10, .ref f4883_11, .int (nI f4883_12), .int f4883_13, .int 0, .int 0, .int f4883_16, .ref f4883_17]))] [w] _ _ := hB
      refine lv_aload_n hx hb dX9_load_67 rfl (lv_at hl 0 rfl) ?_
      refine lv_iconst (v := 0) hx hb dX9_load_68 (by decide) ?_
      refine b_put (D := D) (ci := 9) (v := .int 0) (ty := .int) (C := RX9) (T := TX9) (N := 18) hx hb hts iX9_load_9 tyX9 tyX9_ok nmX9 hown hN hB 0 rfl rfl 16 (by decide) (hts _ mX9_load_9) (fun _ h9 => h9) rfl (by decide +kernel) rfl rfl (Nat.le_of_ble_eq_true rfl) (.inr ⟨rfl, List.mem_of_getElem? (i := 0) rfl⟩) dX9_load_69 (fun H locs hB => ?_)
      have hB : Bx B0 D _ [(w, .inr (9, [.int f4883_0, .ref f4883_1, .int (nI 0), .int (nI tl), .int (nI 0), .int 0, .int (-1), .int f4883_7, .ref (κ w).2.2.2, .ref f4883_9, .ref f4883_10, .ref f4883_11, .int (nI f4883_12), .int f4883_13, .int 0, .int 0, .int 0, .ref f4883_17]))] [w] _ _ := hB
      have hF : Fr B0 [12, 17, 18] κ H0 _ := hF.close hB (fa_c (by simp [hw.2]) fa_n)
      have hT : WT B0 D cs T (kp κ w 0 (κ w).2.2.2) _ := hT.closeK w 0 (κ w).2.2.2 hB (by rw [hw.1]; decide) (by rw [hw.1]; decide) (List.mem_of_getElem? (i := 0) rfl) ⟨⟨0, _, rfl, kp_ok (ok_10 (k := ((κ w).1, (κ w).2.1, _, _)) hw.1 ⟨_, _, _, _, _, _, _, _, _, _, _, _, _, _, _, _, rfl, (by show 0 ≤ 600; omega), (by omega), (by omega), (by omega), (t2kp t4883_1), (t2kp t4883_8), (t2kp t4883_9), (by rw [kp_n (ne_c t4883_9.1 hw.1 (by decide))]; exact c4883_sd), (t2kp t4883_10), (t2kp t4883_11), (t2kp t4883_17)⟩)⟩, trivial⟩
      have hL : OkL B0 _ := hB.2.2.2.2.2
      have hP : va_P D vwCl [(w, .inr (9, [.int f4883_0, .ref f4883_1, .int (nI 0), .int (nI tl), .int (nI 0), .int 0, .int (-1), .int f4883_7, .ref (κ w).2.2.2, .ref f4883_9, .ref f4883_10, .ref f4883_11, .int (nI f4883_12), .int f4883_13, .int 0, .int 0, .int 0, .ref f4883_17]))] _ := hB.1
      obtain ⟨κ4884, hκ4884⟩ : ∃ κ9 : KM, κ9 = (kp κ w 0 (κ w).2.2.2) := ⟨_, rfl⟩
      have hxf4884 : KF κ κ4884 := by rw [hκ4884]; exact KF.kp
      rw [← hκ4884] at hT
      have hKF : KF κ κ4884 := hxf4884
      have hw := (KF.t2 hxf4884 hw (by decide))
      have hbT : T2 κ4884 f4883_1 23 14 := KF.t2 hxf4884 t4883_1 (by decide)
      have hdT : T2 κ4884 f4883_10 26 17 := KF.t2 hxf4884 t4883_10 (by decide)
      obtain ⟨-, e9, hat9, g, rfl⟩ := hT.o23 hbT.1
      have hm : MF D cs w _ 0 tl 0 0 f4883_10 f4883_1 g := ⟨⟨_, hP 0 _ rfl, rfl⟩, ⟨_, hP 0 _ rfl, rfl⟩, ⟨_, hP 0 _ rfl, rfl⟩, ⟨_, hP 0 _ rfl, rfl⟩, ⟨_, hP 0 _ rfl, rfl⟩, ⟨_, hP 0 _ rfl, rfl⟩, hat9, (by omega), (by omega)⟩
      obtain ⟨dr, hdr9⟩ : ∃ q9 : Nat, f4883_10 = q9 := ⟨_, rfl⟩
      rw [hdr9] at hm hdT
      obtain ⟨bu, hbu9⟩ : ∃ q9 : Nat, f4883_1 = q9 := ⟨_, rfl⟩
      rw [hbu9] at hm hbT
      have hm8 := hm.2.2.2.2.2.2.2
      refine lv_aload_n hx hb dX9_load_72 rfl (lv_at hl 0 rfl) ?_
      refine va_ldcS hx hb hown (hN.s 19 rfl) dX9_load_73 ?_
      refine cv_i (As := [.ref (cs 119)]) (rest := []) (b := w) ⟨hx, hb, hml, hown, hts⟩ (c_X9_takeWord hT (w := w) hw (i := 19) (by decide) hbT hdT hm) (cwV 1 hts gX9_load_X9_takeWord rfl rfl rfl hdX9_takeWord_v ⟨Nat.le_of_ble_eq_true rfl, Nat.le_of_ble_eq_true rfl⟩) hN hE hL (rcv10 hN hT hw.1) rfl rfl hl.1 (Nat.le_of_ble_eq_true rfl) dX9_load_75 (Nat.zero_le _) (Nat.zero_le _) (fun r4885 H1 locs hL hqr4885 => ?_)
      obtain ⟨hT1, hF1, hqr4885⟩ := hqr4885
      have hF := hF.tr ((hF1.kf hKF).mono (by simp))
      have hT := hT1
      rcases hqr4885 with ⟨rfl, p4886, h4887, m4888⟩ | ⟨rfl, p4889, q4890, e4891, m4892⟩
      · have hm := m4888
        have hm8 := hm.2.2.2.2.2.2.2
        refine lv_if_ne (tgt := 91) hx hb dX9_load_78 (by decide) (fun c9 => absurd (by decide) c9) (fun _ => ?_)
        refine lv_aload_n hx hb dX9_load_81 rfl (lv_at hl 0 rfl) ?_
        refine lv_bipush (v := (-2)) hx hb dX9_load_82 (by decide) ?_
        refine lv_aload_n hx hb dX9_load_84 rfl (lv_at hl 0 rfl) ?_
        obtain ⟨hb4893, e4893, hat4893, hk4893⟩ := hT.o10 hw.1
        obtain ⟨f4893_0, f4893_1, f4893_3, f4893_4, f4893_5, f4893_6, f4893_7, f4893_9, f4893_10, f4893_11, f4893_12, f4893_13, f4893_14, f4893_15, f4893_16, f4893_17, rfl, c4893_2, c4893_3, c4893_4, c4893_12, t4893_1, t4893_8, t4893_9, c4893_sd, t4893_10, t4893_11, t4893_17⟩ := hk4893
        obtain ⟨rfl, rfl, rfl, rfl, rfl, rfl⟩ := hm.at hat4893 c4893_3 (by omega)
        have hm8 := hm.2.2.2.2.2.2.2
        have hP : va_P D vwCl [(w, .inr (9, [.int f4893_0, .ref bu, .int (nI ((κ4884 w).2.2.1)), .int (nI tl), .int (nI p4886), .int 0, .int f4893_6, .int f4893_7, .ref (κ4884 w).2.2.2, .ref f4893_9, .ref dr, .ref f4893_11, .int (nI f4893_12), .int f4893_13, .int 0, .int f4893_15, .int f4893_16, .ref f4893_17]))] _ := va_P.cons hat4893 va_P.nil
        refine va_get (D := D) (ci := 9) (v := .int (nI p4886)) (C := RX9) (T := TX9) (N := 18) hx hb hts iX9_load_9 hown hN.1 hP 0 rfl rfl 4 (by decide) (hts _ mX9_load_4) (fun _ h9 => h9) rfl dX9_load_85 ?_
        refine cv_v (As := [.int (-2), .int (nI p4886)]) (rest := []) (b := w) ⟨hx, hb, hml, hown, hts⟩ (c_X9_report hT (w := w) hw (x := (-2)) (y := (nI p4886)) hbT hdT hm ((by decide))) (cwV 2 hts gX9_load_X9_report rfl rfl rfl hdX9_report_v ⟨Nat.le_of_ble_eq_true rfl, Nat.le_of_ble_eq_true rfl⟩) hN hE hL (rcv10 hN hT hw.1) rfl rfl hl.1 (Nat.le_of_ble_eq_true rfl) dX9_load_88 (Nat.zero_le _) (Nat.zero_le _) (fun H1 locs hL hqr4894 => ?_)
        obtain ⟨hT1, hF1, hqr4894⟩ := hqr4894
        have hF := hF.tr ((hF1.kf hKF).mono (by simp))
        have hT := hT1
        obtain ⟨er4895, z4896, m4897⟩ := hqr4894
        have hm := m4897
        have hm8 := hm.2.2.2.2.2.2.2
        refine lv_aload_n hx hb dX9_load_91 rfl (lv_at hl 0 rfl) ?_
        refine lv_iconst (v := 1) hx hb dX9_load_92 (by decide) ?_
        refine lv_bipush (v := 8) hx hb dX9_load_93 (by decide) ?_
        refine cv_i (As := [.int 1, .int 8]) (rest := []) (b := w) ⟨hx, hb, hml, hown, hts⟩ (c_X9_number hT (w := w) hw (x := 1) (y := 8) hbT hdT hm) (cwV 2 hts gX9_load_X9_number rfl rfl rfl hdX9_number_v ⟨Nat.le_of_ble_eq_true rfl, Nat.le_of_ble_eq_true rfl⟩) hN hE hL (rcv10 hN hT hw.1) rfl rfl hl.1 (Nat.le_of_ble_eq_true rfl) dX9_load_95 (Nat.zero_le _) (Nat.zero_le _) (fun r4898 H1 locs hL hqr4898 => ?_)
        obtain ⟨hT1, hF1, hqr4898⟩ := hqr4898
        have hF := hF.tr ((hF1.kf hKF).mono (by simp))
        have hT := hT1
        obtain ⟨p4899, er4900, a4901, z4902, m4903, q4904⟩ := hqr4898
        have hm := m4903
        have hm8 := hm.2.2.2.2.2.2.2
        obtain ⟨n4905, hn4905, rfl⟩ := num_c (lo := 1) (hi := 8) (by decide) (by decide) rfl rfl q4904
        refine lv_istore_n (lv' := [(2, .int (nI n4905)), (0, .ref w), (1, .int (nI tl))]) hx hb dX9_load_98 rfl hl (by decide) rfl (fun ls hl => ?_)
        refine lv_aload_n hx hb dX9_load_99 rfl (lv_at hl 1 rfl) ?_
        obtain ⟨hb4906, e4906, hat4906, hk4906⟩ := hT.o10 hw.1
        obtain ⟨f4906_0, f4906_1, f4906_3, f4906_4, f4906_5, f4906_6, f4906_7, f4906_9, f4906_10, f4906_11, f4906_12, f4906_13, f4906_14, f4906_15, f4906_16, f4906_17, rfl, c4906_2, c4906_3, c4906_4, c4906_12, t4906_1, t4906_8, t4906_9, c4906_sd, t4906_10, t4906_11, t4906_17⟩ := hk4906
        obtain ⟨rfl, rfl, rfl, rfl, rfl, rfl⟩ := hm.at hat4906 c4906_3 (by omega)
        have hm8 := hm.2.2.2.2.2.2.2
        have hP : va_P D vwCl [(w, .inr (9, [.int f4906_0, .ref bu, .int (nI ((κ4884 w).2.2.1)), .int (nI tl), .int (nI p4899), .int er4900, .int f4906_6, .int f4906_7, .ref (κ4884 w).2.2.2, .ref f4906_9, .ref dr, .ref f4906_11, .int (nI f4906_12), .int f4906_13, .int 0, .int f4906_15, .int f4906_16, .ref f4906_17]))] _ := va_P.cons hat4906 va_P.nil
        refine va_get (D := D) (ci := 9) (v := .ref dr) (C := RX9) (T := TX9) (N := 18) hx hb hts iX9_load_9 hown hN.1 hP 0 rfl rfl 10 (by decide) (hts _ mX9_load_10) (fun _ h9 => h9) rfl dX9_load_100 ?_
        refine lv_iload_n hx hb dX9_load_103 rfl (lv_at hl 0 rfl) ?_
        refine cs_v (As := [.ref dr, .int (nI n4905)]) (rest := []) ⟨hx, hb, hml, hown, hts⟩ (c_X9_layPlayers hT (w := dr) hdT (n := n4905) (by first | omega | decide | assumption)) (va_cwS 2 hts gX9_load_X9_layPlayers rfl rfl rfl hdX9_layPlayers_o ⟨Nat.le_of_ble_eq_true rfl, Nat.le_of_ble_eq_true rfl⟩) hN hE hL rfl rfl hl.1 (Nat.le_of_ble_eq_true rfl) dX9_load_104 (Nat.zero_le _) (Nat.zero_le _) (fun H1 locs hL hqr4907 => ?_)
        obtain ⟨hT1, hF1, hqr4907⟩ := hqr4907
        have hP : va_P D vwCl [(w, .inr (9, [.int f4906_0, .ref bu, .int (nI ((κ4884 w).2.2.1)), .int (nI tl), .int (nI p4899), .int er4900, .int f4906_6, .int f4906_7, .ref (κ4884 w).2.2.2, .ref f4906_9, .ref dr, .ref f4906_11, .int (nI f4906_12), .int f4906_13, .int 0, .int f4906_15, .int f4906_16, .ref f4906_17]))] _ := hF1.hP (hP.sub [0] rfl) (fa_c ⟨by rw [hw.1]; decide, by rw [hw.2]; first | decide | (simp; done) | (simp; omega)⟩ fa_n)
        have hF := hF.tr ((hF1.kf hKF).mono (by simp))
        have hT := hT1
        obtain ⟨f4908, d4909, e4910⟩ := hqr4907
        have hm := hm.fr hw hbT hF1 (by decide) (by decide)
        have hm8 := hm.2.2.2.2.2.2.2
        have hbd : B0 ≤ dr := (hT.o26 hdT.1).1
        have hDR := hT.dr hdT d4909
        have hP : va_P D vwCl [(dr, .inl (cs 0, 1383, .inl f4908)), (w, .inr (9, [.int f4906_0, .ref bu, .int (nI ((κ4884 w).2.2.1)), .int (nI tl), .int (nI p4899), .int er4900, .int f4906_6, .int f4906_7, .ref (κ4884 w).2.2.2, .ref f4906_9, .ref dr, .ref f4906_11, .int (nI f4906_12), .int f4906_13, .int 0, .int f4906_15, .int f4906_16, .ref f4906_17]))] _ := va_P.cons d4909 hP
        refine lv_aload_n hx hb dX9_load_107 rfl (lv_at hl 1 rfl) ?_
        refine lv_bipush (v := 59) hx hb dX9_load_108 (by decide) ?_
        refine cv_v (As := [.int 59]) (rest := []) (b := w) ⟨hx, hb, hml, hown, hts⟩ (c_X9_expect hT (w := w) hw (x := 59) hbT hdT hm ((by decide))) (cwV 1 hts gX9_load_X9_expect rfl rfl rfl hdX9_expect_v ⟨Nat.le_of_ble_eq_true rfl, Nat.le_of_ble_eq_true rfl⟩) hN hE hL (rcv10 hN hT hw.1) rfl rfl hl.1 (Nat.le_of_ble_eq_true rfl) dX9_load_110 (Nat.zero_le _) (Nat.zero_le _) (fun H1 locs hL hqr4912 => ?_)
        obtain ⟨hT1, hF1, hqr4912⟩ := hqr4912
        have hP : va_P D vwCl [(dr, .inl (cs 0, 1383, .inl f4908))] _ := hF1.hP (hP.sub [0] rfl) (fa_c ⟨by rw [hdT.1]; decide, by rw [hdT.2]; first | decide | (simp; done) | (simp; omega)⟩ fa_n)
        have hF := hF.tr ((hF1.kf hKF).mono (by simp))
        have hT := hT1
        obtain ⟨p4913, er4914, a4915, z4916, m4917⟩ := hqr4912
        have hm := m4917
        have hm8 := hm.2.2.2.2.2.2.2
        have hps : PS D cs w _ (p4913) (tl) (er4914) (0) dr bu g (0) (0) := ⟨hm, f4908, hP 0 _ rfl, e4910, by omega, (fun e9 => (fun _ => CV.z _) (z4916 e9))⟩
        obtain ⟨u4918, hu4918, iu4918, ku4918⟩ := ld_u (er4914)
        refine lp_m (α := Nat × Nat × Nat × Int32 × Nat) (nL := 3) (fun a9 => 2 * (600 - a9.1) + a9.2.2.2.2) (fun a9 H9 l9 => (PS D cs w H9 a9.1 tl a9.2.2.2.1 0 dr bu g a9.2.1 a9.2.2.1) ∧ (a9.2.2.2.2 ≤ 1) ∧ (a9.2.2.2.1 = 0 → a9.2.2.2.2 = 1) ∧ (WT B0 D cs T κ4884 H9) ∧ (Fr B0 [12, 17, 18] κ H0 H9) ∧ (OkL B0 l9)) (fun a9 => [(0, .ref w)]) ?_ (p4913, 0, 0, er4914, u4918) _ _ _ ⟨hps, hu4918, iu4918, hT, hF, hL⟩ (lv_sub hl [1] rfl)
        rintro ⟨p, N1, h1, er1, u⟩ H locs ls ih4919 ⟨hps, hu, hu1, hT, hF, hL⟩ hl
        have hl : lv_has ls 3 [(0, .ref w)] := hl
        have hps : PS D cs w H p tl er1 0 dr bu g N1 h1 := hps
        have hu : u ≤ 1 := hu
        have hu1 : er1 = 0 → u = 1 := hu1
        obtain ⟨hm, f4920, hd4920, e4920, n4920, v4920⟩ := hps
        have hm8 := hm.2.2.2.2.2.2.2
        have hbd : B0 ≤ dr := (hT.o26 hdT.1).1
        have hDR := hT.dr hdT hd4920
        have hP : va_P D vwCl [(dr, .inl (cs 0, 1383, .inl f4920))] _ := va_P.cons hd4920 va_P.nil
        refine lv_aload_n hx hb dX9_load_113 rfl (lv_at hl 0 rfl) ?_
        refine cv_i (As := []) (rest := []) (b := w) ⟨hx, hb, hml, hown, hts⟩ (c_X9_isGood hT (w := w) hw hbT hdT hm) (cwV 0 hts gX9_load_X9_isGood rfl rfl rfl hdX9_isGood_v ⟨Nat.le_of_ble_eq_true rfl, Nat.le_of_ble_eq_true rfl⟩) hN hE hL (rcv10 hN hT hw.1) rfl rfl hl.1 (Nat.le_of_ble_eq_true rfl) dX9_load_114 (Nat.zero_le _) (Nat.zero_le _) (fun r4922 H1 locs hL hqr4922 => ?_)
        obtain ⟨h9, hqr4922⟩ := hqr4922; replace h9 := h9.symm; subst h9
        rcases hqr4922 with ⟨rfl, e4923⟩ | ⟨rfl, e4924⟩
        · refine lv_if_eq (tgt := 135) hx hb dX9_load_117 (by decide) (fun c9 => absurd c9 (by decide)) (fun _ => ?_)
          refine lv_aload_n hx hb dX9_load_120 rfl (lv_at hl 0 rfl) ?_
          refine cv_i (As := []) (rest := []) (b := w) ⟨hx, hb, hml, hown, hts⟩ (c_X9_ahead hT (w := w) hw hbT hdT hm) (cwV 0 hts gX9_load_X9_ahead rfl rfl rfl hdX9_ahead_v ⟨Nat.le_of_ble_eq_true rfl, Nat.le_of_ble_eq_true rfl⟩) hN hE hL (rcv10 hN hT hw.1) rfl rfl hl.1 (Nat.le_of_ble_eq_true rfl) dX9_load_121 (Nat.zero_le _) (Nat.zero_le _) (fun r4925 H1 locs hL hqr4925 => ?_)
          obtain ⟨hT1, hF1, hqr4925⟩ := hqr4925
          have hP : va_P D vwCl [(dr, .inl (cs 0, 1383, .inl f4920))] _ := hF1.hP (hP.sub [0] rfl) (fa_c ⟨by rw [hdT.1]; decide, by rw [hdT.2]; first | decide | (simp; done) | (simp; omega)⟩ fa_n)
          have hF := hF.tr ((hF1.kf hKF).mono (by simp))
          have hT := hT1
          obtain ⟨p4926, h4927, m4928, n4929, s4930, rfl⟩ := hqr4925
          have hm := m4928
          have hm8 := hm.2.2.2.2.2.2.2
          refine lv_iconst (v := (-1)) hx hb dX9_load_124 (by decide) ?_
          refine lv_icmp_eq (tgt := 135) hx hb dX9_load_125 (by decide) (fun c4931 => ?_) (fun c4931 => ?_)
          · refine lv_aload_n hx hb dX9_load_135 rfl (lv_at hl 0 rfl) ?_
            refine lv_aload_n hx hb dX9_load_136 rfl (lv_at hl 0 rfl) ?_
            obtain ⟨hb4932, e4932, hat4932, hk4932⟩ := hT.o10 hw.1
            obtain ⟨f4932_0, f4932_1, f4932_3, f4932_4, f4932_5, f4932_6, f4932_7, f4932_9, f4932_10, f4932_11, f4932_12, f4932_13, f4932_14, f4932_15, f4932_16, f4932_17, rfl, c4932_2, c4932_3, c4932_4, c4932_12, t4932_1, t4932_8, t4932_9, c4932_sd, t4932_10, t4932_11, t4932_17⟩ := hk4932
            obtain ⟨rfl, rfl, rfl, rfl, rfl, rfl⟩ := hm.at hat4932 c4932_3 (by omega)
            have hm8 := hm.2.2.2.2.2.2.2
            have hP : va_P D vwCl [(w, .inr (9, [.int f4932_0, .ref bu, .int (nI ((κ4884 w).2.2.1)), .int (nI tl), .int (nI p4926), .int er1, .int f4932_6, .int f4932_7, .ref (κ4884 w).2.2.2, .ref f4932_9, .ref dr, .ref f4932_11, .int (nI f4932_12), .int f4932_13, .int 0, .int f4932_15, .int f4932_16, .ref f4932_17])), (dr, .inl (cs 0, 1383, .inl f4920))] _ := va_P.cons hat4932 hP
            refine va_get (D := D) (ci := 9) (v := .int f4932_6) (C := RX9) (T := TX9) (N := 18) hx hb hts iX9_load_9 hown hN.1 hP 0 rfl rfl 6 (by decide) (hts _ mX9_load_6) (fun _ h9 => h9) rfl dX9_load_137 ?_
            have hB : Bx B0 D _ [(w, .inr (9, [.int f4932_0, .ref bu, .int (nI ((κ4884 w).2.2.1)), .int (nI tl), .int (nI p4926), .int er1, .int f4932_6, .int f4932_7, .ref (κ4884 w).2.2.2, .ref f4932_9, .ref dr, .ref f4932_11, .int (nI f4932_12), .int f4932_13, .int 0, .int f4932_15, .int f4932_16, .ref f4932_17])), (dr, .inl (cs 0, 1383, .inl f4920))] [] _ _ := Bx.of (fun a => (κ4884 a).1) hL hP (fa_c hb4932 (fa_c hbd fa_n)) (by simp only [List.map_cons, List.map_nil, hw.1, hdT.1]; decide)
            refine b_put (D := D) (ci := 9) (v := .int f4932_6) (ty := .int) (C := RX9) (T := TX9) (N := 18) hx hb hts iX9_load_9 tyX9 tyX9_ok nmX9 hown hN hB 0 rfl rfl 7 (by decide) (hts _ mX9_load_11) (fun _ h9 => h9) rfl (by decide +kernel) rfl rfl (Nat.le_of_ble_eq_true rfl) (.inl rfl) dX9_load_140 (fun H locs hB => ?_)
            have hB : Bx B0 D _ [(w, .inr (9, [.int f4932_0, .ref bu, .int (nI ((κ4884 w).2.2.1)), .int (nI tl), .int (nI p4926), .int er1, .int f4932_6, .int f4932_6, .ref (κ4884 w).2.2.2, .ref f4932_9, .ref dr, .ref f4932_11, .int (nI f4932_12), .int f4932_13, .int 0, .int f4932_15, .int f4932_16, .ref f4932_17])), (dr, .inl (cs 0, 1383, .inl f4920))] [w] _ _ := hB
            refine lv_aload_n hx hb dX9_load_143 rfl (lv_at hl 0 rfl) ?_
            have hT : WT B0 D cs T κ4884 _ := hT.close hB ⟨⟨0, _, rfl, ok_10 hw.1 ⟨_, _, _, _, _, _, _, _, _, _, _, _, _, _, _, _, rfl, (by omega), (by omega), (by omega), (by omega), hbT, t4932_8, t4932_9, c4932_sd, hdT, t4932_11, t4932_17⟩⟩, trivial⟩
            have hF : Fr B0 [12, 17, 18] κ H0 _ := hF.closeN hB (fa_c (fun h9 => by rw [← (hKF _ h9).2, hw.2]; simp) fa_n)
            have hL : OkL B0 _ := hB.2.2.2.2.2
            have hP : va_P D vwCl [(w, .inr (9, [.int f4932_0, .ref bu, .int (nI ((κ4884 w).2.2.1)), .int (nI tl), .int (nI p4926), .int er1, .int f4932_6, .int f4932_6, .ref (κ4884 w).2.2.2, .ref f4932_9, .ref dr, .ref f4932_11, .int (nI f4932_12), .int f4932_13, .int 0, .int f4932_15, .int f4932_16, .ref f4932_17])), (dr, .inl (cs 0, 1383, .inl f4920))] _ := hB.1
            have hbu9 := (hm.2.2.2.2.2.2.1).kept (hB.2.2.2.1 _ hm.2.2.2.2.2.2.1.lt (by simp only [List.mem_cons, List.not_mem_nil, or_false, not_or]; exact ne_c hbT.1 hw.1 (by decide)))
            have hm : MF D cs w _ (p4926) (tl) (er1) (0) dr bu g := ⟨⟨_, hP 0 _ rfl, rfl⟩, ⟨_, hP 0 _ rfl, rfl⟩, ⟨_, hP 0 _ rfl, rfl⟩, ⟨_, hP 0 _ rfl, rfl⟩, ⟨_, hP 0 _ rfl, rfl⟩, ⟨_, hP 0 _ rfl, rfl⟩, hbu9, (by omega), (by omega)⟩
            refine cv_i (As := []) (rest := []) (b := w) ⟨hx, hb, hml, hown, hts⟩ (c_X9_isGood hT (w := w) hw hbT hdT hm) (cwV 0 hts gX9_load_X9_isGood rfl rfl rfl hdX9_isGood_v ⟨Nat.le_of_ble_eq_true rfl, Nat.le_of_ble_eq_true rfl⟩) hN hE hL (rcv10 hN hT hw.1) rfl rfl hl.1 (Nat.le_of_ble_eq_true rfl) dX9_load_144 (Nat.zero_le _) (Nat.zero_le _) (fun r4933 H1 locs hL hqr4933 => ?_)
            obtain ⟨h9, hqr4933⟩ := hqr4933; replace h9 := h9.symm; subst h9
            rcases hqr4933 with ⟨rfl, e4934⟩ | ⟨rfl, e4935⟩
            · refine lv_if_ne (tgt := 155) hx hb dX9_load_147 (by decide) (fun _ => ?_) (fun c9 => absurd c9 (by decide))
              refine lv_aload_n hx hb dX9_load_155 rfl (lv_at hl 0 rfl) ?_
              refine cv_v (As := []) (rest := []) (b := w) ⟨hx, hb, hml, hown, hts⟩ (c_X9_remember hT (w := w) hw) (cwV 0 hts gX9_load_X9_remember rfl rfl rfl hdX9_remember_v ⟨Nat.le_of_ble_eq_true rfl, Nat.le_of_ble_eq_true rfl⟩) hN hE hL (rcv10 hN hT hw.1) rfl rfl hl.1 (Nat.le_of_ble_eq_true rfl) dX9_load_156 (Nat.zero_le _) (Nat.zero_le _) (fun H1 locs hL hqr4936 => ?_)
              obtain ⟨hT1, hF1⟩ := hqr4936
              have hP : va_P D vwCl [(dr, .inl (cs 0, 1383, .inl f4920))] _ := hF1.hP (hP.sub [1] rfl) (fa_c ⟨by rw [hdT.1]; decide, by rw [hdT.2]; first | decide | (simp; done) | (simp; omega)⟩ fa_n)
              have hF := hF.tr ((hF1.kf hKF).mono (by simp))
              have hT := hT1
              refine lv_aload_n hx hb dX9_load_159 rfl (lv_at hl 0 rfl) ?_
              obtain ⟨hb4937, e4937, hat4937, hk4937⟩ := hT.o10 hw.1
              obtain ⟨f4937_0, f4937_1, f4937_3, f4937_4, f4937_5, f4937_6, f4937_7, f4937_9, f4937_10, f4937_11, f4937_12, f4937_13, f4937_14, f4937_15, f4937_16, f4937_17, rfl, c4937_2, c4937_3, c4937_4, c4937_12, t4937_1, t4937_8, t4937_9, c4937_sd, t4937_10, t4937_11, t4937_17⟩ := hk4937
              obtain ⟨rfl, rfl, rfl, rfl, rfl, rfl⟩ := hm.at hat4937 c4937_3 (by omega)
              have hm8 := hm.2.2.2.2.2.2.2
              have hP : va_P D vwCl [(w, .inr (9, [.int f4937_0, .ref bu, .int (nI ((κ4884 w).2.2.1)), .int (nI tl), .int (nI p4926), .int er1, .int f4937_6, .int f4937_7, .ref (κ4884 w).2.2.2, .ref f4937_9, .ref dr, .ref f4937_11, .int (nI f4937_12), .int f4937_13, .int 0, .int f4937_15, .int f4937_16, .ref f4937_17])), (dr, .inl (cs 0, 1383, .inl f4920))] _ := va_P.cons hat4937 hP
              refine va_get (D := D) (ci := 9) (v := .ref dr) (C := RX9) (T := TX9) (N := 18) hx hb hts iX9_load_9 hown hN.1 hP 0 rfl rfl 10 (by decide) (hts _ mX9_load_10) (fun _ h9 => h9) rfl dX9_load_160 ?_
              refine lv_aload_n hx hb dX9_load_163 rfl (lv_at hl 0 rfl) ?_
              refine va_get (D := D) (ci := 9) (v := .ref (κ4884 w).2.2.2) (C := RX9) (T := TX9) (N := 18) hx hb hts iX9_load_9 hown hN.1 hP 0 rfl rfl 8 (by decide) (hts _ mX9_load_12) (fun _ h9 => h9) rfl dX9_load_164 ?_
              refine cs_v (As := [.ref dr, .ref (κ4884 w).2.2.2]) (rest := []) ⟨hx, hb, hml, hown, hts⟩ (c_X9_copyR hT (a := dr) hdT (b := (κ4884 w).2.2.2) t4937_8 (n := N1) (h := h1) (hP 1 _ rfl) hDR e4920 (by omega) (v4920 e4934) (by first | omega | decide | assumption) (by first | omega | decide | assumption)) (va_cwS 2 hts gX9_load_X9_copy rfl rfl rfl hdX9_copy_o ⟨Nat.le_of_ble_eq_true rfl, Nat.le_of_ble_eq_true rfl⟩) hN hE hL rfl rfl hl.1 (Nat.le_of_ble_eq_true rfl) dX9_load_167 (Nat.zero_le _) (Nat.zero_le _) (fun H1 locs hL hqr4938 => ?_)
              obtain ⟨hT1, hF1⟩ := hqr4938
              have hP : va_P D vwCl [(w, .inr (9, [.int f4937_0, .ref bu, .int (nI ((κ4884 w).2.2.1)), .int (nI tl), .int (nI p4926), .int er1, .int f4937_6, .int f4937_7, .ref (κ4884 w).2.2.2, .ref f4937_9, .ref dr, .ref f4937_11, .int (nI f4937_12), .int f4937_13, .int 0, .int f4937_15, .int f4937_16, .ref f4937_17])), (dr, .inl (cs 0, 1383, .inl f4920))] _ := hF1.hP (hP.sub [0, 1] rfl) (fa_c ⟨by rw [hw.1]; decide, by rw [hw.2]; first | decide | (simp; done) | (simp; omega)⟩ (fa_c ⟨by rw [hdT.1]; decide, by rw [hdT.2]; first | decide | (simp; done) | (simp; omega)⟩ fa_n))
              have hF := hF.tr ((hF1.kf hKF).mono (by simp))
              have hT := hT1
              refine lv_aload_n hx hb dX9_load_170 rfl (lv_at hl 0 rfl) ?_
              refine va_get (D := D) (ci := 9) (v := .ref (κ4884 w).2.2.2) (C := RX9) (T := TX9) (N := 18) hx hb hts iX9_load_9 hown hN.1 hP 0 rfl rfl 8 (by decide) (hts _ mX9_load_12) (fun _ h9 => h9) rfl dX9_load_171 ?_
              refine lv_iconst (v := 0) hx hb dX9_load_174 (by decide) ?_
              obtain ⟨hb4939, e4939, hat4939, hk4939⟩ := hT.o24 t4937_8.1
              obtain ⟨g4939, rfl, q4939⟩ := hk4939
              have hP : va_P D vwCl [((κ4884 w).2.2.2, .inl (cs 0, 45783, .inl g4939)), (w, .inr (9, [.int f4937_0, .ref bu, .int (nI ((κ4884 w).2.2.1)), .int (nI tl), .int (nI p4926), .int er1, .int f4937_6, .int f4937_7, .ref (κ4884 w).2.2.2, .ref f4937_9, .ref dr, .ref f4937_11, .int (nI f4937_12), .int f4937_13, .int 0, .int f4937_15, .int f4937_16, .ref f4937_17])), (dr, .inl (cs 0, 1383, .inl f4920))] _ := va_P.cons hat4939 hP
              refine ld_i (v := (g4939 0)) hx hb hN hP 0 rfl (vp_in_nI (n := 0) (N := 45783) (by omega) (by omega)) (by rw [(show (0 : Int32).toNatClampNeg = 0 from nI_clamp (n := 0) (by omega))]) dX9_load_175 ?_
              obtain ⟨n4940, hn4940, en4940⟩ := q4939.1
              refine tp_i (nI n4940) en4940 ?_
              exact en_i hx hb hr hlocks hL rfl (Nat.zero_le _) (Nat.zero_le _) dX9_load_176 (⟨hF, Or.inr ⟨l4875, g4876, hκ4884 ▸ hT⟩⟩)
            · exact absurd e4923 e4935
          · refine lv_aload_n hx hb dX9_load_128 rfl (lv_at hl 0 rfl) ?_
            have hps : PS D cs w _ (p4926) (tl) (er1) (0) dr bu g (N1) (h1) := ⟨hm, f4920, hP 0 _ rfl, e4920, by omega, v4920⟩
            refine cv_v (As := []) (rest := []) (b := w) ⟨hx, hb, hml, hown, hts⟩ (c_X9_statement hT (w := w) hw hbT hdT hps) (cwV 0 hts gX9_load_X9_statement rfl rfl rfl hdX9_statement_v ⟨Nat.le_of_ble_eq_true rfl, Nat.le_of_ble_eq_true rfl⟩) hN hE hL (rcv10 hN hT hw.1) rfl rfl hl.1 (Nat.le_of_ble_eq_true rfl) dX9_load_129 (Nat.zero_le _) (Nat.zero_le _) (fun H1 locs hL hqr4941 => ?_)
            obtain ⟨hT1, hF1, hqr4941⟩ := hqr4941
            have hF := hF.tr ((hF1.kf hKF).mono (by simp))
            have hT := hT1
            obtain ⟨N4942, h4943, p4944, er4945, b4946, z4947, m4948, f4949, d4950, e4951, n4952, v4953⟩ := hqr4941
            have hm := m4948
            have hm8 := hm.2.2.2.2.2.2.2
            have hbd : B0 ≤ dr := (hT.o26 hdT.1).1
            have hDR := hT.dr hdT d4950
            have hP : va_P D vwCl [(dr, .inl (cs 0, 1383, .inl f4949))] _ := va_P.cons d4950 va_P.nil
            refine lv_goto (tgt := 113) hx hb dX9_load_132 (by decide) ?_
            have hps : PS D cs w _ (p4944) (tl) (er4945) (0) dr bu g (N4942) (h4943) := ⟨hm, f4949, hP 0 _ rfl, e4951, by omega, v4953⟩
            obtain ⟨u4955, hu4955, iu4955, ku4955⟩ := ld_u (er4945)
            have hzs9 := z4947
            have hm9 : 2 * (600 - p4944) + u4955 < 2 * (600 - p) + u := by
              have q9 := hu1 e4923
              by_cases e9 : er4945 = 0
              · have q8 := hzs9 e9; omega
              · have q8 := ku4955 e9; omega
            exact ih4919 (p4944, N4942, h4943, er4945, u4955) _ _ _ (by show 2 * (600 - (p4944)) + (u4955) < 2 * (600 - p) + u; omega) ⟨hps, hu4955, iu4955, hT, hF, hL⟩ (lv_sub hl [0] rfl)
        · refine lv_if_eq (tgt := 135) hx hb dX9_load_117 (by decide) (fun _ => ?_) (fun c9 => absurd (by decide) c9)
          refine lv_aload_n hx hb dX9_load_135 rfl (lv_at hl 0 rfl) ?_
          refine lv_aload_n hx hb dX9_load_136 rfl (lv_at hl 0 rfl) ?_
          obtain ⟨hb4956, e4956, hat4956, hk4956⟩ := hT.o10 hw.1
          obtain ⟨f4956_0, f4956_1, f4956_3, f4956_4, f4956_5, f4956_6, f4956_7, f4956_9, f4956_10, f4956_11, f4956_12, f4956_13, f4956_14, f4956_15, f4956_16, f4956_17, rfl, c4956_2, c4956_3, c4956_4, c4956_12, t4956_1, t4956_8, t4956_9, c4956_sd, t4956_10, t4956_11, t4956_17⟩ := hk4956
          obtain ⟨rfl, rfl, rfl, rfl, rfl, rfl⟩ := hm.at hat4956 c4956_3 (by omega)
          have hm8 := hm.2.2.2.2.2.2.2
          have hP : va_P D vwCl [(w, .inr (9, [.int f4956_0, .ref bu, .int (nI ((κ4884 w).2.2.1)), .int (nI tl), .int (nI p), .int er1, .int f4956_6, .int f4956_7, .ref (κ4884 w).2.2.2, .ref f4956_9, .ref dr, .ref f4956_11, .int (nI f4956_12), .int f4956_13, .int 0, .int f4956_15, .int f4956_16, .ref f4956_17])), (dr, .inl (cs 0, 1383, .inl f4920))] _ := va_P.cons hat4956 hP
          refine va_get (D := D) (ci := 9) (v := .int f4956_6) (C := RX9) (T := TX9) (N := 18) hx hb hts iX9_load_9 hown hN.1 hP 0 rfl rfl 6 (by decide) (hts _ mX9_load_6) (fun _ h9 => h9) rfl dX9_load_137 ?_
          have hB : Bx B0 D _ [(w, .inr (9, [.int f4956_0, .ref bu, .int (nI ((κ4884 w).2.2.1)), .int (nI tl), .int (nI p), .int er1, .int f4956_6, .int f4956_7, .ref (κ4884 w).2.2.2, .ref f4956_9, .ref dr, .ref f4956_11, .int (nI f4956_12), .int f4956_13, .int 0, .int f4956_15, .int f4956_16, .ref f4956_17])), (dr, .inl (cs 0, 1383, .inl f4920))] [] _ _ := Bx.of (fun a => (κ4884 a).1) hL hP (fa_c hb4956 (fa_c hbd fa_n)) (by simp only [List.map_cons, List.map_nil, hw.1, hdT.1]; decide)
          refine b_put (D := D) (ci := 9) (v := .int f4956_6) (ty := .int) (C := RX9) (T := TX9) (N := 18) hx hb hts iX9_load_9 tyX9 tyX9_ok nmX9 hown hN hB 0 rfl rfl 7 (by decide) (hts _ mX9_load_11) (fun _ h9 => h9) rfl (by decide +kernel) rfl rfl (Nat.le_of_ble_eq_true rfl) (.inl rfl) dX9_load_140 (fun H locs hB => ?_)
          have hB : Bx B0 D _ [(w, .inr (9, [.int f4956_0, .ref bu, .int (nI ((κ4884 w).2.2.1)), .int (nI tl), .int (nI p), .int er1, .int f4956_6, .int f4956_6, .ref (κ4884 w).2.2.2, .ref f4956_9, .ref dr, .ref f4956_11, .int (nI f4956_12), .int f4956_13, .int 0, .int f4956_15, .int f4956_16, .ref f4956_17])), (dr, .inl (cs 0, 1383, .inl f4920))] [w] _ _ := hB
          refine lv_aload_n hx hb dX9_load_143 rfl (lv_at hl 0 rfl) ?_
          have hT : WT B0 D cs T κ4884 _ := hT.close hB ⟨⟨0, _, rfl, ok_10 hw.1 ⟨_, _, _, _, _, _, _, _, _, _, _, _, _, _, _, _, rfl, (by omega), (by omega), (by omega), (by omega), hbT, t4956_8, t4956_9, c4956_sd, hdT, t4956_11, t4956_17⟩⟩, trivial⟩
          have hF : Fr B0 [12, 17, 18] κ H0 _ := hF.closeN hB (fa_c (fun h9 => by rw [← (hKF _ h9).2, hw.2]; simp) fa_n)
          have hL : OkL B0 _ := hB.2.2.2.2.2
          have hP : va_P D vwCl [(w, .inr (9, [.int f4956_0, .ref bu, .int (nI ((κ4884 w).2.2.1)), .int (nI tl), .int (nI p), .int er1, .int f4956_6, .int f4956_6, .ref (κ4884 w).2.2.2, .ref f4956_9, .ref dr, .ref f4956_11, .int (nI f4956_12), .int f4956_13, .int 0, .int f4956_15, .int f4956_16, .ref f4956_17])), (dr, .inl (cs 0, 1383, .inl f4920))] _ := hB.1
          have hbu9 := (hm.2.2.2.2.2.2.1).kept (hB.2.2.2.1 _ hm.2.2.2.2.2.2.1.lt (by simp only [List.mem_cons, List.not_mem_nil, or_false, not_or]; exact ne_c hbT.1 hw.1 (by decide)))
          have hm : MF D cs w _ (p) (tl) (er1) (0) dr bu g := ⟨⟨_, hP 0 _ rfl, rfl⟩, ⟨_, hP 0 _ rfl, rfl⟩, ⟨_, hP 0 _ rfl, rfl⟩, ⟨_, hP 0 _ rfl, rfl⟩, ⟨_, hP 0 _ rfl, rfl⟩, ⟨_, hP 0 _ rfl, rfl⟩, hbu9, (by omega), (by omega)⟩
          refine cv_i (As := []) (rest := []) (b := w) ⟨hx, hb, hml, hown, hts⟩ (c_X9_isGood hT (w := w) hw hbT hdT hm) (cwV 0 hts gX9_load_X9_isGood rfl rfl rfl hdX9_isGood_v ⟨Nat.le_of_ble_eq_true rfl, Nat.le_of_ble_eq_true rfl⟩) hN hE hL (rcv10 hN hT hw.1) rfl rfl hl.1 (Nat.le_of_ble_eq_true rfl) dX9_load_144 (Nat.zero_le _) (Nat.zero_le _) (fun r4957 H1 locs hL hqr4957 => ?_)
          obtain ⟨h9, hqr4957⟩ := hqr4957; replace h9 := h9.symm; subst h9
          rcases hqr4957 with ⟨rfl, e4958⟩ | ⟨rfl, e4959⟩
          · exact absurd e4958 e4924
          · refine lv_if_ne (tgt := 155) hx hb dX9_load_147 (by decide) (fun c9 => absurd (by decide) c9) (fun _ => ?_)
            refine lv_aload_n hx hb dX9_load_150 rfl (lv_at hl 0 rfl) ?_
            refine va_get (D := D) (ci := 9) (v := .int er1) (C := RX9) (T := TX9) (N := 18) hx hb hts iX9_load_9 hown hN.1 hP 0 rfl rfl 5 (by decide) (hts _ mX9_load_5) (fun _ h9 => h9) rfl dX9_load_151 ?_
            exact en_i hx hb hr hlocks hL rfl (Nat.zero_le _) (Nat.zero_le _) dX9_load_154 (⟨hF, Or.inr ⟨l4875, g4876, hκ4884 ▸ hT⟩⟩)
      · have hm := m4892
        have hm8 := hm.2.2.2.2.2.2.2
        refine lv_if_ne (tgt := 91) hx hb dX9_load_78 (by decide) (fun _ => ?_) (fun c9 => absurd c9 (by decide))
        refine lv_aload_n hx hb dX9_load_91 rfl (lv_at hl 0 rfl) ?_
        refine lv_iconst (v := 1) hx hb dX9_load_92 (by decide) ?_
        refine lv_bipush (v := 8) hx hb dX9_load_93 (by decide) ?_
        refine cv_i (As := [.int 1, .int 8]) (rest := []) (b := w) ⟨hx, hb, hml, hown, hts⟩ (c_X9_number hT (w := w) hw (x := 1) (y := 8) hbT hdT hm) (cwV 2 hts gX9_load_X9_number rfl rfl rfl hdX9_number_v ⟨Nat.le_of_ble_eq_true rfl, Nat.le_of_ble_eq_true rfl⟩) hN hE hL (rcv10 hN hT hw.1) rfl rfl hl.1 (Nat.le_of_ble_eq_true rfl) dX9_load_95 (Nat.zero_le _) (Nat.zero_le _) (fun r4960 H1 locs hL hqr4960 => ?_)
        obtain ⟨hT1, hF1, hqr4960⟩ := hqr4960
        have hF := hF.tr ((hF1.kf hKF).mono (by simp))
        have hT := hT1
        obtain ⟨p4961, er4962, a4963, z4964, m4965, q4966⟩ := hqr4960
        have hm := m4965
        have hm8 := hm.2.2.2.2.2.2.2
        obtain ⟨n4967, hn4967, rfl⟩ := num_c (lo := 1) (hi := 8) (by decide) (by decide) rfl rfl q4966
        refine lv_istore_n (lv' := [(2, .int (nI n4967)), (0, .ref w), (1, .int (nI tl))]) hx hb dX9_load_98 rfl hl (by decide) rfl (fun ls hl => ?_)
        refine lv_aload_n hx hb dX9_load_99 rfl (lv_at hl 1 rfl) ?_
        obtain ⟨hb4968, e4968, hat4968, hk4968⟩ := hT.o10 hw.1
        obtain ⟨f4968_0, f4968_1, f4968_3, f4968_4, f4968_5, f4968_6, f4968_7, f4968_9, f4968_10, f4968_11, f4968_12, f4968_13, f4968_14, f4968_15, f4968_16, f4968_17, rfl, c4968_2, c4968_3, c4968_4, c4968_12, t4968_1, t4968_8, t4968_9, c4968_sd, t4968_10, t4968_11, t4968_17⟩ := hk4968
        obtain ⟨rfl, rfl, rfl, rfl, rfl, rfl⟩ := hm.at hat4968 c4968_3 (by omega)
        have hm8 := hm.2.2.2.2.2.2.2
        have hP : va_P D vwCl [(w, .inr (9, [.int f4968_0, .ref bu, .int (nI ((κ4884 w).2.2.1)), .int (nI tl), .int (nI p4961), .int er4962, .int f4968_6, .int f4968_7, .ref (κ4884 w).2.2.2, .ref f4968_9, .ref dr, .ref f4968_11, .int (nI f4968_12), .int f4968_13, .int 0, .int f4968_15, .int f4968_16, .ref f4968_17]))] _ := va_P.cons hat4968 va_P.nil
        refine va_get (D := D) (ci := 9) (v := .ref dr) (C := RX9) (T := TX9) (N := 18) hx hb hts iX9_load_9 hown hN.1 hP 0 rfl rfl 10 (by decide) (hts _ mX9_load_10) (fun _ h9 => h9) rfl dX9_load_100 ?_
        refine lv_iload_n hx hb dX9_load_103 rfl (lv_at hl 0 rfl) ?_
        refine cs_v (As := [.ref dr, .int (nI n4967)]) (rest := []) ⟨hx, hb, hml, hown, hts⟩ (c_X9_layPlayers hT (w := dr) hdT (n := n4967) (by first | omega | decide | assumption)) (va_cwS 2 hts gX9_load_X9_layPlayers rfl rfl rfl hdX9_layPlayers_o ⟨Nat.le_of_ble_eq_true rfl, Nat.le_of_ble_eq_true rfl⟩) hN hE hL rfl rfl hl.1 (Nat.le_of_ble_eq_true rfl) dX9_load_104 (Nat.zero_le _) (Nat.zero_le _) (fun H1 locs hL hqr4969 => ?_)
        obtain ⟨hT1, hF1, hqr4969⟩ := hqr4969
        have hP : va_P D vwCl [(w, .inr (9, [.int f4968_0, .ref bu, .int (nI ((κ4884 w).2.2.1)), .int (nI tl), .int (nI p4961), .int er4962, .int f4968_6, .int f4968_7, .ref (κ4884 w).2.2.2, .ref f4968_9, .ref dr, .ref f4968_11, .int (nI f4968_12), .int f4968_13, .int 0, .int f4968_15, .int f4968_16, .ref f4968_17]))] _ := hF1.hP (hP.sub [0] rfl) (fa_c ⟨by rw [hw.1]; decide, by rw [hw.2]; first | decide | (simp; done) | (simp; omega)⟩ fa_n)
        have hF := hF.tr ((hF1.kf hKF).mono (by simp))
        have hT := hT1
        obtain ⟨f4970, d4971, e4972⟩ := hqr4969
        have hm := hm.fr hw hbT hF1 (by decide) (by decide)
        have hm8 := hm.2.2.2.2.2.2.2
        have hbd : B0 ≤ dr := (hT.o26 hdT.1).1
        have hDR := hT.dr hdT d4971
        have hP : va_P D vwCl [(dr, .inl (cs 0, 1383, .inl f4970)), (w, .inr (9, [.int f4968_0, .ref bu, .int (nI ((κ4884 w).2.2.1)), .int (nI tl), .int (nI p4961), .int er4962, .int f4968_6, .int f4968_7, .ref (κ4884 w).2.2.2, .ref f4968_9, .ref dr, .ref f4968_11, .int (nI f4968_12), .int f4968_13, .int 0, .int f4968_15, .int f4968_16, .ref f4968_17]))] _ := va_P.cons d4971 hP
        refine lv_aload_n hx hb dX9_load_107 rfl (lv_at hl 1 rfl) ?_
        refine lv_bipush (v := 59) hx hb dX9_load_108 (by decide) ?_
        refine cv_v (As := [.int 59]) (rest := []) (b := w) ⟨hx, hb, hml, hown, hts⟩ (c_X9_expect hT (w := w) hw (x := 59) hbT hdT hm ((by decide))) (cwV 1 hts gX9_load_X9_expect rfl rfl rfl hdX9_expect_v ⟨Nat.le_of_ble_eq_true rfl, Nat.le_of_ble_eq_true rfl⟩) hN hE hL (rcv10 hN hT hw.1) rfl rfl hl.1 (Nat.le_of_ble_eq_true rfl) dX9_load_110 (Nat.zero_le _) (Nat.zero_le _) (fun H1 locs hL hqr4974 => ?_)
        obtain ⟨hT1, hF1, hqr4974⟩ := hqr4974
        have hP : va_P D vwCl [(dr, .inl (cs 0, 1383, .inl f4970))] _ := hF1.hP (hP.sub [0] rfl) (fa_c ⟨by rw [hdT.1]; decide, by rw [hdT.2]; first | decide | (simp; done) | (simp; omega)⟩ fa_n)
        have hF := hF.tr ((hF1.kf hKF).mono (by simp))
        have hT := hT1
        obtain ⟨p4975, er4976, a4977, z4978, m4979⟩ := hqr4974
        have hm := m4979
        have hm8 := hm.2.2.2.2.2.2.2
        have hps : PS D cs w _ (p4975) (tl) (er4976) (0) dr bu g (0) (0) := ⟨hm, f4970, hP 0 _ rfl, e4972, by omega, (fun e9 => (fun _ => CV.z _) (z4978 e9))⟩
        obtain ⟨u4980, hu4980, iu4980, ku4980⟩ := ld_u (er4976)
        refine lp_m (α := Nat × Nat × Nat × Int32 × Nat) (nL := 3) (fun a9 => 2 * (600 - a9.1) + a9.2.2.2.2) (fun a9 H9 l9 => (PS D cs w H9 a9.1 tl a9.2.2.2.1 0 dr bu g a9.2.1 a9.2.2.1) ∧ (a9.2.2.2.2 ≤ 1) ∧ (a9.2.2.2.1 = 0 → a9.2.2.2.2 = 1) ∧ (WT B0 D cs T κ4884 H9) ∧ (Fr B0 [12, 17, 18] κ H0 H9) ∧ (OkL B0 l9)) (fun a9 => [(0, .ref w)]) ?_ (p4975, 0, 0, er4976, u4980) _ _ _ ⟨hps, hu4980, iu4980, hT, hF, hL⟩ (lv_sub hl [1] rfl)
        rintro ⟨p, N1, h1, er1, u⟩ H locs ls ih4981 ⟨hps, hu, hu1, hT, hF, hL⟩ hl
        have hl : lv_has ls 3 [(0, .ref w)] := hl
        have hps : PS D cs w H p tl er1 0 dr bu g N1 h1 := hps
        have hu : u ≤ 1 := hu
        have hu1 : er1 = 0 → u = 1 := hu1
        obtain ⟨hm, f4982, hd4982, e4982, n4982, v4982⟩ := hps
        have hm8 := hm.2.2.2.2.2.2.2
        have hbd : B0 ≤ dr := (hT.o26 hdT.1).1
        have hDR := hT.dr hdT hd4982
        have hP : va_P D vwCl [(dr, .inl (cs 0, 1383, .inl f4982))] _ := va_P.cons hd4982 va_P.nil
        refine lv_aload_n hx hb dX9_load_113 rfl (lv_at hl 0 rfl) ?_
        refine cv_i (As := []) (rest := []) (b := w) ⟨hx, hb, hml, hown, hts⟩ (c_X9_isGood hT (w := w) hw hbT hdT hm) (cwV 0 hts gX9_load_X9_isGood rfl rfl rfl hdX9_isGood_v ⟨Nat.le_of_ble_eq_true rfl, Nat.le_of_ble_eq_true rfl⟩) hN hE hL (rcv10 hN hT hw.1) rfl rfl hl.1 (Nat.le_of_ble_eq_true rfl) dX9_load_114 (Nat.zero_le _) (Nat.zero_le _) (fun r4984 H1 locs hL hqr4984 => ?_)
        obtain ⟨h9, hqr4984⟩ := hqr4984; replace h9 := h9.symm; subst h9
        rcases hqr4984 with ⟨rfl, e4985⟩ | ⟨rfl, e4986⟩
        · refine lv_if_eq (tgt := 135) hx hb dX9_load_117 (by decide) (fun c9 => absurd c9 (by decide)) (fun _ => ?_)
          refine lv_aload_n hx hb dX9_load_120 rfl (lv_at hl 0 rfl) ?_
          refine cv_i (As := []) (rest := []) (b := w) ⟨hx, hb, hml, hown, hts⟩ (c_X9_ahead hT (w := w) hw hbT hdT hm) (cwV 0 hts gX9_load_X9_ahead rfl rfl rfl hdX9_ahead_v ⟨Nat.le_of_ble_eq_true rfl, Nat.le_of_ble_eq_true rfl⟩) hN hE hL (rcv10 hN hT hw.1) rfl rfl hl.1 (Nat.le_of_ble_eq_true rfl) dX9_load_121 (Nat.zero_le _) (Nat.zero_le _) (fun r4987 H1 locs hL hqr4987 => ?_)
          obtain ⟨hT1, hF1, hqr4987⟩ := hqr4987
          have hP : va_P D vwCl [(dr, .inl (cs 0, 1383, .inl f4982))] _ := hF1.hP (hP.sub [0] rfl) (fa_c ⟨by rw [hdT.1]; decide, by rw [hdT.2]; first | decide | (simp; done) | (simp; omega)⟩ fa_n)
          have hF := hF.tr ((hF1.kf hKF).mono (by simp))
          have hT := hT1
          obtain ⟨p4988, h4989, m4990, n4991, s4992, rfl⟩ := hqr4987
          have hm := m4990
          have hm8 := hm.2.2.2.2.2.2.2
          refine lv_iconst (v := (-1)) hx hb dX9_load_124 (by decide) ?_
          refine lv_icmp_eq (tgt := 135) hx hb dX9_load_125 (by decide) (fun c4993 => ?_) (fun c4993 => ?_)
          · refine lv_aload_n hx hb dX9_load_135 rfl (lv_at hl 0 rfl) ?_
            refine lv_aload_n hx hb dX9_load_136 rfl (lv_at hl 0 rfl) ?_
            obtain ⟨hb4994, e4994, hat4994, hk4994⟩ := hT.o10 hw.1
            obtain ⟨f4994_0, f4994_1, f4994_3, f4994_4, f4994_5, f4994_6, f4994_7, f4994_9, f4994_10, f4994_11, f4994_12, f4994_13, f4994_14, f4994_15, f4994_16, f4994_17, rfl, c4994_2, c4994_3, c4994_4, c4994_12, t4994_1, t4994_8, t4994_9, c4994_sd, t4994_10, t4994_11, t4994_17⟩ := hk4994
            obtain ⟨rfl, rfl, rfl, rfl, rfl, rfl⟩ := hm.at hat4994 c4994_3 (by omega)
            have hm8 := hm.2.2.2.2.2.2.2
            have hP : va_P D vwCl [(w, .inr (9, [.int f4994_0, .ref bu, .int (nI ((κ4884 w).2.2.1)), .int (nI tl), .int (nI p4988), .int er1, .int f4994_6, .int f4994_7, .ref (κ4884 w).2.2.2, .ref f4994_9, .ref dr, .ref f4994_11, .int (nI f4994_12), .int f4994_13, .int 0, .int f4994_15, .int f4994_16, .ref f4994_17])), (dr, .inl (cs 0, 1383, .inl f4982))] _ := va_P.cons hat4994 hP
            refine va_get (D := D) (ci := 9) (v := .int f4994_6) (C := RX9) (T := TX9) (N := 18) hx hb hts iX9_load_9 hown hN.1 hP 0 rfl rfl 6 (by decide) (hts _ mX9_load_6) (fun _ h9 => h9) rfl dX9_load_137 ?_
            have hB : Bx B0 D _ [(w, .inr (9, [.int f4994_0, .ref bu, .int (nI ((κ4884 w).2.2.1)), .int (nI tl), .int (nI p4988), .int er1, .int f4994_6, .int f4994_7, .ref (κ4884 w).2.2.2, .ref f4994_9, .ref dr, .ref f4994_11, .int (nI f4994_12), .int f4994_13, .int 0, .int f4994_15, .int f4994_16, .ref f4994_17])), (dr, .inl (cs 0, 1383, .inl f4982))] [] _ _ := Bx.of (fun a => (κ4884 a).1) hL hP (fa_c hb4994 (fa_c hbd fa_n)) (by simp only [List.map_cons, List.map_nil, hw.1, hdT.1]; decide)
            refine b_put (D := D) (ci := 9) (v := .int f4994_6) (ty := .int) (C := RX9) (T := TX9) (N := 18) hx hb hts iX9_load_9 tyX9 tyX9_ok nmX9 hown hN hB 0 rfl rfl 7 (by decide) (hts _ mX9_load_11) (fun _ h9 => h9) rfl (by decide +kernel) rfl rfl (Nat.le_of_ble_eq_true rfl) (.inl rfl) dX9_load_140 (fun H locs hB => ?_)
            have hB : Bx B0 D _ [(w, .inr (9, [.int f4994_0, .ref bu, .int (nI ((κ4884 w).2.2.1)), .int (nI tl), .int (nI p4988), .int er1, .int f4994_6, .int f4994_6, .ref (κ4884 w).2.2.2, .ref f4994_9, .ref dr, .ref f4994_11, .int (nI f4994_12), .int f4994_13, .int 0, .int f4994_15, .int f4994_16, .ref f4994_17])), (dr, .inl (cs 0, 1383, .inl f4982))] [w] _ _ := hB
            refine lv_aload_n hx hb dX9_load_143 rfl (lv_at hl 0 rfl) ?_
            have hT : WT B0 D cs T κ4884 _ := hT.close hB ⟨⟨0, _, rfl, ok_10 hw.1 ⟨_, _, _, _, _, _, _, _, _, _, _, _, _, _, _, _, rfl, (by omega), (by omega), (by omega), (by omega), hbT, t4994_8, t4994_9, c4994_sd, hdT, t4994_11, t4994_17⟩⟩, trivial⟩
            have hF : Fr B0 [12, 17, 18] κ H0 _ := hF.closeN hB (fa_c (fun h9 => by rw [← (hKF _ h9).2, hw.2]; simp) fa_n)
            have hL : OkL B0 _ := hB.2.2.2.2.2
            have hP : va_P D vwCl [(w, .inr (9, [.int f4994_0, .ref bu, .int (nI ((κ4884 w).2.2.1)), .int (nI tl), .int (nI p4988), .int er1, .int f4994_6, .int f4994_6, .ref (κ4884 w).2.2.2, .ref f4994_9, .ref dr, .ref f4994_11, .int (nI f4994_12), .int f4994_13, .int 0, .int f4994_15, .int f4994_16, .ref f4994_17])), (dr, .inl (cs 0, 1383, .inl f4982))] _ := hB.1
            have hbu9 := (hm.2.2.2.2.2.2.1).kept (hB.2.2.2.1 _ hm.2.2.2.2.2.2.1.lt (by simp only [List.mem_cons, List.not_mem_nil, or_false, not_or]; exact ne_c hbT.1 hw.1 (by decide)))
            have hm : MF D cs w _ (p4988) (tl) (er1) (0) dr bu g := ⟨⟨_, hP 0 _ rfl, rfl⟩, ⟨_, hP 0 _ rfl, rfl⟩, ⟨_, hP 0 _ rfl, rfl⟩, ⟨_, hP 0 _ rfl, rfl⟩, ⟨_, hP 0 _ rfl, rfl⟩, ⟨_, hP 0 _ rfl, rfl⟩, hbu9, (by omega), (by omega)⟩
            refine cv_i (As := []) (rest := []) (b := w) ⟨hx, hb, hml, hown, hts⟩ (c_X9_isGood hT (w := w) hw hbT hdT hm) (cwV 0 hts gX9_load_X9_isGood rfl rfl rfl hdX9_isGood_v ⟨Nat.le_of_ble_eq_true rfl, Nat.le_of_ble_eq_true rfl⟩) hN hE hL (rcv10 hN hT hw.1) rfl rfl hl.1 (Nat.le_of_ble_eq_true rfl) dX9_load_144 (Nat.zero_le _) (Nat.zero_le _) (fun r4995 H1 locs hL hqr4995 => ?_)
            obtain ⟨h9, hqr4995⟩ := hqr4995; replace h9 := h9.symm; subst h9
            rcases hqr4995 with ⟨rfl, e4996⟩ | ⟨rfl, e4997⟩
            · refine lv_if_ne (tgt := 155) hx hb dX9_load_147 (by decide) (fun _ => ?_) (fun c9 => absurd c9 (by decide))
              refine lv_aload_n hx hb dX9_load_155 rfl (lv_at hl 0 rfl) ?_
              refine cv_v (As := []) (rest := []) (b := w) ⟨hx, hb, hml, hown, hts⟩ (c_X9_remember hT (w := w) hw) (cwV 0 hts gX9_load_X9_remember rfl rfl rfl hdX9_remember_v ⟨Nat.le_of_ble_eq_true rfl, Nat.le_of_ble_eq_true rfl⟩) hN hE hL (rcv10 hN hT hw.1) rfl rfl hl.1 (Nat.le_of_ble_eq_true rfl) dX9_load_156 (Nat.zero_le _) (Nat.zero_le _) (fun H1 locs hL hqr4998 => ?_)
              obtain ⟨hT1, hF1⟩ := hqr4998
              have hP : va_P D vwCl [(dr, .inl (cs 0, 1383, .inl f4982))] _ := hF1.hP (hP.sub [1] rfl) (fa_c ⟨by rw [hdT.1]; decide, by rw [hdT.2]; first | decide | (simp; done) | (simp; omega)⟩ fa_n)
              have hF := hF.tr ((hF1.kf hKF).mono (by simp))
              have hT := hT1
              refine lv_aload_n hx hb dX9_load_159 rfl (lv_at hl 0 rfl) ?_
              obtain ⟨hb4999, e4999, hat4999, hk4999⟩ := hT.o10 hw.1
              obtain ⟨f4999_0, f4999_1, f4999_3, f4999_4, f4999_5, f4999_6, f4999_7, f4999_9, f4999_10, f4999_11, f4999_12, f4999_13, f4999_14, f4999_15, f4999_16, f4999_17, rfl, c4999_2, c4999_3, c4999_4, c4999_12, t4999_1, t4999_8, t4999_9, c4999_sd, t4999_10, t4999_11, t4999_17⟩ := hk4999
              obtain ⟨rfl, rfl, rfl, rfl, rfl, rfl⟩ := hm.at hat4999 c4999_3 (by omega)
              have hm8 := hm.2.2.2.2.2.2.2
              have hP : va_P D vwCl [(w, .inr (9, [.int f4999_0, .ref bu, .int (nI ((κ4884 w).2.2.1)), .int (nI tl), .int (nI p4988), .int er1, .int f4999_6, .int f4999_7, .ref (κ4884 w).2.2.2, .ref f4999_9, .ref dr, .ref f4999_11, .int (nI f4999_12), .int f4999_13, .int 0, .int f4999_15, .int f4999_16, .ref f4999_17])), (dr, .inl (cs 0, 1383, .inl f4982))] _ := va_P.cons hat4999 hP
              refine va_get (D := D) (ci := 9) (v := .ref dr) (C := RX9) (T := TX9) (N := 18) hx hb hts iX9_load_9 hown hN.1 hP 0 rfl rfl 10 (by decide) (hts _ mX9_load_10) (fun _ h9 => h9) rfl dX9_load_160 ?_
              refine lv_aload_n hx hb dX9_load_163 rfl (lv_at hl 0 rfl) ?_
              refine va_get (D := D) (ci := 9) (v := .ref (κ4884 w).2.2.2) (C := RX9) (T := TX9) (N := 18) hx hb hts iX9_load_9 hown hN.1 hP 0 rfl rfl 8 (by decide) (hts _ mX9_load_12) (fun _ h9 => h9) rfl dX9_load_164 ?_
              refine cs_v (As := [.ref dr, .ref (κ4884 w).2.2.2]) (rest := []) ⟨hx, hb, hml, hown, hts⟩ (c_X9_copyR hT (a := dr) hdT (b := (κ4884 w).2.2.2) t4999_8 (n := N1) (h := h1) (hP 1 _ rfl) hDR e4982 (by omega) (v4982 e4996) (by first | omega | decide | assumption) (by first | omega | decide | assumption)) (va_cwS 2 hts gX9_load_X9_copy rfl rfl rfl hdX9_copy_o ⟨Nat.le_of_ble_eq_true rfl, Nat.le_of_ble_eq_true rfl⟩) hN hE hL rfl rfl hl.1 (Nat.le_of_ble_eq_true rfl) dX9_load_167 (Nat.zero_le _) (Nat.zero_le _) (fun H1 locs hL hqr5000 => ?_)
              obtain ⟨hT1, hF1⟩ := hqr5000
              have hP : va_P D vwCl [(w, .inr (9, [.int f4999_0, .ref bu, .int (nI ((κ4884 w).2.2.1)), .int (nI tl), .int (nI p4988), .int er1, .int f4999_6, .int f4999_7, .ref (κ4884 w).2.2.2, .ref f4999_9, .ref dr, .ref f4999_11, .int (nI f4999_12), .int f4999_13, .int 0, .int f4999_15, .int f4999_16, .ref f4999_17])), (dr, .inl (cs 0, 1383, .inl f4982))] _ := hF1.hP (hP.sub [0, 1] rfl) (fa_c ⟨by rw [hw.1]; decide, by rw [hw.2]; first | decide | (simp; done) | (simp; omega)⟩ (fa_c ⟨by rw [hdT.1]; decide, by rw [hdT.2]; first | decide | (simp; done) | (simp; omega)⟩ fa_n))
              have hF := hF.tr ((hF1.kf hKF).mono (by simp))
              have hT := hT1
              refine lv_aload_n hx hb dX9_load_170 rfl (lv_at hl 0 rfl) ?_
              refine va_get (D := D) (ci := 9) (v := .ref (κ4884 w).2.2.2) (C := RX9) (T := TX9) (N := 18) hx hb hts iX9_load_9 hown hN.1 hP 0 rfl rfl 8 (by decide) (hts _ mX9_load_12) (fun _ h9 => h9) rfl dX9_load_171 ?_
              refine lv_iconst (v := 0) hx hb dX9_load_174 (by decide) ?_
              obtain ⟨hb5001, e5001, hat5001, hk5001⟩ := hT.o24 t4999_8.1
              obtain ⟨g5001, rfl, q5001⟩ := hk5001
              have hP : va_P D vwCl [((κ4884 w).2.2.2, .inl (cs 0, 45783, .inl g5001)), (w, .inr (9, [.int f4999_0, .ref bu, .int (nI ((κ4884 w).2.2.1)), .int (nI tl), .int (nI p4988), .int er1, .int f4999_6, .int f4999_7, .ref (κ4884 w).2.2.2, .ref f4999_9, .ref dr, .ref f4999_11, .int (nI f4999_12), .int f4999_13, .int 0, .int f4999_15, .int f4999_16, .ref f4999_17])), (dr, .inl (cs 0, 1383, .inl f4982))] _ := va_P.cons hat5001 hP
              refine ld_i (v := (g5001 0)) hx hb hN hP 0 rfl (vp_in_nI (n := 0) (N := 45783) (by omega) (by omega)) (by rw [(show (0 : Int32).toNatClampNeg = 0 from nI_clamp (n := 0) (by omega))]) dX9_load_175 ?_
              obtain ⟨n5002, hn5002, en5002⟩ := q5001.1
              refine tp_i (nI n5002) en5002 ?_
              exact en_i hx hb hr hlocks hL rfl (Nat.zero_le _) (Nat.zero_le _) dX9_load_176 (⟨hF, Or.inr ⟨l4875, g4876, hκ4884 ▸ hT⟩⟩)
            · exact absurd e4985 e4997
          · refine lv_aload_n hx hb dX9_load_128 rfl (lv_at hl 0 rfl) ?_
            have hps : PS D cs w _ (p4988) (tl) (er1) (0) dr bu g (N1) (h1) := ⟨hm, f4982, hP 0 _ rfl, e4982, by omega, v4982⟩
            refine cv_v (As := []) (rest := []) (b := w) ⟨hx, hb, hml, hown, hts⟩ (c_X9_statement hT (w := w) hw hbT hdT hps) (cwV 0 hts gX9_load_X9_statement rfl rfl rfl hdX9_statement_v ⟨Nat.le_of_ble_eq_true rfl, Nat.le_of_ble_eq_true rfl⟩) hN hE hL (rcv10 hN hT hw.1) rfl rfl hl.1 (Nat.le_of_ble_eq_true rfl) dX9_load_129 (Nat.zero_le _) (Nat.zero_le _) (fun H1 locs hL hqr5003 => ?_)
            obtain ⟨hT1, hF1, hqr5003⟩ := hqr5003
            have hF := hF.tr ((hF1.kf hKF).mono (by simp))
            have hT := hT1
            obtain ⟨N5004, h5005, p5006, er5007, b5008, z5009, m5010, f5011, d5012, e5013, n5014, v5015⟩ := hqr5003
            have hm := m5010
            have hm8 := hm.2.2.2.2.2.2.2
            have hbd : B0 ≤ dr := (hT.o26 hdT.1).1
            have hDR := hT.dr hdT d5012
            have hP : va_P D vwCl [(dr, .inl (cs 0, 1383, .inl f5011))] _ := va_P.cons d5012 va_P.nil
            refine lv_goto (tgt := 113) hx hb dX9_load_132 (by decide) ?_
            have hps : PS D cs w _ (p5006) (tl) (er5007) (0) dr bu g (N5004) (h5005) := ⟨hm, f5011, hP 0 _ rfl, e5013, by omega, v5015⟩
            obtain ⟨u5017, hu5017, iu5017, ku5017⟩ := ld_u (er5007)
            have hzs9 := z5009
            have hm9 : 2 * (600 - p5006) + u5017 < 2 * (600 - p) + u := by
              have q9 := hu1 e4985
              by_cases e9 : er5007 = 0
              · have q8 := hzs9 e9; omega
              · have q8 := ku5017 e9; omega
            exact ih4981 (p5006, N5004, h5005, er5007, u5017) _ _ _ (by show 2 * (600 - (p5006)) + (u5017) < 2 * (600 - p) + u; omega) ⟨hps, hu5017, iu5017, hT, hF, hL⟩ (lv_sub hl [0] rfl)
        · refine lv_if_eq (tgt := 135) hx hb dX9_load_117 (by decide) (fun _ => ?_) (fun c9 => absurd (by decide) c9)
          refine lv_aload_n hx hb dX9_load_135 rfl (lv_at hl 0 rfl) ?_
          refine lv_aload_n hx hb dX9_load_136 rfl (lv_at hl 0 rfl) ?_
          obtain ⟨hb5018, e5018, hat5018, hk5018⟩ := hT.o10 hw.1
          obtain ⟨f5018_0, f5018_1, f5018_3, f5018_4, f5018_5, f5018_6, f5018_7, f5018_9, f5018_10, f5018_11, f5018_12, f5018_13, f5018_14, f5018_15, f5018_16, f5018_17, rfl, c5018_2, c5018_3, c5018_4, c5018_12, t5018_1, t5018_8, t5018_9, c5018_sd, t5018_10, t5018_11, t5018_17⟩ := hk5018
          obtain ⟨rfl, rfl, rfl, rfl, rfl, rfl⟩ := hm.at hat5018 c5018_3 (by omega)
          have hm8 := hm.2.2.2.2.2.2.2
          have hP : va_P D vwCl [(w, .inr (9, [.int f5018_0, .ref bu, .int (nI ((κ4884 w).2.2.1)), .int (nI tl), .int (nI p), .int er1, .int f5018_6, .int f5018_7, .ref (κ4884 w).2.2.2, .ref f5018_9, .ref dr, .ref f5018_11, .int (nI f5018_12), .int f5018_13, .int 0, .int f5018_15, .int f5018_16, .ref f5018_17])), (dr, .inl (cs 0, 1383, .inl f4982))] _ := va_P.cons hat5018 hP
          refine va_get (D := D) (ci := 9) (v := .int f5018_6) (C := RX9) (T := TX9) (N := 18) hx hb hts iX9_load_9 hown hN.1 hP 0 rfl rfl 6 (by decide) (hts _ mX9_load_6) (fun _ h9 => h9) rfl dX9_load_137 ?_
          have hB : Bx B0 D _ [(w, .inr (9, [.int f5018_0, .ref bu, .int (nI ((κ4884 w).2.2.1)), .int (nI tl), .int (nI p), .int er1, .int f5018_6, .int f5018_7, .ref (κ4884 w).2.2.2, .ref f5018_9, .ref dr, .ref f5018_11, .int (nI f5018_12), .int f5018_13, .int 0, .int f5018_15, .int f5018_16, .ref f5018_17])), (dr, .inl (cs 0, 1383, .inl f4982))] [] _ _ := Bx.of (fun a => (κ4884 a).1) hL hP (fa_c hb5018 (fa_c hbd fa_n)) (by simp only [List.map_cons, List.map_nil, hw.1, hdT.1]; decide)
          refine b_put (D := D) (ci := 9) (v := .int f5018_6) (ty := .int) (C := RX9) (T := TX9) (N := 18) hx hb hts iX9_load_9 tyX9 tyX9_ok nmX9 hown hN hB 0 rfl rfl 7 (by decide) (hts _ mX9_load_11) (fun _ h9 => h9) rfl (by decide +kernel) rfl rfl (Nat.le_of_ble_eq_true rfl) (.inl rfl) dX9_load_140 (fun H locs hB => ?_)
          have hB : Bx B0 D _ [(w, .inr (9, [.int f5018_0, .ref bu, .int (nI ((κ4884 w).2.2.1)), .int (nI tl), .int (nI p), .int er1, .int f5018_6, .int f5018_6, .ref (κ4884 w).2.2.2, .ref f5018_9, .ref dr, .ref f5018_11, .int (nI f5018_12), .int f5018_13, .int 0, .int f5018_15, .int f5018_16, .ref f5018_17])), (dr, .inl (cs 0, 1383, .inl f4982))] [w] _ _ := hB
          refine lv_aload_n hx hb dX9_load_143 rfl (lv_at hl 0 rfl) ?_
          have hT : WT B0 D cs T κ4884 _ := hT.close hB ⟨⟨0, _, rfl, ok_10 hw.1 ⟨_, _, _, _, _, _, _, _, _, _, _, _, _, _, _, _, rfl, (by omega), (by omega), (by omega), (by omega), hbT, t5018_8, t5018_9, c5018_sd, hdT, t5018_11, t5018_17⟩⟩, trivial⟩
          have hF : Fr B0 [12, 17, 18] κ H0 _ := hF.closeN hB (fa_c (fun h9 => by rw [← (hKF _ h9).2, hw.2]; simp) fa_n)
          have hL : OkL B0 _ := hB.2.2.2.2.2
          have hP : va_P D vwCl [(w, .inr (9, [.int f5018_0, .ref bu, .int (nI ((κ4884 w).2.2.1)), .int (nI tl), .int (nI p), .int er1, .int f5018_6, .int f5018_6, .ref (κ4884 w).2.2.2, .ref f5018_9, .ref dr, .ref f5018_11, .int (nI f5018_12), .int f5018_13, .int 0, .int f5018_15, .int f5018_16, .ref f5018_17])), (dr, .inl (cs 0, 1383, .inl f4982))] _ := hB.1
          have hbu9 := (hm.2.2.2.2.2.2.1).kept (hB.2.2.2.1 _ hm.2.2.2.2.2.2.1.lt (by simp only [List.mem_cons, List.not_mem_nil, or_false, not_or]; exact ne_c hbT.1 hw.1 (by decide)))
          have hm : MF D cs w _ (p) (tl) (er1) (0) dr bu g := ⟨⟨_, hP 0 _ rfl, rfl⟩, ⟨_, hP 0 _ rfl, rfl⟩, ⟨_, hP 0 _ rfl, rfl⟩, ⟨_, hP 0 _ rfl, rfl⟩, ⟨_, hP 0 _ rfl, rfl⟩, ⟨_, hP 0 _ rfl, rfl⟩, hbu9, (by omega), (by omega)⟩
          refine cv_i (As := []) (rest := []) (b := w) ⟨hx, hb, hml, hown, hts⟩ (c_X9_isGood hT (w := w) hw hbT hdT hm) (cwV 0 hts gX9_load_X9_isGood rfl rfl rfl hdX9_isGood_v ⟨Nat.le_of_ble_eq_true rfl, Nat.le_of_ble_eq_true rfl⟩) hN hE hL (rcv10 hN hT hw.1) rfl rfl hl.1 (Nat.le_of_ble_eq_true rfl) dX9_load_144 (Nat.zero_le _) (Nat.zero_le _) (fun r5019 H1 locs hL hqr5019 => ?_)
          obtain ⟨h9, hqr5019⟩ := hqr5019; replace h9 := h9.symm; subst h9
          rcases hqr5019 with ⟨rfl, e5020⟩ | ⟨rfl, e5021⟩
          · exact absurd e5020 e4986
          · refine lv_if_ne (tgt := 155) hx hb dX9_load_147 (by decide) (fun c9 => absurd (by decide) c9) (fun _ => ?_)
            refine lv_aload_n hx hb dX9_load_150 rfl (lv_at hl 0 rfl) ?_
            refine va_get (D := D) (ci := 9) (v := .int er1) (C := RX9) (T := TX9) (N := 18) hx hb hts iX9_load_9 hown hN.1 hP 0 rfl rfl 5 (by decide) (hts _ mX9_load_5) (fun _ h9 => h9) rfl dX9_load_151 ?_
            exact en_i hx hb hr hlocks hL rfl (Nat.zero_le _) (Nat.zero_le _) dX9_load_154 (⟨hF, Or.inr ⟨l4875, g4876, hκ4884 ▸ hT⟩⟩)
