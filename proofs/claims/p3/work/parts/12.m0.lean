set_option maxHeartbeats 4000000 in
set_option maxRecDepth 100000 in
theorem c_X9_playerAt {l : Launch} {D : va_G} {cs : Nat → ClassId} {B0 T : Nat} {κ : KM} {H0 : Heap} (hT : WT B0 D cs T κ H0) {n : Nat} (qn : n < 8) : KC l yX9_playerAt wsX9_playerAt 0 0 0 0 D cs B0 H0 [.int (nI n)] (Qi (fun r H => H = H0 ∧ r = nI (23 + 12 * n))) := by
  refine KC.of cX9_playerAt 1 (some .int) (by decide) rfl (Nat.le_of_ble_eq_true rfl) ?_
  intro p e s m below meth c ls hx hb hr hml hown hts hlocks hin hN hE hH0 hl
  have hown : s.vm.findClass RX9 = some m.cls := hown
  have hl : lv_has ls 1 [(0, .int (nI n))] := hl
  have hL : OkL B0 [] := OkL.nil
  refine lv_bipush (v := 23) hx hb dX9_playerAt_0 (by decide) ?_
  refine lv_bipush (v := 12) hx hb dX9_playerAt_2 (by decide) ?_
  refine lv_iload_n hx hb dX9_playerAt_4 rfl (lv_at hl 0 rfl) ?_
  refine lv_imul hx hb dX9_playerAt_5 ?_
  refine tp_i (nI (12 * n)) (nI_mul 12 n) ?_
  refine lv_iadd hx hb dX9_playerAt_6 ?_
  refine tp_i (nI (23 + (12 * n))) (nI_add 23 (12 * n)) ?_
  exact en_i hx hb hr hlocks hL rfl (Nat.zero_le _) (Nat.zero_le _) dX9_playerAt_7 (⟨rfl, rfl⟩)
set_option maxHeartbeats 4000000 in
set_option maxRecDepth 100000 in
theorem c_X9_linkAt {l : Launch} {D : va_G} {cs : Nat → ClassId} {B0 T : Nat} {κ : KM} {H0 : Heap} (hT : WT B0 D cs T κ H0) {n : Nat} (qn : n < 8) {k : Nat} (qk : k < 8) : KC l yX9_linkAt wsX9_linkAt 0 0 0 0 D cs B0 H0 [.int (nI n), .int (nI k)] (Qi (fun r H => H = H0 ∧ r = nI (119 + 8 * n + k))) := by
  refine KC.of cX9_linkAt 2 (some .int) (by decide) rfl (Nat.le_of_ble_eq_true rfl) ?_
  intro p e s m below meth c ls hx hb hr hml hown hts hlocks hin hN hE hH0 hl
  have hown : s.vm.findClass RX9 = some m.cls := hown
  have hl : lv_has ls 2 [(0, .int (nI n)), (1, .int (nI k))] := hl
  have hL : OkL B0 [] := OkL.nil
  refine lv_bipush (v := 119) hx hb dX9_linkAt_0 (by decide) ?_
  refine lv_bipush (v := 8) hx hb dX9_linkAt_2 (by decide) ?_
  refine lv_iload_n hx hb dX9_linkAt_4 rfl (lv_at hl 0 rfl) ?_
  refine lv_imul hx hb dX9_linkAt_5 ?_
  refine tp_i (nI (8 * n)) (nI_mul 8 n) ?_
  refine lv_iadd hx hb dX9_linkAt_6 ?_
  refine tp_i (nI (119 + (8 * n))) (nI_add 119 (8 * n)) ?_
  refine lv_iload_n hx hb dX9_linkAt_7 rfl (lv_at hl 1 rfl) ?_
  refine lv_iadd hx hb dX9_linkAt_8 ?_
  refine tp_i (nI ((119 + (8 * n)) + k)) (nI_add (119 + (8 * n)) k) ?_
  exact en_i hx hb hr hlocks hL rfl (Nat.zero_le _) (Nat.zero_le _) dX9_linkAt_9 (⟨rfl, rfl⟩)
set_option maxHeartbeats 4000000 in
set_option maxRecDepth 100000 in
theorem c_X9_in {l : Launch} {D : va_G} {cs : Nat → ClassId} {B0 T : Nat} {κ : KM} {H0 : Heap} (hT : WT B0 D cs T κ H0) {x : Int32} {y : Int32} {z : Int32} : KC l yX9_in wsX9_in 0 0 0 0 D cs B0 H0 [.int x, .int y, .int z] (Qi (fun r H => H = H0 ∧ ((r = 0 ∧ (x < y ∨ z < x)) ∨ (r = 1 ∧ ¬ x < y ∧ ¬ z < x)))) := by
  refine KC.of cX9_in 3 (some .boolean) (by decide) rfl (Nat.le_of_ble_eq_true rfl) ?_
  intro p e s m below meth c ls hx hb hr hml hown hts hlocks hin hN hE hH0 hl
  have hown : s.vm.findClass RX9 = some m.cls := hown
  have hl : lv_has ls 3 [(0, .int x), (1, .int y), (2, .int z)] := hl
  have hL : OkL B0 [] := OkL.nil
  refine lv_iload_n hx hb dX9_in_0 rfl (lv_at hl 0 rfl) ?_
  refine lv_iload_n hx hb dX9_in_1 rfl (lv_at hl 1 rfl) ?_
  refine lv_icmp_lt (tgt := 14) hx hb dX9_in_2 (by decide) (fun c340 => ?_) (fun c340 => ?_)
  · refine lv_iconst (v := 0) hx hb dX9_in_14 (by decide) ?_
    exact en_i hx hb hr hlocks hL rfl (Nat.zero_le _) (Nat.zero_le _) dX9_in_15 (⟨rfl, Or.inl ⟨rfl, Or.inl c340⟩⟩)
  · refine lv_iload_n hx hb dX9_in_5 rfl (lv_at hl 0 rfl) ?_
    refine lv_iload_n hx hb dX9_in_6 rfl (lv_at hl 2 rfl) ?_
    refine lv_icmp_gt (tgt := 14) hx hb dX9_in_7 (by decide) (fun c341 => ?_) (fun c341 => ?_)
    · refine lv_iconst (v := 0) hx hb dX9_in_14 (by decide) ?_
      exact en_i hx hb hr hlocks hL rfl (Nat.zero_le _) (Nat.zero_le _) dX9_in_15 (⟨rfl, Or.inl ⟨rfl, Or.inr c341⟩⟩)
    · refine lv_iconst (v := 1) hx hb dX9_in_10 (by decide) ?_
      refine lv_goto (tgt := 15) hx hb dX9_in_11 (by decide) ?_
      exact en_i hx hb hr hlocks hL rfl (Nat.zero_le _) (Nat.zero_le _) dX9_in_15 (⟨rfl, Or.inr ⟨rfl, c340, c341⟩⟩)
set_option maxHeartbeats 4000000 in
set_option maxRecDepth 100000 in
theorem c_X9_min {l : Launch} {D : va_G} {cs : Nat → ClassId} {B0 T : Nat} {κ : KM} {H0 : Heap} (hT : WT B0 D cs T κ H0) {x : Int32} {y : Int32} : KC l yX9_min wsX9_min 0 0 0 0 D cs B0 H0 [.int x, .int y] (Qi (fun _ H => H = H0)) := by
  refine KC.of cX9_min 2 (some .int) (by decide) rfl (Nat.le_of_ble_eq_true rfl) ?_
  intro p e s m below meth c ls hx hb hr hml hown hts hlocks hin hN hE hH0 hl
  have hown : s.vm.findClass RX9 = some m.cls := hown
  have hl : lv_has ls 2 [(0, .int x), (1, .int y)] := hl
  have hL : OkL B0 [] := OkL.nil
  refine lv_iload_n hx hb dX9_min_0 rfl (lv_at hl 0 rfl) ?_
  refine lv_iload_n hx hb dX9_min_1 rfl (lv_at hl 1 rfl) ?_
  refine lv_icmp_ge (tgt := 9) hx hb dX9_min_2 (by decide) (fun c342 => ?_) (fun c342 => ?_)
  · refine lv_iload_n hx hb dX9_min_9 rfl (lv_at hl 1 rfl) ?_
    exact en_i hx hb hr hlocks hL rfl (Nat.zero_le _) (Nat.zero_le _) dX9_min_10 (rfl)
  · refine lv_iload_n hx hb dX9_min_5 rfl (lv_at hl 0 rfl) ?_
    refine lv_goto (tgt := 10) hx hb dX9_min_6 (by decide) ?_
    exact en_i hx hb hr hlocks hL rfl (Nat.zero_le _) (Nat.zero_le _) dX9_min_10 (rfl)
set_option maxHeartbeats 4000000 in
set_option maxRecDepth 100000 in
theorem c_X9_max {l : Launch} {D : va_G} {cs : Nat → ClassId} {B0 T : Nat} {κ : KM} {H0 : Heap} (hT : WT B0 D cs T κ H0) {x : Int32} {y : Int32} : KC l yX9_max wsX9_max 0 0 0 0 D cs B0 H0 [.int x, .int y] (Qi (fun _ H => H = H0)) := by
  refine KC.of cX9_max 2 (some .int) (by decide) rfl (Nat.le_of_ble_eq_true rfl) ?_
  intro p e s m below meth c ls hx hb hr hml hown hts hlocks hin hN hE hH0 hl
  have hown : s.vm.findClass RX9 = some m.cls := hown
  have hl : lv_has ls 2 [(0, .int x), (1, .int y)] := hl
  have hL : OkL B0 [] := OkL.nil
  refine lv_iload_n hx hb dX9_max_0 rfl (lv_at hl 0 rfl) ?_
  refine lv_iload_n hx hb dX9_max_1 rfl (lv_at hl 1 rfl) ?_
  refine lv_icmp_le (tgt := 9) hx hb dX9_max_2 (by decide) (fun c343 => ?_) (fun c343 => ?_)
  · refine lv_iload_n hx hb dX9_max_9 rfl (lv_at hl 1 rfl) ?_
    exact en_i hx hb hr hlocks hL rfl (Nat.zero_le _) (Nat.zero_le _) dX9_max_10 (rfl)
  · refine lv_iload_n hx hb dX9_max_5 rfl (lv_at hl 0 rfl) ?_
    refine lv_goto (tgt := 10) hx hb dX9_max_6 (by decide) ?_
    exact en_i hx hb hr hlocks hL rfl (Nat.zero_le _) (Nat.zero_le _) dX9_max_10 (rfl)
theorem mX9_fails_1 : (.fieldLink RX9 40 "OneBeatModel" "thrown" "I" : Cond) ∈ wsX9_fails := List.mem_of_getElem? (i := 1) (by decide +kernel)
theorem iX9_fails_9 : ∀ w ∈ wsX90, w ∈ wsX9_fails := fun w h => List.mem_of_mem_drop (List.mem_of_mem_take ((show wsX90 = (wsX9_fails.drop 2).take 18 by decide +kernel) ▸ h))
set_option maxHeartbeats 4000000 in
set_option maxRecDepth 100000 in
theorem c_X9_fails {l : Launch} {D : va_G} {cs : Nat → ClassId} {B0 T : Nat} {κ : KM} {H0 : Heap} (hT : WT B0 D cs T κ H0) {w : Nat} (hw : T2 κ w 10 12) {x : Int32} {z : Int32} (hz : ¬ z = 0) : KC l yX9_fails wsX9_fails 0 0 0 0 D cs B0 H0 [.ref w, .int x, .int z] (Qi (fun r H => WT B0 D cs T κ H ∧ Fr B0 [12] κ H0 H ∧ (r = 1 ∨ (r = 0 ∧ x = 0)))) := by
  refine KC.of cX9_fails 3 (some .boolean) (by decide) rfl (Nat.le_of_ble_eq_true rfl) ?_
  intro p e s m below meth c ls hx hb hr hml hown hts hlocks hin hN hE hH0 hl
  have hown : s.vm.findClass RX9 = some m.cls := hown
  have hl : lv_has ls 3 [(0, .ref w), (1, .int x), (2, .int z)] := hl
  have hL : OkL B0 [] := OkL.nil
  have hF : Fr B0 [12] κ H0 H0 := Fr.rf
  refine lv_iload_n hx hb dX9_fails_0 rfl (lv_at hl 1 rfl) ?_
  refine lv_if_eq (tgt := 16) hx hb dX9_fails_1 (by decide) (fun c344 => ?_) (fun c344 => ?_)
  · refine lv_aload_n hx hb dX9_fails_16 rfl (lv_at hl 0 rfl) ?_
    obtain ⟨hb345, e345, hat345, hk345⟩ := hT.o10 hw.1
    obtain ⟨f345_0, f345_1, f345_3, f345_4, f345_5, f345_6, f345_7, f345_9, f345_10, f345_11, f345_12, f345_13, f345_14, f345_15, f345_16, f345_17, rfl, c345_2, c345_3, c345_4, c345_12, t345_1, t345_8, t345_9, c345_sd, t345_10, t345_11, t345_17⟩ := hk345
    have hP : va_P D vwCl [(w, .inr (9, [.int f345_0, .ref f345_1, .int (nI ((κ w).2.2.1)), .int (nI f345_3), .int (nI f345_4), .int f345_5, .int f345_6, .int f345_7, .ref (κ w).2.2.2, .ref f345_9, .ref f345_10, .ref f345_11, .int (nI f345_12), .int f345_13, .int f345_14, .int f345_15, .int f345_16, .ref f345_17]))] _ := va_P.cons hat345 va_P.nil
    refine va_get (D := D) (ci := 9) (v := .int f345_0) (C := RX9) (T := TX9) (N := 18) hx hb hts iX9_fails_9 hown hN.1 hP 0 rfl rfl 0 (by decide) (hts _ mX9_fails_1) (fun _ h9 => h9) rfl dX9_fails_17 ?_
    refine lv_if_eq (tgt := 27) hx hb dX9_fails_20 (by decide) (fun c346 => ?_) (fun c346 => ?_)
    · refine lv_iconst (v := 0) hx hb dX9_fails_27 (by decide) ?_
      exact en_i hx hb hr hlocks hL rfl (Nat.zero_le _) (Nat.zero_le _) dX9_fails_28 (⟨hT, hF, Or.inr ⟨rfl, c344⟩⟩)
    · refine lv_iconst (v := 1) hx hb dX9_fails_23 (by decide) ?_
      refine lv_goto (tgt := 28) hx hb dX9_fails_24 (by decide) ?_
      exact en_i hx hb hr hlocks hL rfl (Nat.zero_le _) (Nat.zero_le _) dX9_fails_28 (⟨hT, hF, Or.inl rfl⟩)
  · refine lv_aload_n hx hb dX9_fails_4 rfl (lv_at hl 0 rfl) ?_
    obtain ⟨hb347, e347, hat347, hk347⟩ := hT.o10 hw.1
    obtain ⟨f347_0, f347_1, f347_3, f347_4, f347_5, f347_6, f347_7, f347_9, f347_10, f347_11, f347_12, f347_13, f347_14, f347_15, f347_16, f347_17, rfl, c347_2, c347_3, c347_4, c347_12, t347_1, t347_8, t347_9, c347_sd, t347_10, t347_11, t347_17⟩ := hk347
    have hP : va_P D vwCl [(w, .inr (9, [.int f347_0, .ref f347_1, .int (nI ((κ w).2.2.1)), .int (nI f347_3), .int (nI f347_4), .int f347_5, .int f347_6, .int f347_7, .ref (κ w).2.2.2, .ref f347_9, .ref f347_10, .ref f347_11, .int (nI f347_12), .int f347_13, .int f347_14, .int f347_15, .int f347_16, .ref f347_17]))] _ := va_P.cons hat347 va_P.nil
    refine va_get (D := D) (ci := 9) (v := .int f347_0) (C := RX9) (T := TX9) (N := 18) hx hb hts iX9_fails_9 hown hN.1 hP 0 rfl rfl 0 (by decide) (hts _ mX9_fails_1) (fun _ h9 => h9) rfl dX9_fails_5 ?_
    refine lv_if_ne (tgt := 16) hx hb dX9_fails_8 (by decide) (fun c348 => ?_) (fun c348 => ?_)
    · refine lv_aload_n hx hb dX9_fails_16 rfl (lv_at hl 0 rfl) ?_
      refine va_get (D := D) (ci := 9) (v := .int f347_0) (C := RX9) (T := TX9) (N := 18) hx hb hts iX9_fails_9 hown hN.1 hP 0 rfl rfl 0 (by decide) (hts _ mX9_fails_1) (fun _ h9 => h9) rfl dX9_fails_17 ?_
      refine lv_if_eq (tgt := 27) hx hb dX9_fails_20 (by decide) (fun c349 => ?_) (fun c349 => ?_)
      · exact absurd c349 c348
      · refine lv_iconst (v := 1) hx hb dX9_fails_23 (by decide) ?_
        refine lv_goto (tgt := 28) hx hb dX9_fails_24 (by decide) ?_
        exact en_i hx hb hr hlocks hL rfl (Nat.zero_le _) (Nat.zero_le _) dX9_fails_28 (⟨hT, hF, Or.inl rfl⟩)
    · refine lv_aload_n hx hb dX9_fails_11 rfl (lv_at hl 0 rfl) ?_
      refine lv_iload_n hx hb dX9_fails_12 rfl (lv_at hl 2 rfl) ?_
      have hB : Bx B0 D _ [(w, .inr (9, [.int f347_0, .ref f347_1, .int (nI ((κ w).2.2.1)), .int (nI f347_3), .int (nI f347_4), .int f347_5, .int f347_6, .int f347_7, .ref (κ w).2.2.2, .ref f347_9, .ref f347_10, .ref f347_11, .int (nI f347_12), .int f347_13, .int f347_14, .int f347_15, .int f347_16, .ref f347_17]))] [] _ _ := Bx.of (fun a => (κ a).1) hL hP (fa_c hb347 fa_n) (by simp only [List.map_cons, List.map_nil, hw.1]; decide)
      refine b_put (D := D) (ci := 9) (v := .int z) (ty := .int) (C := RX9) (T := TX9) (N := 18) hx hb hts iX9_fails_9 tyX9 tyX9_ok nmX9 hown hN hB 0 rfl rfl 0 (by decide) (hts _ mX9_fails_1) (fun _ h9 => h9) rfl (by decide +kernel) rfl rfl (Nat.le_of_ble_eq_true rfl) (.inl rfl) dX9_fails_13 (fun H locs hB => ?_)
      have hB : Bx B0 D _ [(w, .inr (9, [.int z, .ref f347_1, .int (nI ((κ w).2.2.1)), .int (nI f347_3), .int (nI f347_4), .int f347_5, .int f347_6, .int f347_7, .ref (κ w).2.2.2, .ref f347_9, .ref f347_10, .ref f347_11, .int (nI f347_12), .int f347_13, .int f347_14, .int f347_15, .int f347_16, .ref f347_17]))] [w] _ _ := hB
      refine lv_aload_n hx hb dX9_fails_16 rfl (lv_at hl 0 rfl) ?_
      refine va_get (D := D) (ci := 9) (v := .int z) (C := RX9) (T := TX9) (N := 18) hx hb hts iX9_fails_9 hown hN.1 hB.1 0 rfl rfl 0 (by decide) (hts _ mX9_fails_1) (fun _ h9 => h9) rfl dX9_fails_17 ?_
      refine lv_if_eq (tgt := 27) hx hb dX9_fails_20 (by decide) (fun c350 => ?_) (fun c350 => ?_)
      · exact absurd c350 hz
      · refine lv_iconst (v := 1) hx hb dX9_fails_23 (by decide) ?_
        refine lv_goto (tgt := 28) hx hb dX9_fails_24 (by decide) ?_
        have hT : WT B0 D cs T κ _ := hT.close hB ⟨⟨0, _, rfl, ok_10 hw.1 ⟨_, _, _, _, _, _, _, _, _, _, _, _, _, _, _, _, rfl, (by omega), (by omega), (by omega), (by omega), t347_1, t347_8, t347_9, c347_sd, t347_10, t347_11, t347_17⟩⟩, trivial⟩
        have hF : Fr B0 [12] κ H0 _ := hF.close hB (fa_c (by simp [hw.2]) fa_n)
        have hL : OkL B0 _ := hB.2.2.2.2.2
        have hP : va_P D vwCl [(w, .inr (9, [.int z, .ref f347_1, .int (nI ((κ w).2.2.1)), .int (nI f347_3), .int (nI f347_4), .int f347_5, .int f347_6, .int f347_7, .ref (κ w).2.2.2, .ref f347_9, .ref f347_10, .ref f347_11, .int (nI f347_12), .int f347_13, .int f347_14, .int f347_15, .int f347_16, .ref f347_17]))] _ := hB.1
        exact en_i hx hb hr hlocks hL rfl (Nat.zero_le _) (Nat.zero_le _) dX9_fails_28 (⟨hT, hF, Or.inl rfl⟩)
theorem mX9_of_1 : (.fieldLink RX9 18 "OneBeatModel" "data" "[I" : Cond) ∈ wsX9_of := List.mem_of_getElem? (i := 1) (by decide +kernel)
theorem iX9_of_9 : ∀ w ∈ wsX90, w ∈ wsX9_of := fun w h => List.mem_of_mem_drop (List.mem_of_mem_take ((show wsX90 = (wsX9_of.drop 6).take 18 by decide +kernel) ▸ h))
theorem hdX9_playerAt_o : yX9_playerAt.cls ≠ "java/lang/invoke/MethodHandle" ∧ yX9_playerAt.cls ≠ "java/lang/invoke/VarHandle" ∧ (parseMethodDescriptor yX9_playerAt.desc).map (fun d => d.parameters.length) = some 1 := by decide +kernel
set_option maxHeartbeats 4000000 in
set_option maxRecDepth 100000 in
theorem c_X9_of {l : Launch} {D : va_G} {cs : Nat → ClassId} {B0 T : Nat} {κ : KM} {H0 : Heap} (hT : WT B0 D cs T κ H0) {w : Nat} (hw : T2 κ w 10 12) {n : Nat} (qn : n < 8) {k : Nat} (qk : k < 12) : KC l yX9_of wsX9_of 1 20 0 0 D cs B0 H0 [.ref w, .int (nI n), .int (nI k)] (Qi (fun _ H => H = H0)) := by
  refine KC.of cX9_of 3 (some .int) (by decide) rfl (Nat.le_of_ble_eq_true rfl) ?_
  intro p e s m below meth c ls hx hb hr hml hown hts hlocks hin hN hE hH0 hl
  have hown : s.vm.findClass RX9 = some m.cls := hown
  have hl : lv_has ls 3 [(0, .ref w), (1, .int (nI n)), (2, .int (nI k))] := hl
  have hL : OkL B0 [] := OkL.nil
  refine lv_aload_n hx hb dX9_of_0 rfl (lv_at hl 0 rfl) ?_
  obtain ⟨hb351, e351, hat351, hk351⟩ := hT.o10 hw.1
  obtain ⟨f351_0, f351_1, f351_3, f351_4, f351_5, f351_6, f351_7, f351_9, f351_10, f351_11, f351_12, f351_13, f351_14, f351_15, f351_16, f351_17, rfl, c351_2, c351_3, c351_4, c351_12, t351_1, t351_8, t351_9, c351_sd, t351_10, t351_11, t351_17⟩ := hk351
  have hP : va_P D vwCl [(w, .inr (9, [.int f351_0, .ref f351_1, .int (nI ((κ w).2.2.1)), .int (nI f351_3), .int (nI f351_4), .int f351_5, .int f351_6, .int f351_7, .ref (κ w).2.2.2, .ref f351_9, .ref f351_10, .ref f351_11, .int (nI f351_12), .int f351_13, .int f351_14, .int f351_15, .int f351_16, .ref f351_17]))] _ := va_P.cons hat351 va_P.nil
  refine va_get (D := D) (ci := 9) (v := .ref (κ w).2.2.2) (C := RX9) (T := TX9) (N := 18) hx hb hts iX9_of_9 hown hN.1 hP 0 rfl rfl 8 (by decide) (hts _ mX9_of_1) (fun _ h9 => h9) rfl dX9_of_1 ?_
  refine lv_iload_n hx hb dX9_of_4 rfl (lv_at hl 1 rfl) ?_
  refine cs_i (As := [.int (nI n)]) (rest := [.ref (κ w).2.2.2]) ⟨hx, hb, hml, hown, hts⟩ (c_X9_playerAt hT (n := n) (by first | omega | decide | assumption)) (va_cwS 1 hts gX9_of_X9_playerAt rfl rfl rfl hdX9_playerAt_o ⟨Nat.le_of_ble_eq_true rfl, Nat.le_of_ble_eq_true rfl⟩) hN hE hL rfl rfl hl.1 (Nat.le_of_ble_eq_true rfl) dX9_of_5 (Nat.zero_le _) (Nat.zero_le _) (fun r352 H1 locs hL hqr352 => ?_)
  obtain ⟨h9, hqr352⟩ := hqr352; replace h9 := h9.symm; subst h9
  obtain rfl := hqr352
  refine lv_iload_n hx hb dX9_of_8 rfl (lv_at hl 2 rfl) ?_
  refine lv_iadd hx hb dX9_of_9 ?_
  refine tp_i (nI ((23 + 12 * n) + k)) (nI_add (23 + 12 * n) k) ?_
  obtain ⟨hb353, e353, hat353, hk353⟩ := hT.o24 t351_8.1
  obtain ⟨g353, rfl, q353⟩ := hk353
  have hP : va_P D vwCl [((κ w).2.2.2, .inl (cs 0, 45783, .inl g353)), (w, .inr (9, [.int f351_0, .ref f351_1, .int (nI ((κ w).2.2.1)), .int (nI f351_3), .int (nI f351_4), .int f351_5, .int f351_6, .int f351_7, .ref (κ w).2.2.2, .ref f351_9, .ref f351_10, .ref f351_11, .int (nI f351_12), .int f351_13, .int f351_14, .int f351_15, .int f351_16, .ref f351_17]))] _ := va_P.cons hat353 hP
  refine ld_i (v := (g353 ((23 + 12 * n) + k))) hx hb hN hP 0 rfl (vp_in_nI (n := ((23 + 12 * n) + k)) (N := 45783) (by omega) (by omega)) (by rw [(show ((nI ((23 + 12 * n) + k)) : Int32).toNatClampNeg = ((23 + 12 * n) + k) from nI_clamp (n := ((23 + 12 * n) + k)) (by omega))]) dX9_of_10 ?_
  refine gn_i (fun x354 => ?_)
  exact en_i hx hb hr hlocks hL rfl (Nat.zero_le _) (Nat.zero_le _) dX9_of_11 (rfl)
theorem mX9_set_1 : (.fieldLink RX9 18 "OneBeatModel" "data" "[I" : Cond) ∈ wsX9_set := List.mem_of_getElem? (i := 1) (by decide +kernel)
theorem iX9_set_9 : ∀ w ∈ wsX90, w ∈ wsX9_set := fun w h => List.mem_of_mem_drop (List.mem_of_mem_take ((show wsX90 = (wsX9_set.drop 6).take 18 by decide +kernel) ▸ h))
set_option maxHeartbeats 4000000 in
set_option maxRecDepth 100000 in
theorem c_X9_set {l : Launch} {D : va_G} {cs : Nat → ClassId} {B0 T : Nat} {κ : KM} {H0 : Heap} (hT : WT B0 D cs T κ H0) {w : Nat} (hw : T2 κ w 10 12) {n : Nat} (qn : n < 8) {k : Nat} (qk : k < 12) {x : Int32} : KC l yX9_set wsX9_set 1 20 0 0 D cs B0 H0 [.ref w, .int (nI n), .int (nI k), .int x] (Qv (fun H => WT B0 D cs T κ H ∧ Fr B0 [18] κ H0 H)) := by
  refine KC.of cX9_set 4 none (by decide) rfl (Nat.le_of_ble_eq_true rfl) ?_
  intro p e s m below meth c ls hx hb hr hml hown hts hlocks hin hN hE hH0 hl
  have hown : s.vm.findClass RX9 = some m.cls := hown
  have hl : lv_has ls 4 [(0, .ref w), (1, .int (nI n)), (2, .int (nI k)), (3, .int x)] := hl
  have hL : OkL B0 [] := OkL.nil
  have hF : Fr B0 [18] κ H0 H0 := Fr.rf
  refine lv_aload_n hx hb dX9_set_0 rfl (lv_at hl 0 rfl) ?_
  obtain ⟨hb355, e355, hat355, hk355⟩ := hT.o10 hw.1
  obtain ⟨f355_0, f355_1, f355_3, f355_4, f355_5, f355_6, f355_7, f355_9, f355_10, f355_11, f355_12, f355_13, f355_14, f355_15, f355_16, f355_17, rfl, c355_2, c355_3, c355_4, c355_12, t355_1, t355_8, t355_9, c355_sd, t355_10, t355_11, t355_17⟩ := hk355
  have hP : va_P D vwCl [(w, .inr (9, [.int f355_0, .ref f355_1, .int (nI ((κ w).2.2.1)), .int (nI f355_3), .int (nI f355_4), .int f355_5, .int f355_6, .int f355_7, .ref (κ w).2.2.2, .ref f355_9, .ref f355_10, .ref f355_11, .int (nI f355_12), .int f355_13, .int f355_14, .int f355_15, .int f355_16, .ref f355_17]))] _ := va_P.cons hat355 va_P.nil
  refine va_get (D := D) (ci := 9) (v := .ref (κ w).2.2.2) (C := RX9) (T := TX9) (N := 18) hx hb hts iX9_set_9 hown hN.1 hP 0 rfl rfl 8 (by decide) (hts _ mX9_set_1) (fun _ h9 => h9) rfl dX9_set_1 ?_
  refine lv_iload_n hx hb dX9_set_4 rfl (lv_at hl 1 rfl) ?_
  refine cs_i (As := [.int (nI n)]) (rest := [.ref (κ w).2.2.2]) ⟨hx, hb, hml, hown, hts⟩ (c_X9_playerAt hT (n := n) (by first | omega | decide | assumption)) (va_cwS 1 hts gX9_set_X9_playerAt rfl rfl rfl hdX9_playerAt_o ⟨Nat.le_of_ble_eq_true rfl, Nat.le_of_ble_eq_true rfl⟩) hN hE hL rfl rfl hl.1 (Nat.le_of_ble_eq_true rfl) dX9_set_5 (Nat.zero_le _) (Nat.zero_le _) (fun r356 H1 locs hL hqr356 => ?_)
  obtain ⟨h9, hqr356⟩ := hqr356; replace h9 := h9.symm; subst h9
  obtain rfl := hqr356
  refine lv_iload_n hx hb dX9_set_8 rfl (lv_at hl 2 rfl) ?_
  refine lv_iadd hx hb dX9_set_9 ?_
  refine tp_i (nI ((23 + 12 * n) + k)) (nI_add (23 + 12 * n) k) ?_
  refine lv_iload_n hx hb dX9_set_10 rfl (lv_at hl 3 rfl) ?_
  obtain ⟨hb357, e357, hat357, hk357⟩ := hT.o24 t355_8.1
  obtain ⟨g357, rfl, q357⟩ := hk357
  have hP : va_P D vwCl [((κ w).2.2.2, .inl (cs 0, 45783, .inl g357)), (w, .inr (9, [.int f355_0, .ref f355_1, .int (nI ((κ w).2.2.1)), .int (nI f355_3), .int (nI f355_4), .int f355_5, .int f355_6, .int f355_7, .ref (κ w).2.2.2, .ref f355_9, .ref f355_10, .ref f355_11, .int (nI f355_12), .int f355_13, .int f355_14, .int f355_15, .int f355_16, .ref f355_17]))] _ := va_P.cons hat357 hP
  have hB : Bx B0 D _ [((κ w).2.2.2, .inl (cs 0, 45783, .inl g357)), (w, .inr (9, [.int f355_0, .ref f355_1, .int (nI ((κ w).2.2.1)), .int (nI f355_3), .int (nI f355_4), .int f355_5, .int f355_6, .int f355_7, .ref (κ w).2.2.2, .ref f355_9, .ref f355_10, .ref f355_11, .int (nI f355_12), .int f355_13, .int f355_14, .int f355_15, .int f355_16, .ref f355_17]))] [] _ _ := Bx.of (fun a => (κ a).1) hL hP (fa_c hb357 (fa_c hb355 fa_n)) (by simp only [List.map_cons, List.map_nil, t355_8.1, hw.1]; decide)
  refine b_i hx hb hN hB 0 rfl (vp_in_nI (n := ((23 + 12 * n) + k)) (N := 45783) (by omega) (by omega)) (.inl rfl) dX9_set_11 (fun H locs hB => ?_)
  rw [(show ((nI ((23 + 12 * n) + k)) : Int32).toNatClampNeg = ((23 + 12 * n) + k) from nI_clamp (n := ((23 + 12 * n) + k)) (by omega))] at hB
  have hB : Bx B0 D _ [((κ w).2.2.2, .inl (cs 0, 45783, .inl (upd g357 ((23 + 12 * n) + k) x))), (w, .inr (9, [.int f355_0, .ref f355_1, .int (nI ((κ w).2.2.1)), .int (nI f355_3), .int (nI f355_4), .int f355_5, .int f355_6, .int f355_7, .ref (κ w).2.2.2, .ref f355_9, .ref f355_10, .ref f355_11, .int (nI f355_12), .int f355_13, .int f355_14, .int f355_15, .int f355_16, .ref f355_17]))] [(κ w).2.2.2] _ _ := hB
  have z358 := DOK.sf q357 (k := ((23 + 12 * n) + k)) (by omega) (x := x)
  have hT : WT B0 D cs T κ _ := hT.close hB ⟨⟨0, _, rfl, ok_24 t355_8.1 ⟨_, rfl, z358⟩⟩, trivial⟩
  have hF : Fr B0 [18] κ H0 _ := hF.close hB (fa_c (by simp [t355_8.2]) fa_n)
  have hL : OkL B0 _ := hB.2.2.2.2.2
  have hP : va_P D vwCl [((κ w).2.2.2, .inl (cs 0, 45783, .inl (upd g357 ((23 + 12 * n) + k) x))), (w, .inr (9, [.int f355_0, .ref f355_1, .int (nI ((κ w).2.2.1)), .int (nI f355_3), .int (nI f355_4), .int f355_5, .int f355_6, .int f355_7, .ref (κ w).2.2.2, .ref f355_9, .ref f355_10, .ref f355_11, .int (nI f355_12), .int f355_13, .int f355_14, .int f355_15, .int f355_16, .ref f355_17]))] _ := hB.1
  exact en_v hx hb hr hlocks hL (Nat.zero_le _) (Nat.zero_le _) dX9_set_12 (⟨hT, hF⟩)
theorem hdX9_of_v : yX9_of.cls = RX9 ∧ yX9_of.cls ≠ "java/lang/invoke/MethodHandle" ∧ yX9_of.cls ≠ "java/lang/invoke/VarHandle" ∧ (parseMethodDescriptor yX9_of.desc).map (fun d => d.parameters.length) = some 2 := by decide +kernel
set_option maxHeartbeats 4000000 in
set_option maxRecDepth 100000 in
theorem c_X9_isUp {l : Launch} {D : va_G} {cs : Nat → ClassId} {B0 T : Nat} {κ : KM} {H0 : Heap} (hT : WT B0 D cs T κ H0) {w : Nat} (hw : T2 κ w 10 12) {n : Nat} (qn : n < 8) : KC l yX9_isUp wsX9_isUp 2 42 0 0 D cs B0 H0 [.ref w, .int (nI n)] (Qi (fun r H => H = H0 ∧ (r = 0 ∨ r = 1))) := by
  refine KC.of cX9_isUp 2 (some .boolean) (by decide) rfl (Nat.le_of_ble_eq_true rfl) ?_
  intro p e s m below meth c ls hx hb hr hml hown hts hlocks hin hN hE hH0 hl
  have hown : s.vm.findClass RX9 = some m.cls := hown
  have hl : lv_has ls 2 [(0, .ref w), (1, .int (nI n))] := hl
  have hL : OkL B0 [] := OkL.nil
  refine lv_aload_n hx hb dX9_isUp_0 rfl (lv_at hl 0 rfl) ?_
  refine lv_iload_n hx hb dX9_isUp_1 rfl (lv_at hl 1 rfl) ?_
  refine lv_iconst (v := 0) hx hb dX9_isUp_2 (by decide) ?_
  refine cv_i (As := [.int (nI n), .int 0]) (rest := []) (b := w) ⟨hx, hb, hml, hown, hts⟩ (c_X9_of hT (w := w) hw (n := n) (k := 0) (by first | omega | decide | assumption) (by first | omega | decide | assumption)) (cwV 2 hts gX9_isUp_X9_of rfl rfl rfl hdX9_of_v ⟨Nat.le_of_ble_eq_true rfl, Nat.le_of_ble_eq_true rfl⟩) hN hE hL (rcv10 hN hT hw.1) rfl rfl hl.1 (Nat.le_of_ble_eq_true rfl) dX9_isUp_3 (Nat.zero_le _) (Nat.zero_le _) (fun r359 H1 locs hL hqr359 => ?_)
  obtain rfl := hqr359.symm
  refine lv_iconst (v := 1) hx hb dX9_isUp_6 (by decide) ?_
  refine lv_icmp_ne (tgt := 14) hx hb dX9_isUp_7 (by decide) (fun c360 => ?_) (fun c360 => ?_)
  · refine lv_iconst (v := 0) hx hb dX9_isUp_14 (by decide) ?_
    exact en_i hx hb hr hlocks hL rfl (Nat.zero_le _) (Nat.zero_le _) dX9_isUp_15 (⟨rfl, Or.inl rfl⟩)
  · refine lv_iconst (v := 1) hx hb dX9_isUp_10 (by decide) ?_
    refine lv_goto (tgt := 15) hx hb dX9_isUp_11 (by decide) ?_
    exact en_i hx hb hr hlocks hL rfl (Nat.zero_le _) (Nat.zero_le _) dX9_isUp_15 (⟨rfl, Or.inr rfl⟩)
theorem mX9_clock_1 : (.fieldLink RX9 18 "OneBeatModel" "data" "[I" : Cond) ∈ wsX9_clock := List.mem_of_getElem? (i := 1) (by decide +kernel)
theorem iX9_clock_9 : ∀ w ∈ wsX90, w ∈ wsX9_clock := fun w h => List.mem_of_mem_drop (List.mem_of_mem_take ((show wsX90 = (wsX9_clock.drop 10).take 18 by decide +kernel) ▸ h))
set_option maxHeartbeats 4000000 in
set_option maxRecDepth 100000 in
theorem c_X9_clock {l : Launch} {D : va_G} {cs : Nat → ClassId} {B0 T : Nat} {κ : KM} {H0 : Heap} (hT : WT B0 D cs T κ H0) {w : Nat} (hw : T2 κ w 10 12) {n : Nat} (qn : n < 8) : KC l yX9_clock wsX9_clock 2 42 0 0 D cs B0 H0 [.ref w, .int (nI n)] (Qi (fun _ H => H = H0)) := by
  refine KC.of cX9_clock 2 (some .int) (by decide) rfl (Nat.le_of_ble_eq_true rfl) ?_
  intro p e s m below meth c ls hx hb hr hml hown hts hlocks hin hN hE hH0 hl
  have hown : s.vm.findClass RX9 = some m.cls := hown
  have hl : lv_has ls 2 [(0, .ref w), (1, .int (nI n))] := hl
  have hL : OkL B0 [] := OkL.nil
  refine lv_aload_n hx hb dX9_clock_0 rfl (lv_at hl 0 rfl) ?_
  obtain ⟨hb361, e361, hat361, hk361⟩ := hT.o10 hw.1
  obtain ⟨f361_0, f361_1, f361_3, f361_4, f361_5, f361_6, f361_7, f361_9, f361_10, f361_11, f361_12, f361_13, f361_14, f361_15, f361_16, f361_17, rfl, c361_2, c361_3, c361_4, c361_12, t361_1, t361_8, t361_9, c361_sd, t361_10, t361_11, t361_17⟩ := hk361
  have hP : va_P D vwCl [(w, .inr (9, [.int f361_0, .ref f361_1, .int (nI ((κ w).2.2.1)), .int (nI f361_3), .int (nI f361_4), .int f361_5, .int f361_6, .int f361_7, .ref (κ w).2.2.2, .ref f361_9, .ref f361_10, .ref f361_11, .int (nI f361_12), .int f361_13, .int f361_14, .int f361_15, .int f361_16, .ref f361_17]))] _ := va_P.cons hat361 va_P.nil
  refine va_get (D := D) (ci := 9) (v := .ref (κ w).2.2.2) (C := RX9) (T := TX9) (N := 18) hx hb hts iX9_clock_9 hown hN.1 hP 0 rfl rfl 8 (by decide) (hts _ mX9_clock_1) (fun _ h9 => h9) rfl dX9_clock_1 ?_
  refine lv_iconst (v := 1) hx hb dX9_clock_4 (by decide) ?_
  obtain ⟨hb362, e362, hat362, hk362⟩ := hT.o24 t361_8.1
  obtain ⟨g362, rfl, q362⟩ := hk362
  have hP : va_P D vwCl [((κ w).2.2.2, .inl (cs 0, 45783, .inl g362)), (w, .inr (9, [.int f361_0, .ref f361_1, .int (nI ((κ w).2.2.1)), .int (nI f361_3), .int (nI f361_4), .int f361_5, .int f361_6, .int f361_7, .ref (κ w).2.2.2, .ref f361_9, .ref f361_10, .ref f361_11, .int (nI f361_12), .int f361_13, .int f361_14, .int f361_15, .int f361_16, .ref f361_17]))] _ := va_P.cons hat362 hP
  refine ld_i (v := (g362 1)) hx hb hN hP 0 rfl (vp_in_nI (n := 1) (N := 45783) (by omega) (by omega)) (by rw [(show (1 : Int32).toNatClampNeg = 1 from nI_clamp (n := 1) (by omega))]) dX9_clock_5 ?_
  refine gn_i (fun x363 => ?_)
  refine lv_aload_n hx hb dX9_clock_6 rfl (lv_at hl 0 rfl) ?_
  refine lv_iload_n hx hb dX9_clock_7 rfl (lv_at hl 1 rfl) ?_
  refine lv_iconst (v := 1) hx hb dX9_clock_8 (by decide) ?_
  refine cv_i (As := [.int (nI n), .int 1]) (rest := [.int x363]) (b := w) ⟨hx, hb, hml, hown, hts⟩ (c_X9_of hT (w := w) hw (n := n) (k := 1) (by first | omega | decide | assumption) (by first | omega | decide | assumption)) (cwV 2 hts gX9_clock_X9_of rfl rfl rfl hdX9_of_v ⟨Nat.le_of_ble_eq_true rfl, Nat.le_of_ble_eq_true rfl⟩) hN hE hL (rcv10 hN hT hw.1) rfl rfl hl.1 (Nat.le_of_ble_eq_true rfl) dX9_clock_9 (Nat.zero_le _) (Nat.zero_le _) (fun r364 H1 locs hL hqr364 => ?_)
  obtain rfl := hqr364.symm
  refine lv_iadd hx hb dX9_clock_12 ?_
  refine gn_i (fun x365 => ?_)
  refine lv_aload_n hx hb dX9_clock_13 rfl (lv_at hl 0 rfl) ?_
  refine va_get (D := D) (ci := 9) (v := .ref (κ w).2.2.2) (C := RX9) (T := TX9) (N := 18) hx hb hts iX9_clock_9 hown hN.1 hP 1 rfl rfl 8 (by decide) (hts _ mX9_clock_1) (fun _ h9 => h9) rfl dX9_clock_14 ?_
  refine lv_iconst (v := 1) hx hb dX9_clock_17 (by decide) ?_
  refine ld_i (v := (g362 1)) hx hb hN hP 0 rfl (vp_in_nI (n := 1) (N := 45783) (by omega) (by omega)) (by rw [(show (1 : Int32).toNatClampNeg = 1 from nI_clamp (n := 1) (by omega))]) dX9_clock_18 ?_
  refine gn_i (fun x366 => ?_)
  refine lv_aload_n hx hb dX9_clock_19 rfl (lv_at hl 0 rfl) ?_
  refine lv_iload_n hx hb dX9_clock_20 rfl (lv_at hl 1 rfl) ?_
  refine lv_iconst (v := 2) hx hb dX9_clock_21 (by decide) ?_
  refine cv_i (As := [.int (nI n), .int 2]) (rest := [.int x366, .int x365]) (b := w) ⟨hx, hb, hml, hown, hts⟩ (c_X9_of hT (w := w) hw (n := n) (k := 2) (by first | omega | decide | assumption) (by first | omega | decide | assumption)) (cwV 2 hts gX9_clock_X9_of rfl rfl rfl hdX9_of_v ⟨Nat.le_of_ble_eq_true rfl, Nat.le_of_ble_eq_true rfl⟩) hN hE hL (rcv10 hN hT hw.1) rfl rfl hl.1 (Nat.le_of_ble_eq_true rfl) dX9_clock_22 (Nat.zero_le _) (Nat.zero_le _) (fun r367 H1 locs hL hqr367 => ?_)
  obtain rfl := hqr367.symm
  refine lv_imul hx hb dX9_clock_25 ?_
  refine gn_i (fun x368 => ?_)
  refine lv_sipush (v := 1000) hx hb dX9_clock_26 (by decide) ?_
  refine lv_idiv hx hb dX9_clock_29 (by decide) ?_
  refine gn_i (fun x369 => ?_)
  refine lv_iadd hx hb dX9_clock_30 ?_
  refine gn_i (fun x370 => ?_)
  exact en_i hx hb hr hlocks hL rfl (Nat.zero_le _) (Nat.zero_le _) dX9_clock_31 (rfl)
theorem hdX9_clock_v : yX9_clock.cls = RX9 ∧ yX9_clock.cls ≠ "java/lang/invoke/MethodHandle" ∧ yX9_clock.cls ≠ "java/lang/invoke/VarHandle" ∧ (parseMethodDescriptor yX9_clock.desc).map (fun d => d.parameters.length) = some 1 := by decide +kernel
set_option maxHeartbeats 4000000 in
set_option maxRecDepth 100000 in
theorem c_X9_estimate {l : Launch} {D : va_G} {cs : Nat → ClassId} {B0 T : Nat} {κ : KM} {H0 : Heap} (hT : WT B0 D cs T κ H0) {w : Nat} (hw : T2 κ w 10 12) {n : Nat} (qn : n < 8) : KC l yX9_estimate wsX9_estimate 3 63 0 0 D cs B0 H0 [.ref w, .int (nI n)] (Qi (fun _ H => H = H0)) := by
  refine KC.of cX9_estimate 2 (some .int) (by decide) rfl (Nat.le_of_ble_eq_true rfl) ?_
  intro p e s m below meth c ls hx hb hr hml hown hts hlocks hin hN hE hH0 hl
  have hown : s.vm.findClass RX9 = some m.cls := hown
  have hl : lv_has ls 2 [(0, .ref w), (1, .int (nI n))] := hl
  have hL : OkL B0 [] := OkL.nil
  refine lv_aload_n hx hb dX9_estimate_0 rfl (lv_at hl 0 rfl) ?_
  refine lv_iload_n hx hb dX9_estimate_1 rfl (lv_at hl 1 rfl) ?_
  refine cv_i (As := [.int (nI n)]) (rest := []) (b := w) ⟨hx, hb, hml, hown, hts⟩ (c_X9_clock hT (w := w) hw (n := n) (by first | omega | decide | assumption)) (cwV 1 hts gX9_estimate_X9_clock rfl rfl rfl hdX9_clock_v ⟨Nat.le_of_ble_eq_true rfl, Nat.le_of_ble_eq_true rfl⟩) hN hE hL (rcv10 hN hT hw.1) rfl rfl hl.1 (Nat.le_of_ble_eq_true rfl) dX9_estimate_2 (Nat.zero_le _) (Nat.zero_le _) (fun r371 H1 locs hL hqr371 => ?_)
  obtain rfl := hqr371.symm
  refine lv_aload_n hx hb dX9_estimate_5 rfl (lv_at hl 0 rfl) ?_
  refine lv_iload_n hx hb dX9_estimate_6 rfl (lv_at hl 1 rfl) ?_
  refine lv_iconst (v := 3) hx hb dX9_estimate_7 (by decide) ?_
  refine cv_i (As := [.int (nI n), .int 3]) (rest := [.int r371]) (b := w) ⟨hx, hb, hml, hown, hts⟩ (c_X9_of hT (w := w) hw (n := n) (k := 3) (by first | omega | decide | assumption) (by first | omega | decide | assumption)) (cwV 2 hts gX9_estimate_X9_of rfl rfl rfl hdX9_of_v ⟨Nat.le_of_ble_eq_true rfl, Nat.le_of_ble_eq_true rfl⟩) hN hE hL (rcv10 hN hT hw.1) rfl rfl hl.1 (Nat.le_of_ble_eq_true rfl) dX9_estimate_8 (Nat.zero_le _) (Nat.zero_le _) (fun r372 H1 locs hL hqr372 => ?_)
  obtain rfl := hqr372.symm
  refine lv_iadd hx hb dX9_estimate_11 ?_
  refine gn_i (fun x373 => ?_)
  exact en_i hx hb hr hlocks hL rfl (Nat.zero_le _) (Nat.zero_le _) dX9_estimate_12 (rfl)
theorem mX9_longestDelay_1 : (.fieldLink RX9 18 "OneBeatModel" "data" "[I" : Cond) ∈ wsX9_longestDelay := List.mem_of_getElem? (i := 1) (by decide +kernel)
theorem iX9_longestDelay_9 : ∀ w ∈ wsX90, w ∈ wsX9_longestDelay := fun w h => List.mem_of_mem_drop (List.mem_of_mem_take ((show wsX90 = (wsX9_longestDelay.drop 6).take 18 by decide +kernel) ▸ h))
theorem hdX9_max_o : yX9_max.cls ≠ "java/lang/invoke/MethodHandle" ∧ yX9_max.cls ≠ "java/lang/invoke/VarHandle" ∧ (parseMethodDescriptor yX9_max.desc).map (fun d => d.parameters.length) = some 2 := by decide +kernel
set_option maxHeartbeats 4000000 in
set_option maxRecDepth 100000 in
theorem c_X9_longestDelay {l : Launch} {D : va_G} {cs : Nat → ClassId} {B0 T : Nat} {κ : KM} {H0 : Heap} (hT : WT B0 D cs T κ H0) {w : Nat} (hw : T2 κ w 10 12) : KC l yX9_longestDelay wsX9_longestDelay 1 21 0 0 D cs B0 H0 [.ref w] (Qi (fun _ H => H = H0)) := by
  refine KC.of cX9_longestDelay 3 (some .int) (by decide) rfl (Nat.le_of_ble_eq_true rfl) ?_
  intro p e s m below meth c ls hx hb hr hml hown hts hlocks hin hN hE hH0 hl
  have hown : s.vm.findClass RX9 = some m.cls := hown
  have hl : lv_has ls 3 [(0, .ref w)] := hl
  have hL : OkL B0 [] := OkL.nil
  refine lv_iconst (v := 0) hx hb dX9_longestDelay_0 (by decide) ?_
  refine lv_istore_n (lv' := [(1, .int 0), (0, .ref w)]) hx hb dX9_longestDelay_1 rfl hl (by decide) rfl (fun ls hl => ?_)
  refine lv_iconst (v := 0) hx hb dX9_longestDelay_2 (by decide) ?_
  refine lv_istore_n (lv' := [(2, .int 0), (1, .int 0), (0, .ref w)]) hx hb dX9_longestDelay_3 rfl hl (by decide) rfl (fun ls hl => ?_)
  refine lp_r (B0 := B0) (α := Nat × Int32) (nL := 3) (fun a9 => 64 - a9.1) (fun a9 => (a9.1 ≤ 64)) (fun a9 => [(2, .int (nI a9.1)), (1, .int a9.2), (0, .ref w)]) ?_ (0, 0) _ _ (by show (0) ≤ 64; omega) hL (lv_sub hl [0, 1, 2] rfl)
  rintro ⟨p, x⟩ locs ls ih374 hp hL hl
  have hl : lv_has ls 3 [(2, .int (nI p)), (1, .int x), (0, .ref w)] := hl
  have hp : p ≤ 64 := hp
  refine lv_iload_n hx hb dX9_longestDelay_4 rfl (lv_at hl 0 rfl) ?_
  refine lv_bipush (v := 64) hx hb dX9_longestDelay_5 (by decide) ?_
  refine lv_icmp_ge (tgt := 30) hx hb dX9_longestDelay_7 (by decide) (fun c375 => ?_) (fun c375 => ?_)
  · have c375 : 64 ≤ p := (nI_leI (a := 64) (b := p) (by omega) (by omega)).mp c375
    refine lv_iload_n hx hb dX9_longestDelay_30 rfl (lv_at hl 1 rfl) ?_
    exact en_i hx hb hr hlocks hL rfl (Nat.zero_le _) (Nat.zero_le _) dX9_longestDelay_31 (rfl)
  · have c375 : ¬ 64 ≤ p := fun h9 => c375 ((nI_leI (a := 64) (b := p) (by omega) (by omega)).mpr h9)
    refine lv_iload_n hx hb dX9_longestDelay_10 rfl (lv_at hl 1 rfl) ?_
    refine lv_aload_n hx hb dX9_longestDelay_11 rfl (lv_at hl 2 rfl) ?_
    obtain ⟨hb376, e376, hat376, hk376⟩ := hT.o10 hw.1
    obtain ⟨f376_0, f376_1, f376_3, f376_4, f376_5, f376_6, f376_7, f376_9, f376_10, f376_11, f376_12, f376_13, f376_14, f376_15, f376_16, f376_17, rfl, c376_2, c376_3, c376_4, c376_12, t376_1, t376_8, t376_9, c376_sd, t376_10, t376_11, t376_17⟩ := hk376
    have hP : va_P D vwCl [(w, .inr (9, [.int f376_0, .ref f376_1, .int (nI ((κ w).2.2.1)), .int (nI f376_3), .int (nI f376_4), .int f376_5, .int f376_6, .int f376_7, .ref (κ w).2.2.2, .ref f376_9, .ref f376_10, .ref f376_11, .int (nI f376_12), .int f376_13, .int f376_14, .int f376_15, .int f376_16, .ref f376_17]))] _ := va_P.cons hat376 va_P.nil
    refine va_get (D := D) (ci := 9) (v := .ref (κ w).2.2.2) (C := RX9) (T := TX9) (N := 18) hx hb hts iX9_longestDelay_9 hown hN.1 hP 0 rfl rfl 8 (by decide) (hts _ mX9_longestDelay_1) (fun _ h9 => h9) rfl dX9_longestDelay_12 ?_
    refine lv_bipush (v := 119) hx hb dX9_longestDelay_15 (by decide) ?_
    refine lv_iload_n hx hb dX9_longestDelay_17 rfl (lv_at hl 0 rfl) ?_
    refine lv_iadd hx hb dX9_longestDelay_18 ?_
    refine tp_i (nI (119 + p)) (nI_add 119 p) ?_
    obtain ⟨hb377, e377, hat377, hk377⟩ := hT.o24 t376_8.1
    obtain ⟨g377, rfl, q377⟩ := hk377
    have hP : va_P D vwCl [((κ w).2.2.2, .inl (cs 0, 45783, .inl g377)), (w, .inr (9, [.int f376_0, .ref f376_1, .int (nI ((κ w).2.2.1)), .int (nI f376_3), .int (nI f376_4), .int f376_5, .int f376_6, .int f376_7, .ref (κ w).2.2.2, .ref f376_9, .ref f376_10, .ref f376_11, .int (nI f376_12), .int f376_13, .int f376_14, .int f376_15, .int f376_16, .ref f376_17]))] _ := va_P.cons hat377 hP
    refine ld_i (v := (g377 (119 + p))) hx hb hN hP 0 rfl (vp_in_nI (n := (119 + p)) (N := 45783) (by omega) (by omega)) (by rw [(show ((nI (119 + p)) : Int32).toNatClampNeg = (119 + p) from nI_clamp (n := (119 + p)) (by omega))]) dX9_longestDelay_19 ?_
    refine gn_i (fun x378 => ?_)
    refine cs_i (As := [.int x, .int x378]) (rest := []) ⟨hx, hb, hml, hown, hts⟩ (c_X9_max hT (x := x) (y := x378)) (va_cwS 2 hts gX9_longestDelay_X9_max rfl rfl rfl hdX9_max_o ⟨Nat.le_of_ble_eq_true rfl, Nat.le_of_ble_eq_true rfl⟩) hN hE hL rfl rfl hl.1 (Nat.le_of_ble_eq_true rfl) dX9_longestDelay_20 (Nat.zero_le _) (Nat.zero_le _) (fun r379 H1 locs hL hqr379 => ?_)
    obtain rfl := hqr379.symm
    refine lv_istore_n (lv' := [(1, .int r379), (2, .int (nI p)), (0, .ref w)]) hx hb dX9_longestDelay_23 rfl hl (by decide) rfl (fun ls hl => ?_)
    refine lv_iinc (v := (nI (p + 1))) (lv' := [(2, .int (nI (p + 1))), (1, .int r379), (0, .ref w)]) hx hb dX9_longestDelay_24 hl (k := 1) rfl (nI_add _ 1) (by decide) rfl (fun ls hl => ?_)
    refine lv_goto (tgt := 4) hx hb dX9_longestDelay_27 (by decide) ?_
    exact ih374 ((p + 1), r379) _ _ (by show 64 - ((p + 1)) < 64 - p; omega) (by show ((p + 1)) ≤ 64; omega) hL (lv_sub hl [0, 1, 2] rfl)
theorem mX9_playersUp_1 : (.fieldLink RX9 18 "OneBeatModel" "data" "[I" : Cond) ∈ wsX9_playersUp := List.mem_of_getElem? (i := 1) (by decide +kernel)
theorem iX9_playersUp_9 : ∀ w ∈ wsX90, w ∈ wsX9_playersUp := fun w h => List.mem_of_mem_drop (List.mem_of_mem_take ((show wsX90 = (wsX9_playersUp.drop 10).take 18 by decide +kernel) ▸ h))
set_option maxHeartbeats 4000000 in
set_option maxRecDepth 100000 in
theorem c_X9_playersUp {l : Launch} {D : va_G} {cs : Nat → ClassId} {B0 T : Nat} {κ : KM} {H0 : Heap} (hT : WT B0 D cs T κ H0) {w : Nat} (hw : T2 κ w 10 12) : KC l yX9_playersUp wsX9_playersUp 2 42 0 0 D cs B0 H0 [.ref w] (Qi (fun _ H => H = H0)) := by
  refine KC.of cX9_playersUp 3 (some .int) (by decide) rfl (Nat.le_of_ble_eq_true rfl) ?_
  intro p e s m below meth c ls hx hb hr hml hown hts hlocks hin hN hE hH0 hl
  have hown : s.vm.findClass RX9 = some m.cls := hown
  have hl : lv_has ls 3 [(0, .ref w)] := hl
  have hL : OkL B0 [] := OkL.nil
  refine lv_iconst (v := 0) hx hb dX9_playersUp_0 (by decide) ?_
  refine lv_istore_n (lv' := [(1, .int 0), (0, .ref w)]) hx hb dX9_playersUp_1 rfl hl (by decide) rfl (fun ls hl => ?_)
  refine lv_iconst (v := 0) hx hb dX9_playersUp_2 (by decide) ?_
  refine lv_istore_n (lv' := [(2, .int 0), (1, .int 0), (0, .ref w)]) hx hb dX9_playersUp_3 rfl hl (by decide) rfl (fun ls hl => ?_)
  refine lp_r (B0 := B0) (α := Nat × Int32) (nL := 3) (fun a9 => 8 - a9.1) (fun a9 => (a9.1 ≤ 8)) (fun a9 => [(2, .int (nI a9.1)), (1, .int a9.2), (0, .ref w)]) ?_ (0, 0) _ _ (by show (0) ≤ 8; omega) hL (lv_sub hl [0, 1, 2] rfl)
  rintro ⟨p, x⟩ locs ls ih380 hp hL hl
  have hl : lv_has ls 3 [(2, .int (nI p)), (1, .int x), (0, .ref w)] := hl
  have hp : p ≤ 8 := hp
  refine lv_iload_n hx hb dX9_playersUp_4 rfl (lv_at hl 0 rfl) ?_
  refine lv_aload_n hx hb dX9_playersUp_5 rfl (lv_at hl 2 rfl) ?_
  obtain ⟨hb381, e381, hat381, hk381⟩ := hT.o10 hw.1
  obtain ⟨f381_0, f381_1, f381_3, f381_4, f381_5, f381_6, f381_7, f381_9, f381_10, f381_11, f381_12, f381_13, f381_14, f381_15, f381_16, f381_17, rfl, c381_2, c381_3, c381_4, c381_12, t381_1, t381_8, t381_9, c381_sd, t381_10, t381_11, t381_17⟩ := hk381
  have hP : va_P D vwCl [(w, .inr (9, [.int f381_0, .ref f381_1, .int (nI ((κ w).2.2.1)), .int (nI f381_3), .int (nI f381_4), .int f381_5, .int f381_6, .int f381_7, .ref (κ w).2.2.2, .ref f381_9, .ref f381_10, .ref f381_11, .int (nI f381_12), .int f381_13, .int f381_14, .int f381_15, .int f381_16, .ref f381_17]))] _ := va_P.cons hat381 va_P.nil
  refine va_get (D := D) (ci := 9) (v := .ref (κ w).2.2.2) (C := RX9) (T := TX9) (N := 18) hx hb hts iX9_playersUp_9 hown hN.1 hP 0 rfl rfl 8 (by decide) (hts _ mX9_playersUp_1) (fun _ h9 => h9) rfl dX9_playersUp_6 ?_
  refine lv_iconst (v := 0) hx hb dX9_playersUp_9 (by decide) ?_
  obtain ⟨hb382, e382, hat382, hk382⟩ := hT.o24 t381_8.1
  obtain ⟨g382, rfl, q382⟩ := hk382
  have hP : va_P D vwCl [((κ w).2.2.2, .inl (cs 0, 45783, .inl g382)), (w, .inr (9, [.int f381_0, .ref f381_1, .int (nI ((κ w).2.2.1)), .int (nI f381_3), .int (nI f381_4), .int f381_5, .int f381_6, .int f381_7, .ref (κ w).2.2.2, .ref f381_9, .ref f381_10, .ref f381_11, .int (nI f381_12), .int f381_13, .int f381_14, .int f381_15, .int f381_16, .ref f381_17]))] _ := va_P.cons hat382 hP
  refine ld_i (v := (g382 0)) hx hb hN hP 0 rfl (vp_in_nI (n := 0) (N := 45783) (by omega) (by omega)) (by rw [(show (0 : Int32).toNatClampNeg = 0 from nI_clamp (n := 0) (by omega))]) dX9_playersUp_10 ?_
  obtain ⟨n383, hn383, en383⟩ := q382.1
  refine tp_i (nI n383) en383 ?_
  refine lv_icmp_ge (tgt := 29) hx hb dX9_playersUp_11 (by decide) (fun c384 => ?_) (fun c384 => ?_)
  · have c384 : n383 ≤ p := (nI_leI (a := n383) (b := p) (by omega) (by omega)).mp c384
    refine lv_iload_n hx hb dX9_playersUp_29 rfl (lv_at hl 1 rfl) ?_
    exact en_i hx hb hr hlocks hL rfl (Nat.zero_le _) (Nat.zero_le _) dX9_playersUp_30 (rfl)
  · have c384 : ¬ n383 ≤ p := fun h9 => c384 ((nI_leI (a := n383) (b := p) (by omega) (by omega)).mpr h9)
    refine lv_iload_n hx hb dX9_playersUp_14 rfl (lv_at hl 1 rfl) ?_
    refine lv_aload_n hx hb dX9_playersUp_15 rfl (lv_at hl 2 rfl) ?_
    refine lv_iload_n hx hb dX9_playersUp_16 rfl (lv_at hl 0 rfl) ?_
    refine lv_iconst (v := 0) hx hb dX9_playersUp_17 (by decide) ?_
    refine cv_i (As := [.int (nI p), .int 0]) (rest := [.int x]) (b := w) ⟨hx, hb, hml, hown, hts⟩ (c_X9_of hT (w := w) hw (n := p) (k := 0) (by first | omega | decide | assumption) (by first | omega | decide | assumption)) (cwV 2 hts gX9_playersUp_X9_of rfl rfl rfl hdX9_of_v ⟨Nat.le_of_ble_eq_true rfl, Nat.le_of_ble_eq_true rfl⟩) hN hE hL (rcv10 hN hT hw.1) rfl rfl hl.1 (Nat.le_of_ble_eq_true rfl) dX9_playersUp_18 (Nat.zero_le _) (Nat.zero_le _) (fun r385 H1 locs hL hqr385 => ?_)
    obtain rfl := hqr385.symm
    refine lv_iadd hx hb dX9_playersUp_21 ?_
    refine gn_i (fun x386 => ?_)
    refine lv_istore_n (lv' := [(1, .int x386), (2, .int (nI p)), (0, .ref w)]) hx hb dX9_playersUp_22 rfl hl (by decide) rfl (fun ls hl => ?_)
    refine lv_iinc (v := (nI (p + 1))) (lv' := [(2, .int (nI (p + 1))), (1, .int x386), (0, .ref w)]) hx hb dX9_playersUp_23 hl (k := 1) rfl (nI_add _ 1) (by decide) rfl (fun ls hl => ?_)
    refine lv_goto (tgt := 4) hx hb dX9_playersUp_26 (by decide) ?_
    exact ih380 ((p + 1), x386) _ _ (by show 8 - ((p + 1)) < 8 - p; omega) (by show ((p + 1)) ≤ 8; omega) hL (lv_sub hl [0, 1, 2] rfl)
theorem mX9_limited_1 : (.constantLong RX9 189 (1000000) : Cond) ∈ wsX9_limited := List.mem_of_getElem? (i := 1) (by decide +kernel)
theorem mX9_limited_2 : (.constantLong RX9 191 (-1000000) : Cond) ∈ wsX9_limited := List.mem_of_getElem? (i := 2) (by decide +kernel)
set_option maxHeartbeats 4000000 in
set_option maxRecDepth 100000 in
theorem c_X9_limited {l : Launch} {D : va_G} {cs : Nat → ClassId} {B0 T : Nat} {κ : KM} {H0 : Heap} (hT : WT B0 D cs T κ H0) {l_x : Int64} : KC l yX9_limited wsX9_limited 0 0 0 0 D cs B0 H0 [.long l_x] (Ql (fun _ H => H = H0)) := by
  refine KC.of cX9_limited 2 (some .long) (by decide) rfl (Nat.le_of_ble_eq_true rfl) ?_
  intro p e s m below meth c ls hx hb hr hml hown hts hlocks hin hN hE hH0 hl
  have hown : s.vm.findClass RX9 = some m.cls := hown
  have hl : lv_has ls 2 [(0, .long l_x)] := hl
  have hL : OkL B0 [] := OkL.nil
  refine lv_lload_n hx hb dX9_limited_0 rfl (lv_at hl 0 rfl) ?_
  refine lv_ldc2 (v := 1000000) hx hb hown (hts _ mX9_limited_1) dX9_limited_1 ?_
  refine W.lcmp hx hb dX9_limited_4 ?_
  refine gn_i (fun x387 => ?_)
  refine lv_if_le (tgt := 14) hx hb dX9_limited_5 (by decide) (fun c388 => ?_) (fun c388 => ?_)
  · refine lv_lload_n hx hb dX9_limited_14 rfl (lv_at hl 0 rfl) ?_
    refine lv_ldc2 (v := (-1000000)) hx hb hown (hts _ mX9_limited_2) dX9_limited_15 ?_
    refine W.lcmp hx hb dX9_limited_18 ?_
    refine gn_i (fun x389 => ?_)
    refine lv_if_ge (tgt := 28) hx hb dX9_limited_19 (by decide) (fun c390 => ?_) (fun c390 => ?_)
    · refine lv_lload_n hx hb dX9_limited_28 rfl (lv_at hl 0 rfl) ?_
      exact en_l hx hb hr hlocks hL (Nat.zero_le _) (Nat.zero_le _) dX9_limited_29 (rfl)
    · refine lv_ldc2 (v := (-1000000)) hx hb hown (hts _ mX9_limited_2) dX9_limited_22 ?_
      refine lv_goto (tgt := 29) hx hb dX9_limited_25 (by decide) ?_
      exact en_l hx hb hr hlocks hL (Nat.zero_le _) (Nat.zero_le _) dX9_limited_29 (rfl)
  · refine lv_ldc2 (v := 1000000) hx hb hown (hts _ mX9_limited_1) dX9_limited_8 ?_
    refine lv_goto (tgt := 29) hx hb dX9_limited_11 (by decide) ?_
    exact en_l hx hb hr hlocks hL (Nat.zero_le _) (Nat.zero_le _) dX9_limited_29 (rfl)
theorem hdX9_limited_o : yX9_limited.cls ≠ "java/lang/invoke/MethodHandle" ∧ yX9_limited.cls ≠ "java/lang/invoke/VarHandle" ∧ (parseMethodDescriptor yX9_limited.desc).map (fun d => d.parameters.length) = some 1 := by decide +kernel
set_option maxHeartbeats 4000000 in
set_option maxRecDepth 100000 in
theorem c_X9_operate {l : Launch} {D : va_G} {cs : Nat → ClassId} {B0 T : Nat} {κ : KM} {H0 : Heap} (hT : WT B0 D cs T κ H0) {x : Int32} {l_x l_y : Int64} : KC l yX9_operate wsX9_operate 1 21 0 0 D cs B0 H0 [.int x, .long l_x, .long l_y] (Ql (fun _ H => H = H0)) := by
  refine KC.of cX9_operate 5 (some .long) (by decide) rfl (Nat.le_of_ble_eq_true rfl) ?_
  intro p e s m below meth c ls hx hb hr hml hown hts hlocks hin hN hE hH0 hl
  have hown : s.vm.findClass RX9 = some m.cls := hown
  have hl : lv_has ls 5 [(0, .int x), (1, .long l_x), (3, .long l_y)] := hl
  have hL : OkL B0 [] := OkL.nil
  refine lv_iload_n hx hb dX9_operate_0 rfl (lv_at hl 0 rfl) ?_
  refine lv_iconst (v := 5) hx hb dX9_operate_1 (by decide) ?_
  refine lv_icmp_ne (tgt := 22) hx hb dX9_operate_2 (by decide) (fun c391 => ?_) (fun c391 => ?_)
  · refine lv_iload_n hx hb dX9_operate_22 rfl (lv_at hl 0 rfl) ?_
    refine lv_iconst (v := 2) hx hb dX9_operate_23 (by decide) ?_
    refine lv_icmp_ne (tgt := 33) hx hb dX9_operate_24 (by decide) (fun c392 => ?_) (fun c392 => ?_)
    · refine lv_iload_n hx hb dX9_operate_33 rfl (lv_at hl 0 rfl) ?_
      refine lv_iconst (v := 3) hx hb dX9_operate_34 (by decide) ?_
      refine lv_icmp_ne (tgt := 44) hx hb dX9_operate_35 (by decide) (fun c393 => ?_) (fun c393 => ?_)
      · refine lv_lload_n hx hb dX9_operate_44 rfl (lv_at hl 1 rfl) ?_
        refine lv_lload_n hx hb dX9_operate_45 rfl (lv_at hl 2 rfl) ?_
        refine lv_lmul hx hb dX9_operate_46 ?_
        refine gn_l (fun y394 => ?_)
        refine cs_l (As := [.long y394]) (rest := []) ⟨hx, hb, hml, hown, hts⟩ (c_X9_limited hT (l_x := y394)) (va_cwS 1 hts gX9_operate_X9_limited rfl rfl rfl hdX9_limited_o ⟨Nat.le_of_ble_eq_true rfl, Nat.le_of_ble_eq_true rfl⟩) hN hE hL rfl rfl hl.1 (Nat.le_of_ble_eq_true rfl) dX9_operate_47 (Nat.zero_le _) (Nat.zero_le _) (fun r395 H1 locs hL hqr395 => ?_)
        obtain rfl := hqr395.symm
        exact en_l hx hb hr hlocks hL (Nat.zero_le _) (Nat.zero_le _) dX9_operate_50 (rfl)
      · refine lv_lload_n hx hb dX9_operate_38 rfl (lv_at hl 1 rfl) ?_
        refine lv_lload_n hx hb dX9_operate_39 rfl (lv_at hl 2 rfl) ?_
        refine lv_lsub hx hb dX9_operate_40 ?_
        refine gn_l (fun y396 => ?_)
        refine lv_goto (tgt := 47) hx hb dX9_operate_41 (by decide) ?_
        refine cs_l (As := [.long y396]) (rest := []) ⟨hx, hb, hml, hown, hts⟩ (c_X9_limited hT (l_x := y396)) (va_cwS 1 hts gX9_operate_X9_limited rfl rfl rfl hdX9_limited_o ⟨Nat.le_of_ble_eq_true rfl, Nat.le_of_ble_eq_true rfl⟩) hN hE hL rfl rfl hl.1 (Nat.le_of_ble_eq_true rfl) dX9_operate_47 (Nat.zero_le _) (Nat.zero_le _) (fun r397 H1 locs hL hqr397 => ?_)
        obtain rfl := hqr397.symm
        exact en_l hx hb hr hlocks hL (Nat.zero_le _) (Nat.zero_le _) dX9_operate_50 (rfl)
    · refine lv_lload_n hx hb dX9_operate_27 rfl (lv_at hl 1 rfl) ?_
      refine lv_lload_n hx hb dX9_operate_28 rfl (lv_at hl 2 rfl) ?_
      refine lv_ladd hx hb dX9_operate_29 ?_
      refine gn_l (fun y398 => ?_)
      refine lv_goto (tgt := 47) hx hb dX9_operate_30 (by decide) ?_
      refine cs_l (As := [.long y398]) (rest := []) ⟨hx, hb, hml, hown, hts⟩ (c_X9_limited hT (l_x := y398)) (va_cwS 1 hts gX9_operate_X9_limited rfl rfl rfl hdX9_limited_o ⟨Nat.le_of_ble_eq_true rfl, Nat.le_of_ble_eq_true rfl⟩) hN hE hL rfl rfl hl.1 (Nat.le_of_ble_eq_true rfl) dX9_operate_47 (Nat.zero_le _) (Nat.zero_le _) (fun r399 H1 locs hL hqr399 => ?_)
      obtain rfl := hqr399.symm
      exact en_l hx hb hr hlocks hL (Nat.zero_le _) (Nat.zero_le _) dX9_operate_50 (rfl)
  · refine lv_lload_n hx hb dX9_operate_5 rfl (lv_at hl 2 rfl) ?_
    refine lv_lconst (v := 0) hx hb dX9_operate_6 (by decide) ?_
    refine W.lcmp hx hb dX9_operate_7 ?_
    refine lv_if_ne (tgt := 15) hx hb dX9_operate_8 (by decide) (fun c400 => ?_) (fun c400 => ?_)
    · refine lv_lload_n hx hb dX9_operate_15 rfl (lv_at hl 1 rfl) ?_
      refine lv_lload_n hx hb dX9_operate_16 rfl (lv_at hl 2 rfl) ?_
      refine lv_ldiv hx hb dX9_operate_17 (fun h9 => c400 (by rw [h9]; decide)) ?_
      refine gn_l (fun y401 => ?_)
      refine cs_l (As := [.long y401]) (rest := []) ⟨hx, hb, hml, hown, hts⟩ (c_X9_limited hT (l_x := y401)) (va_cwS 1 hts gX9_operate_X9_limited rfl rfl rfl hdX9_limited_o ⟨Nat.le_of_ble_eq_true rfl, Nat.le_of_ble_eq_true rfl⟩) hN hE hL rfl rfl hl.1 (Nat.le_of_ble_eq_true rfl) dX9_operate_18 (Nat.zero_le _) (Nat.zero_le _) (fun r402 H1 locs hL hqr402 => ?_)
      obtain rfl := hqr402.symm
      exact en_l hx hb hr hlocks hL (Nat.zero_le _) (Nat.zero_le _) dX9_operate_21 (rfl)
    · refine lv_lconst (v := 0) hx hb dX9_operate_11 (by decide) ?_
      refine lv_goto (tgt := 21) hx hb dX9_operate_12 (by decide) ?_
      exact en_l hx hb hr hlocks hL (Nat.zero_le _) (Nat.zero_le _) dX9_operate_21 (rfl)
theorem hdX9_playersUp_v : yX9_playersUp.cls = RX9 ∧ yX9_playersUp.cls ≠ "java/lang/invoke/MethodHandle" ∧ yX9_playersUp.cls ≠ "java/lang/invoke/VarHandle" ∧ (parseMethodDescriptor yX9_playersUp.desc).map (fun d => d.parameters.length) = some 0 := by decide +kernel
theorem hdX9_longestDelay_v : yX9_longestDelay.cls = RX9 ∧ yX9_longestDelay.cls ≠ "java/lang/invoke/MethodHandle" ∧ yX9_longestDelay.cls ≠ "java/lang/invoke/VarHandle" ∧ (parseMethodDescriptor yX9_longestDelay.desc).map (fun d => d.parameters.length) = some 0 := by decide +kernel
theorem mX9_fact_1 : (.fieldLink RX9 18 "OneBeatModel" "data" "[I" : Cond) ∈ wsX9_fact := List.mem_of_getElem? (i := 1) (by decide +kernel)
theorem iX9_fact_9 : ∀ w ∈ wsX90, w ∈ wsX9_fact := fun w h => List.mem_of_mem_drop (List.mem_of_mem_take ((show wsX90 = (wsX9_fact.drop 21).take 18 by decide +kernel) ▸ h))
set_option maxHeartbeats 4000000 in
set_option maxRecDepth 100000 in
theorem c_X9_fact {l : Launch} {D : va_G} {cs : Nat → ClassId} {B0 T : Nat} {κ : KM} {H0 : Heap} (hT : WT B0 D cs T κ H0) {w : Nat} (hw : T2 κ w 10 12) {x : Int32} {y : Int32} : KC l yX9_fact wsX9_fact 3 64 0 0 D cs B0 H0 [.ref w, .int x, .int y] (Qi (fun _ H => H = H0)) := by
  refine KC.of cX9_fact 3 (some .int) (by decide) rfl (Nat.le_of_ble_eq_true rfl) ?_
  intro p e s m below meth c ls hx hb hr hml hown hts hlocks hin hN hE hH0 hl
  have hown : s.vm.findClass RX9 = some m.cls := hown
  have hl : lv_has ls 3 [(0, .ref w), (1, .int x), (2, .int y)] := hl
  have hL : OkL B0 [] := OkL.nil
  refine lv_iload_n hx hb dX9_fact_0 rfl (lv_at hl 1 rfl) ?_
  refine lv_if_ne (tgt := 13) hx hb dX9_fact_1 (by decide) (fun c403 => ?_) (fun c403 => ?_)
  · refine lv_iload_n hx hb dX9_fact_13 rfl (lv_at hl 1 rfl) ?_
    refine lv_iconst (v := 1) hx hb dX9_fact_14 (by decide) ?_
    refine lv_icmp_ne (tgt := 25) hx hb dX9_fact_15 (by decide) (fun c404 => ?_) (fun c404 => ?_)
    · refine lv_iload_n hx hb dX9_fact_25 rfl (lv_at hl 1 rfl) ?_
      refine lv_iconst (v := 2) hx hb dX9_fact_26 (by decide) ?_
      refine lv_icmp_ne (tgt := 37) hx hb dX9_fact_27 (by decide) (fun c405 => ?_) (fun c405 => ?_)
      · refine lv_iload_n hx hb dX9_fact_37 rfl (lv_at hl 2 rfl) ?_
        exact en_i hx hb hr hlocks hL rfl (Nat.zero_le _) (Nat.zero_le _) dX9_fact_38 (rfl)
      · refine lv_aload_n hx hb dX9_fact_30 rfl (lv_at hl 0 rfl) ?_
        refine cv_i (As := []) (rest := []) (b := w) ⟨hx, hb, hml, hown, hts⟩ (c_X9_playersUp hT (w := w) hw) (cwV 0 hts gX9_fact_X9_playersUp rfl rfl rfl hdX9_playersUp_v ⟨Nat.le_of_ble_eq_true rfl, Nat.le_of_ble_eq_true rfl⟩) hN hE hL (rcv10 hN hT hw.1) rfl rfl hl.1 (Nat.le_of_ble_eq_true rfl) dX9_fact_31 (Nat.zero_le _) (Nat.zero_le _) (fun r406 H1 locs hL hqr406 => ?_)
        obtain rfl := hqr406.symm
        refine lv_goto (tgt := 38) hx hb dX9_fact_34 (by decide) ?_
        exact en_i hx hb hr hlocks hL rfl (Nat.zero_le _) (Nat.zero_le _) dX9_fact_38 (rfl)
    · refine lv_aload_n hx hb dX9_fact_18 rfl (lv_at hl 0 rfl) ?_
      refine cv_i (As := []) (rest := []) (b := w) ⟨hx, hb, hml, hown, hts⟩ (c_X9_longestDelay hT (w := w) hw) (cwV 0 hts gX9_fact_X9_longestDelay rfl rfl rfl hdX9_longestDelay_v ⟨Nat.le_of_ble_eq_true rfl, Nat.le_of_ble_eq_true rfl⟩) hN hE hL (rcv10 hN hT hw.1) rfl rfl hl.1 (Nat.le_of_ble_eq_true rfl) dX9_fact_19 (Nat.zero_le _) (Nat.zero_le _) (fun r407 H1 locs hL hqr407 => ?_)
      obtain rfl := hqr407.symm
      refine lv_goto (tgt := 38) hx hb dX9_fact_22 (by decide) ?_
      exact en_i hx hb hr hlocks hL rfl (Nat.zero_le _) (Nat.zero_le _) dX9_fact_38 (rfl)
  · refine lv_aload_n hx hb dX9_fact_4 rfl (lv_at hl 0 rfl) ?_
    obtain ⟨hb408, e408, hat408, hk408⟩ := hT.o10 hw.1
    obtain ⟨f408_0, f408_1, f408_3, f408_4, f408_5, f408_6, f408_7, f408_9, f408_10, f408_11, f408_12, f408_13, f408_14, f408_15, f408_16, f408_17, rfl, c408_2, c408_3, c408_4, c408_12, t408_1, t408_8, t408_9, c408_sd, t408_10, t408_11, t408_17⟩ := hk408
    have hP : va_P D vwCl [(w, .inr (9, [.int f408_0, .ref f408_1, .int (nI ((κ w).2.2.1)), .int (nI f408_3), .int (nI f408_4), .int f408_5, .int f408_6, .int f408_7, .ref (κ w).2.2.2, .ref f408_9, .ref f408_10, .ref f408_11, .int (nI f408_12), .int f408_13, .int f408_14, .int f408_15, .int f408_16, .ref f408_17]))] _ := va_P.cons hat408 va_P.nil
    refine va_get (D := D) (ci := 9) (v := .ref (κ w).2.2.2) (C := RX9) (T := TX9) (N := 18) hx hb hts iX9_fact_9 hown hN.1 hP 0 rfl rfl 8 (by decide) (hts _ mX9_fact_1) (fun _ h9 => h9) rfl dX9_fact_5 ?_
    refine lv_iconst (v := 0) hx hb dX9_fact_8 (by decide) ?_
    obtain ⟨hb409, e409, hat409, hk409⟩ := hT.o24 t408_8.1
    obtain ⟨g409, rfl, q409⟩ := hk409
    have hP : va_P D vwCl [((κ w).2.2.2, .inl (cs 0, 45783, .inl g409)), (w, .inr (9, [.int f408_0, .ref f408_1, .int (nI ((κ w).2.2.1)), .int (nI f408_3), .int (nI f408_4), .int f408_5, .int f408_6, .int f408_7, .ref (κ w).2.2.2, .ref f408_9, .ref f408_10, .ref f408_11, .int (nI f408_12), .int f408_13, .int f408_14, .int f408_15, .int f408_16, .ref f408_17]))] _ := va_P.cons hat409 hP
    refine ld_i (v := (g409 0)) hx hb hN hP 0 rfl (vp_in_nI (n := 0) (N := 45783) (by omega) (by omega)) (by rw [(show (0 : Int32).toNatClampNeg = 0 from nI_clamp (n := 0) (by omega))]) dX9_fact_9 ?_
    obtain ⟨n410, hn410, en410⟩ := q409.1
    refine tp_i (nI n410) en410 ?_
    refine lv_goto (tgt := 38) hx hb dX9_fact_10 (by decide) ?_
    exact en_i hx hb hr hlocks hL rfl (Nat.zero_le _) (Nat.zero_le _) dX9_fact_38 (rfl)
theorem mX9_send_1 : (.fieldLink RX9 18 "OneBeatModel" "data" "[I" : Cond) ∈ wsX9_send := List.mem_of_getElem? (i := 1) (by decide +kernel)
theorem iX9_send_9 : ∀ w ∈ wsX90, w ∈ wsX9_send := fun w h => List.mem_of_mem_drop (List.mem_of_mem_take ((show wsX90 = (wsX9_send.drop 6).take 18 by decide +kernel) ▸ h))
theorem hdX9_linkAt_o : yX9_linkAt.cls ≠ "java/lang/invoke/MethodHandle" ∧ yX9_linkAt.cls ≠ "java/lang/invoke/VarHandle" ∧ (parseMethodDescriptor yX9_linkAt.desc).map (fun d => d.parameters.length) = some 2 := by decide +kernel
set_option maxHeartbeats 4000000 in
set_option maxRecDepth 100000 in
theorem c_X9_send {l : Launch} {D : va_G} {cs : Nat → ClassId} {B0 T : Nat} {κ : KM} {H0 : Heap} (hT : WT B0 D cs T κ H0) {w : Nat} (hw : T2 κ w 10 12) {x : Nat} (qx : x < 6) {n : Nat} (qn : n < 8) {k : Nat} (qk : k < 8) {y : Int32} {z : Int32} {u : Int32} : KC l yX9_send wsX9_send 1 21 0 0 D cs B0 H0 [.ref w, .int (nI x), .int (nI n), .int (nI k), .int y, .int z, .int u] (Qi (fun r H => WT B0 D cs T κ H ∧ Fr B0 [18] κ H0 H ∧ (r = 0 ∨ r = 1))) := by
  refine KC.of cX9_send 10 (some .boolean) (by decide) rfl (Nat.le_of_ble_eq_true rfl) ?_
  intro p e s m below meth c ls hx hb hr hml hown hts hlocks hin hN hE hH0 hl
  have hown : s.vm.findClass RX9 = some m.cls := hown
  have hl : lv_has ls 10 [(0, .ref w), (1, .int (nI x)), (2, .int (nI n)), (3, .int (nI k)), (4, .int y), (5, .int z), (6, .int u)] := hl
  have hL : OkL B0 [] := OkL.nil
  have hF : Fr B0 [18] κ H0 H0 := Fr.rf
  refine lv_aload_n hx hb dX9_send_0 rfl (lv_at hl 0 rfl) ?_
  obtain ⟨hb411, e411, hat411, hk411⟩ := hT.o10 hw.1
  obtain ⟨f411_0, f411_1, f411_3, f411_4, f411_5, f411_6, f411_7, f411_9, f411_10, f411_11, f411_12, f411_13, f411_14, f411_15, f411_16, f411_17, rfl, c411_2, c411_3, c411_4, c411_12, t411_1, t411_8, t411_9, c411_sd, t411_10, t411_11, t411_17⟩ := hk411
  have hP : va_P D vwCl [(w, .inr (9, [.int f411_0, .ref f411_1, .int (nI ((κ w).2.2.1)), .int (nI f411_3), .int (nI f411_4), .int f411_5, .int f411_6, .int f411_7, .ref (κ w).2.2.2, .ref f411_9, .ref f411_10, .ref f411_11, .int (nI f411_12), .int f411_13, .int f411_14, .int f411_15, .int f411_16, .ref f411_17]))] _ := va_P.cons hat411 va_P.nil
  refine va_get (D := D) (ci := 9) (v := .ref (κ w).2.2.2) (C := RX9) (T := TX9) (N := 18) hx hb hts iX9_send_9 hown hN.1 hP 0 rfl rfl 8 (by decide) (hts _ mX9_send_1) (fun _ h9 => h9) rfl dX9_send_1 ?_
  refine lv_iload_n hx hb dX9_send_4 rfl (lv_at hl 2 rfl) ?_
  refine lv_iload_n hx hb dX9_send_5 rfl (lv_at hl 3 rfl) ?_
  refine cs_i (As := [.int (nI n), .int (nI k)]) (rest := [.ref (κ w).2.2.2]) ⟨hx, hb, hml, hown, hts⟩ (c_X9_linkAt hT (n := n) (k := k) (by first | omega | decide | assumption) (by first | omega | decide | assumption)) (va_cwS 2 hts gX9_send_X9_linkAt rfl rfl rfl hdX9_linkAt_o ⟨Nat.le_of_ble_eq_true rfl, Nat.le_of_ble_eq_true rfl⟩) hN hE hL rfl rfl hl.1 (Nat.le_of_ble_eq_true rfl) dX9_send_6 (Nat.zero_le _) (Nat.zero_le _) (fun r412 H1 locs hL hqr412 => ?_)
  obtain ⟨h9, hqr412⟩ := hqr412; replace h9 := h9.symm; subst h9
  obtain rfl := hqr412
  obtain ⟨hb413, e413, hat413, hk413⟩ := hT.o24 t411_8.1
  obtain ⟨g413, rfl, q413⟩ := hk413
  have hP : va_P D vwCl [((κ w).2.2.2, .inl (cs 0, 45783, .inl g413)), (w, .inr (9, [.int f411_0, .ref f411_1, .int (nI ((κ w).2.2.1)), .int (nI f411_3), .int (nI f411_4), .int f411_5, .int f411_6, .int f411_7, .ref (κ w).2.2.2, .ref f411_9, .ref f411_10, .ref f411_11, .int (nI f411_12), .int f411_13, .int f411_14, .int f411_15, .int f411_16, .ref f411_17]))] _ := va_P.cons hat413 hP
  refine ld_i (v := (g413 (119 + 8 * n + k))) hx hb hN hP 0 rfl (vp_in_nI (n := (119 + 8 * n + k)) (N := 45783) (by omega) (by omega)) (by rw [(show ((nI (119 + 8 * n + k)) : Int32).toNatClampNeg = (119 + 8 * n + k) from nI_clamp (n := (119 + 8 * n + k)) (by omega))]) dX9_send_9 ?_
  refine gn_i (fun x414 => ?_)
  refine lv_istore (lv' := [(7, .int x414), (0, .ref w), (1, .int (nI x)), (2, .int (nI n)), (3, .int (nI k)), (4, .int y), (5, .int z), (6, .int u)]) hx hb dX9_send_10 hl (by decide) rfl (fun ls hl => ?_)
  refine lv_aload_n hx hb dX9_send_12 rfl (lv_at hl 1 rfl) ?_
  refine va_get (D := D) (ci := 9) (v := .ref (κ w).2.2.2) (C := RX9) (T := TX9) (N := 18) hx hb hts iX9_send_9 hown hN.1 hP 1 rfl rfl 8 (by decide) (hts _ mX9_send_1) (fun _ h9 => h9) rfl dX9_send_13 ?_
  refine lv_iconst (v := 4) hx hb dX9_send_16 (by decide) ?_
  refine ld_i (v := (g413 4)) hx hb hN hP 0 rfl (vp_in_nI (n := 4) (N := 45783) (by omega) (by omega)) (by rw [(show (4 : Int32).toNatClampNeg = 4 from nI_clamp (n := 4) (by omega))]) dX9_send_17 ?_
  refine gn_i (fun x415 => ?_)
  refine lv_istore (lv' := [(8, .int x415), (7, .int x414), (0, .ref w), (1, .int (nI x)), (2, .int (nI n)), (3, .int (nI k)), (4, .int y), (5, .int z), (6, .int u)]) hx hb dX9_send_18 hl (by decide) rfl (fun ls hl => ?_)
  refine lv_aload_n hx hb dX9_send_20 rfl (lv_at hl 2 rfl) ?_
  refine va_get (D := D) (ci := 9) (v := .ref (κ w).2.2.2) (C := RX9) (T := TX9) (N := 18) hx hb hts iX9_send_9 hown hN.1 hP 1 rfl rfl 8 (by decide) (hts _ mX9_send_1) (fun _ h9 => h9) rfl dX9_send_21 ?_
  refine lv_iconst (v := 4) hx hb dX9_send_24 (by decide) ?_
  refine lv_dup2_11 hx hb dX9_send_25 rfl rfl ?_
  refine ld_i (v := (g413 4)) hx hb hN hP 0 rfl (vp_in_nI (n := 4) (N := 45783) (by omega) (by omega)) (by rw [(show (4 : Int32).toNatClampNeg = 4 from nI_clamp (n := 4) (by omega))]) dX9_send_26 ?_
  refine gn_i (fun x416 => ?_)
  refine lv_iconst (v := 1) hx hb dX9_send_27 (by decide) ?_
  refine lv_iadd hx hb dX9_send_28 ?_
  refine gn_i (fun x417 => ?_)
  have hB : Bx B0 D _ [((κ w).2.2.2, .inl (cs 0, 45783, .inl g413)), (w, .inr (9, [.int f411_0, .ref f411_1, .int (nI ((κ w).2.2.1)), .int (nI f411_3), .int (nI f411_4), .int f411_5, .int f411_6, .int f411_7, .ref (κ w).2.2.2, .ref f411_9, .ref f411_10, .ref f411_11, .int (nI f411_12), .int f411_13, .int f411_14, .int f411_15, .int f411_16, .ref f411_17]))] [] _ _ := Bx.of (fun a => (κ a).1) hL hP (fa_c hb413 (fa_c hb411 fa_n)) (by simp only [List.map_cons, List.map_nil, t411_8.1, hw.1]; decide)
  refine b_i hx hb hN hB 0 rfl (show vp_in (4 : Int32) 45783 from vp_in_nI (n := 4) (N := 45783) (by omega) (by omega)) (.inl rfl) dX9_send_29 (fun H locs hB => ?_)
  rw [(show (4 : Int32).toNatClampNeg = 4 from nI_clamp (n := 4) (by omega))] at hB
  have hB : Bx B0 D _ [((κ w).2.2.2, .inl (cs 0, 45783, .inl (upd g413 4 x417))), (w, .inr (9, [.int f411_0, .ref f411_1, .int (nI ((κ w).2.2.1)), .int (nI f411_3), .int (nI f411_4), .int f411_5, .int f411_6, .int f411_7, .ref (κ w).2.2.2, .ref f411_9, .ref f411_10, .ref f411_11, .int (nI f411_12), .int f411_13, .int f411_14, .int f411_15, .int f411_16, .ref f411_17]))] [(κ w).2.2.2] _ _ := hB
  have z418 := DOK.sf q413 (k := 4) (by omega) (x := x417)
  refine lv_iload hx hb dX9_send_30 (lv_at hl 1 rfl) ?_
  refine lv_if_le (tgt := 47) hx hb dX9_send_32 (by decide) (fun c419 => ?_) (fun c419 => ?_)
  · refine lv_aload_n hx hb dX9_send_47 rfl (lv_at hl 2 rfl) ?_
    refine va_get (D := D) (ci := 9) (v := .ref (κ w).2.2.2) (C := RX9) (T := TX9) (N := 18) hx hb hts iX9_send_9 hown hN.1 hB.1 1 rfl rfl 8 (by decide) (hts _ mX9_send_1) (fun _ h9 => h9) rfl dX9_send_48 ?_
    refine lv_iconst (v := 5) hx hb dX9_send_51 (by decide) ?_
    refine lv_dup2_11 hx hb dX9_send_52 rfl rfl ?_
    refine ld_i (v := ((upd g413 4 x417) 5)) hx hb hN hB.1 0 rfl (vp_in_nI (n := 5) (N := 45783) (by omega) (by omega)) (by rw [(show (5 : Int32).toNatClampNeg = 5 from nI_clamp (n := 5) (by omega))]) dX9_send_53 ?_
    refine gn_i (fun x420 => ?_)
    refine lv_iconst (v := 1) hx hb dX9_send_54 (by decide) ?_
    refine lv_iadd hx hb dX9_send_55 ?_
    refine gn_i (fun x421 => ?_)
    refine b_i hx hb hN hB 0 rfl (show vp_in (5 : Int32) 45783 from vp_in_nI (n := 5) (N := 45783) (by omega) (by omega)) (.inr ⟨rfl, List.mem_of_getElem? (i := 0) rfl⟩) dX9_send_56 (fun H locs hB => ?_)
    rw [(show (5 : Int32).toNatClampNeg = 5 from nI_clamp (n := 5) (by omega))] at hB
    have hB : Bx B0 D _ [((κ w).2.2.2, .inl (cs 0, 45783, .inl (upd (upd g413 4 x417) 5 x421))), (w, .inr (9, [.int f411_0, .ref f411_1, .int (nI ((κ w).2.2.1)), .int (nI f411_3), .int (nI f411_4), .int f411_5, .int f411_6, .int f411_7, .ref (κ w).2.2.2, .ref f411_9, .ref f411_10, .ref f411_11, .int (nI f411_12), .int f411_13, .int f411_14, .int f411_15, .int f411_16, .ref f411_17]))] [(κ w).2.2.2] _ _ := hB
    have z422 := DOK.sf z418 (k := 5) (by omega) (x := x421)
    refine lv_iconst (v := 0) hx hb dX9_send_57 (by decide) ?_
    have hT : WT B0 D cs T κ _ := hT.close hB ⟨⟨0, _, rfl, ok_24 t411_8.1 ⟨_, rfl, z422⟩⟩, trivial⟩
    have hF : Fr B0 [18] κ H0 _ := hF.close hB (fa_c (by simp [t411_8.2]) fa_n)
    have hL : OkL B0 _ := hB.2.2.2.2.2
    have hP : va_P D vwCl [((κ w).2.2.2, .inl (cs 0, 45783, .inl (upd (upd g413 4 x417) 5 x421))), (w, .inr (9, [.int f411_0, .ref f411_1, .int (nI ((κ w).2.2.1)), .int (nI f411_3), .int (nI f411_4), .int f411_5, .int f411_6, .int f411_7, .ref (κ w).2.2.2, .ref f411_9, .ref f411_10, .ref f411_11, .int (nI f411_12), .int f411_13, .int f411_14, .int f411_15, .int f411_16, .ref f411_17]))] _ := hB.1
    exact en_i hx hb hr hlocks hL rfl (Nat.zero_le _) (Nat.zero_le _) dX9_send_58 (⟨hT, hF, Or.inl rfl⟩)
  · refine lv_aload_n hx hb dX9_send_35 rfl (lv_at hl 2 rfl) ?_
    refine va_get (D := D) (ci := 9) (v := .ref (κ w).2.2.2) (C := RX9) (T := TX9) (N := 18) hx hb hts iX9_send_9 hown hN.1 hB.1 1 rfl rfl 8 (by decide) (hts _ mX9_send_1) (fun _ h9 => h9) rfl dX9_send_36 ?_
    refine lv_iconst (v := 3) hx hb dX9_send_39 (by decide) ?_
    refine ld_i (v := ((upd g413 4 x417) 3)) hx hb hN hB.1 0 rfl (vp_in_nI (n := 3) (N := 45783) (by omega) (by omega)) (by rw [(show (3 : Int32).toNatClampNeg = 3 from nI_clamp (n := 3) (by omega))]) dX9_send_40 ?_
    obtain ⟨n423, hn423, en423⟩ := z418.2.2.2.1
    refine tp_i (nI n423) en423 ?_
    refine lv_sipush (v := 7400) hx hb dX9_send_41 (by decide) ?_
    refine lv_icmp_ne (tgt := 59) hx hb dX9_send_44 (by decide) (fun c424 => ?_) (fun c424 => ?_)
    · have c424 : ¬ n423 = 7400 := fun h9 => c424 ((nI_eq (a := n423) (b := 7400) (by omega) (by omega)).mpr h9)
      refine lv_sipush (v := 1383) hx hb dX9_send_59 (by decide) ?_
      refine lv_bipush (v := 6) hx hb dX9_send_62 (by decide) ?_
      refine lv_aload_n hx hb dX9_send_64 rfl (lv_at hl 2 rfl) ?_
      refine va_get (D := D) (ci := 9) (v := .ref (κ w).2.2.2) (C := RX9) (T := TX9) (N := 18) hx hb hts iX9_send_9 hown hN.1 hB.1 1 rfl rfl 8 (by decide) (hts _ mX9_send_1) (fun _ h9 => h9) rfl dX9_send_65 ?_
      refine lv_iconst (v := 3) hx hb dX9_send_68 (by decide) ?_
      refine ld_i (v := ((upd g413 4 x417) 3)) hx hb hN hB.1 0 rfl (vp_in_nI (n := 3) (N := 45783) (by omega) (by omega)) (by rw [(show (3 : Int32).toNatClampNeg = 3 from nI_clamp (n := 3) (by omega))]) dX9_send_69 ?_
      refine tp_i (nI n423) en423 ?_
      refine lv_imul hx hb dX9_send_70 ?_
      refine tp_i (nI (6 * n423)) (nI_mul 6 n423) ?_
      refine lv_iadd hx hb dX9_send_71 ?_
      refine tp_i (nI (1383 + (6 * n423))) (nI_add 1383 (6 * n423)) ?_
      refine lv_istore (lv' := [(9, .int (nI (1383 + (6 * n423)))), (8, .int x415), (7, .int x414), (0, .ref w), (1, .int (nI x)), (2, .int (nI n)), (3, .int (nI k)), (4, .int y), (5, .int z), (6, .int u)]) hx hb dX9_send_72 hl (by decide) rfl (fun ls hl => ?_)
      refine lv_aload_n hx hb dX9_send_74 rfl (lv_at hl 3 rfl) ?_
      refine va_get (D := D) (ci := 9) (v := .ref (κ w).2.2.2) (C := RX9) (T := TX9) (N := 18) hx hb hts iX9_send_9 hown hN.1 hB.1 1 rfl rfl 8 (by decide) (hts _ mX9_send_1) (fun _ h9 => h9) rfl dX9_send_75 ?_
      refine lv_iload hx hb dX9_send_78 (lv_at hl 0 rfl) ?_
      refine lv_iconst (v := 0) hx hb dX9_send_80 (by decide) ?_
      refine lv_iadd hx hb dX9_send_81 ?_
      refine tp_i (nI ((1383 + (6 * n423)) + 0)) (nI_add (1383 + (6 * n423)) 0) ?_
      refine lv_iload_n hx hb dX9_send_82 rfl (lv_at hl 4 rfl) ?_
      refine lv_bipush (v := 8) hx hb dX9_send_83 (by decide) ?_
      refine lv_iload_n hx hb dX9_send_85 rfl (lv_at hl 5 rfl) ?_
      refine lv_imul hx hb dX9_send_86 ?_
      refine tp_i (nI (8 * n)) (nI_mul 8 n) ?_
      refine lv_iadd hx hb dX9_send_87 ?_
      refine tp_i (nI (x + (8 * n))) (nI_add x (8 * n)) ?_
      refine lv_bipush (v := 64) hx hb dX9_send_88 (by decide) ?_
      refine lv_iload_n hx hb dX9_send_90 rfl (lv_at hl 6 rfl) ?_
      refine lv_imul hx hb dX9_send_91 ?_
      refine tp_i (nI (64 * k)) (nI_mul 64 k) ?_
      refine lv_iadd hx hb dX9_send_92 ?_
      refine tp_i (nI ((x + (8 * n)) + (64 * k))) (nI_add (x + (8 * n)) (64 * k)) ?_
      refine b_i hx hb hN hB 0 rfl (vp_in_nI (n := ((1383 + (6 * n423)) + 0)) (N := 45783) (by omega) (by omega)) (.inr ⟨rfl, List.mem_of_getElem? (i := 0) rfl⟩) dX9_send_93 (fun H locs hB => ?_)
      rw [(show ((nI ((1383 + (6 * n423)) + 0)) : Int32).toNatClampNeg = ((1383 + (6 * n423)) + 0) from nI_clamp (n := ((1383 + (6 * n423)) + 0)) (by omega))] at hB
      have hB : Bx B0 D _ [((κ w).2.2.2, .inl (cs 0, 45783, .inl (upd (upd g413 4 x417) ((1383 + (6 * n423)) + 0) (nI ((x + (8 * n)) + (64 * k)))))), (w, .inr (9, [.int f411_0, .ref f411_1, .int (nI ((κ w).2.2.1)), .int (nI f411_3), .int (nI f411_4), .int f411_5, .int f411_6, .int f411_7, .ref (κ w).2.2.2, .ref f411_9, .ref f411_10, .ref f411_11, .int (nI f411_12), .int f411_13, .int f411_14, .int f411_15, .int f411_16, .ref f411_17]))] [(κ w).2.2.2] _ _ := hB
      have z425 := DOK.sm z418 (k := ((1383 + (6 * n423)) + 0)) (x := (nI ((x + (8 * n)) + (64 * k)))) (by omega) (fun j9 hj9 e9 => ⟨_, (by omega), rfl⟩)
      have e426 := (pk_un (f := (upd g413 4 x417)) (x := (nI ((x + (8 * n)) + (64 * k)))) (show 3 ≠ ((1383 + (6 * n423)) + 0) by omega)).trans en423
      refine lv_aload_n hx hb dX9_send_94 rfl (lv_at hl 3 rfl) ?_
      refine va_get (D := D) (ci := 9) (v := .ref (κ w).2.2.2) (C := RX9) (T := TX9) (N := 18) hx hb hts iX9_send_9 hown hN.1 hB.1 1 rfl rfl 8 (by decide) (hts _ mX9_send_1) (fun _ h9 => h9) rfl dX9_send_95 ?_
      refine lv_iload hx hb dX9_send_98 (lv_at hl 0 rfl) ?_
      refine lv_iconst (v := 1) hx hb dX9_send_100 (by decide) ?_
      refine lv_iadd hx hb dX9_send_101 ?_
      refine tp_i (nI ((1383 + (6 * n423)) + 1)) (nI_add (1383 + (6 * n423)) 1) ?_
      refine lv_aload_n hx hb dX9_send_102 rfl (lv_at hl 3 rfl) ?_
      refine va_get (D := D) (ci := 9) (v := .ref (κ w).2.2.2) (C := RX9) (T := TX9) (N := 18) hx hb hts iX9_send_9 hown hN.1 hB.1 1 rfl rfl 8 (by decide) (hts _ mX9_send_1) (fun _ h9 => h9) rfl dX9_send_103 ?_
      refine lv_iconst (v := 1) hx hb dX9_send_106 (by decide) ?_
      refine ld_i (v := ((upd (upd g413 4 x417) ((1383 + (6 * n423)) + 0) (nI ((x + (8 * n)) + (64 * k)))) 1)) hx hb hN hB.1 0 rfl (vp_in_nI (n := 1) (N := 45783) (by omega) (by omega)) (by rw [(show (1 : Int32).toNatClampNeg = 1 from nI_clamp (n := 1) (by omega))]) dX9_send_107 ?_
      refine gn_i (fun x427 => ?_)
      refine lv_iload hx hb dX9_send_108 (lv_at hl 2 rfl) ?_
      refine lv_iadd hx hb dX9_send_110 ?_
      refine gn_i (fun x428 => ?_)
      refine b_i hx hb hN hB 0 rfl (vp_in_nI (n := ((1383 + (6 * n423)) + 1)) (N := 45783) (by omega) (by omega)) (.inr ⟨rfl, List.mem_of_getElem? (i := 0) rfl⟩) dX9_send_111 (fun H locs hB => ?_)
      rw [(show ((nI ((1383 + (6 * n423)) + 1)) : Int32).toNatClampNeg = ((1383 + (6 * n423)) + 1) from nI_clamp (n := ((1383 + (6 * n423)) + 1)) (by omega))] at hB
      have hB : Bx B0 D _ [((κ w).2.2.2, .inl (cs 0, 45783, .inl (upd (upd (upd g413 4 x417) ((1383 + (6 * n423)) + 0) (nI ((x + (8 * n)) + (64 * k)))) ((1383 + (6 * n423)) + 1) x428))), (w, .inr (9, [.int f411_0, .ref f411_1, .int (nI ((κ w).2.2.1)), .int (nI f411_3), .int (nI f411_4), .int f411_5, .int f411_6, .int f411_7, .ref (κ w).2.2.2, .ref f411_9, .ref f411_10, .ref f411_11, .int (nI f411_12), .int f411_13, .int f411_14, .int f411_15, .int f411_16, .ref f411_17]))] [(κ w).2.2.2] _ _ := hB
      have z429 := DOK.sm z425 (k := ((1383 + (6 * n423)) + 1)) (x := x428) (by omega) (fun j9 hj9 e9 => absurd e9 (by omega))
      have e430 := (pk_un (f := (upd (upd g413 4 x417) ((1383 + (6 * n423)) + 0) (nI ((x + (8 * n)) + (64 * k))))) (x := x428) (show 3 ≠ ((1383 + (6 * n423)) + 1) by omega)).trans e426
      refine lv_aload_n hx hb dX9_send_112 rfl (lv_at hl 3 rfl) ?_
      refine va_get (D := D) (ci := 9) (v := .ref (κ w).2.2.2) (C := RX9) (T := TX9) (N := 18) hx hb hts iX9_send_9 hown hN.1 hB.1 1 rfl rfl 8 (by decide) (hts _ mX9_send_1) (fun _ h9 => h9) rfl dX9_send_113 ?_
      refine lv_iload hx hb dX9_send_116 (lv_at hl 0 rfl) ?_
      refine lv_iconst (v := 2) hx hb dX9_send_118 (by decide) ?_
      refine lv_iadd hx hb dX9_send_119 ?_
      refine tp_i (nI ((1383 + (6 * n423)) + 2)) (nI_add (1383 + (6 * n423)) 2) ?_
      refine lv_iload hx hb dX9_send_120 (lv_at hl 1 rfl) ?_
      refine b_i hx hb hN hB 0 rfl (vp_in_nI (n := ((1383 + (6 * n423)) + 2)) (N := 45783) (by omega) (by omega)) (.inr ⟨rfl, List.mem_of_getElem? (i := 0) rfl⟩) dX9_send_122 (fun H locs hB => ?_)
      rw [(show ((nI ((1383 + (6 * n423)) + 2)) : Int32).toNatClampNeg = ((1383 + (6 * n423)) + 2) from nI_clamp (n := ((1383 + (6 * n423)) + 2)) (by omega))] at hB
      have hB : Bx B0 D _ [((κ w).2.2.2, .inl (cs 0, 45783, .inl (upd (upd (upd (upd g413 4 x417) ((1383 + (6 * n423)) + 0) (nI ((x + (8 * n)) + (64 * k)))) ((1383 + (6 * n423)) + 1) x428) ((1383 + (6 * n423)) + 2) x415))), (w, .inr (9, [.int f411_0, .ref f411_1, .int (nI ((κ w).2.2.1)), .int (nI f411_3), .int (nI f411_4), .int f411_5, .int f411_6, .int f411_7, .ref (κ w).2.2.2, .ref f411_9, .ref f411_10, .ref f411_11, .int (nI f411_12), .int f411_13, .int f411_14, .int f411_15, .int f411_16, .ref f411_17]))] [(κ w).2.2.2] _ _ := hB
      have z431 := DOK.sm z429 (k := ((1383 + (6 * n423)) + 2)) (x := x415) (by omega) (fun j9 hj9 e9 => absurd e9 (by omega))
      have e432 := (pk_un (f := (upd (upd (upd g413 4 x417) ((1383 + (6 * n423)) + 0) (nI ((x + (8 * n)) + (64 * k)))) ((1383 + (6 * n423)) + 1) x428)) (x := x415) (show 3 ≠ ((1383 + (6 * n423)) + 2) by omega)).trans e430
      refine lv_aload_n hx hb dX9_send_123 rfl (lv_at hl 3 rfl) ?_
      refine va_get (D := D) (ci := 9) (v := .ref (κ w).2.2.2) (C := RX9) (T := TX9) (N := 18) hx hb hts iX9_send_9 hown hN.1 hB.1 1 rfl rfl 8 (by decide) (hts _ mX9_send_1) (fun _ h9 => h9) rfl dX9_send_124 ?_
      refine lv_iload hx hb dX9_send_127 (lv_at hl 0 rfl) ?_
      refine lv_iconst (v := 3) hx hb dX9_send_129 (by decide) ?_
      refine lv_iadd hx hb dX9_send_130 ?_
      refine tp_i (nI ((1383 + (6 * n423)) + 3)) (nI_add (1383 + (6 * n423)) 3) ?_
      refine lv_iload hx hb dX9_send_131 (lv_at hl 7 rfl) ?_
      refine b_i hx hb hN hB 0 rfl (vp_in_nI (n := ((1383 + (6 * n423)) + 3)) (N := 45783) (by omega) (by omega)) (.inr ⟨rfl, List.mem_of_getElem? (i := 0) rfl⟩) dX9_send_133 (fun H locs hB => ?_)
      rw [(show ((nI ((1383 + (6 * n423)) + 3)) : Int32).toNatClampNeg = ((1383 + (6 * n423)) + 3) from nI_clamp (n := ((1383 + (6 * n423)) + 3)) (by omega))] at hB
      have hB : Bx B0 D _ [((κ w).2.2.2, .inl (cs 0, 45783, .inl (upd (upd (upd (upd (upd g413 4 x417) ((1383 + (6 * n423)) + 0) (nI ((x + (8 * n)) + (64 * k)))) ((1383 + (6 * n423)) + 1) x428) ((1383 + (6 * n423)) + 2) x415) ((1383 + (6 * n423)) + 3) y))), (w, .inr (9, [.int f411_0, .ref f411_1, .int (nI ((κ w).2.2.1)), .int (nI f411_3), .int (nI f411_4), .int f411_5, .int f411_6, .int f411_7, .ref (κ w).2.2.2, .ref f411_9, .ref f411_10, .ref f411_11, .int (nI f411_12), .int f411_13, .int f411_14, .int f411_15, .int f411_16, .ref f411_17]))] [(κ w).2.2.2] _ _ := hB
      have z433 := DOK.sm z431 (k := ((1383 + (6 * n423)) + 3)) (x := y) (by omega) (fun j9 hj9 e9 => absurd e9 (by omega))
      have e434 := (pk_un (f := (upd (upd (upd (upd g413 4 x417) ((1383 + (6 * n423)) + 0) (nI ((x + (8 * n)) + (64 * k)))) ((1383 + (6 * n423)) + 1) x428) ((1383 + (6 * n423)) + 2) x415)) (x := y) (show 3 ≠ ((1383 + (6 * n423)) + 3) by omega)).trans e432
      refine lv_aload_n hx hb dX9_send_134 rfl (lv_at hl 3 rfl) ?_
      refine va_get (D := D) (ci := 9) (v := .ref (κ w).2.2.2) (C := RX9) (T := TX9) (N := 18) hx hb hts iX9_send_9 hown hN.1 hB.1 1 rfl rfl 8 (by decide) (hts _ mX9_send_1) (fun _ h9 => h9) rfl dX9_send_135 ?_
      refine lv_iload hx hb dX9_send_138 (lv_at hl 0 rfl) ?_
      refine lv_iconst (v := 4) hx hb dX9_send_140 (by decide) ?_
      refine lv_iadd hx hb dX9_send_141 ?_
      refine tp_i (nI ((1383 + (6 * n423)) + 4)) (nI_add (1383 + (6 * n423)) 4) ?_
      refine lv_iload hx hb dX9_send_142 (lv_at hl 8 rfl) ?_
      refine b_i hx hb hN hB 0 rfl (vp_in_nI (n := ((1383 + (6 * n423)) + 4)) (N := 45783) (by omega) (by omega)) (.inr ⟨rfl, List.mem_of_getElem? (i := 0) rfl⟩) dX9_send_144 (fun H locs hB => ?_)
      rw [(show ((nI ((1383 + (6 * n423)) + 4)) : Int32).toNatClampNeg = ((1383 + (6 * n423)) + 4) from nI_clamp (n := ((1383 + (6 * n423)) + 4)) (by omega))] at hB
      have hB : Bx B0 D _ [((κ w).2.2.2, .inl (cs 0, 45783, .inl (upd (upd (upd (upd (upd (upd g413 4 x417) ((1383 + (6 * n423)) + 0) (nI ((x + (8 * n)) + (64 * k)))) ((1383 + (6 * n423)) + 1) x428) ((1383 + (6 * n423)) + 2) x415) ((1383 + (6 * n423)) + 3) y) ((1383 + (6 * n423)) + 4) z))), (w, .inr (9, [.int f411_0, .ref f411_1, .int (nI ((κ w).2.2.1)), .int (nI f411_3), .int (nI f411_4), .int f411_5, .int f411_6, .int f411_7, .ref (κ w).2.2.2, .ref f411_9, .ref f411_10, .ref f411_11, .int (nI f411_12), .int f411_13, .int f411_14, .int f411_15, .int f411_16, .ref f411_17]))] [(κ w).2.2.2] _ _ := hB
      have z435 := DOK.sm z433 (k := ((1383 + (6 * n423)) + 4)) (x := z) (by omega) (fun j9 hj9 e9 => absurd e9 (by omega))
      have e436 := (pk_un (f := (upd (upd (upd (upd (upd g413 4 x417) ((1383 + (6 * n423)) + 0) (nI ((x + (8 * n)) + (64 * k)))) ((1383 + (6 * n423)) + 1) x428) ((1383 + (6 * n423)) + 2) x415) ((1383 + (6 * n423)) + 3) y)) (x := z) (show 3 ≠ ((1383 + (6 * n423)) + 4) by omega)).trans e434
      refine lv_aload_n hx hb dX9_send_145 rfl (lv_at hl 3 rfl) ?_
      refine va_get (D := D) (ci := 9) (v := .ref (κ w).2.2.2) (C := RX9) (T := TX9) (N := 18) hx hb hts iX9_send_9 hown hN.1 hB.1 1 rfl rfl 8 (by decide) (hts _ mX9_send_1) (fun _ h9 => h9) rfl dX9_send_146 ?_
      refine lv_iload hx hb dX9_send_149 (lv_at hl 0 rfl) ?_
      refine lv_iconst (v := 5) hx hb dX9_send_151 (by decide) ?_
      refine lv_iadd hx hb dX9_send_152 ?_
      refine tp_i (nI ((1383 + (6 * n423)) + 5)) (nI_add (1383 + (6 * n423)) 5) ?_
      refine lv_iload hx hb dX9_send_153 (lv_at hl 9 rfl) ?_
      refine b_i hx hb hN hB 0 rfl (vp_in_nI (n := ((1383 + (6 * n423)) + 5)) (N := 45783) (by omega) (by omega)) (.inr ⟨rfl, List.mem_of_getElem? (i := 0) rfl⟩) dX9_send_155 (fun H locs hB => ?_)
      rw [(show ((nI ((1383 + (6 * n423)) + 5)) : Int32).toNatClampNeg = ((1383 + (6 * n423)) + 5) from nI_clamp (n := ((1383 + (6 * n423)) + 5)) (by omega))] at hB
      have hB : Bx B0 D _ [((κ w).2.2.2, .inl (cs 0, 45783, .inl (upd (upd (upd (upd (upd (upd (upd g413 4 x417) ((1383 + (6 * n423)) + 0) (nI ((x + (8 * n)) + (64 * k)))) ((1383 + (6 * n423)) + 1) x428) ((1383 + (6 * n423)) + 2) x415) ((1383 + (6 * n423)) + 3) y) ((1383 + (6 * n423)) + 4) z) ((1383 + (6 * n423)) + 5) u))), (w, .inr (9, [.int f411_0, .ref f411_1, .int (nI ((κ w).2.2.1)), .int (nI f411_3), .int (nI f411_4), .int f411_5, .int f411_6, .int f411_7, .ref (κ w).2.2.2, .ref f411_9, .ref f411_10, .ref f411_11, .int (nI f411_12), .int f411_13, .int f411_14, .int f411_15, .int f411_16, .ref f411_17]))] [(κ w).2.2.2] _ _ := hB
      have z437 := DOK.sm z435 (k := ((1383 + (6 * n423)) + 5)) (x := u) (by omega) (fun j9 hj9 e9 => absurd e9 (by omega))
      have e438 := (pk_un (f := (upd (upd (upd (upd (upd (upd g413 4 x417) ((1383 + (6 * n423)) + 0) (nI ((x + (8 * n)) + (64 * k)))) ((1383 + (6 * n423)) + 1) x428) ((1383 + (6 * n423)) + 2) x415) ((1383 + (6 * n423)) + 3) y) ((1383 + (6 * n423)) + 4) z)) (x := u) (show 3 ≠ ((1383 + (6 * n423)) + 5) by omega)).trans e436
      refine lv_aload_n hx hb dX9_send_156 rfl (lv_at hl 3 rfl) ?_
      refine va_get (D := D) (ci := 9) (v := .ref (κ w).2.2.2) (C := RX9) (T := TX9) (N := 18) hx hb hts iX9_send_9 hown hN.1 hB.1 1 rfl rfl 8 (by decide) (hts _ mX9_send_1) (fun _ h9 => h9) rfl dX9_send_157 ?_
      refine lv_iconst (v := 3) hx hb dX9_send_160 (by decide) ?_
      refine lv_dup2_11 hx hb dX9_send_161 rfl rfl ?_
      refine ld_i (v := ((upd (upd (upd (upd (upd (upd (upd g413 4 x417) ((1383 + (6 * n423)) + 0) (nI ((x + (8 * n)) + (64 * k)))) ((1383 + (6 * n423)) + 1) x428) ((1383 + (6 * n423)) + 2) x415) ((1383 + (6 * n423)) + 3) y) ((1383 + (6 * n423)) + 4) z) ((1383 + (6 * n423)) + 5) u) 3)) hx hb hN hB.1 0 rfl (vp_in_nI (n := 3) (N := 45783) (by omega) (by omega)) (by rw [(show (3 : Int32).toNatClampNeg = 3 from nI_clamp (n := 3) (by omega))]) dX9_send_162 ?_
      refine tp_i (nI n423) e438 ?_
      refine lv_iconst (v := 1) hx hb dX9_send_163 (by decide) ?_
      refine lv_iadd hx hb dX9_send_164 ?_
      refine tp_i (nI (n423 + 1)) (nI_add n423 1) ?_
      refine b_i hx hb hN hB 0 rfl (show vp_in (3 : Int32) 45783 from vp_in_nI (n := 3) (N := 45783) (by omega) (by omega)) (.inr ⟨rfl, List.mem_of_getElem? (i := 0) rfl⟩) dX9_send_165 (fun H locs hB => ?_)
      rw [(show (3 : Int32).toNatClampNeg = 3 from nI_clamp (n := 3) (by omega))] at hB
      have hB : Bx B0 D _ [((κ w).2.2.2, .inl (cs 0, 45783, .inl (upd (upd (upd (upd (upd (upd (upd (upd g413 4 x417) ((1383 + (6 * n423)) + 0) (nI ((x + (8 * n)) + (64 * k)))) ((1383 + (6 * n423)) + 1) x428) ((1383 + (6 * n423)) + 2) x415) ((1383 + (6 * n423)) + 3) y) ((1383 + (6 * n423)) + 4) z) ((1383 + (6 * n423)) + 5) u) 3 (nI (n423 + 1))))), (w, .inr (9, [.int f411_0, .ref f411_1, .int (nI ((κ w).2.2.1)), .int (nI f411_3), .int (nI f411_4), .int f411_5, .int f411_6, .int f411_7, .ref (κ w).2.2.2, .ref f411_9, .ref f411_10, .ref f411_11, .int (nI f411_12), .int f411_13, .int f411_14, .int f411_15, .int f411_16, .ref f411_17]))] [(κ w).2.2.2] _ _ := hB
      have z439 := DOK.s3 z437 (n := (n423 + 1)) (by omega)
      refine lv_iconst (v := 1) hx hb dX9_send_166 (by decide) ?_
      have hT : WT B0 D cs T κ _ := hT.close hB ⟨⟨0, _, rfl, ok_24 t411_8.1 ⟨_, rfl, z439⟩⟩, trivial⟩
      have hF : Fr B0 [18] κ H0 _ := hF.close hB (fa_c (by simp [t411_8.2]) fa_n)
      have hL : OkL B0 _ := hB.2.2.2.2.2
      have hP : va_P D vwCl [((κ w).2.2.2, .inl (cs 0, 45783, .inl (upd (upd (upd (upd (upd (upd (upd (upd g413 4 x417) ((1383 + (6 * n423)) + 0) (nI ((x + (8 * n)) + (64 * k)))) ((1383 + (6 * n423)) + 1) x428) ((1383 + (6 * n423)) + 2) x415) ((1383 + (6 * n423)) + 3) y) ((1383 + (6 * n423)) + 4) z) ((1383 + (6 * n423)) + 5) u) 3 (nI (n423 + 1))))), (w, .inr (9, [.int f411_0, .ref f411_1, .int (nI ((κ w).2.2.1)), .int (nI f411_3), .int (nI f411_4), .int f411_5, .int f411_6, .int f411_7, .ref (κ w).2.2.2, .ref f411_9, .ref f411_10, .ref f411_11, .int (nI f411_12), .int f411_13, .int f411_14, .int f411_15, .int f411_16, .ref f411_17]))] _ := hB.1
      exact en_i hx hb hr hlocks hL rfl (Nat.zero_le _) (Nat.zero_le _) dX9_send_167 (⟨hT, hF, Or.inr rfl⟩)
    · have c424 : n423 = 7400 := (nI_eq (a := n423) (b := 7400) (by omega) (by omega)).mp c424
      refine lv_aload_n hx hb dX9_send_47 rfl (lv_at hl 2 rfl) ?_
      refine va_get (D := D) (ci := 9) (v := .ref (κ w).2.2.2) (C := RX9) (T := TX9) (N := 18) hx hb hts iX9_send_9 hown hN.1 hB.1 1 rfl rfl 8 (by decide) (hts _ mX9_send_1) (fun _ h9 => h9) rfl dX9_send_48 ?_
      refine lv_iconst (v := 5) hx hb dX9_send_51 (by decide) ?_
      refine lv_dup2_11 hx hb dX9_send_52 rfl rfl ?_
      refine ld_i (v := ((upd g413 4 x417) 5)) hx hb hN hB.1 0 rfl (vp_in_nI (n := 5) (N := 45783) (by omega) (by omega)) (by rw [(show (5 : Int32).toNatClampNeg = 5 from nI_clamp (n := 5) (by omega))]) dX9_send_53 ?_
      refine gn_i (fun x440 => ?_)
      refine lv_iconst (v := 1) hx hb dX9_send_54 (by decide) ?_
      refine lv_iadd hx hb dX9_send_55 ?_
      refine gn_i (fun x441 => ?_)
      refine b_i hx hb hN hB 0 rfl (show vp_in (5 : Int32) 45783 from vp_in_nI (n := 5) (N := 45783) (by omega) (by omega)) (.inr ⟨rfl, List.mem_of_getElem? (i := 0) rfl⟩) dX9_send_56 (fun H locs hB => ?_)
      rw [(show (5 : Int32).toNatClampNeg = 5 from nI_clamp (n := 5) (by omega))] at hB
      have hB : Bx B0 D _ [((κ w).2.2.2, .inl (cs 0, 45783, .inl (upd (upd g413 4 x417) 5 x441))), (w, .inr (9, [.int f411_0, .ref f411_1, .int (nI ((κ w).2.2.1)), .int (nI f411_3), .int (nI f411_4), .int f411_5, .int f411_6, .int f411_7, .ref (κ w).2.2.2, .ref f411_9, .ref f411_10, .ref f411_11, .int (nI f411_12), .int f411_13, .int f411_14, .int f411_15, .int f411_16, .ref f411_17]))] [(κ w).2.2.2] _ _ := hB
      have z442 := DOK.sf z418 (k := 5) (by omega) (x := x441)
      have e443 := (pk_un (f := (upd g413 4 x417)) (x := x441) (show 3 ≠ 5 by omega)).trans en423
      refine lv_iconst (v := 0) hx hb dX9_send_57 (by decide) ?_
      have hT : WT B0 D cs T κ _ := hT.close hB ⟨⟨0, _, rfl, ok_24 t411_8.1 ⟨_, rfl, z442⟩⟩, trivial⟩
      have hF : Fr B0 [18] κ H0 _ := hF.close hB (fa_c (by simp [t411_8.2]) fa_n)
      have hL : OkL B0 _ := hB.2.2.2.2.2
      have hP : va_P D vwCl [((κ w).2.2.2, .inl (cs 0, 45783, .inl (upd (upd g413 4 x417) 5 x441))), (w, .inr (9, [.int f411_0, .ref f411_1, .int (nI ((κ w).2.2.1)), .int (nI f411_3), .int (nI f411_4), .int f411_5, .int f411_6, .int f411_7, .ref (κ w).2.2.2, .ref f411_9, .ref f411_10, .ref f411_11, .int (nI f411_12), .int f411_13, .int f411_14, .int f411_15, .int f411_16, .ref f411_17]))] _ := hB.1
      exact en_i hx hb hr hlocks hL rfl (Nat.zero_le _) (Nat.zero_le _) dX9_send_58 (⟨hT, hF, Or.inl rfl⟩)
theorem mX9_sendToOthers_1 : (.fieldLink RX9 18 "OneBeatModel" "data" "[I" : Cond) ∈ wsX9_sendToOthers := List.mem_of_getElem? (i := 1) (by decide +kernel)
theorem iX9_sendToOthers_9 : ∀ w ∈ wsX90, w ∈ wsX9_sendToOthers := fun w h => List.mem_of_mem_drop (List.mem_of_mem_take ((show wsX90 = (wsX9_sendToOthers.drop 10).take 18 by decide +kernel) ▸ h))
theorem hdX9_send_v : yX9_send.cls = RX9 ∧ yX9_send.cls ≠ "java/lang/invoke/MethodHandle" ∧ yX9_send.cls ≠ "java/lang/invoke/VarHandle" ∧ (parseMethodDescriptor yX9_send.desc).map (fun d => d.parameters.length) = some 6 := by decide +kernel
set_option maxHeartbeats 4000000 in
set_option maxRecDepth 100000 in
theorem c_X9_sendToOthers {l : Launch} {D : va_G} {cs : Nat → ClassId} {B0 T : Nat} {κ : KM} {H0 : Heap} (hT : WT B0 D cs T κ H0) {w : Nat} (hw : T2 κ w 10 12) {x : Nat} (qx : x < 6) {n : Nat} (qn : n < 8) {y : Int32} {z : Int32} {u : Int32} : KC l yX9_sendToOthers wsX9_sendToOthers 2 50 0 0 D cs B0 H0 [.ref w, .int (nI x), .int (nI n), .int y, .int z, .int u] (Qv (fun H => WT B0 D cs T κ H ∧ Fr B0 [18] κ H0 H)) := by
  refine KC.of cX9_sendToOthers 7 none (by decide) rfl (Nat.le_of_ble_eq_true rfl) ?_
  intro p e s m below meth c ls hx hb hr hml hown hts hlocks hin hN hE hH0 hl
  have hown : s.vm.findClass RX9 = some m.cls := hown
  have hl : lv_has ls 7 [(0, .ref w), (1, .int (nI x)), (2, .int (nI n)), (3, .int y), (4, .int z), (5, .int u)] := hl
  have hL : OkL B0 [] := OkL.nil
  have hF : Fr B0 [18] κ H0 H0 := Fr.rf
  refine lv_iconst (v := 0) hx hb dX9_sendToOthers_0 (by decide) ?_
  refine lv_istore (lv' := [(6, .int 0), (0, .ref w), (1, .int (nI x)), (2, .int (nI n)), (3, .int y), (4, .int z), (5, .int u)]) hx hb dX9_sendToOthers_1 hl (by decide) rfl (fun ls hl => ?_)
  refine lp_m (α := Nat) (nL := 7) (fun a9 => 8 - a9) (fun a9 H9 l9 => (a9 ≤ 8) ∧ (WT B0 D cs T κ H9) ∧ (Fr B0 [18] κ H0 H9) ∧ (OkL B0 l9)) (fun a9 => [(6, .int (nI a9)), (0, .ref w), (1, .int (nI x)), (2, .int (nI n)), (3, .int y), (4, .int z), (5, .int u)]) ?_ 0 _ _ _ ⟨(by show (0) ≤ 8; omega), hT, hF, hL⟩ (lv_sub hl [0, 1, 2, 3, 4, 5, 6] rfl)
  rintro p H locs ls ih444 ⟨hp, hT, hF, hL⟩ hl
  have hl : lv_has ls 7 [(6, .int (nI p)), (0, .ref w), (1, .int (nI x)), (2, .int (nI n)), (3, .int y), (4, .int z), (5, .int u)] := hl
  have hp : p ≤ 8 := hp
  refine lv_iload hx hb dX9_sendToOthers_3 (lv_at hl 0 rfl) ?_
  refine lv_aload_n hx hb dX9_sendToOthers_5 rfl (lv_at hl 1 rfl) ?_
  obtain ⟨hb445, e445, hat445, hk445⟩ := hT.o10 hw.1
  obtain ⟨f445_0, f445_1, f445_3, f445_4, f445_5, f445_6, f445_7, f445_9, f445_10, f445_11, f445_12, f445_13, f445_14, f445_15, f445_16, f445_17, rfl, c445_2, c445_3, c445_4, c445_12, t445_1, t445_8, t445_9, c445_sd, t445_10, t445_11, t445_17⟩ := hk445
  have hP : va_P D vwCl [(w, .inr (9, [.int f445_0, .ref f445_1, .int (nI ((κ w).2.2.1)), .int (nI f445_3), .int (nI f445_4), .int f445_5, .int f445_6, .int f445_7, .ref (κ w).2.2.2, .ref f445_9, .ref f445_10, .ref f445_11, .int (nI f445_12), .int f445_13, .int f445_14, .int f445_15, .int f445_16, .ref f445_17]))] _ := va_P.cons hat445 va_P.nil
  refine va_get (D := D) (ci := 9) (v := .ref (κ w).2.2.2) (C := RX9) (T := TX9) (N := 18) hx hb hts iX9_sendToOthers_9 hown hN.1 hP 0 rfl rfl 8 (by decide) (hts _ mX9_sendToOthers_1) (fun _ h9 => h9) rfl dX9_sendToOthers_6 ?_
  refine lv_iconst (v := 0) hx hb dX9_sendToOthers_9 (by decide) ?_
  obtain ⟨hb446, e446, hat446, hk446⟩ := hT.o24 t445_8.1
  obtain ⟨g446, rfl, q446⟩ := hk446
  have hP : va_P D vwCl [((κ w).2.2.2, .inl (cs 0, 45783, .inl g446)), (w, .inr (9, [.int f445_0, .ref f445_1, .int (nI ((κ w).2.2.1)), .int (nI f445_3), .int (nI f445_4), .int f445_5, .int f445_6, .int f445_7, .ref (κ w).2.2.2, .ref f445_9, .ref f445_10, .ref f445_11, .int (nI f445_12), .int f445_13, .int f445_14, .int f445_15, .int f445_16, .ref f445_17]))] _ := va_P.cons hat446 hP
  refine ld_i (v := (g446 0)) hx hb hN hP 0 rfl (vp_in_nI (n := 0) (N := 45783) (by omega) (by omega)) (by rw [(show (0 : Int32).toNatClampNeg = 0 from nI_clamp (n := 0) (by omega))]) dX9_sendToOthers_10 ?_
  obtain ⟨n447, hn447, en447⟩ := q446.1
  refine tp_i (nI n447) en447 ?_
  refine lv_icmp_ge (tgt := 40) hx hb dX9_sendToOthers_11 (by decide) (fun c448 => ?_) (fun c448 => ?_)
  · have c448 : n447 ≤ p := (nI_leI (a := n447) (b := p) (by omega) (by omega)).mp c448
    exact en_v hx hb hr hlocks hL (Nat.zero_le _) (Nat.zero_le _) dX9_sendToOthers_40 (⟨hT, hF⟩)
  · have c448 : ¬ n447 ≤ p := fun h9 => c448 ((nI_leI (a := n447) (b := p) (by omega) (by omega)).mpr h9)
    refine lv_iload hx hb dX9_sendToOthers_14 (lv_at hl 0 rfl) ?_
    refine lv_iload_n hx hb dX9_sendToOthers_16 rfl (lv_at hl 3 rfl) ?_
    refine lv_icmp_eq (tgt := 34) hx hb dX9_sendToOthers_17 (by decide) (fun c449 => ?_) (fun c449 => ?_)
    · have c449 : p = n := (nI_eq (a := p) (b := n) (by omega) (by omega)).mp c449
      refine lv_iinc (v := (nI (p + 1))) (lv' := [(6, .int (nI (p + 1))), (0, .ref w), (1, .int (nI x)), (2, .int (nI n)), (3, .int y), (4, .int z), (5, .int u)]) hx hb dX9_sendToOthers_34 hl (k := 0) rfl (nI_add _ 1) (by decide) rfl (fun ls hl => ?_)
      refine lv_goto (tgt := 3) hx hb dX9_sendToOthers_37 (by decide) ?_
      exact ih444 (p + 1) _ _ _ (by show 8 - ((p + 1)) < 8 - p; omega) ⟨(by show ((p + 1)) ≤ 8; omega), hT, hF, hL⟩ (lv_sub hl [0, 1, 2, 3, 4, 5, 6] rfl)
    · have c449 : ¬ p = n := fun h9 => c449 ((nI_eq (a := p) (b := n) (by omega) (by omega)).mpr h9)
      refine lv_aload_n hx hb dX9_sendToOthers_20 rfl (lv_at hl 1 rfl) ?_
      refine lv_iload_n hx hb dX9_sendToOthers_21 rfl (lv_at hl 2 rfl) ?_
      refine lv_iload_n hx hb dX9_sendToOthers_22 rfl (lv_at hl 3 rfl) ?_
      refine lv_iload hx hb dX9_sendToOthers_23 (lv_at hl 0 rfl) ?_
      refine lv_iload_n hx hb dX9_sendToOthers_25 rfl (lv_at hl 4 rfl) ?_
      refine lv_iload hx hb dX9_sendToOthers_26 (lv_at hl 5 rfl) ?_
      refine lv_iload hx hb dX9_sendToOthers_28 (lv_at hl 6 rfl) ?_
      refine cv_i (As := [.int (nI x), .int (nI n), .int (nI p), .int y, .int z, .int u]) (rest := []) (b := w) ⟨hx, hb, hml, hown, hts⟩ (c_X9_send hT (w := w) hw (x := x) (n := n) (k := p) (y := y) (z := z) (u := u) (by first | omega | decide | assumption) (by first | omega | decide | assumption) (by first | omega | decide | assumption)) (cwV 6 hts gX9_sendToOthers_X9_send rfl rfl rfl hdX9_send_v ⟨Nat.le_of_ble_eq_true rfl, Nat.le_of_ble_eq_true rfl⟩) hN hE hL (rcv10 hN hT hw.1) rfl rfl hl.1 (Nat.le_of_ble_eq_true rfl) dX9_sendToOthers_30 (Nat.zero_le _) (Nat.zero_le _) (fun r450 H1 locs hL hqr450 => ?_)
      obtain ⟨hT1, hF1, hqr450⟩ := hqr450
      have hP : va_P D vwCl [(w, .inr (9, [.int f445_0, .ref f445_1, .int (nI ((κ w).2.2.1)), .int (nI f445_3), .int (nI f445_4), .int f445_5, .int f445_6, .int f445_7, .ref (κ w).2.2.2, .ref f445_9, .ref f445_10, .ref f445_11, .int (nI f445_12), .int f445_13, .int f445_14, .int f445_15, .int f445_16, .ref f445_17]))] _ := hF1.hP (hP.sub [1] rfl) (fa_c ⟨by rw [hw.1]; decide, by rw [hw.2]; first | decide | (simp; done) | (simp [h15a, h15b, h15c]; done) | (simp; omega)⟩ fa_n)
      have hF := hF.tr (hF1.mono (by simp))
      have hT := hT1
      rcases hqr450 with rfl | rfl
      · refine lv_pop hx hb dX9_sendToOthers_33 rfl ?_
        refine lv_iinc (v := (nI (p + 1))) (lv' := [(6, .int (nI (p + 1))), (0, .ref w), (1, .int (nI x)), (2, .int (nI n)), (3, .int y), (4, .int z), (5, .int u)]) hx hb dX9_sendToOthers_34 hl (k := 0) rfl (nI_add _ 1) (by decide) rfl (fun ls hl => ?_)
        refine lv_goto (tgt := 3) hx hb dX9_sendToOthers_37 (by decide) ?_
        exact ih444 (p + 1) _ _ _ (by show 8 - ((p + 1)) < 8 - p; omega) ⟨(by show ((p + 1)) ≤ 8; omega), hT, hF, hL⟩ (lv_sub hl [0, 1, 2, 3, 4, 5, 6] rfl)
      · refine lv_pop hx hb dX9_sendToOthers_33 rfl ?_
        refine lv_iinc (v := (nI (p + 1))) (lv' := [(6, .int (nI (p + 1))), (0, .ref w), (1, .int (nI x)), (2, .int (nI n)), (3, .int y), (4, .int z), (5, .int u)]) hx hb dX9_sendToOthers_34 hl (k := 0) rfl (nI_add _ 1) (by decide) rfl (fun ls hl => ?_)
        refine lv_goto (tgt := 3) hx hb dX9_sendToOthers_37 (by decide) ?_
        exact ih444 (p + 1) _ _ _ (by show 8 - ((p + 1)) < 8 - p; omega) ⟨(by show ((p + 1)) ≤ 8; omega), hT, hF, hL⟩ (lv_sub hl [0, 1, 2, 3, 4, 5, 6] rfl)
theorem mX9_isOpen_1 : (.fieldLink RX9 18 "OneBeatModel" "data" "[I" : Cond) ∈ wsX9_isOpen := List.mem_of_getElem? (i := 1) (by decide +kernel)
theorem iX9_isOpen_9 : ∀ w ∈ wsX90, w ∈ wsX9_isOpen := fun w h => List.mem_of_mem_drop (List.mem_of_mem_take ((show wsX90 = (wsX9_isOpen.drop 2).take 18 by decide +kernel) ▸ h))
set_option maxHeartbeats 4000000 in
set_option maxRecDepth 100000 in
theorem c_X9_isOpen {l : Launch} {D : va_G} {cs : Nat → ClassId} {B0 T : Nat} {κ : KM} {H0 : Heap} (hT : WT B0 D cs T κ H0) {w : Nat} (hw : T2 κ w 10 12) : KC l yX9_isOpen wsX9_isOpen 0 0 0 0 D cs B0 H0 [.ref w] (Qi (fun r H => H = H0 ∧ (r = 0 ∨ r = 1))) := by
  refine KC.of cX9_isOpen 1 (some .boolean) (by decide) rfl (Nat.le_of_ble_eq_true rfl) ?_
  intro p e s m below meth c ls hx hb hr hml hown hts hlocks hin hN hE hH0 hl
  have hown : s.vm.findClass RX9 = some m.cls := hown
  have hl : lv_has ls 1 [(0, .ref w)] := hl
  have hL : OkL B0 [] := OkL.nil
  refine lv_aload_n hx hb dX9_isOpen_0 rfl (lv_at hl 0 rfl) ?_
  obtain ⟨hb451, e451, hat451, hk451⟩ := hT.o10 hw.1
  obtain ⟨f451_0, f451_1, f451_3, f451_4, f451_5, f451_6, f451_7, f451_9, f451_10, f451_11, f451_12, f451_13, f451_14, f451_15, f451_16, f451_17, rfl, c451_2, c451_3, c451_4, c451_12, t451_1, t451_8, t451_9, c451_sd, t451_10, t451_11, t451_17⟩ := hk451
  have hP : va_P D vwCl [(w, .inr (9, [.int f451_0, .ref f451_1, .int (nI ((κ w).2.2.1)), .int (nI f451_3), .int (nI f451_4), .int f451_5, .int f451_6, .int f451_7, .ref (κ w).2.2.2, .ref f451_9, .ref f451_10, .ref f451_11, .int (nI f451_12), .int f451_13, .int f451_14, .int f451_15, .int f451_16, .ref f451_17]))] _ := va_P.cons hat451 va_P.nil
  refine va_get (D := D) (ci := 9) (v := .ref (κ w).2.2.2) (C := RX9) (T := TX9) (N := 18) hx hb hts iX9_isOpen_9 hown hN.1 hP 0 rfl rfl 8 (by decide) (hts _ mX9_isOpen_1) (fun _ h9 => h9) rfl dX9_isOpen_1 ?_
  refine lv_bipush (v := 6) hx hb dX9_isOpen_4 (by decide) ?_
  obtain ⟨hb452, e452, hat452, hk452⟩ := hT.o24 t451_8.1
  obtain ⟨g452, rfl, q452⟩ := hk452
  have hP : va_P D vwCl [((κ w).2.2.2, .inl (cs 0, 45783, .inl g452)), (w, .inr (9, [.int f451_0, .ref f451_1, .int (nI ((κ w).2.2.1)), .int (nI f451_3), .int (nI f451_4), .int f451_5, .int f451_6, .int f451_7, .ref (κ w).2.2.2, .ref f451_9, .ref f451_10, .ref f451_11, .int (nI f451_12), .int f451_13, .int f451_14, .int f451_15, .int f451_16, .ref f451_17]))] _ := va_P.cons hat452 hP
  refine ld_i (v := (g452 6)) hx hb hN hP 0 rfl (vp_in_nI (n := 6) (N := 45783) (by omega) (by omega)) (by rw [(show (6 : Int32).toNatClampNeg = 6 from nI_clamp (n := 6) (by omega))]) dX9_isOpen_6 ?_
  refine gn_i (fun x453 => ?_)
  refine lv_if_le (tgt := 24) hx hb dX9_isOpen_7 (by decide) (fun c454 => ?_) (fun c454 => ?_)
  · refine lv_iconst (v := 0) hx hb dX9_isOpen_24 (by decide) ?_
    exact en_i hx hb hr hlocks hL rfl (Nat.zero_le _) (Nat.zero_le _) dX9_isOpen_25 (⟨rfl, Or.inl rfl⟩)
  · refine lv_aload_n hx hb dX9_isOpen_10 rfl (lv_at hl 0 rfl) ?_
    refine va_get (D := D) (ci := 9) (v := .ref (κ w).2.2.2) (C := RX9) (T := TX9) (N := 18) hx hb hts iX9_isOpen_9 hown hN.1 hP 1 rfl rfl 8 (by decide) (hts _ mX9_isOpen_1) (fun _ h9 => h9) rfl dX9_isOpen_11 ?_
    refine lv_bipush (v := 20) hx hb dX9_isOpen_14 (by decide) ?_
    refine ld_i (v := (g452 20)) hx hb hN hP 0 rfl (vp_in_nI (n := 20) (N := 45783) (by omega) (by omega)) (by rw [(show (20 : Int32).toNatClampNeg = 20 from nI_clamp (n := 20) (by omega))]) dX9_isOpen_16 ?_
    refine gn_i (fun x455 => ?_)
    refine lv_if_ne (tgt := 24) hx hb dX9_isOpen_17 (by decide) (fun c456 => ?_) (fun c456 => ?_)
    · refine lv_iconst (v := 0) hx hb dX9_isOpen_24 (by decide) ?_
      exact en_i hx hb hr hlocks hL rfl (Nat.zero_le _) (Nat.zero_le _) dX9_isOpen_25 (⟨rfl, Or.inl rfl⟩)
    · refine lv_iconst (v := 1) hx hb dX9_isOpen_20 (by decide) ?_
      refine lv_goto (tgt := 25) hx hb dX9_isOpen_21 (by decide) ?_
      exact en_i hx hb hr hlocks hL rfl (Nat.zero_le _) (Nat.zero_le _) dX9_isOpen_25 (⟨rfl, Or.inr rfl⟩)
theorem hdX9_set_v : yX9_set.cls = RX9 ∧ yX9_set.cls ≠ "java/lang/invoke/MethodHandle" ∧ yX9_set.cls ≠ "java/lang/invoke/VarHandle" ∧ (parseMethodDescriptor yX9_set.desc).map (fun d => d.parameters.length) = some 3 := by decide +kernel
set_option maxHeartbeats 4000000 in
set_option maxRecDepth 100000 in
theorem c_X9_plan {l : Launch} {D : va_G} {cs : Nat → ClassId} {B0 T : Nat} {κ : KM} {H0 : Heap} (hT : WT B0 D cs T κ H0) {w : Nat} (hw : T2 κ w 10 12) {n : Nat} (qn : n < 8) {x : Int32} {y : Int32} {z : Int32} {u : Int32} : KC l yX9_plan wsX9_plan 2 43 0 0 D cs B0 H0 [.ref w, .int (nI n), .int x, .int y, .int z, .int u] (Qv (fun H => WT B0 D cs T κ H ∧ Fr B0 [18] κ H0 H)) := by
  refine KC.of cX9_plan 6 none (by decide) rfl (Nat.le_of_ble_eq_true rfl) ?_
  intro p e s m below meth c ls hx hb hr hml hown hts hlocks hin hN hE hH0 hl
  have hown : s.vm.findClass RX9 = some m.cls := hown
  have hl : lv_has ls 6 [(0, .ref w), (1, .int (nI n)), (2, .int x), (3, .int y), (4, .int z), (5, .int u)] := hl
  have hL : OkL B0 [] := OkL.nil
  have hF : Fr B0 [18] κ H0 H0 := Fr.rf
  refine lv_aload_n hx hb dX9_plan_0 rfl (lv_at hl 0 rfl) ?_
  refine lv_iload_n hx hb dX9_plan_1 rfl (lv_at hl 1 rfl) ?_
  refine lv_iconst (v := 5) hx hb dX9_plan_2 (by decide) ?_
  refine cv_i (As := [.int (nI n), .int 5]) (rest := []) (b := w) ⟨hx, hb, hml, hown, hts⟩ (c_X9_of hT (w := w) hw (n := n) (k := 5) (by first | omega | decide | assumption) (by first | omega | decide | assumption)) (cwV 2 hts gX9_plan_X9_of rfl rfl rfl hdX9_of_v ⟨Nat.le_of_ble_eq_true rfl, Nat.le_of_ble_eq_true rfl⟩) hN hE hL (rcv10 hN hT hw.1) rfl rfl hl.1 (Nat.le_of_ble_eq_true rfl) dX9_plan_3 (Nat.zero_le _) (Nat.zero_le _) (fun r457 H1 locs hL hqr457 => ?_)
  obtain rfl := hqr457.symm
  refine lv_if_eq (tgt := 21) hx hb dX9_plan_6 (by decide) (fun c458 => ?_) (fun c458 => ?_)
  · refine lv_aload_n hx hb dX9_plan_21 rfl (lv_at hl 0 rfl) ?_
    refine lv_iload_n hx hb dX9_plan_22 rfl (lv_at hl 1 rfl) ?_
    refine lv_iconst (v := 5) hx hb dX9_plan_23 (by decide) ?_
    refine lv_iload_n hx hb dX9_plan_24 rfl (lv_at hl 2 rfl) ?_
    refine cv_v (As := [.int (nI n), .int 5, .int x]) (rest := []) (b := w) ⟨hx, hb, hml, hown, hts⟩ (c_X9_set hT (w := w) hw (n := n) (k := 5) (x := x) (by first | omega | decide | assumption) (by first | omega | decide | assumption)) (cwV 3 hts gX9_plan_X9_set rfl rfl rfl hdX9_set_v ⟨Nat.le_of_ble_eq_true rfl, Nat.le_of_ble_eq_true rfl⟩) hN hE hL (rcv10 hN hT hw.1) rfl rfl hl.1 (Nat.le_of_ble_eq_true rfl) dX9_plan_25 (Nat.zero_le _) (Nat.zero_le _) (fun H1 locs hL hqr459 => ?_)
    obtain ⟨hT1, hF1⟩ := hqr459
    have hF := hF.tr (hF1.mono (by simp))
    have hT := hT1
    refine lv_aload_n hx hb dX9_plan_28 rfl (lv_at hl 0 rfl) ?_
    refine lv_iload_n hx hb dX9_plan_29 rfl (lv_at hl 1 rfl) ?_
    refine lv_bipush (v := 6) hx hb dX9_plan_30 (by decide) ?_
    refine lv_iload_n hx hb dX9_plan_32 rfl (lv_at hl 3 rfl) ?_
    refine cv_v (As := [.int (nI n), .int 6, .int y]) (rest := []) (b := w) ⟨hx, hb, hml, hown, hts⟩ (c_X9_set hT (w := w) hw (n := n) (k := 6) (x := y) (by first | omega | decide | assumption) (by first | omega | decide | assumption)) (cwV 3 hts gX9_plan_X9_set rfl rfl rfl hdX9_set_v ⟨Nat.le_of_ble_eq_true rfl, Nat.le_of_ble_eq_true rfl⟩) hN hE hL (rcv10 hN hT hw.1) rfl rfl hl.1 (Nat.le_of_ble_eq_true rfl) dX9_plan_33 (Nat.zero_le _) (Nat.zero_le _) (fun H1 locs hL hqr460 => ?_)
    obtain ⟨hT1, hF1⟩ := hqr460
    have hF := hF.tr (hF1.mono (by simp))
    have hT := hT1
    refine lv_aload_n hx hb dX9_plan_36 rfl (lv_at hl 0 rfl) ?_
    refine lv_iload_n hx hb dX9_plan_37 rfl (lv_at hl 1 rfl) ?_
    refine lv_bipush (v := 8) hx hb dX9_plan_38 (by decide) ?_
    refine lv_iload hx hb dX9_plan_40 (lv_at hl 4 rfl) ?_
    refine cv_v (As := [.int (nI n), .int 8, .int z]) (rest := []) (b := w) ⟨hx, hb, hml, hown, hts⟩ (c_X9_set hT (w := w) hw (n := n) (k := 8) (x := z) (by first | omega | decide | assumption) (by first | omega | decide | assumption)) (cwV 3 hts gX9_plan_X9_set rfl rfl rfl hdX9_set_v ⟨Nat.le_of_ble_eq_true rfl, Nat.le_of_ble_eq_true rfl⟩) hN hE hL (rcv10 hN hT hw.1) rfl rfl hl.1 (Nat.le_of_ble_eq_true rfl) dX9_plan_42 (Nat.zero_le _) (Nat.zero_le _) (fun H1 locs hL hqr461 => ?_)
    obtain ⟨hT1, hF1⟩ := hqr461
    have hF := hF.tr (hF1.mono (by simp))
    have hT := hT1
    refine lv_aload_n hx hb dX9_plan_45 rfl (lv_at hl 0 rfl) ?_
    refine lv_iload_n hx hb dX9_plan_46 rfl (lv_at hl 1 rfl) ?_
    refine lv_bipush (v := 7) hx hb dX9_plan_47 (by decide) ?_
    refine lv_iload hx hb dX9_plan_49 (lv_at hl 5 rfl) ?_
    refine cv_v (As := [.int (nI n), .int 7, .int u]) (rest := []) (b := w) ⟨hx, hb, hml, hown, hts⟩ (c_X9_set hT (w := w) hw (n := n) (k := 7) (x := u) (by first | omega | decide | assumption) (by first | omega | decide | assumption)) (cwV 3 hts gX9_plan_X9_set rfl rfl rfl hdX9_set_v ⟨Nat.le_of_ble_eq_true rfl, Nat.le_of_ble_eq_true rfl⟩) hN hE hL (rcv10 hN hT hw.1) rfl rfl hl.1 (Nat.le_of_ble_eq_true rfl) dX9_plan_51 (Nat.zero_le _) (Nat.zero_le _) (fun H1 locs hL hqr462 => ?_)
    obtain ⟨hT1, hF1⟩ := hqr462
    have hF := hF.tr (hF1.mono (by simp))
    have hT := hT1
    exact en_v hx hb hr hlocks hL (Nat.zero_le _) (Nat.zero_le _) dX9_plan_54 (⟨hT, hF⟩)
  · refine lv_aload_n hx hb dX9_plan_9 rfl (lv_at hl 0 rfl) ?_
    refine lv_iload_n hx hb dX9_plan_10 rfl (lv_at hl 1 rfl) ?_
    refine lv_bipush (v := 6) hx hb dX9_plan_11 (by decide) ?_
    refine cv_i (As := [.int (nI n), .int 6]) (rest := []) (b := w) ⟨hx, hb, hml, hown, hts⟩ (c_X9_of hT (w := w) hw (n := n) (k := 6) (by first | omega | decide | assumption) (by first | omega | decide | assumption)) (cwV 2 hts gX9_plan_X9_of rfl rfl rfl hdX9_of_v ⟨Nat.le_of_ble_eq_true rfl, Nat.le_of_ble_eq_true rfl⟩) hN hE hL (rcv10 hN hT hw.1) rfl rfl hl.1 (Nat.le_of_ble_eq_true rfl) dX9_plan_13 (Nat.zero_le _) (Nat.zero_le _) (fun r463 H1 locs hL hqr463 => ?_)
    obtain rfl := hqr463.symm
    refine lv_iload_n hx hb dX9_plan_16 rfl (lv_at hl 3 rfl) ?_
    refine lv_icmp_le (tgt := 21) hx hb dX9_plan_17 (by decide) (fun c464 => ?_) (fun c464 => ?_)
    · refine lv_aload_n hx hb dX9_plan_21 rfl (lv_at hl 0 rfl) ?_
      refine lv_iload_n hx hb dX9_plan_22 rfl (lv_at hl 1 rfl) ?_
      refine lv_iconst (v := 5) hx hb dX9_plan_23 (by decide) ?_
      refine lv_iload_n hx hb dX9_plan_24 rfl (lv_at hl 2 rfl) ?_
      refine cv_v (As := [.int (nI n), .int 5, .int x]) (rest := []) (b := w) ⟨hx, hb, hml, hown, hts⟩ (c_X9_set hT (w := w) hw (n := n) (k := 5) (x := x) (by first | omega | decide | assumption) (by first | omega | decide | assumption)) (cwV 3 hts gX9_plan_X9_set rfl rfl rfl hdX9_set_v ⟨Nat.le_of_ble_eq_true rfl, Nat.le_of_ble_eq_true rfl⟩) hN hE hL (rcv10 hN hT hw.1) rfl rfl hl.1 (Nat.le_of_ble_eq_true rfl) dX9_plan_25 (Nat.zero_le _) (Nat.zero_le _) (fun H1 locs hL hqr465 => ?_)
      obtain ⟨hT1, hF1⟩ := hqr465
      have hF := hF.tr (hF1.mono (by simp))
      have hT := hT1
      refine lv_aload_n hx hb dX9_plan_28 rfl (lv_at hl 0 rfl) ?_
      refine lv_iload_n hx hb dX9_plan_29 rfl (lv_at hl 1 rfl) ?_
      refine lv_bipush (v := 6) hx hb dX9_plan_30 (by decide) ?_
      refine lv_iload_n hx hb dX9_plan_32 rfl (lv_at hl 3 rfl) ?_
      refine cv_v (As := [.int (nI n), .int 6, .int y]) (rest := []) (b := w) ⟨hx, hb, hml, hown, hts⟩ (c_X9_set hT (w := w) hw (n := n) (k := 6) (x := y) (by first | omega | decide | assumption) (by first | omega | decide | assumption)) (cwV 3 hts gX9_plan_X9_set rfl rfl rfl hdX9_set_v ⟨Nat.le_of_ble_eq_true rfl, Nat.le_of_ble_eq_true rfl⟩) hN hE hL (rcv10 hN hT hw.1) rfl rfl hl.1 (Nat.le_of_ble_eq_true rfl) dX9_plan_33 (Nat.zero_le _) (Nat.zero_le _) (fun H1 locs hL hqr466 => ?_)
      obtain ⟨hT1, hF1⟩ := hqr466
      have hF := hF.tr (hF1.mono (by simp))
      have hT := hT1
      refine lv_aload_n hx hb dX9_plan_36 rfl (lv_at hl 0 rfl) ?_
      refine lv_iload_n hx hb dX9_plan_37 rfl (lv_at hl 1 rfl) ?_
      refine lv_bipush (v := 8) hx hb dX9_plan_38 (by decide) ?_
      refine lv_iload hx hb dX9_plan_40 (lv_at hl 4 rfl) ?_
      refine cv_v (As := [.int (nI n), .int 8, .int z]) (rest := []) (b := w) ⟨hx, hb, hml, hown, hts⟩ (c_X9_set hT (w := w) hw (n := n) (k := 8) (x := z) (by first | omega | decide | assumption) (by first | omega | decide | assumption)) (cwV 3 hts gX9_plan_X9_set rfl rfl rfl hdX9_set_v ⟨Nat.le_of_ble_eq_true rfl, Nat.le_of_ble_eq_true rfl⟩) hN hE hL (rcv10 hN hT hw.1) rfl rfl hl.1 (Nat.le_of_ble_eq_true rfl) dX9_plan_42 (Nat.zero_le _) (Nat.zero_le _) (fun H1 locs hL hqr467 => ?_)
      obtain ⟨hT1, hF1⟩ := hqr467
      have hF := hF.tr (hF1.mono (by simp))
      have hT := hT1
      refine lv_aload_n hx hb dX9_plan_45 rfl (lv_at hl 0 rfl) ?_
      refine lv_iload_n hx hb dX9_plan_46 rfl (lv_at hl 1 rfl) ?_
      refine lv_bipush (v := 7) hx hb dX9_plan_47 (by decide) ?_
      refine lv_iload hx hb dX9_plan_49 (lv_at hl 5 rfl) ?_
      refine cv_v (As := [.int (nI n), .int 7, .int u]) (rest := []) (b := w) ⟨hx, hb, hml, hown, hts⟩ (c_X9_set hT (w := w) hw (n := n) (k := 7) (x := u) (by first | omega | decide | assumption) (by first | omega | decide | assumption)) (cwV 3 hts gX9_plan_X9_set rfl rfl rfl hdX9_set_v ⟨Nat.le_of_ble_eq_true rfl, Nat.le_of_ble_eq_true rfl⟩) hN hE hL (rcv10 hN hT hw.1) rfl rfl hl.1 (Nat.le_of_ble_eq_true rfl) dX9_plan_51 (Nat.zero_le _) (Nat.zero_le _) (fun H1 locs hL hqr468 => ?_)
      obtain ⟨hT1, hF1⟩ := hqr468
      have hF := hF.tr (hF1.mono (by simp))
      have hT := hT1
      exact en_v hx hb hr hlocks hL (Nat.zero_le _) (Nat.zero_le _) dX9_plan_54 (⟨hT, hF⟩)
    · exact en_v hx hb hr hlocks hL (Nat.zero_le _) (Nat.zero_le _) dX9_plan_20 (⟨hT, hF⟩)
set_option maxHeartbeats 4000000 in
set_option maxRecDepth 100000 in
theorem c_X9_dropPlan {l : Launch} {D : va_G} {cs : Nat → ClassId} {B0 T : Nat} {κ : KM} {H0 : Heap} (hT : WT B0 D cs T κ H0) {w : Nat} (hw : T2 κ w 10 12) {n : Nat} (qn : n < 8) : KC l yX9_dropPlan wsX9_dropPlan 2 43 0 0 D cs B0 H0 [.ref w, .int (nI n)] (Qv (fun H => WT B0 D cs T κ H ∧ Fr B0 [18] κ H0 H)) := by
  refine KC.of cX9_dropPlan 2 none (by decide) rfl (Nat.le_of_ble_eq_true rfl) ?_
  intro p e s m below meth c ls hx hb hr hml hown hts hlocks hin hN hE hH0 hl
  have hown : s.vm.findClass RX9 = some m.cls := hown
  have hl : lv_has ls 2 [(0, .ref w), (1, .int (nI n))] := hl
  have hL : OkL B0 [] := OkL.nil
  have hF : Fr B0 [18] κ H0 H0 := Fr.rf
  refine lv_aload_n hx hb dX9_dropPlan_0 rfl (lv_at hl 0 rfl) ?_
  refine lv_iload_n hx hb dX9_dropPlan_1 rfl (lv_at hl 1 rfl) ?_
  refine lv_iconst (v := 5) hx hb dX9_dropPlan_2 (by decide) ?_
  refine lv_iconst (v := 0) hx hb dX9_dropPlan_3 (by decide) ?_
  refine cv_v (As := [.int (nI n), .int 5, .int 0]) (rest := []) (b := w) ⟨hx, hb, hml, hown, hts⟩ (c_X9_set hT (w := w) hw (n := n) (k := 5) (x := 0) (by first | omega | decide | assumption) (by first | omega | decide | assumption)) (cwV 3 hts gX9_dropPlan_X9_set rfl rfl rfl hdX9_set_v ⟨Nat.le_of_ble_eq_true rfl, Nat.le_of_ble_eq_true rfl⟩) hN hE hL (rcv10 hN hT hw.1) rfl rfl hl.1 (Nat.le_of_ble_eq_true rfl) dX9_dropPlan_4 (Nat.zero_le _) (Nat.zero_le _) (fun H1 locs hL hqr469 => ?_)
  obtain ⟨hT1, hF1⟩ := hqr469
  have hF := hF.tr (hF1.mono (by simp))
  have hT := hT1
  refine lv_aload_n hx hb dX9_dropPlan_7 rfl (lv_at hl 0 rfl) ?_
  refine lv_iload_n hx hb dX9_dropPlan_8 rfl (lv_at hl 1 rfl) ?_
  refine lv_bipush (v := 6) hx hb dX9_dropPlan_9 (by decide) ?_
  refine lv_iconst (v := (-1)) hx hb dX9_dropPlan_11 (by decide) ?_
  refine cv_v (As := [.int (nI n), .int 6, .int (-1)]) (rest := []) (b := w) ⟨hx, hb, hml, hown, hts⟩ (c_X9_set hT (w := w) hw (n := n) (k := 6) (x := (-1)) (by first | omega | decide | assumption) (by first | omega | decide | assumption)) (cwV 3 hts gX9_dropPlan_X9_set rfl rfl rfl hdX9_set_v ⟨Nat.le_of_ble_eq_true rfl, Nat.le_of_ble_eq_true rfl⟩) hN hE hL (rcv10 hN hT hw.1) rfl rfl hl.1 (Nat.le_of_ble_eq_true rfl) dX9_dropPlan_12 (Nat.zero_le _) (Nat.zero_le _) (fun H1 locs hL hqr470 => ?_)
  obtain ⟨hT1, hF1⟩ := hqr470
  have hF := hF.tr (hF1.mono (by simp))
  have hT := hT1
  exact en_v hx hb hr hlocks hL (Nat.zero_le _) (Nat.zero_le _) dX9_dropPlan_15 (⟨hT, hF⟩)
theorem mX9_vote_1 : (.fieldLink RX9 18 "OneBeatModel" "data" "[I" : Cond) ∈ wsX9_vote := List.mem_of_getElem? (i := 1) (by decide +kernel)
theorem iX9_vote_9 : ∀ w ∈ wsX90, w ∈ wsX9_vote := fun w h => List.mem_of_mem_drop (List.mem_of_mem_take ((show wsX90 = (wsX9_vote.drop 29).take 18 by decide +kernel) ▸ h))
theorem hdX9_plan_v : yX9_plan.cls = RX9 ∧ yX9_plan.cls ≠ "java/lang/invoke/MethodHandle" ∧ yX9_plan.cls ≠ "java/lang/invoke/VarHandle" ∧ (parseMethodDescriptor yX9_plan.desc).map (fun d => d.parameters.length) = some 5 := by decide +kernel
theorem hdX9_sendToOthers_v : yX9_sendToOthers.cls = RX9 ∧ yX9_sendToOthers.cls ≠ "java/lang/invoke/MethodHandle" ∧ yX9_sendToOthers.cls ≠ "java/lang/invoke/VarHandle" ∧ (parseMethodDescriptor yX9_sendToOthers.desc).map (fun d => d.parameters.length) = some 5 := by decide +kernel
set_option maxHeartbeats 4000000 in
set_option maxRecDepth 100000 in
theorem c_X9_vote {l : Launch} {D : va_G} {cs : Nat → ClassId} {B0 T : Nat} {κ : KM} {H0 : Heap} (hT : WT B0 D cs T κ H0) {w : Nat} (hw : T2 κ w 10 12) : KC l yX9_vote wsX9_vote 3 76 0 0 D cs B0 H0 [.ref w] (Qv (fun H => WT B0 D cs T κ H ∧ Fr B0 [18] κ H0 H)) := by
  refine KC.of cX9_vote 1 none (by decide) rfl (Nat.le_of_ble_eq_true rfl) ?_
  intro p e s m below meth c ls hx hb hr hml hown hts hlocks hin hN hE hH0 hl
  have hown : s.vm.findClass RX9 = some m.cls := hown
  have hl : lv_has ls 1 [(0, .ref w)] := hl
  have hL : OkL B0 [] := OkL.nil
  have hF : Fr B0 [18] κ H0 H0 := Fr.rf
  refine lv_aload_n hx hb dX9_vote_0 rfl (lv_at hl 0 rfl) ?_
  obtain ⟨hb471, e471, hat471, hk471⟩ := hT.o10 hw.1
  obtain ⟨f471_0, f471_1, f471_3, f471_4, f471_5, f471_6, f471_7, f471_9, f471_10, f471_11, f471_12, f471_13, f471_14, f471_15, f471_16, f471_17, rfl, c471_2, c471_3, c471_4, c471_12, t471_1, t471_8, t471_9, c471_sd, t471_10, t471_11, t471_17⟩ := hk471
  have hP : va_P D vwCl [(w, .inr (9, [.int f471_0, .ref f471_1, .int (nI ((κ w).2.2.1)), .int (nI f471_3), .int (nI f471_4), .int f471_5, .int f471_6, .int f471_7, .ref (κ w).2.2.2, .ref f471_9, .ref f471_10, .ref f471_11, .int (nI f471_12), .int f471_13, .int f471_14, .int f471_15, .int f471_16, .ref f471_17]))] _ := va_P.cons hat471 va_P.nil
  refine va_get (D := D) (ci := 9) (v := .ref (κ w).2.2.2) (C := RX9) (T := TX9) (N := 18) hx hb hts iX9_vote_9 hown hN.1 hP 0 rfl rfl 8 (by decide) (hts _ mX9_vote_1) (fun _ h9 => h9) rfl dX9_vote_1 ?_
  refine lv_bipush (v := 19) hx hb dX9_vote_4 (by decide) ?_
  refine lv_dup2_11 hx hb dX9_vote_6 rfl rfl ?_
  obtain ⟨hb472, e472, hat472, hk472⟩ := hT.o24 t471_8.1
  obtain ⟨g472, rfl, q472⟩ := hk472
  have hP : va_P D vwCl [((κ w).2.2.2, .inl (cs 0, 45783, .inl g472)), (w, .inr (9, [.int f471_0, .ref f471_1, .int (nI ((κ w).2.2.1)), .int (nI f471_3), .int (nI f471_4), .int f471_5, .int f471_6, .int f471_7, .ref (κ w).2.2.2, .ref f471_9, .ref f471_10, .ref f471_11, .int (nI f471_12), .int f471_13, .int f471_14, .int f471_15, .int f471_16, .ref f471_17]))] _ := va_P.cons hat472 hP
  refine ld_i (v := (g472 19)) hx hb hN hP 0 rfl (vp_in_nI (n := 19) (N := 45783) (by omega) (by omega)) (by rw [(show (19 : Int32).toNatClampNeg = 19 from nI_clamp (n := 19) (by omega))]) dX9_vote_7 ?_
  refine gn_i (fun x473 => ?_)
  refine lv_iconst (v := 1) hx hb dX9_vote_8 (by decide) ?_
  refine lv_iadd hx hb dX9_vote_9 ?_
  refine gn_i (fun x474 => ?_)
  have hB : Bx B0 D _ [((κ w).2.2.2, .inl (cs 0, 45783, .inl g472)), (w, .inr (9, [.int f471_0, .ref f471_1, .int (nI ((κ w).2.2.1)), .int (nI f471_3), .int (nI f471_4), .int f471_5, .int f471_6, .int f471_7, .ref (κ w).2.2.2, .ref f471_9, .ref f471_10, .ref f471_11, .int (nI f471_12), .int f471_13, .int f471_14, .int f471_15, .int f471_16, .ref f471_17]))] [] _ _ := Bx.of (fun a => (κ a).1) hL hP (fa_c hb472 (fa_c hb471 fa_n)) (by simp only [List.map_cons, List.map_nil, t471_8.1, hw.1]; decide)
  refine b_i hx hb hN hB 0 rfl (show vp_in (19 : Int32) 45783 from vp_in_nI (n := 19) (N := 45783) (by omega) (by omega)) (.inl rfl) dX9_vote_10 (fun H locs hB => ?_)
  rw [(show (19 : Int32).toNatClampNeg = 19 from nI_clamp (n := 19) (by omega))] at hB
  have hB : Bx B0 D _ [((κ w).2.2.2, .inl (cs 0, 45783, .inl (upd g472 19 x474))), (w, .inr (9, [.int f471_0, .ref f471_1, .int (nI ((κ w).2.2.1)), .int (nI f471_3), .int (nI f471_4), .int f471_5, .int f471_6, .int f471_7, .ref (κ w).2.2.2, .ref f471_9, .ref f471_10, .ref f471_11, .int (nI f471_12), .int f471_13, .int f471_14, .int f471_15, .int f471_16, .ref f471_17]))] [(κ w).2.2.2] _ _ := hB
  have z475 := DOK.sf q472 (k := 19) (by omega) (x := x474)
  refine lv_aload_n hx hb dX9_vote_11 rfl (lv_at hl 0 rfl) ?_
  refine va_get (D := D) (ci := 9) (v := .ref (κ w).2.2.2) (C := RX9) (T := TX9) (N := 18) hx hb hts iX9_vote_9 hown hN.1 hB.1 1 rfl rfl 8 (by decide) (hts _ mX9_vote_1) (fun _ h9 => h9) rfl dX9_vote_12 ?_
  refine lv_bipush (v := 19) hx hb dX9_vote_15 (by decide) ?_
  refine ld_i (v := ((upd g472 19 x474) 19)) hx hb hN hB.1 0 rfl (vp_in_nI (n := 19) (N := 45783) (by omega) (by omega)) (by rw [(show (19 : Int32).toNatClampNeg = 19 from nI_clamp (n := 19) (by omega))]) dX9_vote_17 ?_
  refine gn_i (fun x476 => ?_)
  refine lv_aload_n hx hb dX9_vote_18 rfl (lv_at hl 0 rfl) ?_
  refine va_get (D := D) (ci := 9) (v := .ref (κ w).2.2.2) (C := RX9) (T := TX9) (N := 18) hx hb hts iX9_vote_9 hown hN.1 hB.1 1 rfl rfl 8 (by decide) (hts _ mX9_vote_1) (fun _ h9 => h9) rfl dX9_vote_19 ?_
  refine lv_bipush (v := 11) hx hb dX9_vote_22 (by decide) ?_
  refine ld_i (v := ((upd g472 19 x474) 11)) hx hb hN hB.1 0 rfl (vp_in_nI (n := 11) (N := 45783) (by omega) (by omega)) (by rw [(show (11 : Int32).toNatClampNeg = 11 from nI_clamp (n := 11) (by omega))]) dX9_vote_24 ?_
  refine gn_i (fun x477 => ?_)
  refine lv_icmp_ge (tgt := 29) hx hb dX9_vote_25 (by decide) (fun c478 => ?_) (fun c478 => ?_)
  · refine lv_aload_n hx hb dX9_vote_29 rfl (lv_at hl 0 rfl) ?_
    refine va_get (D := D) (ci := 9) (v := .ref (κ w).2.2.2) (C := RX9) (T := TX9) (N := 18) hx hb hts iX9_vote_9 hown hN.1 hB.1 1 rfl rfl 8 (by decide) (hts _ mX9_vote_1) (fun _ h9 => h9) rfl dX9_vote_30 ?_
    refine lv_bipush (v := 20) hx hb dX9_vote_33 (by decide) ?_
    refine lv_iconst (v := 1) hx hb dX9_vote_35 (by decide) ?_
    refine b_i hx hb hN hB 0 rfl (show vp_in (20 : Int32) 45783 from vp_in_nI (n := 20) (N := 45783) (by omega) (by omega)) (.inr ⟨rfl, List.mem_of_getElem? (i := 0) rfl⟩) dX9_vote_36 (fun H locs hB => ?_)
    rw [(show (20 : Int32).toNatClampNeg = 20 from nI_clamp (n := 20) (by omega))] at hB
    have hB : Bx B0 D _ [((κ w).2.2.2, .inl (cs 0, 45783, .inl (upd (upd g472 19 x474) 20 1))), (w, .inr (9, [.int f471_0, .ref f471_1, .int (nI ((κ w).2.2.1)), .int (nI f471_3), .int (nI f471_4), .int f471_5, .int f471_6, .int f471_7, .ref (κ w).2.2.2, .ref f471_9, .ref f471_10, .ref f471_11, .int (nI f471_12), .int f471_13, .int f471_14, .int f471_15, .int f471_16, .ref f471_17]))] [(κ w).2.2.2] _ _ := hB
    have z479 := DOK.sf z475 (k := 20) (by omega) (x := 1)
    refine lv_aload_n hx hb dX9_vote_37 rfl (lv_at hl 0 rfl) ?_
    refine va_get (D := D) (ci := 9) (v := .ref (κ w).2.2.2) (C := RX9) (T := TX9) (N := 18) hx hb hts iX9_vote_9 hown hN.1 hB.1 1 rfl rfl 8 (by decide) (hts _ mX9_vote_1) (fun _ h9 => h9) rfl dX9_vote_38 ?_
    refine lv_bipush (v := 7) hx hb dX9_vote_41 (by decide) ?_
    refine lv_dup2_11 hx hb dX9_vote_43 rfl rfl ?_
    refine ld_i (v := ((upd (upd g472 19 x474) 20 1) 7)) hx hb hN hB.1 0 rfl (vp_in_nI (n := 7) (N := 45783) (by omega) (by omega)) (by rw [(show (7 : Int32).toNatClampNeg = 7 from nI_clamp (n := 7) (by omega))]) dX9_vote_44 ?_
    refine gn_i (fun x480 => ?_)
    refine lv_iconst (v := 1) hx hb dX9_vote_45 (by decide) ?_
    refine lv_iadd hx hb dX9_vote_46 ?_
    refine gn_i (fun x481 => ?_)
    refine b_i hx hb hN hB 0 rfl (show vp_in (7 : Int32) 45783 from vp_in_nI (n := 7) (N := 45783) (by omega) (by omega)) (.inr ⟨rfl, List.mem_of_getElem? (i := 0) rfl⟩) dX9_vote_47 (fun H locs hB => ?_)
    rw [(show (7 : Int32).toNatClampNeg = 7 from nI_clamp (n := 7) (by omega))] at hB
    have hB : Bx B0 D _ [((κ w).2.2.2, .inl (cs 0, 45783, .inl (upd (upd (upd g472 19 x474) 20 1) 7 x481))), (w, .inr (9, [.int f471_0, .ref f471_1, .int (nI ((κ w).2.2.1)), .int (nI f471_3), .int (nI f471_4), .int f471_5, .int f471_6, .int f471_7, .ref (κ w).2.2.2, .ref f471_9, .ref f471_10, .ref f471_11, .int (nI f471_12), .int f471_13, .int f471_14, .int f471_15, .int f471_16, .ref f471_17]))] [(κ w).2.2.2] _ _ := hB
    have z482 := DOK.sf z479 (k := 7) (by omega) (x := x481)
    refine lv_aload_n hx hb dX9_vote_48 rfl (lv_at hl 0 rfl) ?_
    refine lv_aload_n hx hb dX9_vote_49 rfl (lv_at hl 0 rfl) ?_
    refine va_get (D := D) (ci := 9) (v := .ref (κ w).2.2.2) (C := RX9) (T := TX9) (N := 18) hx hb hts iX9_vote_9 hown hN.1 hB.1 1 rfl rfl 8 (by decide) (hts _ mX9_vote_1) (fun _ h9 => h9) rfl dX9_vote_50 ?_
    refine lv_bipush (v := 18) hx hb dX9_vote_53 (by decide) ?_
    refine ld_i (v := ((upd (upd (upd g472 19 x474) 20 1) 7 x481) 18)) hx hb hN hB.1 0 rfl (vp_in_nI (n := 18) (N := 45783) (by omega) (by omega)) (by rw [(show (18 : Int32).toNatClampNeg = 18 from nI_clamp (n := 18) (by omega))]) dX9_vote_55 ?_
    obtain ⟨n483, hn483, en483⟩ := z482.2.2.2.2.2.2
    refine tp_i (nI n483) en483 ?_
    refine lv_iconst (v := 2) hx hb dX9_vote_56 (by decide) ?_
    refine lv_aload_n hx hb dX9_vote_57 rfl (lv_at hl 0 rfl) ?_
    refine va_get (D := D) (ci := 9) (v := .ref (κ w).2.2.2) (C := RX9) (T := TX9) (N := 18) hx hb hts iX9_vote_9 hown hN.1 hB.1 1 rfl rfl 8 (by decide) (hts _ mX9_vote_1) (fun _ h9 => h9) rfl dX9_vote_58 ?_
    refine lv_bipush (v := 6) hx hb dX9_vote_61 (by decide) ?_
    refine ld_i (v := ((upd (upd (upd g472 19 x474) 20 1) 7 x481) 6)) hx hb hN hB.1 0 rfl (vp_in_nI (n := 6) (N := 45783) (by omega) (by omega)) (by rw [(show (6 : Int32).toNatClampNeg = 6 from nI_clamp (n := 6) (by omega))]) dX9_vote_63 ?_
    refine gn_i (fun x484 => ?_)
    refine lv_iconst (v := 1) hx hb dX9_vote_64 (by decide) ?_
    refine lv_isub hx hb dX9_vote_65 ?_
    refine gn_i (fun x485 => ?_)
    refine lv_aload_n hx hb dX9_vote_66 rfl (lv_at hl 0 rfl) ?_
    refine va_get (D := D) (ci := 9) (v := .ref (κ w).2.2.2) (C := RX9) (T := TX9) (N := 18) hx hb hts iX9_vote_9 hown hN.1 hB.1 1 rfl rfl 8 (by decide) (hts _ mX9_vote_1) (fun _ h9 => h9) rfl dX9_vote_67 ?_
    refine lv_bipush (v := 16) hx hb dX9_vote_70 (by decide) ?_
    refine ld_i (v := ((upd (upd (upd g472 19 x474) 20 1) 7 x481) 16)) hx hb hN hB.1 0 rfl (vp_in_nI (n := 16) (N := 45783) (by omega) (by omega)) (by rw [(show (16 : Int32).toNatClampNeg = 16 from nI_clamp (n := 16) (by omega))]) dX9_vote_72 ?_
    refine gn_i (fun x486 => ?_)
    refine lv_aload_n hx hb dX9_vote_73 rfl (lv_at hl 0 rfl) ?_
    refine va_get (D := D) (ci := 9) (v := .ref (κ w).2.2.2) (C := RX9) (T := TX9) (N := 18) hx hb hts iX9_vote_9 hown hN.1 hB.1 1 rfl rfl 8 (by decide) (hts _ mX9_vote_1) (fun _ h9 => h9) rfl dX9_vote_74 ?_
    refine lv_bipush (v := 15) hx hb dX9_vote_77 (by decide) ?_
    refine ld_i (v := ((upd (upd (upd g472 19 x474) 20 1) 7 x481) 15)) hx hb hN hB.1 0 rfl (vp_in_nI (n := 15) (N := 45783) (by omega) (by omega)) (by rw [(show (15 : Int32).toNatClampNeg = 15 from nI_clamp (n := 15) (by omega))]) dX9_vote_79 ?_
    refine gn_i (fun x487 => ?_)
    have hT : WT B0 D cs T κ _ := hT.close hB ⟨⟨0, _, rfl, ok_24 t471_8.1 ⟨_, rfl, z482⟩⟩, trivial⟩
    have hF : Fr B0 [18] κ H0 _ := hF.close hB (fa_c (by simp [t471_8.2]) fa_n)
    have hL : OkL B0 _ := hB.2.2.2.2.2
    have hP : va_P D vwCl [((κ w).2.2.2, .inl (cs 0, 45783, .inl (upd (upd (upd g472 19 x474) 20 1) 7 x481))), (w, .inr (9, [.int f471_0, .ref f471_1, .int (nI ((κ w).2.2.1)), .int (nI f471_3), .int (nI f471_4), .int f471_5, .int f471_6, .int f471_7, .ref (κ w).2.2.2, .ref f471_9, .ref f471_10, .ref f471_11, .int (nI f471_12), .int f471_13, .int f471_14, .int f471_15, .int f471_16, .ref f471_17]))] _ := hB.1
    refine cv_v (As := [.int (nI n483), .int 2, .int x485, .int x486, .int x487]) (rest := []) (b := w) ⟨hx, hb, hml, hown, hts⟩ (c_X9_plan hT (w := w) hw (n := n483) (x := 2) (y := x485) (z := x486) (u := x487) (by first | omega | decide | assumption)) (cwV 5 hts gX9_vote_X9_plan rfl rfl rfl hdX9_plan_v ⟨Nat.le_of_ble_eq_true rfl, Nat.le_of_ble_eq_true rfl⟩) hN hE hL (rcv10 hN hT hw.1) rfl rfl hl.1 (Nat.le_of_ble_eq_true rfl) dX9_vote_80 (Nat.zero_le _) (Nat.zero_le _) (fun H1 locs hL hqr488 => ?_)
    obtain ⟨hT1, hF1⟩ := hqr488
    have hP : va_P D vwCl [(w, .inr (9, [.int f471_0, .ref f471_1, .int (nI ((κ w).2.2.1)), .int (nI f471_3), .int (nI f471_4), .int f471_5, .int f471_6, .int f471_7, .ref (κ w).2.2.2, .ref f471_9, .ref f471_10, .ref f471_11, .int (nI f471_12), .int f471_13, .int f471_14, .int f471_15, .int f471_16, .ref f471_17]))] _ := hF1.hP (hP.sub [1] rfl) (fa_c ⟨by rw [hw.1]; decide, by rw [hw.2]; first | decide | (simp; done) | (simp [h15a, h15b, h15c]; done) | (simp; omega)⟩ fa_n)
    have hF := hF.tr (hF1.mono (by simp))
    have hT := hT1
    refine lv_aload_n hx hb dX9_vote_83 rfl (lv_at hl 0 rfl) ?_
    refine lv_iconst (v := 4) hx hb dX9_vote_84 (by decide) ?_
    refine lv_aload_n hx hb dX9_vote_85 rfl (lv_at hl 0 rfl) ?_
    refine va_get (D := D) (ci := 9) (v := .ref (κ w).2.2.2) (C := RX9) (T := TX9) (N := 18) hx hb hts iX9_vote_9 hown hN.1 hP 0 rfl rfl 8 (by decide) (hts _ mX9_vote_1) (fun _ h9 => h9) rfl dX9_vote_86 ?_
    refine lv_bipush (v := 18) hx hb dX9_vote_89 (by decide) ?_
    obtain ⟨hb489, e489, hat489, hk489⟩ := hT.o24 t471_8.1
    obtain ⟨g489, rfl, q489⟩ := hk489
    have hP : va_P D vwCl [((κ w).2.2.2, .inl (cs 0, 45783, .inl g489)), (w, .inr (9, [.int f471_0, .ref f471_1, .int (nI ((κ w).2.2.1)), .int (nI f471_3), .int (nI f471_4), .int f471_5, .int f471_6, .int f471_7, .ref (κ w).2.2.2, .ref f471_9, .ref f471_10, .ref f471_11, .int (nI f471_12), .int f471_13, .int f471_14, .int f471_15, .int f471_16, .ref f471_17]))] _ := va_P.cons hat489 hP
    refine ld_i (v := (g489 18)) hx hb hN hP 0 rfl (vp_in_nI (n := 18) (N := 45783) (by omega) (by omega)) (by rw [(show (18 : Int32).toNatClampNeg = 18 from nI_clamp (n := 18) (by omega))]) dX9_vote_91 ?_
    obtain ⟨n490, hn490, en490⟩ := q489.2.2.2.2.2.2
    refine tp_i (nI n490) en490 ?_
    refine lv_aload_n hx hb dX9_vote_92 rfl (lv_at hl 0 rfl) ?_
    refine va_get (D := D) (ci := 9) (v := .ref (κ w).2.2.2) (C := RX9) (T := TX9) (N := 18) hx hb hts iX9_vote_9 hown hN.1 hP 1 rfl rfl 8 (by decide) (hts _ mX9_vote_1) (fun _ h9 => h9) rfl dX9_vote_93 ?_
    refine lv_bipush (v := 6) hx hb dX9_vote_96 (by decide) ?_
    refine ld_i (v := (g489 6)) hx hb hN hP 0 rfl (vp_in_nI (n := 6) (N := 45783) (by omega) (by omega)) (by rw [(show (6 : Int32).toNatClampNeg = 6 from nI_clamp (n := 6) (by omega))]) dX9_vote_98 ?_
    refine gn_i (fun x491 => ?_)
    refine lv_iconst (v := 1) hx hb dX9_vote_99 (by decide) ?_
    refine lv_isub hx hb dX9_vote_100 ?_
    refine gn_i (fun x492 => ?_)
    refine lv_aload_n hx hb dX9_vote_101 rfl (lv_at hl 0 rfl) ?_
    refine va_get (D := D) (ci := 9) (v := .ref (κ w).2.2.2) (C := RX9) (T := TX9) (N := 18) hx hb hts iX9_vote_9 hown hN.1 hP 1 rfl rfl 8 (by decide) (hts _ mX9_vote_1) (fun _ h9 => h9) rfl dX9_vote_102 ?_
    refine lv_bipush (v := 16) hx hb dX9_vote_105 (by decide) ?_
    refine ld_i (v := (g489 16)) hx hb hN hP 0 rfl (vp_in_nI (n := 16) (N := 45783) (by omega) (by omega)) (by rw [(show (16 : Int32).toNatClampNeg = 16 from nI_clamp (n := 16) (by omega))]) dX9_vote_107 ?_
    refine gn_i (fun x493 => ?_)
    refine lv_aload_n hx hb dX9_vote_108 rfl (lv_at hl 0 rfl) ?_
    refine va_get (D := D) (ci := 9) (v := .ref (κ w).2.2.2) (C := RX9) (T := TX9) (N := 18) hx hb hts iX9_vote_9 hown hN.1 hP 1 rfl rfl 8 (by decide) (hts _ mX9_vote_1) (fun _ h9 => h9) rfl dX9_vote_109 ?_
    refine lv_bipush (v := 15) hx hb dX9_vote_112 (by decide) ?_
    refine ld_i (v := (g489 15)) hx hb hN hP 0 rfl (vp_in_nI (n := 15) (N := 45783) (by omega) (by omega)) (by rw [(show (15 : Int32).toNatClampNeg = 15 from nI_clamp (n := 15) (by omega))]) dX9_vote_114 ?_
    refine gn_i (fun x494 => ?_)
    refine cv_v (As := [.int 4, .int (nI n490), .int x492, .int x493, .int x494]) (rest := []) (b := w) ⟨hx, hb, hml, hown, hts⟩ (c_X9_sendToOthers hT (w := w) hw (x := 4) (n := n490) (y := x492) (z := x493) (u := x494) (by first | omega | decide | assumption) (by first | omega | decide | assumption)) (cwV 5 hts gX9_vote_X9_sendToOthers rfl rfl rfl hdX9_sendToOthers_v ⟨Nat.le_of_ble_eq_true rfl, Nat.le_of_ble_eq_true rfl⟩) hN hE hL (rcv10 hN hT hw.1) rfl rfl hl.1 (Nat.le_of_ble_eq_true rfl) dX9_vote_115 (Nat.zero_le _) (Nat.zero_le _) (fun H1 locs hL hqr495 => ?_)
    obtain ⟨hT1, hF1⟩ := hqr495
    have hP : va_P D vwCl [(w, .inr (9, [.int f471_0, .ref f471_1, .int (nI ((κ w).2.2.1)), .int (nI f471_3), .int (nI f471_4), .int f471_5, .int f471_6, .int f471_7, .ref (κ w).2.2.2, .ref f471_9, .ref f471_10, .ref f471_11, .int (nI f471_12), .int f471_13, .int f471_14, .int f471_15, .int f471_16, .ref f471_17]))] _ := hF1.hP (hP.sub [1] rfl) (fa_c ⟨by rw [hw.1]; decide, by rw [hw.2]; first | decide | (simp; done) | (simp [h15a, h15b, h15c]; done) | (simp; omega)⟩ fa_n)
    have hF := hF.tr (hF1.mono (by simp))
    have hT := hT1
    exact en_v hx hb hr hlocks hL (Nat.zero_le _) (Nat.zero_le _) dX9_vote_118 (⟨hT, hF⟩)
  · have hT : WT B0 D cs T κ _ := hT.close hB ⟨⟨0, _, rfl, ok_24 t471_8.1 ⟨_, rfl, z475⟩⟩, trivial⟩
    have hF : Fr B0 [18] κ H0 _ := hF.close hB (fa_c (by simp [t471_8.2]) fa_n)
    have hL : OkL B0 _ := hB.2.2.2.2.2
    have hP : va_P D vwCl [((κ w).2.2.2, .inl (cs 0, 45783, .inl (upd g472 19 x474))), (w, .inr (9, [.int f471_0, .ref f471_1, .int (nI ((κ w).2.2.1)), .int (nI f471_3), .int (nI f471_4), .int f471_5, .int f471_6, .int f471_7, .ref (κ w).2.2.2, .ref f471_9, .ref f471_10, .ref f471_11, .int (nI f471_12), .int f471_13, .int f471_14, .int f471_15, .int f471_16, .ref f471_17]))] _ := hB.1
    exact en_v hx hb hr hlocks hL (Nat.zero_le _) (Nat.zero_le _) dX9_vote_28 (⟨hT, hF⟩)
theorem hdX9_isUp_v : yX9_isUp.cls = RX9 ∧ yX9_isUp.cls ≠ "java/lang/invoke/MethodHandle" ∧ yX9_isUp.cls ≠ "java/lang/invoke/VarHandle" ∧ (parseMethodDescriptor yX9_isUp.desc).map (fun d => d.parameters.length) = some 1 := by decide +kernel
theorem mX9_handle_1 : (.fieldLink RX9 18 "OneBeatModel" "data" "[I" : Cond) ∈ wsX9_handle := List.mem_of_getElem? (i := 1) (by decide +kernel)
theorem iX9_handle_9 : ∀ w ∈ wsX90, w ∈ wsX9_handle := fun w h => List.mem_of_mem_drop (List.mem_of_mem_take ((show wsX90 = (wsX9_handle.drop 49).take 18 by decide +kernel) ▸ h))
theorem hdX9_dropPlan_v : yX9_dropPlan.cls = RX9 ∧ yX9_dropPlan.cls ≠ "java/lang/invoke/MethodHandle" ∧ yX9_dropPlan.cls ≠ "java/lang/invoke/VarHandle" ∧ (parseMethodDescriptor yX9_dropPlan.desc).map (fun d => d.parameters.length) = some 1 := by decide +kernel
theorem hdX9_isOpen_v : yX9_isOpen.cls = RX9 ∧ yX9_isOpen.cls ≠ "java/lang/invoke/MethodHandle" ∧ yX9_isOpen.cls ≠ "java/lang/invoke/VarHandle" ∧ (parseMethodDescriptor yX9_isOpen.desc).map (fun d => d.parameters.length) = some 0 := by decide +kernel
theorem hdX9_vote_v : yX9_vote.cls = RX9 ∧ yX9_vote.cls ≠ "java/lang/invoke/MethodHandle" ∧ yX9_vote.cls ≠ "java/lang/invoke/VarHandle" ∧ (parseMethodDescriptor yX9_vote.desc).map (fun d => d.parameters.length) = some 0 := by decide +kernel
set_option maxHeartbeats 4000000 in
set_option maxRecDepth 100000 in
theorem c_X9_handle {l : Launch} {D : va_G} {cs : Nat → ClassId} {B0 T : Nat} {κ : KM} {H0 : Heap} (hT : WT B0 D cs T κ H0) {w : Nat} (hw : T2 κ w 10 12) {x : Int32} {n : Nat} (qn : n < 8) {k : Nat} (qk : k < 8) {y : Int32} {z : Int32} {u : Int32} : KC l yX9_handle wsX9_handle 4 96 0 0 D cs B0 H0 [.ref w, .int x, .int (nI n), .int (nI k), .int y, .int z, .int u] (Qv (fun H => WT B0 D cs T κ H ∧ Fr B0 [18] κ H0 H)) := by
  refine KC.of cX9_handle 7 none (by decide) rfl (Nat.le_of_ble_eq_true rfl) ?_
  intro p e s m below meth c ls hx hb hr hml hown hts hlocks hin hN hE hH0 hl
  have hown : s.vm.findClass RX9 = some m.cls := hown
  have hl : lv_has ls 7 [(0, .ref w), (1, .int x), (2, .int (nI n)), (3, .int (nI k)), (4, .int y), (5, .int z), (6, .int u)] := hl
  have hL : OkL B0 [] := OkL.nil
  have hF : Fr B0 [18] κ H0 H0 := Fr.rf
  refine lv_aload_n hx hb dX9_handle_0 rfl (lv_at hl 0 rfl) ?_
  refine lv_iload_n hx hb dX9_handle_1 rfl (lv_at hl 3 rfl) ?_
  refine cv_i (As := [.int (nI k)]) (rest := []) (b := w) ⟨hx, hb, hml, hown, hts⟩ (c_X9_isUp hT (w := w) hw (n := k) (by first | omega | decide | assumption)) (cwV 1 hts gX9_handle_X9_isUp rfl rfl rfl hdX9_isUp_v ⟨Nat.le_of_ble_eq_true rfl, Nat.le_of_ble_eq_true rfl⟩) hN hE hL (rcv10 hN hT hw.1) rfl rfl hl.1 (Nat.le_of_ble_eq_true rfl) dX9_handle_2 (Nat.zero_le _) (Nat.zero_le _) (fun r496 H1 locs hL hqr496 => ?_)
  obtain ⟨h9, hqr496⟩ := hqr496; replace h9 := h9.symm; subst h9
  rcases hqr496 with rfl | rfl
  · refine lv_if_ne (tgt := 19) hx hb dX9_handle_5 (by decide) (fun c9 => absurd (by decide) c9) (fun _ => ?_)
    refine lv_aload_n hx hb dX9_handle_8 rfl (lv_at hl 0 rfl) ?_
    obtain ⟨hb497, e497, hat497, hk497⟩ := hT.o10 hw.1
    obtain ⟨f497_0, f497_1, f497_3, f497_4, f497_5, f497_6, f497_7, f497_9, f497_10, f497_11, f497_12, f497_13, f497_14, f497_15, f497_16, f497_17, rfl, c497_2, c497_3, c497_4, c497_12, t497_1, t497_8, t497_9, c497_sd, t497_10, t497_11, t497_17⟩ := hk497
    have hP : va_P D vwCl [(w, .inr (9, [.int f497_0, .ref f497_1, .int (nI ((κ w).2.2.1)), .int (nI f497_3), .int (nI f497_4), .int f497_5, .int f497_6, .int f497_7, .ref (κ w).2.2.2, .ref f497_9, .ref f497_10, .ref f497_11, .int (nI f497_12), .int f497_13, .int f497_14, .int f497_15, .int f497_16, .ref f497_17]))] _ := va_P.cons hat497 va_P.nil
    refine va_get (D := D) (ci := 9) (v := .ref (κ w).2.2.2) (C := RX9) (T := TX9) (N := 18) hx hb hts iX9_handle_9 hown hN.1 hP 0 rfl rfl 8 (by decide) (hts _ mX9_handle_1) (fun _ h9 => h9) rfl dX9_handle_9 ?_
    refine lv_iconst (v := 5) hx hb dX9_handle_12 (by decide) ?_
    refine lv_dup2_11 hx hb dX9_handle_13 rfl rfl ?_
    obtain ⟨hb498, e498, hat498, hk498⟩ := hT.o24 t497_8.1
    obtain ⟨g498, rfl, q498⟩ := hk498
    have hP : va_P D vwCl [((κ w).2.2.2, .inl (cs 0, 45783, .inl g498)), (w, .inr (9, [.int f497_0, .ref f497_1, .int (nI ((κ w).2.2.1)), .int (nI f497_3), .int (nI f497_4), .int f497_5, .int f497_6, .int f497_7, .ref (κ w).2.2.2, .ref f497_9, .ref f497_10, .ref f497_11, .int (nI f497_12), .int f497_13, .int f497_14, .int f497_15, .int f497_16, .ref f497_17]))] _ := va_P.cons hat498 hP
    refine ld_i (v := (g498 5)) hx hb hN hP 0 rfl (vp_in_nI (n := 5) (N := 45783) (by omega) (by omega)) (by rw [(show (5 : Int32).toNatClampNeg = 5 from nI_clamp (n := 5) (by omega))]) dX9_handle_14 ?_
    refine gn_i (fun x499 => ?_)
    refine lv_iconst (v := 1) hx hb dX9_handle_15 (by decide) ?_
    refine lv_iadd hx hb dX9_handle_16 ?_
    refine gn_i (fun x500 => ?_)
    have hB : Bx B0 D _ [((κ w).2.2.2, .inl (cs 0, 45783, .inl g498)), (w, .inr (9, [.int f497_0, .ref f497_1, .int (nI ((κ w).2.2.1)), .int (nI f497_3), .int (nI f497_4), .int f497_5, .int f497_6, .int f497_7, .ref (κ w).2.2.2, .ref f497_9, .ref f497_10, .ref f497_11, .int (nI f497_12), .int f497_13, .int f497_14, .int f497_15, .int f497_16, .ref f497_17]))] [] _ _ := Bx.of (fun a => (κ a).1) hL hP (fa_c hb498 (fa_c hb497 fa_n)) (by simp only [List.map_cons, List.map_nil, t497_8.1, hw.1]; decide)
    refine b_i hx hb hN hB 0 rfl (show vp_in (5 : Int32) 45783 from vp_in_nI (n := 5) (N := 45783) (by omega) (by omega)) (.inl rfl) dX9_handle_17 (fun H locs hB => ?_)
    rw [(show (5 : Int32).toNatClampNeg = 5 from nI_clamp (n := 5) (by omega))] at hB
    have hB : Bx B0 D _ [((κ w).2.2.2, .inl (cs 0, 45783, .inl (upd g498 5 x500))), (w, .inr (9, [.int f497_0, .ref f497_1, .int (nI ((κ w).2.2.1)), .int (nI f497_3), .int (nI f497_4), .int f497_5, .int f497_6, .int f497_7, .ref (κ w).2.2.2, .ref f497_9, .ref f497_10, .ref f497_11, .int (nI f497_12), .int f497_13, .int f497_14, .int f497_15, .int f497_16, .ref f497_17]))] [(κ w).2.2.2] _ _ := hB
    have z501 := DOK.sf q498 (k := 5) (by omega) (x := x500)
    have hT : WT B0 D cs T κ _ := hT.close hB ⟨⟨0, _, rfl, ok_24 t497_8.1 ⟨_, rfl, z501⟩⟩, trivial⟩
    have hF : Fr B0 [18] κ H0 _ := hF.close hB (fa_c (by simp [t497_8.2]) fa_n)
    have hL : OkL B0 _ := hB.2.2.2.2.2
    have hP : va_P D vwCl [((κ w).2.2.2, .inl (cs 0, 45783, .inl (upd g498 5 x500))), (w, .inr (9, [.int f497_0, .ref f497_1, .int (nI ((κ w).2.2.1)), .int (nI f497_3), .int (nI f497_4), .int f497_5, .int f497_6, .int f497_7, .ref (κ w).2.2.2, .ref f497_9, .ref f497_10, .ref f497_11, .int (nI f497_12), .int f497_13, .int f497_14, .int f497_15, .int f497_16, .ref f497_17]))] _ := hB.1
    exact en_v hx hb hr hlocks hL (Nat.zero_le _) (Nat.zero_le _) dX9_handle_18 (⟨hT, hF⟩)
  · refine lv_if_ne (tgt := 19) hx hb dX9_handle_5 (by decide) (fun _ => ?_) (fun c9 => absurd c9 (by decide))
    refine lv_iload_n hx hb dX9_handle_19 rfl (lv_at hl 1 rfl) ?_
    by_cases c502 : (x : Int32).toInt < (0 : Int) ∨ (4 : Int) < (x : Int32).toInt
    · refine lv_tableOut (tgt := 198) hx hb dX9_handle_20 c502 (by decide) ?_
      refine lv_aload_n hx hb dX9_handle_198 rfl (lv_at hl 0 rfl) ?_
      refine lv_iload_n hx hb dX9_handle_199 rfl (lv_at hl 3 rfl) ?_
      refine lv_iconst (v := 5) hx hb dX9_handle_200 (by decide) ?_
      refine cv_i (As := [.int (nI k), .int 5]) (rest := []) (b := w) ⟨hx, hb, hml, hown, hts⟩ (c_X9_of hT (w := w) hw (n := k) (k := 5) (by first | omega | decide | assumption) (by first | omega | decide | assumption)) (cwV 2 hts gX9_handle_X9_of rfl rfl rfl hdX9_of_v ⟨Nat.le_of_ble_eq_true rfl, Nat.le_of_ble_eq_true rfl⟩) hN hE hL (rcv10 hN hT hw.1) rfl rfl hl.1 (Nat.le_of_ble_eq_true rfl) dX9_handle_201 (Nat.zero_le _) (Nat.zero_le _) (fun r503 H1 locs hL hqr503 => ?_)
      obtain rfl := hqr503.symm
      refine lv_iconst (v := 1) hx hb dX9_handle_204 (by decide) ?_
      refine lv_icmp_ne (tgt := 225) hx hb dX9_handle_205 (by decide) (fun c504 => ?_) (fun c504 => ?_)
      · exact en_v hx hb hr hlocks hL (Nat.zero_le _) (Nat.zero_le _) dX9_handle_225 (⟨hT, hF⟩)
      · refine lv_aload_n hx hb dX9_handle_208 rfl (lv_at hl 0 rfl) ?_
        refine lv_iload_n hx hb dX9_handle_209 rfl (lv_at hl 3 rfl) ?_
        refine lv_bipush (v := 6) hx hb dX9_handle_210 (by decide) ?_
        refine cv_i (As := [.int (nI k), .int 6]) (rest := []) (b := w) ⟨hx, hb, hml, hown, hts⟩ (c_X9_of hT (w := w) hw (n := k) (k := 6) (by first | omega | decide | assumption) (by first | omega | decide | assumption)) (cwV 2 hts gX9_handle_X9_of rfl rfl rfl hdX9_of_v ⟨Nat.le_of_ble_eq_true rfl, Nat.le_of_ble_eq_true rfl⟩) hN hE hL (rcv10 hN hT hw.1) rfl rfl hl.1 (Nat.le_of_ble_eq_true rfl) dX9_handle_212 (Nat.zero_le _) (Nat.zero_le _) (fun r505 H1 locs hL hqr505 => ?_)
        obtain rfl := hqr505.symm
        refine lv_iload hx hb dX9_handle_215 (lv_at hl 4 rfl) ?_
        refine lv_icmp_ne (tgt := 225) hx hb dX9_handle_217 (by decide) (fun c506 => ?_) (fun c506 => ?_)
        · exact en_v hx hb hr hlocks hL (Nat.zero_le _) (Nat.zero_le _) dX9_handle_225 (⟨hT, hF⟩)
        · refine lv_aload_n hx hb dX9_handle_220 rfl (lv_at hl 0 rfl) ?_
          refine lv_iload_n hx hb dX9_handle_221 rfl (lv_at hl 3 rfl) ?_
          refine cv_v (As := [.int (nI k)]) (rest := []) (b := w) ⟨hx, hb, hml, hown, hts⟩ (c_X9_dropPlan hT (w := w) hw (n := k) (by first | omega | decide | assumption)) (cwV 1 hts gX9_handle_X9_dropPlan rfl rfl rfl hdX9_dropPlan_v ⟨Nat.le_of_ble_eq_true rfl, Nat.le_of_ble_eq_true rfl⟩) hN hE hL (rcv10 hN hT hw.1) rfl rfl hl.1 (Nat.le_of_ble_eq_true rfl) dX9_handle_222 (Nat.zero_le _) (Nat.zero_le _) (fun H1 locs hL hqr507 => ?_)
          obtain ⟨hT1, hF1⟩ := hqr507
          have hF := hF.tr (hF1.mono (by simp))
          have hT := hT1
          exact en_v hx hb hr hlocks hL (Nat.zero_le _) (Nat.zero_le _) dX9_handle_225 (⟨hT, hF⟩)
    · rcases sw_0_4 c502 with rfl | rfl | rfl | rfl | rfl
      · refine lv_tableIn (tgt := 56) (off := 36) hx hb dX9_handle_20 (by decide) (by decide) (by decide) (by decide) ?_
        refine lv_aload_n hx hb dX9_handle_56 rfl (lv_at hl 0 rfl) ?_
        refine lv_iconst (v := 1) hx hb dX9_handle_57 (by decide) ?_
        refine lv_iload_n hx hb dX9_handle_58 rfl (lv_at hl 3 rfl) ?_
        refine lv_iload_n hx hb dX9_handle_59 rfl (lv_at hl 2 rfl) ?_
        refine lv_iconst (v := (-1)) hx hb dX9_handle_60 (by decide) ?_
        refine lv_aload_n hx hb dX9_handle_61 rfl (lv_at hl 0 rfl) ?_
        refine lv_iload_n hx hb dX9_handle_62 rfl (lv_at hl 3 rfl) ?_
        refine cv_i (As := [.int (nI k)]) (rest := [.int (-1), .int (nI n), .int (nI k), .int 1, .ref w]) (b := w) ⟨hx, hb, hml, hown, hts⟩ (c_X9_clock hT (w := w) hw (n := k) (by first | omega | decide | assumption)) (cwV 1 hts gX9_handle_X9_clock rfl rfl rfl hdX9_clock_v ⟨Nat.le_of_ble_eq_true rfl, Nat.le_of_ble_eq_true rfl⟩) hN hE hL (rcv10 hN hT hw.1) rfl rfl hl.1 (Nat.le_of_ble_eq_true rfl) dX9_handle_63 (Nat.zero_le _) (Nat.zero_le _) (fun r508 H1 locs hL hqr508 => ?_)
        obtain rfl := hqr508.symm
        refine lv_iload hx hb dX9_handle_66 (lv_at hl 5 rfl) ?_
        refine cv_i (As := [.int 1, .int (nI k), .int (nI n), .int (-1), .int r508, .int z]) (rest := []) (b := w) ⟨hx, hb, hml, hown, hts⟩ (c_X9_send hT (w := w) hw (x := 1) (n := k) (k := n) (y := (-1)) (z := r508) (u := z) (by first | omega | decide | assumption) (by first | omega | decide | assumption) (by first | omega | decide | assumption)) (cwV 6 hts gX9_handle_X9_send rfl rfl rfl hdX9_send_v ⟨Nat.le_of_ble_eq_true rfl, Nat.le_of_ble_eq_true rfl⟩) hN hE hL (rcv10 hN hT hw.1) rfl rfl hl.1 (Nat.le_of_ble_eq_true rfl) dX9_handle_68 (Nat.zero_le _) (Nat.zero_le _) (fun r509 H1 locs hL hqr509 => ?_)
        obtain ⟨hT1, hF1, hqr509⟩ := hqr509
        have hF := hF.tr (hF1.mono (by simp))
        have hT := hT1
        rcases hqr509 with rfl | rfl
        · refine lv_pop hx hb dX9_handle_71 rfl ?_
          refine lv_goto (tgt := 225) hx hb dX9_handle_72 (by decide) ?_
          exact en_v hx hb hr hlocks hL (Nat.zero_le _) (Nat.zero_le _) dX9_handle_225 (⟨hT, hF⟩)
        · refine lv_pop hx hb dX9_handle_71 rfl ?_
          refine lv_goto (tgt := 225) hx hb dX9_handle_72 (by decide) ?_
          exact en_v hx hb hr hlocks hL (Nat.zero_le _) (Nat.zero_le _) dX9_handle_225 (⟨hT, hF⟩)
      · refine lv_tableIn (tgt := 75) (off := 55) hx hb dX9_handle_20 (by decide) (by decide) (by decide) (by decide) ?_
        refine lv_aload_n hx hb dX9_handle_75 rfl (lv_at hl 0 rfl) ?_
        refine lv_iload_n hx hb dX9_handle_76 rfl (lv_at hl 3 rfl) ?_
        refine lv_iconst (v := 3) hx hb dX9_handle_77 (by decide) ?_
        refine lv_iload_n hx hb dX9_handle_78 rfl (lv_at hl 3 rfl) ?_
        refine lv_aload_n hx hb dX9_handle_79 rfl (lv_at hl 0 rfl) ?_
        obtain ⟨hb510, e510, hat510, hk510⟩ := hT.o10 hw.1
        obtain ⟨f510_0, f510_1, f510_3, f510_4, f510_5, f510_6, f510_7, f510_9, f510_10, f510_11, f510_12, f510_13, f510_14, f510_15, f510_16, f510_17, rfl, c510_2, c510_3, c510_4, c510_12, t510_1, t510_8, t510_9, c510_sd, t510_10, t510_11, t510_17⟩ := hk510
        have hP : va_P D vwCl [(w, .inr (9, [.int f510_0, .ref f510_1, .int (nI ((κ w).2.2.1)), .int (nI f510_3), .int (nI f510_4), .int f510_5, .int f510_6, .int f510_7, .ref (κ w).2.2.2, .ref f510_9, .ref f510_10, .ref f510_11, .int (nI f510_12), .int f510_13, .int f510_14, .int f510_15, .int f510_16, .ref f510_17]))] _ := va_P.cons hat510 va_P.nil
        refine va_get (D := D) (ci := 9) (v := .ref (κ w).2.2.2) (C := RX9) (T := TX9) (N := 18) hx hb hts iX9_handle_9 hown hN.1 hP 0 rfl rfl 8 (by decide) (hts _ mX9_handle_1) (fun _ h9 => h9) rfl dX9_handle_80 ?_
        refine lv_iconst (v := 2) hx hb dX9_handle_83 (by decide) ?_
        obtain ⟨hb511, e511, hat511, hk511⟩ := hT.o24 t510_8.1
        obtain ⟨g511, rfl, q511⟩ := hk511
        have hP : va_P D vwCl [((κ w).2.2.2, .inl (cs 0, 45783, .inl g511)), (w, .inr (9, [.int f510_0, .ref f510_1, .int (nI ((κ w).2.2.1)), .int (nI f510_3), .int (nI f510_4), .int f510_5, .int f510_6, .int f510_7, .ref (κ w).2.2.2, .ref f510_9, .ref f510_10, .ref f510_11, .int (nI f510_12), .int f510_13, .int f510_14, .int f510_15, .int f510_16, .ref f510_17]))] _ := va_P.cons hat511 hP
        refine ld_i (v := (g511 2)) hx hb hN hP 0 rfl (vp_in_nI (n := 2) (N := 45783) (by omega) (by omega)) (by rw [(show (2 : Int32).toNatClampNeg = 2 from nI_clamp (n := 2) (by omega))]) dX9_handle_84 ?_
        obtain ⟨n512, hn512, en512⟩ := q511.2.2.1
        refine tp_i (nI n512) en512 ?_
        refine lv_icmp_ne (tgt := 92) hx hb dX9_handle_85 (by decide) (fun c513 => ?_) (fun c513 => ?_)
        · have c513 : ¬ k = n512 := fun h9 => c513 ((nI_eq (a := k) (b := n512) (by omega) (by omega)).mpr h9)
          refine lv_iload hx hb dX9_handle_92 (lv_at hl 5 rfl) ?_
          refine lv_aload_n hx hb dX9_handle_94 rfl (lv_at hl 0 rfl) ?_
          refine lv_iload_n hx hb dX9_handle_95 rfl (lv_at hl 3 rfl) ?_
          refine cv_i (As := [.int (nI k)]) (rest := [.int z, .int 3, .int (nI k), .ref w]) (b := w) ⟨hx, hb, hml, hown, hts⟩ (c_X9_clock hT (w := w) hw (n := k) (by first | omega | decide | assumption)) (cwV 1 hts gX9_handle_X9_clock rfl rfl rfl hdX9_clock_v ⟨Nat.le_of_ble_eq_true rfl, Nat.le_of_ble_eq_true rfl⟩) hN hE hL (rcv10 hN hT hw.1) rfl rfl hl.1 (Nat.le_of_ble_eq_true rfl) dX9_handle_96 (Nat.zero_le _) (Nat.zero_le _) (fun r514 H1 locs hL hqr514 => ?_)
          obtain rfl := hqr514.symm
          refine lv_iload hx hb dX9_handle_99 (lv_at hl 6 rfl) ?_
          refine lv_isub hx hb dX9_handle_101 ?_
          refine gn_i (fun x515 => ?_)
          refine lv_iconst (v := 2) hx hb dX9_handle_102 (by decide) ?_
          refine lv_idiv hx hb dX9_handle_103 (by decide) ?_
          refine gn_i (fun x516 => ?_)
          refine lv_iadd hx hb dX9_handle_104 ?_
          refine gn_i (fun x517 => ?_)
          refine lv_aload_n hx hb dX9_handle_105 rfl (lv_at hl 0 rfl) ?_
          refine lv_iload_n hx hb dX9_handle_106 rfl (lv_at hl 3 rfl) ?_
          refine cv_i (As := [.int (nI k)]) (rest := [.int x517, .int 3, .int (nI k), .ref w]) (b := w) ⟨hx, hb, hml, hown, hts⟩ (c_X9_clock hT (w := w) hw (n := k) (by first | omega | decide | assumption)) (cwV 1 hts gX9_handle_X9_clock rfl rfl rfl hdX9_clock_v ⟨Nat.le_of_ble_eq_true rfl, Nat.le_of_ble_eq_true rfl⟩) hN hE hL (rcv10 hN hT hw.1) rfl rfl hl.1 (Nat.le_of_ble_eq_true rfl) dX9_handle_107 (Nat.zero_le _) (Nat.zero_le _) (fun r518 H1 locs hL hqr518 => ?_)
          obtain rfl := hqr518.symm
          refine lv_isub hx hb dX9_handle_110 ?_
          refine gn_i (fun x519 => ?_)
          refine cv_v (As := [.int (nI k), .int 3, .int x519]) (rest := []) (b := w) ⟨hx, hb, hml, hown, hts⟩ (c_X9_set hT (w := w) hw (n := k) (k := 3) (x := x519) (by first | omega | decide | assumption) (by first | omega | decide | assumption)) (cwV 3 hts gX9_handle_X9_set rfl rfl rfl hdX9_set_v ⟨Nat.le_of_ble_eq_true rfl, Nat.le_of_ble_eq_true rfl⟩) hN hE hL (rcv10 hN hT hw.1) rfl rfl hl.1 (Nat.le_of_ble_eq_true rfl) dX9_handle_111 (Nat.zero_le _) (Nat.zero_le _) (fun H1 locs hL hqr520 => ?_)
          obtain ⟨hT1, hF1⟩ := hqr520
          have hP : va_P D vwCl [(w, .inr (9, [.int f510_0, .ref f510_1, .int (nI ((κ w).2.2.1)), .int (nI f510_3), .int (nI f510_4), .int f510_5, .int f510_6, .int f510_7, .ref (κ w).2.2.2, .ref f510_9, .ref f510_10, .ref f510_11, .int (nI f510_12), .int f510_13, .int f510_14, .int f510_15, .int f510_16, .ref f510_17]))] _ := hF1.hP (hP.sub [1] rfl) (fa_c ⟨by rw [hw.1]; decide, by rw [hw.2]; first | decide | (simp; done) | (simp [h15a, h15b, h15c]; done) | (simp; omega)⟩ fa_n)
          have hF := hF.tr (hF1.mono (by simp))
          have hT := hT1
          refine lv_goto (tgt := 225) hx hb dX9_handle_114 (by decide) ?_
          exact en_v hx hb hr hlocks hL (Nat.zero_le _) (Nat.zero_le _) dX9_handle_225 (⟨hT, hF⟩)
        · have c513 : k = n512 := (nI_eq (a := k) (b := n512) (by omega) (by omega)).mp c513
          refine lv_iconst (v := 0) hx hb dX9_handle_88 (by decide) ?_
          refine lv_goto (tgt := 111) hx hb dX9_handle_89 (by decide) ?_
          refine cv_v (As := [.int (nI k), .int 3, .int 0]) (rest := []) (b := w) ⟨hx, hb, hml, hown, hts⟩ (c_X9_set hT (w := w) hw (n := k) (k := 3) (x := 0) (by first | omega | decide | assumption) (by first | omega | decide | assumption)) (cwV 3 hts gX9_handle_X9_set rfl rfl rfl hdX9_set_v ⟨Nat.le_of_ble_eq_true rfl, Nat.le_of_ble_eq_true rfl⟩) hN hE hL (rcv10 hN hT hw.1) rfl rfl hl.1 (Nat.le_of_ble_eq_true rfl) dX9_handle_111 (Nat.zero_le _) (Nat.zero_le _) (fun H1 locs hL hqr521 => ?_)
          obtain ⟨hT1, hF1⟩ := hqr521
          have hP : va_P D vwCl [(w, .inr (9, [.int f510_0, .ref f510_1, .int (nI ((κ w).2.2.1)), .int (nI f510_3), .int (nI f510_4), .int f510_5, .int f510_6, .int f510_7, .ref (κ w).2.2.2, .ref f510_9, .ref f510_10, .ref f510_11, .int (nI f510_12), .int f510_13, .int f510_14, .int f510_15, .int f510_16, .ref f510_17]))] _ := hF1.hP (hP.sub [1] rfl) (fa_c ⟨by rw [hw.1]; decide, by rw [hw.2]; first | decide | (simp; done) | (simp [h15a, h15b, h15c]; done) | (simp; omega)⟩ fa_n)
          have hF := hF.tr (hF1.mono (by simp))
          have hT := hT1
          refine lv_goto (tgt := 225) hx hb dX9_handle_114 (by decide) ?_
          exact en_v hx hb hr hlocks hL (Nat.zero_le _) (Nat.zero_le _) dX9_handle_225 (⟨hT, hF⟩)
      · refine lv_tableIn (tgt := 117) (off := 97) hx hb dX9_handle_20 (by decide) (by decide) (by decide) (by decide) ?_
        refine lv_aload_n hx hb dX9_handle_117 rfl (lv_at hl 0 rfl) ?_
        refine lv_iload_n hx hb dX9_handle_118 rfl (lv_at hl 3 rfl) ?_
        refine lv_iconst (v := 1) hx hb dX9_handle_119 (by decide) ?_
        refine lv_iload hx hb dX9_handle_120 (lv_at hl 4 rfl) ?_
        refine lv_iload hx hb dX9_handle_122 (lv_at hl 5 rfl) ?_
        refine lv_iload hx hb dX9_handle_124 (lv_at hl 6 rfl) ?_
        refine cv_v (As := [.int (nI k), .int 1, .int y, .int z, .int u]) (rest := []) (b := w) ⟨hx, hb, hml, hown, hts⟩ (c_X9_plan hT (w := w) hw (n := k) (x := 1) (y := y) (z := z) (u := u) (by first | omega | decide | assumption)) (cwV 5 hts gX9_handle_X9_plan rfl rfl rfl hdX9_plan_v ⟨Nat.le_of_ble_eq_true rfl, Nat.le_of_ble_eq_true rfl⟩) hN hE hL (rcv10 hN hT hw.1) rfl rfl hl.1 (Nat.le_of_ble_eq_true rfl) dX9_handle_126 (Nat.zero_le _) (Nat.zero_le _) (fun H1 locs hL hqr522 => ?_)
        obtain ⟨hT1, hF1⟩ := hqr522
        have hF := hF.tr (hF1.mono (by simp))
        have hT := hT1
        refine lv_aload_n hx hb dX9_handle_129 rfl (lv_at hl 0 rfl) ?_
        refine lv_iconst (v := 3) hx hb dX9_handle_130 (by decide) ?_
        refine lv_iload_n hx hb dX9_handle_131 rfl (lv_at hl 3 rfl) ?_
        refine lv_iload_n hx hb dX9_handle_132 rfl (lv_at hl 2 rfl) ?_
        refine lv_iload hx hb dX9_handle_133 (lv_at hl 4 rfl) ?_
        refine lv_iconst (v := 0) hx hb dX9_handle_135 (by decide) ?_
        refine lv_iconst (v := 0) hx hb dX9_handle_136 (by decide) ?_
        refine cv_i (As := [.int 3, .int (nI k), .int (nI n), .int y, .int 0, .int 0]) (rest := []) (b := w) ⟨hx, hb, hml, hown, hts⟩ (c_X9_send hT (w := w) hw (x := 3) (n := k) (k := n) (y := y) (z := 0) (u := 0) (by first | omega | decide | assumption) (by first | omega | decide | assumption) (by first | omega | decide | assumption)) (cwV 6 hts gX9_handle_X9_send rfl rfl rfl hdX9_send_v ⟨Nat.le_of_ble_eq_true rfl, Nat.le_of_ble_eq_true rfl⟩) hN hE hL (rcv10 hN hT hw.1) rfl rfl hl.1 (Nat.le_of_ble_eq_true rfl) dX9_handle_137 (Nat.zero_le _) (Nat.zero_le _) (fun r523 H1 locs hL hqr523 => ?_)
        obtain ⟨hT1, hF1, hqr523⟩ := hqr523
        have hF := hF.tr (hF1.mono (by simp))
        have hT := hT1
        rcases hqr523 with rfl | rfl
        · refine lv_pop hx hb dX9_handle_140 rfl ?_
          refine lv_goto (tgt := 225) hx hb dX9_handle_141 (by decide) ?_
          exact en_v hx hb hr hlocks hL (Nat.zero_le _) (Nat.zero_le _) dX9_handle_225 (⟨hT, hF⟩)
        · refine lv_pop hx hb dX9_handle_140 rfl ?_
          refine lv_goto (tgt := 225) hx hb dX9_handle_141 (by decide) ?_
          exact en_v hx hb hr hlocks hL (Nat.zero_le _) (Nat.zero_le _) dX9_handle_225 (⟨hT, hF⟩)
      · refine lv_tableIn (tgt := 144) (off := 124) hx hb dX9_handle_20 (by decide) (by decide) (by decide) (by decide) ?_
        refine lv_aload_n hx hb dX9_handle_144 rfl (lv_at hl 0 rfl) ?_
        refine cv_i (As := []) (rest := []) (b := w) ⟨hx, hb, hml, hown, hts⟩ (c_X9_isOpen hT (w := w) hw) (cwV 0 hts gX9_handle_X9_isOpen rfl rfl rfl hdX9_isOpen_v ⟨Nat.le_of_ble_eq_true rfl, Nat.le_of_ble_eq_true rfl⟩) hN hE hL (rcv10 hN hT hw.1) rfl rfl hl.1 (Nat.le_of_ble_eq_true rfl) dX9_handle_145 (Nat.zero_le _) (Nat.zero_le _) (fun r524 H1 locs hL hqr524 => ?_)
        obtain ⟨h9, hqr524⟩ := hqr524; replace h9 := h9.symm; subst h9
        rcases hqr524 with rfl | rfl
        · refine lv_if_eq (tgt := 225) hx hb dX9_handle_148 (by decide) (fun _ => ?_) (fun c9 => absurd (by decide) c9)
          exact en_v hx hb hr hlocks hL (Nat.zero_le _) (Nat.zero_le _) dX9_handle_225 (⟨hT, hF⟩)
        · refine lv_if_eq (tgt := 225) hx hb dX9_handle_148 (by decide) (fun c9 => absurd c9 (by decide)) (fun _ => ?_)
          refine lv_iload hx hb dX9_handle_151 (lv_at hl 4 rfl) ?_
          refine lv_aload_n hx hb dX9_handle_153 rfl (lv_at hl 0 rfl) ?_
          obtain ⟨hb525, e525, hat525, hk525⟩ := hT.o10 hw.1
          obtain ⟨f525_0, f525_1, f525_3, f525_4, f525_5, f525_6, f525_7, f525_9, f525_10, f525_11, f525_12, f525_13, f525_14, f525_15, f525_16, f525_17, rfl, c525_2, c525_3, c525_4, c525_12, t525_1, t525_8, t525_9, c525_sd, t525_10, t525_11, t525_17⟩ := hk525
          have hP : va_P D vwCl [(w, .inr (9, [.int f525_0, .ref f525_1, .int (nI ((κ w).2.2.1)), .int (nI f525_3), .int (nI f525_4), .int f525_5, .int f525_6, .int f525_7, .ref (κ w).2.2.2, .ref f525_9, .ref f525_10, .ref f525_11, .int (nI f525_12), .int f525_13, .int f525_14, .int f525_15, .int f525_16, .ref f525_17]))] _ := va_P.cons hat525 va_P.nil
          refine va_get (D := D) (ci := 9) (v := .ref (κ w).2.2.2) (C := RX9) (T := TX9) (N := 18) hx hb hts iX9_handle_9 hown hN.1 hP 0 rfl rfl 8 (by decide) (hts _ mX9_handle_1) (fun _ h9 => h9) rfl dX9_handle_154 ?_
          refine lv_bipush (v := 6) hx hb dX9_handle_157 (by decide) ?_
          obtain ⟨hb526, e526, hat526, hk526⟩ := hT.o24 t525_8.1
          obtain ⟨g526, rfl, q526⟩ := hk526
          have hP : va_P D vwCl [((κ w).2.2.2, .inl (cs 0, 45783, .inl g526)), (w, .inr (9, [.int f525_0, .ref f525_1, .int (nI ((κ w).2.2.1)), .int (nI f525_3), .int (nI f525_4), .int f525_5, .int f525_6, .int f525_7, .ref (κ w).2.2.2, .ref f525_9, .ref f525_10, .ref f525_11, .int (nI f525_12), .int f525_13, .int f525_14, .int f525_15, .int f525_16, .ref f525_17]))] _ := va_P.cons hat526 hP
          refine ld_i (v := (g526 6)) hx hb hN hP 0 rfl (vp_in_nI (n := 6) (N := 45783) (by omega) (by omega)) (by rw [(show (6 : Int32).toNatClampNeg = 6 from nI_clamp (n := 6) (by omega))]) dX9_handle_159 ?_
          refine gn_i (fun x527 => ?_)
          refine lv_iconst (v := 1) hx hb dX9_handle_160 (by decide) ?_
          refine lv_isub hx hb dX9_handle_161 ?_
          refine gn_i (fun x528 => ?_)
          refine lv_icmp_ne (tgt := 225) hx hb dX9_handle_162 (by decide) (fun c529 => ?_) (fun c529 => ?_)
          · exact en_v hx hb hr hlocks hL (Nat.zero_le _) (Nat.zero_le _) dX9_handle_225 (⟨hT, hF⟩)
          · refine lv_iload_n hx hb dX9_handle_165 rfl (lv_at hl 3 rfl) ?_
            refine lv_aload_n hx hb dX9_handle_166 rfl (lv_at hl 0 rfl) ?_
            refine va_get (D := D) (ci := 9) (v := .ref (κ w).2.2.2) (C := RX9) (T := TX9) (N := 18) hx hb hts iX9_handle_9 hown hN.1 hP 1 rfl rfl 8 (by decide) (hts _ mX9_handle_1) (fun _ h9 => h9) rfl dX9_handle_167 ?_
            refine lv_bipush (v := 18) hx hb dX9_handle_170 (by decide) ?_
            refine ld_i (v := (g526 18)) hx hb hN hP 0 rfl (vp_in_nI (n := 18) (N := 45783) (by omega) (by omega)) (by rw [(show (18 : Int32).toNatClampNeg = 18 from nI_clamp (n := 18) (by omega))]) dX9_handle_172 ?_
            obtain ⟨n530, hn530, en530⟩ := q526.2.2.2.2.2.2
            refine tp_i (nI n530) en530 ?_
            refine lv_icmp_ne (tgt := 225) hx hb dX9_handle_173 (by decide) (fun c531 => ?_) (fun c531 => ?_)
            · have c531 : ¬ k = n530 := fun h9 => c531 ((nI_eq (a := k) (b := n530) (by omega) (by omega)).mpr h9)
              exact en_v hx hb hr hlocks hL (Nat.zero_le _) (Nat.zero_le _) dX9_handle_225 (⟨hT, hF⟩)
            · have c531 : k = n530 := (nI_eq (a := k) (b := n530) (by omega) (by omega)).mp c531
              refine lv_aload_n hx hb dX9_handle_176 rfl (lv_at hl 0 rfl) ?_
              refine cv_v (As := []) (rest := []) (b := w) ⟨hx, hb, hml, hown, hts⟩ (c_X9_vote hT (w := w) hw) (cwV 0 hts gX9_handle_X9_vote rfl rfl rfl hdX9_vote_v ⟨Nat.le_of_ble_eq_true rfl, Nat.le_of_ble_eq_true rfl⟩) hN hE hL (rcv10 hN hT hw.1) rfl rfl hl.1 (Nat.le_of_ble_eq_true rfl) dX9_handle_177 (Nat.zero_le _) (Nat.zero_le _) (fun H1 locs hL hqr532 => ?_)
              obtain ⟨hT1, hF1⟩ := hqr532
              have hP : va_P D vwCl [(w, .inr (9, [.int f525_0, .ref f525_1, .int (nI ((κ w).2.2.1)), .int (nI f525_3), .int (nI f525_4), .int f525_5, .int f525_6, .int f525_7, .ref (κ w).2.2.2, .ref f525_9, .ref f525_10, .ref f525_11, .int (nI f525_12), .int f525_13, .int f525_14, .int f525_15, .int f525_16, .ref f525_17]))] _ := hF1.hP (hP.sub [1] rfl) (fa_c ⟨by rw [hw.1]; decide, by rw [hw.2]; first | decide | (simp; done) | (simp [h15a, h15b, h15c]; done) | (simp; omega)⟩ fa_n)
              have hF := hF.tr (hF1.mono (by simp))
              have hT := hT1
              refine lv_goto (tgt := 225) hx hb dX9_handle_180 (by decide) ?_
              exact en_v hx hb hr hlocks hL (Nat.zero_le _) (Nat.zero_le _) dX9_handle_225 (⟨hT, hF⟩)
      · refine lv_tableIn (tgt := 183) (off := 163) hx hb dX9_handle_20 (by decide) (by decide) (by decide) (by decide) ?_
        refine lv_aload_n hx hb dX9_handle_183 rfl (lv_at hl 0 rfl) ?_
        refine lv_iload_n hx hb dX9_handle_184 rfl (lv_at hl 3 rfl) ?_
        refine lv_iconst (v := 2) hx hb dX9_handle_185 (by decide) ?_
        refine lv_iload hx hb dX9_handle_186 (lv_at hl 4 rfl) ?_
        refine lv_iload hx hb dX9_handle_188 (lv_at hl 5 rfl) ?_
        refine lv_iload hx hb dX9_handle_190 (lv_at hl 6 rfl) ?_
        refine cv_v (As := [.int (nI k), .int 2, .int y, .int z, .int u]) (rest := []) (b := w) ⟨hx, hb, hml, hown, hts⟩ (c_X9_plan hT (w := w) hw (n := k) (x := 2) (y := y) (z := z) (u := u) (by first | omega | decide | assumption)) (cwV 5 hts gX9_handle_X9_plan rfl rfl rfl hdX9_plan_v ⟨Nat.le_of_ble_eq_true rfl, Nat.le_of_ble_eq_true rfl⟩) hN hE hL (rcv10 hN hT hw.1) rfl rfl hl.1 (Nat.le_of_ble_eq_true rfl) dX9_handle_192 (Nat.zero_le _) (Nat.zero_le _) (fun H1 locs hL hqr533 => ?_)
        obtain ⟨hT1, hF1⟩ := hqr533
        have hF := hF.tr (hF1.mono (by simp))
        have hT := hT1
        refine lv_goto (tgt := 225) hx hb dX9_handle_195 (by decide) ?_
        exact en_v hx hb hr hlocks hL (Nat.zero_le _) (Nat.zero_le _) dX9_handle_225 (⟨hT, hF⟩)
theorem mX9_giveUp_1 : (.fieldLink RX9 18 "OneBeatModel" "data" "[I" : Cond) ∈ wsX9_giveUp := List.mem_of_getElem? (i := 1) (by decide +kernel)
theorem iX9_giveUp_9 : ∀ w ∈ wsX90, w ∈ wsX9_giveUp := fun w h => List.mem_of_mem_drop (List.mem_of_mem_take ((show wsX90 = (wsX9_giveUp.drop 33).take 18 by decide +kernel) ▸ h))
set_option maxHeartbeats 4000000 in
set_option maxRecDepth 100000 in
theorem c_X9_giveUp {l : Launch} {D : va_G} {cs : Nat → ClassId} {B0 T : Nat} {κ : KM} {H0 : Heap} (hT : WT B0 D cs T κ H0) {w : Nat} (hw : T2 κ w 10 12) : KC l yX9_giveUp wsX9_giveUp 3 76 0 0 D cs B0 H0 [.ref w] (Qv (fun H => WT B0 D cs T κ H ∧ Fr B0 [18] κ H0 H)) := by
  refine KC.of cX9_giveUp 3 none (by decide) rfl (Nat.le_of_ble_eq_true rfl) ?_
  intro p e s m below meth c ls hx hb hr hml hown hts hlocks hin hN hE hH0 hl
  have hown : s.vm.findClass RX9 = some m.cls := hown
  have hl : lv_has ls 3 [(0, .ref w)] := hl
  have hL : OkL B0 [] := OkL.nil
  have hF : Fr B0 [18] κ H0 H0 := Fr.rf
  refine lv_aload_n hx hb dX9_giveUp_0 rfl (lv_at hl 0 rfl) ?_
  obtain ⟨hb534, e534, hat534, hk534⟩ := hT.o10 hw.1
  obtain ⟨f534_0, f534_1, f534_3, f534_4, f534_5, f534_6, f534_7, f534_9, f534_10, f534_11, f534_12, f534_13, f534_14, f534_15, f534_16, f534_17, rfl, c534_2, c534_3, c534_4, c534_12, t534_1, t534_8, t534_9, c534_sd, t534_10, t534_11, t534_17⟩ := hk534
  have hP : va_P D vwCl [(w, .inr (9, [.int f534_0, .ref f534_1, .int (nI ((κ w).2.2.1)), .int (nI f534_3), .int (nI f534_4), .int f534_5, .int f534_6, .int f534_7, .ref (κ w).2.2.2, .ref f534_9, .ref f534_10, .ref f534_11, .int (nI f534_12), .int f534_13, .int f534_14, .int f534_15, .int f534_16, .ref f534_17]))] _ := va_P.cons hat534 va_P.nil
  refine va_get (D := D) (ci := 9) (v := .ref (κ w).2.2.2) (C := RX9) (T := TX9) (N := 18) hx hb hts iX9_giveUp_9 hown hN.1 hP 0 rfl rfl 8 (by decide) (hts _ mX9_giveUp_1) (fun _ h9 => h9) rfl dX9_giveUp_1 ?_
  refine lv_bipush (v := 18) hx hb dX9_giveUp_4 (by decide) ?_
  obtain ⟨hb535, e535, hat535, hk535⟩ := hT.o24 t534_8.1
  obtain ⟨g535, rfl, q535⟩ := hk535
  have hP : va_P D vwCl [((κ w).2.2.2, .inl (cs 0, 45783, .inl g535)), (w, .inr (9, [.int f534_0, .ref f534_1, .int (nI ((κ w).2.2.1)), .int (nI f534_3), .int (nI f534_4), .int f534_5, .int f534_6, .int f534_7, .ref (κ w).2.2.2, .ref f534_9, .ref f534_10, .ref f534_11, .int (nI f534_12), .int f534_13, .int f534_14, .int f534_15, .int f534_16, .ref f534_17]))] _ := va_P.cons hat535 hP
  refine ld_i (v := (g535 18)) hx hb hN hP 0 rfl (vp_in_nI (n := 18) (N := 45783) (by omega) (by omega)) (by rw [(show (18 : Int32).toNatClampNeg = 18 from nI_clamp (n := 18) (by omega))]) dX9_giveUp_6 ?_
  obtain ⟨n536, hn536, en536⟩ := q535.2.2.2.2.2.2
  refine tp_i (nI n536) en536 ?_
  refine lv_istore_n (lv' := [(1, .int (nI n536)), (0, .ref w)]) hx hb dX9_giveUp_7 rfl hl (by decide) rfl (fun ls hl => ?_)
  refine lv_aload_n hx hb dX9_giveUp_8 rfl (lv_at hl 1 rfl) ?_
  refine va_get (D := D) (ci := 9) (v := .ref (κ w).2.2.2) (C := RX9) (T := TX9) (N := 18) hx hb hts iX9_giveUp_9 hown hN.1 hP 1 rfl rfl 8 (by decide) (hts _ mX9_giveUp_1) (fun _ h9 => h9) rfl dX9_giveUp_9 ?_
  refine lv_bipush (v := 6) hx hb dX9_giveUp_12 (by decide) ?_
  refine ld_i (v := (g535 6)) hx hb hN hP 0 rfl (vp_in_nI (n := 6) (N := 45783) (by omega) (by omega)) (by rw [(show (6 : Int32).toNatClampNeg = 6 from nI_clamp (n := 6) (by omega))]) dX9_giveUp_14 ?_
  refine gn_i (fun x537 => ?_)
  refine lv_iconst (v := 1) hx hb dX9_giveUp_15 (by decide) ?_
  refine lv_isub hx hb dX9_giveUp_16 ?_
  refine gn_i (fun x538 => ?_)
  refine lv_istore_n (lv' := [(2, .int x538), (1, .int (nI n536)), (0, .ref w)]) hx hb dX9_giveUp_17 rfl hl (by decide) rfl (fun ls hl => ?_)
  refine lv_aload_n hx hb dX9_giveUp_18 rfl (lv_at hl 2 rfl) ?_
  refine va_get (D := D) (ci := 9) (v := .ref (κ w).2.2.2) (C := RX9) (T := TX9) (N := 18) hx hb hts iX9_giveUp_9 hown hN.1 hP 1 rfl rfl 8 (by decide) (hts _ mX9_giveUp_1) (fun _ h9 => h9) rfl dX9_giveUp_19 ?_
  refine lv_bipush (v := 20) hx hb dX9_giveUp_22 (by decide) ?_
  refine lv_iconst (v := 2) hx hb dX9_giveUp_24 (by decide) ?_
  have hB : Bx B0 D _ [((κ w).2.2.2, .inl (cs 0, 45783, .inl g535)), (w, .inr (9, [.int f534_0, .ref f534_1, .int (nI ((κ w).2.2.1)), .int (nI f534_3), .int (nI f534_4), .int f534_5, .int f534_6, .int f534_7, .ref (κ w).2.2.2, .ref f534_9, .ref f534_10, .ref f534_11, .int (nI f534_12), .int f534_13, .int f534_14, .int f534_15, .int f534_16, .ref f534_17]))] [] _ _ := Bx.of (fun a => (κ a).1) hL hP (fa_c hb535 (fa_c hb534 fa_n)) (by simp only [List.map_cons, List.map_nil, t534_8.1, hw.1]; decide)
  refine b_i hx hb hN hB 0 rfl (show vp_in (20 : Int32) 45783 from vp_in_nI (n := 20) (N := 45783) (by omega) (by omega)) (.inl rfl) dX9_giveUp_25 (fun H locs hB => ?_)
  rw [(show (20 : Int32).toNatClampNeg = 20 from nI_clamp (n := 20) (by omega))] at hB
  have hB : Bx B0 D _ [((κ w).2.2.2, .inl (cs 0, 45783, .inl (upd g535 20 2))), (w, .inr (9, [.int f534_0, .ref f534_1, .int (nI ((κ w).2.2.1)), .int (nI f534_3), .int (nI f534_4), .int f534_5, .int f534_6, .int f534_7, .ref (κ w).2.2.2, .ref f534_9, .ref f534_10, .ref f534_11, .int (nI f534_12), .int f534_13, .int f534_14, .int f534_15, .int f534_16, .ref f534_17]))] [(κ w).2.2.2] _ _ := hB
  have z539 := DOK.sf q535 (k := 20) (by omega) (x := 2)
  have e540 := (pk_un (f := g535) (x := 2) (show 18 ≠ 20 by omega)).trans en536
  refine lv_aload_n hx hb dX9_giveUp_26 rfl (lv_at hl 2 rfl) ?_
  refine va_get (D := D) (ci := 9) (v := .ref (κ w).2.2.2) (C := RX9) (T := TX9) (N := 18) hx hb hts iX9_giveUp_9 hown hN.1 hB.1 1 rfl rfl 8 (by decide) (hts _ mX9_giveUp_1) (fun _ h9 => h9) rfl dX9_giveUp_27 ?_
  refine lv_bipush (v := 8) hx hb dX9_giveUp_30 (by decide) ?_
  refine lv_dup2_11 hx hb dX9_giveUp_32 rfl rfl ?_
  refine ld_i (v := ((upd g535 20 2) 8)) hx hb hN hB.1 0 rfl (vp_in_nI (n := 8) (N := 45783) (by omega) (by omega)) (by rw [(show (8 : Int32).toNatClampNeg = 8 from nI_clamp (n := 8) (by omega))]) dX9_giveUp_33 ?_
  refine gn_i (fun x541 => ?_)
  refine lv_iconst (v := 1) hx hb dX9_giveUp_34 (by decide) ?_
  refine lv_iadd hx hb dX9_giveUp_35 ?_
  refine gn_i (fun x542 => ?_)
  refine b_i hx hb hN hB 0 rfl (show vp_in (8 : Int32) 45783 from vp_in_nI (n := 8) (N := 45783) (by omega) (by omega)) (.inr ⟨rfl, List.mem_of_getElem? (i := 0) rfl⟩) dX9_giveUp_36 (fun H locs hB => ?_)
  rw [(show (8 : Int32).toNatClampNeg = 8 from nI_clamp (n := 8) (by omega))] at hB
  have hB : Bx B0 D _ [((κ w).2.2.2, .inl (cs 0, 45783, .inl (upd (upd g535 20 2) 8 x542))), (w, .inr (9, [.int f534_0, .ref f534_1, .int (nI ((κ w).2.2.1)), .int (nI f534_3), .int (nI f534_4), .int f534_5, .int f534_6, .int f534_7, .ref (κ w).2.2.2, .ref f534_9, .ref f534_10, .ref f534_11, .int (nI f534_12), .int f534_13, .int f534_14, .int f534_15, .int f534_16, .ref f534_17]))] [(κ w).2.2.2] _ _ := hB
  have z543 := DOK.sf z539 (k := 8) (by omega) (x := x542)
  have e544 := (pk_un (f := (upd g535 20 2)) (x := x542) (show 18 ≠ 8 by omega)).trans e540
  refine lv_aload_n hx hb dX9_giveUp_37 rfl (lv_at hl 2 rfl) ?_
  refine lv_iload_n hx hb dX9_giveUp_38 rfl (lv_at hl 1 rfl) ?_
  have hT : WT B0 D cs T κ _ := hT.close hB ⟨⟨0, _, rfl, ok_24 t534_8.1 ⟨_, rfl, z543⟩⟩, trivial⟩
  have hF : Fr B0 [18] κ H0 _ := hF.close hB (fa_c (by simp [t534_8.2]) fa_n)
  have hL : OkL B0 _ := hB.2.2.2.2.2
  have hP : va_P D vwCl [((κ w).2.2.2, .inl (cs 0, 45783, .inl (upd (upd g535 20 2) 8 x542))), (w, .inr (9, [.int f534_0, .ref f534_1, .int (nI ((κ w).2.2.1)), .int (nI f534_3), .int (nI f534_4), .int f534_5, .int f534_6, .int f534_7, .ref (κ w).2.2.2, .ref f534_9, .ref f534_10, .ref f534_11, .int (nI f534_12), .int f534_13, .int f534_14, .int f534_15, .int f534_16, .ref f534_17]))] _ := hB.1
  refine cv_i (As := [.int (nI n536)]) (rest := []) (b := w) ⟨hx, hb, hml, hown, hts⟩ (c_X9_isUp hT (w := w) hw (n := n536) (by first | omega | decide | assumption)) (cwV 1 hts gX9_giveUp_X9_isUp rfl rfl rfl hdX9_isUp_v ⟨Nat.le_of_ble_eq_true rfl, Nat.le_of_ble_eq_true rfl⟩) hN hE hL (rcv10 hN hT hw.1) rfl rfl hl.1 (Nat.le_of_ble_eq_true rfl) dX9_giveUp_39 (Nat.zero_le _) (Nat.zero_le _) (fun r545 H1 locs hL hqr545 => ?_)
  obtain ⟨h9, hqr545⟩ := hqr545; replace h9 := h9.symm; subst h9
  rcases hqr545 with rfl | rfl
  · refine lv_if_ne (tgt := 46) hx hb dX9_giveUp_42 (by decide) (fun c9 => absurd (by decide) c9) (fun _ => ?_)
    exact en_v hx hb hr hlocks hL (Nat.zero_le _) (Nat.zero_le _) dX9_giveUp_45 (⟨hT, hF⟩)
  · refine lv_if_ne (tgt := 46) hx hb dX9_giveUp_42 (by decide) (fun _ => ?_) (fun c9 => absurd c9 (by decide))
    refine lv_aload_n hx hb dX9_giveUp_46 rfl (lv_at hl 2 rfl) ?_
    refine lv_iload_n hx hb dX9_giveUp_47 rfl (lv_at hl 1 rfl) ?_
    refine lv_bipush (v := 6) hx hb dX9_giveUp_48 (by decide) ?_
    refine cv_i (As := [.int (nI n536), .int 6]) (rest := []) (b := w) ⟨hx, hb, hml, hown, hts⟩ (c_X9_of hT (w := w) hw (n := n536) (k := 6) (by first | omega | decide | assumption) (by first | omega | decide | assumption)) (cwV 2 hts gX9_giveUp_X9_of rfl rfl rfl hdX9_of_v ⟨Nat.le_of_ble_eq_true rfl, Nat.le_of_ble_eq_true rfl⟩) hN hE hL (rcv10 hN hT hw.1) rfl rfl hl.1 (Nat.le_of_ble_eq_true rfl) dX9_giveUp_50 (Nat.zero_le _) (Nat.zero_le _) (fun r546 H1 locs hL hqr546 => ?_)
    obtain rfl := hqr546.symm
    refine lv_iload_n hx hb dX9_giveUp_53 rfl (lv_at hl 0 rfl) ?_
    refine lv_icmp_ne (tgt := 62) hx hb dX9_giveUp_54 (by decide) (fun c547 => ?_) (fun c547 => ?_)
    · refine lv_aload_n hx hb dX9_giveUp_62 rfl (lv_at hl 2 rfl) ?_
      refine lv_iconst (v := 5) hx hb dX9_giveUp_63 (by decide) ?_
      refine lv_iload_n hx hb dX9_giveUp_64 rfl (lv_at hl 1 rfl) ?_
      refine lv_iload_n hx hb dX9_giveUp_65 rfl (lv_at hl 0 rfl) ?_
      refine lv_iconst (v := 0) hx hb dX9_giveUp_66 (by decide) ?_
      refine lv_iconst (v := 0) hx hb dX9_giveUp_67 (by decide) ?_
      refine cv_v (As := [.int 5, .int (nI n536), .int x538, .int 0, .int 0]) (rest := []) (b := w) ⟨hx, hb, hml, hown, hts⟩ (c_X9_sendToOthers hT (w := w) hw (x := 5) (n := n536) (y := x538) (z := 0) (u := 0) (by first | omega | decide | assumption) (by first | omega | decide | assumption)) (cwV 5 hts gX9_giveUp_X9_sendToOthers rfl rfl rfl hdX9_sendToOthers_v ⟨Nat.le_of_ble_eq_true rfl, Nat.le_of_ble_eq_true rfl⟩) hN hE hL (rcv10 hN hT hw.1) rfl rfl hl.1 (Nat.le_of_ble_eq_true rfl) dX9_giveUp_68 (Nat.zero_le _) (Nat.zero_le _) (fun H1 locs hL hqr548 => ?_)
      obtain ⟨hT1, hF1⟩ := hqr548
      have hP : va_P D vwCl [(w, .inr (9, [.int f534_0, .ref f534_1, .int (nI ((κ w).2.2.1)), .int (nI f534_3), .int (nI f534_4), .int f534_5, .int f534_6, .int f534_7, .ref (κ w).2.2.2, .ref f534_9, .ref f534_10, .ref f534_11, .int (nI f534_12), .int f534_13, .int f534_14, .int f534_15, .int f534_16, .ref f534_17]))] _ := hF1.hP (hP.sub [1] rfl) (fa_c ⟨by rw [hw.1]; decide, by rw [hw.2]; first | decide | (simp; done) | (simp [h15a, h15b, h15c]; done) | (simp; omega)⟩ fa_n)
      have hF := hF.tr (hF1.mono (by simp))
      have hT := hT1
      exact en_v hx hb hr hlocks hL (Nat.zero_le _) (Nat.zero_le _) dX9_giveUp_71 (⟨hT, hF⟩)
    · refine lv_aload_n hx hb dX9_giveUp_57 rfl (lv_at hl 2 rfl) ?_
      refine lv_iload_n hx hb dX9_giveUp_58 rfl (lv_at hl 1 rfl) ?_
      refine cv_v (As := [.int (nI n536)]) (rest := []) (b := w) ⟨hx, hb, hml, hown, hts⟩ (c_X9_dropPlan hT (w := w) hw (n := n536) (by first | omega | decide | assumption)) (cwV 1 hts gX9_giveUp_X9_dropPlan rfl rfl rfl hdX9_dropPlan_v ⟨Nat.le_of_ble_eq_true rfl, Nat.le_of_ble_eq_true rfl⟩) hN hE hL (rcv10 hN hT hw.1) rfl rfl hl.1 (Nat.le_of_ble_eq_true rfl) dX9_giveUp_59 (Nat.zero_le _) (Nat.zero_le _) (fun H1 locs hL hqr549 => ?_)
      obtain ⟨hT1, hF1⟩ := hqr549
      have hP : va_P D vwCl [(w, .inr (9, [.int f534_0, .ref f534_1, .int (nI ((κ w).2.2.1)), .int (nI f534_3), .int (nI f534_4), .int f534_5, .int f534_6, .int f534_7, .ref (κ w).2.2.2, .ref f534_9, .ref f534_10, .ref f534_11, .int (nI f534_12), .int f534_13, .int f534_14, .int f534_15, .int f534_16, .ref f534_17]))] _ := hF1.hP (hP.sub [1] rfl) (fa_c ⟨by rw [hw.1]; decide, by rw [hw.2]; first | decide | (simp; done) | (simp [h15a, h15b, h15c]; done) | (simp; omega)⟩ fa_n)
      have hF := hF.tr (hF1.mono (by simp))
      have hT := hT1
      refine lv_aload_n hx hb dX9_giveUp_62 rfl (lv_at hl 2 rfl) ?_
      refine lv_iconst (v := 5) hx hb dX9_giveUp_63 (by decide) ?_
      refine lv_iload_n hx hb dX9_giveUp_64 rfl (lv_at hl 1 rfl) ?_
      refine lv_iload_n hx hb dX9_giveUp_65 rfl (lv_at hl 0 rfl) ?_
      refine lv_iconst (v := 0) hx hb dX9_giveUp_66 (by decide) ?_
      refine lv_iconst (v := 0) hx hb dX9_giveUp_67 (by decide) ?_
      refine cv_v (As := [.int 5, .int (nI n536), .int x538, .int 0, .int 0]) (rest := []) (b := w) ⟨hx, hb, hml, hown, hts⟩ (c_X9_sendToOthers hT (w := w) hw (x := 5) (n := n536) (y := x538) (z := 0) (u := 0) (by first | omega | decide | assumption) (by first | omega | decide | assumption)) (cwV 5 hts gX9_giveUp_X9_sendToOthers rfl rfl rfl hdX9_sendToOthers_v ⟨Nat.le_of_ble_eq_true rfl, Nat.le_of_ble_eq_true rfl⟩) hN hE hL (rcv10 hN hT hw.1) rfl rfl hl.1 (Nat.le_of_ble_eq_true rfl) dX9_giveUp_68 (Nat.zero_le _) (Nat.zero_le _) (fun H1 locs hL hqr550 => ?_)
      obtain ⟨hT1, hF1⟩ := hqr550
      have hP : va_P D vwCl [(w, .inr (9, [.int f534_0, .ref f534_1, .int (nI ((κ w).2.2.1)), .int (nI f534_3), .int (nI f534_4), .int f534_5, .int f534_6, .int f534_7, .ref (κ w).2.2.2, .ref f534_9, .ref f534_10, .ref f534_11, .int (nI f534_12), .int f534_13, .int f534_14, .int f534_15, .int f534_16, .ref f534_17]))] _ := hF1.hP (hP.sub [0] rfl) (fa_c ⟨by rw [hw.1]; decide, by rw [hw.2]; first | decide | (simp; done) | (simp [h15a, h15b, h15c]; done) | (simp; omega)⟩ fa_n)
      have hF := hF.tr (hF1.mono (by simp))
      have hT := hT1
      exact en_v hx hb hr hlocks hL (Nat.zero_le _) (Nat.zero_le _) dX9_giveUp_71 (⟨hT, hF⟩)
theorem hdX9_estimate_v : yX9_estimate.cls = RX9 ∧ yX9_estimate.cls ≠ "java/lang/invoke/MethodHandle" ∧ yX9_estimate.cls ≠ "java/lang/invoke/VarHandle" ∧ (parseMethodDescriptor yX9_estimate.desc).map (fun d => d.parameters.length) = some 1 := by decide +kernel
theorem mX9_change_1 : (.fieldLink RX9 18 "OneBeatModel" "data" "[I" : Cond) ∈ wsX9_change := List.mem_of_getElem? (i := 1) (by decide +kernel)
theorem iX9_change_9 : ∀ w ∈ wsX90, w ∈ wsX9_change := fun w h => List.mem_of_mem_drop (List.mem_of_mem_take ((show wsX90 = (wsX9_change.drop 26).take 18 by decide +kernel) ▸ h))
