set_option maxHeartbeats 4000000 in
set_option maxRecDepth 100000 in
theorem c_X9_playerAt {l : Launch} {D : va_G} {cs : Nat → ClassId} {B0 T : Nat} {κ : KM} {H0 : Heap} (hT : WT B0 D cs T κ H0) {n : Nat} (hn : n < 8) : KC l yX9_playerAt wsX9_playerAt 0 0 0 0 D cs B0 H0 [.int (nI n)] (Qi (fun r H => H = H0 ∧ r = nI (23 + 12 * n))) := by
  refine KC.of cX9_playerAt 1 (some .int) (by decide) rfl (Nat.le_of_ble_eq_true rfl) ?_
  intro p e s m below meth c ls hx hb hr hml hown hts hlocks hin hN hH0 hl
  have hown : s.vm.findClass RX9 = some m.cls := hown
  have hl : lv_has ls 1 [(0, .int (nI n))] := hl
  have hL : OkL B0 [] := OkL.nil
  refine lv_bipush (v := 23) hx hb dX9_playerAt_0 (by decide) ?_
  refine lv_bipush (v := 12) hx hb dX9_playerAt_2 (by decide) ?_
  refine lv_iload_n hx hb dX9_playerAt_4 rfl (lv_at hl 0 rfl) ?_
  refine lv_imul hx hb dX9_playerAt_5 ?_
  refine tp_i (nI (12 * n)) (nI_mul 12 n) ?_
  refine lv_iadd hx hb dX9_playerAt_6 ?_
  refine tp_i (nI (23 + (12 * n))) (nI_add 23 (12 * n)) ?_
  exact en_i hx hb hr hlocks hL rfl (Nat.zero_le _) (Nat.zero_le _) dX9_playerAt_7 (⟨rfl, rfl⟩)
set_option maxHeartbeats 4000000 in
set_option maxRecDepth 100000 in
theorem c_X9_linkAt {l : Launch} {D : va_G} {cs : Nat → ClassId} {B0 T : Nat} {κ : KM} {H0 : Heap} (hT : WT B0 D cs T κ H0) {n : Nat} (hn : n < 8) {k : Nat} (hk : k < 8) : KC l yX9_linkAt wsX9_linkAt 0 0 0 0 D cs B0 H0 [.int (nI n), .int (nI k)] (Qi (fun r H => H = H0 ∧ r = nI (119 + 8 * n + k))) := by
  refine KC.of cX9_linkAt 2 (some .int) (by decide) rfl (Nat.le_of_ble_eq_true rfl) ?_
  intro p e s m below meth c ls hx hb hr hml hown hts hlocks hin hN hH0 hl
  have hown : s.vm.findClass RX9 = some m.cls := hown
  have hl : lv_has ls 2 [(0, .int (nI n)), (1, .int (nI k))] := hl
  have hL : OkL B0 [] := OkL.nil
  refine lv_bipush (v := 119) hx hb dX9_linkAt_0 (by decide) ?_
  refine lv_bipush (v := 8) hx hb dX9_linkAt_2 (by decide) ?_
  refine lv_iload_n hx hb dX9_linkAt_4 rfl (lv_at hl 0 rfl) ?_
  refine lv_imul hx hb dX9_linkAt_5 ?_
  refine tp_i (nI (8 * n)) (nI_mul 8 n) ?_
  refine lv_iadd hx hb dX9_linkAt_6 ?_
  refine tp_i (nI (119 + (8 * n))) (nI_add 119 (8 * n)) ?_
  refine lv_iload_n hx hb dX9_linkAt_7 rfl (lv_at hl 1 rfl) ?_
  refine lv_iadd hx hb dX9_linkAt_8 ?_
  refine tp_i (nI ((119 + (8 * n)) + k)) (nI_add (119 + (8 * n)) k) ?_
  exact en_i hx hb hr hlocks hL rfl (Nat.zero_le _) (Nat.zero_le _) dX9_linkAt_9 (⟨rfl, rfl⟩)
set_option maxHeartbeats 4000000 in
set_option maxRecDepth 100000 in
theorem c_X9_in {l : Launch} {D : va_G} {cs : Nat → ClassId} {B0 T : Nat} {κ : KM} {H0 : Heap} (hT : WT B0 D cs T κ H0) {x : Int32} {y : Int32} {z : Int32} : KC l yX9_in wsX9_in 0 0 0 0 D cs B0 H0 [.int x, .int y, .int z] (Qi (fun r H => H = H0 ∧ ((r = 0 ∧ (x < y ∨ z < x)) ∨ (r = 1 ∧ ¬ x < y ∧ ¬ z < x)))) := by
  refine KC.of cX9_in 3 (some .boolean) (by decide) rfl (Nat.le_of_ble_eq_true rfl) ?_
  intro p e s m below meth c ls hx hb hr hml hown hts hlocks hin hN hH0 hl
  have hown : s.vm.findClass RX9 = some m.cls := hown
  have hl : lv_has ls 3 [(0, .int x), (1, .int y), (2, .int z)] := hl
  have hL : OkL B0 [] := OkL.nil
  refine lv_iload_n hx hb dX9_in_0 rfl (lv_at hl 0 rfl) ?_
  refine lv_iload_n hx hb dX9_in_1 rfl (lv_at hl 1 rfl) ?_
  refine lv_icmp_lt (tgt := 14) hx hb dX9_in_2 (by decide) (fun c347 => ?_) (fun c347 => ?_)
  · refine lv_iconst (v := 0) hx hb dX9_in_14 (by decide) ?_
    exact en_i hx hb hr hlocks hL rfl (Nat.zero_le _) (Nat.zero_le _) dX9_in_15 (⟨rfl, Or.inl ⟨rfl, Or.inl c347⟩⟩)
  · refine lv_iload_n hx hb dX9_in_5 rfl (lv_at hl 0 rfl) ?_
    refine lv_iload_n hx hb dX9_in_6 rfl (lv_at hl 2 rfl) ?_
    refine lv_icmp_gt (tgt := 14) hx hb dX9_in_7 (by decide) (fun c348 => ?_) (fun c348 => ?_)
    · refine lv_iconst (v := 0) hx hb dX9_in_14 (by decide) ?_
      exact en_i hx hb hr hlocks hL rfl (Nat.zero_le _) (Nat.zero_le _) dX9_in_15 (⟨rfl, Or.inl ⟨rfl, Or.inr c348⟩⟩)
    · refine lv_iconst (v := 1) hx hb dX9_in_10 (by decide) ?_
      refine lv_goto (tgt := 15) hx hb dX9_in_11 (by decide) ?_
      exact en_i hx hb hr hlocks hL rfl (Nat.zero_le _) (Nat.zero_le _) dX9_in_15 (⟨rfl, Or.inr ⟨rfl, c347, c348⟩⟩)
set_option maxHeartbeats 4000000 in
set_option maxRecDepth 100000 in
theorem c_X9_min {l : Launch} {D : va_G} {cs : Nat → ClassId} {B0 T : Nat} {κ : KM} {H0 : Heap} (hT : WT B0 D cs T κ H0) {x : Int32} {y : Int32} : KC l yX9_min wsX9_min 0 0 0 0 D cs B0 H0 [.int x, .int y] (Qi (fun _ H => H = H0)) := by
  refine KC.of cX9_min 2 (some .int) (by decide) rfl (Nat.le_of_ble_eq_true rfl) ?_
  intro p e s m below meth c ls hx hb hr hml hown hts hlocks hin hN hH0 hl
  have hown : s.vm.findClass RX9 = some m.cls := hown
  have hl : lv_has ls 2 [(0, .int x), (1, .int y)] := hl
  have hL : OkL B0 [] := OkL.nil
  refine lv_iload_n hx hb dX9_min_0 rfl (lv_at hl 0 rfl) ?_
  refine lv_iload_n hx hb dX9_min_1 rfl (lv_at hl 1 rfl) ?_
  refine lv_icmp_ge (tgt := 9) hx hb dX9_min_2 (by decide) (fun c349 => ?_) (fun c349 => ?_)
  · refine lv_iload_n hx hb dX9_min_9 rfl (lv_at hl 1 rfl) ?_
    exact en_i hx hb hr hlocks hL rfl (Nat.zero_le _) (Nat.zero_le _) dX9_min_10 (rfl)
  · refine lv_iload_n hx hb dX9_min_5 rfl (lv_at hl 0 rfl) ?_
    refine lv_goto (tgt := 10) hx hb dX9_min_6 (by decide) ?_
    exact en_i hx hb hr hlocks hL rfl (Nat.zero_le _) (Nat.zero_le _) dX9_min_10 (rfl)
set_option maxHeartbeats 4000000 in
set_option maxRecDepth 100000 in
theorem c_X9_max {l : Launch} {D : va_G} {cs : Nat → ClassId} {B0 T : Nat} {κ : KM} {H0 : Heap} (hT : WT B0 D cs T κ H0) {x : Int32} {y : Int32} : KC l yX9_max wsX9_max 0 0 0 0 D cs B0 H0 [.int x, .int y] (Qi (fun _ H => H = H0)) := by
  refine KC.of cX9_max 2 (some .int) (by decide) rfl (Nat.le_of_ble_eq_true rfl) ?_
  intro p e s m below meth c ls hx hb hr hml hown hts hlocks hin hN hH0 hl
  have hown : s.vm.findClass RX9 = some m.cls := hown
  have hl : lv_has ls 2 [(0, .int x), (1, .int y)] := hl
  have hL : OkL B0 [] := OkL.nil
  refine lv_iload_n hx hb dX9_max_0 rfl (lv_at hl 0 rfl) ?_
  refine lv_iload_n hx hb dX9_max_1 rfl (lv_at hl 1 rfl) ?_
  refine lv_icmp_le (tgt := 9) hx hb dX9_max_2 (by decide) (fun c350 => ?_) (fun c350 => ?_)
  · refine lv_iload_n hx hb dX9_max_9 rfl (lv_at hl 1 rfl) ?_
    exact en_i hx hb hr hlocks hL rfl (Nat.zero_le _) (Nat.zero_le _) dX9_max_10 (rfl)
  · refine lv_iload_n hx hb dX9_max_5 rfl (lv_at hl 0 rfl) ?_
    refine lv_goto (tgt := 10) hx hb dX9_max_6 (by decide) ?_
    exact en_i hx hb hr hlocks hL rfl (Nat.zero_le _) (Nat.zero_le _) dX9_max_10 (rfl)
theorem mX9_fails_1 : (.fieldLink RX9 40 "OneBeatModel" "thrown" "I" : Cond) ∈ wsX9_fails := List.mem_of_getElem? (i := 1) (by decide +kernel)
theorem iX9_fails_9 : ∀ w ∈ wsX90, w ∈ wsX9_fails := fun w h => List.mem_of_mem_drop (List.mem_of_mem_take ((show wsX90 = (wsX9_fails.drop 2).take 18 by decide +kernel) ▸ h))
set_option maxHeartbeats 4000000 in
set_option maxRecDepth 100000 in
theorem c_X9_fails {l : Launch} {D : va_G} {cs : Nat → ClassId} {B0 T : Nat} {κ : KM} {H0 : Heap} (hT : WT B0 D cs T κ H0) {w : Nat} (hw : T2 κ w 10 12) {x : Int32} {z : Int32} (hz : ¬ z = 0) : KC l yX9_fails wsX9_fails 0 0 0 0 D cs B0 H0 [.ref w, .int x, .int z] (Qi (fun r H => WT B0 D cs T κ H ∧ Fr B0 [12] κ H0 H ∧ (r = 1 ∨ (r = 0 ∧ x = 0)))) := by
  refine KC.of cX9_fails 3 (some .boolean) (by decide) rfl (Nat.le_of_ble_eq_true rfl) ?_
  intro p e s m below meth c ls hx hb hr hml hown hts hlocks hin hN hH0 hl
  have hown : s.vm.findClass RX9 = some m.cls := hown
  have hl : lv_has ls 3 [(0, .ref w), (1, .int x), (2, .int z)] := hl
  have hL : OkL B0 [] := OkL.nil
  have hF : Fr B0 [12] κ H0 H0 := Fr.rf
  refine lv_iload_n hx hb dX9_fails_0 rfl (lv_at hl 1 rfl) ?_
  refine lv_if_eq (tgt := 16) hx hb dX9_fails_1 (by decide) (fun c351 => ?_) (fun c351 => ?_)
  · refine lv_aload_n hx hb dX9_fails_16 rfl (lv_at hl 0 rfl) ?_
    obtain ⟨hb352, e352, hat352, hk352⟩ := hT.o10 hw.1
    obtain ⟨f352_0, f352_1, f352_3, f352_4, f352_5, f352_6, f352_7, f352_8, f352_9, f352_10, f352_11, f352_12, f352_13, f352_14, f352_15, f352_16, f352_17, rfl, c352_2, c352_3, c352_4, c352_12, t352_1, t352_8, t352_9, c352_sd, t352_10, t352_11, t352_17⟩ := hk352
    have hP : va_P D vwCl [(w, .inr (9, [.int f352_0, .ref f352_1, .int (nI ((κ w).2.2.1)), .int (nI f352_3), .int (nI f352_4), .int f352_5, .int f352_6, .int f352_7, .ref f352_8, .ref f352_9, .ref f352_10, .ref f352_11, .int (nI f352_12), .int f352_13, .int f352_14, .int f352_15, .int f352_16, .ref f352_17]))] _ := va_P.cons hat352 va_P.nil
    refine va_get (D := D) (ci := 9) (v := .int f352_0) (C := RX9) (T := TX9) (N := 18) hx hb hts iX9_fails_9 hown hN.1 hP 0 rfl rfl 0 (by decide) (hts _ mX9_fails_1) (fun _ h9 => h9) rfl dX9_fails_17 ?_
    refine lv_if_eq (tgt := 27) hx hb dX9_fails_20 (by decide) (fun c353 => ?_) (fun c353 => ?_)
    · refine lv_iconst (v := 0) hx hb dX9_fails_27 (by decide) ?_
      exact en_i hx hb hr hlocks hL rfl (Nat.zero_le _) (Nat.zero_le _) dX9_fails_28 (⟨hT, hF, Or.inr ⟨rfl, c351⟩⟩)
    · refine lv_iconst (v := 1) hx hb dX9_fails_23 (by decide) ?_
      refine lv_goto (tgt := 28) hx hb dX9_fails_24 (by decide) ?_
      exact en_i hx hb hr hlocks hL rfl (Nat.zero_le _) (Nat.zero_le _) dX9_fails_28 (⟨hT, hF, Or.inl rfl⟩)
  · refine lv_aload_n hx hb dX9_fails_4 rfl (lv_at hl 0 rfl) ?_
    obtain ⟨hb354, e354, hat354, hk354⟩ := hT.o10 hw.1
    obtain ⟨f354_0, f354_1, f354_3, f354_4, f354_5, f354_6, f354_7, f354_8, f354_9, f354_10, f354_11, f354_12, f354_13, f354_14, f354_15, f354_16, f354_17, rfl, c354_2, c354_3, c354_4, c354_12, t354_1, t354_8, t354_9, c354_sd, t354_10, t354_11, t354_17⟩ := hk354
    have hP : va_P D vwCl [(w, .inr (9, [.int f354_0, .ref f354_1, .int (nI ((κ w).2.2.1)), .int (nI f354_3), .int (nI f354_4), .int f354_5, .int f354_6, .int f354_7, .ref f354_8, .ref f354_9, .ref f354_10, .ref f354_11, .int (nI f354_12), .int f354_13, .int f354_14, .int f354_15, .int f354_16, .ref f354_17]))] _ := va_P.cons hat354 va_P.nil
    refine va_get (D := D) (ci := 9) (v := .int f354_0) (C := RX9) (T := TX9) (N := 18) hx hb hts iX9_fails_9 hown hN.1 hP 0 rfl rfl 0 (by decide) (hts _ mX9_fails_1) (fun _ h9 => h9) rfl dX9_fails_5 ?_
    refine lv_if_ne (tgt := 16) hx hb dX9_fails_8 (by decide) (fun c355 => ?_) (fun c355 => ?_)
    · refine lv_aload_n hx hb dX9_fails_16 rfl (lv_at hl 0 rfl) ?_
      refine va_get (D := D) (ci := 9) (v := .int f354_0) (C := RX9) (T := TX9) (N := 18) hx hb hts iX9_fails_9 hown hN.1 hP 0 rfl rfl 0 (by decide) (hts _ mX9_fails_1) (fun _ h9 => h9) rfl dX9_fails_17 ?_
      refine lv_if_eq (tgt := 27) hx hb dX9_fails_20 (by decide) (fun c356 => ?_) (fun c356 => ?_)
      · exact absurd c356 c355
      · refine lv_iconst (v := 1) hx hb dX9_fails_23 (by decide) ?_
        refine lv_goto (tgt := 28) hx hb dX9_fails_24 (by decide) ?_
        exact en_i hx hb hr hlocks hL rfl (Nat.zero_le _) (Nat.zero_le _) dX9_fails_28 (⟨hT, hF, Or.inl rfl⟩)
    · refine lv_aload_n hx hb dX9_fails_11 rfl (lv_at hl 0 rfl) ?_
      refine lv_iload_n hx hb dX9_fails_12 rfl (lv_at hl 2 rfl) ?_
      have hB : Bx B0 D _ [(w, .inr (9, [.int f354_0, .ref f354_1, .int (nI ((κ w).2.2.1)), .int (nI f354_3), .int (nI f354_4), .int f354_5, .int f354_6, .int f354_7, .ref f354_8, .ref f354_9, .ref f354_10, .ref f354_11, .int (nI f354_12), .int f354_13, .int f354_14, .int f354_15, .int f354_16, .ref f354_17]))] [] _ _ := Bx.of (fun a => (κ a).1) hL hP (fa_c hb354 fa_n) (by simp only [List.map_cons, List.map_nil, hw.1]; decide)
      refine b_put (D := D) (ci := 9) (v := .int z) (ty := .int) (C := RX9) (T := TX9) (N := 18) hx hb hts iX9_fails_9 tyX9 tyX9_ok nmX9 hown hN hB 0 rfl rfl 0 (by decide) (hts _ mX9_fails_1) (fun _ h9 => h9) rfl (by decide +kernel) rfl rfl (Nat.le_of_ble_eq_true rfl) (.inl rfl) dX9_fails_13 (fun H locs hB => ?_)
      have hB : Bx B0 D _ [(w, .inr (9, [.int z, .ref f354_1, .int (nI ((κ w).2.2.1)), .int (nI f354_3), .int (nI f354_4), .int f354_5, .int f354_6, .int f354_7, .ref f354_8, .ref f354_9, .ref f354_10, .ref f354_11, .int (nI f354_12), .int f354_13, .int f354_14, .int f354_15, .int f354_16, .ref f354_17]))] [w] _ _ := hB
      refine lv_aload_n hx hb dX9_fails_16 rfl (lv_at hl 0 rfl) ?_
      refine va_get (D := D) (ci := 9) (v := .int z) (C := RX9) (T := TX9) (N := 18) hx hb hts iX9_fails_9 hown hN.1 hB.1 0 rfl rfl 0 (by decide) (hts _ mX9_fails_1) (fun _ h9 => h9) rfl dX9_fails_17 ?_
      refine lv_if_eq (tgt := 27) hx hb dX9_fails_20 (by decide) (fun c357 => ?_) (fun c357 => ?_)
      · exact absurd c357 hz
      · refine lv_iconst (v := 1) hx hb dX9_fails_23 (by decide) ?_
        refine lv_goto (tgt := 28) hx hb dX9_fails_24 (by decide) ?_
        have hT : WT B0 D cs T κ _ := hT.close hB ⟨⟨0, _, rfl, ok_10 hw.1 ⟨_, _, _, _, _, _, _, _, _, _, _, _, _, _, _, _, _, rfl, (by omega), (by omega), (by omega), (by omega), t354_1, t354_8, t354_9, c354_sd, t354_10, t354_11, t354_17⟩⟩, trivial⟩
        have hF : Fr B0 [12] κ H0 _ := hF.close hB (fa_c (by simp [hw.2]) fa_n)
        have hL : OkL B0 _ := hB.2.2.2.2.2
        have hP : va_P D vwCl [(w, .inr (9, [.int z, .ref f354_1, .int (nI ((κ w).2.2.1)), .int (nI f354_3), .int (nI f354_4), .int f354_5, .int f354_6, .int f354_7, .ref f354_8, .ref f354_9, .ref f354_10, .ref f354_11, .int (nI f354_12), .int f354_13, .int f354_14, .int f354_15, .int f354_16, .ref f354_17]))] _ := hB.1
        exact en_i hx hb hr hlocks hL rfl (Nat.zero_le _) (Nat.zero_le _) dX9_fails_28 (⟨hT, hF, Or.inl rfl⟩)
theorem mX9_of_1 : (.fieldLink RX9 18 "OneBeatModel" "data" "[I" : Cond) ∈ wsX9_of := List.mem_of_getElem? (i := 1) (by decide +kernel)
theorem iX9_of_9 : ∀ w ∈ wsX90, w ∈ wsX9_of := fun w h => List.mem_of_mem_drop (List.mem_of_mem_take ((show wsX90 = (wsX9_of.drop 6).take 18 by decide +kernel) ▸ h))
theorem hdX9_playerAt_o : yX9_playerAt.cls ≠ "java/lang/invoke/MethodHandle" ∧ yX9_playerAt.cls ≠ "java/lang/invoke/VarHandle" ∧ (parseMethodDescriptor yX9_playerAt.desc).map (fun d => d.parameters.length) = some 1 := by decide +kernel
set_option maxHeartbeats 4000000 in
set_option maxRecDepth 100000 in
theorem c_X9_of {l : Launch} {D : va_G} {cs : Nat → ClassId} {B0 T : Nat} {κ : KM} {H0 : Heap} (hT : WT B0 D cs T κ H0) {w : Nat} (hw : T2 κ w 10 12) {n : Nat} (hn : n < 8) {k : Nat} (hk : k < 12) : KC l yX9_of wsX9_of 1 20 0 0 D cs B0 H0 [.ref w, .int (nI n), .int (nI k)] (Qi (fun _ H => H = H0)) := by
  refine KC.of cX9_of 3 (some .int) (by decide) rfl (Nat.le_of_ble_eq_true rfl) ?_
  intro p e s m below meth c ls hx hb hr hml hown hts hlocks hin hN hH0 hl
  have hown : s.vm.findClass RX9 = some m.cls := hown
  have hl : lv_has ls 3 [(0, .ref w), (1, .int (nI n)), (2, .int (nI k))] := hl
  have hL : OkL B0 [] := OkL.nil
  refine lv_aload_n hx hb dX9_of_0 rfl (lv_at hl 0 rfl) ?_
  obtain ⟨hb358, e358, hat358, hk358⟩ := hT.o10 hw.1
  obtain ⟨f358_0, f358_1, f358_3, f358_4, f358_5, f358_6, f358_7, f358_8, f358_9, f358_10, f358_11, f358_12, f358_13, f358_14, f358_15, f358_16, f358_17, rfl, c358_2, c358_3, c358_4, c358_12, t358_1, t358_8, t358_9, c358_sd, t358_10, t358_11, t358_17⟩ := hk358
  have hP : va_P D vwCl [(w, .inr (9, [.int f358_0, .ref f358_1, .int (nI ((κ w).2.2.1)), .int (nI f358_3), .int (nI f358_4), .int f358_5, .int f358_6, .int f358_7, .ref f358_8, .ref f358_9, .ref f358_10, .ref f358_11, .int (nI f358_12), .int f358_13, .int f358_14, .int f358_15, .int f358_16, .ref f358_17]))] _ := va_P.cons hat358 va_P.nil
  refine va_get (D := D) (ci := 9) (v := .ref f358_8) (C := RX9) (T := TX9) (N := 18) hx hb hts iX9_of_9 hown hN.1 hP 0 rfl rfl 8 (by decide) (hts _ mX9_of_1) (fun _ h9 => h9) rfl dX9_of_1 ?_
  refine lv_iload_n hx hb dX9_of_4 rfl (lv_at hl 1 rfl) ?_
  refine cs_i (As := [.int (nI n)]) (rest := [.ref f358_8]) ⟨hx, hb, hml, hown, hts⟩ (c_X9_playerAt hT (n := n) (by first | omega | decide | assumption)) (va_cwS 1 hts gX9_of_X9_playerAt rfl rfl rfl hdX9_playerAt_o ⟨Nat.le_of_ble_eq_true rfl, Nat.le_of_ble_eq_true rfl⟩) hN hL rfl rfl hl.1 (Nat.le_of_ble_eq_true rfl) dX9_of_5 (Nat.zero_le _) (Nat.zero_le _) (fun r359 H1 locs hL hqr359 => ?_)
  obtain ⟨rfl, hqr359⟩ := hqr359
  obtain rfl := hqr359
  refine lv_iload_n hx hb dX9_of_8 rfl (lv_at hl 2 rfl) ?_
  refine lv_iadd hx hb dX9_of_9 ?_
  refine tp_i (nI ((23 + 12 * n) + k)) (nI_add (23 + 12 * n) k) ?_
  obtain ⟨hb360, e360, hat360, hk360⟩ := hT.o24 t358_8.1
  obtain ⟨g360, rfl, q360⟩ := hk360
  have hP : va_P D vwCl [(f358_8, .inl (cs 0, 45783, .inl g360)), (w, .inr (9, [.int f358_0, .ref f358_1, .int (nI ((κ w).2.2.1)), .int (nI f358_3), .int (nI f358_4), .int f358_5, .int f358_6, .int f358_7, .ref f358_8, .ref f358_9, .ref f358_10, .ref f358_11, .int (nI f358_12), .int f358_13, .int f358_14, .int f358_15, .int f358_16, .ref f358_17]))] _ := va_P.cons hat360 hP
  refine ld_i (v := (g360 ((23 + 12 * n) + k))) hx hb hN hP 0 rfl (vp_in_nI (n := ((23 + 12 * n) + k)) (N := 45783) (by omega) (by omega)) (by rw [(show ((nI ((23 + 12 * n) + k)) : Int32).toNatClampNeg = ((23 + 12 * n) + k) from nI_clamp (n := ((23 + 12 * n) + k)) (by omega))]) dX9_of_10 ?_
  refine gn_i (fun x361 => ?_)
  exact en_i hx hb hr hlocks hL rfl (Nat.zero_le _) (Nat.zero_le _) dX9_of_11 (rfl)
theorem mX9_set_1 : (.fieldLink RX9 18 "OneBeatModel" "data" "[I" : Cond) ∈ wsX9_set := List.mem_of_getElem? (i := 1) (by decide +kernel)
theorem iX9_set_9 : ∀ w ∈ wsX90, w ∈ wsX9_set := fun w h => List.mem_of_mem_drop (List.mem_of_mem_take ((show wsX90 = (wsX9_set.drop 6).take 18 by decide +kernel) ▸ h))
set_option maxHeartbeats 4000000 in
set_option maxRecDepth 100000 in
theorem c_X9_set {l : Launch} {D : va_G} {cs : Nat → ClassId} {B0 T : Nat} {κ : KM} {H0 : Heap} (hT : WT B0 D cs T κ H0) {w : Nat} (hw : T2 κ w 10 12) {n : Nat} (hn : n < 8) {k : Nat} (hk : k < 12) {x : Int32} : KC l yX9_set wsX9_set 1 20 0 0 D cs B0 H0 [.ref w, .int (nI n), .int (nI k), .int x] (Qv (fun H => WT B0 D cs T κ H ∧ Fr B0 [12] κ H0 H)) := by
  refine KC.of cX9_set 4 none (by decide) rfl (Nat.le_of_ble_eq_true rfl) ?_
  intro p e s m below meth c ls hx hb hr hml hown hts hlocks hin hN hH0 hl
  have hown : s.vm.findClass RX9 = some m.cls := hown
  have hl : lv_has ls 4 [(0, .ref w), (1, .int (nI n)), (2, .int (nI k)), (3, .int x)] := hl
  have hL : OkL B0 [] := OkL.nil
  have hF : Fr B0 [12] κ H0 H0 := Fr.rf
  refine lv_aload_n hx hb dX9_set_0 rfl (lv_at hl 0 rfl) ?_
  obtain ⟨hb362, e362, hat362, hk362⟩ := hT.o10 hw.1
  obtain ⟨f362_0, f362_1, f362_3, f362_4, f362_5, f362_6, f362_7, f362_8, f362_9, f362_10, f362_11, f362_12, f362_13, f362_14, f362_15, f362_16, f362_17, rfl, c362_2, c362_3, c362_4, c362_12, t362_1, t362_8, t362_9, c362_sd, t362_10, t362_11, t362_17⟩ := hk362
  have hP : va_P D vwCl [(w, .inr (9, [.int f362_0, .ref f362_1, .int (nI ((κ w).2.2.1)), .int (nI f362_3), .int (nI f362_4), .int f362_5, .int f362_6, .int f362_7, .ref f362_8, .ref f362_9, .ref f362_10, .ref f362_11, .int (nI f362_12), .int f362_13, .int f362_14, .int f362_15, .int f362_16, .ref f362_17]))] _ := va_P.cons hat362 va_P.nil
  refine va_get (D := D) (ci := 9) (v := .ref f362_8) (C := RX9) (T := TX9) (N := 18) hx hb hts iX9_set_9 hown hN.1 hP 0 rfl rfl 8 (by decide) (hts _ mX9_set_1) (fun _ h9 => h9) rfl dX9_set_1 ?_
  refine lv_iload_n hx hb dX9_set_4 rfl (lv_at hl 1 rfl) ?_
  refine cs_i (As := [.int (nI n)]) (rest := [.ref f362_8]) ⟨hx, hb, hml, hown, hts⟩ (c_X9_playerAt hT (n := n) (by first | omega | decide | assumption)) (va_cwS 1 hts gX9_set_X9_playerAt rfl rfl rfl hdX9_playerAt_o ⟨Nat.le_of_ble_eq_true rfl, Nat.le_of_ble_eq_true rfl⟩) hN hL rfl rfl hl.1 (Nat.le_of_ble_eq_true rfl) dX9_set_5 (Nat.zero_le _) (Nat.zero_le _) (fun r363 H1 locs hL hqr363 => ?_)
  obtain ⟨rfl, hqr363⟩ := hqr363
  obtain rfl := hqr363
  refine lv_iload_n hx hb dX9_set_8 rfl (lv_at hl 2 rfl) ?_
  refine lv_iadd hx hb dX9_set_9 ?_
  refine tp_i (nI ((23 + 12 * n) + k)) (nI_add (23 + 12 * n) k) ?_
  refine lv_iload_n hx hb dX9_set_10 rfl (lv_at hl 3 rfl) ?_
  obtain ⟨hb364, e364, hat364, hk364⟩ := hT.o24 t362_8.1
  obtain ⟨g364, rfl, q364⟩ := hk364
  have hP : va_P D vwCl [(f362_8, .inl (cs 0, 45783, .inl g364)), (w, .inr (9, [.int f362_0, .ref f362_1, .int (nI ((κ w).2.2.1)), .int (nI f362_3), .int (nI f362_4), .int f362_5, .int f362_6, .int f362_7, .ref f362_8, .ref f362_9, .ref f362_10, .ref f362_11, .int (nI f362_12), .int f362_13, .int f362_14, .int f362_15, .int f362_16, .ref f362_17]))] _ := va_P.cons hat364 hP
  have hB : Bx B0 D _ [(f362_8, .inl (cs 0, 45783, .inl g364)), (w, .inr (9, [.int f362_0, .ref f362_1, .int (nI ((κ w).2.2.1)), .int (nI f362_3), .int (nI f362_4), .int f362_5, .int f362_6, .int f362_7, .ref f362_8, .ref f362_9, .ref f362_10, .ref f362_11, .int (nI f362_12), .int f362_13, .int f362_14, .int f362_15, .int f362_16, .ref f362_17]))] [] _ _ := Bx.of (fun a => (κ a).1) hL hP (fa_c hb364 (fa_c hb362 fa_n)) (by simp only [List.map_cons, List.map_nil, t362_8.1, hw.1]; decide)
  refine b_i hx hb hN hB 0 rfl (vp_in_nI (n := ((23 + 12 * n) + k)) (N := 45783) (by omega) (by omega)) (.inl rfl) dX9_set_11 (fun H locs hB => ?_)
  rw [(show ((nI ((23 + 12 * n) + k)) : Int32).toNatClampNeg = ((23 + 12 * n) + k) from nI_clamp (n := ((23 + 12 * n) + k)) (by omega))] at hB
  have hB : Bx B0 D _ [(f362_8, .inl (cs 0, 45783, .inl (upd g364 ((23 + 12 * n) + k) x))), (w, .inr (9, [.int f362_0, .ref f362_1, .int (nI ((κ w).2.2.1)), .int (nI f362_3), .int (nI f362_4), .int f362_5, .int f362_6, .int f362_7, .ref f362_8, .ref f362_9, .ref f362_10, .ref f362_11, .int (nI f362_12), .int f362_13, .int f362_14, .int f362_15, .int f362_16, .ref f362_17]))] [f362_8] _ _ := hB
  have z365 := DOK.sf q364 (k := ((23 + 12 * n) + k)) (by omega) (x := x)
  have hT : WT B0 D cs T κ _ := hT.close hB ⟨⟨0, _, rfl, ok_24 t362_8.1 ⟨_, rfl, z365⟩⟩, trivial⟩
  have hF : Fr B0 [12] κ H0 _ := hF.close hB (fa_c (by simp [t362_8.2]) fa_n)
  have hL : OkL B0 _ := hB.2.2.2.2.2
  have hP : va_P D vwCl [(f362_8, .inl (cs 0, 45783, .inl (upd g364 ((23 + 12 * n) + k) x))), (w, .inr (9, [.int f362_0, .ref f362_1, .int (nI ((κ w).2.2.1)), .int (nI f362_3), .int (nI f362_4), .int f362_5, .int f362_6, .int f362_7, .ref f362_8, .ref f362_9, .ref f362_10, .ref f362_11, .int (nI f362_12), .int f362_13, .int f362_14, .int f362_15, .int f362_16, .ref f362_17]))] _ := hB.1
  exact en_v hx hb hr hlocks hL (Nat.zero_le _) (Nat.zero_le _) dX9_set_12 (⟨hT, hF⟩)
theorem hdX9_of_v : yX9_of.cls = RX9 ∧ yX9_of.cls ≠ "java/lang/invoke/MethodHandle" ∧ yX9_of.cls ≠ "java/lang/invoke/VarHandle" ∧ (parseMethodDescriptor yX9_of.desc).map (fun d => d.parameters.length) = some 2 := by decide +kernel
set_option maxHeartbeats 4000000 in
set_option maxRecDepth 100000 in
theorem c_X9_isUp {l : Launch} {D : va_G} {cs : Nat → ClassId} {B0 T : Nat} {κ : KM} {H0 : Heap} (hT : WT B0 D cs T κ H0) {w : Nat} (hw : T2 κ w 10 12) {n : Nat} (hn : n < 8) : KC l yX9_isUp wsX9_isUp 2 42 0 0 D cs B0 H0 [.ref w, .int (nI n)] (Qi (fun r H => H = H0 ∧ (r = 0 ∨ r = 1))) := by
  refine KC.of cX9_isUp 2 (some .boolean) (by decide) rfl (Nat.le_of_ble_eq_true rfl) ?_
  intro p e s m below meth c ls hx hb hr hml hown hts hlocks hin hN hH0 hl
  have hown : s.vm.findClass RX9 = some m.cls := hown
  have hl : lv_has ls 2 [(0, .ref w), (1, .int (nI n))] := hl
  have hL : OkL B0 [] := OkL.nil
  refine lv_aload_n hx hb dX9_isUp_0 rfl (lv_at hl 0 rfl) ?_
  refine lv_iload_n hx hb dX9_isUp_1 rfl (lv_at hl 1 rfl) ?_
  refine lv_iconst (v := 0) hx hb dX9_isUp_2 (by decide) ?_
  refine cv_i (As := [.int (nI n), .int 0]) (rest := []) (b := w) ⟨hx, hb, hml, hown, hts⟩ (c_X9_of hT (w := w) hw (n := n) (k := 0) (by first | omega | decide | assumption) (by first | omega | decide | assumption)) (cwV 2 hts gX9_isUp_X9_of rfl rfl rfl hdX9_of_v ⟨Nat.le_of_ble_eq_true rfl, Nat.le_of_ble_eq_true rfl⟩) hN hL (rcv10 hN hT hw.1) rfl rfl hl.1 (Nat.le_of_ble_eq_true rfl) dX9_isUp_3 (Nat.zero_le _) (Nat.zero_le _) (fun r366 H1 locs hL hqr366 => ?_)
  obtain rfl := hqr366
  refine lv_iconst (v := 1) hx hb dX9_isUp_6 (by decide) ?_
  refine lv_icmp_ne (tgt := 14) hx hb dX9_isUp_7 (by decide) (fun c367 => ?_) (fun c367 => ?_)
  · refine lv_iconst (v := 0) hx hb dX9_isUp_14 (by decide) ?_
    exact en_i hx hb hr hlocks hL rfl (Nat.zero_le _) (Nat.zero_le _) dX9_isUp_15 (⟨rfl, Or.inl rfl⟩)
  · refine lv_iconst (v := 1) hx hb dX9_isUp_10 (by decide) ?_
    refine lv_goto (tgt := 15) hx hb dX9_isUp_11 (by decide) ?_
    exact en_i hx hb hr hlocks hL rfl (Nat.zero_le _) (Nat.zero_le _) dX9_isUp_15 (⟨rfl, Or.inr rfl⟩)
theorem mX9_clock_1 : (.fieldLink RX9 18 "OneBeatModel" "data" "[I" : Cond) ∈ wsX9_clock := List.mem_of_getElem? (i := 1) (by decide +kernel)
theorem iX9_clock_9 : ∀ w ∈ wsX90, w ∈ wsX9_clock := fun w h => List.mem_of_mem_drop (List.mem_of_mem_take ((show wsX90 = (wsX9_clock.drop 10).take 18 by decide +kernel) ▸ h))
set_option maxHeartbeats 4000000 in
set_option maxRecDepth 100000 in
theorem c_X9_clock {l : Launch} {D : va_G} {cs : Nat → ClassId} {B0 T : Nat} {κ : KM} {H0 : Heap} (hT : WT B0 D cs T κ H0) {w : Nat} (hw : T2 κ w 10 12) {n : Nat} (hn : n < 8) : KC l yX9_clock wsX9_clock 2 42 0 0 D cs B0 H0 [.ref w, .int (nI n)] (Qi (fun _ H => H = H0)) := by
  refine KC.of cX9_clock 2 (some .int) (by decide) rfl (Nat.le_of_ble_eq_true rfl) ?_
  intro p e s m below meth c ls hx hb hr hml hown hts hlocks hin hN hH0 hl
  have hown : s.vm.findClass RX9 = some m.cls := hown
  have hl : lv_has ls 2 [(0, .ref w), (1, .int (nI n))] := hl
  have hL : OkL B0 [] := OkL.nil
  refine lv_aload_n hx hb dX9_clock_0 rfl (lv_at hl 0 rfl) ?_
  obtain ⟨hb368, e368, hat368, hk368⟩ := hT.o10 hw.1
  obtain ⟨f368_0, f368_1, f368_3, f368_4, f368_5, f368_6, f368_7, f368_8, f368_9, f368_10, f368_11, f368_12, f368_13, f368_14, f368_15, f368_16, f368_17, rfl, c368_2, c368_3, c368_4, c368_12, t368_1, t368_8, t368_9, c368_sd, t368_10, t368_11, t368_17⟩ := hk368
  have hP : va_P D vwCl [(w, .inr (9, [.int f368_0, .ref f368_1, .int (nI ((κ w).2.2.1)), .int (nI f368_3), .int (nI f368_4), .int f368_5, .int f368_6, .int f368_7, .ref f368_8, .ref f368_9, .ref f368_10, .ref f368_11, .int (nI f368_12), .int f368_13, .int f368_14, .int f368_15, .int f368_16, .ref f368_17]))] _ := va_P.cons hat368 va_P.nil
  refine va_get (D := D) (ci := 9) (v := .ref f368_8) (C := RX9) (T := TX9) (N := 18) hx hb hts iX9_clock_9 hown hN.1 hP 0 rfl rfl 8 (by decide) (hts _ mX9_clock_1) (fun _ h9 => h9) rfl dX9_clock_1 ?_
  refine lv_iconst (v := 1) hx hb dX9_clock_4 (by decide) ?_
  obtain ⟨hb369, e369, hat369, hk369⟩ := hT.o24 t368_8.1
  obtain ⟨g369, rfl, q369⟩ := hk369
  have hP : va_P D vwCl [(f368_8, .inl (cs 0, 45783, .inl g369)), (w, .inr (9, [.int f368_0, .ref f368_1, .int (nI ((κ w).2.2.1)), .int (nI f368_3), .int (nI f368_4), .int f368_5, .int f368_6, .int f368_7, .ref f368_8, .ref f368_9, .ref f368_10, .ref f368_11, .int (nI f368_12), .int f368_13, .int f368_14, .int f368_15, .int f368_16, .ref f368_17]))] _ := va_P.cons hat369 hP
  refine ld_i (v := (g369 1)) hx hb hN hP 0 rfl (vp_in_nI (n := 1) (N := 45783) (by omega) (by omega)) (by rw [(show (1 : Int32).toNatClampNeg = 1 from nI_clamp (n := 1) (by omega))]) dX9_clock_5 ?_
  refine gn_i (fun x370 => ?_)
  refine lv_aload_n hx hb dX9_clock_6 rfl (lv_at hl 0 rfl) ?_
  refine lv_iload_n hx hb dX9_clock_7 rfl (lv_at hl 1 rfl) ?_
  refine lv_iconst (v := 1) hx hb dX9_clock_8 (by decide) ?_
  refine cv_i (As := [.int (nI n), .int 1]) (rest := [.int x370]) (b := w) ⟨hx, hb, hml, hown, hts⟩ (c_X9_of hT (w := w) hw (n := n) (k := 1) (by first | omega | decide | assumption) (by first | omega | decide | assumption)) (cwV 2 hts gX9_clock_X9_of rfl rfl rfl hdX9_of_v ⟨Nat.le_of_ble_eq_true rfl, Nat.le_of_ble_eq_true rfl⟩) hN hL (rcv10 hN hT hw.1) rfl rfl hl.1 (Nat.le_of_ble_eq_true rfl) dX9_clock_9 (Nat.zero_le _) (Nat.zero_le _) (fun r371 H1 locs hL hqr371 => ?_)
  obtain rfl := hqr371
  refine lv_iadd hx hb dX9_clock_12 ?_
  refine gn_i (fun x372 => ?_)
  refine lv_aload_n hx hb dX9_clock_13 rfl (lv_at hl 0 rfl) ?_
  refine va_get (D := D) (ci := 9) (v := .ref f368_8) (C := RX9) (T := TX9) (N := 18) hx hb hts iX9_clock_9 hown hN.1 hP 1 rfl rfl 8 (by decide) (hts _ mX9_clock_1) (fun _ h9 => h9) rfl dX9_clock_14 ?_
  refine lv_iconst (v := 1) hx hb dX9_clock_17 (by decide) ?_
  refine ld_i (v := (g369 1)) hx hb hN hP 0 rfl (vp_in_nI (n := 1) (N := 45783) (by omega) (by omega)) (by rw [(show (1 : Int32).toNatClampNeg = 1 from nI_clamp (n := 1) (by omega))]) dX9_clock_18 ?_
  refine gn_i (fun x373 => ?_)
  refine lv_aload_n hx hb dX9_clock_19 rfl (lv_at hl 0 rfl) ?_
  refine lv_iload_n hx hb dX9_clock_20 rfl (lv_at hl 1 rfl) ?_
  refine lv_iconst (v := 2) hx hb dX9_clock_21 (by decide) ?_
  refine cv_i (As := [.int (nI n), .int 2]) (rest := [.int x373, .int x372]) (b := w) ⟨hx, hb, hml, hown, hts⟩ (c_X9_of hT (w := w) hw (n := n) (k := 2) (by first | omega | decide | assumption) (by first | omega | decide | assumption)) (cwV 2 hts gX9_clock_X9_of rfl rfl rfl hdX9_of_v ⟨Nat.le_of_ble_eq_true rfl, Nat.le_of_ble_eq_true rfl⟩) hN hL (rcv10 hN hT hw.1) rfl rfl hl.1 (Nat.le_of_ble_eq_true rfl) dX9_clock_22 (Nat.zero_le _) (Nat.zero_le _) (fun r374 H1 locs hL hqr374 => ?_)
  obtain rfl := hqr374
  refine lv_imul hx hb dX9_clock_25 ?_
  refine gn_i (fun x375 => ?_)
  refine lv_sipush (v := 1000) hx hb dX9_clock_26 (by decide) ?_
  refine lv_idiv hx hb dX9_clock_29 (by decide) ?_
  refine gn_i (fun x376 => ?_)
  refine lv_iadd hx hb dX9_clock_30 ?_
  refine gn_i (fun x377 => ?_)
  exact en_i hx hb hr hlocks hL rfl (Nat.zero_le _) (Nat.zero_le _) dX9_clock_31 (rfl)
theorem hdX9_clock_v : yX9_clock.cls = RX9 ∧ yX9_clock.cls ≠ "java/lang/invoke/MethodHandle" ∧ yX9_clock.cls ≠ "java/lang/invoke/VarHandle" ∧ (parseMethodDescriptor yX9_clock.desc).map (fun d => d.parameters.length) = some 1 := by decide +kernel
set_option maxHeartbeats 4000000 in
set_option maxRecDepth 100000 in
theorem c_X9_estimate {l : Launch} {D : va_G} {cs : Nat → ClassId} {B0 T : Nat} {κ : KM} {H0 : Heap} (hT : WT B0 D cs T κ H0) {w : Nat} (hw : T2 κ w 10 12) {n : Nat} (hn : n < 8) : KC l yX9_estimate wsX9_estimate 3 63 0 0 D cs B0 H0 [.ref w, .int (nI n)] (Qi (fun _ H => H = H0)) := by
  refine KC.of cX9_estimate 2 (some .int) (by decide) rfl (Nat.le_of_ble_eq_true rfl) ?_
  intro p e s m below meth c ls hx hb hr hml hown hts hlocks hin hN hH0 hl
  have hown : s.vm.findClass RX9 = some m.cls := hown
  have hl : lv_has ls 2 [(0, .ref w), (1, .int (nI n))] := hl
  have hL : OkL B0 [] := OkL.nil
  refine lv_aload_n hx hb dX9_estimate_0 rfl (lv_at hl 0 rfl) ?_
  refine lv_iload_n hx hb dX9_estimate_1 rfl (lv_at hl 1 rfl) ?_
  refine cv_i (As := [.int (nI n)]) (rest := []) (b := w) ⟨hx, hb, hml, hown, hts⟩ (c_X9_clock hT (w := w) hw (n := n) (by first | omega | decide | assumption)) (cwV 1 hts gX9_estimate_X9_clock rfl rfl rfl hdX9_clock_v ⟨Nat.le_of_ble_eq_true rfl, Nat.le_of_ble_eq_true rfl⟩) hN hL (rcv10 hN hT hw.1) rfl rfl hl.1 (Nat.le_of_ble_eq_true rfl) dX9_estimate_2 (Nat.zero_le _) (Nat.zero_le _) (fun r378 H1 locs hL hqr378 => ?_)
  obtain rfl := hqr378
  refine lv_aload_n hx hb dX9_estimate_5 rfl (lv_at hl 0 rfl) ?_
  refine lv_iload_n hx hb dX9_estimate_6 rfl (lv_at hl 1 rfl) ?_
  refine lv_iconst (v := 3) hx hb dX9_estimate_7 (by decide) ?_
  refine cv_i (As := [.int (nI n), .int 3]) (rest := [.int r378]) (b := w) ⟨hx, hb, hml, hown, hts⟩ (c_X9_of hT (w := w) hw (n := n) (k := 3) (by first | omega | decide | assumption) (by first | omega | decide | assumption)) (cwV 2 hts gX9_estimate_X9_of rfl rfl rfl hdX9_of_v ⟨Nat.le_of_ble_eq_true rfl, Nat.le_of_ble_eq_true rfl⟩) hN hL (rcv10 hN hT hw.1) rfl rfl hl.1 (Nat.le_of_ble_eq_true rfl) dX9_estimate_8 (Nat.zero_le _) (Nat.zero_le _) (fun r379 H1 locs hL hqr379 => ?_)
  obtain rfl := hqr379
  refine lv_iadd hx hb dX9_estimate_11 ?_
  refine gn_i (fun x380 => ?_)
  exact en_i hx hb hr hlocks hL rfl (Nat.zero_le _) (Nat.zero_le _) dX9_estimate_12 (rfl)
theorem mX9_longestDelay_1 : (.fieldLink RX9 18 "OneBeatModel" "data" "[I" : Cond) ∈ wsX9_longestDelay := List.mem_of_getElem? (i := 1) (by decide +kernel)
theorem iX9_longestDelay_9 : ∀ w ∈ wsX90, w ∈ wsX9_longestDelay := fun w h => List.mem_of_mem_drop (List.mem_of_mem_take ((show wsX90 = (wsX9_longestDelay.drop 6).take 18 by decide +kernel) ▸ h))
theorem hdX9_max_o : yX9_max.cls ≠ "java/lang/invoke/MethodHandle" ∧ yX9_max.cls ≠ "java/lang/invoke/VarHandle" ∧ (parseMethodDescriptor yX9_max.desc).map (fun d => d.parameters.length) = some 2 := by decide +kernel
set_option maxHeartbeats 4000000 in
set_option maxRecDepth 100000 in
theorem c_X9_longestDelay {l : Launch} {D : va_G} {cs : Nat → ClassId} {B0 T : Nat} {κ : KM} {H0 : Heap} (hT : WT B0 D cs T κ H0) {w : Nat} (hw : T2 κ w 10 12) : KC l yX9_longestDelay wsX9_longestDelay 1 21 0 0 D cs B0 H0 [.ref w] (Qi (fun _ H => H = H0)) := by
  refine KC.of cX9_longestDelay 3 (some .int) (by decide) rfl (Nat.le_of_ble_eq_true rfl) ?_
  intro p e s m below meth c ls hx hb hr hml hown hts hlocks hin hN hH0 hl
  have hown : s.vm.findClass RX9 = some m.cls := hown
  have hl : lv_has ls 3 [(0, .ref w)] := hl
  have hL : OkL B0 [] := OkL.nil
  refine lv_iconst (v := 0) hx hb dX9_longestDelay_0 (by decide) ?_
  refine lv_istore_n (lv' := [(1, .int 0), (0, .ref w)]) hx hb dX9_longestDelay_1 rfl hl (by decide) rfl (fun ls hl => ?_)
  refine lv_iconst (v := 0) hx hb dX9_longestDelay_2 (by decide) ?_
  refine lv_istore_n (lv' := [(2, .int 0), (1, .int 0), (0, .ref w)]) hx hb dX9_longestDelay_3 rfl hl (by decide) rfl (fun ls hl => ?_)
  refine lp_r (α := Nat × Int32) (nL := 3) (fun a9 => 64 - a9.1) (fun a9 => (a9.1 ≤ 64)) (fun a9 => [(2, .int (nI a9.1)), (1, .int a9.2), (0, .ref w)]) ?_ (0, 0) _ (by omega) (lv_sub hl [0, 1, 2] rfl)
  rintro ⟨p, x⟩ ls ih381 hp hl
  have hl : lv_has ls 3 [(2, .int (nI p)), (1, .int x), (0, .ref w)] := hl
  have hp : p ≤ 64 := hp
  refine lv_iload_n hx hb dX9_longestDelay_4 rfl (lv_at hl 0 rfl) ?_
  refine lv_bipush (v := 64) hx hb dX9_longestDelay_5 (by decide) ?_
  refine lv_icmp_ge (tgt := 30) hx hb dX9_longestDelay_7 (by decide) (fun c382 => ?_) (fun c382 => ?_)
  · have c382 : 64 ≤ p := (nI_leI (a := 64) (b := p) (by omega) (by omega)).mp c382
    refine lv_iload_n hx hb dX9_longestDelay_30 rfl (lv_at hl 1 rfl) ?_
    exact en_i hx hb hr hlocks hL rfl (Nat.zero_le _) (Nat.zero_le _) dX9_longestDelay_31 (rfl)
  · have c382 : ¬ 64 ≤ p := fun h9 => c382 ((nI_leI (a := 64) (b := p) (by omega) (by omega)).mpr h9)
    refine lv_iload_n hx hb dX9_longestDelay_10 rfl (lv_at hl 1 rfl) ?_
    refine lv_aload_n hx hb dX9_longestDelay_11 rfl (lv_at hl 2 rfl) ?_
    obtain ⟨hb383, e383, hat383, hk383⟩ := hT.o10 hw.1
    obtain ⟨f383_0, f383_1, f383_3, f383_4, f383_5, f383_6, f383_7, f383_8, f383_9, f383_10, f383_11, f383_12, f383_13, f383_14, f383_15, f383_16, f383_17, rfl, c383_2, c383_3, c383_4, c383_12, t383_1, t383_8, t383_9, c383_sd, t383_10, t383_11, t383_17⟩ := hk383
    have hP : va_P D vwCl [(w, .inr (9, [.int f383_0, .ref f383_1, .int (nI ((κ w).2.2.1)), .int (nI f383_3), .int (nI f383_4), .int f383_5, .int f383_6, .int f383_7, .ref f383_8, .ref f383_9, .ref f383_10, .ref f383_11, .int (nI f383_12), .int f383_13, .int f383_14, .int f383_15, .int f383_16, .ref f383_17]))] _ := va_P.cons hat383 va_P.nil
    refine va_get (D := D) (ci := 9) (v := .ref f383_8) (C := RX9) (T := TX9) (N := 18) hx hb hts iX9_longestDelay_9 hown hN.1 hP 0 rfl rfl 8 (by decide) (hts _ mX9_longestDelay_1) (fun _ h9 => h9) rfl dX9_longestDelay_12 ?_
    refine lv_bipush (v := 119) hx hb dX9_longestDelay_15 (by decide) ?_
    refine lv_iload_n hx hb dX9_longestDelay_17 rfl (lv_at hl 0 rfl) ?_
    refine lv_iadd hx hb dX9_longestDelay_18 ?_
    refine tp_i (nI (119 + p)) (nI_add 119 p) ?_
    obtain ⟨hb384, e384, hat384, hk384⟩ := hT.o24 t383_8.1
    obtain ⟨g384, rfl, q384⟩ := hk384
    have hP : va_P D vwCl [(f383_8, .inl (cs 0, 45783, .inl g384)), (w, .inr (9, [.int f383_0, .ref f383_1, .int (nI ((κ w).2.2.1)), .int (nI f383_3), .int (nI f383_4), .int f383_5, .int f383_6, .int f383_7, .ref f383_8, .ref f383_9, .ref f383_10, .ref f383_11, .int (nI f383_12), .int f383_13, .int f383_14, .int f383_15, .int f383_16, .ref f383_17]))] _ := va_P.cons hat384 hP
    refine ld_i (v := (g384 (119 + p))) hx hb hN hP 0 rfl (vp_in_nI (n := (119 + p)) (N := 45783) (by omega) (by omega)) (by rw [(show ((nI (119 + p)) : Int32).toNatClampNeg = (119 + p) from nI_clamp (n := (119 + p)) (by omega))]) dX9_longestDelay_19 ?_
    refine gn_i (fun x385 => ?_)
    refine cs_i (As := [.int x, .int x385]) (rest := []) ⟨hx, hb, hml, hown, hts⟩ (c_X9_max hT (x := x) (y := x385)) (va_cwS 2 hts gX9_longestDelay_X9_max rfl rfl rfl hdX9_max_o ⟨Nat.le_of_ble_eq_true rfl, Nat.le_of_ble_eq_true rfl⟩) hN hL rfl rfl hl.1 (Nat.le_of_ble_eq_true rfl) dX9_longestDelay_20 (Nat.zero_le _) (Nat.zero_le _) (fun r386 H1 locs hL hqr386 => ?_)
    obtain rfl := hqr386
    refine lv_istore_n (lv' := [(1, .int r386), (2, .int (nI p)), (0, .ref w)]) hx hb dX9_longestDelay_23 rfl hl (by decide) rfl (fun ls hl => ?_)
    refine lv_iinc (v := (nI (p + 1))) (lv' := [(2, .int (nI (p + 1))), (1, .int r386), (0, .ref w)]) hx hb dX9_longestDelay_24 hl (k := 1) rfl (nI_add _ 1) (by decide) rfl (fun ls hl => ?_)
    refine lv_goto (tgt := 4) hx hb dX9_longestDelay_27 (by decide) ?_
    exact ih381 ((p + 1), r386) _ (by show 64 - ((p + 1)) < 64 - p; omega) (by omega) (lv_sub hl [0, 1, 2] rfl)
theorem mX9_playersUp_1 : (.fieldLink RX9 18 "OneBeatModel" "data" "[I" : Cond) ∈ wsX9_playersUp := List.mem_of_getElem? (i := 1) (by decide +kernel)
theorem iX9_playersUp_9 : ∀ w ∈ wsX90, w ∈ wsX9_playersUp := fun w h => List.mem_of_mem_drop (List.mem_of_mem_take ((show wsX90 = (wsX9_playersUp.drop 10).take 18 by decide +kernel) ▸ h))
set_option maxHeartbeats 4000000 in
set_option maxRecDepth 100000 in
theorem c_X9_playersUp {l : Launch} {D : va_G} {cs : Nat → ClassId} {B0 T : Nat} {κ : KM} {H0 : Heap} (hT : WT B0 D cs T κ H0) {w : Nat} (hw : T2 κ w 10 12) : KC l yX9_playersUp wsX9_playersUp 2 42 0 0 D cs B0 H0 [.ref w] (Qi (fun _ H => H = H0)) := by
  refine KC.of cX9_playersUp 3 (some .int) (by decide) rfl (Nat.le_of_ble_eq_true rfl) ?_
  intro p e s m below meth c ls hx hb hr hml hown hts hlocks hin hN hH0 hl
  have hown : s.vm.findClass RX9 = some m.cls := hown
  have hl : lv_has ls 3 [(0, .ref w)] := hl
  have hL : OkL B0 [] := OkL.nil
  refine lv_iconst (v := 0) hx hb dX9_playersUp_0 (by decide) ?_
  refine lv_istore_n (lv' := [(1, .int 0), (0, .ref w)]) hx hb dX9_playersUp_1 rfl hl (by decide) rfl (fun ls hl => ?_)
  refine lv_iconst (v := 0) hx hb dX9_playersUp_2 (by decide) ?_
  refine lv_istore_n (lv' := [(2, .int 0), (1, .int 0), (0, .ref w)]) hx hb dX9_playersUp_3 rfl hl (by decide) rfl (fun ls hl => ?_)
  refine lp_r (α := Nat × Int32) (nL := 3) (fun a9 => 8 - a9.1) (fun a9 => (a9.1 ≤ 8)) (fun a9 => [(2, .int (nI a9.1)), (1, .int a9.2), (0, .ref w)]) ?_ (0, 0) _ (by omega) (lv_sub hl [0, 1, 2] rfl)
  rintro ⟨p, x⟩ ls ih387 hp hl
  have hl : lv_has ls 3 [(2, .int (nI p)), (1, .int x), (0, .ref w)] := hl
  have hp : p ≤ 8 := hp
  refine lv_iload_n hx hb dX9_playersUp_4 rfl (lv_at hl 0 rfl) ?_
  refine lv_aload_n hx hb dX9_playersUp_5 rfl (lv_at hl 2 rfl) ?_
  obtain ⟨hb388, e388, hat388, hk388⟩ := hT.o10 hw.1
  obtain ⟨f388_0, f388_1, f388_3, f388_4, f388_5, f388_6, f388_7, f388_8, f388_9, f388_10, f388_11, f388_12, f388_13, f388_14, f388_15, f388_16, f388_17, rfl, c388_2, c388_3, c388_4, c388_12, t388_1, t388_8, t388_9, c388_sd, t388_10, t388_11, t388_17⟩ := hk388
  have hP : va_P D vwCl [(w, .inr (9, [.int f388_0, .ref f388_1, .int (nI ((κ w).2.2.1)), .int (nI f388_3), .int (nI f388_4), .int f388_5, .int f388_6, .int f388_7, .ref f388_8, .ref f388_9, .ref f388_10, .ref f388_11, .int (nI f388_12), .int f388_13, .int f388_14, .int f388_15, .int f388_16, .ref f388_17]))] _ := va_P.cons hat388 va_P.nil
  refine va_get (D := D) (ci := 9) (v := .ref f388_8) (C := RX9) (T := TX9) (N := 18) hx hb hts iX9_playersUp_9 hown hN.1 hP 0 rfl rfl 8 (by decide) (hts _ mX9_playersUp_1) (fun _ h9 => h9) rfl dX9_playersUp_6 ?_
  refine lv_iconst (v := 0) hx hb dX9_playersUp_9 (by decide) ?_
  obtain ⟨hb389, e389, hat389, hk389⟩ := hT.o24 t388_8.1
  obtain ⟨g389, rfl, q389⟩ := hk389
  have hP : va_P D vwCl [(f388_8, .inl (cs 0, 45783, .inl g389)), (w, .inr (9, [.int f388_0, .ref f388_1, .int (nI ((κ w).2.2.1)), .int (nI f388_3), .int (nI f388_4), .int f388_5, .int f388_6, .int f388_7, .ref f388_8, .ref f388_9, .ref f388_10, .ref f388_11, .int (nI f388_12), .int f388_13, .int f388_14, .int f388_15, .int f388_16, .ref f388_17]))] _ := va_P.cons hat389 hP
  refine ld_i (v := (g389 0)) hx hb hN hP 0 rfl (vp_in_nI (n := 0) (N := 45783) (by omega) (by omega)) (by rw [(show (0 : Int32).toNatClampNeg = 0 from nI_clamp (n := 0) (by omega))]) dX9_playersUp_10 ?_
  obtain ⟨n390, hn390, en390⟩ := q389.1
  refine tp_i (nI n390) en390 ?_
  refine lv_icmp_ge (tgt := 29) hx hb dX9_playersUp_11 (by decide) (fun c391 => ?_) (fun c391 => ?_)
  · have c391 : n390 ≤ p := (nI_leI (a := n390) (b := p) (by omega) (by omega)).mp c391
    refine lv_iload_n hx hb dX9_playersUp_29 rfl (lv_at hl 1 rfl) ?_
    exact en_i hx hb hr hlocks hL rfl (Nat.zero_le _) (Nat.zero_le _) dX9_playersUp_30 (rfl)
  · have c391 : ¬ n390 ≤ p := fun h9 => c391 ((nI_leI (a := n390) (b := p) (by omega) (by omega)).mpr h9)
    refine lv_iload_n hx hb dX9_playersUp_14 rfl (lv_at hl 1 rfl) ?_
    refine lv_aload_n hx hb dX9_playersUp_15 rfl (lv_at hl 2 rfl) ?_
    refine lv_iload_n hx hb dX9_playersUp_16 rfl (lv_at hl 0 rfl) ?_
    refine lv_iconst (v := 0) hx hb dX9_playersUp_17 (by decide) ?_
    refine cv_i (As := [.int (nI p), .int 0]) (rest := [.int x]) (b := w) ⟨hx, hb, hml, hown, hts⟩ (c_X9_of hT (w := w) hw (n := p) (k := 0) (by first | omega | decide | assumption) (by first | omega | decide | assumption)) (cwV 2 hts gX9_playersUp_X9_of rfl rfl rfl hdX9_of_v ⟨Nat.le_of_ble_eq_true rfl, Nat.le_of_ble_eq_true rfl⟩) hN hL (rcv10 hN hT hw.1) rfl rfl hl.1 (Nat.le_of_ble_eq_true rfl) dX9_playersUp_18 (Nat.zero_le _) (Nat.zero_le _) (fun r392 H1 locs hL hqr392 => ?_)
    obtain rfl := hqr392
    refine lv_iadd hx hb dX9_playersUp_21 ?_
    refine gn_i (fun x393 => ?_)
    refine lv_istore_n (lv' := [(1, .int x393), (2, .int (nI p)), (0, .ref w)]) hx hb dX9_playersUp_22 rfl hl (by decide) rfl (fun ls hl => ?_)
    refine lv_iinc (v := (nI (p + 1))) (lv' := [(2, .int (nI (p + 1))), (1, .int x393), (0, .ref w)]) hx hb dX9_playersUp_23 hl (k := 1) rfl (nI_add _ 1) (by decide) rfl (fun ls hl => ?_)
    refine lv_goto (tgt := 4) hx hb dX9_playersUp_26 (by decide) ?_
    exact ih387 ((p + 1), x393) _ (by show 8 - ((p + 1)) < 8 - p; omega) (by omega) (lv_sub hl [0, 1, 2] rfl)
theorem mX9_limited_1 : (.constantLong RX9 189 (1000000) : Cond) ∈ wsX9_limited := List.mem_of_getElem? (i := 1) (by decide +kernel)
theorem mX9_limited_2 : (.constantLong RX9 191 (-1000000) : Cond) ∈ wsX9_limited := List.mem_of_getElem? (i := 2) (by decide +kernel)
set_option maxHeartbeats 4000000 in
set_option maxRecDepth 100000 in
theorem c_X9_limited {l : Launch} {D : va_G} {cs : Nat → ClassId} {B0 T : Nat} {κ : KM} {H0 : Heap} (hT : WT B0 D cs T κ H0) {l_x : Int64} : KC l yX9_limited wsX9_limited 0 0 0 0 D cs B0 H0 [.long l_x] (Ql (fun _ H => H = H0)) := by
  refine KC.of cX9_limited 2 (some .long) (by decide) rfl (Nat.le_of_ble_eq_true rfl) ?_
  intro p e s m below meth c ls hx hb hr hml hown hts hlocks hin hN hH0 hl
  have hown : s.vm.findClass RX9 = some m.cls := hown
  have hl : lv_has ls 2 [(0, .long l_x)] := hl
  have hL : OkL B0 [] := OkL.nil
  refine lv_lload_n hx hb dX9_limited_0 rfl (lv_at hl 0 rfl) ?_
  refine lv_ldc2 (v := 1000000) hx hb hown (hts _ mX9_limited_1) dX9_limited_1 ?_
  refine W.lcmp hx hb dX9_limited_4 ?_
  refine gn_i (fun x394 => ?_)
  refine lv_if_le (tgt := 14) hx hb dX9_limited_5 (by decide) (fun c395 => ?_) (fun c395 => ?_)
  · refine lv_lload_n hx hb dX9_limited_14 rfl (lv_at hl 0 rfl) ?_
    refine lv_ldc2 (v := (-1000000)) hx hb hown (hts _ mX9_limited_2) dX9_limited_15 ?_
    refine W.lcmp hx hb dX9_limited_18 ?_
    refine gn_i (fun x396 => ?_)
    refine lv_if_ge (tgt := 28) hx hb dX9_limited_19 (by decide) (fun c397 => ?_) (fun c397 => ?_)
    · refine lv_lload_n hx hb dX9_limited_28 rfl (lv_at hl 0 rfl) ?_
      exact en_l hx hb hr hlocks hL (Nat.zero_le _) (Nat.zero_le _) dX9_limited_29 (rfl)
    · refine lv_ldc2 (v := (-1000000)) hx hb hown (hts _ mX9_limited_2) dX9_limited_22 ?_
      refine lv_goto (tgt := 29) hx hb dX9_limited_25 (by decide) ?_
      exact en_l hx hb hr hlocks hL (Nat.zero_le _) (Nat.zero_le _) dX9_limited_29 (rfl)
  · refine lv_ldc2 (v := 1000000) hx hb hown (hts _ mX9_limited_1) dX9_limited_8 ?_
    refine lv_goto (tgt := 29) hx hb dX9_limited_11 (by decide) ?_
    exact en_l hx hb hr hlocks hL (Nat.zero_le _) (Nat.zero_le _) dX9_limited_29 (rfl)
theorem hdX9_limited_o : yX9_limited.cls ≠ "java/lang/invoke/MethodHandle" ∧ yX9_limited.cls ≠ "java/lang/invoke/VarHandle" ∧ (parseMethodDescriptor yX9_limited.desc).map (fun d => d.parameters.length) = some 1 := by decide +kernel
set_option maxHeartbeats 4000000 in
set_option maxRecDepth 100000 in
theorem c_X9_operate {l : Launch} {D : va_G} {cs : Nat → ClassId} {B0 T : Nat} {κ : KM} {H0 : Heap} (hT : WT B0 D cs T κ H0) {x : Int32} {l_x l_y : Int64} : KC l yX9_operate wsX9_operate 1 21 0 0 D cs B0 H0 [.int x, .long l_x, .long l_y] (Ql (fun _ H => H = H0)) := by
  refine KC.of cX9_operate 5 (some .long) (by decide) rfl (Nat.le_of_ble_eq_true rfl) ?_
  intro p e s m below meth c ls hx hb hr hml hown hts hlocks hin hN hH0 hl
  have hown : s.vm.findClass RX9 = some m.cls := hown
  have hl : lv_has ls 5 [(0, .int x), (1, .long l_x), (3, .long l_y)] := hl
  have hL : OkL B0 [] := OkL.nil
  refine lv_iload_n hx hb dX9_operate_0 rfl (lv_at hl 0 rfl) ?_
  refine lv_iconst (v := 5) hx hb dX9_operate_1 (by decide) ?_
  refine lv_icmp_ne (tgt := 22) hx hb dX9_operate_2 (by decide) (fun c398 => ?_) (fun c398 => ?_)
  · refine lv_iload_n hx hb dX9_operate_22 rfl (lv_at hl 0 rfl) ?_
    refine lv_iconst (v := 2) hx hb dX9_operate_23 (by decide) ?_
    refine lv_icmp_ne (tgt := 33) hx hb dX9_operate_24 (by decide) (fun c399 => ?_) (fun c399 => ?_)
    · refine lv_iload_n hx hb dX9_operate_33 rfl (lv_at hl 0 rfl) ?_
      refine lv_iconst (v := 3) hx hb dX9_operate_34 (by decide) ?_
      refine lv_icmp_ne (tgt := 44) hx hb dX9_operate_35 (by decide) (fun c400 => ?_) (fun c400 => ?_)
      · refine lv_lload_n hx hb dX9_operate_44 rfl (lv_at hl 1 rfl) ?_
        refine lv_lload_n hx hb dX9_operate_45 rfl (lv_at hl 2 rfl) ?_
        refine lv_lmul hx hb dX9_operate_46 ?_
        refine gn_l (fun y401 => ?_)
        refine cs_l (As := [.long y401]) (rest := []) ⟨hx, hb, hml, hown, hts⟩ (c_X9_limited hT (l_x := y401)) (va_cwS 1 hts gX9_operate_X9_limited rfl rfl rfl hdX9_limited_o ⟨Nat.le_of_ble_eq_true rfl, Nat.le_of_ble_eq_true rfl⟩) hN hL rfl rfl hl.1 (Nat.le_of_ble_eq_true rfl) dX9_operate_47 (Nat.zero_le _) (Nat.zero_le _) (fun r402 H1 locs hL hqr402 => ?_)
        obtain rfl := hqr402
        exact en_l hx hb hr hlocks hL (Nat.zero_le _) (Nat.zero_le _) dX9_operate_50 (rfl)
      · refine lv_lload_n hx hb dX9_operate_38 rfl (lv_at hl 1 rfl) ?_
        refine lv_lload_n hx hb dX9_operate_39 rfl (lv_at hl 2 rfl) ?_
        refine lv_lsub hx hb dX9_operate_40 ?_
        refine gn_l (fun y403 => ?_)
        refine lv_goto (tgt := 47) hx hb dX9_operate_41 (by decide) ?_
        refine cs_l (As := [.long y403]) (rest := []) ⟨hx, hb, hml, hown, hts⟩ (c_X9_limited hT (l_x := y403)) (va_cwS 1 hts gX9_operate_X9_limited rfl rfl rfl hdX9_limited_o ⟨Nat.le_of_ble_eq_true rfl, Nat.le_of_ble_eq_true rfl⟩) hN hL rfl rfl hl.1 (Nat.le_of_ble_eq_true rfl) dX9_operate_47 (Nat.zero_le _) (Nat.zero_le _) (fun r404 H1 locs hL hqr404 => ?_)
        obtain rfl := hqr404
        exact en_l hx hb hr hlocks hL (Nat.zero_le _) (Nat.zero_le _) dX9_operate_50 (rfl)
    · refine lv_lload_n hx hb dX9_operate_27 rfl (lv_at hl 1 rfl) ?_
      refine lv_lload_n hx hb dX9_operate_28 rfl (lv_at hl 2 rfl) ?_
      refine lv_ladd hx hb dX9_operate_29 ?_
      refine gn_l (fun y405 => ?_)
      refine lv_goto (tgt := 47) hx hb dX9_operate_30 (by decide) ?_
      refine cs_l (As := [.long y405]) (rest := []) ⟨hx, hb, hml, hown, hts⟩ (c_X9_limited hT (l_x := y405)) (va_cwS 1 hts gX9_operate_X9_limited rfl rfl rfl hdX9_limited_o ⟨Nat.le_of_ble_eq_true rfl, Nat.le_of_ble_eq_true rfl⟩) hN hL rfl rfl hl.1 (Nat.le_of_ble_eq_true rfl) dX9_operate_47 (Nat.zero_le _) (Nat.zero_le _) (fun r406 H1 locs hL hqr406 => ?_)
      obtain rfl := hqr406
      exact en_l hx hb hr hlocks hL (Nat.zero_le _) (Nat.zero_le _) dX9_operate_50 (rfl)
  · refine lv_lload_n hx hb dX9_operate_5 rfl (lv_at hl 2 rfl) ?_
    refine lv_lconst (v := 0) hx hb dX9_operate_6 (by decide) ?_
    refine W.lcmp hx hb dX9_operate_7 ?_
    refine lv_if_ne (tgt := 15) hx hb dX9_operate_8 (by decide) (fun c407 => ?_) (fun c407 => ?_)
    · refine lv_lload_n hx hb dX9_operate_15 rfl (lv_at hl 1 rfl) ?_
      refine lv_lload_n hx hb dX9_operate_16 rfl (lv_at hl 2 rfl) ?_
      refine lv_ldiv hx hb dX9_operate_17 (fun h9 => c407 (by rw [h9]; decide)) ?_
      refine gn_l (fun y408 => ?_)
      refine cs_l (As := [.long y408]) (rest := []) ⟨hx, hb, hml, hown, hts⟩ (c_X9_limited hT (l_x := y408)) (va_cwS 1 hts gX9_operate_X9_limited rfl rfl rfl hdX9_limited_o ⟨Nat.le_of_ble_eq_true rfl, Nat.le_of_ble_eq_true rfl⟩) hN hL rfl rfl hl.1 (Nat.le_of_ble_eq_true rfl) dX9_operate_18 (Nat.zero_le _) (Nat.zero_le _) (fun r409 H1 locs hL hqr409 => ?_)
      obtain rfl := hqr409
      exact en_l hx hb hr hlocks hL (Nat.zero_le _) (Nat.zero_le _) dX9_operate_21 (rfl)
    · refine lv_lconst (v := 0) hx hb dX9_operate_11 (by decide) ?_
      refine lv_goto (tgt := 21) hx hb dX9_operate_12 (by decide) ?_
      exact en_l hx hb hr hlocks hL (Nat.zero_le _) (Nat.zero_le _) dX9_operate_21 (rfl)
theorem hdX9_playersUp_v : yX9_playersUp.cls = RX9 ∧ yX9_playersUp.cls ≠ "java/lang/invoke/MethodHandle" ∧ yX9_playersUp.cls ≠ "java/lang/invoke/VarHandle" ∧ (parseMethodDescriptor yX9_playersUp.desc).map (fun d => d.parameters.length) = some 0 := by decide +kernel
theorem hdX9_longestDelay_v : yX9_longestDelay.cls = RX9 ∧ yX9_longestDelay.cls ≠ "java/lang/invoke/MethodHandle" ∧ yX9_longestDelay.cls ≠ "java/lang/invoke/VarHandle" ∧ (parseMethodDescriptor yX9_longestDelay.desc).map (fun d => d.parameters.length) = some 0 := by decide +kernel
theorem mX9_fact_1 : (.fieldLink RX9 18 "OneBeatModel" "data" "[I" : Cond) ∈ wsX9_fact := List.mem_of_getElem? (i := 1) (by decide +kernel)
theorem iX9_fact_9 : ∀ w ∈ wsX90, w ∈ wsX9_fact := fun w h => List.mem_of_mem_drop (List.mem_of_mem_take ((show wsX90 = (wsX9_fact.drop 21).take 18 by decide +kernel) ▸ h))
set_option maxHeartbeats 4000000 in
set_option maxRecDepth 100000 in
theorem c_X9_fact {l : Launch} {D : va_G} {cs : Nat → ClassId} {B0 T : Nat} {κ : KM} {H0 : Heap} (hT : WT B0 D cs T κ H0) {w : Nat} (hw : T2 κ w 10 12) {x : Int32} {y : Int32} : KC l yX9_fact wsX9_fact 3 64 0 0 D cs B0 H0 [.ref w, .int x, .int y] (Qi (fun _ H => H = H0)) := by
  refine KC.of cX9_fact 3 (some .int) (by decide) rfl (Nat.le_of_ble_eq_true rfl) ?_
  intro p e s m below meth c ls hx hb hr hml hown hts hlocks hin hN hH0 hl
  have hown : s.vm.findClass RX9 = some m.cls := hown
  have hl : lv_has ls 3 [(0, .ref w), (1, .int x), (2, .int y)] := hl
  have hL : OkL B0 [] := OkL.nil
  refine lv_iload_n hx hb dX9_fact_0 rfl (lv_at hl 1 rfl) ?_
  refine lv_if_ne (tgt := 13) hx hb dX9_fact_1 (by decide) (fun c410 => ?_) (fun c410 => ?_)
  · refine lv_iload_n hx hb dX9_fact_13 rfl (lv_at hl 1 rfl) ?_
    refine lv_iconst (v := 1) hx hb dX9_fact_14 (by decide) ?_
    refine lv_icmp_ne (tgt := 25) hx hb dX9_fact_15 (by decide) (fun c411 => ?_) (fun c411 => ?_)
    · refine lv_iload_n hx hb dX9_fact_25 rfl (lv_at hl 1 rfl) ?_
      refine lv_iconst (v := 2) hx hb dX9_fact_26 (by decide) ?_
      refine lv_icmp_ne (tgt := 37) hx hb dX9_fact_27 (by decide) (fun c412 => ?_) (fun c412 => ?_)
      · refine lv_iload_n hx hb dX9_fact_37 rfl (lv_at hl 2 rfl) ?_
        exact en_i hx hb hr hlocks hL rfl (Nat.zero_le _) (Nat.zero_le _) dX9_fact_38 (rfl)
      · refine lv_aload_n hx hb dX9_fact_30 rfl (lv_at hl 0 rfl) ?_
        refine cv_i (As := []) (rest := []) (b := w) ⟨hx, hb, hml, hown, hts⟩ (c_X9_playersUp hT (w := w) hw) (cwV 0 hts gX9_fact_X9_playersUp rfl rfl rfl hdX9_playersUp_v ⟨Nat.le_of_ble_eq_true rfl, Nat.le_of_ble_eq_true rfl⟩) hN hL (rcv10 hN hT hw.1) rfl rfl hl.1 (Nat.le_of_ble_eq_true rfl) dX9_fact_31 (Nat.zero_le _) (Nat.zero_le _) (fun r413 H1 locs hL hqr413 => ?_)
        obtain rfl := hqr413
        refine lv_goto (tgt := 38) hx hb dX9_fact_34 (by decide) ?_
        exact en_i hx hb hr hlocks hL rfl (Nat.zero_le _) (Nat.zero_le _) dX9_fact_38 (rfl)
    · refine lv_aload_n hx hb dX9_fact_18 rfl (lv_at hl 0 rfl) ?_
      refine cv_i (As := []) (rest := []) (b := w) ⟨hx, hb, hml, hown, hts⟩ (c_X9_longestDelay hT (w := w) hw) (cwV 0 hts gX9_fact_X9_longestDelay rfl rfl rfl hdX9_longestDelay_v ⟨Nat.le_of_ble_eq_true rfl, Nat.le_of_ble_eq_true rfl⟩) hN hL (rcv10 hN hT hw.1) rfl rfl hl.1 (Nat.le_of_ble_eq_true rfl) dX9_fact_19 (Nat.zero_le _) (Nat.zero_le _) (fun r414 H1 locs hL hqr414 => ?_)
      obtain rfl := hqr414
      refine lv_goto (tgt := 38) hx hb dX9_fact_22 (by decide) ?_
      exact en_i hx hb hr hlocks hL rfl (Nat.zero_le _) (Nat.zero_le _) dX9_fact_38 (rfl)
  · refine lv_aload_n hx hb dX9_fact_4 rfl (lv_at hl 0 rfl) ?_
    obtain ⟨hb415, e415, hat415, hk415⟩ := hT.o10 hw.1
    obtain ⟨f415_0, f415_1, f415_3, f415_4, f415_5, f415_6, f415_7, f415_8, f415_9, f415_10, f415_11, f415_12, f415_13, f415_14, f415_15, f415_16, f415_17, rfl, c415_2, c415_3, c415_4, c415_12, t415_1, t415_8, t415_9, c415_sd, t415_10, t415_11, t415_17⟩ := hk415
    have hP : va_P D vwCl [(w, .inr (9, [.int f415_0, .ref f415_1, .int (nI ((κ w).2.2.1)), .int (nI f415_3), .int (nI f415_4), .int f415_5, .int f415_6, .int f415_7, .ref f415_8, .ref f415_9, .ref f415_10, .ref f415_11, .int (nI f415_12), .int f415_13, .int f415_14, .int f415_15, .int f415_16, .ref f415_17]))] _ := va_P.cons hat415 va_P.nil
    refine va_get (D := D) (ci := 9) (v := .ref f415_8) (C := RX9) (T := TX9) (N := 18) hx hb hts iX9_fact_9 hown hN.1 hP 0 rfl rfl 8 (by decide) (hts _ mX9_fact_1) (fun _ h9 => h9) rfl dX9_fact_5 ?_
    refine lv_iconst (v := 0) hx hb dX9_fact_8 (by decide) ?_
    obtain ⟨hb416, e416, hat416, hk416⟩ := hT.o24 t415_8.1
    obtain ⟨g416, rfl, q416⟩ := hk416
    have hP : va_P D vwCl [(f415_8, .inl (cs 0, 45783, .inl g416)), (w, .inr (9, [.int f415_0, .ref f415_1, .int (nI ((κ w).2.2.1)), .int (nI f415_3), .int (nI f415_4), .int f415_5, .int f415_6, .int f415_7, .ref f415_8, .ref f415_9, .ref f415_10, .ref f415_11, .int (nI f415_12), .int f415_13, .int f415_14, .int f415_15, .int f415_16, .ref f415_17]))] _ := va_P.cons hat416 hP
    refine ld_i (v := (g416 0)) hx hb hN hP 0 rfl (vp_in_nI (n := 0) (N := 45783) (by omega) (by omega)) (by rw [(show (0 : Int32).toNatClampNeg = 0 from nI_clamp (n := 0) (by omega))]) dX9_fact_9 ?_
    obtain ⟨n417, hn417, en417⟩ := q416.1
    refine tp_i (nI n417) en417 ?_
    refine lv_goto (tgt := 38) hx hb dX9_fact_10 (by decide) ?_
    exact en_i hx hb hr hlocks hL rfl (Nat.zero_le _) (Nat.zero_le _) dX9_fact_38 (rfl)
theorem mX9_send_1 : (.fieldLink RX9 18 "OneBeatModel" "data" "[I" : Cond) ∈ wsX9_send := List.mem_of_getElem? (i := 1) (by decide +kernel)
theorem iX9_send_9 : ∀ w ∈ wsX90, w ∈ wsX9_send := fun w h => List.mem_of_mem_drop (List.mem_of_mem_take ((show wsX90 = (wsX9_send.drop 6).take 18 by decide +kernel) ▸ h))
theorem hdX9_linkAt_o : yX9_linkAt.cls ≠ "java/lang/invoke/MethodHandle" ∧ yX9_linkAt.cls ≠ "java/lang/invoke/VarHandle" ∧ (parseMethodDescriptor yX9_linkAt.desc).map (fun d => d.parameters.length) = some 2 := by decide +kernel
set_option maxHeartbeats 4000000 in
set_option maxRecDepth 100000 in
theorem c_X9_send {l : Launch} {D : va_G} {cs : Nat → ClassId} {B0 T : Nat} {κ : KM} {H0 : Heap} (hT : WT B0 D cs T κ H0) {w : Nat} (hw : T2 κ w 10 12) {x : Nat} (hx : x < 6) {n : Nat} (hn : n < 8) {k : Nat} (hk : k < 8) {y : Int32} {z : Int32} {u : Int32} : KC l yX9_send wsX9_send 1 21 0 0 D cs B0 H0 [.ref w, .int (nI x), .int (nI n), .int (nI k), .int y, .int z, .int u] (Qi (fun r H => WT B0 D cs T κ H ∧ Fr B0 [12] κ H0 H ∧ (r = 0 ∨ r = 1))) := by
  refine KC.of cX9_send 10 (some .boolean) (by decide) rfl (Nat.le_of_ble_eq_true rfl) ?_
  intro p e s m below meth c ls hx hb hr hml hown hts hlocks hin hN hH0 hl
  have hown : s.vm.findClass RX9 = some m.cls := hown
  have hl : lv_has ls 10 [(0, .ref w), (1, .int (nI x)), (2, .int (nI n)), (3, .int (nI k)), (4, .int y), (5, .int z), (6, .int u)] := hl
  have hL : OkL B0 [] := OkL.nil
  have hF : Fr B0 [12] κ H0 H0 := Fr.rf
  refine lv_aload_n hx hb dX9_send_0 rfl (lv_at hl 0 rfl) ?_
  obtain ⟨hb418, e418, hat418, hk418⟩ := hT.o10 hw.1
  obtain ⟨f418_0, f418_1, f418_3, f418_4, f418_5, f418_6, f418_7, f418_8, f418_9, f418_10, f418_11, f418_12, f418_13, f418_14, f418_15, f418_16, f418_17, rfl, c418_2, c418_3, c418_4, c418_12, t418_1, t418_8, t418_9, c418_sd, t418_10, t418_11, t418_17⟩ := hk418
  have hP : va_P D vwCl [(w, .inr (9, [.int f418_0, .ref f418_1, .int (nI ((κ w).2.2.1)), .int (nI f418_3), .int (nI f418_4), .int f418_5, .int f418_6, .int f418_7, .ref f418_8, .ref f418_9, .ref f418_10, .ref f418_11, .int (nI f418_12), .int f418_13, .int f418_14, .int f418_15, .int f418_16, .ref f418_17]))] _ := va_P.cons hat418 va_P.nil
  refine va_get (D := D) (ci := 9) (v := .ref f418_8) (C := RX9) (T := TX9) (N := 18) hx hb hts iX9_send_9 hown hN.1 hP 0 rfl rfl 8 (by decide) (hts _ mX9_send_1) (fun _ h9 => h9) rfl dX9_send_1 ?_
  refine lv_iload_n hx hb dX9_send_4 rfl (lv_at hl 2 rfl) ?_
  refine lv_iload_n hx hb dX9_send_5 rfl (lv_at hl 3 rfl) ?_
  refine cs_i (As := [.int (nI n), .int (nI k)]) (rest := [.ref f418_8]) ⟨hx, hb, hml, hown, hts⟩ (c_X9_linkAt hT (n := n) (k := k) (by first | omega | decide | assumption) (by first | omega | decide | assumption)) (va_cwS 2 hts gX9_send_X9_linkAt rfl rfl rfl hdX9_linkAt_o ⟨Nat.le_of_ble_eq_true rfl, Nat.le_of_ble_eq_true rfl⟩) hN hL rfl rfl hl.1 (Nat.le_of_ble_eq_true rfl) dX9_send_6 (Nat.zero_le _) (Nat.zero_le _) (fun r419 H1 locs hL hqr419 => ?_)
  obtain ⟨rfl, hqr419⟩ := hqr419
  obtain rfl := hqr419
  obtain ⟨hb420, e420, hat420, hk420⟩ := hT.o24 t418_8.1
  obtain ⟨g420, rfl, q420⟩ := hk420
  have hP : va_P D vwCl [(f418_8, .inl (cs 0, 45783, .inl g420)), (w, .inr (9, [.int f418_0, .ref f418_1, .int (nI ((κ w).2.2.1)), .int (nI f418_3), .int (nI f418_4), .int f418_5, .int f418_6, .int f418_7, .ref f418_8, .ref f418_9, .ref f418_10, .ref f418_11, .int (nI f418_12), .int f418_13, .int f418_14, .int f418_15, .int f418_16, .ref f418_17]))] _ := va_P.cons hat420 hP
  refine ld_i (v := (g420 (119 + 8 * n + k))) hx hb hN hP 0 rfl (vp_in_nI (n := (119 + 8 * n + k)) (N := 45783) (by omega) (by omega)) (by rw [(show ((nI (119 + 8 * n + k)) : Int32).toNatClampNeg = (119 + 8 * n + k) from nI_clamp (n := (119 + 8 * n + k)) (by omega))]) dX9_send_9 ?_
  refine gn_i (fun x421 => ?_)
  refine lv_istore (lv' := [(7, .int x421), (0, .ref w), (1, .int (nI x)), (2, .int (nI n)), (3, .int (nI k)), (4, .int y), (5, .int z), (6, .int u)]) hx hb dX9_send_10 hl (by decide) rfl (fun ls hl => ?_)
  refine lv_aload_n hx hb dX9_send_12 rfl (lv_at hl 1 rfl) ?_
  refine va_get (D := D) (ci := 9) (v := .ref f418_8) (C := RX9) (T := TX9) (N := 18) hx hb hts iX9_send_9 hown hN.1 hP 1 rfl rfl 8 (by decide) (hts _ mX9_send_1) (fun _ h9 => h9) rfl dX9_send_13 ?_
  refine lv_iconst (v := 4) hx hb dX9_send_16 (by decide) ?_
  refine ld_i (v := (g420 4)) hx hb hN hP 0 rfl (vp_in_nI (n := 4) (N := 45783) (by omega) (by omega)) (by rw [(show (4 : Int32).toNatClampNeg = 4 from nI_clamp (n := 4) (by omega))]) dX9_send_17 ?_
  refine gn_i (fun x422 => ?_)
  refine lv_istore (lv' := [(8, .int x422), (7, .int x421), (0, .ref w), (1, .int (nI x)), (2, .int (nI n)), (3, .int (nI k)), (4, .int y), (5, .int z), (6, .int u)]) hx hb dX9_send_18 hl (by decide) rfl (fun ls hl => ?_)
  refine lv_aload_n hx hb dX9_send_20 rfl (lv_at hl 2 rfl) ?_
  refine va_get (D := D) (ci := 9) (v := .ref f418_8) (C := RX9) (T := TX9) (N := 18) hx hb hts iX9_send_9 hown hN.1 hP 1 rfl rfl 8 (by decide) (hts _ mX9_send_1) (fun _ h9 => h9) rfl dX9_send_21 ?_
  refine lv_iconst (v := 4) hx hb dX9_send_24 (by decide) ?_
  refine lv_dup2_11 hx hb dX9_send_25 rfl rfl ?_
  refine ld_i (v := (g420 4)) hx hb hN hP 0 rfl (vp_in_nI (n := 4) (N := 45783) (by omega) (by omega)) (by rw [(show (4 : Int32).toNatClampNeg = 4 from nI_clamp (n := 4) (by omega))]) dX9_send_26 ?_
  refine gn_i (fun x423 => ?_)
  refine lv_iconst (v := 1) hx hb dX9_send_27 (by decide) ?_
  refine lv_iadd hx hb dX9_send_28 ?_
  refine gn_i (fun x424 => ?_)
  have hB : Bx B0 D _ [(f418_8, .inl (cs 0, 45783, .inl g420)), (w, .inr (9, [.int f418_0, .ref f418_1, .int (nI ((κ w).2.2.1)), .int (nI f418_3), .int (nI f418_4), .int f418_5, .int f418_6, .int f418_7, .ref f418_8, .ref f418_9, .ref f418_10, .ref f418_11, .int (nI f418_12), .int f418_13, .int f418_14, .int f418_15, .int f418_16, .ref f418_17]))] [] _ _ := Bx.of (fun a => (κ a).1) hL hP (fa_c hb420 (fa_c hb418 fa_n)) (by simp only [List.map_cons, List.map_nil, t418_8.1, hw.1]; decide)
  refine b_i hx hb hN hB 0 rfl (vp_in_nI (n := 4) (N := 45783) (by omega) (by omega)) (.inl rfl) dX9_send_29 (fun H locs hB => ?_)
  rw [(show (4 : Int32).toNatClampNeg = 4 from nI_clamp (n := 4) (by omega))] at hB
  have hB : Bx B0 D _ [(f418_8, .inl (cs 0, 45783, .inl (upd g420 4 x424))), (w, .inr (9, [.int f418_0, .ref f418_1, .int (nI ((κ w).2.2.1)), .int (nI f418_3), .int (nI f418_4), .int f418_5, .int f418_6, .int f418_7, .ref f418_8, .ref f418_9, .ref f418_10, .ref f418_11, .int (nI f418_12), .int f418_13, .int f418_14, .int f418_15, .int f418_16, .ref f418_17]))] [f418_8] _ _ := hB
  have z425 := DOK.sf q420 (k := 4) (by omega) (x := x424)
  refine lv_iload hx hb dX9_send_30 (lv_at hl 1 rfl) ?_
  refine lv_if_le (tgt := 47) hx hb dX9_send_32 (by decide) (fun c426 => ?_) (fun c426 => ?_)
  · refine lv_aload_n hx hb dX9_send_47 rfl (lv_at hl 2 rfl) ?_
    refine va_get (D := D) (ci := 9) (v := .ref f418_8) (C := RX9) (T := TX9) (N := 18) hx hb hts iX9_send_9 hown hN.1 hB.1 1 rfl rfl 8 (by decide) (hts _ mX9_send_1) (fun _ h9 => h9) rfl dX9_send_48 ?_
    refine lv_iconst (v := 5) hx hb dX9_send_51 (by decide) ?_
    refine lv_dup2_11 hx hb dX9_send_52 rfl rfl ?_
    refine ld_i (v := ((upd g420 4 x424) 5)) hx hb hN hB.1 0 rfl (vp_in_nI (n := 5) (N := 45783) (by omega) (by omega)) (by rw [(show (5 : Int32).toNatClampNeg = 5 from nI_clamp (n := 5) (by omega))]) dX9_send_53 ?_
    refine gn_i (fun x427 => ?_)
    refine lv_iconst (v := 1) hx hb dX9_send_54 (by decide) ?_
    refine lv_iadd hx hb dX9_send_55 ?_
    refine gn_i (fun x428 => ?_)
    refine b_i hx hb hN hB 0 rfl (vp_in_nI (n := 5) (N := 45783) (by omega) (by omega)) (.inr ⟨rfl, List.mem_of_getElem? (i := 0) rfl⟩) dX9_send_56 (fun H locs hB => ?_)
    rw [(show (5 : Int32).toNatClampNeg = 5 from nI_clamp (n := 5) (by omega))] at hB
    have hB : Bx B0 D _ [(f418_8, .inl (cs 0, 45783, .inl (upd (upd g420 4 x424) 5 x428))), (w, .inr (9, [.int f418_0, .ref f418_1, .int (nI ((κ w).2.2.1)), .int (nI f418_3), .int (nI f418_4), .int f418_5, .int f418_6, .int f418_7, .ref f418_8, .ref f418_9, .ref f418_10, .ref f418_11, .int (nI f418_12), .int f418_13, .int f418_14, .int f418_15, .int f418_16, .ref f418_17]))] [f418_8] _ _ := hB
    have z429 := DOK.sf z425 (k := 5) (by omega) (x := x428)
    refine lv_iconst (v := 0) hx hb dX9_send_57 (by decide) ?_
    have hT : WT B0 D cs T κ _ := hT.close hB ⟨⟨0, _, rfl, ok_24 t418_8.1 ⟨_, rfl, z429⟩⟩, trivial⟩
    have hF : Fr B0 [12] κ H0 _ := hF.close hB (fa_c (by simp [t418_8.2]) fa_n)
    have hL : OkL B0 _ := hB.2.2.2.2.2
    have hP : va_P D vwCl [(f418_8, .inl (cs 0, 45783, .inl (upd (upd g420 4 x424) 5 x428))), (w, .inr (9, [.int f418_0, .ref f418_1, .int (nI ((κ w).2.2.1)), .int (nI f418_3), .int (nI f418_4), .int f418_5, .int f418_6, .int f418_7, .ref f418_8, .ref f418_9, .ref f418_10, .ref f418_11, .int (nI f418_12), .int f418_13, .int f418_14, .int f418_15, .int f418_16, .ref f418_17]))] _ := hB.1
    exact en_i hx hb hr hlocks hL rfl (Nat.zero_le _) (Nat.zero_le _) dX9_send_58 (⟨hT, hF, Or.inl rfl⟩)
  · refine lv_aload_n hx hb dX9_send_35 rfl (lv_at hl 2 rfl) ?_
    refine va_get (D := D) (ci := 9) (v := .ref f418_8) (C := RX9) (T := TX9) (N := 18) hx hb hts iX9_send_9 hown hN.1 hB.1 1 rfl rfl 8 (by decide) (hts _ mX9_send_1) (fun _ h9 => h9) rfl dX9_send_36 ?_
    refine lv_iconst (v := 3) hx hb dX9_send_39 (by decide) ?_
    refine ld_i (v := ((upd g420 4 x424) 3)) hx hb hN hB.1 0 rfl (vp_in_nI (n := 3) (N := 45783) (by omega) (by omega)) (by rw [(show (3 : Int32).toNatClampNeg = 3 from nI_clamp (n := 3) (by omega))]) dX9_send_40 ?_
    obtain ⟨n430, hn430, en430, mn430⟩ := z425.2.2.2.1
    refine tp_i (nI n430) en430 ?_
    refine lv_sipush (v := 7400) hx hb dX9_send_41 (by decide) ?_
    refine lv_icmp_ne (tgt := 59) hx hb dX9_send_44 (by decide) (fun c431 => ?_) (fun c431 => ?_)
    · have c431 : ¬ n430 = 7400 := fun h9 => c431 ((nI_eq (a := n430) (b := 7400) (by omega) (by omega)).mpr h9)
      refine lv_sipush (v := 1383) hx hb dX9_send_59 (by decide) ?_
      refine lv_bipush (v := 6) hx hb dX9_send_62 (by decide) ?_
      refine lv_aload_n hx hb dX9_send_64 rfl (lv_at hl 2 rfl) ?_
      refine va_get (D := D) (ci := 9) (v := .ref f418_8) (C := RX9) (T := TX9) (N := 18) hx hb hts iX9_send_9 hown hN.1 hB.1 1 rfl rfl 8 (by decide) (hts _ mX9_send_1) (fun _ h9 => h9) rfl dX9_send_65 ?_
      refine lv_iconst (v := 3) hx hb dX9_send_68 (by decide) ?_
      refine ld_i (v := ((upd g420 4 x424) 3)) hx hb hN hB.1 0 rfl (vp_in_nI (n := 3) (N := 45783) (by omega) (by omega)) (by rw [(show (3 : Int32).toNatClampNeg = 3 from nI_clamp (n := 3) (by omega))]) dX9_send_69 ?_
      refine tp_i (nI n430) en430 ?_
      refine lv_imul hx hb dX9_send_70 ?_
      refine tp_i (nI (6 * n430)) (nI_mul 6 n430) ?_
      refine lv_iadd hx hb dX9_send_71 ?_
      refine tp_i (nI (1383 + (6 * n430))) (nI_add 1383 (6 * n430)) ?_
      refine lv_istore (lv' := [(9, .int (nI (1383 + (6 * n430)))), (8, .int x422), (7, .int x421), (0, .ref w), (1, .int (nI x)), (2, .int (nI n)), (3, .int (nI k)), (4, .int y), (5, .int z), (6, .int u)]) hx hb dX9_send_72 hl (by decide) rfl (fun ls hl => ?_)
      refine lv_aload_n hx hb dX9_send_74 rfl (lv_at hl 3 rfl) ?_
      refine va_get (D := D) (ci := 9) (v := .ref f418_8) (C := RX9) (T := TX9) (N := 18) hx hb hts iX9_send_9 hown hN.1 hB.1 1 rfl rfl 8 (by decide) (hts _ mX9_send_1) (fun _ h9 => h9) rfl dX9_send_75 ?_
      refine lv_iload hx hb dX9_send_78 (lv_at hl 0 rfl) ?_
      refine lv_iconst (v := 0) hx hb dX9_send_80 (by decide) ?_
      refine lv_iadd hx hb dX9_send_81 ?_
      refine tp_i (nI ((1383 + (6 * n430)) + 0)) (nI_add (1383 + (6 * n430)) 0) ?_
      refine lv_iload_n hx hb dX9_send_82 rfl (lv_at hl 4 rfl) ?_
      refine lv_bipush (v := 8) hx hb dX9_send_83 (by decide) ?_
      refine lv_iload_n hx hb dX9_send_85 rfl (lv_at hl 5 rfl) ?_
      refine lv_imul hx hb dX9_send_86 ?_
      refine tp_i (nI (8 * n)) (nI_mul 8 n) ?_
      refine lv_iadd hx hb dX9_send_87 ?_
      refine tp_i (nI (x + (8 * n))) (nI_add x (8 * n)) ?_
      refine lv_bipush (v := 64) hx hb dX9_send_88 (by decide) ?_
      refine lv_iload_n hx hb dX9_send_90 rfl (lv_at hl 6 rfl) ?_
      refine lv_imul hx hb dX9_send_91 ?_
      refine tp_i (nI (64 * k)) (nI_mul 64 k) ?_
      refine lv_iadd hx hb dX9_send_92 ?_
      refine tp_i (nI ((x + (8 * n)) + (64 * k))) (nI_add (x + (8 * n)) (64 * k)) ?_
      refine b_i hx hb hN hB 0 rfl (vp_in_nI (n := ((1383 + (6 * n430)) + 0)) (N := 45783) (by omega) (by omega)) (.inr ⟨rfl, List.mem_of_getElem? (i := 0) rfl⟩) dX9_send_93 (fun H locs hB => ?_)
      rw [(show ((nI ((1383 + (6 * n430)) + 0)) : Int32).toNatClampNeg = ((1383 + (6 * n430)) + 0) from nI_clamp (n := ((1383 + (6 * n430)) + 0)) (by omega))] at hB
      have hB : Bx B0 D _ [(f418_8, .inl (cs 0, 45783, .inl (upd (upd g420 4 x424) ((1383 + (6 * n430)) + 0) (nI ((x + (8 * n)) + (64 * k)))))), (w, .inr (9, [.int f418_0, .ref f418_1, .int (nI ((κ w).2.2.1)), .int (nI f418_3), .int (nI f418_4), .int f418_5, .int f418_6, .int f418_7, .ref f418_8, .ref f418_9, .ref f418_10, .ref f418_11, .int (nI f418_12), .int f418_13, .int f418_14, .int f418_15, .int f418_16, .ref f418_17]))] [f418_8] _ _ := hB
      have z432 := DOK.sm z425 (n := n430) (k := ((1383 + (6 * n430)) + 0)) (x := (nI ((x + (8 * n)) + (64 * k)))) en430 (by omega)
      have e433 := (pk_un (f := (upd g420 4 x424)) (x := (nI ((x + (8 * n)) + (64 * k)))) (show 3 ≠ ((1383 + (6 * n430)) + 0) by omega)).trans en430
      have e434 : upd (upd g420 4 x424) ((1383 + (6 * n430)) + 0) (nI ((x + (8 * n)) + (64 * k))) ((1383 + (6 * n430)) + 0) = (nI ((x + (8 * n)) + (64 * k))) := pk_us
      refine lv_aload_n hx hb dX9_send_94 rfl (lv_at hl 3 rfl) ?_
      refine va_get (D := D) (ci := 9) (v := .ref f418_8) (C := RX9) (T := TX9) (N := 18) hx hb hts iX9_send_9 hown hN.1 hB.1 1 rfl rfl 8 (by decide) (hts _ mX9_send_1) (fun _ h9 => h9) rfl dX9_send_95 ?_
      refine lv_iload hx hb dX9_send_98 (lv_at hl 0 rfl) ?_
      refine lv_iconst (v := 1) hx hb dX9_send_100 (by decide) ?_
      refine lv_iadd hx hb dX9_send_101 ?_
      refine tp_i (nI ((1383 + (6 * n430)) + 1)) (nI_add (1383 + (6 * n430)) 1) ?_
      refine lv_aload_n hx hb dX9_send_102 rfl (lv_at hl 3 rfl) ?_
      refine va_get (D := D) (ci := 9) (v := .ref f418_8) (C := RX9) (T := TX9) (N := 18) hx hb hts iX9_send_9 hown hN.1 hB.1 1 rfl rfl 8 (by decide) (hts _ mX9_send_1) (fun _ h9 => h9) rfl dX9_send_103 ?_
      refine lv_iconst (v := 1) hx hb dX9_send_106 (by decide) ?_
      refine ld_i (v := ((upd (upd g420 4 x424) ((1383 + (6 * n430)) + 0) (nI ((x + (8 * n)) + (64 * k)))) 1)) hx hb hN hB.1 0 rfl (vp_in_nI (n := 1) (N := 45783) (by omega) (by omega)) (by rw [(show (1 : Int32).toNatClampNeg = 1 from nI_clamp (n := 1) (by omega))]) dX9_send_107 ?_
      refine gn_i (fun x435 => ?_)
      refine lv_iload hx hb dX9_send_108 (lv_at hl 2 rfl) ?_
      refine lv_iadd hx hb dX9_send_110 ?_
      refine gn_i (fun x436 => ?_)
      refine b_i hx hb hN hB 0 rfl (vp_in_nI (n := ((1383 + (6 * n430)) + 1)) (N := 45783) (by omega) (by omega)) (.inr ⟨rfl, List.mem_of_getElem? (i := 0) rfl⟩) dX9_send_111 (fun H locs hB => ?_)
      rw [(show ((nI ((1383 + (6 * n430)) + 1)) : Int32).toNatClampNeg = ((1383 + (6 * n430)) + 1) from nI_clamp (n := ((1383 + (6 * n430)) + 1)) (by omega))] at hB
      have hB : Bx B0 D _ [(f418_8, .inl (cs 0, 45783, .inl (upd (upd (upd g420 4 x424) ((1383 + (6 * n430)) + 0) (nI ((x + (8 * n)) + (64 * k)))) ((1383 + (6 * n430)) + 1) x436))), (w, .inr (9, [.int f418_0, .ref f418_1, .int (nI ((κ w).2.2.1)), .int (nI f418_3), .int (nI f418_4), .int f418_5, .int f418_6, .int f418_7, .ref f418_8, .ref f418_9, .ref f418_10, .ref f418_11, .int (nI f418_12), .int f418_13, .int f418_14, .int f418_15, .int f418_16, .ref f418_17]))] [f418_8] _ _ := hB
      have z437 := DOK.sm z432 (n := n430) (k := ((1383 + (6 * n430)) + 1)) (x := x436) e433 (by omega)
      have e438 := (pk_un (f := (upd (upd g420 4 x424) ((1383 + (6 * n430)) + 0) (nI ((x + (8 * n)) + (64 * k))))) (x := x436) (show 3 ≠ ((1383 + (6 * n430)) + 1) by omega)).trans e433
      have e439 := (pk_un (f := (upd (upd g420 4 x424) ((1383 + (6 * n430)) + 0) (nI ((x + (8 * n)) + (64 * k))))) (x := x436) (show ((1383 + (6 * n430)) + 0) ≠ ((1383 + (6 * n430)) + 1) by omega)).trans e434
      refine lv_aload_n hx hb dX9_send_112 rfl (lv_at hl 3 rfl) ?_
      refine va_get (D := D) (ci := 9) (v := .ref f418_8) (C := RX9) (T := TX9) (N := 18) hx hb hts iX9_send_9 hown hN.1 hB.1 1 rfl rfl 8 (by decide) (hts _ mX9_send_1) (fun _ h9 => h9) rfl dX9_send_113 ?_
      refine lv_iload hx hb dX9_send_116 (lv_at hl 0 rfl) ?_
      refine lv_iconst (v := 2) hx hb dX9_send_118 (by decide) ?_
      refine lv_iadd hx hb dX9_send_119 ?_
      refine tp_i (nI ((1383 + (6 * n430)) + 2)) (nI_add (1383 + (6 * n430)) 2) ?_
      refine lv_iload hx hb dX9_send_120 (lv_at hl 1 rfl) ?_
      refine b_i hx hb hN hB 0 rfl (vp_in_nI (n := ((1383 + (6 * n430)) + 2)) (N := 45783) (by omega) (by omega)) (.inr ⟨rfl, List.mem_of_getElem? (i := 0) rfl⟩) dX9_send_122 (fun H locs hB => ?_)
      rw [(show ((nI ((1383 + (6 * n430)) + 2)) : Int32).toNatClampNeg = ((1383 + (6 * n430)) + 2) from nI_clamp (n := ((1383 + (6 * n430)) + 2)) (by omega))] at hB
      have hB : Bx B0 D _ [(f418_8, .inl (cs 0, 45783, .inl (upd (upd (upd (upd g420 4 x424) ((1383 + (6 * n430)) + 0) (nI ((x + (8 * n)) + (64 * k)))) ((1383 + (6 * n430)) + 1) x436) ((1383 + (6 * n430)) + 2) x422))), (w, .inr (9, [.int f418_0, .ref f418_1, .int (nI ((κ w).2.2.1)), .int (nI f418_3), .int (nI f418_4), .int f418_5, .int f418_6, .int f418_7, .ref f418_8, .ref f418_9, .ref f418_10, .ref f418_11, .int (nI f418_12), .int f418_13, .int f418_14, .int f418_15, .int f418_16, .ref f418_17]))] [f418_8] _ _ := hB
      have z440 := DOK.sm z437 (n := n430) (k := ((1383 + (6 * n430)) + 2)) (x := x422) e438 (by omega)
      have e441 := (pk_un (f := (upd (upd (upd g420 4 x424) ((1383 + (6 * n430)) + 0) (nI ((x + (8 * n)) + (64 * k)))) ((1383 + (6 * n430)) + 1) x436)) (x := x422) (show 3 ≠ ((1383 + (6 * n430)) + 2) by omega)).trans e438
      have e442 := (pk_un (f := (upd (upd (upd g420 4 x424) ((1383 + (6 * n430)) + 0) (nI ((x + (8 * n)) + (64 * k)))) ((1383 + (6 * n430)) + 1) x436)) (x := x422) (show ((1383 + (6 * n430)) + 0) ≠ ((1383 + (6 * n430)) + 2) by omega)).trans e439
      refine lv_aload_n hx hb dX9_send_123 rfl (lv_at hl 3 rfl) ?_
      refine va_get (D := D) (ci := 9) (v := .ref f418_8) (C := RX9) (T := TX9) (N := 18) hx hb hts iX9_send_9 hown hN.1 hB.1 1 rfl rfl 8 (by decide) (hts _ mX9_send_1) (fun _ h9 => h9) rfl dX9_send_124 ?_
      refine lv_iload hx hb dX9_send_127 (lv_at hl 0 rfl) ?_
      refine lv_iconst (v := 3) hx hb dX9_send_129 (by decide) ?_
      refine lv_iadd hx hb dX9_send_130 ?_
      refine tp_i (nI ((1383 + (6 * n430)) + 3)) (nI_add (1383 + (6 * n430)) 3) ?_
      refine lv_iload hx hb dX9_send_131 (lv_at hl 7 rfl) ?_
      refine b_i hx hb hN hB 0 rfl (vp_in_nI (n := ((1383 + (6 * n430)) + 3)) (N := 45783) (by omega) (by omega)) (.inr ⟨rfl, List.mem_of_getElem? (i := 0) rfl⟩) dX9_send_133 (fun H locs hB => ?_)
      rw [(show ((nI ((1383 + (6 * n430)) + 3)) : Int32).toNatClampNeg = ((1383 + (6 * n430)) + 3) from nI_clamp (n := ((1383 + (6 * n430)) + 3)) (by omega))] at hB
      have hB : Bx B0 D _ [(f418_8, .inl (cs 0, 45783, .inl (upd (upd (upd (upd (upd g420 4 x424) ((1383 + (6 * n430)) + 0) (nI ((x + (8 * n)) + (64 * k)))) ((1383 + (6 * n430)) + 1) x436) ((1383 + (6 * n430)) + 2) x422) ((1383 + (6 * n430)) + 3) y))), (w, .inr (9, [.int f418_0, .ref f418_1, .int (nI ((κ w).2.2.1)), .int (nI f418_3), .int (nI f418_4), .int f418_5, .int f418_6, .int f418_7, .ref f418_8, .ref f418_9, .ref f418_10, .ref f418_11, .int (nI f418_12), .int f418_13, .int f418_14, .int f418_15, .int f418_16, .ref f418_17]))] [f418_8] _ _ := hB
      have z443 := DOK.sm z440 (n := n430) (k := ((1383 + (6 * n430)) + 3)) (x := y) e441 (by omega)
      have e444 := (pk_un (f := (upd (upd (upd (upd g420 4 x424) ((1383 + (6 * n430)) + 0) (nI ((x + (8 * n)) + (64 * k)))) ((1383 + (6 * n430)) + 1) x436) ((1383 + (6 * n430)) + 2) x422)) (x := y) (show 3 ≠ ((1383 + (6 * n430)) + 3) by omega)).trans e441
      have e445 := (pk_un (f := (upd (upd (upd (upd g420 4 x424) ((1383 + (6 * n430)) + 0) (nI ((x + (8 * n)) + (64 * k)))) ((1383 + (6 * n430)) + 1) x436) ((1383 + (6 * n430)) + 2) x422)) (x := y) (show ((1383 + (6 * n430)) + 0) ≠ ((1383 + (6 * n430)) + 3) by omega)).trans e442
      refine lv_aload_n hx hb dX9_send_134 rfl (lv_at hl 3 rfl) ?_
      refine va_get (D := D) (ci := 9) (v := .ref f418_8) (C := RX9) (T := TX9) (N := 18) hx hb hts iX9_send_9 hown hN.1 hB.1 1 rfl rfl 8 (by decide) (hts _ mX9_send_1) (fun _ h9 => h9) rfl dX9_send_135 ?_
      refine lv_iload hx hb dX9_send_138 (lv_at hl 0 rfl) ?_
      refine lv_iconst (v := 4) hx hb dX9_send_140 (by decide) ?_
      refine lv_iadd hx hb dX9_send_141 ?_
      refine tp_i (nI ((1383 + (6 * n430)) + 4)) (nI_add (1383 + (6 * n430)) 4) ?_
      refine lv_iload hx hb dX9_send_142 (lv_at hl 8 rfl) ?_
      refine b_i hx hb hN hB 0 rfl (vp_in_nI (n := ((1383 + (6 * n430)) + 4)) (N := 45783) (by omega) (by omega)) (.inr ⟨rfl, List.mem_of_getElem? (i := 0) rfl⟩) dX9_send_144 (fun H locs hB => ?_)
      rw [(show ((nI ((1383 + (6 * n430)) + 4)) : Int32).toNatClampNeg = ((1383 + (6 * n430)) + 4) from nI_clamp (n := ((1383 + (6 * n430)) + 4)) (by omega))] at hB
      have hB : Bx B0 D _ [(f418_8, .inl (cs 0, 45783, .inl (upd (upd (upd (upd (upd (upd g420 4 x424) ((1383 + (6 * n430)) + 0) (nI ((x + (8 * n)) + (64 * k)))) ((1383 + (6 * n430)) + 1) x436) ((1383 + (6 * n430)) + 2) x422) ((1383 + (6 * n430)) + 3) y) ((1383 + (6 * n430)) + 4) z))), (w, .inr (9, [.int f418_0, .ref f418_1, .int (nI ((κ w).2.2.1)), .int (nI f418_3), .int (nI f418_4), .int f418_5, .int f418_6, .int f418_7, .ref f418_8, .ref f418_9, .ref f418_10, .ref f418_11, .int (nI f418_12), .int f418_13, .int f418_14, .int f418_15, .int f418_16, .ref f418_17]))] [f418_8] _ _ := hB
      have z446 := DOK.sm z443 (n := n430) (k := ((1383 + (6 * n430)) + 4)) (x := z) e444 (by omega)
      have e447 := (pk_un (f := (upd (upd (upd (upd (upd g420 4 x424) ((1383 + (6 * n430)) + 0) (nI ((x + (8 * n)) + (64 * k)))) ((1383 + (6 * n430)) + 1) x436) ((1383 + (6 * n430)) + 2) x422) ((1383 + (6 * n430)) + 3) y)) (x := z) (show 3 ≠ ((1383 + (6 * n430)) + 4) by omega)).trans e444
      have e448 := (pk_un (f := (upd (upd (upd (upd (upd g420 4 x424) ((1383 + (6 * n430)) + 0) (nI ((x + (8 * n)) + (64 * k)))) ((1383 + (6 * n430)) + 1) x436) ((1383 + (6 * n430)) + 2) x422) ((1383 + (6 * n430)) + 3) y)) (x := z) (show ((1383 + (6 * n430)) + 0) ≠ ((1383 + (6 * n430)) + 4) by omega)).trans e445
      refine lv_aload_n hx hb dX9_send_145 rfl (lv_at hl 3 rfl) ?_
      refine va_get (D := D) (ci := 9) (v := .ref f418_8) (C := RX9) (T := TX9) (N := 18) hx hb hts iX9_send_9 hown hN.1 hB.1 1 rfl rfl 8 (by decide) (hts _ mX9_send_1) (fun _ h9 => h9) rfl dX9_send_146 ?_
      refine lv_iload hx hb dX9_send_149 (lv_at hl 0 rfl) ?_
      refine lv_iconst (v := 5) hx hb dX9_send_151 (by decide) ?_
      refine lv_iadd hx hb dX9_send_152 ?_
      refine tp_i (nI ((1383 + (6 * n430)) + 5)) (nI_add (1383 + (6 * n430)) 5) ?_
      refine lv_iload hx hb dX9_send_153 (lv_at hl 9 rfl) ?_
      refine b_i hx hb hN hB 0 rfl (vp_in_nI (n := ((1383 + (6 * n430)) + 5)) (N := 45783) (by omega) (by omega)) (.inr ⟨rfl, List.mem_of_getElem? (i := 0) rfl⟩) dX9_send_155 (fun H locs hB => ?_)
      rw [(show ((nI ((1383 + (6 * n430)) + 5)) : Int32).toNatClampNeg = ((1383 + (6 * n430)) + 5) from nI_clamp (n := ((1383 + (6 * n430)) + 5)) (by omega))] at hB
      have hB : Bx B0 D _ [(f418_8, .inl (cs 0, 45783, .inl (upd (upd (upd (upd (upd (upd (upd g420 4 x424) ((1383 + (6 * n430)) + 0) (nI ((x + (8 * n)) + (64 * k)))) ((1383 + (6 * n430)) + 1) x436) ((1383 + (6 * n430)) + 2) x422) ((1383 + (6 * n430)) + 3) y) ((1383 + (6 * n430)) + 4) z) ((1383 + (6 * n430)) + 5) u))), (w, .inr (9, [.int f418_0, .ref f418_1, .int (nI ((κ w).2.2.1)), .int (nI f418_3), .int (nI f418_4), .int f418_5, .int f418_6, .int f418_7, .ref f418_8, .ref f418_9, .ref f418_10, .ref f418_11, .int (nI f418_12), .int f418_13, .int f418_14, .int f418_15, .int f418_16, .ref f418_17]))] [f418_8] _ _ := hB
      have z449 := DOK.sm z446 (n := n430) (k := ((1383 + (6 * n430)) + 5)) (x := u) e447 (by omega)
      have e450 := (pk_un (f := (upd (upd (upd (upd (upd (upd g420 4 x424) ((1383 + (6 * n430)) + 0) (nI ((x + (8 * n)) + (64 * k)))) ((1383 + (6 * n430)) + 1) x436) ((1383 + (6 * n430)) + 2) x422) ((1383 + (6 * n430)) + 3) y) ((1383 + (6 * n430)) + 4) z)) (x := u) (show 3 ≠ ((1383 + (6 * n430)) + 5) by omega)).trans e447
      have e451 := (pk_un (f := (upd (upd (upd (upd (upd (upd g420 4 x424) ((1383 + (6 * n430)) + 0) (nI ((x + (8 * n)) + (64 * k)))) ((1383 + (6 * n430)) + 1) x436) ((1383 + (6 * n430)) + 2) x422) ((1383 + (6 * n430)) + 3) y) ((1383 + (6 * n430)) + 4) z)) (x := u) (show ((1383 + (6 * n430)) + 0) ≠ ((1383 + (6 * n430)) + 5) by omega)).trans e448
      refine lv_aload_n hx hb dX9_send_156 rfl (lv_at hl 3 rfl) ?_
      refine va_get (D := D) (ci := 9) (v := .ref f418_8) (C := RX9) (T := TX9) (N := 18) hx hb hts iX9_send_9 hown hN.1 hB.1 1 rfl rfl 8 (by decide) (hts _ mX9_send_1) (fun _ h9 => h9) rfl dX9_send_157 ?_
      refine lv_iconst (v := 3) hx hb dX9_send_160 (by decide) ?_
      refine lv_dup2_11 hx hb dX9_send_161 rfl rfl ?_
      refine ld_i (v := ((upd (upd (upd (upd (upd (upd (upd g420 4 x424) ((1383 + (6 * n430)) + 0) (nI ((x + (8 * n)) + (64 * k)))) ((1383 + (6 * n430)) + 1) x436) ((1383 + (6 * n430)) + 2) x422) ((1383 + (6 * n430)) + 3) y) ((1383 + (6 * n430)) + 4) z) ((1383 + (6 * n430)) + 5) u) 3)) hx hb hN hB.1 0 rfl (vp_in_nI (n := 3) (N := 45783) (by omega) (by omega)) (by rw [(show (3 : Int32).toNatClampNeg = 3 from nI_clamp (n := 3) (by omega))]) dX9_send_162 ?_
      refine tp_i (nI n430) e450 ?_
      refine lv_iconst (v := 1) hx hb dX9_send_163 (by decide) ?_
      refine lv_iadd hx hb dX9_send_164 ?_
      refine tp_i (nI (n430 + 1)) (nI_add n430 1) ?_
      refine b_i hx hb hN hB 0 rfl (vp_in_nI (n := 3) (N := 45783) (by omega) (by omega)) (.inr ⟨rfl, List.mem_of_getElem? (i := 0) rfl⟩) dX9_send_165 (fun H locs hB => ?_)
      rw [(show (3 : Int32).toNatClampNeg = 3 from nI_clamp (n := 3) (by omega))] at hB
      have hB : Bx B0 D _ [(f418_8, .inl (cs 0, 45783, .inl (upd (upd (upd (upd (upd (upd (upd (upd g420 4 x424) ((1383 + (6 * n430)) + 0) (nI ((x + (8 * n)) + (64 * k)))) ((1383 + (6 * n430)) + 1) x436) ((1383 + (6 * n430)) + 2) x422) ((1383 + (6 * n430)) + 3) y) ((1383 + (6 * n430)) + 4) z) ((1383 + (6 * n430)) + 5) u) 3 (nI (n430 + 1))))), (w, .inr (9, [.int f418_0, .ref f418_1, .int (nI ((κ w).2.2.1)), .int (nI f418_3), .int (nI f418_4), .int f418_5, .int f418_6, .int f418_7, .ref f418_8, .ref f418_9, .ref f418_10, .ref f418_11, .int (nI f418_12), .int f418_13, .int f418_14, .int f418_15, .int f418_16, .ref f418_17]))] [f418_8] _ _ := hB
      have z452 := DOK.s3 z449 (n := n430) (h := ((x + (8 * n)) + (64 * k))) e450 (by omega) e451 (by omega)
      refine lv_iconst (v := 1) hx hb dX9_send_166 (by decide) ?_
      have hT : WT B0 D cs T κ _ := hT.close hB ⟨⟨0, _, rfl, ok_24 t418_8.1 ⟨_, rfl, z452⟩⟩, trivial⟩
      have hF : Fr B0 [12] κ H0 _ := hF.close hB (fa_c (by simp [t418_8.2]) fa_n)
      have hL : OkL B0 _ := hB.2.2.2.2.2
      have hP : va_P D vwCl [(f418_8, .inl (cs 0, 45783, .inl (upd (upd (upd (upd (upd (upd (upd (upd g420 4 x424) ((1383 + (6 * n430)) + 0) (nI ((x + (8 * n)) + (64 * k)))) ((1383 + (6 * n430)) + 1) x436) ((1383 + (6 * n430)) + 2) x422) ((1383 + (6 * n430)) + 3) y) ((1383 + (6 * n430)) + 4) z) ((1383 + (6 * n430)) + 5) u) 3 (nI (n430 + 1))))), (w, .inr (9, [.int f418_0, .ref f418_1, .int (nI ((κ w).2.2.1)), .int (nI f418_3), .int (nI f418_4), .int f418_5, .int f418_6, .int f418_7, .ref f418_8, .ref f418_9, .ref f418_10, .ref f418_11, .int (nI f418_12), .int f418_13, .int f418_14, .int f418_15, .int f418_16, .ref f418_17]))] _ := hB.1
      exact en_i hx hb hr hlocks hL rfl (Nat.zero_le _) (Nat.zero_le _) dX9_send_167 (⟨hT, hF, Or.inr rfl⟩)
    · have c431 : n430 = 7400 := (nI_eq (a := n430) (b := 7400) (by omega) (by omega)).mp c431
      refine lv_aload_n hx hb dX9_send_47 rfl (lv_at hl 2 rfl) ?_
      refine va_get (D := D) (ci := 9) (v := .ref f418_8) (C := RX9) (T := TX9) (N := 18) hx hb hts iX9_send_9 hown hN.1 hB.1 1 rfl rfl 8 (by decide) (hts _ mX9_send_1) (fun _ h9 => h9) rfl dX9_send_48 ?_
      refine lv_iconst (v := 5) hx hb dX9_send_51 (by decide) ?_
      refine lv_dup2_11 hx hb dX9_send_52 rfl rfl ?_
      refine ld_i (v := ((upd g420 4 x424) 5)) hx hb hN hB.1 0 rfl (vp_in_nI (n := 5) (N := 45783) (by omega) (by omega)) (by rw [(show (5 : Int32).toNatClampNeg = 5 from nI_clamp (n := 5) (by omega))]) dX9_send_53 ?_
      refine gn_i (fun x453 => ?_)
      refine lv_iconst (v := 1) hx hb dX9_send_54 (by decide) ?_
      refine lv_iadd hx hb dX9_send_55 ?_
      refine gn_i (fun x454 => ?_)
      refine b_i hx hb hN hB 0 rfl (vp_in_nI (n := 5) (N := 45783) (by omega) (by omega)) (.inr ⟨rfl, List.mem_of_getElem? (i := 0) rfl⟩) dX9_send_56 (fun H locs hB => ?_)
      rw [(show (5 : Int32).toNatClampNeg = 5 from nI_clamp (n := 5) (by omega))] at hB
      have hB : Bx B0 D _ [(f418_8, .inl (cs 0, 45783, .inl (upd (upd g420 4 x424) 5 x454))), (w, .inr (9, [.int f418_0, .ref f418_1, .int (nI ((κ w).2.2.1)), .int (nI f418_3), .int (nI f418_4), .int f418_5, .int f418_6, .int f418_7, .ref f418_8, .ref f418_9, .ref f418_10, .ref f418_11, .int (nI f418_12), .int f418_13, .int f418_14, .int f418_15, .int f418_16, .ref f418_17]))] [f418_8] _ _ := hB
      have z455 := DOK.sf z425 (k := 5) (by omega) (x := x454)
      have e456 := (pk_un (f := (upd g420 4 x424)) (x := x454) (show 3 ≠ 5 by omega)).trans en430
      refine lv_iconst (v := 0) hx hb dX9_send_57 (by decide) ?_
      have hT : WT B0 D cs T κ _ := hT.close hB ⟨⟨0, _, rfl, ok_24 t418_8.1 ⟨_, rfl, z455⟩⟩, trivial⟩
      have hF : Fr B0 [12] κ H0 _ := hF.close hB (fa_c (by simp [t418_8.2]) fa_n)
      have hL : OkL B0 _ := hB.2.2.2.2.2
      have hP : va_P D vwCl [(f418_8, .inl (cs 0, 45783, .inl (upd (upd g420 4 x424) 5 x454))), (w, .inr (9, [.int f418_0, .ref f418_1, .int (nI ((κ w).2.2.1)), .int (nI f418_3), .int (nI f418_4), .int f418_5, .int f418_6, .int f418_7, .ref f418_8, .ref f418_9, .ref f418_10, .ref f418_11, .int (nI f418_12), .int f418_13, .int f418_14, .int f418_15, .int f418_16, .ref f418_17]))] _ := hB.1
      exact en_i hx hb hr hlocks hL rfl (Nat.zero_le _) (Nat.zero_le _) dX9_send_58 (⟨hT, hF, Or.inl rfl⟩)
theorem mX9_sendToOthers_1 : (.fieldLink RX9 18 "OneBeatModel" "data" "[I" : Cond) ∈ wsX9_sendToOthers := List.mem_of_getElem? (i := 1) (by decide +kernel)
theorem iX9_sendToOthers_9 : ∀ w ∈ wsX90, w ∈ wsX9_sendToOthers := fun w h => List.mem_of_mem_drop (List.mem_of_mem_take ((show wsX90 = (wsX9_sendToOthers.drop 10).take 18 by decide +kernel) ▸ h))
theorem hdX9_send_v : yX9_send.cls = RX9 ∧ yX9_send.cls ≠ "java/lang/invoke/MethodHandle" ∧ yX9_send.cls ≠ "java/lang/invoke/VarHandle" ∧ (parseMethodDescriptor yX9_send.desc).map (fun d => d.parameters.length) = some 6 := by decide +kernel
set_option maxHeartbeats 4000000 in
set_option maxRecDepth 100000 in
theorem c_X9_sendToOthers {l : Launch} {D : va_G} {cs : Nat → ClassId} {B0 T : Nat} {κ : KM} {H0 : Heap} (hT : WT B0 D cs T κ H0) {w : Nat} (hw : T2 κ w 10 12) {x : Nat} (hx : x < 6) {n : Nat} (hn : n < 8) {y : Int32} {z : Int32} {u : Int32} : KC l yX9_sendToOthers wsX9_sendToOthers 2 50 0 0 D cs B0 H0 [.ref w, .int (nI x), .int (nI n), .int y, .int z, .int u] (Qv (fun H => WT B0 D cs T κ H ∧ Fr B0 [12] κ H0 H)) := by
  refine KC.of cX9_sendToOthers 7 none (by decide) rfl (Nat.le_of_ble_eq_true rfl) ?_
  intro p e s m below meth c ls hx hb hr hml hown hts hlocks hin hN hH0 hl
  have hown : s.vm.findClass RX9 = some m.cls := hown
  have hl : lv_has ls 7 [(0, .ref w), (1, .int (nI x)), (2, .int (nI n)), (3, .int y), (4, .int z), (5, .int u)] := hl
  have hL : OkL B0 [] := OkL.nil
  have hF : Fr B0 [12] κ H0 H0 := Fr.rf
  refine lv_iconst (v := 0) hx hb dX9_sendToOthers_0 (by decide) ?_
  refine lv_istore (lv' := [(6, .int 0), (0, .ref w), (1, .int (nI x)), (2, .int (nI n)), (3, .int y), (4, .int z), (5, .int u)]) hx hb dX9_sendToOthers_1 hl (by decide) rfl (fun ls hl => ?_)
  refine lp_m (α := Nat) (nL := 7) (fun a9 => 8 - a9) (fun a9 H9 l9 => (a9 ≤ 8) ∧ (WT B0 D cs T κ H9) ∧ (Fr B0 [12] κ H0 H9) ∧ (OkL B0 l9)) (fun a9 => [(6, .int (nI a9)), (0, .ref w), (1, .int (nI x)), (2, .int (nI n)), (3, .int y), (4, .int z), (5, .int u)]) ?_ 0 _ _ _ ⟨(by omega), hT, hF, hL⟩ (lv_sub hl [0, 1, 2, 3, 4, 5, 6] rfl)
  rintro p H locs ls ih457 ⟨hp, hT, hF, hL⟩ hl
  have hl : lv_has ls 7 [(6, .int (nI p)), (0, .ref w), (1, .int (nI x)), (2, .int (nI n)), (3, .int y), (4, .int z), (5, .int u)] := hl
  have hp : p ≤ 8 := hp
  refine lv_iload hx hb dX9_sendToOthers_3 (lv_at hl 0 rfl) ?_
  refine lv_aload_n hx hb dX9_sendToOthers_5 rfl (lv_at hl 1 rfl) ?_
  obtain ⟨hb458, e458, hat458, hk458⟩ := hT.o10 hw.1
  obtain ⟨f458_0, f458_1, f458_3, f458_4, f458_5, f458_6, f458_7, f458_8, f458_9, f458_10, f458_11, f458_12, f458_13, f458_14, f458_15, f458_16, f458_17, rfl, c458_2, c458_3, c458_4, c458_12, t458_1, t458_8, t458_9, c458_sd, t458_10, t458_11, t458_17⟩ := hk458
  have hP : va_P D vwCl [(w, .inr (9, [.int f458_0, .ref f458_1, .int (nI ((κ w).2.2.1)), .int (nI f458_3), .int (nI f458_4), .int f458_5, .int f458_6, .int f458_7, .ref f458_8, .ref f458_9, .ref f458_10, .ref f458_11, .int (nI f458_12), .int f458_13, .int f458_14, .int f458_15, .int f458_16, .ref f458_17]))] _ := va_P.cons hat458 va_P.nil
  refine va_get (D := D) (ci := 9) (v := .ref f458_8) (C := RX9) (T := TX9) (N := 18) hx hb hts iX9_sendToOthers_9 hown hN.1 hP 0 rfl rfl 8 (by decide) (hts _ mX9_sendToOthers_1) (fun _ h9 => h9) rfl dX9_sendToOthers_6 ?_
  refine lv_iconst (v := 0) hx hb dX9_sendToOthers_9 (by decide) ?_
  obtain ⟨hb459, e459, hat459, hk459⟩ := hT.o24 t458_8.1
  obtain ⟨g459, rfl, q459⟩ := hk459
  have hP : va_P D vwCl [(f458_8, .inl (cs 0, 45783, .inl g459)), (w, .inr (9, [.int f458_0, .ref f458_1, .int (nI ((κ w).2.2.1)), .int (nI f458_3), .int (nI f458_4), .int f458_5, .int f458_6, .int f458_7, .ref f458_8, .ref f458_9, .ref f458_10, .ref f458_11, .int (nI f458_12), .int f458_13, .int f458_14, .int f458_15, .int f458_16, .ref f458_17]))] _ := va_P.cons hat459 hP
  refine ld_i (v := (g459 0)) hx hb hN hP 0 rfl (vp_in_nI (n := 0) (N := 45783) (by omega) (by omega)) (by rw [(show (0 : Int32).toNatClampNeg = 0 from nI_clamp (n := 0) (by omega))]) dX9_sendToOthers_10 ?_
  obtain ⟨n460, hn460, en460⟩ := q459.1
  refine tp_i (nI n460) en460 ?_
  refine lv_icmp_ge (tgt := 40) hx hb dX9_sendToOthers_11 (by decide) (fun c461 => ?_) (fun c461 => ?_)
  · have c461 : n460 ≤ p := (nI_leI (a := n460) (b := p) (by omega) (by omega)).mp c461
    exact en_v hx hb hr hlocks hL (Nat.zero_le _) (Nat.zero_le _) dX9_sendToOthers_40 (⟨hT, hF⟩)
  · have c461 : ¬ n460 ≤ p := fun h9 => c461 ((nI_leI (a := n460) (b := p) (by omega) (by omega)).mpr h9)
    refine lv_iload hx hb dX9_sendToOthers_14 (lv_at hl 0 rfl) ?_
    refine lv_iload_n hx hb dX9_sendToOthers_16 rfl (lv_at hl 3 rfl) ?_
    refine lv_icmp_eq (tgt := 34) hx hb dX9_sendToOthers_17 (by decide) (fun c462 => ?_) (fun c462 => ?_)
    · have c462 : p = n := (nI_eq (a := p) (b := n) (by omega) (by omega)).mp c462
      refine lv_iinc (v := (nI (p + 1))) (lv' := [(6, .int (nI (p + 1))), (0, .ref w), (1, .int (nI x)), (2, .int (nI n)), (3, .int y), (4, .int z), (5, .int u)]) hx hb dX9_sendToOthers_34 hl (k := 0) rfl (nI_add _ 1) (by decide) rfl (fun ls hl => ?_)
      refine lv_goto (tgt := 3) hx hb dX9_sendToOthers_37 (by decide) ?_
      exact ih457 (p + 1) _ _ _ (by show 8 - ((p + 1)) < 8 - p; omega) ⟨(by omega), hT, hF, hL⟩ (lv_sub hl [0, 1, 2, 3, 4, 5, 6] rfl)
    · have c462 : ¬ p = n := fun h9 => c462 ((nI_eq (a := p) (b := n) (by omega) (by omega)).mpr h9)
      refine lv_aload_n hx hb dX9_sendToOthers_20 rfl (lv_at hl 1 rfl) ?_
      refine lv_iload_n hx hb dX9_sendToOthers_21 rfl (lv_at hl 2 rfl) ?_
      refine lv_iload_n hx hb dX9_sendToOthers_22 rfl (lv_at hl 3 rfl) ?_
      refine lv_iload hx hb dX9_sendToOthers_23 (lv_at hl 0 rfl) ?_
      refine lv_iload_n hx hb dX9_sendToOthers_25 rfl (lv_at hl 4 rfl) ?_
      refine lv_iload hx hb dX9_sendToOthers_26 (lv_at hl 5 rfl) ?_
      refine lv_iload hx hb dX9_sendToOthers_28 (lv_at hl 6 rfl) ?_
      refine cv_i (As := [.int (nI x), .int (nI n), .int (nI p), .int y, .int z, .int u]) (rest := []) (b := w) ⟨hx, hb, hml, hown, hts⟩ (c_X9_send hT (w := w) hw (x := x) (n := n) (k := p) (y := y) (z := z) (u := u) (by first | omega | decide | assumption) (by first | omega | decide | assumption) (by first | omega | decide | assumption)) (cwV 6 hts gX9_sendToOthers_X9_send rfl rfl rfl hdX9_send_v ⟨Nat.le_of_ble_eq_true rfl, Nat.le_of_ble_eq_true rfl⟩) hN hL (rcv10 hN hT hw.1) rfl rfl hl.1 (Nat.le_of_ble_eq_true rfl) dX9_sendToOthers_30 (Nat.zero_le _) (Nat.zero_le _) (fun r463 H1 locs hL hqr463 => ?_)
      obtain ⟨hT1, hF1, hqr463⟩ := hqr463
      have hF := hF.tr (hF1.mono (by simp))
      have hT := hT1
      rcases hqr463 with rfl | rfl
      · refine lv_pop hx hb dX9_sendToOthers_33 rfl ?_
        refine lv_iinc (v := (nI (p + 1))) (lv' := [(6, .int (nI (p + 1))), (0, .ref w), (1, .int (nI x)), (2, .int (nI n)), (3, .int y), (4, .int z), (5, .int u)]) hx hb dX9_sendToOthers_34 hl (k := 0) rfl (nI_add _ 1) (by decide) rfl (fun ls hl => ?_)
        refine lv_goto (tgt := 3) hx hb dX9_sendToOthers_37 (by decide) ?_
        exact ih457 (p + 1) _ _ _ (by show 8 - ((p + 1)) < 8 - p; omega) ⟨(by omega), hT, hF, hL⟩ (lv_sub hl [0, 1, 2, 3, 4, 5, 6] rfl)
      · refine lv_pop hx hb dX9_sendToOthers_33 rfl ?_
        refine lv_iinc (v := (nI (p + 1))) (lv' := [(6, .int (nI (p + 1))), (0, .ref w), (1, .int (nI x)), (2, .int (nI n)), (3, .int y), (4, .int z), (5, .int u)]) hx hb dX9_sendToOthers_34 hl (k := 0) rfl (nI_add _ 1) (by decide) rfl (fun ls hl => ?_)
        refine lv_goto (tgt := 3) hx hb dX9_sendToOthers_37 (by decide) ?_
        exact ih457 (p + 1) _ _ _ (by show 8 - ((p + 1)) < 8 - p; omega) ⟨(by omega), hT, hF, hL⟩ (lv_sub hl [0, 1, 2, 3, 4, 5, 6] rfl)
theorem mX9_isOpen_1 : (.fieldLink RX9 18 "OneBeatModel" "data" "[I" : Cond) ∈ wsX9_isOpen := List.mem_of_getElem? (i := 1) (by decide +kernel)
theorem iX9_isOpen_9 : ∀ w ∈ wsX90, w ∈ wsX9_isOpen := fun w h => List.mem_of_mem_drop (List.mem_of_mem_take ((show wsX90 = (wsX9_isOpen.drop 2).take 18 by decide +kernel) ▸ h))
set_option maxHeartbeats 4000000 in
set_option maxRecDepth 100000 in
theorem c_X9_isOpen {l : Launch} {D : va_G} {cs : Nat → ClassId} {B0 T : Nat} {κ : KM} {H0 : Heap} (hT : WT B0 D cs T κ H0) {w : Nat} (hw : T2 κ w 10 12) : KC l yX9_isOpen wsX9_isOpen 0 0 0 0 D cs B0 H0 [.ref w] (Qi (fun r H => H = H0 ∧ (r = 0 ∨ r = 1))) := by
  refine KC.of cX9_isOpen 1 (some .boolean) (by decide) rfl (Nat.le_of_ble_eq_true rfl) ?_
  intro p e s m below meth c ls hx hb hr hml hown hts hlocks hin hN hH0 hl
  have hown : s.vm.findClass RX9 = some m.cls := hown
  have hl : lv_has ls 1 [(0, .ref w)] := hl
  have hL : OkL B0 [] := OkL.nil
  refine lv_aload_n hx hb dX9_isOpen_0 rfl (lv_at hl 0 rfl) ?_
  obtain ⟨hb464, e464, hat464, hk464⟩ := hT.o10 hw.1
  obtain ⟨f464_0, f464_1, f464_3, f464_4, f464_5, f464_6, f464_7, f464_8, f464_9, f464_10, f464_11, f464_12, f464_13, f464_14, f464_15, f464_16, f464_17, rfl, c464_2, c464_3, c464_4, c464_12, t464_1, t464_8, t464_9, c464_sd, t464_10, t464_11, t464_17⟩ := hk464
  have hP : va_P D vwCl [(w, .inr (9, [.int f464_0, .ref f464_1, .int (nI ((κ w).2.2.1)), .int (nI f464_3), .int (nI f464_4), .int f464_5, .int f464_6, .int f464_7, .ref f464_8, .ref f464_9, .ref f464_10, .ref f464_11, .int (nI f464_12), .int f464_13, .int f464_14, .int f464_15, .int f464_16, .ref f464_17]))] _ := va_P.cons hat464 va_P.nil
  refine va_get (D := D) (ci := 9) (v := .ref f464_8) (C := RX9) (T := TX9) (N := 18) hx hb hts iX9_isOpen_9 hown hN.1 hP 0 rfl rfl 8 (by decide) (hts _ mX9_isOpen_1) (fun _ h9 => h9) rfl dX9_isOpen_1 ?_
  refine lv_bipush (v := 6) hx hb dX9_isOpen_4 (by decide) ?_
  obtain ⟨hb465, e465, hat465, hk465⟩ := hT.o24 t464_8.1
  obtain ⟨g465, rfl, q465⟩ := hk465
  have hP : va_P D vwCl [(f464_8, .inl (cs 0, 45783, .inl g465)), (w, .inr (9, [.int f464_0, .ref f464_1, .int (nI ((κ w).2.2.1)), .int (nI f464_3), .int (nI f464_4), .int f464_5, .int f464_6, .int f464_7, .ref f464_8, .ref f464_9, .ref f464_10, .ref f464_11, .int (nI f464_12), .int f464_13, .int f464_14, .int f464_15, .int f464_16, .ref f464_17]))] _ := va_P.cons hat465 hP
  refine ld_i (v := (g465 6)) hx hb hN hP 0 rfl (vp_in_nI (n := 6) (N := 45783) (by omega) (by omega)) (by rw [(show (6 : Int32).toNatClampNeg = 6 from nI_clamp (n := 6) (by omega))]) dX9_isOpen_6 ?_
  refine gn_i (fun x466 => ?_)
  refine lv_if_le (tgt := 24) hx hb dX9_isOpen_7 (by decide) (fun c467 => ?_) (fun c467 => ?_)
  · refine lv_iconst (v := 0) hx hb dX9_isOpen_24 (by decide) ?_
    exact en_i hx hb hr hlocks hL rfl (Nat.zero_le _) (Nat.zero_le _) dX9_isOpen_25 (⟨rfl, Or.inl rfl⟩)
  · refine lv_aload_n hx hb dX9_isOpen_10 rfl (lv_at hl 0 rfl) ?_
    refine va_get (D := D) (ci := 9) (v := .ref f464_8) (C := RX9) (T := TX9) (N := 18) hx hb hts iX9_isOpen_9 hown hN.1 hP 1 rfl rfl 8 (by decide) (hts _ mX9_isOpen_1) (fun _ h9 => h9) rfl dX9_isOpen_11 ?_
    refine lv_bipush (v := 20) hx hb dX9_isOpen_14 (by decide) ?_
    refine ld_i (v := (g465 20)) hx hb hN hP 0 rfl (vp_in_nI (n := 20) (N := 45783) (by omega) (by omega)) (by rw [(show (20 : Int32).toNatClampNeg = 20 from nI_clamp (n := 20) (by omega))]) dX9_isOpen_16 ?_
    refine gn_i (fun x468 => ?_)
    refine lv_if_ne (tgt := 24) hx hb dX9_isOpen_17 (by decide) (fun c469 => ?_) (fun c469 => ?_)
    · refine lv_iconst (v := 0) hx hb dX9_isOpen_24 (by decide) ?_
      exact en_i hx hb hr hlocks hL rfl (Nat.zero_le _) (Nat.zero_le _) dX9_isOpen_25 (⟨rfl, Or.inl rfl⟩)
    · refine lv_iconst (v := 1) hx hb dX9_isOpen_20 (by decide) ?_
      refine lv_goto (tgt := 25) hx hb dX9_isOpen_21 (by decide) ?_
      exact en_i hx hb hr hlocks hL rfl (Nat.zero_le _) (Nat.zero_le _) dX9_isOpen_25 (⟨rfl, Or.inr rfl⟩)
theorem hdX9_set_v : yX9_set.cls = RX9 ∧ yX9_set.cls ≠ "java/lang/invoke/MethodHandle" ∧ yX9_set.cls ≠ "java/lang/invoke/VarHandle" ∧ (parseMethodDescriptor yX9_set.desc).map (fun d => d.parameters.length) = some 3 := by decide +kernel
set_option maxHeartbeats 4000000 in
set_option maxRecDepth 100000 in
theorem c_X9_plan {l : Launch} {D : va_G} {cs : Nat → ClassId} {B0 T : Nat} {κ : KM} {H0 : Heap} (hT : WT B0 D cs T κ H0) {w : Nat} (hw : T2 κ w 10 12) {n : Nat} (hn : n < 8) {x : Int32} {y : Int32} {z : Int32} {u : Int32} : KC l yX9_plan wsX9_plan 2 43 0 0 D cs B0 H0 [.ref w, .int (nI n), .int x, .int y, .int z, .int u] (Qv (fun H => WT B0 D cs T κ H ∧ Fr B0 [12] κ H0 H)) := by
  refine KC.of cX9_plan 6 none (by decide) rfl (Nat.le_of_ble_eq_true rfl) ?_
  intro p e s m below meth c ls hx hb hr hml hown hts hlocks hin hN hH0 hl
  have hown : s.vm.findClass RX9 = some m.cls := hown
  have hl : lv_has ls 6 [(0, .ref w), (1, .int (nI n)), (2, .int x), (3, .int y), (4, .int z), (5, .int u)] := hl
  have hL : OkL B0 [] := OkL.nil
  have hF : Fr B0 [12] κ H0 H0 := Fr.rf
  refine lv_aload_n hx hb dX9_plan_0 rfl (lv_at hl 0 rfl) ?_
  refine lv_iload_n hx hb dX9_plan_1 rfl (lv_at hl 1 rfl) ?_
  refine lv_iconst (v := 5) hx hb dX9_plan_2 (by decide) ?_
  refine cv_i (As := [.int (nI n), .int 5]) (rest := []) (b := w) ⟨hx, hb, hml, hown, hts⟩ (c_X9_of hT (w := w) hw (n := n) (k := 5) (by first | omega | decide | assumption) (by first | omega | decide | assumption)) (cwV 2 hts gX9_plan_X9_of rfl rfl rfl hdX9_of_v ⟨Nat.le_of_ble_eq_true rfl, Nat.le_of_ble_eq_true rfl⟩) hN hL (rcv10 hN hT hw.1) rfl rfl hl.1 (Nat.le_of_ble_eq_true rfl) dX9_plan_3 (Nat.zero_le _) (Nat.zero_le _) (fun r470 H1 locs hL hqr470 => ?_)
  obtain rfl := hqr470
  refine lv_if_eq (tgt := 21) hx hb dX9_plan_6 (by decide) (fun c471 => ?_) (fun c471 => ?_)
  · refine lv_aload_n hx hb dX9_plan_21 rfl (lv_at hl 0 rfl) ?_
    refine lv_iload_n hx hb dX9_plan_22 rfl (lv_at hl 1 rfl) ?_
    refine lv_iconst (v := 5) hx hb dX9_plan_23 (by decide) ?_
    refine lv_iload_n hx hb dX9_plan_24 rfl (lv_at hl 2 rfl) ?_
    refine cv_v (As := [.int (nI n), .int 5, .int x]) (rest := []) (b := w) ⟨hx, hb, hml, hown, hts⟩ (c_X9_set hT (w := w) hw (n := n) (k := 5) (x := x) (by first | omega | decide | assumption) (by first | omega | decide | assumption)) (cwV 3 hts gX9_plan_X9_set rfl rfl rfl hdX9_set_v ⟨Nat.le_of_ble_eq_true rfl, Nat.le_of_ble_eq_true rfl⟩) hN hL (rcv10 hN hT hw.1) rfl rfl hl.1 (Nat.le_of_ble_eq_true rfl) dX9_plan_25 (Nat.zero_le _) (Nat.zero_le _) (fun H1 locs hL hqr472 => ?_)
    obtain ⟨hT1, hF1⟩ := hqr472
    have hF := hF.tr (hF1.mono (by simp))
    have hT := hT1
    refine lv_aload_n hx hb dX9_plan_28 rfl (lv_at hl 0 rfl) ?_
    refine lv_iload_n hx hb dX9_plan_29 rfl (lv_at hl 1 rfl) ?_
    refine lv_bipush (v := 6) hx hb dX9_plan_30 (by decide) ?_
    refine lv_iload_n hx hb dX9_plan_32 rfl (lv_at hl 3 rfl) ?_
    refine cv_v (As := [.int (nI n), .int 6, .int y]) (rest := []) (b := w) ⟨hx, hb, hml, hown, hts⟩ (c_X9_set hT (w := w) hw (n := n) (k := 6) (x := y) (by first | omega | decide | assumption) (by first | omega | decide | assumption)) (cwV 3 hts gX9_plan_X9_set rfl rfl rfl hdX9_set_v ⟨Nat.le_of_ble_eq_true rfl, Nat.le_of_ble_eq_true rfl⟩) hN hL (rcv10 hN hT hw.1) rfl rfl hl.1 (Nat.le_of_ble_eq_true rfl) dX9_plan_33 (Nat.zero_le _) (Nat.zero_le _) (fun H1 locs hL hqr473 => ?_)
    obtain ⟨hT1, hF1⟩ := hqr473
    have hF := hF.tr (hF1.mono (by simp))
    have hT := hT1
    refine lv_aload_n hx hb dX9_plan_36 rfl (lv_at hl 0 rfl) ?_
    refine lv_iload_n hx hb dX9_plan_37 rfl (lv_at hl 1 rfl) ?_
    refine lv_bipush (v := 8) hx hb dX9_plan_38 (by decide) ?_
    refine lv_iload hx hb dX9_plan_40 (lv_at hl 4 rfl) ?_
    refine cv_v (As := [.int (nI n), .int 8, .int z]) (rest := []) (b := w) ⟨hx, hb, hml, hown, hts⟩ (c_X9_set hT (w := w) hw (n := n) (k := 8) (x := z) (by first | omega | decide | assumption) (by first | omega | decide | assumption)) (cwV 3 hts gX9_plan_X9_set rfl rfl rfl hdX9_set_v ⟨Nat.le_of_ble_eq_true rfl, Nat.le_of_ble_eq_true rfl⟩) hN hL (rcv10 hN hT hw.1) rfl rfl hl.1 (Nat.le_of_ble_eq_true rfl) dX9_plan_42 (Nat.zero_le _) (Nat.zero_le _) (fun H1 locs hL hqr474 => ?_)
    obtain ⟨hT1, hF1⟩ := hqr474
    have hF := hF.tr (hF1.mono (by simp))
    have hT := hT1
    refine lv_aload_n hx hb dX9_plan_45 rfl (lv_at hl 0 rfl) ?_
    refine lv_iload_n hx hb dX9_plan_46 rfl (lv_at hl 1 rfl) ?_
    refine lv_bipush (v := 7) hx hb dX9_plan_47 (by decide) ?_
    refine lv_iload hx hb dX9_plan_49 (lv_at hl 5 rfl) ?_
    refine cv_v (As := [.int (nI n), .int 7, .int u]) (rest := []) (b := w) ⟨hx, hb, hml, hown, hts⟩ (c_X9_set hT (w := w) hw (n := n) (k := 7) (x := u) (by first | omega | decide | assumption) (by first | omega | decide | assumption)) (cwV 3 hts gX9_plan_X9_set rfl rfl rfl hdX9_set_v ⟨Nat.le_of_ble_eq_true rfl, Nat.le_of_ble_eq_true rfl⟩) hN hL (rcv10 hN hT hw.1) rfl rfl hl.1 (Nat.le_of_ble_eq_true rfl) dX9_plan_51 (Nat.zero_le _) (Nat.zero_le _) (fun H1 locs hL hqr475 => ?_)
    obtain ⟨hT1, hF1⟩ := hqr475
    have hF := hF.tr (hF1.mono (by simp))
    have hT := hT1
    exact en_v hx hb hr hlocks hL (Nat.zero_le _) (Nat.zero_le _) dX9_plan_54 (⟨hT, hF⟩)
  · refine lv_aload_n hx hb dX9_plan_9 rfl (lv_at hl 0 rfl) ?_
    refine lv_iload_n hx hb dX9_plan_10 rfl (lv_at hl 1 rfl) ?_
    refine lv_bipush (v := 6) hx hb dX9_plan_11 (by decide) ?_
    refine cv_i (As := [.int (nI n), .int 6]) (rest := []) (b := w) ⟨hx, hb, hml, hown, hts⟩ (c_X9_of hT (w := w) hw (n := n) (k := 6) (by first | omega | decide | assumption) (by first | omega | decide | assumption)) (cwV 2 hts gX9_plan_X9_of rfl rfl rfl hdX9_of_v ⟨Nat.le_of_ble_eq_true rfl, Nat.le_of_ble_eq_true rfl⟩) hN hL (rcv10 hN hT hw.1) rfl rfl hl.1 (Nat.le_of_ble_eq_true rfl) dX9_plan_13 (Nat.zero_le _) (Nat.zero_le _) (fun r476 H1 locs hL hqr476 => ?_)
    obtain rfl := hqr476
    refine lv_iload_n hx hb dX9_plan_16 rfl (lv_at hl 3 rfl) ?_
    refine lv_icmp_le (tgt := 21) hx hb dX9_plan_17 (by decide) (fun c477 => ?_) (fun c477 => ?_)
    · refine lv_aload_n hx hb dX9_plan_21 rfl (lv_at hl 0 rfl) ?_
      refine lv_iload_n hx hb dX9_plan_22 rfl (lv_at hl 1 rfl) ?_
      refine lv_iconst (v := 5) hx hb dX9_plan_23 (by decide) ?_
      refine lv_iload_n hx hb dX9_plan_24 rfl (lv_at hl 2 rfl) ?_
      refine cv_v (As := [.int (nI n), .int 5, .int x]) (rest := []) (b := w) ⟨hx, hb, hml, hown, hts⟩ (c_X9_set hT (w := w) hw (n := n) (k := 5) (x := x) (by first | omega | decide | assumption) (by first | omega | decide | assumption)) (cwV 3 hts gX9_plan_X9_set rfl rfl rfl hdX9_set_v ⟨Nat.le_of_ble_eq_true rfl, Nat.le_of_ble_eq_true rfl⟩) hN hL (rcv10 hN hT hw.1) rfl rfl hl.1 (Nat.le_of_ble_eq_true rfl) dX9_plan_25 (Nat.zero_le _) (Nat.zero_le _) (fun H1 locs hL hqr478 => ?_)
      obtain ⟨hT1, hF1⟩ := hqr478
      have hF := hF.tr (hF1.mono (by simp))
      have hT := hT1
      refine lv_aload_n hx hb dX9_plan_28 rfl (lv_at hl 0 rfl) ?_
      refine lv_iload_n hx hb dX9_plan_29 rfl (lv_at hl 1 rfl) ?_
      refine lv_bipush (v := 6) hx hb dX9_plan_30 (by decide) ?_
      refine lv_iload_n hx hb dX9_plan_32 rfl (lv_at hl 3 rfl) ?_
      refine cv_v (As := [.int (nI n), .int 6, .int y]) (rest := []) (b := w) ⟨hx, hb, hml, hown, hts⟩ (c_X9_set hT (w := w) hw (n := n) (k := 6) (x := y) (by first | omega | decide | assumption) (by first | omega | decide | assumption)) (cwV 3 hts gX9_plan_X9_set rfl rfl rfl hdX9_set_v ⟨Nat.le_of_ble_eq_true rfl, Nat.le_of_ble_eq_true rfl⟩) hN hL (rcv10 hN hT hw.1) rfl rfl hl.1 (Nat.le_of_ble_eq_true rfl) dX9_plan_33 (Nat.zero_le _) (Nat.zero_le _) (fun H1 locs hL hqr479 => ?_)
      obtain ⟨hT1, hF1⟩ := hqr479
      have hF := hF.tr (hF1.mono (by simp))
      have hT := hT1
      refine lv_aload_n hx hb dX9_plan_36 rfl (lv_at hl 0 rfl) ?_
      refine lv_iload_n hx hb dX9_plan_37 rfl (lv_at hl 1 rfl) ?_
      refine lv_bipush (v := 8) hx hb dX9_plan_38 (by decide) ?_
      refine lv_iload hx hb dX9_plan_40 (lv_at hl 4 rfl) ?_
      refine cv_v (As := [.int (nI n), .int 8, .int z]) (rest := []) (b := w) ⟨hx, hb, hml, hown, hts⟩ (c_X9_set hT (w := w) hw (n := n) (k := 8) (x := z) (by first | omega | decide | assumption) (by first | omega | decide | assumption)) (cwV 3 hts gX9_plan_X9_set rfl rfl rfl hdX9_set_v ⟨Nat.le_of_ble_eq_true rfl, Nat.le_of_ble_eq_true rfl⟩) hN hL (rcv10 hN hT hw.1) rfl rfl hl.1 (Nat.le_of_ble_eq_true rfl) dX9_plan_42 (Nat.zero_le _) (Nat.zero_le _) (fun H1 locs hL hqr480 => ?_)
      obtain ⟨hT1, hF1⟩ := hqr480
      have hF := hF.tr (hF1.mono (by simp))
      have hT := hT1
      refine lv_aload_n hx hb dX9_plan_45 rfl (lv_at hl 0 rfl) ?_
      refine lv_iload_n hx hb dX9_plan_46 rfl (lv_at hl 1 rfl) ?_
      refine lv_bipush (v := 7) hx hb dX9_plan_47 (by decide) ?_
      refine lv_iload hx hb dX9_plan_49 (lv_at hl 5 rfl) ?_
      refine cv_v (As := [.int (nI n), .int 7, .int u]) (rest := []) (b := w) ⟨hx, hb, hml, hown, hts⟩ (c_X9_set hT (w := w) hw (n := n) (k := 7) (x := u) (by first | omega | decide | assumption) (by first | omega | decide | assumption)) (cwV 3 hts gX9_plan_X9_set rfl rfl rfl hdX9_set_v ⟨Nat.le_of_ble_eq_true rfl, Nat.le_of_ble_eq_true rfl⟩) hN hL (rcv10 hN hT hw.1) rfl rfl hl.1 (Nat.le_of_ble_eq_true rfl) dX9_plan_51 (Nat.zero_le _) (Nat.zero_le _) (fun H1 locs hL hqr481 => ?_)
      obtain ⟨hT1, hF1⟩ := hqr481
      have hF := hF.tr (hF1.mono (by simp))
      have hT := hT1
      exact en_v hx hb hr hlocks hL (Nat.zero_le _) (Nat.zero_le _) dX9_plan_54 (⟨hT, hF⟩)
    · exact en_v hx hb hr hlocks hL (Nat.zero_le _) (Nat.zero_le _) dX9_plan_20 (⟨hT, hF⟩)
set_option maxHeartbeats 4000000 in
set_option maxRecDepth 100000 in
theorem c_X9_dropPlan {l : Launch} {D : va_G} {cs : Nat → ClassId} {B0 T : Nat} {κ : KM} {H0 : Heap} (hT : WT B0 D cs T κ H0) {w : Nat} (hw : T2 κ w 10 12) {n : Nat} (hn : n < 8) : KC l yX9_dropPlan wsX9_dropPlan 2 43 0 0 D cs B0 H0 [.ref w, .int (nI n)] (Qv (fun H => WT B0 D cs T κ H ∧ Fr B0 [12] κ H0 H)) := by
  refine KC.of cX9_dropPlan 2 none (by decide) rfl (Nat.le_of_ble_eq_true rfl) ?_
  intro p e s m below meth c ls hx hb hr hml hown hts hlocks hin hN hH0 hl
  have hown : s.vm.findClass RX9 = some m.cls := hown
  have hl : lv_has ls 2 [(0, .ref w), (1, .int (nI n))] := hl
  have hL : OkL B0 [] := OkL.nil
  have hF : Fr B0 [12] κ H0 H0 := Fr.rf
  refine lv_aload_n hx hb dX9_dropPlan_0 rfl (lv_at hl 0 rfl) ?_
  refine lv_iload_n hx hb dX9_dropPlan_1 rfl (lv_at hl 1 rfl) ?_
  refine lv_iconst (v := 5) hx hb dX9_dropPlan_2 (by decide) ?_
  refine lv_iconst (v := 0) hx hb dX9_dropPlan_3 (by decide) ?_
  refine cv_v (As := [.int (nI n), .int 5, .int 0]) (rest := []) (b := w) ⟨hx, hb, hml, hown, hts⟩ (c_X9_set hT (w := w) hw (n := n) (k := 5) (x := 0) (by first | omega | decide | assumption) (by first | omega | decide | assumption)) (cwV 3 hts gX9_dropPlan_X9_set rfl rfl rfl hdX9_set_v ⟨Nat.le_of_ble_eq_true rfl, Nat.le_of_ble_eq_true rfl⟩) hN hL (rcv10 hN hT hw.1) rfl rfl hl.1 (Nat.le_of_ble_eq_true rfl) dX9_dropPlan_4 (Nat.zero_le _) (Nat.zero_le _) (fun H1 locs hL hqr482 => ?_)
  obtain ⟨hT1, hF1⟩ := hqr482
  have hF := hF.tr (hF1.mono (by simp))
  have hT := hT1
  refine lv_aload_n hx hb dX9_dropPlan_7 rfl (lv_at hl 0 rfl) ?_
  refine lv_iload_n hx hb dX9_dropPlan_8 rfl (lv_at hl 1 rfl) ?_
  refine lv_bipush (v := 6) hx hb dX9_dropPlan_9 (by decide) ?_
  refine lv_iconst (v := (-1)) hx hb dX9_dropPlan_11 (by decide) ?_
  refine cv_v (As := [.int (nI n), .int 6, .int (-1)]) (rest := []) (b := w) ⟨hx, hb, hml, hown, hts⟩ (c_X9_set hT (w := w) hw (n := n) (k := 6) (x := (-1)) (by first | omega | decide | assumption) (by first | omega | decide | assumption)) (cwV 3 hts gX9_dropPlan_X9_set rfl rfl rfl hdX9_set_v ⟨Nat.le_of_ble_eq_true rfl, Nat.le_of_ble_eq_true rfl⟩) hN hL (rcv10 hN hT hw.1) rfl rfl hl.1 (Nat.le_of_ble_eq_true rfl) dX9_dropPlan_12 (Nat.zero_le _) (Nat.zero_le _) (fun H1 locs hL hqr483 => ?_)
  obtain ⟨hT1, hF1⟩ := hqr483
  have hF := hF.tr (hF1.mono (by simp))
  have hT := hT1
  exact en_v hx hb hr hlocks hL (Nat.zero_le _) (Nat.zero_le _) dX9_dropPlan_15 (⟨hT, hF⟩)
theorem mX9_vote_1 : (.fieldLink RX9 18 "OneBeatModel" "data" "[I" : Cond) ∈ wsX9_vote := List.mem_of_getElem? (i := 1) (by decide +kernel)
theorem iX9_vote_9 : ∀ w ∈ wsX90, w ∈ wsX9_vote := fun w h => List.mem_of_mem_drop (List.mem_of_mem_take ((show wsX90 = (wsX9_vote.drop 29).take 18 by decide +kernel) ▸ h))
theorem hdX9_plan_v : yX9_plan.cls = RX9 ∧ yX9_plan.cls ≠ "java/lang/invoke/MethodHandle" ∧ yX9_plan.cls ≠ "java/lang/invoke/VarHandle" ∧ (parseMethodDescriptor yX9_plan.desc).map (fun d => d.parameters.length) = some 5 := by decide +kernel
theorem hdX9_sendToOthers_v : yX9_sendToOthers.cls = RX9 ∧ yX9_sendToOthers.cls ≠ "java/lang/invoke/MethodHandle" ∧ yX9_sendToOthers.cls ≠ "java/lang/invoke/VarHandle" ∧ (parseMethodDescriptor yX9_sendToOthers.desc).map (fun d => d.parameters.length) = some 5 := by decide +kernel
set_option maxHeartbeats 4000000 in
set_option maxRecDepth 100000 in
theorem c_X9_vote {l : Launch} {D : va_G} {cs : Nat → ClassId} {B0 T : Nat} {κ : KM} {H0 : Heap} (hT : WT B0 D cs T κ H0) {w : Nat} (hw : T2 κ w 10 12) : KC l yX9_vote wsX9_vote 3 76 0 0 D cs B0 H0 [.ref w] (Qv (fun H => WT B0 D cs T κ H ∧ Fr B0 [12] κ H0 H)) := by
  refine KC.of cX9_vote 1 none (by decide) rfl (Nat.le_of_ble_eq_true rfl) ?_
  intro p e s m below meth c ls hx hb hr hml hown hts hlocks hin hN hH0 hl
  have hown : s.vm.findClass RX9 = some m.cls := hown
  have hl : lv_has ls 1 [(0, .ref w)] := hl
  have hL : OkL B0 [] := OkL.nil
  have hF : Fr B0 [12] κ H0 H0 := Fr.rf
  refine lv_aload_n hx hb dX9_vote_0 rfl (lv_at hl 0 rfl) ?_
  obtain ⟨hb484, e484, hat484, hk484⟩ := hT.o10 hw.1
  obtain ⟨f484_0, f484_1, f484_3, f484_4, f484_5, f484_6, f484_7, f484_8, f484_9, f484_10, f484_11, f484_12, f484_13, f484_14, f484_15, f484_16, f484_17, rfl, c484_2, c484_3, c484_4, c484_12, t484_1, t484_8, t484_9, c484_sd, t484_10, t484_11, t484_17⟩ := hk484
  have hP : va_P D vwCl [(w, .inr (9, [.int f484_0, .ref f484_1, .int (nI ((κ w).2.2.1)), .int (nI f484_3), .int (nI f484_4), .int f484_5, .int f484_6, .int f484_7, .ref f484_8, .ref f484_9, .ref f484_10, .ref f484_11, .int (nI f484_12), .int f484_13, .int f484_14, .int f484_15, .int f484_16, .ref f484_17]))] _ := va_P.cons hat484 va_P.nil
  refine va_get (D := D) (ci := 9) (v := .ref f484_8) (C := RX9) (T := TX9) (N := 18) hx hb hts iX9_vote_9 hown hN.1 hP 0 rfl rfl 8 (by decide) (hts _ mX9_vote_1) (fun _ h9 => h9) rfl dX9_vote_1 ?_
  refine lv_bipush (v := 19) hx hb dX9_vote_4 (by decide) ?_
  refine lv_dup2_11 hx hb dX9_vote_6 rfl rfl ?_
  obtain ⟨hb485, e485, hat485, hk485⟩ := hT.o24 t484_8.1
  obtain ⟨g485, rfl, q485⟩ := hk485
  have hP : va_P D vwCl [(f484_8, .inl (cs 0, 45783, .inl g485)), (w, .inr (9, [.int f484_0, .ref f484_1, .int (nI ((κ w).2.2.1)), .int (nI f484_3), .int (nI f484_4), .int f484_5, .int f484_6, .int f484_7, .ref f484_8, .ref f484_9, .ref f484_10, .ref f484_11, .int (nI f484_12), .int f484_13, .int f484_14, .int f484_15, .int f484_16, .ref f484_17]))] _ := va_P.cons hat485 hP
  refine ld_i (v := (g485 19)) hx hb hN hP 0 rfl (vp_in_nI (n := 19) (N := 45783) (by omega) (by omega)) (by rw [(show (19 : Int32).toNatClampNeg = 19 from nI_clamp (n := 19) (by omega))]) dX9_vote_7 ?_
  refine gn_i (fun x486 => ?_)
  refine lv_iconst (v := 1) hx hb dX9_vote_8 (by decide) ?_
  refine lv_iadd hx hb dX9_vote_9 ?_
  refine gn_i (fun x487 => ?_)
  have hB : Bx B0 D _ [(f484_8, .inl (cs 0, 45783, .inl g485)), (w, .inr (9, [.int f484_0, .ref f484_1, .int (nI ((κ w).2.2.1)), .int (nI f484_3), .int (nI f484_4), .int f484_5, .int f484_6, .int f484_7, .ref f484_8, .ref f484_9, .ref f484_10, .ref f484_11, .int (nI f484_12), .int f484_13, .int f484_14, .int f484_15, .int f484_16, .ref f484_17]))] [] _ _ := Bx.of (fun a => (κ a).1) hL hP (fa_c hb485 (fa_c hb484 fa_n)) (by simp only [List.map_cons, List.map_nil, t484_8.1, hw.1]; decide)
  refine b_i hx hb hN hB 0 rfl (vp_in_nI (n := 19) (N := 45783) (by omega) (by omega)) (.inl rfl) dX9_vote_10 (fun H locs hB => ?_)
  rw [(show (19 : Int32).toNatClampNeg = 19 from nI_clamp (n := 19) (by omega))] at hB
  have hB : Bx B0 D _ [(f484_8, .inl (cs 0, 45783, .inl (upd g485 19 x487))), (w, .inr (9, [.int f484_0, .ref f484_1, .int (nI ((κ w).2.2.1)), .int (nI f484_3), .int (nI f484_4), .int f484_5, .int f484_6, .int f484_7, .ref f484_8, .ref f484_9, .ref f484_10, .ref f484_11, .int (nI f484_12), .int f484_13, .int f484_14, .int f484_15, .int f484_16, .ref f484_17]))] [f484_8] _ _ := hB
  have z488 := DOK.sf q485 (k := 19) (by omega) (x := x487)
  refine lv_aload_n hx hb dX9_vote_11 rfl (lv_at hl 0 rfl) ?_
  refine va_get (D := D) (ci := 9) (v := .ref f484_8) (C := RX9) (T := TX9) (N := 18) hx hb hts iX9_vote_9 hown hN.1 hB.1 1 rfl rfl 8 (by decide) (hts _ mX9_vote_1) (fun _ h9 => h9) rfl dX9_vote_12 ?_
  refine lv_bipush (v := 19) hx hb dX9_vote_15 (by decide) ?_
  refine ld_i (v := ((upd g485 19 x487) 19)) hx hb hN hB.1 0 rfl (vp_in_nI (n := 19) (N := 45783) (by omega) (by omega)) (by rw [(show (19 : Int32).toNatClampNeg = 19 from nI_clamp (n := 19) (by omega))]) dX9_vote_17 ?_
  refine gn_i (fun x489 => ?_)
  refine lv_aload_n hx hb dX9_vote_18 rfl (lv_at hl 0 rfl) ?_
  refine va_get (D := D) (ci := 9) (v := .ref f484_8) (C := RX9) (T := TX9) (N := 18) hx hb hts iX9_vote_9 hown hN.1 hB.1 1 rfl rfl 8 (by decide) (hts _ mX9_vote_1) (fun _ h9 => h9) rfl dX9_vote_19 ?_
  refine lv_bipush (v := 11) hx hb dX9_vote_22 (by decide) ?_
  refine ld_i (v := ((upd g485 19 x487) 11)) hx hb hN hB.1 0 rfl (vp_in_nI (n := 11) (N := 45783) (by omega) (by omega)) (by rw [(show (11 : Int32).toNatClampNeg = 11 from nI_clamp (n := 11) (by omega))]) dX9_vote_24 ?_
  refine gn_i (fun x490 => ?_)
  refine lv_icmp_ge (tgt := 29) hx hb dX9_vote_25 (by decide) (fun c491 => ?_) (fun c491 => ?_)
  · refine lv_aload_n hx hb dX9_vote_29 rfl (lv_at hl 0 rfl) ?_
    refine va_get (D := D) (ci := 9) (v := .ref f484_8) (C := RX9) (T := TX9) (N := 18) hx hb hts iX9_vote_9 hown hN.1 hB.1 1 rfl rfl 8 (by decide) (hts _ mX9_vote_1) (fun _ h9 => h9) rfl dX9_vote_30 ?_
    refine lv_bipush (v := 20) hx hb dX9_vote_33 (by decide) ?_
    refine lv_iconst (v := 1) hx hb dX9_vote_35 (by decide) ?_
    refine b_i hx hb hN hB 0 rfl (vp_in_nI (n := 20) (N := 45783) (by omega) (by omega)) (.inr ⟨rfl, List.mem_of_getElem? (i := 0) rfl⟩) dX9_vote_36 (fun H locs hB => ?_)
    rw [(show (20 : Int32).toNatClampNeg = 20 from nI_clamp (n := 20) (by omega))] at hB
    have hB : Bx B0 D _ [(f484_8, .inl (cs 0, 45783, .inl (upd (upd g485 19 x487) 20 1))), (w, .inr (9, [.int f484_0, .ref f484_1, .int (nI ((κ w).2.2.1)), .int (nI f484_3), .int (nI f484_4), .int f484_5, .int f484_6, .int f484_7, .ref f484_8, .ref f484_9, .ref f484_10, .ref f484_11, .int (nI f484_12), .int f484_13, .int f484_14, .int f484_15, .int f484_16, .ref f484_17]))] [f484_8] _ _ := hB
    have z492 := DOK.sf z488 (k := 20) (by omega) (x := 1)
    refine lv_aload_n hx hb dX9_vote_37 rfl (lv_at hl 0 rfl) ?_
    refine va_get (D := D) (ci := 9) (v := .ref f484_8) (C := RX9) (T := TX9) (N := 18) hx hb hts iX9_vote_9 hown hN.1 hB.1 1 rfl rfl 8 (by decide) (hts _ mX9_vote_1) (fun _ h9 => h9) rfl dX9_vote_38 ?_
    refine lv_bipush (v := 7) hx hb dX9_vote_41 (by decide) ?_
    refine lv_dup2_11 hx hb dX9_vote_43 rfl rfl ?_
    refine ld_i (v := ((upd (upd g485 19 x487) 20 1) 7)) hx hb hN hB.1 0 rfl (vp_in_nI (n := 7) (N := 45783) (by omega) (by omega)) (by rw [(show (7 : Int32).toNatClampNeg = 7 from nI_clamp (n := 7) (by omega))]) dX9_vote_44 ?_
    refine gn_i (fun x493 => ?_)
    refine lv_iconst (v := 1) hx hb dX9_vote_45 (by decide) ?_
    refine lv_iadd hx hb dX9_vote_46 ?_
    refine gn_i (fun x494 => ?_)
    refine b_i hx hb hN hB 0 rfl (vp_in_nI (n := 7) (N := 45783) (by omega) (by omega)) (.inr ⟨rfl, List.mem_of_getElem? (i := 0) rfl⟩) dX9_vote_47 (fun H locs hB => ?_)
    rw [(show (7 : Int32).toNatClampNeg = 7 from nI_clamp (n := 7) (by omega))] at hB
    have hB : Bx B0 D _ [(f484_8, .inl (cs 0, 45783, .inl (upd (upd (upd g485 19 x487) 20 1) 7 x494))), (w, .inr (9, [.int f484_0, .ref f484_1, .int (nI ((κ w).2.2.1)), .int (nI f484_3), .int (nI f484_4), .int f484_5, .int f484_6, .int f484_7, .ref f484_8, .ref f484_9, .ref f484_10, .ref f484_11, .int (nI f484_12), .int f484_13, .int f484_14, .int f484_15, .int f484_16, .ref f484_17]))] [f484_8] _ _ := hB
    have z495 := DOK.sf z492 (k := 7) (by omega) (x := x494)
    refine lv_aload_n hx hb dX9_vote_48 rfl (lv_at hl 0 rfl) ?_
    refine lv_aload_n hx hb dX9_vote_49 rfl (lv_at hl 0 rfl) ?_
    refine va_get (D := D) (ci := 9) (v := .ref f484_8) (C := RX9) (T := TX9) (N := 18) hx hb hts iX9_vote_9 hown hN.1 hB.1 1 rfl rfl 8 (by decide) (hts _ mX9_vote_1) (fun _ h9 => h9) rfl dX9_vote_50 ?_
    refine lv_bipush (v := 18) hx hb dX9_vote_53 (by decide) ?_
    refine ld_i (v := ((upd (upd (upd g485 19 x487) 20 1) 7 x494) 18)) hx hb hN hB.1 0 rfl (vp_in_nI (n := 18) (N := 45783) (by omega) (by omega)) (by rw [(show (18 : Int32).toNatClampNeg = 18 from nI_clamp (n := 18) (by omega))]) dX9_vote_55 ?_
    obtain ⟨n496, hn496, en496⟩ := z495.2.2.2.2.2
    refine tp_i (nI n496) en496 ?_
    refine lv_iconst (v := 2) hx hb dX9_vote_56 (by decide) ?_
    refine lv_aload_n hx hb dX9_vote_57 rfl (lv_at hl 0 rfl) ?_
    refine va_get (D := D) (ci := 9) (v := .ref f484_8) (C := RX9) (T := TX9) (N := 18) hx hb hts iX9_vote_9 hown hN.1 hB.1 1 rfl rfl 8 (by decide) (hts _ mX9_vote_1) (fun _ h9 => h9) rfl dX9_vote_58 ?_
    refine lv_bipush (v := 6) hx hb dX9_vote_61 (by decide) ?_
    refine ld_i (v := ((upd (upd (upd g485 19 x487) 20 1) 7 x494) 6)) hx hb hN hB.1 0 rfl (vp_in_nI (n := 6) (N := 45783) (by omega) (by omega)) (by rw [(show (6 : Int32).toNatClampNeg = 6 from nI_clamp (n := 6) (by omega))]) dX9_vote_63 ?_
    refine gn_i (fun x497 => ?_)
    refine lv_iconst (v := 1) hx hb dX9_vote_64 (by decide) ?_
    refine lv_isub hx hb dX9_vote_65 ?_
    refine gn_i (fun x498 => ?_)
    refine lv_aload_n hx hb dX9_vote_66 rfl (lv_at hl 0 rfl) ?_
    refine va_get (D := D) (ci := 9) (v := .ref f484_8) (C := RX9) (T := TX9) (N := 18) hx hb hts iX9_vote_9 hown hN.1 hB.1 1 rfl rfl 8 (by decide) (hts _ mX9_vote_1) (fun _ h9 => h9) rfl dX9_vote_67 ?_
    refine lv_bipush (v := 16) hx hb dX9_vote_70 (by decide) ?_
    refine ld_i (v := ((upd (upd (upd g485 19 x487) 20 1) 7 x494) 16)) hx hb hN hB.1 0 rfl (vp_in_nI (n := 16) (N := 45783) (by omega) (by omega)) (by rw [(show (16 : Int32).toNatClampNeg = 16 from nI_clamp (n := 16) (by omega))]) dX9_vote_72 ?_
    refine gn_i (fun x499 => ?_)
    refine lv_aload_n hx hb dX9_vote_73 rfl (lv_at hl 0 rfl) ?_
    refine va_get (D := D) (ci := 9) (v := .ref f484_8) (C := RX9) (T := TX9) (N := 18) hx hb hts iX9_vote_9 hown hN.1 hB.1 1 rfl rfl 8 (by decide) (hts _ mX9_vote_1) (fun _ h9 => h9) rfl dX9_vote_74 ?_
    refine lv_bipush (v := 15) hx hb dX9_vote_77 (by decide) ?_
    refine ld_i (v := ((upd (upd (upd g485 19 x487) 20 1) 7 x494) 15)) hx hb hN hB.1 0 rfl (vp_in_nI (n := 15) (N := 45783) (by omega) (by omega)) (by rw [(show (15 : Int32).toNatClampNeg = 15 from nI_clamp (n := 15) (by omega))]) dX9_vote_79 ?_
    refine gn_i (fun x500 => ?_)
    have hT : WT B0 D cs T κ _ := hT.close hB ⟨⟨0, _, rfl, ok_24 t484_8.1 ⟨_, rfl, z495⟩⟩, trivial⟩
    have hF : Fr B0 [12] κ H0 _ := hF.close hB (fa_c (by simp [t484_8.2]) fa_n)
    have hL : OkL B0 _ := hB.2.2.2.2.2
    have hP : va_P D vwCl [(f484_8, .inl (cs 0, 45783, .inl (upd (upd (upd g485 19 x487) 20 1) 7 x494))), (w, .inr (9, [.int f484_0, .ref f484_1, .int (nI ((κ w).2.2.1)), .int (nI f484_3), .int (nI f484_4), .int f484_5, .int f484_6, .int f484_7, .ref f484_8, .ref f484_9, .ref f484_10, .ref f484_11, .int (nI f484_12), .int f484_13, .int f484_14, .int f484_15, .int f484_16, .ref f484_17]))] _ := hB.1
    refine cv_v (As := [.int (nI n496), .int 2, .int x498, .int x499, .int x500]) (rest := []) (b := w) ⟨hx, hb, hml, hown, hts⟩ (c_X9_plan hT (w := w) hw (n := n496) (x := 2) (y := x498) (z := x499) (u := x500) (by first | omega | decide | assumption)) (cwV 5 hts gX9_vote_X9_plan rfl rfl rfl hdX9_plan_v ⟨Nat.le_of_ble_eq_true rfl, Nat.le_of_ble_eq_true rfl⟩) hN hL (rcv10 hN hT hw.1) rfl rfl hl.1 (Nat.le_of_ble_eq_true rfl) dX9_vote_80 (Nat.zero_le _) (Nat.zero_le _) (fun H1 locs hL hqr501 => ?_)
    obtain ⟨hT1, hF1⟩ := hqr501
    have hF := hF.tr (hF1.mono (by simp))
    have hT := hT1
    refine lv_aload_n hx hb dX9_vote_83 rfl (lv_at hl 0 rfl) ?_
    refine lv_iconst (v := 4) hx hb dX9_vote_84 (by decide) ?_
    refine lv_aload_n hx hb dX9_vote_85 rfl (lv_at hl 0 rfl) ?_
    obtain ⟨hb502, e502, hat502, hk502⟩ := hT.o10 hw.1
    obtain ⟨f502_0, f502_1, f502_3, f502_4, f502_5, f502_6, f502_7, f502_8, f502_9, f502_10, f502_11, f502_12, f502_13, f502_14, f502_15, f502_16, f502_17, rfl, c502_2, c502_3, c502_4, c502_12, t502_1, t502_8, t502_9, c502_sd, t502_10, t502_11, t502_17⟩ := hk502
    have hP : va_P D vwCl [(w, .inr (9, [.int f502_0, .ref f502_1, .int (nI ((κ w).2.2.1)), .int (nI f502_3), .int (nI f502_4), .int f502_5, .int f502_6, .int f502_7, .ref f502_8, .ref f502_9, .ref f502_10, .ref f502_11, .int (nI f502_12), .int f502_13, .int f502_14, .int f502_15, .int f502_16, .ref f502_17]))] _ := va_P.cons hat502 va_P.nil
    refine va_get (D := D) (ci := 9) (v := .ref f502_8) (C := RX9) (T := TX9) (N := 18) hx hb hts iX9_vote_9 hown hN.1 hP 0 rfl rfl 8 (by decide) (hts _ mX9_vote_1) (fun _ h9 => h9) rfl dX9_vote_86 ?_
    refine lv_bipush (v := 18) hx hb dX9_vote_89 (by decide) ?_
    obtain ⟨hb503, e503, hat503, hk503⟩ := hT.o24 t502_8.1
    obtain ⟨g503, rfl, q503⟩ := hk503
    have hP : va_P D vwCl [(f502_8, .inl (cs 0, 45783, .inl g503)), (w, .inr (9, [.int f502_0, .ref f502_1, .int (nI ((κ w).2.2.1)), .int (nI f502_3), .int (nI f502_4), .int f502_5, .int f502_6, .int f502_7, .ref f502_8, .ref f502_9, .ref f502_10, .ref f502_11, .int (nI f502_12), .int f502_13, .int f502_14, .int f502_15, .int f502_16, .ref f502_17]))] _ := va_P.cons hat503 hP
    refine ld_i (v := (g503 18)) hx hb hN hP 0 rfl (vp_in_nI (n := 18) (N := 45783) (by omega) (by omega)) (by rw [(show (18 : Int32).toNatClampNeg = 18 from nI_clamp (n := 18) (by omega))]) dX9_vote_91 ?_
    obtain ⟨n504, hn504, en504⟩ := q503.2.2.2.2.2
    refine tp_i (nI n504) en504 ?_
    refine lv_aload_n hx hb dX9_vote_92 rfl (lv_at hl 0 rfl) ?_
    refine va_get (D := D) (ci := 9) (v := .ref f502_8) (C := RX9) (T := TX9) (N := 18) hx hb hts iX9_vote_9 hown hN.1 hP 1 rfl rfl 8 (by decide) (hts _ mX9_vote_1) (fun _ h9 => h9) rfl dX9_vote_93 ?_
    refine lv_bipush (v := 6) hx hb dX9_vote_96 (by decide) ?_
    refine ld_i (v := (g503 6)) hx hb hN hP 0 rfl (vp_in_nI (n := 6) (N := 45783) (by omega) (by omega)) (by rw [(show (6 : Int32).toNatClampNeg = 6 from nI_clamp (n := 6) (by omega))]) dX9_vote_98 ?_
    refine gn_i (fun x505 => ?_)
    refine lv_iconst (v := 1) hx hb dX9_vote_99 (by decide) ?_
    refine lv_isub hx hb dX9_vote_100 ?_
    refine gn_i (fun x506 => ?_)
    refine lv_aload_n hx hb dX9_vote_101 rfl (lv_at hl 0 rfl) ?_
    refine va_get (D := D) (ci := 9) (v := .ref f502_8) (C := RX9) (T := TX9) (N := 18) hx hb hts iX9_vote_9 hown hN.1 hP 1 rfl rfl 8 (by decide) (hts _ mX9_vote_1) (fun _ h9 => h9) rfl dX9_vote_102 ?_
    refine lv_bipush (v := 16) hx hb dX9_vote_105 (by decide) ?_
    refine ld_i (v := (g503 16)) hx hb hN hP 0 rfl (vp_in_nI (n := 16) (N := 45783) (by omega) (by omega)) (by rw [(show (16 : Int32).toNatClampNeg = 16 from nI_clamp (n := 16) (by omega))]) dX9_vote_107 ?_
    refine gn_i (fun x507 => ?_)
    refine lv_aload_n hx hb dX9_vote_108 rfl (lv_at hl 0 rfl) ?_
    refine va_get (D := D) (ci := 9) (v := .ref f502_8) (C := RX9) (T := TX9) (N := 18) hx hb hts iX9_vote_9 hown hN.1 hP 1 rfl rfl 8 (by decide) (hts _ mX9_vote_1) (fun _ h9 => h9) rfl dX9_vote_109 ?_
    refine lv_bipush (v := 15) hx hb dX9_vote_112 (by decide) ?_
    refine ld_i (v := (g503 15)) hx hb hN hP 0 rfl (vp_in_nI (n := 15) (N := 45783) (by omega) (by omega)) (by rw [(show (15 : Int32).toNatClampNeg = 15 from nI_clamp (n := 15) (by omega))]) dX9_vote_114 ?_
    refine gn_i (fun x508 => ?_)
    refine cv_v (As := [.int 4, .int (nI n504), .int x506, .int x507, .int x508]) (rest := []) (b := w) ⟨hx, hb, hml, hown, hts⟩ (c_X9_sendToOthers hT (w := w) hw (x := 4) (n := n504) (y := x506) (z := x507) (u := x508) (by first | omega | decide | assumption) (by first | omega | decide | assumption)) (cwV 5 hts gX9_vote_X9_sendToOthers rfl rfl rfl hdX9_sendToOthers_v ⟨Nat.le_of_ble_eq_true rfl, Nat.le_of_ble_eq_true rfl⟩) hN hL (rcv10 hN hT hw.1) rfl rfl hl.1 (Nat.le_of_ble_eq_true rfl) dX9_vote_115 (Nat.zero_le _) (Nat.zero_le _) (fun H1 locs hL hqr509 => ?_)
    obtain ⟨hT1, hF1⟩ := hqr509
    have hF := hF.tr (hF1.mono (by simp))
    have hT := hT1
    exact en_v hx hb hr hlocks hL (Nat.zero_le _) (Nat.zero_le _) dX9_vote_118 (⟨hT, hF⟩)
  · have hT : WT B0 D cs T κ _ := hT.close hB ⟨⟨0, _, rfl, ok_24 t484_8.1 ⟨_, rfl, z488⟩⟩, trivial⟩
    have hF : Fr B0 [12] κ H0 _ := hF.close hB (fa_c (by simp [t484_8.2]) fa_n)
    have hL : OkL B0 _ := hB.2.2.2.2.2
    have hP : va_P D vwCl [(f484_8, .inl (cs 0, 45783, .inl (upd g485 19 x487))), (w, .inr (9, [.int f484_0, .ref f484_1, .int (nI ((κ w).2.2.1)), .int (nI f484_3), .int (nI f484_4), .int f484_5, .int f484_6, .int f484_7, .ref f484_8, .ref f484_9, .ref f484_10, .ref f484_11, .int (nI f484_12), .int f484_13, .int f484_14, .int f484_15, .int f484_16, .ref f484_17]))] _ := hB.1
    exact en_v hx hb hr hlocks hL (Nat.zero_le _) (Nat.zero_le _) dX9_vote_28 (⟨hT, hF⟩)
theorem hdX9_isUp_v : yX9_isUp.cls = RX9 ∧ yX9_isUp.cls ≠ "java/lang/invoke/MethodHandle" ∧ yX9_isUp.cls ≠ "java/lang/invoke/VarHandle" ∧ (parseMethodDescriptor yX9_isUp.desc).map (fun d => d.parameters.length) = some 1 := by decide +kernel
theorem mX9_handle_1 : (.fieldLink RX9 18 "OneBeatModel" "data" "[I" : Cond) ∈ wsX9_handle := List.mem_of_getElem? (i := 1) (by decide +kernel)
theorem iX9_handle_9 : ∀ w ∈ wsX90, w ∈ wsX9_handle := fun w h => List.mem_of_mem_drop (List.mem_of_mem_take ((show wsX90 = (wsX9_handle.drop 49).take 18 by decide +kernel) ▸ h))
theorem hdX9_dropPlan_v : yX9_dropPlan.cls = RX9 ∧ yX9_dropPlan.cls ≠ "java/lang/invoke/MethodHandle" ∧ yX9_dropPlan.cls ≠ "java/lang/invoke/VarHandle" ∧ (parseMethodDescriptor yX9_dropPlan.desc).map (fun d => d.parameters.length) = some 1 := by decide +kernel
theorem hdX9_isOpen_v : yX9_isOpen.cls = RX9 ∧ yX9_isOpen.cls ≠ "java/lang/invoke/MethodHandle" ∧ yX9_isOpen.cls ≠ "java/lang/invoke/VarHandle" ∧ (parseMethodDescriptor yX9_isOpen.desc).map (fun d => d.parameters.length) = some 0 := by decide +kernel
theorem hdX9_vote_v : yX9_vote.cls = RX9 ∧ yX9_vote.cls ≠ "java/lang/invoke/MethodHandle" ∧ yX9_vote.cls ≠ "java/lang/invoke/VarHandle" ∧ (parseMethodDescriptor yX9_vote.desc).map (fun d => d.parameters.length) = some 0 := by decide +kernel
set_option maxHeartbeats 4000000 in
set_option maxRecDepth 100000 in
theorem c_X9_handle {l : Launch} {D : va_G} {cs : Nat → ClassId} {B0 T : Nat} {κ : KM} {H0 : Heap} (hT : WT B0 D cs T κ H0) {w : Nat} (hw : T2 κ w 10 12) {x : Int32} {n : Nat} (hn : n < 8) {k : Nat} (hk : k < 8) {y : Int32} {z : Int32} {u : Int32} : KC l yX9_handle wsX9_handle 4 96 0 0 D cs B0 H0 [.ref w, .int x, .int (nI n), .int (nI k), .int y, .int z, .int u] (Qv (fun H => WT B0 D cs T κ H ∧ Fr B0 [12] κ H0 H)) := by
  refine KC.of cX9_handle 7 none (by decide) rfl (Nat.le_of_ble_eq_true rfl) ?_
  intro p e s m below meth c ls hx hb hr hml hown hts hlocks hin hN hH0 hl
  have hown : s.vm.findClass RX9 = some m.cls := hown
  have hl : lv_has ls 7 [(0, .ref w), (1, .int x), (2, .int (nI n)), (3, .int (nI k)), (4, .int y), (5, .int z), (6, .int u)] := hl
  have hL : OkL B0 [] := OkL.nil
  have hF : Fr B0 [12] κ H0 H0 := Fr.rf
  refine lv_aload_n hx hb dX9_handle_0 rfl (lv_at hl 0 rfl) ?_
  refine lv_iload_n hx hb dX9_handle_1 rfl (lv_at hl 3 rfl) ?_
  refine cv_i (As := [.int (nI k)]) (rest := []) (b := w) ⟨hx, hb, hml, hown, hts⟩ (c_X9_isUp hT (w := w) hw (n := k) (by first | omega | decide | assumption)) (cwV 1 hts gX9_handle_X9_isUp rfl rfl rfl hdX9_isUp_v ⟨Nat.le_of_ble_eq_true rfl, Nat.le_of_ble_eq_true rfl⟩) hN hL (rcv10 hN hT hw.1) rfl rfl hl.1 (Nat.le_of_ble_eq_true rfl) dX9_handle_2 (Nat.zero_le _) (Nat.zero_le _) (fun r510 H1 locs hL hqr510 => ?_)
  obtain ⟨rfl, hqr510⟩ := hqr510
  rcases hqr510 with rfl | rfl
  · refine lv_if_ne (tgt := 19) hx hb dX9_handle_5 (by decide) (fun c9 => absurd (by decide) c9) (fun _ => ?_)
    refine lv_aload_n hx hb dX9_handle_8 rfl (lv_at hl 0 rfl) ?_
    obtain ⟨hb511, e511, hat511, hk511⟩ := hT.o10 hw.1
    obtain ⟨f511_0, f511_1, f511_3, f511_4, f511_5, f511_6, f511_7, f511_8, f511_9, f511_10, f511_11, f511_12, f511_13, f511_14, f511_15, f511_16, f511_17, rfl, c511_2, c511_3, c511_4, c511_12, t511_1, t511_8, t511_9, c511_sd, t511_10, t511_11, t511_17⟩ := hk511
    have hP : va_P D vwCl [(w, .inr (9, [.int f511_0, .ref f511_1, .int (nI ((κ w).2.2.1)), .int (nI f511_3), .int (nI f511_4), .int f511_5, .int f511_6, .int f511_7, .ref f511_8, .ref f511_9, .ref f511_10, .ref f511_11, .int (nI f511_12), .int f511_13, .int f511_14, .int f511_15, .int f511_16, .ref f511_17]))] _ := va_P.cons hat511 va_P.nil
    refine va_get (D := D) (ci := 9) (v := .ref f511_8) (C := RX9) (T := TX9) (N := 18) hx hb hts iX9_handle_9 hown hN.1 hP 0 rfl rfl 8 (by decide) (hts _ mX9_handle_1) (fun _ h9 => h9) rfl dX9_handle_9 ?_
    refine lv_iconst (v := 5) hx hb dX9_handle_12 (by decide) ?_
    refine lv_dup2_11 hx hb dX9_handle_13 rfl rfl ?_
    obtain ⟨hb512, e512, hat512, hk512⟩ := hT.o24 t511_8.1
    obtain ⟨g512, rfl, q512⟩ := hk512
    have hP : va_P D vwCl [(f511_8, .inl (cs 0, 45783, .inl g512)), (w, .inr (9, [.int f511_0, .ref f511_1, .int (nI ((κ w).2.2.1)), .int (nI f511_3), .int (nI f511_4), .int f511_5, .int f511_6, .int f511_7, .ref f511_8, .ref f511_9, .ref f511_10, .ref f511_11, .int (nI f511_12), .int f511_13, .int f511_14, .int f511_15, .int f511_16, .ref f511_17]))] _ := va_P.cons hat512 hP
    refine ld_i (v := (g512 5)) hx hb hN hP 0 rfl (vp_in_nI (n := 5) (N := 45783) (by omega) (by omega)) (by rw [(show (5 : Int32).toNatClampNeg = 5 from nI_clamp (n := 5) (by omega))]) dX9_handle_14 ?_
    refine gn_i (fun x513 => ?_)
    refine lv_iconst (v := 1) hx hb dX9_handle_15 (by decide) ?_
    refine lv_iadd hx hb dX9_handle_16 ?_
    refine gn_i (fun x514 => ?_)
    have hB : Bx B0 D _ [(f511_8, .inl (cs 0, 45783, .inl g512)), (w, .inr (9, [.int f511_0, .ref f511_1, .int (nI ((κ w).2.2.1)), .int (nI f511_3), .int (nI f511_4), .int f511_5, .int f511_6, .int f511_7, .ref f511_8, .ref f511_9, .ref f511_10, .ref f511_11, .int (nI f511_12), .int f511_13, .int f511_14, .int f511_15, .int f511_16, .ref f511_17]))] [] _ _ := Bx.of (fun a => (κ a).1) hL hP (fa_c hb512 (fa_c hb511 fa_n)) (by simp only [List.map_cons, List.map_nil, t511_8.1, hw.1]; decide)
    refine b_i hx hb hN hB 0 rfl (vp_in_nI (n := 5) (N := 45783) (by omega) (by omega)) (.inl rfl) dX9_handle_17 (fun H locs hB => ?_)
    rw [(show (5 : Int32).toNatClampNeg = 5 from nI_clamp (n := 5) (by omega))] at hB
    have hB : Bx B0 D _ [(f511_8, .inl (cs 0, 45783, .inl (upd g512 5 x514))), (w, .inr (9, [.int f511_0, .ref f511_1, .int (nI ((κ w).2.2.1)), .int (nI f511_3), .int (nI f511_4), .int f511_5, .int f511_6, .int f511_7, .ref f511_8, .ref f511_9, .ref f511_10, .ref f511_11, .int (nI f511_12), .int f511_13, .int f511_14, .int f511_15, .int f511_16, .ref f511_17]))] [f511_8] _ _ := hB
    have z515 := DOK.sf q512 (k := 5) (by omega) (x := x514)
    have hT : WT B0 D cs T κ _ := hT.close hB ⟨⟨0, _, rfl, ok_24 t511_8.1 ⟨_, rfl, z515⟩⟩, trivial⟩
    have hF : Fr B0 [12] κ H0 _ := hF.close hB (fa_c (by simp [t511_8.2]) fa_n)
    have hL : OkL B0 _ := hB.2.2.2.2.2
    have hP : va_P D vwCl [(f511_8, .inl (cs 0, 45783, .inl (upd g512 5 x514))), (w, .inr (9, [.int f511_0, .ref f511_1, .int (nI ((κ w).2.2.1)), .int (nI f511_3), .int (nI f511_4), .int f511_5, .int f511_6, .int f511_7, .ref f511_8, .ref f511_9, .ref f511_10, .ref f511_11, .int (nI f511_12), .int f511_13, .int f511_14, .int f511_15, .int f511_16, .ref f511_17]))] _ := hB.1
    exact en_v hx hb hr hlocks hL (Nat.zero_le _) (Nat.zero_le _) dX9_handle_18 (⟨hT, hF⟩)
  · refine lv_if_ne (tgt := 19) hx hb dX9_handle_5 (by decide) (fun _ => ?_) (fun c9 => absurd c9 (by decide))
    refine lv_iload_n hx hb dX9_handle_19 rfl (lv_at hl 1 rfl) ?_
    by_cases c516 : (x : Int32).toInt < (0 : Int) ∨ (4 : Int) < (x : Int32).toInt
    · refine lv_tableOut (tgt := 198) hx hb dX9_handle_20 c516 (by decide) ?_
      refine lv_aload_n hx hb dX9_handle_198 rfl (lv_at hl 0 rfl) ?_
      refine lv_iload_n hx hb dX9_handle_199 rfl (lv_at hl 3 rfl) ?_
      refine lv_iconst (v := 5) hx hb dX9_handle_200 (by decide) ?_
      refine cv_i (As := [.int (nI k), .int 5]) (rest := []) (b := w) ⟨hx, hb, hml, hown, hts⟩ (c_X9_of hT (w := w) hw (n := k) (k := 5) (by first | omega | decide | assumption) (by first | omega | decide | assumption)) (cwV 2 hts gX9_handle_X9_of rfl rfl rfl hdX9_of_v ⟨Nat.le_of_ble_eq_true rfl, Nat.le_of_ble_eq_true rfl⟩) hN hL (rcv10 hN hT hw.1) rfl rfl hl.1 (Nat.le_of_ble_eq_true rfl) dX9_handle_201 (Nat.zero_le _) (Nat.zero_le _) (fun r517 H1 locs hL hqr517 => ?_)
      obtain rfl := hqr517
      refine lv_iconst (v := 1) hx hb dX9_handle_204 (by decide) ?_
      refine lv_icmp_ne (tgt := 225) hx hb dX9_handle_205 (by decide) (fun c518 => ?_) (fun c518 => ?_)
      · exact en_v hx hb hr hlocks hL (Nat.zero_le _) (Nat.zero_le _) dX9_handle_225 (⟨hT, hF⟩)
      · refine lv_aload_n hx hb dX9_handle_208 rfl (lv_at hl 0 rfl) ?_
        refine lv_iload_n hx hb dX9_handle_209 rfl (lv_at hl 3 rfl) ?_
        refine lv_bipush (v := 6) hx hb dX9_handle_210 (by decide) ?_
        refine cv_i (As := [.int (nI k), .int 6]) (rest := []) (b := w) ⟨hx, hb, hml, hown, hts⟩ (c_X9_of hT (w := w) hw (n := k) (k := 6) (by first | omega | decide | assumption) (by first | omega | decide | assumption)) (cwV 2 hts gX9_handle_X9_of rfl rfl rfl hdX9_of_v ⟨Nat.le_of_ble_eq_true rfl, Nat.le_of_ble_eq_true rfl⟩) hN hL (rcv10 hN hT hw.1) rfl rfl hl.1 (Nat.le_of_ble_eq_true rfl) dX9_handle_212 (Nat.zero_le _) (Nat.zero_le _) (fun r519 H1 locs hL hqr519 => ?_)
        obtain rfl := hqr519
        refine lv_iload hx hb dX9_handle_215 (lv_at hl 4 rfl) ?_
        refine lv_icmp_ne (tgt := 225) hx hb dX9_handle_217 (by decide) (fun c520 => ?_) (fun c520 => ?_)
        · exact en_v hx hb hr hlocks hL (Nat.zero_le _) (Nat.zero_le _) dX9_handle_225 (⟨hT, hF⟩)
        · refine lv_aload_n hx hb dX9_handle_220 rfl (lv_at hl 0 rfl) ?_
          refine lv_iload_n hx hb dX9_handle_221 rfl (lv_at hl 3 rfl) ?_
          refine cv_v (As := [.int (nI k)]) (rest := []) (b := w) ⟨hx, hb, hml, hown, hts⟩ (c_X9_dropPlan hT (w := w) hw (n := k) (by first | omega | decide | assumption)) (cwV 1 hts gX9_handle_X9_dropPlan rfl rfl rfl hdX9_dropPlan_v ⟨Nat.le_of_ble_eq_true rfl, Nat.le_of_ble_eq_true rfl⟩) hN hL (rcv10 hN hT hw.1) rfl rfl hl.1 (Nat.le_of_ble_eq_true rfl) dX9_handle_222 (Nat.zero_le _) (Nat.zero_le _) (fun H1 locs hL hqr521 => ?_)
          obtain ⟨hT1, hF1⟩ := hqr521
          have hF := hF.tr (hF1.mono (by simp))
          have hT := hT1
          exact en_v hx hb hr hlocks hL (Nat.zero_le _) (Nat.zero_le _) dX9_handle_225 (⟨hT, hF⟩)
    · rcases sw_0_4 c516 with rfl | rfl | rfl | rfl | rfl
      · refine lv_tableIn (tgt := 56) (off := 36) hx hb dX9_handle_20 (by decide) (by decide) (by decide) (by decide) ?_
        refine lv_aload_n hx hb dX9_handle_56 rfl (lv_at hl 0 rfl) ?_
        refine lv_iconst (v := 1) hx hb dX9_handle_57 (by decide) ?_
        refine lv_iload_n hx hb dX9_handle_58 rfl (lv_at hl 3 rfl) ?_
        refine lv_iload_n hx hb dX9_handle_59 rfl (lv_at hl 2 rfl) ?_
        refine lv_iconst (v := (-1)) hx hb dX9_handle_60 (by decide) ?_
        refine lv_aload_n hx hb dX9_handle_61 rfl (lv_at hl 0 rfl) ?_
        refine lv_iload_n hx hb dX9_handle_62 rfl (lv_at hl 3 rfl) ?_
        refine cv_i (As := [.int (nI k)]) (rest := [.int (-1), .int (nI n), .int (nI k), .int 1, .ref w]) (b := w) ⟨hx, hb, hml, hown, hts⟩ (c_X9_clock hT (w := w) hw (n := k) (by first | omega | decide | assumption)) (cwV 1 hts gX9_handle_X9_clock rfl rfl rfl hdX9_clock_v ⟨Nat.le_of_ble_eq_true rfl, Nat.le_of_ble_eq_true rfl⟩) hN hL (rcv10 hN hT hw.1) rfl rfl hl.1 (Nat.le_of_ble_eq_true rfl) dX9_handle_63 (Nat.zero_le _) (Nat.zero_le _) (fun r522 H1 locs hL hqr522 => ?_)
        obtain rfl := hqr522
        refine lv_iload hx hb dX9_handle_66 (lv_at hl 5 rfl) ?_
        refine cv_i (As := [.int 1, .int (nI k), .int (nI n), .int (-1), .int r522, .int z]) (rest := []) (b := w) ⟨hx, hb, hml, hown, hts⟩ (c_X9_send hT (w := w) hw (x := 1) (n := k) (k := n) (y := (-1)) (z := r522) (u := z) (by first | omega | decide | assumption) (by first | omega | decide | assumption) (by first | omega | decide | assumption)) (cwV 6 hts gX9_handle_X9_send rfl rfl rfl hdX9_send_v ⟨Nat.le_of_ble_eq_true rfl, Nat.le_of_ble_eq_true rfl⟩) hN hL (rcv10 hN hT hw.1) rfl rfl hl.1 (Nat.le_of_ble_eq_true rfl) dX9_handle_68 (Nat.zero_le _) (Nat.zero_le _) (fun r523 H1 locs hL hqr523 => ?_)
        obtain ⟨hT1, hF1, hqr523⟩ := hqr523
        have hF := hF.tr (hF1.mono (by simp))
        have hT := hT1
        rcases hqr523 with rfl | rfl
        · refine lv_pop hx hb dX9_handle_71 rfl ?_
          refine lv_goto (tgt := 225) hx hb dX9_handle_72 (by decide) ?_
          exact en_v hx hb hr hlocks hL (Nat.zero_le _) (Nat.zero_le _) dX9_handle_225 (⟨hT, hF⟩)
        · refine lv_pop hx hb dX9_handle_71 rfl ?_
          refine lv_goto (tgt := 225) hx hb dX9_handle_72 (by decide) ?_
          exact en_v hx hb hr hlocks hL (Nat.zero_le _) (Nat.zero_le _) dX9_handle_225 (⟨hT, hF⟩)
      · refine lv_tableIn (tgt := 75) (off := 55) hx hb dX9_handle_20 (by decide) (by decide) (by decide) (by decide) ?_
        refine lv_aload_n hx hb dX9_handle_75 rfl (lv_at hl 0 rfl) ?_
        refine lv_iload_n hx hb dX9_handle_76 rfl (lv_at hl 3 rfl) ?_
        refine lv_iconst (v := 3) hx hb dX9_handle_77 (by decide) ?_
        refine lv_iload_n hx hb dX9_handle_78 rfl (lv_at hl 3 rfl) ?_
        refine lv_aload_n hx hb dX9_handle_79 rfl (lv_at hl 0 rfl) ?_
        obtain ⟨hb524, e524, hat524, hk524⟩ := hT.o10 hw.1
        obtain ⟨f524_0, f524_1, f524_3, f524_4, f524_5, f524_6, f524_7, f524_8, f524_9, f524_10, f524_11, f524_12, f524_13, f524_14, f524_15, f524_16, f524_17, rfl, c524_2, c524_3, c524_4, c524_12, t524_1, t524_8, t524_9, c524_sd, t524_10, t524_11, t524_17⟩ := hk524
        have hP : va_P D vwCl [(w, .inr (9, [.int f524_0, .ref f524_1, .int (nI ((κ w).2.2.1)), .int (nI f524_3), .int (nI f524_4), .int f524_5, .int f524_6, .int f524_7, .ref f524_8, .ref f524_9, .ref f524_10, .ref f524_11, .int (nI f524_12), .int f524_13, .int f524_14, .int f524_15, .int f524_16, .ref f524_17]))] _ := va_P.cons hat524 va_P.nil
        refine va_get (D := D) (ci := 9) (v := .ref f524_8) (C := RX9) (T := TX9) (N := 18) hx hb hts iX9_handle_9 hown hN.1 hP 0 rfl rfl 8 (by decide) (hts _ mX9_handle_1) (fun _ h9 => h9) rfl dX9_handle_80 ?_
        refine lv_iconst (v := 2) hx hb dX9_handle_83 (by decide) ?_
        obtain ⟨hb525, e525, hat525, hk525⟩ := hT.o24 t524_8.1
        obtain ⟨g525, rfl, q525⟩ := hk525
        have hP : va_P D vwCl [(f524_8, .inl (cs 0, 45783, .inl g525)), (w, .inr (9, [.int f524_0, .ref f524_1, .int (nI ((κ w).2.2.1)), .int (nI f524_3), .int (nI f524_4), .int f524_5, .int f524_6, .int f524_7, .ref f524_8, .ref f524_9, .ref f524_10, .ref f524_11, .int (nI f524_12), .int f524_13, .int f524_14, .int f524_15, .int f524_16, .ref f524_17]))] _ := va_P.cons hat525 hP
        refine ld_i (v := (g525 2)) hx hb hN hP 0 rfl (vp_in_nI (n := 2) (N := 45783) (by omega) (by omega)) (by rw [(show (2 : Int32).toNatClampNeg = 2 from nI_clamp (n := 2) (by omega))]) dX9_handle_84 ?_
        obtain ⟨n526, hn526, en526⟩ := q525.2.2.1
        refine tp_i (nI n526) en526 ?_
        refine lv_icmp_ne (tgt := 92) hx hb dX9_handle_85 (by decide) (fun c527 => ?_) (fun c527 => ?_)
        · have c527 : ¬ k = n526 := fun h9 => c527 ((nI_eq (a := k) (b := n526) (by omega) (by omega)).mpr h9)
          refine lv_iload hx hb dX9_handle_92 (lv_at hl 5 rfl) ?_
          refine lv_aload_n hx hb dX9_handle_94 rfl (lv_at hl 0 rfl) ?_
          refine lv_iload_n hx hb dX9_handle_95 rfl (lv_at hl 3 rfl) ?_
          refine cv_i (As := [.int (nI k)]) (rest := [.int z, .int 3, .int (nI k), .ref w]) (b := w) ⟨hx, hb, hml, hown, hts⟩ (c_X9_clock hT (w := w) hw (n := k) (by first | omega | decide | assumption)) (cwV 1 hts gX9_handle_X9_clock rfl rfl rfl hdX9_clock_v ⟨Nat.le_of_ble_eq_true rfl, Nat.le_of_ble_eq_true rfl⟩) hN hL (rcv10 hN hT hw.1) rfl rfl hl.1 (Nat.le_of_ble_eq_true rfl) dX9_handle_96 (Nat.zero_le _) (Nat.zero_le _) (fun r528 H1 locs hL hqr528 => ?_)
          obtain rfl := hqr528
          refine lv_iload hx hb dX9_handle_99 (lv_at hl 6 rfl) ?_
          refine lv_isub hx hb dX9_handle_101 ?_
          refine gn_i (fun x529 => ?_)
          refine lv_iconst (v := 2) hx hb dX9_handle_102 (by decide) ?_
          refine lv_idiv hx hb dX9_handle_103 (by decide) ?_
          refine gn_i (fun x530 => ?_)
          refine lv_iadd hx hb dX9_handle_104 ?_
          refine gn_i (fun x531 => ?_)
          refine lv_aload_n hx hb dX9_handle_105 rfl (lv_at hl 0 rfl) ?_
          refine lv_iload_n hx hb dX9_handle_106 rfl (lv_at hl 3 rfl) ?_
          refine cv_i (As := [.int (nI k)]) (rest := [.int x531, .int 3, .int (nI k), .ref w]) (b := w) ⟨hx, hb, hml, hown, hts⟩ (c_X9_clock hT (w := w) hw (n := k) (by first | omega | decide | assumption)) (cwV 1 hts gX9_handle_X9_clock rfl rfl rfl hdX9_clock_v ⟨Nat.le_of_ble_eq_true rfl, Nat.le_of_ble_eq_true rfl⟩) hN hL (rcv10 hN hT hw.1) rfl rfl hl.1 (Nat.le_of_ble_eq_true rfl) dX9_handle_107 (Nat.zero_le _) (Nat.zero_le _) (fun r532 H1 locs hL hqr532 => ?_)
          obtain rfl := hqr532
          refine lv_isub hx hb dX9_handle_110 ?_
          refine gn_i (fun x533 => ?_)
          refine cv_v (As := [.int (nI k), .int 3, .int x533]) (rest := []) (b := w) ⟨hx, hb, hml, hown, hts⟩ (c_X9_set hT (w := w) hw (n := k) (k := 3) (x := x533) (by first | omega | decide | assumption) (by first | omega | decide | assumption)) (cwV 3 hts gX9_handle_X9_set rfl rfl rfl hdX9_set_v ⟨Nat.le_of_ble_eq_true rfl, Nat.le_of_ble_eq_true rfl⟩) hN hL (rcv10 hN hT hw.1) rfl rfl hl.1 (Nat.le_of_ble_eq_true rfl) dX9_handle_111 (Nat.zero_le _) (Nat.zero_le _) (fun H1 locs hL hqr534 => ?_)
          obtain ⟨hT1, hF1⟩ := hqr534
          have hF := hF.tr (hF1.mono (by simp))
          have hT := hT1
          refine lv_goto (tgt := 225) hx hb dX9_handle_114 (by decide) ?_
          exact en_v hx hb hr hlocks hL (Nat.zero_le _) (Nat.zero_le _) dX9_handle_225 (⟨hT, hF⟩)
        · have c527 : k = n526 := (nI_eq (a := k) (b := n526) (by omega) (by omega)).mp c527
          refine lv_iconst (v := 0) hx hb dX9_handle_88 (by decide) ?_
          refine lv_goto (tgt := 111) hx hb dX9_handle_89 (by decide) ?_
          refine cv_v (As := [.int (nI k), .int 3, .int 0]) (rest := []) (b := w) ⟨hx, hb, hml, hown, hts⟩ (c_X9_set hT (w := w) hw (n := k) (k := 3) (x := 0) (by first | omega | decide | assumption) (by first | omega | decide | assumption)) (cwV 3 hts gX9_handle_X9_set rfl rfl rfl hdX9_set_v ⟨Nat.le_of_ble_eq_true rfl, Nat.le_of_ble_eq_true rfl⟩) hN hL (rcv10 hN hT hw.1) rfl rfl hl.1 (Nat.le_of_ble_eq_true rfl) dX9_handle_111 (Nat.zero_le _) (Nat.zero_le _) (fun H1 locs hL hqr535 => ?_)
          obtain ⟨hT1, hF1⟩ := hqr535
          have hF := hF.tr (hF1.mono (by simp))
          have hT := hT1
          refine lv_goto (tgt := 225) hx hb dX9_handle_114 (by decide) ?_
          exact en_v hx hb hr hlocks hL (Nat.zero_le _) (Nat.zero_le _) dX9_handle_225 (⟨hT, hF⟩)
      · refine lv_tableIn (tgt := 117) (off := 97) hx hb dX9_handle_20 (by decide) (by decide) (by decide) (by decide) ?_
        refine lv_aload_n hx hb dX9_handle_117 rfl (lv_at hl 0 rfl) ?_
        refine lv_iload_n hx hb dX9_handle_118 rfl (lv_at hl 3 rfl) ?_
        refine lv_iconst (v := 1) hx hb dX9_handle_119 (by decide) ?_
        refine lv_iload hx hb dX9_handle_120 (lv_at hl 4 rfl) ?_
        refine lv_iload hx hb dX9_handle_122 (lv_at hl 5 rfl) ?_
        refine lv_iload hx hb dX9_handle_124 (lv_at hl 6 rfl) ?_
        refine cv_v (As := [.int (nI k), .int 1, .int y, .int z, .int u]) (rest := []) (b := w) ⟨hx, hb, hml, hown, hts⟩ (c_X9_plan hT (w := w) hw (n := k) (x := 1) (y := y) (z := z) (u := u) (by first | omega | decide | assumption)) (cwV 5 hts gX9_handle_X9_plan rfl rfl rfl hdX9_plan_v ⟨Nat.le_of_ble_eq_true rfl, Nat.le_of_ble_eq_true rfl⟩) hN hL (rcv10 hN hT hw.1) rfl rfl hl.1 (Nat.le_of_ble_eq_true rfl) dX9_handle_126 (Nat.zero_le _) (Nat.zero_le _) (fun H1 locs hL hqr536 => ?_)
        obtain ⟨hT1, hF1⟩ := hqr536
        have hF := hF.tr (hF1.mono (by simp))
        have hT := hT1
        refine lv_aload_n hx hb dX9_handle_129 rfl (lv_at hl 0 rfl) ?_
        refine lv_iconst (v := 3) hx hb dX9_handle_130 (by decide) ?_
        refine lv_iload_n hx hb dX9_handle_131 rfl (lv_at hl 3 rfl) ?_
        refine lv_iload_n hx hb dX9_handle_132 rfl (lv_at hl 2 rfl) ?_
        refine lv_iload hx hb dX9_handle_133 (lv_at hl 4 rfl) ?_
        refine lv_iconst (v := 0) hx hb dX9_handle_135 (by decide) ?_
        refine lv_iconst (v := 0) hx hb dX9_handle_136 (by decide) ?_
        refine cv_i (As := [.int 3, .int (nI k), .int (nI n), .int y, .int 0, .int 0]) (rest := []) (b := w) ⟨hx, hb, hml, hown, hts⟩ (c_X9_send hT (w := w) hw (x := 3) (n := k) (k := n) (y := y) (z := 0) (u := 0) (by first | omega | decide | assumption) (by first | omega | decide | assumption) (by first | omega | decide | assumption)) (cwV 6 hts gX9_handle_X9_send rfl rfl rfl hdX9_send_v ⟨Nat.le_of_ble_eq_true rfl, Nat.le_of_ble_eq_true rfl⟩) hN hL (rcv10 hN hT hw.1) rfl rfl hl.1 (Nat.le_of_ble_eq_true rfl) dX9_handle_137 (Nat.zero_le _) (Nat.zero_le _) (fun r537 H1 locs hL hqr537 => ?_)
        obtain ⟨hT1, hF1, hqr537⟩ := hqr537
        have hF := hF.tr (hF1.mono (by simp))
        have hT := hT1
        rcases hqr537 with rfl | rfl
        · refine lv_pop hx hb dX9_handle_140 rfl ?_
          refine lv_goto (tgt := 225) hx hb dX9_handle_141 (by decide) ?_
          exact en_v hx hb hr hlocks hL (Nat.zero_le _) (Nat.zero_le _) dX9_handle_225 (⟨hT, hF⟩)
        · refine lv_pop hx hb dX9_handle_140 rfl ?_
          refine lv_goto (tgt := 225) hx hb dX9_handle_141 (by decide) ?_
          exact en_v hx hb hr hlocks hL (Nat.zero_le _) (Nat.zero_le _) dX9_handle_225 (⟨hT, hF⟩)
      · refine lv_tableIn (tgt := 144) (off := 124) hx hb dX9_handle_20 (by decide) (by decide) (by decide) (by decide) ?_
        refine lv_aload_n hx hb dX9_handle_144 rfl (lv_at hl 0 rfl) ?_
        refine cv_i (As := []) (rest := []) (b := w) ⟨hx, hb, hml, hown, hts⟩ (c_X9_isOpen hT (w := w) hw) (cwV 0 hts gX9_handle_X9_isOpen rfl rfl rfl hdX9_isOpen_v ⟨Nat.le_of_ble_eq_true rfl, Nat.le_of_ble_eq_true rfl⟩) hN hL (rcv10 hN hT hw.1) rfl rfl hl.1 (Nat.le_of_ble_eq_true rfl) dX9_handle_145 (Nat.zero_le _) (Nat.zero_le _) (fun r538 H1 locs hL hqr538 => ?_)
        obtain ⟨rfl, hqr538⟩ := hqr538
        rcases hqr538 with rfl | rfl
        · refine lv_if_eq (tgt := 225) hx hb dX9_handle_148 (by decide) (fun _ => ?_) (fun c9 => absurd (by decide) c9)
          exact en_v hx hb hr hlocks hL (Nat.zero_le _) (Nat.zero_le _) dX9_handle_225 (⟨hT, hF⟩)
        · refine lv_if_eq (tgt := 225) hx hb dX9_handle_148 (by decide) (fun c9 => absurd c9 (by decide)) (fun _ => ?_)
          refine lv_iload hx hb dX9_handle_151 (lv_at hl 4 rfl) ?_
          refine lv_aload_n hx hb dX9_handle_153 rfl (lv_at hl 0 rfl) ?_
          obtain ⟨hb539, e539, hat539, hk539⟩ := hT.o10 hw.1
          obtain ⟨f539_0, f539_1, f539_3, f539_4, f539_5, f539_6, f539_7, f539_8, f539_9, f539_10, f539_11, f539_12, f539_13, f539_14, f539_15, f539_16, f539_17, rfl, c539_2, c539_3, c539_4, c539_12, t539_1, t539_8, t539_9, c539_sd, t539_10, t539_11, t539_17⟩ := hk539
          have hP : va_P D vwCl [(w, .inr (9, [.int f539_0, .ref f539_1, .int (nI ((κ w).2.2.1)), .int (nI f539_3), .int (nI f539_4), .int f539_5, .int f539_6, .int f539_7, .ref f539_8, .ref f539_9, .ref f539_10, .ref f539_11, .int (nI f539_12), .int f539_13, .int f539_14, .int f539_15, .int f539_16, .ref f539_17]))] _ := va_P.cons hat539 va_P.nil
          refine va_get (D := D) (ci := 9) (v := .ref f539_8) (C := RX9) (T := TX9) (N := 18) hx hb hts iX9_handle_9 hown hN.1 hP 0 rfl rfl 8 (by decide) (hts _ mX9_handle_1) (fun _ h9 => h9) rfl dX9_handle_154 ?_
          refine lv_bipush (v := 6) hx hb dX9_handle_157 (by decide) ?_
          obtain ⟨hb540, e540, hat540, hk540⟩ := hT.o24 t539_8.1
          obtain ⟨g540, rfl, q540⟩ := hk540
          have hP : va_P D vwCl [(f539_8, .inl (cs 0, 45783, .inl g540)), (w, .inr (9, [.int f539_0, .ref f539_1, .int (nI ((κ w).2.2.1)), .int (nI f539_3), .int (nI f539_4), .int f539_5, .int f539_6, .int f539_7, .ref f539_8, .ref f539_9, .ref f539_10, .ref f539_11, .int (nI f539_12), .int f539_13, .int f539_14, .int f539_15, .int f539_16, .ref f539_17]))] _ := va_P.cons hat540 hP
          refine ld_i (v := (g540 6)) hx hb hN hP 0 rfl (vp_in_nI (n := 6) (N := 45783) (by omega) (by omega)) (by rw [(show (6 : Int32).toNatClampNeg = 6 from nI_clamp (n := 6) (by omega))]) dX9_handle_159 ?_
          refine gn_i (fun x541 => ?_)
          refine lv_iconst (v := 1) hx hb dX9_handle_160 (by decide) ?_
          refine lv_isub hx hb dX9_handle_161 ?_
          refine gn_i (fun x542 => ?_)
          refine lv_icmp_ne (tgt := 225) hx hb dX9_handle_162 (by decide) (fun c543 => ?_) (fun c543 => ?_)
          · exact en_v hx hb hr hlocks hL (Nat.zero_le _) (Nat.zero_le _) dX9_handle_225 (⟨hT, hF⟩)
          · refine lv_iload_n hx hb dX9_handle_165 rfl (lv_at hl 3 rfl) ?_
            refine lv_aload_n hx hb dX9_handle_166 rfl (lv_at hl 0 rfl) ?_
            refine va_get (D := D) (ci := 9) (v := .ref f539_8) (C := RX9) (T := TX9) (N := 18) hx hb hts iX9_handle_9 hown hN.1 hP 1 rfl rfl 8 (by decide) (hts _ mX9_handle_1) (fun _ h9 => h9) rfl dX9_handle_167 ?_
            refine lv_bipush (v := 18) hx hb dX9_handle_170 (by decide) ?_
            refine ld_i (v := (g540 18)) hx hb hN hP 0 rfl (vp_in_nI (n := 18) (N := 45783) (by omega) (by omega)) (by rw [(show (18 : Int32).toNatClampNeg = 18 from nI_clamp (n := 18) (by omega))]) dX9_handle_172 ?_
            obtain ⟨n544, hn544, en544⟩ := q540.2.2.2.2.2
            refine tp_i (nI n544) en544 ?_
            refine lv_icmp_ne (tgt := 225) hx hb dX9_handle_173 (by decide) (fun c545 => ?_) (fun c545 => ?_)
            · have c545 : ¬ k = n544 := fun h9 => c545 ((nI_eq (a := k) (b := n544) (by omega) (by omega)).mpr h9)
              exact en_v hx hb hr hlocks hL (Nat.zero_le _) (Nat.zero_le _) dX9_handle_225 (⟨hT, hF⟩)
            · have c545 : k = n544 := (nI_eq (a := k) (b := n544) (by omega) (by omega)).mp c545
              refine lv_aload_n hx hb dX9_handle_176 rfl (lv_at hl 0 rfl) ?_
              refine cv_v (As := []) (rest := []) (b := w) ⟨hx, hb, hml, hown, hts⟩ (c_X9_vote hT (w := w) hw) (cwV 0 hts gX9_handle_X9_vote rfl rfl rfl hdX9_vote_v ⟨Nat.le_of_ble_eq_true rfl, Nat.le_of_ble_eq_true rfl⟩) hN hL (rcv10 hN hT hw.1) rfl rfl hl.1 (Nat.le_of_ble_eq_true rfl) dX9_handle_177 (Nat.zero_le _) (Nat.zero_le _) (fun H1 locs hL hqr546 => ?_)
              obtain ⟨hT1, hF1⟩ := hqr546
              have hF := hF.tr (hF1.mono (by simp))
              have hT := hT1
              refine lv_goto (tgt := 225) hx hb dX9_handle_180 (by decide) ?_
              exact en_v hx hb hr hlocks hL (Nat.zero_le _) (Nat.zero_le _) dX9_handle_225 (⟨hT, hF⟩)
      · refine lv_tableIn (tgt := 183) (off := 163) hx hb dX9_handle_20 (by decide) (by decide) (by decide) (by decide) ?_
        refine lv_aload_n hx hb dX9_handle_183 rfl (lv_at hl 0 rfl) ?_
        refine lv_iload_n hx hb dX9_handle_184 rfl (lv_at hl 3 rfl) ?_
        refine lv_iconst (v := 2) hx hb dX9_handle_185 (by decide) ?_
        refine lv_iload hx hb dX9_handle_186 (lv_at hl 4 rfl) ?_
        refine lv_iload hx hb dX9_handle_188 (lv_at hl 5 rfl) ?_
        refine lv_iload hx hb dX9_handle_190 (lv_at hl 6 rfl) ?_
        refine cv_v (As := [.int (nI k), .int 2, .int y, .int z, .int u]) (rest := []) (b := w) ⟨hx, hb, hml, hown, hts⟩ (c_X9_plan hT (w := w) hw (n := k) (x := 2) (y := y) (z := z) (u := u) (by first | omega | decide | assumption)) (cwV 5 hts gX9_handle_X9_plan rfl rfl rfl hdX9_plan_v ⟨Nat.le_of_ble_eq_true rfl, Nat.le_of_ble_eq_true rfl⟩) hN hL (rcv10 hN hT hw.1) rfl rfl hl.1 (Nat.le_of_ble_eq_true rfl) dX9_handle_192 (Nat.zero_le _) (Nat.zero_le _) (fun H1 locs hL hqr547 => ?_)
        obtain ⟨hT1, hF1⟩ := hqr547
        have hF := hF.tr (hF1.mono (by simp))
        have hT := hT1
        refine lv_goto (tgt := 225) hx hb dX9_handle_195 (by decide) ?_
        exact en_v hx hb hr hlocks hL (Nat.zero_le _) (Nat.zero_le _) dX9_handle_225 (⟨hT, hF⟩)
theorem mX9_giveUp_1 : (.fieldLink RX9 18 "OneBeatModel" "data" "[I" : Cond) ∈ wsX9_giveUp := List.mem_of_getElem? (i := 1) (by decide +kernel)
theorem iX9_giveUp_9 : ∀ w ∈ wsX90, w ∈ wsX9_giveUp := fun w h => List.mem_of_mem_drop (List.mem_of_mem_take ((show wsX90 = (wsX9_giveUp.drop 33).take 18 by decide +kernel) ▸ h))
set_option maxHeartbeats 4000000 in
set_option maxRecDepth 100000 in
theorem c_X9_giveUp {l : Launch} {D : va_G} {cs : Nat → ClassId} {B0 T : Nat} {κ : KM} {H0 : Heap} (hT : WT B0 D cs T κ H0) {w : Nat} (hw : T2 κ w 10 12) : KC l yX9_giveUp wsX9_giveUp 3 76 0 0 D cs B0 H0 [.ref w] (Qv (fun H => WT B0 D cs T κ H ∧ Fr B0 [12] κ H0 H)) := by
  refine KC.of cX9_giveUp 3 none (by decide) rfl (Nat.le_of_ble_eq_true rfl) ?_
  intro p e s m below meth c ls hx hb hr hml hown hts hlocks hin hN hH0 hl
  have hown : s.vm.findClass RX9 = some m.cls := hown
  have hl : lv_has ls 3 [(0, .ref w)] := hl
  have hL : OkL B0 [] := OkL.nil
  have hF : Fr B0 [12] κ H0 H0 := Fr.rf
  refine lv_aload_n hx hb dX9_giveUp_0 rfl (lv_at hl 0 rfl) ?_
  obtain ⟨hb548, e548, hat548, hk548⟩ := hT.o10 hw.1
  obtain ⟨f548_0, f548_1, f548_3, f548_4, f548_5, f548_6, f548_7, f548_8, f548_9, f548_10, f548_11, f548_12, f548_13, f548_14, f548_15, f548_16, f548_17, rfl, c548_2, c548_3, c548_4, c548_12, t548_1, t548_8, t548_9, c548_sd, t548_10, t548_11, t548_17⟩ := hk548
  have hP : va_P D vwCl [(w, .inr (9, [.int f548_0, .ref f548_1, .int (nI ((κ w).2.2.1)), .int (nI f548_3), .int (nI f548_4), .int f548_5, .int f548_6, .int f548_7, .ref f548_8, .ref f548_9, .ref f548_10, .ref f548_11, .int (nI f548_12), .int f548_13, .int f548_14, .int f548_15, .int f548_16, .ref f548_17]))] _ := va_P.cons hat548 va_P.nil
  refine va_get (D := D) (ci := 9) (v := .ref f548_8) (C := RX9) (T := TX9) (N := 18) hx hb hts iX9_giveUp_9 hown hN.1 hP 0 rfl rfl 8 (by decide) (hts _ mX9_giveUp_1) (fun _ h9 => h9) rfl dX9_giveUp_1 ?_
  refine lv_bipush (v := 18) hx hb dX9_giveUp_4 (by decide) ?_
  obtain ⟨hb549, e549, hat549, hk549⟩ := hT.o24 t548_8.1
  obtain ⟨g549, rfl, q549⟩ := hk549
  have hP : va_P D vwCl [(f548_8, .inl (cs 0, 45783, .inl g549)), (w, .inr (9, [.int f548_0, .ref f548_1, .int (nI ((κ w).2.2.1)), .int (nI f548_3), .int (nI f548_4), .int f548_5, .int f548_6, .int f548_7, .ref f548_8, .ref f548_9, .ref f548_10, .ref f548_11, .int (nI f548_12), .int f548_13, .int f548_14, .int f548_15, .int f548_16, .ref f548_17]))] _ := va_P.cons hat549 hP
  refine ld_i (v := (g549 18)) hx hb hN hP 0 rfl (vp_in_nI (n := 18) (N := 45783) (by omega) (by omega)) (by rw [(show (18 : Int32).toNatClampNeg = 18 from nI_clamp (n := 18) (by omega))]) dX9_giveUp_6 ?_
  obtain ⟨n550, hn550, en550⟩ := q549.2.2.2.2.2
  refine tp_i (nI n550) en550 ?_
  refine lv_istore_n (lv' := [(1, .int (nI n550)), (0, .ref w)]) hx hb dX9_giveUp_7 rfl hl (by decide) rfl (fun ls hl => ?_)
  refine lv_aload_n hx hb dX9_giveUp_8 rfl (lv_at hl 1 rfl) ?_
  refine va_get (D := D) (ci := 9) (v := .ref f548_8) (C := RX9) (T := TX9) (N := 18) hx hb hts iX9_giveUp_9 hown hN.1 hP 1 rfl rfl 8 (by decide) (hts _ mX9_giveUp_1) (fun _ h9 => h9) rfl dX9_giveUp_9 ?_
  refine lv_bipush (v := 6) hx hb dX9_giveUp_12 (by decide) ?_
  refine ld_i (v := (g549 6)) hx hb hN hP 0 rfl (vp_in_nI (n := 6) (N := 45783) (by omega) (by omega)) (by rw [(show (6 : Int32).toNatClampNeg = 6 from nI_clamp (n := 6) (by omega))]) dX9_giveUp_14 ?_
  refine gn_i (fun x551 => ?_)
  refine lv_iconst (v := 1) hx hb dX9_giveUp_15 (by decide) ?_
  refine lv_isub hx hb dX9_giveUp_16 ?_
  refine gn_i (fun x552 => ?_)
  refine lv_istore_n (lv' := [(2, .int x552), (1, .int (nI n550)), (0, .ref w)]) hx hb dX9_giveUp_17 rfl hl (by decide) rfl (fun ls hl => ?_)
  refine lv_aload_n hx hb dX9_giveUp_18 rfl (lv_at hl 2 rfl) ?_
  refine va_get (D := D) (ci := 9) (v := .ref f548_8) (C := RX9) (T := TX9) (N := 18) hx hb hts iX9_giveUp_9 hown hN.1 hP 1 rfl rfl 8 (by decide) (hts _ mX9_giveUp_1) (fun _ h9 => h9) rfl dX9_giveUp_19 ?_
  refine lv_bipush (v := 20) hx hb dX9_giveUp_22 (by decide) ?_
  refine lv_iconst (v := 2) hx hb dX9_giveUp_24 (by decide) ?_
  have hB : Bx B0 D _ [(f548_8, .inl (cs 0, 45783, .inl g549)), (w, .inr (9, [.int f548_0, .ref f548_1, .int (nI ((κ w).2.2.1)), .int (nI f548_3), .int (nI f548_4), .int f548_5, .int f548_6, .int f548_7, .ref f548_8, .ref f548_9, .ref f548_10, .ref f548_11, .int (nI f548_12), .int f548_13, .int f548_14, .int f548_15, .int f548_16, .ref f548_17]))] [] _ _ := Bx.of (fun a => (κ a).1) hL hP (fa_c hb549 (fa_c hb548 fa_n)) (by simp only [List.map_cons, List.map_nil, t548_8.1, hw.1]; decide)
  refine b_i hx hb hN hB 0 rfl (vp_in_nI (n := 20) (N := 45783) (by omega) (by omega)) (.inl rfl) dX9_giveUp_25 (fun H locs hB => ?_)
  rw [(show (20 : Int32).toNatClampNeg = 20 from nI_clamp (n := 20) (by omega))] at hB
  have hB : Bx B0 D _ [(f548_8, .inl (cs 0, 45783, .inl (upd g549 20 2))), (w, .inr (9, [.int f548_0, .ref f548_1, .int (nI ((κ w).2.2.1)), .int (nI f548_3), .int (nI f548_4), .int f548_5, .int f548_6, .int f548_7, .ref f548_8, .ref f548_9, .ref f548_10, .ref f548_11, .int (nI f548_12), .int f548_13, .int f548_14, .int f548_15, .int f548_16, .ref f548_17]))] [f548_8] _ _ := hB
  have z553 := DOK.sf q549 (k := 20) (by omega) (x := 2)
  have e554 := (pk_un (f := g549) (x := 2) (show 18 ≠ 20 by omega)).trans en550
  refine lv_aload_n hx hb dX9_giveUp_26 rfl (lv_at hl 2 rfl) ?_
  refine va_get (D := D) (ci := 9) (v := .ref f548_8) (C := RX9) (T := TX9) (N := 18) hx hb hts iX9_giveUp_9 hown hN.1 hB.1 1 rfl rfl 8 (by decide) (hts _ mX9_giveUp_1) (fun _ h9 => h9) rfl dX9_giveUp_27 ?_
  refine lv_bipush (v := 8) hx hb dX9_giveUp_30 (by decide) ?_
  refine lv_dup2_11 hx hb dX9_giveUp_32 rfl rfl ?_
  refine ld_i (v := ((upd g549 20 2) 8)) hx hb hN hB.1 0 rfl (vp_in_nI (n := 8) (N := 45783) (by omega) (by omega)) (by rw [(show (8 : Int32).toNatClampNeg = 8 from nI_clamp (n := 8) (by omega))]) dX9_giveUp_33 ?_
  refine gn_i (fun x555 => ?_)
  refine lv_iconst (v := 1) hx hb dX9_giveUp_34 (by decide) ?_
  refine lv_iadd hx hb dX9_giveUp_35 ?_
  refine gn_i (fun x556 => ?_)
  refine b_i hx hb hN hB 0 rfl (vp_in_nI (n := 8) (N := 45783) (by omega) (by omega)) (.inr ⟨rfl, List.mem_of_getElem? (i := 0) rfl⟩) dX9_giveUp_36 (fun H locs hB => ?_)
  rw [(show (8 : Int32).toNatClampNeg = 8 from nI_clamp (n := 8) (by omega))] at hB
  have hB : Bx B0 D _ [(f548_8, .inl (cs 0, 45783, .inl (upd (upd g549 20 2) 8 x556))), (w, .inr (9, [.int f548_0, .ref f548_1, .int (nI ((κ w).2.2.1)), .int (nI f548_3), .int (nI f548_4), .int f548_5, .int f548_6, .int f548_7, .ref f548_8, .ref f548_9, .ref f548_10, .ref f548_11, .int (nI f548_12), .int f548_13, .int f548_14, .int f548_15, .int f548_16, .ref f548_17]))] [f548_8] _ _ := hB
  have z557 := DOK.sf z553 (k := 8) (by omega) (x := x556)
  have e558 := (pk_un (f := (upd g549 20 2)) (x := x556) (show 18 ≠ 8 by omega)).trans e554
  refine lv_aload_n hx hb dX9_giveUp_37 rfl (lv_at hl 2 rfl) ?_
  refine lv_iload_n hx hb dX9_giveUp_38 rfl (lv_at hl 1 rfl) ?_
  have hT : WT B0 D cs T κ _ := hT.close hB ⟨⟨0, _, rfl, ok_24 t548_8.1 ⟨_, rfl, z557⟩⟩, trivial⟩
  have hF : Fr B0 [12] κ H0 _ := hF.close hB (fa_c (by simp [t548_8.2]) fa_n)
  have hL : OkL B0 _ := hB.2.2.2.2.2
  have hP : va_P D vwCl [(f548_8, .inl (cs 0, 45783, .inl (upd (upd g549 20 2) 8 x556))), (w, .inr (9, [.int f548_0, .ref f548_1, .int (nI ((κ w).2.2.1)), .int (nI f548_3), .int (nI f548_4), .int f548_5, .int f548_6, .int f548_7, .ref f548_8, .ref f548_9, .ref f548_10, .ref f548_11, .int (nI f548_12), .int f548_13, .int f548_14, .int f548_15, .int f548_16, .ref f548_17]))] _ := hB.1
  refine cv_i (As := [.int (nI n550)]) (rest := []) (b := w) ⟨hx, hb, hml, hown, hts⟩ (c_X9_isUp hT (w := w) hw (n := n550) (by first | omega | decide | assumption)) (cwV 1 hts gX9_giveUp_X9_isUp rfl rfl rfl hdX9_isUp_v ⟨Nat.le_of_ble_eq_true rfl, Nat.le_of_ble_eq_true rfl⟩) hN hL (rcv10 hN hT hw.1) rfl rfl hl.1 (Nat.le_of_ble_eq_true rfl) dX9_giveUp_39 (Nat.zero_le _) (Nat.zero_le _) (fun r559 H1 locs hL hqr559 => ?_)
  obtain ⟨rfl, hqr559⟩ := hqr559
  rcases hqr559 with rfl | rfl
  · refine lv_if_ne (tgt := 46) hx hb dX9_giveUp_42 (by decide) (fun c9 => absurd (by decide) c9) (fun _ => ?_)
    exact en_v hx hb hr hlocks hL (Nat.zero_le _) (Nat.zero_le _) dX9_giveUp_45 (⟨hT, hF⟩)
  · refine lv_if_ne (tgt := 46) hx hb dX9_giveUp_42 (by decide) (fun _ => ?_) (fun c9 => absurd c9 (by decide))
    refine lv_aload_n hx hb dX9_giveUp_46 rfl (lv_at hl 2 rfl) ?_
    refine lv_iload_n hx hb dX9_giveUp_47 rfl (lv_at hl 1 rfl) ?_
    refine lv_bipush (v := 6) hx hb dX9_giveUp_48 (by decide) ?_
    refine cv_i (As := [.int (nI n550), .int 6]) (rest := []) (b := w) ⟨hx, hb, hml, hown, hts⟩ (c_X9_of hT (w := w) hw (n := n550) (k := 6) (by first | omega | decide | assumption) (by first | omega | decide | assumption)) (cwV 2 hts gX9_giveUp_X9_of rfl rfl rfl hdX9_of_v ⟨Nat.le_of_ble_eq_true rfl, Nat.le_of_ble_eq_true rfl⟩) hN hL (rcv10 hN hT hw.1) rfl rfl hl.1 (Nat.le_of_ble_eq_true rfl) dX9_giveUp_50 (Nat.zero_le _) (Nat.zero_le _) (fun r560 H1 locs hL hqr560 => ?_)
    obtain rfl := hqr560
    refine lv_iload_n hx hb dX9_giveUp_53 rfl (lv_at hl 0 rfl) ?_
    refine lv_icmp_ne (tgt := 62) hx hb dX9_giveUp_54 (by decide) (fun c561 => ?_) (fun c561 => ?_)
    · refine lv_aload_n hx hb dX9_giveUp_62 rfl (lv_at hl 2 rfl) ?_
      refine lv_iconst (v := 5) hx hb dX9_giveUp_63 (by decide) ?_
      refine lv_iload_n hx hb dX9_giveUp_64 rfl (lv_at hl 1 rfl) ?_
      refine lv_iload_n hx hb dX9_giveUp_65 rfl (lv_at hl 0 rfl) ?_
      refine lv_iconst (v := 0) hx hb dX9_giveUp_66 (by decide) ?_
      refine lv_iconst (v := 0) hx hb dX9_giveUp_67 (by decide) ?_
      refine cv_v (As := [.int 5, .int (nI n550), .int x552, .int 0, .int 0]) (rest := []) (b := w) ⟨hx, hb, hml, hown, hts⟩ (c_X9_sendToOthers hT (w := w) hw (x := 5) (n := n550) (y := x552) (z := 0) (u := 0) (by first | omega | decide | assumption) (by first | omega | decide | assumption)) (cwV 5 hts gX9_giveUp_X9_sendToOthers rfl rfl rfl hdX9_sendToOthers_v ⟨Nat.le_of_ble_eq_true rfl, Nat.le_of_ble_eq_true rfl⟩) hN hL (rcv10 hN hT hw.1) rfl rfl hl.1 (Nat.le_of_ble_eq_true rfl) dX9_giveUp_68 (Nat.zero_le _) (Nat.zero_le _) (fun H1 locs hL hqr562 => ?_)
      obtain ⟨hT1, hF1⟩ := hqr562
      have hF := hF.tr (hF1.mono (by simp))
      have hT := hT1
      exact en_v hx hb hr hlocks hL (Nat.zero_le _) (Nat.zero_le _) dX9_giveUp_71 (⟨hT, hF⟩)
    · refine lv_aload_n hx hb dX9_giveUp_57 rfl (lv_at hl 2 rfl) ?_
      refine lv_iload_n hx hb dX9_giveUp_58 rfl (lv_at hl 1 rfl) ?_
      refine cv_v (As := [.int (nI n550)]) (rest := []) (b := w) ⟨hx, hb, hml, hown, hts⟩ (c_X9_dropPlan hT (w := w) hw (n := n550) (by first | omega | decide | assumption)) (cwV 1 hts gX9_giveUp_X9_dropPlan rfl rfl rfl hdX9_dropPlan_v ⟨Nat.le_of_ble_eq_true rfl, Nat.le_of_ble_eq_true rfl⟩) hN hL (rcv10 hN hT hw.1) rfl rfl hl.1 (Nat.le_of_ble_eq_true rfl) dX9_giveUp_59 (Nat.zero_le _) (Nat.zero_le _) (fun H1 locs hL hqr563 => ?_)
      obtain ⟨hT1, hF1⟩ := hqr563
      have hF := hF.tr (hF1.mono (by simp))
      have hT := hT1
      refine lv_aload_n hx hb dX9_giveUp_62 rfl (lv_at hl 2 rfl) ?_
      refine lv_iconst (v := 5) hx hb dX9_giveUp_63 (by decide) ?_
      refine lv_iload_n hx hb dX9_giveUp_64 rfl (lv_at hl 1 rfl) ?_
      refine lv_iload_n hx hb dX9_giveUp_65 rfl (lv_at hl 0 rfl) ?_
      refine lv_iconst (v := 0) hx hb dX9_giveUp_66 (by decide) ?_
      refine lv_iconst (v := 0) hx hb dX9_giveUp_67 (by decide) ?_
      refine cv_v (As := [.int 5, .int (nI n550), .int x552, .int 0, .int 0]) (rest := []) (b := w) ⟨hx, hb, hml, hown, hts⟩ (c_X9_sendToOthers hT (w := w) hw (x := 5) (n := n550) (y := x552) (z := 0) (u := 0) (by first | omega | decide | assumption) (by first | omega | decide | assumption)) (cwV 5 hts gX9_giveUp_X9_sendToOthers rfl rfl rfl hdX9_sendToOthers_v ⟨Nat.le_of_ble_eq_true rfl, Nat.le_of_ble_eq_true rfl⟩) hN hL (rcv10 hN hT hw.1) rfl rfl hl.1 (Nat.le_of_ble_eq_true rfl) dX9_giveUp_68 (Nat.zero_le _) (Nat.zero_le _) (fun H1 locs hL hqr564 => ?_)
      obtain ⟨hT1, hF1⟩ := hqr564
      have hF := hF.tr (hF1.mono (by simp))
      have hT := hT1
      exact en_v hx hb hr hlocks hL (Nat.zero_le _) (Nat.zero_le _) dX9_giveUp_71 (⟨hT, hF⟩)
theorem hdX9_estimate_v : yX9_estimate.cls = RX9 ∧ yX9_estimate.cls ≠ "java/lang/invoke/MethodHandle" ∧ yX9_estimate.cls ≠ "java/lang/invoke/VarHandle" ∧ (parseMethodDescriptor yX9_estimate.desc).map (fun d => d.parameters.length) = some 1 := by decide +kernel
theorem mX9_change_1 : (.fieldLink RX9 18 "OneBeatModel" "data" "[I" : Cond) ∈ wsX9_change := List.mem_of_getElem? (i := 1) (by decide +kernel)
theorem iX9_change_9 : ∀ w ∈ wsX90, w ∈ wsX9_change := fun w h => List.mem_of_mem_drop (List.mem_of_mem_take ((show wsX90 = (wsX9_change.drop 26).take 18 by decide +kernel) ▸ h))
