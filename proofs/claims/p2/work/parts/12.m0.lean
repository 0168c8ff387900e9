set_option maxHeartbeats 4000000 in
set_option maxRecDepth 100000 in
theorem c_X9_playerAt {l : Launch} {D : va_G} {cs : Nat → ClassId} {B0 T : Nat} {κ : KM} {H0 : Heap} (hT : WT B0 D cs T κ H0) {n : Nat} (qn : n < 8) : KC l yX9_playerAt wsX9_playerAt 0 0 0 0 D cs B0 H0 [.int (nI n)] (Qi (fun r H => H = H0 ∧ r = nI (23 + 12 * n))) := by
  refine KC.of cX9_playerAt 1 (some .int) (by decide) rfl (Nat.le_of_ble_eq_true rfl) ?_
  intro p e s m below meth c ls hx hb hr hml hown hts hlocks hin hN hE hH0 hl
  have hown : s.vm.findClass RX9 = some m.cls := hown
  have hl : lv_has ls 1 [(0, .int (nI n))] := hl
  have hL : OkL B0 [] := OkL.nil
  refine lv_bipush (v := 23) hx hb dX9_playerAt_0 (by decide) ?_
  refine lv_bipush (v := 12) hx hb dX9_playerAt_2 (by decide) ?_
  refine lv_iload_n hx hb dX9_playerAt_4 rfl (lv_at hl 0 rfl) ?_
  refine lv_imul hx hb dX9_playerAt_5 ?_
  refine tp_i (nI (12 * n)) (nI_mul 12 n) ?_
  refine lv_iadd hx hb dX9_playerAt_6 ?_
  refine tp_i (nI (23 + (12 * n))) (nI_add 23 (12 * n)) ?_
  exact en_i hx hb hr hlocks hL rfl (Nat.zero_le _) (Nat.zero_le _) dX9_playerAt_7 (⟨rfl, rfl⟩)
set_option maxHeartbeats 4000000 in
set_option maxRecDepth 100000 in
theorem c_X9_linkAt {l : Launch} {D : va_G} {cs : Nat → ClassId} {B0 T : Nat} {κ : KM} {H0 : Heap} (hT : WT B0 D cs T κ H0) {n : Nat} (qn : n < 8) {k : Nat} (qk : k < 8) : KC l yX9_linkAt wsX9_linkAt 0 0 0 0 D cs B0 H0 [.int (nI n), .int (nI k)] (Qi (fun r H => H = H0 ∧ r = nI (119 + 8 * n + k))) := by
  refine KC.of cX9_linkAt 2 (some .int) (by decide) rfl (Nat.le_of_ble_eq_true rfl) ?_
  intro p e s m below meth c ls hx hb hr hml hown hts hlocks hin hN hE hH0 hl
  have hown : s.vm.findClass RX9 = some m.cls := hown
  have hl : lv_has ls 2 [(0, .int (nI n)), (1, .int (nI k))] := hl
  have hL : OkL B0 [] := OkL.nil
  refine lv_bipush (v := 119) hx hb dX9_linkAt_0 (by decide) ?_
  refine lv_bipush (v := 8) hx hb dX9_linkAt_2 (by decide) ?_
  refine lv_iload_n hx hb dX9_linkAt_4 rfl (lv_at hl 0 rfl) ?_
  refine lv_imul hx hb dX9_linkAt_5 ?_
  refine tp_i (nI (8 * n)) (nI_mul 8 n) ?_
  refine lv_iadd hx hb dX9_linkAt_6 ?_
  refine tp_i (nI (119 + (8 * n))) (nI_add 119 (8 * n)) ?_
  refine lv_iload_n hx hb dX9_linkAt_7 rfl (lv_at hl 1 rfl) ?_
  refine lv_iadd hx hb dX9_linkAt_8 ?_
  refine tp_i (nI ((119 + (8 * n)) + k)) (nI_add (119 + (8 * n)) k) ?_
  exact en_i hx hb hr hlocks hL rfl (Nat.zero_le _) (Nat.zero_le _) dX9_linkAt_9 (⟨rfl, rfl⟩)
set_option maxHeartbeats 4000000 in
set_option maxRecDepth 100000 in
theorem c_X9_in {l : Launch} {D : va_G} {cs : Nat → ClassId} {B0 T : Nat} {κ : KM} {H0 : Heap} (hT : WT B0 D cs T κ H0) {x : Int32} {y : Int32} {z : Int32} : KC l yX9_in wsX9_in 0 0 0 0 D cs B0 H0 [.int x, .int y, .int z] (Qi (fun r H => H = H0 ∧ ((r = 0 ∧ (x < y ∨ z < x)) ∨ (r = 1 ∧ ¬ x < y ∧ ¬ z < x)))) := by
  refine KC.of cX9_in 3 (some .boolean) (by decide) rfl (Nat.le_of_ble_eq_true rfl) ?_
  intro p e s m below meth c ls hx hb hr hml hown hts hlocks hin hN hE hH0 hl
  have hown : s.vm.findClass RX9 = some m.cls := hown
  have hl : lv_has ls 3 [(0, .int x), (1, .int y), (2, .int z)] := hl
  have hL : OkL B0 [] := OkL.nil
  refine lv_iload_n hx hb dX9_in_0 rfl (lv_at hl 0 rfl) ?_
  refine lv_iload_n hx hb dX9_in_1 rfl (lv_at hl 1 rfl) ?_
  refine lv_icmp_lt (tgt := 14) hx hb dX9_in_2 (by decide) (fun c342 => ?_) (fun c342 => ?_)
  · refine lv_iconst (v := 0) hx hb dX9_in_14 (by decide) ?_
    exact en_i hx hb hr hlocks hL rfl (Nat.zero_le _) (Nat.zero_le _) dX9_in_15 (⟨rfl, Or.inl ⟨rfl, Or.inl c342⟩⟩)
  · refine lv_iload_n hx hb dX9_in_5 rfl (lv_at hl 0 rfl) ?_
    refine lv_iload_n hx hb dX9_in_6 rfl (lv_at hl 2 rfl) ?_
    refine lv_icmp_gt (tgt := 14) hx hb dX9_in_7 (by decide) (fun c343 => ?_) (fun c343 => ?_)
    · refine lv_iconst (v := 0) hx hb dX9_in_14 (by decide) ?_
      exact en_i hx hb hr hlocks hL rfl (Nat.zero_le _) (Nat.zero_le _) dX9_in_15 (⟨rfl, Or.inl ⟨rfl, Or.inr c343⟩⟩)
    · refine lv_iconst (v := 1) hx hb dX9_in_10 (by decide) ?_
      refine lv_goto (tgt := 15) hx hb dX9_in_11 (by decide) ?_
      exact en_i hx hb hr hlocks hL rfl (Nat.zero_le _) (Nat.zero_le _) dX9_in_15 (⟨rfl, Or.inr ⟨rfl, c342, c343⟩⟩)
set_option maxHeartbeats 4000000 in
set_option maxRecDepth 100000 in
theorem c_X9_min {l : Launch} {D : va_G} {cs : Nat → ClassId} {B0 T : Nat} {κ : KM} {H0 : Heap} (hT : WT B0 D cs T κ H0) {x : Int32} {y : Int32} : KC l yX9_min wsX9_min 0 0 0 0 D cs B0 H0 [.int x, .int y] (Qi (fun _ H => H = H0)) := by
  refine KC.of cX9_min 2 (some .int) (by decide) rfl (Nat.le_of_ble_eq_true rfl) ?_
  intro p e s m below meth c ls hx hb hr hml hown hts hlocks hin hN hE hH0 hl
  have hown : s.vm.findClass RX9 = some m.cls := hown
  have hl : lv_has ls 2 [(0, .int x), (1, .int y)] := hl
  have hL : OkL B0 [] := OkL.nil
  refine lv_iload_n hx hb dX9_min_0 rfl (lv_at hl 0 rfl) ?_
  refine lv_iload_n hx hb dX9_min_1 rfl (lv_at hl 1 rfl) ?_
  refine lv_icmp_ge (tgt := 9) hx hb dX9_min_2 (by decide) (fun c344 => ?_) (fun c344 => ?_)
  · refine lv_iload_n hx hb dX9_min_9 rfl (lv_at hl 1 rfl) ?_
    exact en_i hx hb hr hlocks hL rfl (Nat.zero_le _) (Nat.zero_le _) dX9_min_10 (rfl)
  · refine lv_iload_n hx hb dX9_min_5 rfl (lv_at hl 0 rfl) ?_
    refine lv_goto (tgt := 10) hx hb dX9_min_6 (by decide) ?_
    exact en_i hx hb hr hlocks hL rfl (Nat.zero_le _) (Nat.zero_le _) dX9_min_10 (rfl)
set_option maxHeartbeats 4000000 in
set_option maxRecDepth 100000 in
theorem c_X9_max {l : Launch} {D : va_G} {cs : Nat → ClassId} {B0 T : Nat} {κ : KM} {H0 : Heap} (hT : WT B0 D cs T κ H0) {x : Int32} {y : Int32} : KC l yX9_max wsX9_max 0 0 0 0 D cs B0 H0 [.int x, .int y] (Qi (fun _ H => H = H0)) := by
  refine KC.of cX9_max 2 (some .int) (by decide) rfl (Nat.le_of_ble_eq_true rfl) ?_
  intro p e s m below meth c ls hx hb hr hml hown hts hlocks hin hN hE hH0 hl
  have hown : s.vm.findClass RX9 = some m.cls := hown
  have hl : lv_has ls 2 [(0, .int x), (1, .int y)] := hl
  have hL : OkL B0 [] := OkL.nil
  refine lv_iload_n hx hb dX9_max_0 rfl (lv_at hl 0 rfl) ?_
  refine lv_iload_n hx hb dX9_max_1 rfl (lv_at hl 1 rfl) ?_
  refine lv_icmp_le (tgt := 9) hx hb dX9_max_2 (by decide) (fun c345 => ?_) (fun c345 => ?_)
  · refine lv_iload_n hx hb dX9_max_9 rfl (lv_at hl 1 rfl) ?_
    exact en_i hx hb hr hlocks hL rfl (Nat.zero_le _) (Nat.zero_le _) dX9_max_10 (rfl)
  · refine lv_iload_n hx hb dX9_max_5 rfl (lv_at hl 0 rfl) ?_
    refine lv_goto (tgt := 10) hx hb dX9_max_6 (by decide) ?_
    exact en_i hx hb hr hlocks hL rfl (Nat.zero_le _) (Nat.zero_le _) dX9_max_10 (rfl)
theorem mX9_fails_1 : (.fieldLink RX9 40 "OneBeatModel" "thrown" "I" : Cond) ∈ wsX9_fails := List.mem_of_getElem? (i := 1) (by decide +kernel)
theorem iX9_fails_9 : ∀ w ∈ wsX90, w ∈ wsX9_fails := fun w h => List.mem_of_mem_drop (List.mem_of_mem_take ((show wsX90 = (wsX9_fails.drop 2).take 18 by decide +kernel) ▸ h))
set_option maxHeartbeats 4000000 in
set_option maxRecDepth 100000 in
theorem c_X9_fails {l : Launch} {D : va_G} {cs : Nat → ClassId} {B0 T : Nat} {κ : KM} {H0 : Heap} (hT : WT B0 D cs T κ H0) {w : Nat} (hw : T2 κ w 10 12) {x : Int32} {z : Int32} (hz : ¬ z = 0) : KC l yX9_fails wsX9_fails 0 0 0 0 D cs B0 H0 [.ref w, .int x, .int z] (Qi (fun r H => WT B0 D cs T κ H ∧ Fr B0 [12] κ H0 H ∧ (r = 1 ∨ (r = 0 ∧ x = 0)))) := by
  refine KC.of cX9_fails 3 (some .boolean) (by decide) rfl (Nat.le_of_ble_eq_true rfl) ?_
  intro p e s m below meth c ls hx hb hr hml hown hts hlocks hin hN hE hH0 hl
  have hown : s.vm.findClass RX9 = some m.cls := hown
  have hl : lv_has ls 3 [(0, .ref w), (1, .int x), (2, .int z)] := hl
  have hL : OkL B0 [] := OkL.nil
  have hF : Fr B0 [12] κ H0 H0 := Fr.rf
  refine lv_iload_n hx hb dX9_fails_0 rfl (lv_at hl 1 rfl) ?_
  refine lv_if_eq (tgt := 16) hx hb dX9_fails_1 (by decide) (fun c346 => ?_) (fun c346 => ?_)
  · refine lv_aload_n hx hb dX9_fails_16 rfl (lv_at hl 0 rfl) ?_
    obtain ⟨hb347, e347, hat347, hk347⟩ := hT.o10 hw.1
    obtain ⟨f347_0, f347_1, f347_3, f347_4, f347_5, f347_6, f347_7, f347_9, f347_10, f347_11, f347_12, f347_13, f347_14, f347_15, f347_16, f347_17, rfl, c347_2, c347_3, c347_4, c347_12, t347_1, t347_8, t347_9, c347_sd, t347_10, t347_11, t347_17⟩ := hk347
    have hP : va_P D vwCl [(w, .inr (9, [.int f347_0, .ref f347_1, .int (nI ((κ w).2.2.1)), .int (nI f347_3), .int (nI f347_4), .int f347_5, .int f347_6, .int f347_7, .ref (κ w).2.2.2, .ref f347_9, .ref f347_10, .ref f347_11, .int (nI f347_12), .int f347_13, .int f347_14, .int f347_15, .int f347_16, .ref f347_17]))] _ := va_P.cons hat347 va_P.nil
    refine va_get (D := D) (ci := 9) (v := .int f347_0) (C := RX9) (T := TX9) (N := 18) hx hb hts iX9_fails_9 hown hN.1 hP 0 rfl rfl 0 (by decide) (hts _ mX9_fails_1) (fun _ h9 => h9) rfl dX9_fails_17 ?_
    refine lv_if_eq (tgt := 27) hx hb dX9_fails_20 (by decide) (fun c348 => ?_) (fun c348 => ?_)
    · refine lv_iconst (v := 0) hx hb dX9_fails_27 (by decide) ?_
      exact en_i hx hb hr hlocks hL rfl (Nat.zero_le _) (Nat.zero_le _) dX9_fails_28 (⟨hT, hF, Or.inr ⟨rfl, c346⟩⟩)
    · refine lv_iconst (v := 1) hx hb dX9_fails_23 (by decide) ?_
      refine lv_goto (tgt := 28) hx hb dX9_fails_24 (by decide) ?_
      exact en_i hx hb hr hlocks hL rfl (Nat.zero_le _) (Nat.zero_le _) dX9_fails_28 (⟨hT, hF, Or.inl rfl⟩)
  · refine lv_aload_n hx hb dX9_fails_4 rfl (lv_at hl 0 rfl) ?_
    obtain ⟨hb349, e349, hat349, hk349⟩ := hT.o10 hw.1
    obtain ⟨f349_0, f349_1, f349_3, f349_4, f349_5, f349_6, f349_7, f349_9, f349_10, f349_11, f349_12, f349_13, f349_14, f349_15, f349_16, f349_17, rfl, c349_2, c349_3, c349_4, c349_12, t349_1, t349_8, t349_9, c349_sd, t349_10, t349_11, t349_17⟩ := hk349
    have hP : va_P D vwCl [(w, .inr (9, [.int f349_0, .ref f349_1, .int (nI ((κ w).2.2.1)), .int (nI f349_3), .int (nI f349_4), .int f349_5, .int f349_6, .int f349_7, .ref (κ w).2.2.2, .ref f349_9, .ref f349_10, .ref f349_11, .int (nI f349_12), .int f349_13, .int f349_14, .int f349_15, .int f349_16, .ref f349_17]))] _ := va_P.cons hat349 va_P.nil
    refine va_get (D := D) (ci := 9) (v := .int f349_0) (C := RX9) (T := TX9) (N := 18) hx hb hts iX9_fails_9 hown hN.1 hP 0 rfl rfl 0 (by decide) (hts _ mX9_fails_1) (fun _ h9 => h9) rfl dX9_fails_5 ?_
    refine lv_if_ne (tgt := 16) hx hb dX9_fails_8 (by decide) (fun c350 => ?_) (fun c350 => ?_)
    · refine lv_aload_n hx hb dX9_fails_16 rfl (lv_at hl 0 rfl) ?_
      refine va_get (D := D) (ci := 9) (v := .int f349_0) (C := RX9) (T := TX9) (N := 18) hx hb hts iX9_fails_9 hown hN.1 hP 0 rfl rfl 0 (by decide) (hts _ mX9_fails_1) (fun _ h9 => h9) rfl dX9_fails_17 ?_
      refine lv_if_eq (tgt := 27) hx hb dX9_fails_20 (by decide) (fun c351 => ?_) (fun c351 => ?_)
      · exact absurd c351 c350
      · refine lv_iconst (v := 1) hx hb dX9_fails_23 (by decide) ?_
        refine lv_goto (tgt := 28) hx hb dX9_fails_24 (by decide) ?_
        exact en_i hx hb hr hlocks hL rfl (Nat.zero_le _) (Nat.zero_le _) dX9_fails_28 (⟨hT, hF, Or.inl rfl⟩)
    · refine lv_aload_n hx hb dX9_fails_11 rfl (lv_at hl 0 rfl) ?_
      refine lv_iload_n hx hb dX9_fails_12 rfl (lv_at hl 2 rfl) ?_
      have hB : Bx B0 D _ [(w, .inr (9, [.int f349_0, .ref f349_1, .int (nI ((κ w).2.2.1)), .int (nI f349_3), .int (nI f349_4), .int f349_5, .int f349_6, .int f349_7, .ref (κ w).2.2.2, .ref f349_9, .ref f349_10, .ref f349_11, .int (nI f349_12), .int f349_13, .int f349_14, .int f349_15, .int f349_16, .ref f349_17]))] [] _ _ := Bx.of (fun a => (κ a).1) hL hP (fa_c hb349 fa_n) (by simp only [List.map_cons, List.map_nil, hw.1]; decide)
      refine b_put (D := D) (ci := 9) (v := .int z) (ty := .int) (C := RX9) (T := TX9) (N := 18) hx hb hts iX9_fails_9 tyX9 tyX9_ok nmX9 hown hN hB 0 rfl rfl 0 (by decide) (hts _ mX9_fails_1) (fun _ h9 => h9) rfl (by decide +kernel) rfl rfl (Nat.le_of_ble_eq_true rfl) (.inl rfl) dX9_fails_13 (fun H locs hB => ?_)
      have hB : Bx B0 D _ [(w, .inr (9, [.int z, .ref f349_1, .int (nI ((κ w).2.2.1)), .int (nI f349_3), .int (nI f349_4), .int f349_5, .int f349_6, .int f349_7, .ref (κ w).2.2.2, .ref f349_9, .ref f349_10, .ref f349_11, .int (nI f349_12), .int f349_13, .int f349_14, .int f349_15, .int f349_16, .ref f349_17]))] [w] _ _ := hB
      refine lv_aload_n hx hb dX9_fails_16 rfl (lv_at hl 0 rfl) ?_
      refine va_get (D := D) (ci := 9) (v := .int z) (C := RX9) (T := TX9) (N := 18) hx hb hts iX9_fails_9 hown hN.1 hB.1 0 rfl rfl 0 (by decide) (hts _ mX9_fails_1) (fun _ h9 => h9) rfl dX9_fails_17 ?_
      refine lv_if_eq (tgt := 27) hx hb dX9_fails_20 (by decide) (fun c352 => ?_) (fun c352 => ?_)
      · exact absurd c352 hz
      · refine lv_iconst (v := 1) hx hb dX9_fails_23 (by decide) ?_
        refine lv_goto (tgt := 28) hx hb dX9_fails_24 (by decide) ?_
        have hT : WT B0 D cs T κ _ := hT.close hB ⟨⟨0, _, rfl, ok_10 hw.1 ⟨_, _, _, _, _, _, _, _, _, _, _, _, _, _, _, _, rfl, (by omega), (by omega), (by omega), (by omega), t349_1, t349_8, t349_9, c349_sd, t349_10, t349_11, t349_17⟩⟩, trivial⟩
        have hF : Fr B0 [12] κ H0 _ := hF.close hB (fa_c (by simp [hw.2]) fa_n)
        have hL : OkL B0 _ := hB.2.2.2.2.2
        have hP : va_P D vwCl [(w, .inr (9, [.int z, .ref f349_1, .int (nI ((κ w).2.2.1)), .int (nI f349_3), .int (nI f349_4), .int f349_5, .int f349_6, .int f349_7, .ref (κ w).2.2.2, .ref f349_9, .ref f349_10, .ref f349_11, .int (nI f349_12), .int f349_13, .int f349_14, .int f349_15, .int f349_16, .ref f349_17]))] _ := hB.1
        exact en_i hx hb hr hlocks hL rfl (Nat.zero_le _) (Nat.zero_le _) dX9_fails_28 (⟨hT, hF, Or.inl rfl⟩)
theorem mX9_of_1 : (.fieldLink RX9 18 "OneBeatModel" "data" "[I" : Cond) ∈ wsX9_of := List.mem_of_getElem? (i := 1) (by decide +kernel)
theorem iX9_of_9 : ∀ w ∈ wsX90, w ∈ wsX9_of := fun w h => List.mem_of_mem_drop (List.mem_of_mem_take ((show wsX90 = (wsX9_of.drop 6).take 18 by decide +kernel) ▸ h))
theorem hdX9_playerAt_o : yX9_playerAt.cls ≠ "java/lang/invoke/MethodHandle" ∧ yX9_playerAt.cls ≠ "java/lang/invoke/VarHandle" ∧ (parseMethodDescriptor yX9_playerAt.desc).map (fun d => d.parameters.length) = some 1 := by decide +kernel
set_option maxHeartbeats 4000000 in
set_option maxRecDepth 100000 in
theorem c_X9_of {l : Launch} {D : va_G} {cs : Nat → ClassId} {B0 T : Nat} {κ : KM} {H0 : Heap} (hT : WT B0 D cs T κ H0) {w : Nat} (hw : T2 κ w 10 12) {n : Nat} (qn : n < 8) {k : Nat} (qk : k < 12) : KC l yX9_of wsX9_of 1 20 0 0 D cs B0 H0 [.ref w, .int (nI n), .int (nI k)] (Qi (fun _ H => H = H0)) := by
  refine KC.of cX9_of 3 (some .int) (by decide) rfl (Nat.le_of_ble_eq_true rfl) ?_
  intro p e s m below meth c ls hx hb hr hml hown hts hlocks hin hN hE hH0 hl
  have hown : s.vm.findClass RX9 = some m.cls := hown
  have hl : lv_has ls 3 [(0, .ref w), (1, .int (nI n)), (2, .int (nI k))] := hl
  have hL : OkL B0 [] := OkL.nil
  refine lv_aload_n hx hb dX9_of_0 rfl (lv_at hl 0 rfl) ?_
  obtain ⟨hb353, e353, hat353, hk353⟩ := hT.o10 hw.1
  obtain ⟨f353_0, f353_1, f353_3, f353_4, f353_5, f353_6, f353_7, f353_9, f353_10, f353_11, f353_12, f353_13, f353_14, f353_15, f353_16, f353_17, rfl, c353_2, c353_3, c353_4, c353_12, t353_1, t353_8, t353_9, c353_sd, t353_10, t353_11, t353_17⟩ := hk353
  have hP : va_P D vwCl [(w, .inr (9, [.int f353_0, .ref f353_1, .int (nI ((κ w).2.2.1)), .int (nI f353_3), .int (nI f353_4), .int f353_5, .int f353_6, .int f353_7, .ref (κ w).2.2.2, .ref f353_9, .ref f353_10, .ref f353_11, .int (nI f353_12), .int f353_13, .int f353_14, .int f353_15, .int f353_16, .ref f353_17]))] _ := va_P.cons hat353 va_P.nil
  refine va_get (D := D) (ci := 9) (v := .ref (κ w).2.2.2) (C := RX9) (T := TX9) (N := 18) hx hb hts iX9_of_9 hown hN.1 hP 0 rfl rfl 8 (by decide) (hts _ mX9_of_1) (fun _ h9 => h9) rfl dX9_of_1 ?_
  refine lv_iload_n hx hb dX9_of_4 rfl (lv_at hl 1 rfl) ?_
  refine cs_i (As := [.int (nI n)]) (rest := [.ref (κ w).2.2.2]) ⟨hx, hb, hml, hown, hts⟩ (c_X9_playerAt hT (n := n) (by first | omega | decide | assumption)) (va_cwS 1 hts gX9_of_X9_playerAt rfl rfl rfl hdX9_playerAt_o ⟨Nat.le_of_ble_eq_true rfl, Nat.le_of_ble_eq_true rfl⟩) hN hE hL rfl rfl hl.1 (Nat.le_of_ble_eq_true rfl) dX9_of_5 (Nat.zero_le _) (Nat.zero_le _) (fun r354 H1 locs hL hqr354 => ?_)
  obtain ⟨h9, hqr354⟩ := hqr354; replace h9 := h9.symm; subst h9
  obtain rfl := hqr354
  refine lv_iload_n hx hb dX9_of_8 rfl (lv_at hl 2 rfl) ?_
  refine lv_iadd hx hb dX9_of_9 ?_
  refine tp_i (nI ((23 + 12 * n) + k)) (nI_add (23 + 12 * n) k) ?_
  obtain ⟨hb355, e355, hat355, hk355⟩ := hT.o24 t353_8.1
  obtain ⟨g355, rfl, q355⟩ := hk355
  have hP : va_P D vwCl [((κ w).2.2.2, .inl (cs 0, 45783, .inl g355)), (w, .inr (9, [.int f353_0, .ref f353_1, .int (nI ((κ w).2.2.1)), .int (nI f353_3), .int (nI f353_4), .int f353_5, .int f353_6, .int f353_7, .ref (κ w).2.2.2, .ref f353_9, .ref f353_10, .ref f353_11, .int (nI f353_12), .int f353_13, .int f353_14, .int f353_15, .int f353_16, .ref f353_17]))] _ := va_P.cons hat355 hP
  refine ld_i (v := (g355 ((23 + 12 * n) + k))) hx hb hN hP 0 rfl (vp_in_nI (n := ((23 + 12 * n) + k)) (N := 45783) (by omega) (by omega)) (by rw [(show ((nI ((23 + 12 * n) + k)) : Int32).toNatClampNeg = ((23 + 12 * n) + k) from nI_clamp (n := ((23 + 12 * n) + k)) (by omega))]) dX9_of_10 ?_
  refine gn_i (fun x356 => ?_)
  exact en_i hx hb hr hlocks hL rfl (Nat.zero_le _) (Nat.zero_le _) dX9_of_11 (rfl)
theorem mX9_set_1 : (.fieldLink RX9 18 "OneBeatModel" "data" "[I" : Cond) ∈ wsX9_set := List.mem_of_getElem? (i := 1) (by decide +kernel)
theorem iX9_set_9 : ∀ w ∈ wsX90, w ∈ wsX9_set := fun w h => List.mem_of_mem_drop (List.mem_of_mem_take ((show wsX90 = (wsX9_set.drop 6).take 18 by decide +kernel) ▸ h))
set_option maxHeartbeats 4000000 in
set_option maxRecDepth 100000 in
theorem c_X9_set {l : Launch} {D : va_G} {cs : Nat → ClassId} {B0 T : Nat} {κ : KM} {H0 : Heap} (hT : WT B0 D cs T κ H0) {w : Nat} (hw : T2 κ w 10 12) {n : Nat} (qn : n < 8) {k : Nat} (qk : k < 12) {x : Int32} : KC l yX9_set wsX9_set 1 20 0 0 D cs B0 H0 [.ref w, .int (nI n), .int (nI k), .int x] (Qv (fun H => WT B0 D cs T κ H ∧ Fr B0 [18] κ H0 H)) := by
  refine KC.of cX9_set 4 none (by decide) rfl (Nat.le_of_ble_eq_true rfl) ?_
  intro p e s m below meth c ls hx hb hr hml hown hts hlocks hin hN hE hH0 hl
  have hown : s.vm.findClass RX9 = some m.cls := hown
  have hl : lv_has ls 4 [(0, .ref w), (1, .int (nI n)), (2, .int (nI k)), (3, .int x)] := hl
  have hL : OkL B0 [] := OkL.nil
  have hF : Fr B0 [18] κ H0 H0 := Fr.rf
  refine lv_aload_n hx hb dX9_set_0 rfl (lv_at hl 0 rfl) ?_
  obtain ⟨hb357, e357, hat357, hk357⟩ := hT.o10 hw.1
  obtain ⟨f357_0, f357_1, f357_3, f357_4, f357_5, f357_6, f357_7, f357_9, f357_10, f357_11, f357_12, f357_13, f357_14, f357_15, f357_16, f357_17, rfl, c357_2, c357_3, c357_4, c357_12, t357_1, t357_8, t357_9, c357_sd, t357_10, t357_11, t357_17⟩ := hk357
  have hP : va_P D vwCl [(w, .inr (9, [.int f357_0, .ref f357_1, .int (nI ((κ w).2.2.1)), .int (nI f357_3), .int (nI f357_4), .int f357_5, .int f357_6, .int f357_7, .ref (κ w).2.2.2, .ref f357_9, .ref f357_10, .ref f357_11, .int (nI f357_12), .int f357_13, .int f357_14, .int f357_15, .int f357_16, .ref f357_17]))] _ := va_P.cons hat357 va_P.nil
  refine va_get (D := D) (ci := 9) (v := .ref (κ w).2.2.2) (C := RX9) (T := TX9) (N := 18) hx hb hts iX9_set_9 hown hN.1 hP 0 rfl rfl 8 (by decide) (hts _ mX9_set_1) (fun _ h9 => h9) rfl dX9_set_1 ?_
  refine lv_iload_n hx hb dX9_set_4 rfl (lv_at hl 1 rfl) ?_
  refine cs_i (As := [.int (nI n)]) (rest := [.ref (κ w).2.2.2]) ⟨hx, hb, hml, hown, hts⟩ (c_X9_playerAt hT (n := n) (by first | omega | decide | assumption)) (va_cwS 1 hts gX9_set_X9_playerAt rfl rfl rfl hdX9_playerAt_o ⟨Nat.le_of_ble_eq_true rfl, Nat.le_of_ble_eq_true rfl⟩) hN hE hL rfl rfl hl.1 (Nat.le_of_ble_eq_true rfl) dX9_set_5 (Nat.zero_le _) (Nat.zero_le _) (fun r358 H1 locs hL hqr358 => ?_)
  obtain ⟨h9, hqr358⟩ := hqr358; replace h9 := h9.symm; subst h9
  obtain rfl := hqr358
  refine lv_iload_n hx hb dX9_set_8 rfl (lv_at hl 2 rfl) ?_
  refine lv_iadd hx hb dX9_set_9 ?_
  refine tp_i (nI ((23 + 12 * n) + k)) (nI_add (23 + 12 * n) k) ?_
  refine lv_iload_n hx hb dX9_set_10 rfl (lv_at hl 3 rfl) ?_
  obtain ⟨hb359, e359, hat359, hk359⟩ := hT.o24 t357_8.1
  obtain ⟨g359, rfl, q359⟩ := hk359
  have hP : va_P D vwCl [((κ w).2.2.2, .inl (cs 0, 45783, .inl g359)), (w, .inr (9, [.int f357_0, .ref f357_1, .int (nI ((κ w).2.2.1)), .int (nI f357_3), .int (nI f357_4), .int f357_5, .int f357_6, .int f357_7, .ref (κ w).2.2.2, .ref f357_9, .ref f357_10, .ref f357_11, .int (nI f357_12), .int f357_13, .int f357_14, .int f357_15, .int f357_16, .ref f357_17]))] _ := va_P.cons hat359 hP
  have hB : Bx B0 D _ [((κ w).2.2.2, .inl (cs 0, 45783, .inl g359)), (w, .inr (9, [.int f357_0, .ref f357_1, .int (nI ((κ w).2.2.1)), .int (nI f357_3), .int (nI f357_4), .int f357_5, .int f357_6, .int f357_7, .ref (κ w).2.2.2, .ref f357_9, .ref f357_10, .ref f357_11, .int (nI f357_12), .int f357_13, .int f357_14, .int f357_15, .int f357_16, .ref f357_17]))] [] _ _ := Bx.of (fun a => (κ a).1) hL hP (fa_c hb359 (fa_c hb357 fa_n)) (by simp only [List.map_cons, List.map_nil, t357_8.1, hw.1]; decide)
  refine b_i hx hb hN hB 0 rfl (vp_in_nI (n := ((23 + 12 * n) + k)) (N := 45783) (by omega) (by omega)) (.inl rfl) dX9_set_11 (fun H locs hB => ?_)
  rw [(show ((nI ((23 + 12 * n) + k)) : Int32).toNatClampNeg = ((23 + 12 * n) + k) from nI_clamp (n := ((23 + 12 * n) + k)) (by omega))] at hB
  have hB : Bx B0 D _ [((κ w).2.2.2, .inl (cs 0, 45783, .inl (upd g359 ((23 + 12 * n) + k) x))), (w, .inr (9, [.int f357_0, .ref f357_1, .int (nI ((κ w).2.2.1)), .int (nI f357_3), .int (nI f357_4), .int f357_5, .int f357_6, .int f357_7, .ref (κ w).2.2.2, .ref f357_9, .ref f357_10, .ref f357_11, .int (nI f357_12), .int f357_13, .int f357_14, .int f357_15, .int f357_16, .ref f357_17]))] [(κ w).2.2.2] _ _ := hB
  have z360 := DOK.sf q359 (k := ((23 + 12 * n) + k)) (by omega) (x := x)
  have hT : WT B0 D cs T κ _ := hT.close hB ⟨⟨0, _, rfl, ok_24 t357_8.1 ⟨_, rfl, z360⟩⟩, trivial⟩
  have hF : Fr B0 [18] κ H0 _ := hF.close hB (fa_c (by simp [t357_8.2]) fa_n)
  have hL : OkL B0 _ := hB.2.2.2.2.2
  have hP : va_P D vwCl [((κ w).2.2.2, .inl (cs 0, 45783, .inl (upd g359 ((23 + 12 * n) + k) x))), (w, .inr (9, [.int f357_0, .ref f357_1, .int (nI ((κ w).2.2.1)), .int (nI f357_3), .int (nI f357_4), .int f357_5, .int f357_6, .int f357_7, .ref (κ w).2.2.2, .ref f357_9, .ref f357_10, .ref f357_11, .int (nI f357_12), .int f357_13, .int f357_14, .int f357_15, .int f357_16, .ref f357_17]))] _ := hB.1
  exact en_v hx hb hr hlocks hL (Nat.zero_le _) (Nat.zero_le _) dX9_set_12 (⟨hT, hF⟩)
theorem hdX9_of_v : yX9_of.cls = RX9 ∧ yX9_of.cls ≠ "java/lang/invoke/MethodHandle" ∧ yX9_of.cls ≠ "java/lang/invoke/VarHandle" ∧ (parseMethodDescriptor yX9_of.desc).map (fun d => d.parameters.length) = some 2 := by decide +kernel
set_option maxHeartbeats 4000000 in
set_option maxRecDepth 100000 in
theorem c_X9_isUp {l : Launch} {D : va_G} {cs : Nat → ClassId} {B0 T : Nat} {κ : KM} {H0 : Heap} (hT : WT B0 D cs T κ H0) {w : Nat} (hw : T2 κ w 10 12) {n : Nat} (qn : n < 8) : KC l yX9_isUp wsX9_isUp 2 42 0 0 D cs B0 H0 [.ref w, .int (nI n)] (Qi (fun r H => H = H0 ∧ (r = 0 ∨ r = 1))) := by
  refine KC.of cX9_isUp 2 (some .boolean) (by decide) rfl (Nat.le_of_ble_eq_true rfl) ?_
  intro p e s m below meth c ls hx hb hr hml hown hts hlocks hin hN hE hH0 hl
  have hown : s.vm.findClass RX9 = some m.cls := hown
  have hl : lv_has ls 2 [(0, .ref w), (1, .int (nI n))] := hl
  have hL : OkL B0 [] := OkL.nil
  refine lv_aload_n hx hb dX9_isUp_0 rfl (lv_at hl 0 rfl) ?_
  refine lv_iload_n hx hb dX9_isUp_1 rfl (lv_at hl 1 rfl) ?_
  refine lv_iconst (v := 0) hx hb dX9_isUp_2 (by decide) ?_
  refine cv_i (As := [.int (nI n), .int 0]) (rest := []) (b := w) ⟨hx, hb, hml, hown, hts⟩ (c_X9_of hT (w := w) hw (n := n) (k := 0) (by first | omega | decide | assumption) (by first | omega | decide | assumption)) (cwV 2 hts gX9_isUp_X9_of rfl rfl rfl hdX9_of_v ⟨Nat.le_of_ble_eq_true rfl, Nat.le_of_ble_eq_true rfl⟩) hN hE hL (rcv10 hN hT hw.1) rfl rfl hl.1 (Nat.le_of_ble_eq_true rfl) dX9_isUp_3 (Nat.zero_le _) (Nat.zero_le _) (fun r361 H1 locs hL hqr361 => ?_)
  obtain rfl := hqr361.symm
  refine lv_iconst (v := 1) hx hb dX9_isUp_6 (by decide) ?_
  refine lv_icmp_ne (tgt := 14) hx hb dX9_isUp_7 (by decide) (fun c362 => ?_) (fun c362 => ?_)
  · refine lv_iconst (v := 0) hx hb dX9_isUp_14 (by decide) ?_
    exact en_i hx hb hr hlocks hL rfl (Nat.zero_le _) (Nat.zero_le _) dX9_isUp_15 (⟨rfl, Or.inl rfl⟩)
  · refine lv_iconst (v := 1) hx hb dX9_isUp_10 (by decide) ?_
    refine lv_goto (tgt := 15) hx hb dX9_isUp_11 (by decide) ?_
    exact en_i hx hb hr hlocks hL rfl (Nat.zero_le _) (Nat.zero_le _) dX9_isUp_15 (⟨rfl, Or.inr rfl⟩)
theorem mX9_clock_1 : (.fieldLink RX9 18 "OneBeatModel" "data" "[I" : Cond) ∈ wsX9_clock := List.mem_of_getElem? (i := 1) (by decide +kernel)
theorem iX9_clock_9 : ∀ w ∈ wsX90, w ∈ wsX9_clock := fun w h => List.mem_of_mem_drop (List.mem_of_mem_take ((show wsX90 = (wsX9_clock.drop 10).take 18 by decide +kernel) ▸ h))
set_option maxHeartbeats 4000000 in
set_option maxRecDepth 100000 in
theorem c_X9_clock {l : Launch} {D : va_G} {cs : Nat → ClassId} {B0 T : Nat} {κ : KM} {H0 : Heap} (hT : WT B0 D cs T κ H0) {w : Nat} (hw : T2 κ w 10 12) {n : Nat} (qn : n < 8) : KC l yX9_clock wsX9_clock 2 42 0 0 D cs B0 H0 [.ref w, .int (nI n)] (Qi (fun _ H => H = H0)) := by
  refine KC.of cX9_clock 2 (some .int) (by decide) rfl (Nat.le_of_ble_eq_true rfl) ?_
  intro p e s m below meth c ls hx hb hr hml hown hts hlocks hin hN hE hH0 hl
  have hown : s.vm.findClass RX9 = some m.cls := hown
  have hl : lv_has ls 2 [(0, .ref w), (1, .int (nI n))] := hl
  have hL : OkL B0 [] := OkL.nil
  refine lv_aload_n hx hb dX9_clock_0 rfl (lv_at hl 0 rfl) ?_
  obtain ⟨hb363, e363, hat363, hk363⟩ := hT.o10 hw.1
  obtain ⟨f363_0, f363_1, f363_3, f363_4, f363_5, f363_6, f363_7, f363_9, f363_10, f363_11, f363_12, f363_13, f363_14, f363_15, f363_16, f363_17, rfl, c363_2, c363_3, c363_4, c363_12, t363_1, t363_8, t363_9, c363_sd, t363_10, t363_11, t363_17⟩ := hk363
  have hP : va_P D vwCl [(w, .inr (9, [.int f363_0, .ref f363_1, .int (nI ((κ w).2.2.1)), .int (nI f363_3), .int (nI f363_4), .int f363_5, .int f363_6, .int f363_7, .ref (κ w).2.2.2, .ref f363_9, .ref f363_10, .ref f363_11, .int (nI f363_12), .int f363_13, .int f363_14, .int f363_15, .int f363_16, .ref f363_17]))] _ := va_P.cons hat363 va_P.nil
  refine va_get (D := D) (ci := 9) (v := .ref (κ w).2.2.2) (C := RX9) (T := TX9) (N := 18) hx hb hts iX9_clock_9 hown hN.1 hP 0 rfl rfl 8 (by decide) (hts _ mX9_clock_1) (fun _ h9 => h9) rfl dX9_clock_1 ?_
  refine lv_iconst (v := 1) hx hb dX9_clock_4 (by decide) ?_
  obtain ⟨hb364, e364, hat364, hk364⟩ := hT.o24 t363_8.1
  obtain ⟨g364, rfl, q364⟩ := hk364
  have hP : va_P D vwCl [((κ w).2.2.2, .inl (cs 0, 45783, .inl g364)), (w, .inr (9, [.int f363_0, .ref f363_1, .int (nI ((κ w).2.2.1)), .int (nI f363_3), .int (nI f363_4), .int f363_5, .int f363_6, .int f363_7, .ref (κ w).2.2.2, .ref f363_9, .ref f363_10, .ref f363_11, .int (nI f363_12), .int f363_13, .int f363_14, .int f363_15, .int f363_16, .ref f363_17]))] _ := va_P.cons hat364 hP
  refine ld_i (v := (g364 1)) hx hb hN hP 0 rfl (vp_in_nI (n := 1) (N := 45783) (by omega) (by omega)) (by rw [(show (1 : Int32).toNatClampNeg = 1 from nI_clamp (n := 1) (by omega))]) dX9_clock_5 ?_
  refine gn_i (fun x365 => ?_)
  refine lv_aload_n hx hb dX9_clock_6 rfl (lv_at hl 0 rfl) ?_
  refine lv_iload_n hx hb dX9_clock_7 rfl (lv_at hl 1 rfl) ?_
  refine lv_iconst (v := 1) hx hb dX9_clock_8 (by decide) ?_
  refine cv_i (As := [.int (nI n), .int 1]) (rest := [.int x365]) (b := w) ⟨hx, hb, hml, hown, hts⟩ (c_X9_of hT (w := w) hw (n := n) (k := 1) (by first | omega | decide | assumption) (by first | omega | decide | assumption)) (cwV 2 hts gX9_clock_X9_of rfl rfl rfl hdX9_of_v ⟨Nat.le_of_ble_eq_true rfl, Nat.le_of_ble_eq_true rfl⟩) hN hE hL (rcv10 hN hT hw.1) rfl rfl hl.1 (Nat.le_of_ble_eq_true rfl) dX9_clock_9 (Nat.zero_le _) (Nat.zero_le _) (fun r366 H1 locs hL hqr366 => ?_)
  obtain rfl := hqr366.symm
  refine lv_iadd hx hb dX9_clock_12 ?_
  refine gn_i (fun x367 => ?_)
  refine lv_aload_n hx hb dX9_clock_13 rfl (lv_at hl 0 rfl) ?_
  refine va_get (D := D) (ci := 9) (v := .ref (κ w).2.2.2) (C := RX9) (T := TX9) (N := 18) hx hb hts iX9_clock_9 hown hN.1 hP 1 rfl rfl 8 (by decide) (hts _ mX9_clock_1) (fun _ h9 => h9) rfl dX9_clock_14 ?_
  refine lv_iconst (v := 1) hx hb dX9_clock_17 (by decide) ?_
  refine ld_i (v := (g364 1)) hx hb hN hP 0 rfl (vp_in_nI (n := 1) (N := 45783) (by omega) (by omega)) (by rw [(show (1 : Int32).toNatClampNeg = 1 from nI_clamp (n := 1) (by omega))]) dX9_clock_18 ?_
  refine gn_i (fun x368 => ?_)
  refine lv_aload_n hx hb dX9_clock_19 rfl (lv_at hl 0 rfl) ?_
  refine lv_iload_n hx hb dX9_clock_20 rfl (lv_at hl 1 rfl) ?_
  refine lv_iconst (v := 2) hx hb dX9_clock_21 (by decide) ?_
  refine cv_i (As := [.int (nI n), .int 2]) (rest := [.int x368, .int x367]) (b := w) ⟨hx, hb, hml, hown, hts⟩ (c_X9_of hT (w := w) hw (n := n) (k := 2) (by first | omega | decide | assumption) (by first | omega | decide | assumption)) (cwV 2 hts gX9_clock_X9_of rfl rfl rfl hdX9_of_v ⟨Nat.le_of_ble_eq_true rfl, Nat.le_of_ble_eq_true rfl⟩) hN hE hL (rcv10 hN hT hw.1) rfl rfl hl.1 (Nat.le_of_ble_eq_true rfl) dX9_clock_22 (Nat.zero_le _) (Nat.zero_le _) (fun r369 H1 locs hL hqr369 => ?_)
  obtain rfl := hqr369.symm
  refine lv_imul hx hb dX9_clock_25 ?_
  refine gn_i (fun x370 => ?_)
  refine lv_sipush (v := 1000) hx hb dX9_clock_26 (by decide) ?_
  refine lv_idiv hx hb dX9_clock_29 (by decide) ?_
  refine gn_i (fun x371 => ?_)
  refine lv_iadd hx hb dX9_clock_30 ?_
  refine gn_i (fun x372 => ?_)
  exact en_i hx hb hr hlocks hL rfl (Nat.zero_le _) (Nat.zero_le _) dX9_clock_31 (rfl)
theorem hdX9_clock_v : yX9_clock.cls = RX9 ∧ yX9_clock.cls ≠ "java/lang/invoke/MethodHandle" ∧ yX9_clock.cls ≠ "java/lang/invoke/VarHandle" ∧ (parseMethodDescriptor yX9_clock.desc).map (fun d => d.parameters.length) = some 1 := by decide +kernel
set_option maxHeartbeats 4000000 in
set_option maxRecDepth 100000 in
theorem c_X9_estimate {l : Launch} {D : va_G} {cs : Nat → ClassId} {B0 T : Nat} {κ : KM} {H0 : Heap} (hT : WT B0 D cs T κ H0) {w : Nat} (hw : T2 κ w 10 12) {n : Nat} (qn : n < 8) : KC l yX9_estimate wsX9_estimate 3 63 0 0 D cs B0 H0 [.ref w, .int (nI n)] (Qi (fun _ H => H = H0)) := by
  refine KC.of cX9_estimate 2 (some .int) (by decide) rfl (Nat.le_of_ble_eq_true rfl) ?_
  intro p e s m below meth c ls hx hb hr hml hown hts hlocks hin hN hE hH0 hl
  have hown : s.vm.findClass RX9 = some m.cls := hown
  have hl : lv_has ls 2 [(0, .ref w), (1, .int (nI n))] := hl
  have hL : OkL B0 [] := OkL.nil
  refine lv_aload_n hx hb dX9_estimate_0 rfl (lv_at hl 0 rfl) ?_
  refine lv_iload_n hx hb dX9_estimate_1 rfl (lv_at hl 1 rfl) ?_
  refine cv_i (As := [.int (nI n)]) (rest := []) (b := w) ⟨hx, hb, hml, hown, hts⟩ (c_X9_clock hT (w := w) hw (n := n) (by first | omega | decide | assumption)) (cwV 1 hts gX9_estimate_X9_clock rfl rfl rfl hdX9_clock_v ⟨Nat.le_of_ble_eq_true rfl, Nat.le_of_ble_eq_true rfl⟩) hN hE hL (rcv10 hN hT hw.1) rfl rfl hl.1 (Nat.le_of_ble_eq_true rfl) dX9_estimate_2 (Nat.zero_le _) (Nat.zero_le _) (fun r373 H1 locs hL hqr373 => ?_)
  obtain rfl := hqr373.symm
  refine lv_aload_n hx hb dX9_estimate_5 rfl (lv_at hl 0 rfl) ?_
  refine lv_iload_n hx hb dX9_estimate_6 rfl (lv_at hl 1 rfl) ?_
  refine lv_iconst (v := 3) hx hb dX9_estimate_7 (by decide) ?_
  refine cv_i (As := [.int (nI n), .int 3]) (rest := [.int r373]) (b := w) ⟨hx, hb, hml, hown, hts⟩ (c_X9_of hT (w := w) hw (n := n) (k := 3) (by first | omega | decide | assumption) (by first | omega | decide | assumption)) (cwV 2 hts gX9_estimate_X9_of rfl rfl rfl hdX9_of_v ⟨Nat.le_of_ble_eq_true rfl, Nat.le_of_ble_eq_true rfl⟩) hN hE hL (rcv10 hN hT hw.1) rfl rfl hl.1 (Nat.le_of_ble_eq_true rfl) dX9_estimate_8 (Nat.zero_le _) (Nat.zero_le _) (fun r374 H1 locs hL hqr374 => ?_)
  obtain rfl := hqr374.symm
  refine lv_iadd hx hb dX9_estimate_11 ?_
  refine gn_i (fun x375 => ?_)
  exact en_i hx hb hr hlocks hL rfl (Nat.zero_le _) (Nat.zero_le _) dX9_estimate_12 (rfl)
theorem mX9_longestDelay_1 : (.fieldLink RX9 18 "OneBeatModel" "data" "[I" : Cond) ∈ wsX9_longestDelay := List.mem_of_getElem? (i := 1) (by decide +kernel)
theorem iX9_longestDelay_9 : ∀ w ∈ wsX90, w ∈ wsX9_longestDelay := fun w h => List.mem_of_mem_drop (List.mem_of_mem_take ((show wsX90 = (wsX9_longestDelay.drop 6).take 18 by decide +kernel) ▸ h))
theorem hdX9_max_o : yX9_max.cls ≠ "java/lang/invoke/MethodHandle" ∧ yX9_max.cls ≠ "java/lang/invoke/VarHandle" ∧ (parseMethodDescriptor yX9_max.desc).map (fun d => d.parameters.length) = some 2 := by decide +kernel
set_option maxHeartbeats 4000000 in
set_option maxRecDepth 100000 in
theorem c_X9_longestDelay {l : Launch} {D : va_G} {cs : Nat → ClassId} {B0 T : Nat} {κ : KM} {H0 : Heap} (hT : WT B0 D cs T κ H0) {w : Nat} (hw : T2 κ w 10 12) : KC l yX9_longestDelay wsX9_longestDelay 1 21 0 0 D cs B0 H0 [.ref w] (Qi (fun _ H => H = H0)) := by
  refine KC.of cX9_longestDelay 3 (some .int) (by decide) rfl (Nat.le_of_ble_eq_true rfl) ?_
  intro p e s m below meth c ls hx hb hr hml hown hts hlocks hin hN hE hH0 hl
  have hown : s.vm.findClass RX9 = some m.cls := hown
  have hl : lv_has ls 3 [(0, .ref w)] := hl
  have hL : OkL B0 [] := OkL.nil
  refine lv_iconst (v := 0) hx hb dX9_longestDelay_0 (by decide) ?_
  refine lv_istore_n (lv' := [(1, .int 0), (0, .ref w)]) hx hb dX9_longestDelay_1 rfl hl (by decide) rfl (fun ls hl => ?_)
  refine lv_iconst (v := 0) hx hb dX9_longestDelay_2 (by decide) ?_
  refine lv_istore_n (lv' := [(2, .int 0), (1, .int 0), (0, .ref w)]) hx hb dX9_longestDelay_3 rfl hl (by decide) rfl (fun ls hl => ?_)
  refine lp_r (B0 := B0) (α := Nat × Int32) (nL := 3) (fun a9 => 64 - a9.1) (fun a9 => (a9.1 ≤ 64)) (fun a9 => [(2, .int (nI a9.1)), (1, .int a9.2), (0, .ref w)]) ?_ (0, 0) _ _ (by show (0) ≤ 64; omega) hL (lv_sub hl [0, 1, 2] rfl)
  rintro ⟨p, x⟩ locs ls ih376 hp hL hl
  have hl : lv_has ls 3 [(2, .int (nI p)), (1, .int x), (0, .ref w)] := hl
  have hp : p ≤ 64 := hp
  refine lv_iload_n hx hb dX9_longestDelay_4 rfl (lv_at hl 0 rfl) ?_
  refine lv_bipush (v := 64) hx hb dX9_longestDelay_5 (by decide) ?_
  refine lv_icmp_ge (tgt := 30) hx hb dX9_longestDelay_7 (by decide) (fun c377 => ?_) (fun c377 => ?_)
  · have c377 : 64 ≤ p := (nI_leI (a := 64) (b := p) (by omega) (by omega)).mp c377
    refine lv_iload_n hx hb dX9_longestDelay_30 rfl (lv_at hl 1 rfl) ?_
    exact en_i hx hb hr hlocks hL rfl (Nat.zero_le _) (Nat.zero_le _) dX9_longestDelay_31 (rfl)
  · have c377 : ¬ 64 ≤ p := fun h9 => c377 ((nI_leI (a := 64) (b := p) (by omega) (by omega)).mpr h9)
    refine lv_iload_n hx hb dX9_longestDelay_10 rfl (lv_at hl 1 rfl) ?_
    refine lv_aload_n hx hb dX9_longestDelay_11 rfl (lv_at hl 2 rfl) ?_
    obtain ⟨hb378, e378, hat378, hk378⟩ := hT.o10 hw.1
    obtain ⟨f378_0, f378_1, f378_3, f378_4, f378_5, f378_6, f378_7, f378_9, f378_10, f378_11, f378_12, f378_13, f378_14, f378_15, f378_16, f378_17, rfl, c378_2, c378_3, c378_4, c378_12, t378_1, t378_8, t378_9, c378_sd, t378_10, t378_11, t378_17⟩ := hk378
    have hP : va_P D vwCl [(w, .inr (9, [.int f378_0, .ref f378_1, .int (nI ((κ w).2.2.1)), .int (nI f378_3), .int (nI f378_4), .int f378_5, .int f378_6, .int f378_7, .ref (κ w).2.2.2, .ref f378_9, .ref f378_10, .ref f378_11, .int (nI f378_12), .int f378_13, .int f378_14, .int f378_15, .int f378_16, .ref f378_17]))] _ := va_P.cons hat378 va_P.nil
    refine va_get (D := D) (ci := 9) (v := .ref (κ w).2.2.2) (C := RX9) (T := TX9) (N := 18) hx hb hts iX9_longestDelay_9 hown hN.1 hP 0 rfl rfl 8 (by decide) (hts _ mX9_longestDelay_1) (fun _ h9 => h9) rfl dX9_longestDelay_12 ?_
    refine lv_bipush (v := 119) hx hb dX9_longestDelay_15 (by decide) ?_
    refine lv_iload_n hx hb dX9_longestDelay_17 rfl (lv_at hl 0 rfl) ?_
    refine lv_iadd hx hb dX9_longestDelay_18 ?_
    refine tp_i (nI (119 + p)) (nI_add 119 p) ?_
    obtain ⟨hb379, e379, hat379, hk379⟩ := hT.o24 t378_8.1
    obtain ⟨g379, rfl, q379⟩ := hk379
    have hP : va_P D vwCl [((κ w).2.2.2, .inl (cs 0, 45783, .inl g379)), (w, .inr (9, [.int f378_0, .ref f378_1, .int (nI ((κ w).2.2.1)), .int (nI f378_3), .int (nI f378_4), .int f378_5, .int f378_6, .int f378_7, .ref (κ w).2.2.2, .ref f378_9, .ref f378_10, .ref f378_11, .int (nI f378_12), .int f378_13, .int f378_14, .int f378_15, .int f378_16, .ref f378_17]))] _ := va_P.cons hat379 hP
    refine ld_i (v := (g379 (119 + p))) hx hb hN hP 0 rfl (vp_in_nI (n := (119 + p)) (N := 45783) (by omega) (by omega)) (by rw [(show ((nI (119 + p)) : Int32).toNatClampNeg = (119 + p) from nI_clamp (n := (119 + p)) (by omega))]) dX9_longestDelay_19 ?_
    refine gn_i (fun x380 => ?_)
    refine cs_i (As := [.int x, .int x380]) (rest := []) ⟨hx, hb, hml, hown, hts⟩ (c_X9_max hT (x := x) (y := x380)) (va_cwS 2 hts gX9_longestDelay_X9_max rfl rfl rfl hdX9_max_o ⟨Nat.le_of_ble_eq_true rfl, Nat.le_of_ble_eq_true rfl⟩) hN hE hL rfl rfl hl.1 (Nat.le_of_ble_eq_true rfl) dX9_longestDelay_20 (Nat.zero_le _) (Nat.zero_le _) (fun r381 H1 locs hL hqr381 => ?_)
    obtain rfl := hqr381.symm
    refine lv_istore_n (lv' := [(1, .int r381), (2, .int (nI p)), (0, .ref w)]) hx hb dX9_longestDelay_23 rfl hl (by decide) rfl (fun ls hl => ?_)
    refine lv_iinc (v := (nI (p + 1))) (lv' := [(2, .int (nI (p + 1))), (1, .int r381), (0, .ref w)]) hx hb dX9_longestDelay_24 hl (k := 1) rfl (nI_add _ 1) (by decide) rfl (fun ls hl => ?_)
    refine lv_goto (tgt := 4) hx hb dX9_longestDelay_27 (by decide) ?_
    exact ih376 ((p + 1), r381) _ _ (by show 64 - ((p + 1)) < 64 - p; omega) (by show ((p + 1)) ≤ 64; omega) hL (lv_sub hl [0, 1, 2] rfl)
theorem mX9_playersUp_1 : (.fieldLink RX9 18 "OneBeatModel" "data" "[I" : Cond) ∈ wsX9_playersUp := List.mem_of_getElem? (i := 1) (by decide +kernel)
theorem iX9_playersUp_9 : ∀ w ∈ wsX90, w ∈ wsX9_playersUp := fun w h => List.mem_of_mem_drop (List.mem_of_mem_take ((show wsX90 = (wsX9_playersUp.drop 10).take 18 by decide +kernel) ▸ h))
set_option maxHeartbeats 4000000 in
set_option maxRecDepth 100000 in
theorem c_X9_playersUp {l : Launch} {D : va_G} {cs : Nat → ClassId} {B0 T : Nat} {κ : KM} {H0 : Heap} (hT : WT B0 D cs T κ H0) {w : Nat} (hw : T2 κ w 10 12) : KC l yX9_playersUp wsX9_playersUp 2 42 0 0 D cs B0 H0 [.ref w] (Qi (fun _ H => H = H0)) := by
  refine KC.of cX9_playersUp 3 (some .int) (by decide) rfl (Nat.le_of_ble_eq_true rfl) ?_
  intro p e s m below meth c ls hx hb hr hml hown hts hlocks hin hN hE hH0 hl
  have hown : s.vm.findClass RX9 = some m.cls := hown
  have hl : lv_has ls 3 [(0, .ref w)] := hl
  have hL : OkL B0 [] := OkL.nil
  refine lv_iconst (v := 0) hx hb dX9_playersUp_0 (by decide) ?_
  refine lv_istore_n (lv' := [(1, .int 0), (0, .ref w)]) hx hb dX9_playersUp_1 rfl hl (by decide) rfl (fun ls hl => ?_)
  refine lv_iconst (v := 0) hx hb dX9_playersUp_2 (by decide) ?_
  refine lv_istore_n (lv' := [(2, .int 0), (1, .int 0), (0, .ref w)]) hx hb dX9_playersUp_3 rfl hl (by decide) rfl (fun ls hl => ?_)
  refine lp_r (B0 := B0) (α := Nat × Int32) (nL := 3) (fun a9 => 8 - a9.1) (fun a9 => (a9.1 ≤ 8)) (fun a9 => [(2, .int (nI a9.1)), (1, .int a9.2), (0, .ref w)]) ?_ (0, 0) _ _ (by show (0) ≤ 8; omega) hL (lv_sub hl [0, 1, 2] rfl)
  rintro ⟨p, x⟩ locs ls ih382 hp hL hl
  have hl : lv_has ls 3 [(2, .int (nI p)), (1, .int x), (0, .ref w)] := hl
  have hp : p ≤ 8 := hp
  refine lv_iload_n hx hb dX9_playersUp_4 rfl (lv_at hl 0 rfl) ?_
  refine lv_aload_n hx hb dX9_playersUp_5 rfl (lv_at hl 2 rfl) ?_
  obtain ⟨hb383, e383, hat383, hk383⟩ := hT.o10 hw.1
  obtain ⟨f383_0, f383_1, f383_3, f383_4, f383_5, f383_6, f383_7, f383_9, f383_10, f383_11, f383_12, f383_13, f383_14, f383_15, f383_16, f383_17, rfl, c383_2, c383_3, c383_4, c383_12, t383_1, t383_8, t383_9, c383_sd, t383_10, t383_11, t383_17⟩ := hk383
  have hP : va_P D vwCl [(w, .inr (9, [.int f383_0, .ref f383_1, .int (nI ((κ w).2.2.1)), .int (nI f383_3), .int (nI f383_4), .int f383_5, .int f383_6, .int f383_7, .ref (κ w).2.2.2, .ref f383_9, .ref f383_10, .ref f383_11, .int (nI f383_12), .int f383_13, .int f383_14, .int f383_15, .int f383_16, .ref f383_17]))] _ := va_P.cons hat383 va_P.nil
  refine va_get (D := D) (ci := 9) (v := .ref (κ w).2.2.2) (C := RX9) (T := TX9) (N := 18) hx hb hts iX9_playersUp_9 hown hN.1 hP 0 rfl rfl 8 (by decide) (hts _ mX9_playersUp_1) (fun _ h9 => h9) rfl dX9_playersUp_6 ?_
  refine lv_iconst (v := 0) hx hb dX9_playersUp_9 (by decide) ?_
  obtain ⟨hb384, e384, hat384, hk384⟩ := hT.o24 t383_8.1
  obtain ⟨g384, rfl, q384⟩ := hk384
  have hP : va_P D vwCl [((κ w).2.2.2, .inl (cs 0, 45783, .inl g384)), (w, .inr (9, [.int f383_0, .ref f383_1, .int (nI ((κ w).2.2.1)), .int (nI f383_3), .int (nI f383_4), .int f383_5, .int f383_6, .int f383_7, .ref (κ w).2.2.2, .ref f383_9, .ref f383_10, .ref f383_11, .int (nI f383_12), .int f383_13, .int f383_14, .int f383_15, .int f383_16, .ref f383_17]))] _ := va_P.cons hat384 hP
  refine ld_i (v := (g384 0)) hx hb hN hP 0 rfl (vp_in_nI (n := 0) (N := 45783) (by omega) (by omega)) (by rw [(show (0 : Int32).toNatClampNeg = 0 from nI_clamp (n := 0) (by omega))]) dX9_playersUp_10 ?_
  obtain ⟨n385, hn385, en385⟩ := q384.1
  refine tp_i (nI n385) en385 ?_
  refine lv_icmp_ge (tgt := 29) hx hb dX9_playersUp_11 (by decide) (fun c386 => ?_) (fun c386 => ?_)
  · have c386 : n385 ≤ p := (nI_leI (a := n385) (b := p) (by omega) (by omega)).mp c386
    refine lv_iload_n hx hb dX9_playersUp_29 rfl (lv_at hl 1 rfl) ?_
    exact en_i hx hb hr hlocks hL rfl (Nat.zero_le _) (Nat.zero_le _) dX9_playersUp_30 (rfl)
  · have c386 : ¬ n385 ≤ p := fun h9 => c386 ((nI_leI (a := n385) (b := p) (by omega) (by omega)).mpr h9)
    refine lv_iload_n hx hb dX9_playersUp_14 rfl (lv_at hl 1 rfl) ?_
    refine lv_aload_n hx hb dX9_playersUp_15 rfl (lv_at hl 2 rfl) ?_
    refine lv_iload_n hx hb dX9_playersUp_16 rfl (lv_at hl 0 rfl) ?_
    refine lv_iconst (v := 0) hx hb dX9_playersUp_17 (by decide) ?_
    refine cv_i (As := [.int (nI p), .int 0]) (rest := [.int x]) (b := w) ⟨hx, hb, hml, hown, hts⟩ (c_X9_of hT (w := w) hw (n := p) (k := 0) (by first | omega | decide | assumption) (by first | omega | decide | assumption)) (cwV 2 hts gX9_playersUp_X9_of rfl rfl rfl hdX9_of_v ⟨Nat.le_of_ble_eq_true rfl, Nat.le_of_ble_eq_true rfl⟩) hN hE hL (rcv10 hN hT hw.1) rfl rfl hl.1 (Nat.le_of_ble_eq_true rfl) dX9_playersUp_18 (Nat.zero_le _) (Nat.zero_le _) (fun r387 H1 locs hL hqr387 => ?_)
    obtain rfl := hqr387.symm
    refine lv_iadd hx hb dX9_playersUp_21 ?_
    refine gn_i (fun x388 => ?_)
    refine lv_istore_n (lv' := [(1, .int x388), (2, .int (nI p)), (0, .ref w)]) hx hb dX9_playersUp_22 rfl hl (by decide) rfl (fun ls hl => ?_)
    refine lv_iinc (v := (nI (p + 1))) (lv' := [(2, .int (nI (p + 1))), (1, .int x388), (0, .ref w)]) hx hb dX9_playersUp_23 hl (k := 1) rfl (nI_add _ 1) (by decide) rfl (fun ls hl => ?_)
    refine lv_goto (tgt := 4) hx hb dX9_playersUp_26 (by decide) ?_
    exact ih382 ((p + 1), x388) _ _ (by show 8 - ((p + 1)) < 8 - p; omega) (by show ((p + 1)) ≤ 8; omega) hL (lv_sub hl [0, 1, 2] rfl)
theorem mX9_limited_1 : (.constantLong RX9 189 (1000000) : Cond) ∈ wsX9_limited := List.mem_of_getElem? (i := 1) (by decide +kernel)
theorem mX9_limited_2 : (.constantLong RX9 191 (-1000000) : Cond) ∈ wsX9_limited := List.mem_of_getElem? (i := 2) (by decide +kernel)
set_option maxHeartbeats 4000000 in
set_option maxRecDepth 100000 in
theorem c_X9_limited {l : Launch} {D : va_G} {cs : Nat → ClassId} {B0 T : Nat} {κ : KM} {H0 : Heap} (hT : WT B0 D cs T κ H0) {l_x : Int64} : KC l yX9_limited wsX9_limited 0 0 0 0 D cs B0 H0 [.long l_x] (Ql (fun _ H => H = H0)) := by
  refine KC.of cX9_limited 2 (some .long) (by decide) rfl (Nat.le_of_ble_eq_true rfl) ?_
  intro p e s m below meth c ls hx hb hr hml hown hts hlocks hin hN hE hH0 hl
  have hown : s.vm.findClass RX9 = some m.cls := hown
  have hl : lv_has ls 2 [(0, .long l_x)] := hl
  have hL : OkL B0 [] := OkL.nil
  refine lv_lload_n hx hb dX9_limited_0 rfl (lv_at hl 0 rfl) ?_
  refine lv_ldc2 (v := 1000000) hx hb hown (hts _ mX9_limited_1) dX9_limited_1 ?_
  refine W.lcmp hx hb dX9_limited_4 ?_
  refine gn_i (fun x389 => ?_)
  refine lv_if_le (tgt := 14) hx hb dX9_limited_5 (by decide) (fun c390 => ?_) (fun c390 => ?_)
  · refine lv_lload_n hx hb dX9_limited_14 rfl (lv_at hl 0 rfl) ?_
    refine lv_ldc2 (v := (-1000000)) hx hb hown (hts _ mX9_limited_2) dX9_limited_15 ?_
    refine W.lcmp hx hb dX9_limited_18 ?_
    refine gn_i (fun x391 => ?_)
    refine lv_if_ge (tgt := 28) hx hb dX9_limited_19 (by decide) (fun c392 => ?_) (fun c392 => ?_)
    · refine lv_lload_n hx hb dX9_limited_28 rfl (lv_at hl 0 rfl) ?_
      exact en_l hx hb hr hlocks hL (Nat.zero_le _) (Nat.zero_le _) dX9_limited_29 (rfl)
    · refine lv_ldc2 (v := (-1000000)) hx hb hown (hts _ mX9_limited_2) dX9_limited_22 ?_
      refine lv_goto (tgt := 29) hx hb dX9_limited_25 (by decide) ?_
      exact en_l hx hb hr hlocks hL (Nat.zero_le _) (Nat.zero_le _) dX9_limited_29 (rfl)
  · refine lv_ldc2 (v := 1000000) hx hb hown (hts _ mX9_limited_1) dX9_limited_8 ?_
    refine lv_goto (tgt := 29) hx hb dX9_limited_11 (by decide) ?_
    exact en_l hx hb hr hlocks hL (Nat.zero_le _) (Nat.zero_le _) dX9_limited_29 (rfl)
theorem hdX9_limited_o : yX9_limited.cls ≠ "java/lang/invoke/MethodHandle" ∧ yX9_limited.cls ≠ "java/lang/invoke/VarHandle" ∧ (parseMethodDescriptor yX9_limited.desc).map (fun d => d.parameters.length) = some 1 := by decide +kernel
set_option maxHeartbeats 4000000 in
set_option maxRecDepth 100000 in
theorem c_X9_operate {l : Launch} {D : va_G} {cs : Nat → ClassId} {B0 T : Nat} {κ : KM} {H0 : Heap} (hT : WT B0 D cs T κ H0) {x : Int32} {l_x l_y : Int64} : KC l yX9_operate wsX9_operate 1 21 0 0 D cs B0 H0 [.int x, .long l_x, .long l_y] (Ql (fun _ H => H = H0)) := by
  refine KC.of cX9_operate 5 (some .long) (by decide) rfl (Nat.le_of_ble_eq_true rfl) ?_
  intro p e s m below meth c ls hx hb hr hml hown hts hlocks hin hN hE hH0 hl
  have hown : s.vm.findClass RX9 = some m.cls := hown
  have hl : lv_has ls 5 [(0, .int x), (1, .long l_x), (3, .long l_y)] := hl
  have hL : OkL B0 [] := OkL.nil
  refine lv_iload_n hx hb dX9_operate_0 rfl (lv_at hl 0 rfl) ?_
  refine lv_iconst (v := 5) hx hb dX9_operate_1 (by decide) ?_
  refine lv_icmp_ne (tgt := 22) hx hb dX9_operate_2 (by decide) (fun c393 => ?_) (fun c393 => ?_)
  · refine lv_iload_n hx hb dX9_operate_22 rfl (lv_at hl 0 rfl) ?_
    refine lv_iconst (v := 2) hx hb dX9_operate_23 (by decide) ?_
    refine lv_icmp_ne (tgt := 33) hx hb dX9_operate_24 (by decide) (fun c394 => ?_) (fun c394 => ?_)
    · refine lv_iload_n hx hb dX9_operate_33 rfl (lv_at hl 0 rfl) ?_
      refine lv_iconst (v := 3) hx hb dX9_operate_34 (by decide) ?_
      refine lv_icmp_ne (tgt := 44) hx hb dX9_operate_35 (by decide) (fun c395 => ?_) (fun c395 => ?_)
      · refine lv_lload_n hx hb dX9_operate_44 rfl (lv_at hl 1 rfl) ?_
        refine lv_lload_n hx hb dX9_operate_45 rfl (lv_at hl 2 rfl) ?_
        refine lv_lmul hx hb dX9_operate_46 ?_
        refine gn_l (fun y396 => ?_)
        refine cs_l (As := [.long y396]) (rest := []) ⟨hx, hb, hml, hown, hts⟩ (c_X9_limited hT (l_x := y396)) (va_cwS 1 hts gX9_operate_X9_limited rfl rfl rfl hdX9_limited_o ⟨Nat.le_of_ble_eq_true rfl, Nat.le_of_ble_eq_true rfl⟩) hN hE hL rfl rfl hl.1 (Nat.le_of_ble_eq_true rfl) dX9_operate_47 (Nat.zero_le _) (Nat.zero_le _) (fun r397 H1 locs hL hqr397 => ?_)
        obtain rfl := hqr397.symm
        exact en_l hx hb hr hlocks hL (Nat.zero_le _) (Nat.zero_le _) dX9_operate_50 (rfl)
      · refine lv_lload_n hx hb dX9_operate_38 rfl (lv_at hl 1 rfl) ?_
        refine lv_lload_n hx hb dX9_operate_39 rfl (lv_at hl 2 rfl) ?_
        refine lv_lsub hx hb dX9_operate_40 ?_
        refine gn_l (fun y398 => ?_)
        refine lv_goto (tgt := 47) hx hb dX9_operate_41 (by decide) ?_
        refine cs_l (As := [.long y398]) (rest := []) ⟨hx, hb, hml, hown, hts⟩ (c_X9_limited hT (l_x := y398)) (va_cwS 1 hts gX9_operate_X9_limited rfl rfl rfl hdX9_limited_o ⟨Nat.le_of_ble_eq_true rfl, Nat.le_of_ble_eq_true rfl⟩) hN hE hL rfl rfl hl.1 (Nat.le_of_ble_eq_true rfl) dX9_operate_47 (Nat.zero_le _) (Nat.zero_le _) (fun r399 H1 locs hL hqr399 => ?_)
        obtain rfl := hqr399.symm
        exact en_l hx hb hr hlocks hL (Nat.zero_le _) (Nat.zero_le _) dX9_operate_50 (rfl)
    · refine lv_lload_n hx hb dX9_operate_27 rfl (lv_at hl 1 rfl) ?_
      refine lv_lload_n hx hb dX9_operate_28 rfl (lv_at hl 2 rfl) ?_
      refine lv_ladd hx hb dX9_operate_29 ?_
      refine gn_l (fun y400 => ?_)
      refine lv_goto (tgt := 47) hx hb dX9_operate_30 (by decide) ?_
      refine cs_l (As := [.long y400]) (rest := []) ⟨hx, hb, hml, hown, hts⟩ (c_X9_limited hT (l_x := y400)) (va_cwS 1 hts gX9_operate_X9_limited rfl rfl rfl hdX9_limited_o ⟨Nat.le_of_ble_eq_true rfl, Nat.le_of_ble_eq_true rfl⟩) hN hE hL rfl rfl hl.1 (Nat.le_of_ble_eq_true rfl) dX9_operate_47 (Nat.zero_le _) (Nat.zero_le _) (fun r401 H1 locs hL hqr401 => ?_)
      obtain rfl := hqr401.symm
      exact en_l hx hb hr hlocks hL (Nat.zero_le _) (Nat.zero_le _) dX9_operate_50 (rfl)
  · refine lv_lload_n hx hb dX9_operate_5 rfl (lv_at hl 2 rfl) ?_
    refine lv_lconst (v := 0) hx hb dX9_operate_6 (by decide) ?_
    refine W.lcmp hx hb dX9_operate_7 ?_
    refine lv_if_ne (tgt := 15) hx hb dX9_operate_8 (by decide) (fun c402 => ?_) (fun c402 => ?_)
    · refine lv_lload_n hx hb dX9_operate_15 rfl (lv_at hl 1 rfl) ?_
      refine lv_lload_n hx hb dX9_operate_16 rfl (lv_at hl 2 rfl) ?_
      refine lv_ldiv hx hb dX9_operate_17 (fun h9 => c402 (by rw [h9]; decide)) ?_
      refine gn_l (fun y403 => ?_)
      refine cs_l (As := [.long y403]) (rest := []) ⟨hx, hb, hml, hown, hts⟩ (c_X9_limited hT (l_x := y403)) (va_cwS 1 hts gX9_operate_X9_limited rfl rfl rfl hdX9_limited_o ⟨Nat.le_of_ble_eq_true rfl, Nat.le_of_ble_eq_true rfl⟩) hN hE hL rfl rfl hl.1 (Nat.le_of_ble_eq_true rfl) dX9_operate_18 (Nat.zero_le _) (Nat.zero_le _) (fun r404 H1 locs hL hqr404 => ?_)
      obtain rfl := hqr404.symm
      exact en_l hx hb hr hlocks hL (Nat.zero_le _) (Nat.zero_le _) dX9_operate_21 (rfl)
    · refine lv_lconst (v := 0) hx hb dX9_operate_11 (by decide) ?_
      refine lv_goto (tgt := 21) hx hb dX9_operate_12 (by decide) ?_
      exact en_l hx hb hr hlocks hL (Nat.zero_le _) (Nat.zero_le _) dX9_operate_21 (rfl)
theorem hdX9_playersUp_v : yX9_playersUp.cls = RX9 ∧ yX9_playersUp.cls ≠ "java/lang/invoke/MethodHandle" ∧ yX9_playersUp.cls ≠ "java/lang/invoke/VarHandle" ∧ (parseMethodDescriptor yX9_playersUp.desc).map (fun d => d.parameters.length) = some 0 := by decide +kernel
theorem hdX9_longestDelay_v : yX9_longestDelay.cls = RX9 ∧ yX9_longestDelay.cls ≠ "java/lang/invoke/MethodHandle" ∧ yX9_longestDelay.cls ≠ "java/lang/invoke/VarHandle" ∧ (parseMethodDescriptor yX9_longestDelay.desc).map (fun d => d.parameters.length) = some 0 := by decide +kernel
theorem mX9_fact_1 : (.fieldLink RX9 18 "OneBeatModel" "data" "[I" : Cond) ∈ wsX9_fact := List.mem_of_getElem? (i := 1) (by decide +kernel)
theorem iX9_fact_9 : ∀ w ∈ wsX90, w ∈ wsX9_fact := fun w h => List.mem_of_mem_drop (List.mem_of_mem_take ((show wsX90 = (wsX9_fact.drop 21).take 18 by decide +kernel) ▸ h))
set_option maxHeartbeats 4000000 in
set_option maxRecDepth 100000 in
theorem c_X9_fact {l : Launch} {D : va_G} {cs : Nat → ClassId} {B0 T : Nat} {κ : KM} {H0 : Heap} (hT : WT B0 D cs T κ H0) {w : Nat} (hw : T2 κ w 10 12) {x : Int32} {y : Int32} : KC l yX9_fact wsX9_fact 3 64 0 0 D cs B0 H0 [.ref w, .int x, .int y] (Qi (fun _ H => H = H0)) := by
  refine KC.of cX9_fact 3 (some .int) (by decide) rfl (Nat.le_of_ble_eq_true rfl) ?_
  intro p e s m below meth c ls hx hb hr hml hown hts hlocks hin hN hE hH0 hl
  have hown : s.vm.findClass RX9 = some m.cls := hown
  have hl : lv_has ls 3 [(0, .ref w), (1, .int x), (2, .int y)] := hl
  have hL : OkL B0 [] := OkL.nil
  refine lv_iload_n hx hb dX9_fact_0 rfl (lv_at hl 1 rfl) ?_
  refine lv_if_ne (tgt := 13) hx hb dX9_fact_1 (by decide) (fun c405 => ?_) (fun c405 => ?_)
  · refine lv_iload_n hx hb dX9_fact_13 rfl (lv_at hl 1 rfl) ?_
    refine lv_iconst (v := 1) hx hb dX9_fact_14 (by decide) ?_
    refine lv_icmp_ne (tgt := 25) hx hb dX9_fact_15 (by decide) (fun c406 => ?_) (fun c406 => ?_)
    · refine lv_iload_n hx hb dX9_fact_25 rfl (lv_at hl 1 rfl) ?_
      refine lv_iconst (v := 2) hx hb dX9_fact_26 (by decide) ?_
      refine lv_icmp_ne (tgt := 37) hx hb dX9_fact_27 (by decide) (fun c407 => ?_) (fun c407 => ?_)
      · refine lv_iload_n hx hb dX9_fact_37 rfl (lv_at hl 2 rfl) ?_
        exact en_i hx hb hr hlocks hL rfl (Nat.zero_le _) (Nat.zero_le _) dX9_fact_38 (rfl)
      · refine lv_aload_n hx hb dX9_fact_30 rfl (lv_at hl 0 rfl) ?_
        refine cv_i (As := []) (rest := []) (b := w) ⟨hx, hb, hml, hown, hts⟩ (c_X9_playersUp hT (w := w) hw) (cwV 0 hts gX9_fact_X9_playersUp rfl rfl rfl hdX9_playersUp_v ⟨Nat.le_of_ble_eq_true rfl, Nat.le_of_ble_eq_true rfl⟩) hN hE hL (rcv10 hN hT hw.1) rfl rfl hl.1 (Nat.le_of_ble_eq_true rfl) dX9_fact_31 (Nat.zero_le _) (Nat.zero_le _) (fun r408 H1 locs hL hqr408 => ?_)
        obtain rfl := hqr408.symm
        refine lv_goto (tgt := 38) hx hb dX9_fact_34 (by decide) ?_
        exact en_i hx hb hr hlocks hL rfl (Nat.zero_le _) (Nat.zero_le _) dX9_fact_38 (rfl)
    · refine lv_aload_n hx hb dX9_fact_18 rfl (lv_at hl 0 rfl) ?_
      refine cv_i (As := []) (rest := []) (b := w) ⟨hx, hb, hml, hown, hts⟩ (c_X9_longestDelay hT (w := w) hw) (cwV 0 hts gX9_fact_X9_longestDelay rfl rfl rfl hdX9_longestDelay_v ⟨Nat.le_of_ble_eq_true rfl, Nat.le_of_ble_eq_true rfl⟩) hN hE hL (rcv10 hN hT hw.1) rfl rfl hl.1 (Nat.le_of_ble_eq_true rfl) dX9_fact_19 (Nat.zero_le _) (Nat.zero_le _) (fun r409 H1 locs hL hqr409 => ?_)
      obtain rfl := hqr409.symm
      refine lv_goto (tgt := 38) hx hb dX9_fact_22 (by decide) ?_
      exact en_i hx hb hr hlocks hL rfl (Nat.zero_le _) (Nat.zero_le _) dX9_fact_38 (rfl)
  · refine lv_aload_n hx hb dX9_fact_4 rfl (lv_at hl 0 rfl) ?_
    obtain ⟨hb410, e410, hat410, hk410⟩ := hT.o10 hw.1
    obtain ⟨f410_0, f410_1, f410_3, f410_4, f410_5, f410_6, f410_7, f410_9, f410_10, f410_11, f410_12, f410_13, f410_14, f410_15, f410_16, f410_17, rfl, c410_2, c410_3, c410_4, c410_12, t410_1, t410_8, t410_9, c410_sd, t410_10, t410_11, t410_17⟩ := hk410
    have hP : va_P D vwCl [(w, .inr (9, [.int f410_0, .ref f410_1, .int (nI ((κ w).2.2.1)), .int (nI f410_3), .int (nI f410_4), .int f410_5, .int f410_6, .int f410_7, .ref (κ w).2.2.2, .ref f410_9, .ref f410_10, .ref f410_11, .int (nI f410_12), .int f410_13, .int f410_14, .int f410_15, .int f410_16, .ref f410_17]))] _ := va_P.cons hat410 va_P.nil
    refine va_get (D := D) (ci := 9) (v := .ref (κ w).2.2.2) (C := RX9) (T := TX9) (N := 18) hx hb hts iX9_fact_9 hown hN.1 hP 0 rfl rfl 8 (by decide) (hts _ mX9_fact_1) (fun _ h9 => h9) rfl dX9_fact_5 ?_
    refine lv_iconst (v := 0) hx hb dX9_fact_8 (by decide) ?_
    obtain ⟨hb411, e411, hat411, hk411⟩ := hT.o24 t410_8.1
    obtain ⟨g411, rfl, q411⟩ := hk411
    have hP : va_P D vwCl [((κ w).2.2.2, .inl (cs 0, 45783, .inl g411)), (w, .inr (9, [.int f410_0, .ref f410_1, .int (nI ((κ w).2.2.1)), .int (nI f410_3), .int (nI f410_4), .int f410_5, .int f410_6, .int f410_7, .ref (κ w).2.2.2, .ref f410_9, .ref f410_10, .ref f410_11, .int (nI f410_12), .int f410_13, .int f410_14, .int f410_15, .int f410_16, .ref f410_17]))] _ := va_P.cons hat411 hP
    refine ld_i (v := (g411 0)) hx hb hN hP 0 rfl (vp_in_nI (n := 0) (N := 45783) (by omega) (by omega)) (by rw [(show (0 : Int32).toNatClampNeg = 0 from nI_clamp (n := 0) (by omega))]) dX9_fact_9 ?_
    obtain ⟨n412, hn412, en412⟩ := q411.1
    refine tp_i (nI n412) en412 ?_
    refine lv_goto (tgt := 38) hx hb dX9_fact_10 (by decide) ?_
    exact en_i hx hb hr hlocks hL rfl (Nat.zero_le _) (Nat.zero_le _) dX9_fact_38 (rfl)
theorem mX9_send_1 : (.fieldLink RX9 18 "OneBeatModel" "data" "[I" : Cond) ∈ wsX9_send := List.mem_of_getElem? (i := 1) (by decide +kernel)
theorem iX9_send_9 : ∀ w ∈ wsX90, w ∈ wsX9_send := fun w h => List.mem_of_mem_drop (List.mem_of_mem_take ((show wsX90 = (wsX9_send.drop 6).take 18 by decide +kernel) ▸ h))
theorem hdX9_linkAt_o : yX9_linkAt.cls ≠ "java/lang/invoke/MethodHandle" ∧ yX9_linkAt.cls ≠ "java/lang/invoke/VarHandle" ∧ (parseMethodDescriptor yX9_linkAt.desc).map (fun d => d.parameters.length) = some 2 := by decide +kernel
set_option maxHeartbeats 4000000 in
set_option maxRecDepth 100000 in
theorem c_X9_send {l : Launch} {D : va_G} {cs : Nat → ClassId} {B0 T : Nat} {κ : KM} {H0 : Heap} (hT : WT B0 D cs T κ H0) {w : Nat} (hw : T2 κ w 10 12) {x : Nat} (qx : x < 6) {n : Nat} (qn : n < 8) {k : Nat} (qk : k < 8) {y : Int32} {z : Int32} {u : Int32} : KC l yX9_send wsX9_send 1 21 0 0 D cs B0 H0 [.ref w, .int (nI x), .int (nI n), .int (nI k), .int y, .int z, .int u] (Qi (fun r H => WT B0 D cs T κ H ∧ Fr B0 [18] κ H0 H ∧ (r = 0 ∨ r = 1))) := by
  refine KC.of cX9_send 10 (some .boolean) (by decide) rfl (Nat.le_of_ble_eq_true rfl) ?_
  intro p e s m below meth c ls hx hb hr hml hown hts hlocks hin hN hE hH0 hl
  have hown : s.vm.findClass RX9 = some m.cls := hown
  have hl : lv_has ls 10 [(0, .ref w), (1, .int (nI x)), (2, .int (nI n)), (3, .int (nI k)), (4, .int y), (5, .int z), (6, .int u)] := hl
  have hL : OkL B0 [] := OkL.nil
  have hF : Fr B0 [18] κ H0 H0 := Fr.rf
  refine lv_aload_n hx hb dX9_send_0 rfl (lv_at hl 0 rfl) ?_
  obtain ⟨hb413, e413, hat413, hk413⟩ := hT.o10 hw.1
  obtain ⟨f413_0, f413_1, f413_3, f413_4, f413_5, f413_6, f413_7, f413_9, f413_10, f413_11, f413_12, f413_13, f413_14, f413_15, f413_16, f413_17, rfl, c413_2, c413_3, c413_4, c413_12, t413_1, t413_8, t413_9, c413_sd, t413_10, t413_11, t413_17⟩ := hk413
  have hP : va_P D vwCl [(w, .inr (9, [.int f413_0, .ref f413_1, .int (nI ((κ w).2.2.1)), .int (nI f413_3), .int (nI f413_4), .int f413_5, .int f413_6, .int f413_7, .ref (κ w).2.2.2, .ref f413_9, .ref f413_10, .ref f413_11, .int (nI f413_12), .int f413_13, .int f413_14, .int f413_15, .int f413_16, .ref f413_17]))] _ := va_P.cons hat413 va_P.nil
  refine va_get (D := D) (ci := 9) (v := .ref (κ w).2.2.2) (C := RX9) (T := TX9) (N := 18) hx hb hts iX9_send_9 hown hN.1 hP 0 rfl rfl 8 (by decide) (hts _ mX9_send_1) (fun _ h9 => h9) rfl dX9_send_1 ?_
  refine lv_iload_n hx hb dX9_send_4 rfl (lv_at hl 2 rfl) ?_
  refine lv_iload_n hx hb dX9_send_5 rfl (lv_at hl 3 rfl) ?_
  refine cs_i (As := [.int (nI n), .int (nI k)]) (rest := [.ref (κ w).2.2.2]) ⟨hx, hb, hml, hown, hts⟩ (c_X9_linkAt hT (n := n) (k := k) (by first | omega | decide | assumption) (by first | omega | decide | assumption)) (va_cwS 2 hts gX9_send_X9_linkAt rfl rfl rfl hdX9_linkAt_o ⟨Nat.le_of_ble_eq_true rfl, Nat.le_of_ble_eq_true rfl⟩) hN hE hL rfl rfl hl.1 (Nat.le_of_ble_eq_true rfl) dX9_send_6 (Nat.zero_le _) (Nat.zero_le _) (fun r414 H1 locs hL hqr414 => ?_)
  obtain ⟨h9, hqr414⟩ := hqr414; replace h9 := h9.symm; subst h9
  obtain rfl := hqr414
  obtain ⟨hb415, e415, hat415, hk415⟩ := hT.o24 t413_8.1
  obtain ⟨g415, rfl, q415⟩ := hk415
  have hP : va_P D vwCl [((κ w).2.2.2, .inl (cs 0, 45783, .inl g415)), (w, .inr (9, [.int f413_0, .ref f413_1, .int (nI ((κ w).2.2.1)), .int (nI f413_3), .int (nI f413_4), .int f413_5, .int f413_6, .int f413_7, .ref (κ w).2.2.2, .ref f413_9, .ref f413_10, .ref f413_11, .int (nI f413_12), .int f413_13, .int f413_14, .int f413_15, .int f413_16, .ref f413_17]))] _ := va_P.cons hat415 hP
  refine ld_i (v := (g415 (119 + 8 * n + k))) hx hb hN hP 0 rfl (vp_in_nI (n := (119 + 8 * n + k)) (N := 45783) (by omega) (by omega)) (by rw [(show ((nI (119 + 8 * n + k)) : Int32).toNatClampNeg = (119 + 8 * n + k) from nI_clamp (n := (119 + 8 * n + k)) (by omega))]) dX9_send_9 ?_
  refine gn_i (fun x416 => ?_)
  refine lv_istore (lv' := [(7, .int x416), (0, .ref w), (1, .int (nI x)), (2, .int (nI n)), (3, .int (nI k)), (4, .int y), (5, .int z), (6, .int u)]) hx hb dX9_send_10 hl (by decide) rfl (fun ls hl => ?_)
  refine lv_aload_n hx hb dX9_send_12 rfl (lv_at hl 1 rfl) ?_
  refine va_get (D := D) (ci := 9) (v := .ref (κ w).2.2.2) (C := RX9) (T := TX9) (N := 18) hx hb hts iX9_send_9 hown hN.1 hP 1 rfl rfl 8 (by decide) (hts _ mX9_send_1) (fun _ h9 => h9) rfl dX9_send_13 ?_
  refine lv_iconst (v := 4) hx hb dX9_send_16 (by decide) ?_
  refine ld_i (v := (g415 4)) hx hb hN hP 0 rfl (vp_in_nI (n := 4) (N := 45783) (by omega) (by omega)) (by rw [(show (4 : Int32).toNatClampNeg = 4 from nI_clamp (n := 4) (by omega))]) dX9_send_17 ?_
  refine gn_i (fun x417 => ?_)
  refine lv_istore (lv' := [(8, .int x417), (7, .int x416), (0, .ref w), (1, .int (nI x)), (2, .int (nI n)), (3, .int (nI k)), (4, .int y), (5, .int z), (6, .int u)]) hx hb dX9_send_18 hl (by decide) rfl (fun ls hl => ?_)
  refine lv_aload_n hx hb dX9_send_20 rfl (lv_at hl 2 rfl) ?_
  refine va_get (D := D) (ci := 9) (v := .ref (κ w).2.2.2) (C := RX9) (T := TX9) (N := 18) hx hb hts iX9_send_9 hown hN.1 hP 1 rfl rfl 8 (by decide) (hts _ mX9_send_1) (fun _ h9 => h9) rfl dX9_send_21 ?_
  refine lv_iconst (v := 4) hx hb dX9_send_24 (by decide) ?_
  refine lv_dup2_11 hx hb dX9_send_25 rfl rfl ?_
  refine ld_i (v := (g415 4)) hx hb hN hP 0 rfl (vp_in_nI (n := 4) (N := 45783) (by omega) (by omega)) (by rw [(show (4 : Int32).toNatClampNeg = 4 from nI_clamp (n := 4) (by omega))]) dX9_send_26 ?_
  refine gn_i (fun x418 => ?_)
  refine lv_iconst (v := 1) hx hb dX9_send_27 (by decide) ?_
  refine lv_iadd hx hb dX9_send_28 ?_
  refine gn_i (fun x419 => ?_)
  have hB : Bx B0 D _ [((κ w).2.2.2, .inl (cs 0, 45783, .inl g415)), (w, .inr (9, [.int f413_0, .ref f413_1, .int (nI ((κ w).2.2.1)), .int (nI f413_3), .int (nI f413_4), .int f413_5, .int f413_6, .int f413_7, .ref (κ w).2.2.2, .ref f413_9, .ref f413_10, .ref f413_11, .int (nI f413_12), .int f413_13, .int f413_14, .int f413_15, .int f413_16, .ref f413_17]))] [] _ _ := Bx.of (fun a => (κ a).1) hL hP (fa_c hb415 (fa_c hb413 fa_n)) (by simp only [List.map_cons, List.map_nil, t413_8.1, hw.1]; decide)
  refine b_i hx hb hN hB 0 rfl (vp_in_nI (n := 4) (N := 45783) (by omega) (by omega)) (.inl rfl) dX9_send_29 (fun H locs hB => ?_)
  rw [(show (4 : Int32).toNatClampNeg = 4 from nI_clamp (n := 4) (by omega))] at hB
  have hB : Bx B0 D _ [((κ w).2.2.2, .inl (cs 0, 45783, .inl (upd g415 4 x419))), (w, .inr (9, [.int f413_0, .ref f413_1, .int (nI ((κ w).2.2.1)), .int (nI f413_3), .int (nI f413_4), .int f413_5, .int f413_6, .int f413_7, .ref (κ w).2.2.2, .ref f413_9, .ref f413_10, .ref f413_11, .int (nI f413_12), .int f413_13, .int f413_14, .int f413_15, .int f413_16, .ref f413_17]))] [(κ w).2.2.2] _ _ := hB
  have z420 := DOK.sf q415 (k := 4) (by omega) (x := x419)
  refine lv_iload hx hb dX9_send_30 (lv_at hl 1 rfl) ?_
  refine lv_if_le (tgt := 47) hx hb dX9_send_32 (by decide) (fun c421 => ?_) (fun c421 => ?_)
  · refine lv_aload_n hx hb dX9_send_47 rfl (lv_at hl 2 rfl) ?_
    refine va_get (D := D) (ci := 9) (v := .ref (κ w).2.2.2) (C := RX9) (T := TX9) (N := 18) hx hb hts iX9_send_9 hown hN.1 hB.1 1 rfl rfl 8 (by decide) (hts _ mX9_send_1) (fun _ h9 => h9) rfl dX9_send_48 ?_
    refine lv_iconst (v := 5) hx hb dX9_send_51 (by decide) ?_
    refine lv_dup2_11 hx hb dX9_send_52 rfl rfl ?_
    refine ld_i (v := ((upd g415 4 x419) 5)) hx hb hN hB.1 0 rfl (vp_in_nI (n := 5) (N := 45783) (by omega) (by omega)) (by rw [(show (5 : Int32).toNatClampNeg = 5 from nI_clamp (n := 5) (by omega))]) dX9_send_53 ?_
    refine gn_i (fun x422 => ?_)
    refine lv_iconst (v := 1) hx hb dX9_send_54 (by decide) ?_
    refine lv_iadd hx hb dX9_send_55 ?_
    refine gn_i (fun x423 => ?_)
    refine b_i hx hb hN hB 0 rfl (vp_in_nI (n := 5) (N := 45783) (by omega) (by omega)) (.inr ⟨rfl, List.mem_of_getElem? (i := 0) rfl⟩) dX9_send_56 (fun H locs hB => ?_)
    rw [(show (5 : Int32).toNatClampNeg = 5 from nI_clamp (n := 5) (by omega))] at hB
    have hB : Bx B0 D _ [((κ w).2.2.2, .inl (cs 0, 45783, .inl (upd (upd g415 4 x419) 5 x423))), (w, .inr (9, [.int f413_0, .ref f413_1, .int (nI ((κ w).2.2.1)), .int (nI f413_3), .int (nI f413_4), .int f413_5, .int f413_6, .int f413_7, .ref (κ w).2.2.2, .ref f413_9, .ref f413_10, .ref f413_11, .int (nI f413_12), .int f413_13, .int f413_14, .int f413_15, .int f413_16, .ref f413_17]))] [(κ w).2.2.2] _ _ := hB
    have z424 := DOK.sf z420 (k := 5) (by omega) (x := x423)
    refine lv_iconst (v := 0) hx hb dX9_send_57 (by decide) ?_
    have hT : WT B0 D cs T κ _ := hT.close hB ⟨⟨0, _, rfl, ok_24 t413_8.1 ⟨_, rfl, z424⟩⟩, trivial⟩
    have hF : Fr B0 [18] κ H0 _ := hF.close hB (fa_c (by simp [t413_8.2]) fa_n)
    have hL : OkL B0 _ := hB.2.2.2.2.2
    have hP : va_P D vwCl [((κ w).2.2.2, .inl (cs 0, 45783, .inl (upd (upd g415 4 x419) 5 x423))), (w, .inr (9, [.int f413_0, .ref f413_1, .int (nI ((κ w).2.2.1)), .int (nI f413_3), .int (nI f413_4), .int f413_5, .int f413_6, .int f413_7, .ref (κ w).2.2.2, .ref f413_9, .ref f413_10, .ref f413_11, .int (nI f413_12), .int f413_13, .int f413_14, .int f413_15, .int f413_16, .ref f413_17]))] _ := hB.1
    exact en_i hx hb hr hlocks hL rfl (Nat.zero_le _) (Nat.zero_le _) dX9_send_58 (⟨hT, hF, Or.inl rfl⟩)
  · refine lv_aload_n hx hb dX9_send_35 rfl (lv_at hl 2 rfl) ?_
    refine va_get (D := D) (ci := 9) (v := .ref (κ w).2.2.2) (C := RX9) (T := TX9) (N := 18) hx hb hts iX9_send_9 hown hN.1 hB.1 1 rfl rfl 8 (by decide) (hts _ mX9_send_1) (fun _ h9 => h9) rfl dX9_send_36 ?_
    refine lv_iconst (v := 3) hx hb dX9_send_39 (by decide) ?_
    refine ld_i (v := ((upd g415 4 x419) 3)) hx hb hN hB.1 0 rfl (vp_in_nI (n := 3) (N := 45783) (by omega) (by omega)) (by rw [(show (3 : Int32).toNatClampNeg = 3 from nI_clamp (n := 3) (by omega))]) dX9_send_40 ?_
    obtain ⟨n425, hn425, en425⟩ := z420.2.2.2.1
    refine tp_i (nI n425) en425 ?_
    refine lv_sipush (v := 7400) hx hb dX9_send_41 (by decide) ?_
    refine lv_icmp_ne (tgt := 59) hx hb dX9_send_44 (by decide) (fun c426 => ?_) (fun c426 => ?_)
    · have c426 : ¬ n425 = 7400 := fun h9 => c426 ((nI_eq (a := n425) (b := 7400) (by omega) (by omega)).mpr h9)
      refine lv_sipush (v := 1383) hx hb dX9_send_59 (by decide) ?_
      refine lv_bipush (v := 6) hx hb dX9_send_62 (by decide) ?_
      refine lv_aload_n hx hb dX9_send_64 rfl (lv_at hl 2 rfl) ?_
      refine va_get (D := D) (ci := 9) (v := .ref (κ w).2.2.2) (C := RX9) (T := TX9) (N := 18) hx hb hts iX9_send_9 hown hN.1 hB.1 1 rfl rfl 8 (by decide) (hts _ mX9_send_1) (fun _ h9 => h9) rfl dX9_send_65 ?_
      refine lv_iconst (v := 3) hx hb dX9_send_68 (by decide) ?_
      refine ld_i (v := ((upd g415 4 x419) 3)) hx hb hN hB.1 0 rfl (vp_in_nI (n := 3) (N := 45783) (by omega) (by omega)) (by rw [(show (3 : Int32).toNatClampNeg = 3 from nI_clamp (n := 3) (by omega))]) dX9_send_69 ?_
      refine tp_i (nI n425) en425 ?_
      refine lv_imul hx hb dX9_send_70 ?_
      refine tp_i (nI (6 * n425)) (nI_mul 6 n425) ?_
      refine lv_iadd hx hb dX9_send_71 ?_
      refine tp_i (nI (1383 + (6 * n425))) (nI_add 1383 (6 * n425)) ?_
      refine lv_istore (lv' := [(9, .int (nI (1383 + (6 * n425)))), (8, .int x417), (7, .int x416), (0, .ref w), (1, .int (nI x)), (2, .int (nI n)), (3, .int (nI k)), (4, .int y), (5, .int z), (6, .int u)]) hx hb dX9_send_72 hl (by decide) rfl (fun ls hl => ?_)
      refine lv_aload_n hx hb dX9_send_74 rfl (lv_at hl 3 rfl) ?_
      refine va_get (D := D) (ci := 9) (v := .ref (κ w).2.2.2) (C := RX9) (T := TX9) (N := 18) hx hb hts iX9_send_9 hown hN.1 hB.1 1 rfl rfl 8 (by decide) (hts _ mX9_send_1) (fun _ h9 => h9) rfl dX9_send_75 ?_
      refine lv_iload hx hb dX9_send_78 (lv_at hl 0 rfl) ?_
      refine lv_iconst (v := 0) hx hb dX9_send_80 (by decide) ?_
      refine lv_iadd hx hb dX9_send_81 ?_
      refine tp_i (nI ((1383 + (6 * n425)) + 0)) (nI_add (1383 + (6 * n425)) 0) ?_
      refine lv_iload_n hx hb dX9_send_82 rfl (lv_at hl 4 rfl) ?_
      refine lv_bipush (v := 8) hx hb dX9_send_83 (by decide) ?_
      refine lv_iload_n hx hb dX9_send_85 rfl (lv_at hl 5 rfl) ?_
      refine lv_imul hx hb dX9_send_86 ?_
      refine tp_i (nI (8 * n)) (nI_mul 8 n) ?_
      refine lv_iadd hx hb dX9_send_87 ?_
      refine tp_i (nI (x + (8 * n))) (nI_add x (8 * n)) ?_
      refine lv_bipush (v := 64) hx hb dX9_send_88 (by decide) ?_
      refine lv_iload_n hx hb dX9_send_90 rfl (lv_at hl 6 rfl) ?_
      refine lv_imul hx hb dX9_send_91 ?_
      refine tp_i (nI (64 * k)) (nI_mul 64 k) ?_
      refine lv_iadd hx hb dX9_send_92 ?_
      refine tp_i (nI ((x + (8 * n)) + (64 * k))) (nI_add (x + (8 * n)) (64 * k)) ?_
      refine b_i hx hb hN hB 0 rfl (vp_in_nI (n := ((1383 + (6 * n425)) + 0)) (N := 45783) (by omega) (by omega)) (.inr ⟨rfl, List.mem_of_getElem? (i := 0) rfl⟩) dX9_send_93 (fun H locs hB => ?_)
      rw [(show ((nI ((1383 + (6 * n425)) + 0)) : Int32).toNatClampNeg = ((1383 + (6 * n425)) + 0) from nI_clamp (n := ((1383 + (6 * n425)) + 0)) (by omega))] at hB
      have hB : Bx B0 D _ [((κ w).2.2.2, .inl (cs 0, 45783, .inl (upd (upd g415 4 x419) ((1383 + (6 * n425)) + 0) (nI ((x + (8 * n)) + (64 * k)))))), (w, .inr (9, [.int f413_0, .ref f413_1, .int (nI ((κ w).2.2.1)), .int (nI f413_3), .int (nI f413_4), .int f413_5, .int f413_6, .int f413_7, .ref (κ w).2.2.2, .ref f413_9, .ref f413_10, .ref f413_11, .int (nI f413_12), .int f413_13, .int f413_14, .int f413_15, .int f413_16, .ref f413_17]))] [(κ w).2.2.2] _ _ := hB
      have z427 := DOK.sm z420 (k := ((1383 + (6 * n425)) + 0)) (x := (nI ((x + (8 * n)) + (64 * k)))) (by omega) (fun j9 hj9 e9 => ⟨_, (by omega), rfl⟩)
      have e428 := (pk_un (f := (upd g415 4 x419)) (x := (nI ((x + (8 * n)) + (64 * k)))) (show 3 ≠ ((1383 + (6 * n425)) + 0) by omega)).trans en425
      refine lv_aload_n hx hb dX9_send_94 rfl (lv_at hl 3 rfl) ?_
      refine va_get (D := D) (ci := 9) (v := .ref (κ w).2.2.2) (C := RX9) (T := TX9) (N := 18) hx hb hts iX9_send_9 hown hN.1 hB.1 1 rfl rfl 8 (by decide) (hts _ mX9_send_1) (fun _ h9 => h9) rfl dX9_send_95 ?_
      refine lv_iload hx hb dX9_send_98 (lv_at hl 0 rfl) ?_
      refine lv_iconst (v := 1) hx hb dX9_send_100 (by decide) ?_
      refine lv_iadd hx hb dX9_send_101 ?_
      refine tp_i (nI ((1383 + (6 * n425)) + 1)) (nI_add (1383 + (6 * n425)) 1) ?_
      refine lv_aload_n hx hb dX9_send_102 rfl (lv_at hl 3 rfl) ?_
      refine va_get (D := D) (ci := 9) (v := .ref (κ w).2.2.2) (C := RX9) (T := TX9) (N := 18) hx hb hts iX9_send_9 hown hN.1 hB.1 1 rfl rfl 8 (by decide) (hts _ mX9_send_1) (fun _ h9 => h9) rfl dX9_send_103 ?_
      refine lv_iconst (v := 1) hx hb dX9_send_106 (by decide) ?_
      refine ld_i (v := ((upd (upd g415 4 x419) ((1383 + (6 * n425)) + 0) (nI ((x + (8 * n)) + (64 * k)))) 1)) hx hb hN hB.1 0 rfl (vp_in_nI (n := 1) (N := 45783) (by omega) (by omega)) (by rw [(show (1 : Int32).toNatClampNeg = 1 from nI_clamp (n := 1) (by omega))]) dX9_send_107 ?_
      refine gn_i (fun x429 => ?_)
      refine lv_iload hx hb dX9_send_108 (lv_at hl 2 rfl) ?_
      refine lv_iadd hx hb dX9_send_110 ?_
      refine gn_i (fun x430 => ?_)
      refine b_i hx hb hN hB 0 rfl (vp_in_nI (n := ((1383 + (6 * n425)) + 1)) (N := 45783) (by omega) (by omega)) (.inr ⟨rfl, List.mem_of_getElem? (i := 0) rfl⟩) dX9_send_111 (fun H locs hB => ?_)
      rw [(show ((nI ((1383 + (6 * n425)) + 1)) : Int32).toNatClampNeg = ((1383 + (6 * n425)) + 1) from nI_clamp (n := ((1383 + (6 * n425)) + 1)) (by omega))] at hB
      have hB : Bx B0 D _ [((κ w).2.2.2, .inl (cs 0, 45783, .inl (upd (upd (upd g415 4 x419) ((1383 + (6 * n425)) + 0) (nI ((x + (8 * n)) + (64 * k)))) ((1383 + (6 * n425)) + 1) x430))), (w, .inr (9, [.int f413_0, .ref f413_1, .int (nI ((κ w).2.2.1)), .int (nI f413_3), .int (nI f413_4), .int f413_5, .int f413_6, .int f413_7, .ref (κ w).2.2.2, .ref f413_9, .ref f413_10, .ref f413_11, .int (nI f413_12), .int f413_13, .int f413_14, .int f413_15, .int f413_16, .ref f413_17]))] [(κ w).2.2.2] _ _ := hB
      have z431 := DOK.sm z427 (k := ((1383 + (6 * n425)) + 1)) (x := x430) (by omega) (fun j9 hj9 e9 => absurd e9 (by omega))
      have e432 := (pk_un (f := (upd (upd g415 4 x419) ((1383 + (6 * n425)) + 0) (nI ((x + (8 * n)) + (64 * k))))) (x := x430) (show 3 ≠ ((1383 + (6 * n425)) + 1) by omega)).trans e428
      refine lv_aload_n hx hb dX9_send_112 rfl (lv_at hl 3 rfl) ?_
      refine va_get (D := D) (ci := 9) (v := .ref (κ w).2.2.2) (C := RX9) (T := TX9) (N := 18) hx hb hts iX9_send_9 hown hN.1 hB.1 1 rfl rfl 8 (by decide) (hts _ mX9_send_1) (fun _ h9 => h9) rfl dX9_send_113 ?_
      refine lv_iload hx hb dX9_send_116 (lv_at hl 0 rfl) ?_
      refine lv_iconst (v := 2) hx hb dX9_send_118 (by decide) ?_
      refine lv_iadd hx hb dX9_send_119 ?_
      refine tp_i (nI ((1383 + (6 * n425)) + 2)) (nI_add (1383 + (6 * n425)) 2) ?_
      refine lv_iload hx hb dX9_send_120 (lv_at hl 1 rfl) ?_
      refine b_i hx hb hN hB 0 rfl (vp_in_nI (n := ((1383 + (6 * n425)) + 2)) (N := 45783) (by omega) (by omega)) (.inr ⟨rfl, List.mem_of_getElem? (i := 0) rfl⟩) dX9_send_122 (fun H locs hB => ?_)
      rw [(show ((nI ((1383 + (6 * n425)) + 2)) : Int32).toNatClampNeg = ((1383 + (6 * n425)) + 2) from nI_clamp (n := ((1383 + (6 * n425)) + 2)) (by omega))] at hB
      have hB : Bx B0 D _ [((κ w).2.2.2, .inl (cs 0, 45783, .inl (upd (upd (upd (upd g415 4 x419) ((1383 + (6 * n425)) + 0) (nI ((x + (8 * n)) + (64 * k)))) ((1383 + (6 * n425)) + 1) x430) ((1383 + (6 * n425)) + 2) x417))), (w, .inr (9, [.int f413_0, .ref f413_1, .int (nI ((κ w).2.2.1)), .int (nI f413_3), .int (nI f413_4), .int f413_5, .int f413_6, .int f413_7, .ref (κ w).2.2.2, .ref f413_9, .ref f413_10, .ref f413_11, .int (nI f413_12), .int f413_13, .int f413_14, .int f413_15, .int f413_16, .ref f413_17]))] [(κ w).2.2.2] _ _ := hB
      have z433 := DOK.sm z431 (k := ((1383 + (6 * n425)) + 2)) (x := x417) (by omega) (fun j9 hj9 e9 => absurd e9 (by omega))
      have e434 := (pk_un (f := (upd (upd (upd g415 4 x419) ((1383 + (6 * n425)) + 0) (nI ((x + (8 * n)) + (64 * k)))) ((1383 + (6 * n425)) + 1) x430)) (x := x417) (show 3 ≠ ((1383 + (6 * n425)) + 2) by omega)).trans e432
      refine lv_aload_n hx hb dX9_send_123 rfl (lv_at hl 3 rfl) ?_
      refine va_get (D := D) (ci := 9) (v := .ref (κ w).2.2.2) (C := RX9) (T := TX9) (N := 18) hx hb hts iX9_send_9 hown hN.1 hB.1 1 rfl rfl 8 (by decide) (hts _ mX9_send_1) (fun _ h9 => h9) rfl dX9_send_124 ?_
      refine lv_iload hx hb dX9_send_127 (lv_at hl 0 rfl) ?_
      refine lv_iconst (v := 3) hx hb dX9_send_129 (by decide) ?_
      refine lv_iadd hx hb dX9_send_130 ?_
      refine tp_i (nI ((1383 + (6 * n425)) + 3)) (nI_add (1383 + (6 * n425)) 3) ?_
      refine lv_iload hx hb dX9_send_131 (lv_at hl 7 rfl) ?_
      refine b_i hx hb hN hB 0 rfl (vp_in_nI (n := ((1383 + (6 * n425)) + 3)) (N := 45783) (by omega) (by omega)) (.inr ⟨rfl, List.mem_of_getElem? (i := 0) rfl⟩) dX9_send_133 (fun H locs hB => ?_)
      rw [(show ((nI ((1383 + (6 * n425)) + 3)) : Int32).toNatClampNeg = ((1383 + (6 * n425)) + 3) from nI_clamp (n := ((1383 + (6 * n425)) + 3)) (by omega))] at hB
      have hB : Bx B0 D _ [((κ w).2.2.2, .inl (cs 0, 45783, .inl (upd (upd (upd (upd (upd g415 4 x419) ((1383 + (6 * n425)) + 0) (nI ((x + (8 * n)) + (64 * k)))) ((1383 + (6 * n425)) + 1) x430) ((1383 + (6 * n425)) + 2) x417) ((1383 + (6 * n425)) + 3) y))), (w, .inr (9, [.int f413_0, .ref f413_1, .int (nI ((κ w).2.2.1)), .int (nI f413_3), .int (nI f413_4), .int f413_5, .int f413_6, .int f413_7, .ref (κ w).2.2.2, .ref f413_9, .ref f413_10, .ref f413_11, .int (nI f413_12), .int f413_13, .int f413_14, .int f413_15, .int f413_16, .ref f413_17]))] [(κ w).2.2.2] _ _ := hB
      have z435 := DOK.sm z433 (k := ((1383 + (6 * n425)) + 3)) (x := y) (by omega) (fun j9 hj9 e9 => absurd e9 (by omega))
      have e436 := (pk_un (f := (upd (upd (upd (upd g415 4 x419) ((1383 + (6 * n425)) + 0) (nI ((x + (8 * n)) + (64 * k)))) ((1383 + (6 * n425)) + 1) x430) ((1383 + (6 * n425)) + 2) x417)) (x := y) (show 3 ≠ ((1383 + (6 * n425)) + 3) by omega)).trans e434
      refine lv_aload_n hx hb dX9_send_134 rfl (lv_at hl 3 rfl) ?_
      refine va_get (D := D) (ci := 9) (v := .ref (κ w).2.2.2) (C := RX9) (T := TX9) (N := 18) hx hb hts iX9_send_9 hown hN.1 hB.1 1 rfl rfl 8 (by decide) (hts _ mX9_send_1) (fun _ h9 => h9) rfl dX9_send_135 ?_
      refine lv_iload hx hb dX9_send_138 (lv_at hl 0 rfl) ?_
      refine lv_iconst (v := 4) hx hb dX9_send_140 (by decide) ?_
      refine lv_iadd hx hb dX9_send_141 ?_
      refine tp_i (nI ((1383 + (6 * n425)) + 4)) (nI_add (1383 + (6 * n425)) 4) ?_
      refine lv_iload hx hb dX9_send_142 (lv_at hl 8 rfl) ?_
      refine b_i hx hb hN hB 0 rfl (vp_in_nI (n := ((1383 + (6 * n425)) + 4)) (N := 45783) (by omega) (by omega)) (.inr ⟨rfl, List.mem_of_getElem? (i := 0) rfl⟩) dX9_send_144 (fun H locs hB => ?_)
      rw [(show ((nI ((1383 + (6 * n425)) + 4)) : Int32).toNatClampNeg = ((1383 + (6 * n425)) + 4) from nI_clamp (n := ((1383 + (6 * n425)) + 4)) (by omega))] at hB
      have hB : Bx B0 D _ [((κ w).2.2.2, .inl (cs 0, 45783, .inl (upd (upd (upd (upd (upd (upd g415 4 x419) ((1383 + (6 * n425)) + 0) (nI ((x + (8 * n)) + (64 * k)))) ((1383 + (6 * n425)) + 1) x430) ((1383 + (6 * n425)) + 2) x417) ((1383 + (6 * n425)) + 3) y) ((1383 + (6 * n425)) + 4) z))), (w, .inr (9, [.int f413_0, .ref f413_1, .int (nI ((κ w).2.2.1)), .int (nI f413_3), .int (nI f413_4), .int f413_5, .int f413_6, .int f413_7, .ref (κ w).2.2.2, .ref f413_9, .ref f413_10, .ref f413_11, .int (nI f413_12), .int f413_13, .int f413_14, .int f413_15, .int f413_16, .ref f413_17]))] [(κ w).2.2.2] _ _ := hB
      have z437 := DOK.sm z435 (k := ((1383 + (6 * n425)) + 4)) (x := z) (by omega) (fun j9 hj9 e9 => absurd e9 (by omega))
      have e438 := (pk_un (f := (upd (upd (upd (upd (upd g415 4 x419) ((1383 + (6 * n425)) + 0) (nI ((x + (8 * n)) + (64 * k)))) ((1383 + (6 * n425)) + 1) x430) ((1383 + (6 * n425)) + 2) x417) ((1383 + (6 * n425)) + 3) y)) (x := z) (show 3 ≠ ((1383 + (6 * n425)) + 4) by omega)).trans e436
      refine lv_aload_n hx hb dX9_send_145 rfl (lv_at hl 3 rfl) ?_
      refine va_get (D := D) (ci := 9) (v := .ref (κ w).2.2.2) (C := RX9) (T := TX9) (N := 18) hx hb hts iX9_send_9 hown hN.1 hB.1 1 rfl rfl 8 (by decide) (hts _ mX9_send_1) (fun _ h9 => h9) rfl dX9_send_146 ?_
      refine lv_iload hx hb dX9_send_149 (lv_at hl 0 rfl) ?_
      refine lv_iconst (v := 5) hx hb dX9_send_151 (by decide) ?_
      refine lv_iadd hx hb dX9_send_152 ?_
      refine tp_i (nI ((1383 + (6 * n425)) + 5)) (nI_add (1383 + (6 * n425)) 5) ?_
      refine lv_iload hx hb dX9_send_153 (lv_at hl 9 rfl) ?_
      refine b_i hx hb hN hB 0 rfl (vp_in_nI (n := ((1383 + (6 * n425)) + 5)) (N := 45783) (by omega) (by omega)) (.inr ⟨rfl, List.mem_of_getElem? (i := 0) rfl⟩) dX9_send_155 (fun H locs hB => ?_)
      rw [(show ((nI ((1383 + (6 * n425)) + 5)) : Int32).toNatClampNeg = ((1383 + (6 * n425)) + 5) from nI_clamp (n := ((1383 + (6 * n425)) + 5)) (by omega))] at hB
      have hB : Bx B0 D _ [((κ w).2.2.2, .inl (cs 0, 45783, .inl (upd (upd (upd (upd (upd (upd (upd g415 4 x419) ((1383 + (6 * n425)) + 0) (nI ((x + (8 * n)) + (64 * k)))) ((1383 + (6 * n425)) + 1) x430) ((1383 + (6 * n425)) + 2) x417) ((1383 + (6 * n425)) + 3) y) ((1383 + (6 * n425)) + 4) z) ((1383 + (6 * n425)) + 5) u))), (w, .inr (9, [.int f413_0, .ref f413_1, .int (nI ((κ w).2.2.1)), .int (nI f413_3), .int (nI f413_4), .int f413_5, .int f413_6, .int f413_7, .ref (κ w).2.2.2, .ref f413_9, .ref f413_10, .ref f413_11, .int (nI f413_12), .int f413_13, .int f413_14, .int f413_15, .int f413_16, .ref f413_17]))] [(κ w).2.2.2] _ _ := hB
      have z439 := DOK.sm z437 (k := ((1383 + (6 * n425)) + 5)) (x := u) (by omega) (fun j9 hj9 e9 => absurd e9 (by omega))
      have e440 := (pk_un (f := (upd (upd (upd (upd (upd (upd g415 4 x419) ((1383 + (6 * n425)) + 0) (nI ((x + (8 * n)) + (64 * k)))) ((1383 + (6 * n425)) + 1) x430) ((1383 + (6 * n425)) + 2) x417) ((1383 + (6 * n425)) + 3) y) ((1383 + (6 * n425)) + 4) z)) (x := u) (show 3 ≠ ((1383 + (6 * n425)) + 5) by omega)).trans e438
      refine lv_aload_n hx hb dX9_send_156 rfl (lv_at hl 3 rfl) ?_
      refine va_get (D := D) (ci := 9) (v := .ref (κ w).2.2.2) (C := RX9) (T := TX9) (N := 18) hx hb hts iX9_send_9 hown hN.1 hB.1 1 rfl rfl 8 (by decide) (hts _ mX9_send_1) (fun _ h9 => h9) rfl dX9_send_157 ?_
      refine lv_iconst (v := 3) hx hb dX9_send_160 (by decide) ?_
      refine lv_dup2_11 hx hb dX9_send_161 rfl rfl ?_
      refine ld_i (v := ((upd (upd (upd (upd (upd (upd (upd g415 4 x419) ((1383 + (6 * n425)) + 0) (nI ((x + (8 * n)) + (64 * k)))) ((1383 + (6 * n425)) + 1) x430) ((1383 + (6 * n425)) + 2) x417) ((1383 + (6 * n425)) + 3) y) ((1383 + (6 * n425)) + 4) z) ((1383 + (6 * n425)) + 5) u) 3)) hx hb hN hB.1 0 rfl (vp_in_nI (n := 3) (N := 45783) (by omega) (by omega)) (by rw [(show (3 : Int32).toNatClampNeg = 3 from nI_clamp (n := 3) (by omega))]) dX9_send_162 ?_
      refine tp_i (nI n425) e440 ?_
      refine lv_iconst (v := 1) hx hb dX9_send_163 (by decide) ?_
      refine lv_iadd hx hb dX9_send_164 ?_
      refine tp_i (nI (n425 + 1)) (nI_add n425 1) ?_
      refine b_i hx hb hN hB 0 rfl (vp_in_nI (n := 3) (N := 45783) (by omega) (by omega)) (.inr ⟨rfl, List.mem_of_getElem? (i := 0) rfl⟩) dX9_send_165 (fun H locs hB => ?_)
      rw [(show (3 : Int32).toNatClampNeg = 3 from nI_clamp (n := 3) (by omega))] at hB
      have hB : Bx B0 D _ [((κ w).2.2.2, .inl (cs 0, 45783, .inl (upd (upd (upd (upd (upd (upd (upd (upd g415 4 x419) ((1383 + (6 * n425)) + 0) (nI ((x + (8 * n)) + (64 * k)))) ((1383 + (6 * n425)) + 1) x430) ((1383 + (6 * n425)) + 2) x417) ((1383 + (6 * n425)) + 3) y) ((1383 + (6 * n425)) + 4) z) ((1383 + (6 * n425)) + 5) u) 3 (nI (n425 + 1))))), (w, .inr (9, [.int f413_0, .ref f413_1, .int (nI ((κ w).2.2.1)), .int (nI f413_3), .int (nI f413_4), .int f413_5, .int f413_6, .int f413_7, .ref (κ w).2.2.2, .ref f413_9, .ref f413_10, .ref f413_11, .int (nI f413_12), .int f413_13, .int f413_14, .int f413_15, .int f413_16, .ref f413_17]))] [(κ w).2.2.2] _ _ := hB
      have z441 := DOK.s3 z439 (n := (n425 + 1)) (by omega)
      refine lv_iconst (v := 1) hx hb dX9_send_166 (by decide) ?_
      have hT : WT B0 D cs T κ _ := hT.close hB ⟨⟨0, _, rfl, ok_24 t413_8.1 ⟨_, rfl, z441⟩⟩, trivial⟩
      have hF : Fr B0 [18] κ H0 _ := hF.close hB (fa_c (by simp [t413_8.2]) fa_n)
      have hL : OkL B0 _ := hB.2.2.2.2.2
      have hP : va_P D vwCl [((κ w).2.2.2, .inl (cs 0, 45783, .inl (upd (upd (upd (upd (upd (upd (upd (upd g415 4 x419) ((1383 + (6 * n425)) + 0) (nI ((x + (8 * n)) + (64 * k)))) ((1383 + (6 * n425)) + 1) x430) ((1383 + (6 * n425)) + 2) x417) ((1383 + (6 * n425)) + 3) y) ((1383 + (6 * n425)) + 4) z) ((1383 + (6 * n425)) + 5) u) 3 (nI (n425 + 1))))), (w, .inr (9, [.int f413_0, .ref f413_1, .int (nI ((κ w).2.2.1)), .int (nI f413_3), .int (nI f413_4), .int f413_5, .int f413_6, .int f413_7, .ref (κ w).2.2.2, .ref f413_9, .ref f413_10, .ref f413_11, .int (nI f413_12), .int f413_13, .int f413_14, .int f413_15, .int f413_16, .ref f413_17]))] _ := hB.1
      exact en_i hx hb hr hlocks hL rfl (Nat.zero_le _) (Nat.zero_le _) dX9_send_167 (⟨hT, hF, Or.inr rfl⟩)
    · have c426 : n425 = 7400 := (nI_eq (a := n425) (b := 7400) (by omega) (by omega)).mp c426
      refine lv_aload_n hx hb dX9_send_47 rfl (lv_at hl 2 rfl) ?_
      refine va_get (D := D) (ci := 9) (v := .ref (κ w).2.2.2) (C := RX9) (T := TX9) (N := 18) hx hb hts iX9_send_9 hown hN.1 hB.1 1 rfl rfl 8 (by decide) (hts _ mX9_send_1) (fun _ h9 => h9) rfl dX9_send_48 ?_
      refine lv_iconst (v := 5) hx hb dX9_send_51 (by decide) ?_
      refine lv_dup2_11 hx hb dX9_send_52 rfl rfl ?_
      refine ld_i (v := ((upd g415 4 x419) 5)) hx hb hN hB.1 0 rfl (vp_in_nI (n := 5) (N := 45783) (by omega) (by omega)) (by rw [(show (5 : Int32).toNatClampNeg = 5 from nI_clamp (n := 5) (by omega))]) dX9_send_53 ?_
      refine gn_i (fun x442 => ?_)
      refine lv_iconst (v := 1) hx hb dX9_send_54 (by decide) ?_
      refine lv_iadd hx hb dX9_send_55 ?_
      refine gn_i (fun x443 => ?_)
      refine b_i hx hb hN hB 0 rfl (vp_in_nI (n := 5) (N := 45783) (by omega) (by omega)) (.inr ⟨rfl, List.mem_of_getElem? (i := 0) rfl⟩) dX9_send_56 (fun H locs hB => ?_)
      rw [(show (5 : Int32).toNatClampNeg = 5 from nI_clamp (n := 5) (by omega))] at hB
      have hB : Bx B0 D _ [((κ w).2.2.2, .inl (cs 0, 45783, .inl (upd (upd g415 4 x419) 5 x443))), (w, .inr (9, [.int f413_0, .ref f413_1, .int (nI ((κ w).2.2.1)), .int (nI f413_3), .int (nI f413_4), .int f413_5, .int f413_6, .int f413_7, .ref (κ w).2.2.2, .ref f413_9, .ref f413_10, .ref f413_11, .int (nI f413_12), .int f413_13, .int f413_14, .int f413_15, .int f413_16, .ref f413_17]))] [(κ w).2.2.2] _ _ := hB
      have z444 := DOK.sf z420 (k := 5) (by omega) (x := x443)
      have e445 := (pk_un (f := (upd g415 4 x419)) (x := x443) (show 3 ≠ 5 by omega)).trans en425
      refine lv_iconst (v := 0) hx hb dX9_send_57 (by decide) ?_
      have hT : WT B0 D cs T κ _ := hT.close hB ⟨⟨0, _, rfl, ok_24 t413_8.1 ⟨_, rfl, z444⟩⟩, trivial⟩
      have hF : Fr B0 [18] κ H0 _ := hF.close hB (fa_c (by simp [t413_8.2]) fa_n)
      have hL : OkL B0 _ := hB.2.2.2.2.2
      have hP : va_P D vwCl [((κ w).2.2.2, .inl (cs 0, 45783, .inl (upd (upd g415 4 x419) 5 x443))), (w, .inr (9, [.int f413_0, .ref f413_1, .int (nI ((κ w).2.2.1)), .int (nI f413_3), .int (nI f413_4), .int f413_5, .int f413_6, .int f413_7, .ref (κ w).2.2.2, .ref f413_9, .ref f413_10, .ref f413_11, .int (nI f413_12), .int f413_13, .int f413_14, .int f413_15, .int f413_16, .ref f413_17]))] _ := hB.1
      exact en_i hx hb hr hlocks hL rfl (Nat.zero_le _) (Nat.zero_le _) dX9_send_58 (⟨hT, hF, Or.inl rfl⟩)
theorem mX9_sendToOthers_1 : (.fieldLink RX9 18 "OneBeatModel" "data" "[I" : Cond) ∈ wsX9_sendToOthers := List.mem_of_getElem? (i := 1) (by decide +kernel)
theorem iX9_sendToOthers_9 : ∀ w ∈ wsX90, w ∈ wsX9_sendToOthers := fun w h => List.mem_of_mem_drop (List.mem_of_mem_take ((show wsX90 = (wsX9_sendToOthers.drop 10).take 18 by decide +kernel) ▸ h))
theorem hdX9_send_v : yX9_send.cls = RX9 ∧ yX9_send.cls ≠ "java/lang/invoke/MethodHandle" ∧ yX9_send.cls ≠ "java/lang/invoke/VarHandle" ∧ (parseMethodDescriptor yX9_send.desc).map (fun d => d.parameters.length) = some 6 := by decide +kernel
set_option maxHeartbeats 4000000 in
set_option maxRecDepth 100000 in
theorem c_X9_sendToOthers {l : Launch} {D : va_G} {cs : Nat → ClassId} {B0 T : Nat} {κ : KM} {H0 : Heap} (hT : WT B0 D cs T κ H0) {w : Nat} (hw : T2 κ w 10 12) {x : Nat} (qx : x < 6) {n : Nat} (qn : n < 8) {y : Int32} {z : Int32} {u : Int32} : KC l yX9_sendToOthers wsX9_sendToOthers 2 50 0 0 D cs B0 H0 [.ref w, .int (nI x), .int (nI n), .int y, .int z, .int u] (Qv (fun H => WT B0 D cs T κ H ∧ Fr B0 [18] κ H0 H)) := by
  refine KC.of cX9_sendToOthers 7 none (by decide) rfl (Nat.le_of_ble_eq_true rfl) ?_
  intro p e s m below meth c ls hx hb hr hml hown hts hlocks hin hN hE hH0 hl
  have hown : s.vm.findClass RX9 = some m.cls := hown
  have hl : lv_has ls 7 [(0, .ref w), (1, .int (nI x)), (2, .int (nI n)), (3, .int y), (4, .int z), (5, .int u)] := hl
  have hL : OkL B0 [] := OkL.nil
  have hF : Fr B0 [18] κ H0 H0 := Fr.rf
  refine lv_iconst (v := 0) hx hb dX9_sendToOthers_0 (by decide) ?_
  refine lv_istore (lv' := [(6, .int 0), (0, .ref w), (1, .int (nI x)), (2, .int (nI n)), (3, .int y), (4, .int z), (5, .int u)]) hx hb dX9_sendToOthers_1 hl (by decide) rfl (fun ls hl => ?_)
  refine lp_m (α := Nat) (nL := 7) (fun a9 => 8 - a9) (fun a9 H9 l9 => (a9 ≤ 8) ∧ (WT B0 D cs T κ H9) ∧ (Fr B0 [18] κ H0 H9) ∧ (OkL B0 l9)) (fun a9 => [(6, .int (nI a9)), (0, .ref w), (1, .int (nI x)), (2, .int (nI n)), (3, .int y), (4, .int z), (5, .int u)]) ?_ 0 _ _ _ ⟨(by show (0) ≤ 8; omega), hT, hF, hL⟩ (lv_sub hl [0, 1, 2, 3, 4, 5, 6] rfl)
  rintro p H locs ls ih446 ⟨hp, hT, hF, hL⟩ hl
  have hl : lv_has ls 7 [(6, .int (nI p)), (0, .ref w), (1, .int (nI x)), (2, .int (nI n)), (3, .int y), (4, .int z), (5, .int u)] := hl
  have hp : p ≤ 8 := hp
  refine lv_iload hx hb dX9_sendToOthers_3 (lv_at hl 0 rfl) ?_
  refine lv_aload_n hx hb dX9_sendToOthers_5 rfl (lv_at hl 1 rfl) ?_
  obtain ⟨hb447, e447, hat447, hk447⟩ := hT.o10 hw.1
  obtain ⟨f447_0, f447_1, f447_3, f447_4, f447_5, f447_6, f447_7, f447_9, f447_10, f447_11, f447_12, f447_13, f447_14, f447_15, f447_16, f447_17, rfl, c447_2, c447_3, c447_4, c447_12, t447_1, t447_8, t447_9, c447_sd, t447_10, t447_11, t447_17⟩ := hk447
  have hP : va_P D vwCl [(w, .inr (9, [.int f447_0, .ref f447_1, .int (nI ((κ w).2.2.1)), .int (nI f447_3), .int (nI f447_4), .int f447_5, .int f447_6, .int f447_7, .ref (κ w).2.2.2, .ref f447_9, .ref f447_10, .ref f447_11, .int (nI f447_12), .int f447_13, .int f447_14, .int f447_15, .int f447_16, .ref f447_17]))] _ := va_P.cons hat447 va_P.nil
  refine va_get (D := D) (ci := 9) (v := .ref (κ w).2.2.2) (C := RX9) (T := TX9) (N := 18) hx hb hts iX9_sendToOthers_9 hown hN.1 hP 0 rfl rfl 8 (by decide) (hts _ mX9_sendToOthers_1) (fun _ h9 => h9) rfl dX9_sendToOthers_6 ?_
  refine lv_iconst (v := 0) hx hb dX9_sendToOthers_9 (by decide) ?_
  obtain ⟨hb448, e448, hat448, hk448⟩ := hT.o24 t447_8.1
  obtain ⟨g448, rfl, q448⟩ := hk448
  have hP : va_P D vwCl [((κ w).2.2.2, .inl (cs 0, 45783, .inl g448)), (w, .inr (9, [.int f447_0, .ref f447_1, .int (nI ((κ w).2.2.1)), .int (nI f447_3), .int (nI f447_4), .int f447_5, .int f447_6, .int f447_7, .ref (κ w).2.2.2, .ref f447_9, .ref f447_10, .ref f447_11, .int (nI f447_12), .int f447_13, .int f447_14, .int f447_15, .int f447_16, .ref f447_17]))] _ := va_P.cons hat448 hP
  refine ld_i (v := (g448 0)) hx hb hN hP 0 rfl (vp_in_nI (n := 0) (N := 45783) (by omega) (by omega)) (by rw [(show (0 : Int32).toNatClampNeg = 0 from nI_clamp (n := 0) (by omega))]) dX9_sendToOthers_10 ?_
  obtain ⟨n449, hn449, en449⟩ := q448.1
  refine tp_i (nI n449) en449 ?_
  refine lv_icmp_ge (tgt := 40) hx hb dX9_sendToOthers_11 (by decide) (fun c450 => ?_) (fun c450 => ?_)
  · have c450 : n449 ≤ p := (nI_leI (a := n449) (b := p) (by omega) (by omega)).mp c450
    exact en_v hx hb hr hlocks hL (Nat.zero_le _) (Nat.zero_le _) dX9_sendToOthers_40 (⟨hT, hF⟩)
  · have c450 : ¬ n449 ≤ p := fun h9 => c450 ((nI_leI (a := n449) (b := p) (by omega) (by omega)).mpr h9)
    refine lv_iload hx hb dX9_sendToOthers_14 (lv_at hl 0 rfl) ?_
    refine lv_iload_n hx hb dX9_sendToOthers_16 rfl (lv_at hl 3 rfl) ?_
    refine lv_icmp_eq (tgt := 34) hx hb dX9_sendToOthers_17 (by decide) (fun c451 => ?_) (fun c451 => ?_)
    · have c451 : p = n := (nI_eq (a := p) (b := n) (by omega) (by omega)).mp c451
      refine lv_iinc (v := (nI (p + 1))) (lv' := [(6, .int (nI (p + 1))), (0, .ref w), (1, .int (nI x)), (2, .int (nI n)), (3, .int y), (4, .int z), (5, .int u)]) hx hb dX9_sendToOthers_34 hl (k := 0) rfl (nI_add _ 1) (by decide) rfl (fun ls hl => ?_)
      refine lv_goto (tgt := 3) hx hb dX9_sendToOthers_37 (by decide) ?_
      exact ih446 (p + 1) _ _ _ (by show 8 - ((p + 1)) < 8 - p; omega) ⟨(by show ((p + 1)) ≤ 8; omega), hT, hF, hL⟩ (lv_sub hl [0, 1, 2, 3, 4, 5, 6] rfl)
    · have c451 : ¬ p = n := fun h9 => c451 ((nI_eq (a := p) (b := n) (by omega) (by omega)).mpr h9)
      refine lv_aload_n hx hb dX9_sendToOthers_20 rfl (lv_at hl 1 rfl) ?_
      refine lv_iload_n hx hb dX9_sendToOthers_21 rfl (lv_at hl 2 rfl) ?_
      refine lv_iload_n hx hb dX9_sendToOthers_22 rfl (lv_at hl 3 rfl) ?_
      refine lv_iload hx hb dX9_sendToOthers_23 (lv_at hl 0 rfl) ?_
      refine lv_iload_n hx hb dX9_sendToOthers_25 rfl (lv_at hl 4 rfl) ?_
      refine lv_iload hx hb dX9_sendToOthers_26 (lv_at hl 5 rfl) ?_
      refine lv_iload hx hb dX9_sendToOthers_28 (lv_at hl 6 rfl) ?_
      refine cv_i (As := [.int (nI x), .int (nI n), .int (nI p), .int y, .int z, .int u]) (rest := []) (b := w) ⟨hx, hb, hml, hown, hts⟩ (c_X9_send hT (w := w) hw (x := x) (n := n) (k := p) (y := y) (z := z) (u := u) (by first | omega | decide | assumption) (by first | omega | decide | assumption) (by first | omega | decide | assumption)) (cwV 6 hts gX9_sendToOthers_X9_send rfl rfl rfl hdX9_send_v ⟨Nat.le_of_ble_eq_true rfl, Nat.le_of_ble_eq_true rfl⟩) hN hE hL (rcv10 hN hT hw.1) rfl rfl hl.1 (Nat.le_of_ble_eq_true rfl) dX9_sendToOthers_30 (Nat.zero_le _) (Nat.zero_le _) (fun r452 H1 locs hL hqr452 => ?_)
      obtain ⟨hT1, hF1, hqr452⟩ := hqr452
      have hP : va_P D vwCl [(w, .inr (9, [.int f447_0, .ref f447_1, .int (nI ((κ w).2.2.1)), .int (nI f447_3), .int (nI f447_4), .int f447_5, .int f447_6, .int f447_7, .ref (κ w).2.2.2, .ref f447_9, .ref f447_10, .ref f447_11, .int (nI f447_12), .int f447_13, .int f447_14, .int f447_15, .int f447_16, .ref f447_17]))] _ := hF1.hP (hP.sub [1] rfl) (fa_c ⟨by rw [hw.1]; decide, by rw [hw.2]; first | decide | (simp; done) | (simp; omega)⟩ fa_n)
      have hF := hF.tr (hF1.mono (by simp))
      have hT := hT1
      rcases hqr452 with rfl | rfl
      · refine lv_pop hx hb dX9_sendToOthers_33 rfl ?_
        refine lv_iinc (v := (nI (p + 1))) (lv' := [(6, .int (nI (p + 1))), (0, .ref w), (1, .int (nI x)), (2, .int (nI n)), (3, .int y), (4, .int z), (5, .int u)]) hx hb dX9_sendToOthers_34 hl (k := 0) rfl (nI_add _ 1) (by decide) rfl (fun ls hl => ?_)
        refine lv_goto (tgt := 3) hx hb dX9_sendToOthers_37 (by decide) ?_
        exact ih446 (p + 1) _ _ _ (by show 8 - ((p + 1)) < 8 - p; omega) ⟨(by show ((p + 1)) ≤ 8; omega), hT, hF, hL⟩ (lv_sub hl [0, 1, 2, 3, 4, 5, 6] rfl)
      · refine lv_pop hx hb dX9_sendToOthers_33 rfl ?_
        refine lv_iinc (v := (nI (p + 1))) (lv' := [(6, .int (nI (p + 1))), (0, .ref w), (1, .int (nI x)), (2, .int (nI n)), (3, .int y), (4, .int z), (5, .int u)]) hx hb dX9_sendToOthers_34 hl (k := 0) rfl (nI_add _ 1) (by decide) rfl (fun ls hl => ?_)
        refine lv_goto (tgt := 3) hx hb dX9_sendToOthers_37 (by decide) ?_
        exact ih446 (p + 1) _ _ _ (by show 8 - ((p + 1)) < 8 - p; omega) ⟨(by show ((p + 1)) ≤ 8; omega), hT, hF, hL⟩ (lv_sub hl [0, 1, 2, 3, 4, 5, 6] rfl)
theorem mX9_isOpen_1 : (.fieldLink RX9 18 "OneBeatModel" "data" "[I" : Cond) ∈ wsX9_isOpen := List.mem_of_getElem? (i := 1) (by decide +kernel)
theorem iX9_isOpen_9 : ∀ w ∈ wsX90, w ∈ wsX9_isOpen := fun w h => List.mem_of_mem_drop (List.mem_of_mem_take ((show wsX90 = (wsX9_isOpen.drop 2).take 18 by decide +kernel) ▸ h))
set_option maxHeartbeats 4000000 in
set_option maxRecDepth 100000 in
theorem c_X9_isOpen {l : Launch} {D : va_G} {cs : Nat → ClassId} {B0 T : Nat} {κ : KM} {H0 : Heap} (hT : WT B0 D cs T κ H0) {w : Nat} (hw : T2 κ w 10 12) : KC l yX9_isOpen wsX9_isOpen 0 0 0 0 D cs B0 H0 [.ref w] (Qi (fun r H => H = H0 ∧ (r = 0 ∨ r = 1))) := by
  refine KC.of cX9_isOpen 1 (some .boolean) (by decide) rfl (Nat.le_of_ble_eq_true rfl) ?_
  intro p e s m below meth c ls hx hb hr hml hown hts hlocks hin hN hE hH0 hl
  have hown : s.vm.findClass RX9 = some m.cls := hown
  have hl : lv_has ls 1 [(0, .ref w)] := hl
  have hL : OkL B0 [] := OkL.nil
  refine lv_aload_n hx hb dX9_isOpen_0 rfl (lv_at hl 0 rfl) ?_
  obtain ⟨hb453, e453, hat453, hk453⟩ := hT.o10 hw.1
  obtain ⟨f453_0, f453_1, f453_3, f453_4, f453_5, f453_6, f453_7, f453_9, f453_10, f453_11, f453_12, f453_13, f453_14, f453_15, f453_16, f453_17, rfl, c453_2, c453_3, c453_4, c453_12, t453_1, t453_8, t453_9, c453_sd, t453_10, t453_11, t453_17⟩ := hk453
  have hP : va_P D vwCl [(w, .inr (9, [.int f453_0, .ref f453_1, .int (nI ((κ w).2.2.1)), .int (nI f453_3), .int (nI f453_4), .int f453_5, .int f453_6, .int f453_7, .ref (κ w).2.2.2, .ref f453_9, .ref f453_10, .ref f453_11, .int (nI f453_12), .int f453_13, .int f453_14, .int f453_15, .int f453_16, .ref f453_17]))] _ := va_P.cons hat453 va_P.nil
  refine va_get (D := D) (ci := 9) (v := .ref (κ w).2.2.2) (C := RX9) (T := TX9) (N := 18) hx hb hts iX9_isOpen_9 hown hN.1 hP 0 rfl rfl 8 (by decide) (hts _ mX9_isOpen_1) (fun _ h9 => h9) rfl dX9_isOpen_1 ?_
  refine lv_bipush (v := 6) hx hb dX9_isOpen_4 (by decide) ?_
  obtain ⟨hb454, e454, hat454, hk454⟩ := hT.o24 t453_8.1
  obtain ⟨g454, rfl, q454⟩ := hk454
  have hP : va_P D vwCl [((κ w).2.2.2, .inl (cs 0, 45783, .inl g454)), (w, .inr (9, [.int f453_0, .ref f453_1, .int (nI ((κ w).2.2.1)), .int (nI f453_3), .int (nI f453_4), .int f453_5, .int f453_6, .int f453_7, .ref (κ w).2.2.2, .ref f453_9, .ref f453_10, .ref f453_11, .int (nI f453_12), .int f453_13, .int f453_14, .int f453_15, .int f453_16, .ref f453_17]))] _ := va_P.cons hat454 hP
  refine ld_i (v := (g454 6)) hx hb hN hP 0 rfl (vp_in_nI (n := 6) (N := 45783) (by omega) (by omega)) (by rw [(show (6 : Int32).toNatClampNeg = 6 from nI_clamp (n := 6) (by omega))]) dX9_isOpen_6 ?_
  refine gn_i (fun x455 => ?_)
  refine lv_if_le (tgt := 24) hx hb dX9_isOpen_7 (by decide) (fun c456 => ?_) (fun c456 => ?_)
  · refine lv_iconst (v := 0) hx hb dX9_isOpen_24 (by decide) ?_
    exact en_i hx hb hr hlocks hL rfl (Nat.zero_le _) (Nat.zero_le _) dX9_isOpen_25 (⟨rfl, Or.inl rfl⟩)
  · refine lv_aload_n hx hb dX9_isOpen_10 rfl (lv_at hl 0 rfl) ?_
    refine va_get (D := D) (ci := 9) (v := .ref (κ w).2.2.2) (C := RX9) (T := TX9) (N := 18) hx hb hts iX9_isOpen_9 hown hN.1 hP 1 rfl rfl 8 (by decide) (hts _ mX9_isOpen_1) (fun _ h9 => h9) rfl dX9_isOpen_11 ?_
    refine lv_bipush (v := 20) hx hb dX9_isOpen_14 (by decide) ?_
    refine ld_i (v := (g454 20)) hx hb hN hP 0 rfl (vp_in_nI (n := 20) (N := 45783) (by omega) (by omega)) (by rw [(show (20 : Int32).toNatClampNeg = 20 from nI_clamp (n := 20) (by omega))]) dX9_isOpen_16 ?_
    refine gn_i (fun x457 => ?_)
    refine lv_if_ne (tgt := 24) hx hb dX9_isOpen_17 (by decide) (fun c458 => ?_) (fun c458 => ?_)
    · refine lv_iconst (v := 0) hx hb dX9_isOpen_24 (by decide) ?_
      exact en_i hx hb hr hlocks hL rfl (Nat.zero_le _) (Nat.zero_le _) dX9_isOpen_25 (⟨rfl, Or.inl rfl⟩)
    · refine lv_iconst (v := 1) hx hb dX9_isOpen_20 (by decide) ?_
      refine lv_goto (tgt := 25) hx hb dX9_isOpen_21 (by decide) ?_
      exact en_i hx hb hr hlocks hL rfl (Nat.zero_le _) (Nat.zero_le _) dX9_isOpen_25 (⟨rfl, Or.inr rfl⟩)
theorem hdX9_set_v : yX9_set.cls = RX9 ∧ yX9_set.cls ≠ "java/lang/invoke/MethodHandle" ∧ yX9_set.cls ≠ "java/lang/invoke/VarHandle" ∧ (parseMethodDescriptor yX9_set.desc).map (fun d => d.parameters.length) = some 3 := by decide +kernel
set_option maxHeartbeats 4000000 in
set_option maxRecDepth 100000 in
theorem c_X9_plan {l : Launch} {D : va_G} {cs : Nat → ClassId} {B0 T : Nat} {κ : KM} {H0 : Heap} (hT : WT B0 D cs T κ H0) {w : Nat} (hw : T2 κ w 10 12) {n : Nat} (qn : n < 8) {x : Int32} {y : Int32} {z : Int32} {u : Int32} : KC l yX9_plan wsX9_plan 2 43 0 0 D cs B0 H0 [.ref w, .int (nI n), .int x, .int y, .int z, .int u] (Qv (fun H => WT B0 D cs T κ H ∧ Fr B0 [18] κ H0 H)) := by
  refine KC.of cX9_plan 6 none (by decide) rfl (Nat.le_of_ble_eq_true rfl) ?_
  intro p e s m below meth c ls hx hb hr hml hown hts hlocks hin hN hE hH0 hl
  have hown : s.vm.findClass RX9 = some m.cls := hown
  have hl : lv_has ls 6 [(0, .ref w), (1, .int (nI n)), (2, .int x), (3, .int y), (4, .int z), (5, .int u)] := hl
  have hL : OkL B0 [] := OkL.nil
  have hF : Fr B0 [18] κ H0 H0 := Fr.rf
  refine lv_aload_n hx hb dX9_plan_0 rfl (lv_at hl 0 rfl) ?_
  refine lv_iload_n hx hb dX9_plan_1 rfl (lv_at hl 1 rfl) ?_
  refine lv_iconst (v := 5) hx hb dX9_plan_2 (by decide) ?_
  refine cv_i (As := [.int (nI n), .int 5]) (rest := []) (b := w) ⟨hx, hb, hml, hown, hts⟩ (c_X9_of hT (w := w) hw (n := n) (k := 5) (by first | omega | decide | assumption) (by first | omega | decide | assumption)) (cwV 2 hts gX9_plan_X9_of rfl rfl rfl hdX9_of_v ⟨Nat.le_of_ble_eq_true rfl, Nat.le_of_ble_eq_true rfl⟩) hN hE hL (rcv10 hN hT hw.1) rfl rfl hl.1 (Nat.le_of_ble_eq_true rfl) dX9_plan_3 (Nat.zero_le _) (Nat.zero_le _) (fun r459 H1 locs hL hqr459 => ?_)
  obtain rfl := hqr459.symm
  refine lv_if_eq (tgt := 21) hx hb dX9_plan_6 (by decide) (fun c460 => ?_) (fun c460 => ?_)
  · refine lv_aload_n hx hb dX9_plan_21 rfl (lv_at hl 0 rfl) ?_
    refine lv_iload_n hx hb dX9_plan_22 rfl (lv_at hl 1 rfl) ?_
    refine lv_iconst (v := 5) hx hb dX9_plan_23 (by decide) ?_
    refine lv_iload_n hx hb dX9_plan_24 rfl (lv_at hl 2 rfl) ?_
    refine cv_v (As := [.int (nI n), .int 5, .int x]) (rest := []) (b := w) ⟨hx, hb, hml, hown, hts⟩ (c_X9_set hT (w := w) hw (n := n) (k := 5) (x := x) (by first | omega | decide | assumption) (by first | omega | decide | assumption)) (cwV 3 hts gX9_plan_X9_set rfl rfl rfl hdX9_set_v ⟨Nat.le_of_ble_eq_true rfl, Nat.le_of_ble_eq_true rfl⟩) hN hE hL (rcv10 hN hT hw.1) rfl rfl hl.1 (Nat.le_of_ble_eq_true rfl) dX9_plan_25 (Nat.zero_le _) (Nat.zero_le _) (fun H1 locs hL hqr461 => ?_)
    obtain ⟨hT1, hF1⟩ := hqr461
    have hF := hF.tr (hF1.mono (by simp))
    have hT := hT1
    refine lv_aload_n hx hb dX9_plan_28 rfl (lv_at hl 0 rfl) ?_
    refine lv_iload_n hx hb dX9_plan_29 rfl (lv_at hl 1 rfl) ?_
    refine lv_bipush (v := 6) hx hb dX9_plan_30 (by decide) ?_
    refine lv_iload_n hx hb dX9_plan_32 rfl (lv_at hl 3 rfl) ?_
    refine cv_v (As := [.int (nI n), .int 6, .int y]) (rest := []) (b := w) ⟨hx, hb, hml, hown, hts⟩ (c_X9_set hT (w := w) hw (n := n) (k := 6) (x := y) (by first | omega | decide | assumption) (by first | omega | decide | assumption)) (cwV 3 hts gX9_plan_X9_set rfl rfl rfl hdX9_set_v ⟨Nat.le_of_ble_eq_true rfl, Nat.le_of_ble_eq_true rfl⟩) hN hE hL (rcv10 hN hT hw.1) rfl rfl hl.1 (Nat.le_of_ble_eq_true rfl) dX9_plan_33 (Nat.zero_le _) (Nat.zero_le _) (fun H1 locs hL hqr462 => ?_)
    obtain ⟨hT1, hF1⟩ := hqr462
    have hF := hF.tr (hF1.mono (by simp))
    have hT := hT1
    refine lv_aload_n hx hb dX9_plan_36 rfl (lv_at hl 0 rfl) ?_
    refine lv_iload_n hx hb dX9_plan_37 rfl (lv_at hl 1 rfl) ?_
    refine lv_bipush (v := 8) hx hb dX9_plan_38 (by decide) ?_
    refine lv_iload hx hb dX9_plan_40 (lv_at hl 4 rfl) ?_
    refine cv_v (As := [.int (nI n), .int 8, .int z]) (rest := []) (b := w) ⟨hx, hb, hml, hown, hts⟩ (c_X9_set hT (w := w) hw (n := n) (k := 8) (x := z) (by first | omega | decide | assumption) (by first | omega | decide | assumption)) (cwV 3 hts gX9_plan_X9_set rfl rfl rfl hdX9_set_v ⟨Nat.le_of_ble_eq_true rfl, Nat.le_of_ble_eq_true rfl⟩) hN hE hL (rcv10 hN hT hw.1) rfl rfl hl.1 (Nat.le_of_ble_eq_true rfl) dX9_plan_42 (Nat.zero_le _) (Nat.zero_le _) (fun H1 locs hL hqr463 => ?_)
    obtain ⟨hT1, hF1⟩ := hqr463
    have hF := hF.tr (hF1.mono (by simp))
    have hT := hT1
    refine lv_aload_n hx hb dX9_plan_45 rfl (lv_at hl 0 rfl) ?_
    refine lv_iload_n hx hb dX9_plan_46 rfl (lv_at hl 1 rfl) ?_
    refine lv_bipush (v := 7) hx hb dX9_plan_47 (by decide) ?_
    refine lv_iload hx hb dX9_plan_49 (lv_at hl 5 rfl) ?_
    refine cv_v (As := [.int (nI n), .int 7, .int u]) (rest := []) (b := w) ⟨hx, hb, hml, hown, hts⟩ (c_X9_set hT (w := w) hw (n := n) (k := 7) (x := u) (by first | omega | decide | assumption) (by first | omega | decide | assumption)) (cwV 3 hts gX9_plan_X9_set rfl rfl rfl hdX9_set_v ⟨Nat.le_of_ble_eq_true rfl, Nat.le_of_ble_eq_true rfl⟩) hN hE hL (rcv10 hN hT hw.1) rfl rfl hl.1 (Nat.le_of_ble_eq_true rfl) dX9_plan_51 (Nat.zero_le _) (Nat.zero_le _) (fun H1 locs hL hqr464 => ?_)
    obtain ⟨hT1, hF1⟩ := hqr464
    have hF := hF.tr (hF1.mono (by simp))
    have hT := hT1
    exact en_v hx hb hr hlocks hL (Nat.zero_le _) (Nat.zero_le _) dX9_plan_54 (⟨hT, hF⟩)
  · refine lv_aload_n hx hb dX9_plan_9 rfl (lv_at hl 0 rfl) ?_
    refine lv_iload_n hx hb dX9_plan_10 rfl (lv_at hl 1 rfl) ?_
    refine lv_bipush (v := 6) hx hb dX9_plan_11 (by decide) ?_
    refine cv_i (As := [.int (nI n), .int 6]) (rest := []) (b := w) ⟨hx, hb, hml, hown, hts⟩ (c_X9_of hT (w := w) hw (n := n) (k := 6) (by first | omega | decide | assumption) (by first | omega | decide | assumption)) (cwV 2 hts gX9_plan_X9_of rfl rfl rfl hdX9_of_v ⟨Nat.le_of_ble_eq_true rfl, Nat.le_of_ble_eq_true rfl⟩) hN hE hL (rcv10 hN hT hw.1) rfl rfl hl.1 (Nat.le_of_ble_eq_true rfl) dX9_plan_13 (Nat.zero_le _) (Nat.zero_le _) (fun r465 H1 locs hL hqr465 => ?_)
    obtain rfl := hqr465.symm
    refine lv_iload_n hx hb dX9_plan_16 rfl (lv_at hl 3 rfl) ?_
    refine lv_icmp_le (tgt := 21) hx hb dX9_plan_17 (by decide) (fun c466 => ?_) (fun c466 => ?_)
    · refine lv_aload_n hx hb dX9_plan_21 rfl (lv_at hl 0 rfl) ?_
      refine lv_iload_n hx hb dX9_plan_22 rfl (lv_at hl 1 rfl) ?_
      refine lv_iconst (v := 5) hx hb dX9_plan_23 (by decide) ?_
      refine lv_iload_n hx hb dX9_plan_24 rfl (lv_at hl 2 rfl) ?_
      refine cv_v (As := [.int (nI n), .int 5, .int x]) (rest := []) (b := w) ⟨hx, hb, hml, hown, hts⟩ (c_X9_set hT (w := w) hw (n := n) (k := 5) (x := x) (by first | omega | decide | assumption) (by first | omega | decide | assumption)) (cwV 3 hts gX9_plan_X9_set rfl rfl rfl hdX9_set_v ⟨Nat.le_of_ble_eq_true rfl, Nat.le_of_ble_eq_true rfl⟩) hN hE hL (rcv10 hN hT hw.1) rfl rfl hl.1 (Nat.le_of_ble_eq_true rfl) dX9_plan_25 (Nat.zero_le _) (Nat.zero_le _) (fun H1 locs hL hqr467 => ?_)
      obtain ⟨hT1, hF1⟩ := hqr467
      have hF := hF.tr (hF1.mono (by simp))
      have hT := hT1
      refine lv_aload_n hx hb dX9_plan_28 rfl (lv_at hl 0 rfl) ?_
      refine lv_iload_n hx hb dX9_plan_29 rfl (lv_at hl 1 rfl) ?_
      refine lv_bipush (v := 6) hx hb dX9_plan_30 (by decide) ?_
      refine lv_iload_n hx hb dX9_plan_32 rfl (lv_at hl 3 rfl) ?_
      refine cv_v (As := [.int (nI n), .int 6, .int y]) (rest := []) (b := w) ⟨hx, hb, hml, hown, hts⟩ (c_X9_set hT (w := w) hw (n := n) (k := 6) (x := y) (by first | omega | decide | assumption) (by first | omega | decide | assumption)) (cwV 3 hts gX9_plan_X9_set rfl rfl rfl hdX9_set_v ⟨Nat.le_of_ble_eq_true rfl, Nat.le_of_ble_eq_true rfl⟩) hN hE hL (rcv10 hN hT hw.1) rfl rfl hl.1 (Nat.le_of_ble_eq_true rfl) dX9_plan_33 (Nat.zero_le _) (Nat.zero_le _) (fun H1 locs hL hqr468 => ?_)
      obtain ⟨hT1, hF1⟩ := hqr468
      have hF := hF.tr (hF1.mono (by simp))
      have hT := hT1
      refine lv_aload_n hx hb dX9_plan_36 rfl (lv_at hl 0 rfl) ?_
      refine lv_iload_n hx hb dX9_plan_37 rfl (lv_at hl 1 rfl) ?_
      refine lv_bipush (v := 8) hx hb dX9_plan_38 (by decide) ?_
      refine lv_iload hx hb dX9_plan_40 (lv_at hl 4 rfl) ?_
      refine cv_v (As := [.int (nI n), .int 8, .int z]) (rest := []) (b := w) ⟨hx, hb, hml, hown, hts⟩ (c_X9_set hT (w := w) hw (n := n) (k := 8) (x := z) (by first | omega | decide | assumption) (by first | omega | decide | assumption)) (cwV 3 hts gX9_plan_X9_set rfl rfl rfl hdX9_set_v ⟨Nat.le_of_ble_eq_true rfl, Nat.le_of_ble_eq_true rfl⟩) hN hE hL (rcv10 hN hT hw.1) rfl rfl hl.1 (Nat.le_of_ble_eq_true rfl) dX9_plan_42 (Nat.zero_le _) (Nat.zero_le _) (fun H1 locs hL hqr469 => ?_)
      obtain ⟨hT1, hF1⟩ := hqr469
      have hF := hF.tr (hF1.mono (by simp))
      have hT := hT1
      refine lv_aload_n hx hb dX9_plan_45 rfl (lv_at hl 0 rfl) ?_
      refine lv_iload_n hx hb dX9_plan_46 rfl (lv_at hl 1 rfl) ?_
      refine lv_bipush (v := 7) hx hb dX9_plan_47 (by decide) ?_
      refine lv_iload hx hb dX9_plan_49 (lv_at hl 5 rfl) ?_
      refine cv_v (As := [.int (nI n), .int 7, .int u]) (rest := []) (b := w) ⟨hx, hb, hml, hown, hts⟩ (c_X9_set hT (w := w) hw (n := n) (k := 7) (x := u) (by first | omega | decide | assumption) (by first | omega | decide | assumption)) (cwV 3 hts gX9_plan_X9_set rfl rfl rfl hdX9_set_v ⟨Nat.le_of_ble_eq_true rfl, Nat.le_of_ble_eq_true rfl⟩) hN hE hL (rcv10 hN hT hw.1) rfl rfl hl.1 (Nat.le_of_ble_eq_true rfl) dX9_plan_51 (Nat.zero_le _) (Nat.zero_le _) (fun H1 locs hL hqr470 => ?_)
      obtain ⟨hT1, hF1⟩ := hqr470
      have hF := hF.tr (hF1.mono (by simp))
      have hT := hT1
      exact en_v hx hb hr hlocks hL (Nat.zero_le _) (Nat.zero_le _) dX9_plan_54 (⟨hT, hF⟩)
    · exact en_v hx hb hr hlocks hL (Nat.zero_le _) (Nat.zero_le _) dX9_plan_20 (⟨hT, hF⟩)
set_option maxHeartbeats 4000000 in
set_option maxRecDepth 100000 in
theorem c_X9_dropPlan {l : Launch} {D : va_G} {cs : Nat → ClassId} {B0 T : Nat} {κ : KM} {H0 : Heap} (hT : WT B0 D cs T κ H0) {w : Nat} (hw : T2 κ w 10 12) {n : Nat} (qn : n < 8) : KC l yX9_dropPlan wsX9_dropPlan 2 43 0 0 D cs B0 H0 [.ref w, .int (nI n)] (Qv (fun H => WT B0 D cs T κ H ∧ Fr B0 [18] κ H0 H)) := by
  refine KC.of cX9_dropPlan 2 none (by decide) rfl (Nat.le_of_ble_eq_true rfl) ?_
  intro p e s m below meth c ls hx hb hr hml hown hts hlocks hin hN hE hH0 hl
  have hown : s.vm.findClass RX9 = some m.cls := hown
  have hl : lv_has ls 2 [(0, .ref w), (1, .int (nI n))] := hl
  have hL : OkL B0 [] := OkL.nil
  have hF : Fr B0 [18] κ H0 H0 := Fr.rf
  refine lv_aload_n hx hb dX9_dropPlan_0 rfl (lv_at hl 0 rfl) ?_
  refine lv_iload_n hx hb dX9_dropPlan_1 rfl (lv_at hl 1 rfl) ?_
  refine lv_iconst (v := 5) hx hb dX9_dropPlan_2 (by decide) ?_
  refine lv_iconst (v := 0) hx hb dX9_dropPlan_3 (by decide) ?_
  refine cv_v (As := [.int (nI n), .int 5, .int 0]) (rest := []) (b := w) ⟨hx, hb, hml, hown, hts⟩ (c_X9_set hT (w := w) hw (n := n) (k := 5) (x := 0) (by first | omega | decide | assumption) (by first | omega | decide | assumption)) (cwV 3 hts gX9_dropPlan_X9_set rfl rfl rfl hdX9_set_v ⟨Nat.le_of_ble_eq_true rfl, Nat.le_of_ble_eq_true rfl⟩) hN hE hL (rcv10 hN hT hw.1) rfl rfl hl.1 (Nat.le_of_ble_eq_true rfl) dX9_dropPlan_4 (Nat.zero_le _) (Nat.zero_le _) (fun H1 locs hL hqr471 => ?_)
  obtain ⟨hT1, hF1⟩ := hqr471
  have hF := hF.tr (hF1.mono (by simp))
  have hT := hT1
  refine lv_aload_n hx hb dX9_dropPlan_7 rfl (lv_at hl 0 rfl) ?_
  refine lv_iload_n hx hb dX9_dropPlan_8 rfl (lv_at hl 1 rfl) ?_
  refine lv_bipush (v := 6) hx hb dX9_dropPlan_9 (by decide) ?_
  refine lv_iconst (v := (-1)) hx hb dX9_dropPlan_11 (by decide) ?_
  refine cv_v (As := [.int (nI n), .int 6, .int (-1)]) (rest := []) (b := w) ⟨hx, hb, hml, hown, hts⟩ (c_X9_set hT (w := w) hw (n := n) (k := 6) (x := (-1)) (by first | omega | decide | assumption) (by first | omega | decide | assumption)) (cwV 3 hts gX9_dropPlan_X9_set rfl rfl rfl hdX9_set_v ⟨Nat.le_of_ble_eq_true rfl, Nat.le_of_ble_eq_true rfl⟩) hN hE hL (rcv10 hN hT hw.1) rfl rfl hl.1 (Nat.le_of_ble_eq_true rfl) dX9_dropPlan_12 (Nat.zero_le _) (Nat.zero_le _) (fun H1 locs hL hqr472 => ?_)
  obtain ⟨hT1, hF1⟩ := hqr472
  have hF := hF.tr (hF1.mono (by simp))
  have hT := hT1
  exact en_v hx hb hr hlocks hL (Nat.zero_le _) (Nat.zero_le _) dX9_dropPlan_15 (⟨hT, hF⟩)
theorem mX9_vote_1 : (.fieldLink RX9 18 "OneBeatModel" "data" "[I" : Cond) ∈ wsX9_vote := List.mem_of_getElem? (i := 1) (by decide +kernel)
theorem iX9_vote_9 : ∀ w ∈ wsX90, w ∈ wsX9_vote := fun w h => List.mem_of_mem_drop (List.mem_of_mem_take ((show wsX90 = (wsX9_vote.drop 29).take 18 by decide +kernel) ▸ h))
theorem hdX9_plan_v : yX9_plan.cls = RX9 ∧ yX9_plan.cls ≠ "java/lang/invoke/MethodHandle" ∧ yX9_plan.cls ≠ "java/lang/invoke/VarHandle" ∧ (parseMethodDescriptor yX9_plan.desc).map (fun d => d.parameters.length) = some 5 := by decide +kernel
theorem hdX9_sendToOthers_v : yX9_sendToOthers.cls = RX9 ∧ yX9_sendToOthers.cls ≠ "java/lang/invoke/MethodHandle" ∧ yX9_sendToOthers.cls ≠ "java/lang/invoke/VarHandle" ∧ (parseMethodDescriptor yX9_sendToOthers.desc).map (fun d => d.parameters.length) = some 5 := by decide +kernel
set_option maxHeartbeats 4000000 in
set_option maxRecDepth 100000 in
theorem c_X9_vote {l : Launch} {D : va_G} {cs : Nat → ClassId} {B0 T : Nat} {κ : KM} {H0 : Heap} (hT : WT B0 D cs T κ H0) {w : Nat} (hw : T2 κ w 10 12) : KC l yX9_vote wsX9_vote 3 76 0 0 D cs B0 H0 [.ref w] (Qv (fun H => WT B0 D cs T κ H ∧ Fr B0 [18] κ H0 H)) := by
  refine KC.of cX9_vote 1 none (by decide) rfl (Nat.le_of_ble_eq_true rfl) ?_
  intro p e s m below meth c ls hx hb hr hml hown hts hlocks hin hN hE hH0 hl
  have hown : s.vm.findClass RX9 = some m.cls := hown
  have hl : lv_has ls 1 [(0, .ref w)] := hl
  have hL : OkL B0 [] := OkL.nil
  have hF : Fr B0 [18] κ H0 H0 := Fr.rf
  refine lv_aload_n hx hb dX9_vote_0 rfl (lv_at hl 0 rfl) ?_
  obtain ⟨hb473, e473, hat473, hk473⟩ := hT.o10 hw.1
  obtain ⟨f473_0, f473_1, f473_3, f473_4, f473_5, f473_6, f473_7, f473_9, f473_10, f473_11, f473_12, f473_13, f473_14, f473_15, f473_16, f473_17, rfl, c473_2, c473_3, c473_4, c473_12, t473_1, t473_8, t473_9, c473_sd, t473_10, t473_11, t473_17⟩ := hk473
  have hP : va_P D vwCl [(w, .inr (9, [.int f473_0, .ref f473_1, .int (nI ((κ w).2.2.1)), .int (nI f473_3), .int (nI f473_4), .int f473_5, .int f473_6, .int f473_7, .ref (κ w).2.2.2, .ref f473_9, .ref f473_10, .ref f473_11, .int (nI f473_12), .int f473_13, .int f473_14, .int f473_15, .int f473_16, .ref f473_17]))] _ := va_P.cons hat473 va_P.nil
  refine va_get (D := D) (ci := 9) (v := .ref (κ w).2.2.2) (C := RX9) (T := TX9) (N := 18) hx hb hts iX9_vote_9 hown hN.1 hP 0 rfl rfl 8 (by decide) (hts _ mX9_vote_1) (fun _ h9 => h9) rfl dX9_vote_1 ?_
  refine lv_bipush (v := 19) hx hb dX9_vote_4 (by decide) ?_
  refine lv_dup2_11 hx hb dX9_vote_6 rfl rfl ?_
  obtain ⟨hb474, e474, hat474, hk474⟩ := hT.o24 t473_8.1
  obtain ⟨g474, rfl, q474⟩ := hk474
  have hP : va_P D vwCl [((κ w).2.2.2, .inl (cs 0, 45783, .inl g474)), (w, .inr (9, [.int f473_0, .ref f473_1, .int (nI ((κ w).2.2.1)), .int (nI f473_3), .int (nI f473_4), .int f473_5, .int f473_6, .int f473_7, .ref (κ w).2.2.2, .ref f473_9, .ref f473_10, .ref f473_11, .int (nI f473_12), .int f473_13, .int f473_14, .int f473_15, .int f473_16, .ref f473_17]))] _ := va_P.cons hat474 hP
  refine ld_i (v := (g474 19)) hx hb hN hP 0 rfl (vp_in_nI (n := 19) (N := 45783) (by omega) (by omega)) (by rw [(show (19 : Int32).toNatClampNeg = 19 from nI_clamp (n := 19) (by omega))]) dX9_vote_7 ?_
  refine gn_i (fun x475 => ?_)
  refine lv_iconst (v := 1) hx hb dX9_vote_8 (by decide) ?_
  refine lv_iadd hx hb dX9_vote_9 ?_
  refine gn_i (fun x476 => ?_)
  have hB : Bx B0 D _ [((κ w).2.2.2, .inl (cs 0, 45783, .inl g474)), (w, .inr (9, [.int f473_0, .ref f473_1, .int (nI ((κ w).2.2.1)), .int (nI f473_3), .int (nI f473_4), .int f473_5, .int f473_6, .int f473_7, .ref (κ w).2.2.2, .ref f473_9, .ref f473_10, .ref f473_11, .int (nI f473_12), .int f473_13, .int f473_14, .int f473_15, .int f473_16, .ref f473_17]))] [] _ _ := Bx.of (fun a => (κ a).1) hL hP (fa_c hb474 (fa_c hb473 fa_n)) (by simp only [List.map_cons, List.map_nil, t473_8.1, hw.1]; decide)
  refine b_i hx hb hN hB 0 rfl (vp_in_nI (n := 19) (N := 45783) (by omega) (by omega)) (.inl rfl) dX9_vote_10 (fun H locs hB => ?_)
  rw [(show (19 : Int32).toNatClampNeg = 19 from nI_clamp (n := 19) (by omega))] at hB
  have hB : Bx B0 D _ [((κ w).2.2.2, .inl (cs 0, 45783, .inl (upd g474 19 x476))), (w, .inr (9, [.int f473_0, .ref f473_1, .int (nI ((κ w).2.2.1)), .int (nI f473_3), .int (nI f473_4), .int f473_5, .int f473_6, .int f473_7, .ref (κ w).2.2.2, .ref f473_9, .ref f473_10, .ref f473_11, .int (nI f473_12), .int f473_13, .int f473_14, .int f473_15, .int f473_16, .ref f473_17]))] [(κ w).2.2.2] _ _ := hB
  have z477 := DOK.sf q474 (k := 19) (by omega) (x := x476)
  refine lv_aload_n hx hb dX9_vote_11 rfl (lv_at hl 0 rfl) ?_
  refine va_get (D := D) (ci := 9) (v := .ref (κ w).2.2.2) (C := RX9) (T := TX9) (N := 18) hx hb hts iX9_vote_9 hown hN.1 hB.1 1 rfl rfl 8 (by decide) (hts _ mX9_vote_1) (fun _ h9 => h9) rfl dX9_vote_12 ?_
  refine lv_bipush (v := 19) hx hb dX9_vote_15 (by decide) ?_
  refine ld_i (v := ((upd g474 19 x476) 19)) hx hb hN hB.1 0 rfl (vp_in_nI (n := 19) (N := 45783) (by omega) (by omega)) (by rw [(show (19 : Int32).toNatClampNeg = 19 from nI_clamp (n := 19) (by omega))]) dX9_vote_17 ?_
  refine gn_i (fun x478 => ?_)
  refine lv_aload_n hx hb dX9_vote_18 rfl (lv_at hl 0 rfl) ?_
  refine va_get (D := D) (ci := 9) (v := .ref (κ w).2.2.2) (C := RX9) (T := TX9) (N := 18) hx hb hts iX9_vote_9 hown hN.1 hB.1 1 rfl rfl 8 (by decide) (hts _ mX9_vote_1) (fun _ h9 => h9) rfl dX9_vote_19 ?_
  refine lv_bipush (v := 11) hx hb dX9_vote_22 (by decide) ?_
  refine ld_i (v := ((upd g474 19 x476) 11)) hx hb hN hB.1 0 rfl (vp_in_nI (n := 11) (N := 45783) (by omega) (by omega)) (by rw [(show (11 : Int32).toNatClampNeg = 11 from nI_clamp (n := 11) (by omega))]) dX9_vote_24 ?_
  refine gn_i (fun x479 => ?_)
  refine lv_icmp_ge (tgt := 29) hx hb dX9_vote_25 (by decide) (fun c480 => ?_) (fun c480 => ?_)
  · refine lv_aload_n hx hb dX9_vote_29 rfl (lv_at hl 0 rfl) ?_
    refine va_get (D := D) (ci := 9) (v := .ref (κ w).2.2.2) (C := RX9) (T := TX9) (N := 18) hx hb hts iX9_vote_9 hown hN.1 hB.1 1 rfl rfl 8 (by decide) (hts _ mX9_vote_1) (fun _ h9 => h9) rfl dX9_vote_30 ?_
    refine lv_bipush (v := 20) hx hb dX9_vote_33 (by decide) ?_
    refine lv_iconst (v := 1) hx hb dX9_vote_35 (by decide) ?_
    refine b_i hx hb hN hB 0 rfl (vp_in_nI (n := 20) (N := 45783) (by omega) (by omega)) (.inr ⟨rfl, List.mem_of_getElem? (i := 0) rfl⟩) dX9_vote_36 (fun H locs hB => ?_)
    rw [(show (20 : Int32).toNatClampNeg = 20 from nI_clamp (n := 20) (by omega))] at hB
    have hB : Bx B0 D _ [((κ w).2.2.2, .inl (cs 0, 45783, .inl (upd (upd g474 19 x476) 20 1))), (w, .inr (9, [.int f473_0, .ref f473_1, .int (nI ((κ w).2.2.1)), .int (nI f473_3), .int (nI f473_4), .int f473_5, .int f473_6, .int f473_7, .ref (κ w).2.2.2, .ref f473_9, .ref f473_10, .ref f473_11, .int (nI f473_12), .int f473_13, .int f473_14, .int f473_15, .int f473_16, .ref f473_17]))] [(κ w).2.2.2] _ _ := hB
    have z481 := DOK.sf z477 (k := 20) (by omega) (x := 1)
    refine lv_aload_n hx hb dX9_vote_37 rfl (lv_at hl 0 rfl) ?_
    refine va_get (D := D) (ci := 9) (v := .ref (κ w).2.2.2) (C := RX9) (T := TX9) (N := 18) hx hb hts iX9_vote_9 hown hN.1 hB.1 1 rfl rfl 8 (by decide) (hts _ mX9_vote_1) (fun _ h9 => h9) rfl dX9_vote_38 ?_
    refine lv_bipush (v := 7) hx hb dX9_vote_41 (by decide) ?_
    refine lv_dup2_11 hx hb dX9_vote_43 rfl rfl ?_
    refine ld_i (v := ((upd (upd g474 19 x476) 20 1) 7)) hx hb hN hB.1 0 rfl (vp_in_nI (n := 7) (N := 45783) (by omega) (by omega)) (by rw [(show (7 : Int32).toNatClampNeg = 7 from nI_clamp (n := 7) (by omega))]) dX9_vote_44 ?_
    refine gn_i (fun x482 => ?_)
    refine lv_iconst (v := 1) hx hb dX9_vote_45 (by decide) ?_
    refine lv_iadd hx hb dX9_vote_46 ?_
    refine gn_i (fun x483 => ?_)
    refine b_i hx hb hN hB 0 rfl (vp_in_nI (n := 7) (N := 45783) (by omega) (by omega)) (.inr ⟨rfl, List.mem_of_getElem? (i := 0) rfl⟩) dX9_vote_47 (fun H locs hB => ?_)
    rw [(show (7 : Int32).toNatClampNeg = 7 from nI_clamp (n := 7) (by omega))] at hB
    have hB : Bx B0 D _ [((κ w).2.2.2, .inl (cs 0, 45783, .inl (upd (upd (upd g474 19 x476) 20 1) 7 x483))), (w, .inr (9, [.int f473_0, .ref f473_1, .int (nI ((κ w).2.2.1)), .int (nI f473_3), .int (nI f473_4), .int f473_5, .int f473_6, .int f473_7, .ref (κ w).2.2.2, .ref f473_9, .ref f473_10, .ref f473_11, .int (nI f473_12), .int f473_13, .int f473_14, .int f473_15, .int f473_16, .ref f473_17]))] [(κ w).2.2.2] _ _ := hB
    have z484 := DOK.sf z481 (k := 7) (by omega) (x := x483)
    refine lv_aload_n hx hb dX9_vote_48 rfl (lv_at hl 0 rfl) ?_
    refine lv_aload_n hx hb dX9_vote_49 rfl (lv_at hl 0 rfl) ?_
    refine va_get (D := D) (ci := 9) (v := .ref (κ w).2.2.2) (C := RX9) (T := TX9) (N := 18) hx hb hts iX9_vote_9 hown hN.1 hB.1 1 rfl rfl 8 (by decide) (hts _ mX9_vote_1) (fun _ h9 => h9) rfl dX9_vote_50 ?_
    refine lv_bipush (v := 18) hx hb dX9_vote_53 (by decide) ?_
    refine ld_i (v := ((upd (upd (upd g474 19 x476) 20 1) 7 x483) 18)) hx hb hN hB.1 0 rfl (vp_in_nI (n := 18) (N := 45783) (by omega) (by omega)) (by rw [(show (18 : Int32).toNatClampNeg = 18 from nI_clamp (n := 18) (by omega))]) dX9_vote_55 ?_
    obtain ⟨n485, hn485, en485⟩ := z484.2.2.2.2.2.2
    refine tp_i (nI n485) en485 ?_
    refine lv_iconst (v := 2) hx hb dX9_vote_56 (by decide) ?_
    refine lv_aload_n hx hb dX9_vote_57 rfl (lv_at hl 0 rfl) ?_
    refine va_get (D := D) (ci := 9) (v := .ref (κ w).2.2.2) (C := RX9) (T := TX9) (N := 18) hx hb hts iX9_vote_9 hown hN.1 hB.1 1 rfl rfl 8 (by decide) (hts _ mX9_vote_1) (fun _ h9 => h9) rfl dX9_vote_58 ?_
    refine lv_bipush (v := 6) hx hb dX9_vote_61 (by decide) ?_
    refine ld_i (v := ((upd (upd (upd g474 19 x476) 20 1) 7 x483) 6)) hx hb hN hB.1 0 rfl (vp_in_nI (n := 6) (N := 45783) (by omega) (by omega)) (by rw [(show (6 : Int32).toNatClampNeg = 6 from nI_clamp (n := 6) (by omega))]) dX9_vote_63 ?_
    refine gn_i (fun x486 => ?_)
    refine lv_iconst (v := 1) hx hb dX9_vote_64 (by decide) ?_
    refine lv_isub hx hb dX9_vote_65 ?_
    refine gn_i (fun x487 => ?_)
    refine lv_aload_n hx hb dX9_vote_66 rfl (lv_at hl 0 rfl) ?_
    refine va_get (D := D) (ci := 9) (v := .ref (κ w).2.2.2) (C := RX9) (T := TX9) (N := 18) hx hb hts iX9_vote_9 hown hN.1 hB.1 1 rfl rfl 8 (by decide) (hts _ mX9_vote_1) (fun _ h9 => h9) rfl dX9_vote_67 ?_
    refine lv_bipush (v := 16) hx hb dX9_vote_70 (by decide) ?_
    refine ld_i (v := ((upd (upd (upd g474 19 x476) 20 1) 7 x483) 16)) hx hb hN hB.1 0 rfl (vp_in_nI (n := 16) (N := 45783) (by omega) (by omega)) (by rw [(show (16 : Int32).toNatClampNeg = 16 from nI_clamp (n := 16) (by omega))]) dX9_vote_72 ?_
    refine gn_i (fun x488 => ?_)
    refine lv_aload_n hx hb dX9_vote_73 rfl (lv_at hl 0 rfl) ?_
    refine va_get (D := D) (ci := 9) (v := .ref (κ w).2.2.2) (C := RX9) (T := TX9) (N := 18) hx hb hts iX9_vote_9 hown hN.1 hB.1 1 rfl rfl 8 (by decide) (hts _ mX9_vote_1) (fun _ h9 => h9) rfl dX9_vote_74 ?_
    refine lv_bipush (v := 15) hx hb dX9_vote_77 (by decide) ?_
    refine ld_i (v := ((upd (upd (upd g474 19 x476) 20 1) 7 x483) 15)) hx hb hN hB.1 0 rfl (vp_in_nI (n := 15) (N := 45783) (by omega) (by omega)) (by rw [(show (15 : Int32).toNatClampNeg = 15 from nI_clamp (n := 15) (by omega))]) dX9_vote_79 ?_
    refine gn_i (fun x489 => ?_)
    have hT : WT B0 D cs T κ _ := hT.close hB ⟨⟨0, _, rfl, ok_24 t473_8.1 ⟨_, rfl, z484⟩⟩, trivial⟩
    have hF : Fr B0 [18] κ H0 _ := hF.close hB (fa_c (by simp [t473_8.2]) fa_n)
    have hL : OkL B0 _ := hB.2.2.2.2.2
    have hP : va_P D vwCl [((κ w).2.2.2, .inl (cs 0, 45783, .inl (upd (upd (upd g474 19 x476) 20 1) 7 x483))), (w, .inr (9, [.int f473_0, .ref f473_1, .int (nI ((κ w).2.2.1)), .int (nI f473_3), .int (nI f473_4), .int f473_5, .int f473_6, .int f473_7, .ref (κ w).2.2.2, .ref f473_9, .ref f473_10, .ref f473_11, .int (nI f473_12), .int f473_13, .int f473_14, .int f473_15, .int f473_16, .ref f473_17]))] _ := hB.1
    refine cv_v (As := [.int (nI n485), .int 2, .int x487, .int x488, .int x489]) (rest := []) (b := w) ⟨hx, hb, hml, hown, hts⟩ (c_X9_plan hT (w := w) hw (n := n485) (x := 2) (y := x487) (z := x488) (u := x489) (by first | omega | decide | assumption)) (cwV 5 hts gX9_vote_X9_plan rfl rfl rfl hdX9_plan_v ⟨Nat.le_of_ble_eq_true rfl, Nat.le_of_ble_eq_true rfl⟩) hN hE hL (rcv10 hN hT hw.1) rfl rfl hl.1 (Nat.le_of_ble_eq_true rfl) dX9_vote_80 (Nat.zero_le _) (Nat.zero_le _) (fun H1 locs hL hqr490 => ?_)
    obtain ⟨hT1, hF1⟩ := hqr490
    have hP : va_P D vwCl [(w, .inr (9, [.int f473_0, .ref f473_1, .int (nI ((κ w).2.2.1)), .int (nI f473_3), .int (nI f473_4), .int f473_5, .int f473_6, .int f473_7, .ref (κ w).2.2.2, .ref f473_9, .ref f473_10, .ref f473_11, .int (nI f473_12), .int f473_13, .int f473_14, .int f473_15, .int f473_16, .ref f473_17]))] _ := hF1.hP (hP.sub [1] rfl) (fa_c ⟨by rw [hw.1]; decide, by rw [hw.2]; first | decide | (simp; done) | (simp; omega)⟩ fa_n)
    have hF := hF.tr (hF1.mono (by simp))
    have hT := hT1
    refine lv_aload_n hx hb dX9_vote_83 rfl (lv_at hl 0 rfl) ?_
    refine lv_iconst (v := 4) hx hb dX9_vote_84 (by decide) ?_
    refine lv_aload_n hx hb dX9_vote_85 rfl (lv_at hl 0 rfl) ?_
    refine va_get (D := D) (ci := 9) (v := .ref (κ w).2.2.2) (C := RX9) (T := TX9) (N := 18) hx hb hts iX9_vote_9 hown hN.1 hP 0 rfl rfl 8 (by decide) (hts _ mX9_vote_1) (fun _ h9 => h9) rfl dX9_vote_86 ?_
    refine lv_bipush (v := 18) hx hb dX9_vote_89 (by decide) ?_
    obtain ⟨hb491, e491, hat491, hk491⟩ := hT.o24 t473_8.1
    obtain ⟨g491, rfl, q491⟩ := hk491
    have hP : va_P D vwCl [((κ w).2.2.2, .inl (cs 0, 45783, .inl g491)), (w, .inr (9, [.int f473_0, .ref f473_1, .int (nI ((κ w).2.2.1)), .int (nI f473_3), .int (nI f473_4), .int f473_5, .int f473_6, .int f473_7, .ref (κ w).2.2.2, .ref f473_9, .ref f473_10, .ref f473_11, .int (nI f473_12), .int f473_13, .int f473_14, .int f473_15, .int f473_16, .ref f473_17]))] _ := va_P.cons hat491 hP
    refine ld_i (v := (g491 18)) hx hb hN hP 0 rfl (vp_in_nI (n := 18) (N := 45783) (by omega) (by omega)) (by rw [(show (18 : Int32).toNatClampNeg = 18 from nI_clamp (n := 18) (by omega))]) dX9_vote_91 ?_
    obtain ⟨n492, hn492, en492⟩ := q491.2.2.2.2.2.2
    refine tp_i (nI n492) en492 ?_
    refine lv_aload_n hx hb dX9_vote_92 rfl (lv_at hl 0 rfl) ?_
    refine va_get (D := D) (ci := 9) (v := .ref (κ w).2.2.2) (C := RX9) (T := TX9) (N := 18) hx hb hts iX9_vote_9 hown hN.1 hP 1 rfl rfl 8 (by decide) (hts _ mX9_vote_1) (fun _ h9 => h9) rfl dX9_vote_93 ?_
    refine lv_bipush (v := 6) hx hb dX9_vote_96 (by decide) ?_
    refine ld_i (v := (g491 6)) hx hb hN hP 0 rfl (vp_in_nI (n := 6) (N := 45783) (by omega) (by omega)) (by rw [(show (6 : Int32).toNatClampNeg = 6 from nI_clamp (n := 6) (by omega))]) dX9_vote_98 ?_
    refine gn_i (fun x493 => ?_)
    refine lv_iconst (v := 1) hx hb dX9_vote_99 (by decide) ?_
    refine lv_isub hx hb dX9_vote_100 ?_
    refine gn_i (fun x494 => ?_)
    refine lv_aload_n hx hb dX9_vote_101 rfl (lv_at hl 0 rfl) ?_
    refine va_get (D := D) (ci := 9) (v := .ref (κ w).2.2.2) (C := RX9) (T := TX9) (N := 18) hx hb hts iX9_vote_9 hown hN.1 hP 1 rfl rfl 8 (by decide) (hts _ mX9_vote_1) (fun _ h9 => h9) rfl dX9_vote_102 ?_
    refine lv_bipush (v := 16) hx hb dX9_vote_105 (by decide) ?_
    refine ld_i (v := (g491 16)) hx hb hN hP 0 rfl (vp_in_nI (n := 16) (N := 45783) (by omega) (by omega)) (by rw [(show (16 : Int32).toNatClampNeg = 16 from nI_clamp (n := 16) (by omega))]) dX9_vote_107 ?_
    refine gn_i (fun x495 => ?_)
    refine lv_aload_n hx hb dX9_vote_108 rfl (lv_at hl 0 rfl) ?_
    refine va_get (D := D) (ci := 9) (v := .ref (κ w).2.2.2) (C := RX9) (T := TX9) (N := 18) hx hb hts iX9_vote_9 hown hN.1 hP 1 rfl rfl 8 (by decide) (hts _ mX9_vote_1) (fun _ h9 => h9) rfl dX9_vote_109 ?_
    refine lv_bipush (v := 15) hx hb dX9_vote_112 (by decide) ?_
    refine ld_i (v := (g491 15)) hx hb hN hP 0 rfl (vp_in_nI (n := 15) (N := 45783) (by omega) (by omega)) (by rw [(show (15 : Int32).toNatClampNeg = 15 from nI_clamp (n := 15) (by omega))]) dX9_vote_114 ?_
    refine gn_i (fun x496 => ?_)
    refine cv_v (As := [.int 4, .int (nI n492), .int x494, .int x495, .int x496]) (rest := []) (b := w) ⟨hx, hb, hml, hown, hts⟩ (c_X9_sendToOthers hT (w := w) hw (x := 4) (n := n492) (y := x494) (z := x495) (u := x496) (by first | omega | decide | assumption) (by first | omega | decide | assumption)) (cwV 5 hts gX9_vote_X9_sendToOthers rfl rfl rfl hdX9_sendToOthers_v ⟨Nat.le_of_ble_eq_true rfl, Nat.le_of_ble_eq_true rfl⟩) hN hE hL (rcv10 hN hT hw.1) rfl rfl hl.1 (Nat.le_of_ble_eq_true rfl) dX9_vote_115 (Nat.zero_le _) (Nat.zero_le _) (fun H1 locs hL hqr497 => ?_)
    obtain ⟨hT1, hF1⟩ := hqr497
    have hP : va_P D vwCl [(w, .inr (9, [.int f473_0, .ref f473_1, .int (nI ((κ w).2.2.1)), .int (nI f473_3), .int (nI f473_4), .int f473_5, .int f473_6, .int f473_7, .ref (κ w).2.2.2, .ref f473_9, .ref f473_10, .ref f473_11, .int (nI f473_12), .int f473_13, .int f473_14, .int f473_15, .int f473_16, .ref f473_17]))] _ := hF1.hP (hP.sub [1] rfl) (fa_c ⟨by rw [hw.1]; decide, by rw [hw.2]; first | decide | (simp; done) | (simp; omega)⟩ fa_n)
    have hF := hF.tr (hF1.mono (by simp))
    have hT := hT1
    exact en_v hx hb hr hlocks hL (Nat.zero_le _) (Nat.zero_le _) dX9_vote_118 (⟨hT, hF⟩)
  · have hT : WT B0 D cs T κ _ := hT.close hB ⟨⟨0, _, rfl, ok_24 t473_8.1 ⟨_, rfl, z477⟩⟩, trivial⟩
    have hF : Fr B0 [18] κ H0 _ := hF.close hB (fa_c (by simp [t473_8.2]) fa_n)
    have hL : OkL B0 _ := hB.2.2.2.2.2
    have hP : va_P D vwCl [((κ w).2.2.2, .inl (cs 0, 45783, .inl (upd g474 19 x476))), (w, .inr (9, [.int f473_0, .ref f473_1, .int (nI ((κ w).2.2.1)), .int (nI f473_3), .int (nI f473_4), .int f473_5, .int f473_6, .int f473_7, .ref (κ w).2.2.2, .ref f473_9, .ref f473_10, .ref f473_11, .int (nI f473_12), .int f473_13, .int f473_14, .int f473_15, .int f473_16, .ref f473_17]))] _ := hB.1
    exact en_v hx hb hr hlocks hL (Nat.zero_le _) (Nat.zero_le _) dX9_vote_28 (⟨hT, hF⟩)
theorem hdX9_isUp_v : yX9_isUp.cls = RX9 ∧ yX9_isUp.cls ≠ "java/lang/invoke/MethodHandle" ∧ yX9_isUp.cls ≠ "java/lang/invoke/VarHandle" ∧ (parseMethodDescriptor yX9_isUp.desc).map (fun d => d.parameters.length) = some 1 := by decide +kernel
theorem mX9_handle_1 : (.fieldLink RX9 18 "OneBeatModel" "data" "[I" : Cond) ∈ wsX9_handle := List.mem_of_getElem? (i := 1) (by decide +kernel)
theorem iX9_handle_9 : ∀ w ∈ wsX90, w ∈ wsX9_handle := fun w h => List.mem_of_mem_drop (List.mem_of_mem_take ((show wsX90 = (wsX9_handle.drop 49).take 18 by decide +kernel) ▸ h))
theorem hdX9_dropPlan_v : yX9_dropPlan.cls = RX9 ∧ yX9_dropPlan.cls ≠ "java/lang/invoke/MethodHandle" ∧ yX9_dropPlan.cls ≠ "java/lang/invoke/VarHandle" ∧ (parseMethodDescriptor yX9_dropPlan.desc).map (fun d => d.parameters.length) = some 1 := by decide +kernel
theorem hdX9_isOpen_v : yX9_isOpen.cls = RX9 ∧ yX9_isOpen.cls ≠ "java/lang/invoke/MethodHandle" ∧ yX9_isOpen.cls ≠ "java/lang/invoke/VarHandle" ∧ (parseMethodDescriptor yX9_isOpen.desc).map (fun d => d.parameters.length) = some 0 := by decide +kernel
theorem hdX9_vote_v : yX9_vote.cls = RX9 ∧ yX9_vote.cls ≠ "java/lang/invoke/MethodHandle" ∧ yX9_vote.cls ≠ "java/lang/invoke/VarHandle" ∧ (parseMethodDescriptor yX9_vote.desc).map (fun d => d.parameters.length) = some 0 := by decide +kernel
set_option maxHeartbeats 4000000 in
set_option maxRecDepth 100000 in
theorem c_X9_handle {l : Launch} {D : va_G} {cs : Nat → ClassId} {B0 T : Nat} {κ : KM} {H0 : Heap} (hT : WT B0 D cs T κ H0) {w : Nat} (hw : T2 κ w 10 12) {x : Int32} {n : Nat} (qn : n < 8) {k : Nat} (qk : k < 8) {y : Int32} {z : Int32} {u : Int32} : KC l yX9_handle wsX9_handle 4 96 0 0 D cs B0 H0 [.ref w, .int x, .int (nI n), .int (nI k), .int y, .int z, .int u] (Qv (fun H => WT B0 D cs T κ H ∧ Fr B0 [18] κ H0 H)) := by
  refine KC.of cX9_handle 7 none (by decide) rfl (Nat.le_of_ble_eq_true rfl) ?_
  intro p e s m below meth c ls hx hb hr hml hown hts hlocks hin hN hE hH0 hl
  have hown : s.vm.findClass RX9 = some m.cls := hown
  have hl : lv_has ls 7 [(0, .ref w), (1, .int x), (2, .int (nI n)), (3, .int (nI k)), (4, .int y), (5, .int z), (6, .int u)] := hl
  have hL : OkL B0 [] := OkL.nil
  have hF : Fr B0 [18] κ H0 H0 := Fr.rf
  refine lv_aload_n hx hb dX9_handle_0 rfl (lv_at hl 0 rfl) ?_
  refine lv_iload_n hx hb dX9_handle_1 rfl (lv_at hl 3 rfl) ?_
  refine cv_i (As := [.int (nI k)]) (rest := []) (b := w) ⟨hx, hb, hml, hown, hts⟩ (c_X9_isUp hT (w := w) hw (n := k) (by first | omega | decide | assumption)) (cwV 1 hts gX9_handle_X9_isUp rfl rfl rfl hdX9_isUp_v ⟨Nat.le_of_ble_eq_true rfl, Nat.le_of_ble_eq_true rfl⟩) hN hE hL (rcv10 hN hT hw.1) rfl rfl hl.1 (Nat.le_of_ble_eq_true rfl) dX9_handle_2 (Nat.zero_le _) (Nat.zero_le _) (fun r498 H1 locs hL hqr498 => ?_)
  obtain ⟨h9, hqr498⟩ := hqr498; replace h9 := h9.symm; subst h9
  rcases hqr498 with rfl | rfl
  · refine lv_if_ne (tgt := 19) hx hb dX9_handle_5 (by decide) (fun c9 => absurd (by decide) c9) (fun _ => ?_)
    refine lv_aload_n hx hb dX9_handle_8 rfl (lv_at hl 0 rfl) ?_
    obtain ⟨hb499, e499, hat499, hk499⟩ := hT.o10 hw.1
    obtain ⟨f499_0, f499_1, f499_3, f499_4, f499_5, f499_6, f499_7, f499_9, f499_10, f499_11, f499_12, f499_13, f499_14, f499_15, f499_16, f499_17, rfl, c499_2, c499_3, c499_4, c499_12, t499_1, t499_8, t499_9, c499_sd, t499_10, t499_11, t499_17⟩ := hk499
    have hP : va_P D vwCl [(w, .inr (9, [.int f499_0, .ref f499_1, .int (nI ((κ w).2.2.1)), .int (nI f499_3), .int (nI f499_4), .int f499_5, .int f499_6, .int f499_7, .ref (κ w).2.2.2, .ref f499_9, .ref f499_10, .ref f499_11, .int (nI f499_12), .int f499_13, .int f499_14, .int f499_15, .int f499_16, .ref f499_17]))] _ := va_P.cons hat499 va_P.nil
    refine va_get (D := D) (ci := 9) (v := .ref (κ w).2.2.2) (C := RX9) (T := TX9) (N := 18) hx hb hts iX9_handle_9 hown hN.1 hP 0 rfl rfl 8 (by decide) (hts _ mX9_handle_1) (fun _ h9 => h9) rfl dX9_handle_9 ?_
    refine lv_iconst (v := 5) hx hb dX9_handle_12 (by decide) ?_
    refine lv_dup2_11 hx hb dX9_handle_13 rfl rfl ?_
    obtain ⟨hb500, e500, hat500, hk500⟩ := hT.o24 t499_8.1
    obtain ⟨g500, rfl, q500⟩ := hk500
    have hP : va_P D vwCl [((κ w).2.2.2, .inl (cs 0, 45783, .inl g500)), (w, .inr (9, [.int f499_0, .ref f499_1, .int (nI ((κ w).2.2.1)), .int (nI f499_3), .int (nI f499_4), .int f499_5, .int f499_6, .int f499_7, .ref (κ w).2.2.2, .ref f499_9, .ref f499_10, .ref f499_11, .int (nI f499_12), .int f499_13, .int f499_14, .int f499_15, .int f499_16, .ref f499_17]))] _ := va_P.cons hat500 hP
    refine ld_i (v := (g500 5)) hx hb hN hP 0 rfl (vp_in_nI (n := 5) (N := 45783) (by omega) (by omega)) (by rw [(show (5 : Int32).toNatClampNeg = 5 from nI_clamp (n := 5) (by omega))]) dX9_handle_14 ?_
    refine gn_i (fun x501 => ?_)
    refine lv_iconst (v := 1) hx hb dX9_handle_15 (by decide) ?_
    refine lv_iadd hx hb dX9_handle_16 ?_
    refine gn_i (fun x502 => ?_)
    have hB : Bx B0 D _ [((κ w).2.2.2, .inl (cs 0, 45783, .inl g500)), (w, .inr (9, [.int f499_0, .ref f499_1, .int (nI ((κ w).2.2.1)), .int (nI f499_3), .int (nI f499_4), .int f499_5, .int f499_6, .int f499_7, .ref (κ w).2.2.2, .ref f499_9, .ref f499_10, .ref f499_11, .int (nI f499_12), .int f499_13, .int f499_14, .int f499_15, .int f499_16, .ref f499_17]))] [] _ _ := Bx.of (fun a => (κ a).1) hL hP (fa_c hb500 (fa_c hb499 fa_n)) (by simp only [List.map_cons, List.map_nil, t499_8.1, hw.1]; decide)
    refine b_i hx hb hN hB 0 rfl (vp_in_nI (n := 5) (N := 45783) (by omega) (by omega)) (.inl rfl) dX9_handle_17 (fun H locs hB => ?_)
    rw [(show (5 : Int32).toNatClampNeg = 5 from nI_clamp (n := 5) (by omega))] at hB
    have hB : Bx B0 D _ [((κ w).2.2.2, .inl (cs 0, 45783, .inl (upd g500 5 x502))), (w, .inr (9, [.int f499_0, .ref f499_1, .int (nI ((κ w).2.2.1)), .int (nI f499_3), .int (nI f499_4), .int f499_5, .int f499_6, .int f499_7, .ref (κ w).2.2.2, .ref f499_9, .ref f499_10, .ref f499_11, .int (nI f499_12), .int f499_13, .int f499_14, .int f499_15, .int f499_16, .ref f499_17]))] [(κ w).2.2.2] _ _ := hB
    have z503 := DOK.sf q500 (k := 5) (by omega) (x := x502)
    have hT : WT B0 D cs T κ _ := hT.close hB ⟨⟨0, _, rfl, ok_24 t499_8.1 ⟨_, rfl, z503⟩⟩, trivial⟩
    have hF : Fr B0 [18] κ H0 _ := hF.close hB (fa_c (by simp [t499_8.2]) fa_n)
    have hL : OkL B0 _ := hB.2.2.2.2.2
    have hP : va_P D vwCl [((κ w).2.2.2, .inl (cs 0, 45783, .inl (upd g500 5 x502))), (w, .inr (9, [.int f499_0, .ref f499_1, .int (nI ((κ w).2.2.1)), .int (nI f499_3), .int (nI f499_4), .int f499_5, .int f499_6, .int f499_7, .ref (κ w).2.2.2, .ref f499_9, .ref f499_10, .ref f499_11, .int (nI f499_12), .int f499_13, .int f499_14, .int f499_15, .int f499_16, .ref f499_17]))] _ := hB.1
    exact en_v hx hb hr hlocks hL (Nat.zero_le _) (Nat.zero_le _) dX9_handle_18 (⟨hT, hF⟩)
  · refine lv_if_ne (tgt := 19) hx hb dX9_handle_5 (by decide) (fun _ => ?_) (fun c9 => absurd c9 (by decide))
    refine lv_iload_n hx hb dX9_handle_19 rfl (lv_at hl 1 rfl) ?_
    by_cases c504 : (x : Int32).toInt < (0 : Int) ∨ (4 : Int) < (x : Int32).toInt
    · refine lv_tableOut (tgt := 198) hx hb dX9_handle_20 c504 (by decide) ?_
      refine lv_aload_n hx hb dX9_handle_198 rfl (lv_at hl 0 rfl) ?_
      refine lv_iload_n hx hb dX9_handle_199 rfl (lv_at hl 3 rfl) ?_
      refine lv_iconst (v := 5) hx hb dX9_handle_200 (by decide) ?_
      refine cv_i (As := [.int (nI k), .int 5]) (rest := []) (b := w) ⟨hx, hb, hml, hown, hts⟩ (c_X9_of hT (w := w) hw (n := k) (k := 5) (by first | omega | decide | assumption) (by first | omega | decide | assumption)) (cwV 2 hts gX9_handle_X9_of rfl rfl rfl hdX9_of_v ⟨Nat.le_of_ble_eq_true rfl, Nat.le_of_ble_eq_true rfl⟩) hN hE hL (rcv10 hN hT hw.1) rfl rfl hl.1 (Nat.le_of_ble_eq_true rfl) dX9_handle_201 (Nat.zero_le _) (Nat.zero_le _) (fun r505 H1 locs hL hqr505 => ?_)
      obtain rfl := hqr505.symm
      refine lv_iconst (v := 1) hx hb dX9_handle_204 (by decide) ?_
      refine lv_icmp_ne (tgt := 225) hx hb dX9_handle_205 (by decide) (fun c506 => ?_) (fun c506 => ?_)
      · exact en_v hx hb hr hlocks hL (Nat.zero_le _) (Nat.zero_le _) dX9_handle_225 (⟨hT, hF⟩)
      · refine lv_aload_n hx hb dX9_handle_208 rfl (lv_at hl 0 rfl) ?_
        refine lv_iload_n hx hb dX9_handle_209 rfl (lv_at hl 3 rfl) ?_
        refine lv_bipush (v := 6) hx hb dX9_handle_210 (by decide) ?_
        refine cv_i (As := [.int (nI k), .int 6]) (rest := []) (b := w) ⟨hx, hb, hml, hown, hts⟩ (c_X9_of hT (w := w) hw (n := k) (k := 6) (by first | omega | decide | assumption) (by first | omega | decide | assumption)) (cwV 2 hts gX9_handle_X9_of rfl rfl rfl hdX9_of_v ⟨Nat.le_of_ble_eq_true rfl, Nat.le_of_ble_eq_true rfl⟩) hN hE hL (rcv10 hN hT hw.1) rfl rfl hl.1 (Nat.le_of_ble_eq_true rfl) dX9_handle_212 (Nat.zero_le _) (Nat.zero_le _) (fun r507 H1 locs hL hqr507 => ?_)
        obtain rfl := hqr507.symm
        refine lv_iload hx hb dX9_handle_215 (lv_at hl 4 rfl) ?_
        refine lv_icmp_ne (tgt := 225) hx hb dX9_handle_217 (by decide) (fun c508 => ?_) (fun c508 => ?_)
        · exact en_v hx hb hr hlocks hL (Nat.zero_le _) (Nat.zero_le _) dX9_handle_225 (⟨hT, hF⟩)
        · refine lv_aload_n hx hb dX9_handle_220 rfl (lv_at hl 0 rfl) ?_
          refine lv_iload_n hx hb dX9_handle_221 rfl (lv_at hl 3 rfl) ?_
          refine cv_v (As := [.int (nI k)]) (rest := []) (b := w) ⟨hx, hb, hml, hown, hts⟩ (c_X9_dropPlan hT (w := w) hw (n := k) (by first | omega | decide | assumption)) (cwV 1 hts gX9_handle_X9_dropPlan rfl rfl rfl hdX9_dropPlan_v ⟨Nat.le_of_ble_eq_true rfl, Nat.le_of_ble_eq_true rfl⟩) hN hE hL (rcv10 hN hT hw.1) rfl rfl hl.1 (Nat.le_of_ble_eq_true rfl) dX9_handle_222 (Nat.zero_le _) (Nat.zero_le _) (fun H1 locs hL hqr509 => ?_)
          obtain ⟨hT1, hF1⟩ := hqr509
          have hF := hF.tr (hF1.mono (by simp))
          have hT := hT1
          exact en_v hx hb hr hlocks hL (Nat.zero_le _) (Nat.zero_le _) dX9_handle_225 (⟨hT, hF⟩)
    · rcases sw_0_4 c504 with rfl | rfl | rfl | rfl | rfl
      · refine lv_tableIn (tgt := 56) (off := 36) hx hb dX9_handle_20 (by decide) (by decide) (by decide) (by decide) ?_
        refine lv_aload_n hx hb dX9_handle_56 rfl (lv_at hl 0 rfl) ?_
        refine lv_iconst (v := 1) hx hb dX9_handle_57 (by decide) ?_
        refine lv_iload_n hx hb dX9_handle_58 rfl (lv_at hl 3 rfl) ?_
        refine lv_iload_n hx hb dX9_handle_59 rfl (lv_at hl 2 rfl) ?_
        refine lv_iconst (v := (-1)) hx hb dX9_handle_60 (by decide) ?_
        refine lv_aload_n hx hb dX9_handle_61 rfl (lv_at hl 0 rfl) ?_
        refine lv_iload_n hx hb dX9_handle_62 rfl (lv_at hl 3 rfl) ?_
        refine cv_i (As := [.int (nI k)]) (rest := [.int (-1), .int (nI n), .int (nI k), .int 1, .ref w]) (b := w) ⟨hx, hb, hml, hown, hts⟩ (c_X9_clock hT (w := w) hw (n := k) (by first | omega | decide | assumption)) (cwV 1 hts gX9_handle_X9_clock rfl rfl rfl hdX9_clock_v ⟨Nat.le_of_ble_eq_true rfl, Nat.le_of_ble_eq_true rfl⟩) hN hE hL (rcv10 hN hT hw.1) rfl rfl hl.1 (Nat.le_of_ble_eq_true rfl) dX9_handle_63 (Nat.zero_le _) (Nat.zero_le _) (fun r510 H1 locs hL hqr510 => ?_)
        obtain rfl := hqr510.symm
        refine lv_iload hx hb dX9_handle_66 (lv_at hl 5 rfl) ?_
        refine cv_i (As := [.int 1, .int (nI k), .int (nI n), .int (-1), .int r510, .int z]) (rest := []) (b := w) ⟨hx, hb, hml, hown, hts⟩ (c_X9_send hT (w := w) hw (x := 1) (n := k) (k := n) (y := (-1)) (z := r510) (u := z) (by first | omega | decide | assumption) (by first | omega | decide | assumption) (by first | omega | decide | assumption)) (cwV 6 hts gX9_handle_X9_send rfl rfl rfl hdX9_send_v ⟨Nat.le_of_ble_eq_true rfl, Nat.le_of_ble_eq_true rfl⟩) hN hE hL (rcv10 hN hT hw.1) rfl rfl hl.1 (Nat.le_of_ble_eq_true rfl) dX9_handle_68 (Nat.zero_le _) (Nat.zero_le _) (fun r511 H1 locs hL hqr511 => ?_)
        obtain ⟨hT1, hF1, hqr511⟩ := hqr511
        have hF := hF.tr (hF1.mono (by simp))
        have hT := hT1
        rcases hqr511 with rfl | rfl
        · refine lv_pop hx hb dX9_handle_71 rfl ?_
          refine lv_goto (tgt := 225) hx hb dX9_handle_72 (by decide) ?_
          exact en_v hx hb hr hlocks hL (Nat.zero_le _) (Nat.zero_le _) dX9_handle_225 (⟨hT, hF⟩)
        · refine lv_pop hx hb dX9_handle_71 rfl ?_
          refine lv_goto (tgt := 225) hx hb dX9_handle_72 (by decide) ?_
          exact en_v hx hb hr hlocks hL (Nat.zero_le _) (Nat.zero_le _) dX9_handle_225 (⟨hT, hF⟩)
      · refine lv_tableIn (tgt := 75) (off := 55) hx hb dX9_handle_20 (by decide) (by decide) (by decide) (by decide) ?_
        refine lv_aload_n hx hb dX9_handle_75 rfl (lv_at hl 0 rfl) ?_
        refine lv_iload_n hx hb dX9_handle_76 rfl (lv_at hl 3 rfl) ?_
        refine lv_iconst (v := 3) hx hb dX9_handle_77 (by decide) ?_
        refine lv_iload_n hx hb dX9_handle_78 rfl (lv_at hl 3 rfl) ?_
        refine lv_aload_n hx hb dX9_handle_79 rfl (lv_at hl 0 rfl) ?_
        obtain ⟨hb512, e512, hat512, hk512⟩ := hT.o10 hw.1
        obtain ⟨f512_0, f512_1, f512_3, f512_4, f512_5, f512_6, f512_7, f512_9, f512_10, f512_11, f512_12, f512_13, f512_14, f512_15, f512_16, f512_17, rfl, c512_2, c512_3, c512_4, c512_12, t512_1, t512_8, t512_9, c512_sd, t512_10, t512_11, t512_17⟩ := hk512
        have hP : va_P D vwCl [(w, .inr (9, [.int f512_0, .ref f512_1, .int (nI ((κ w).2.2.1)), .int (nI f512_3), .int (nI f512_4), .int f512_5, .int f512_6, .int f512_7, .ref (κ w).2.2.2, .ref f512_9, .ref f512_10, .ref f512_11, .int (nI f512_12), .int f512_13, .int f512_14, .int f512_15, .int f512_16, .ref f512_17]))] _ := va_P.cons hat512 va_P.nil
        refine va_get (D := D) (ci := 9) (v := .ref (κ w).2.2.2) (C := RX9) (T := TX9) (N := 18) hx hb hts iX9_handle_9 hown hN.1 hP 0 rfl rfl 8 (by decide) (hts _ mX9_handle_1) (fun _ h9 => h9) rfl dX9_handle_80 ?_
        refine lv_iconst (v := 2) hx hb dX9_handle_83 (by decide) ?_
        obtain ⟨hb513, e513, hat513, hk513⟩ := hT.o24 t512_8.1
        obtain ⟨g513, rfl, q513⟩ := hk513
        have hP : va_P D vwCl [((κ w).2.2.2, .inl (cs 0, 45783, .inl g513)), (w, .inr (9, [.int f512_0, .ref f512_1, .int (nI ((κ w).2.2.1)), .int (nI f512_3), .int (nI f512_4), .int f512_5, .int f512_6, .int f512_7, .ref (κ w).2.2.2, .ref f512_9, .ref f512_10, .ref f512_11, .int (nI f512_12), .int f512_13, .int f512_14, .int f512_15, .int f512_16, .ref f512_17]))] _ := va_P.cons hat513 hP
        refine ld_i (v := (g513 2)) hx hb hN hP 0 rfl (vp_in_nI (n := 2) (N := 45783) (by omega) (by omega)) (by rw [(show (2 : Int32).toNatClampNeg = 2 from nI_clamp (n := 2) (by omega))]) dX9_handle_84 ?_
        obtain ⟨n514, hn514, en514⟩ := q513.2.2.1
        refine tp_i (nI n514) en514 ?_
        refine lv_icmp_ne (tgt := 92) hx hb dX9_handle_85 (by decide) (fun c515 => ?_) (fun c515 => ?_)
        · have c515 : ¬ k = n514 := fun h9 => c515 ((nI_eq (a := k) (b := n514) (by omega) (by omega)).mpr h9)
          refine lv_iload hx hb dX9_handle_92 (lv_at hl 5 rfl) ?_
          refine lv_aload_n hx hb dX9_handle_94 rfl (lv_at hl 0 rfl) ?_
          refine lv_iload_n hx hb dX9_handle_95 rfl (lv_at hl 3 rfl) ?_
          refine cv_i (As := [.int (nI k)]) (rest := [.int z, .int 3, .int (nI k), .ref w]) (b := w) ⟨hx, hb, hml, hown, hts⟩ (c_X9_clock hT (w := w) hw (n := k) (by first | omega | decide | assumption)) (cwV 1 hts gX9_handle_X9_clock rfl rfl rfl hdX9_clock_v ⟨Nat.le_of_ble_eq_true rfl, Nat.le_of_ble_eq_true rfl⟩) hN hE hL (rcv10 hN hT hw.1) rfl rfl hl.1 (Nat.le_of_ble_eq_true rfl) dX9_handle_96 (Nat.zero_le _) (Nat.zero_le _) (fun r516 H1 locs hL hqr516 => ?_)
          obtain rfl := hqr516.symm
          refine lv_iload hx hb dX9_handle_99 (lv_at hl 6 rfl) ?_
          refine lv_isub hx hb dX9_handle_101 ?_
          refine gn_i (fun x517 => ?_)
          refine lv_iconst (v := 2) hx hb dX9_handle_102 (by decide) ?_
          refine lv_idiv hx hb dX9_handle_103 (by decide) ?_
          refine gn_i (fun x518 => ?_)
          refine lv_iadd hx hb dX9_handle_104 ?_
          refine gn_i (fun x519 => ?_)
          refine lv_aload_n hx hb dX9_handle_105 rfl (lv_at hl 0 rfl) ?_
          refine lv_iload_n hx hb dX9_handle_106 rfl (lv_at hl 3 rfl) ?_
          refine cv_i (As := [.int (nI k)]) (rest := [.int x519, .int 3, .int (nI k), .ref w]) (b := w) ⟨hx, hb, hml, hown, hts⟩ (c_X9_clock hT (w := w) hw (n := k) (by first | omega | decide | assumption)) (cwV 1 hts gX9_handle_X9_clock rfl rfl rfl hdX9_clock_v ⟨Nat.le_of_ble_eq_true rfl, Nat.le_of_ble_eq_true rfl⟩) hN hE hL (rcv10 hN hT hw.1) rfl rfl hl.1 (Nat.le_of_ble_eq_true rfl) dX9_handle_107 (Nat.zero_le _) (Nat.zero_le _) (fun r520 H1 locs hL hqr520 => ?_)
          obtain rfl := hqr520.symm
          refine lv_isub hx hb dX9_handle_110 ?_
          refine gn_i (fun x521 => ?_)
          refine cv_v (As := [.int (nI k), .int 3, .int x521]) (rest := []) (b := w) ⟨hx, hb, hml, hown, hts⟩ (c_X9_set hT (w := w) hw (n := k) (k := 3) (x := x521) (by first | omega | decide | assumption) (by first | omega | decide | assumption)) (cwV 3 hts gX9_handle_X9_set rfl rfl rfl hdX9_set_v ⟨Nat.le_of_ble_eq_true rfl, Nat.le_of_ble_eq_true rfl⟩) hN hE hL (rcv10 hN hT hw.1) rfl rfl hl.1 (Nat.le_of_ble_eq_true rfl) dX9_handle_111 (Nat.zero_le _) (Nat.zero_le _) (fun H1 locs hL hqr522 => ?_)
          obtain ⟨hT1, hF1⟩ := hqr522
          have hP : va_P D vwCl [(w, .inr (9, [.int f512_0, .ref f512_1, .int (nI ((κ w).2.2.1)), .int (nI f512_3), .int (nI f512_4), .int f512_5, .int f512_6, .int f512_7, .ref (κ w).2.2.2, .ref f512_9, .ref f512_10, .ref f512_11, .int (nI f512_12), .int f512_13, .int f512_14, .int f512_15, .int f512_16, .ref f512_17]))] _ := hF1.hP (hP.sub [1] rfl) (fa_c ⟨by rw [hw.1]; decide, by rw [hw.2]; first | decide | (simp; done) | (simp; omega)⟩ fa_n)
          have hF := hF.tr (hF1.mono (by simp))
          have hT := hT1
          refine lv_goto (tgt := 225) hx hb dX9_handle_114 (by decide) ?_
          exact en_v hx hb hr hlocks hL (Nat.zero_le _) (Nat.zero_le _) dX9_handle_225 (⟨hT, hF⟩)
        · have c515 : k = n514 := (nI_eq (a := k) (b := n514) (by omega) (by omega)).mp c515
          refine lv_iconst (v := 0) hx hb dX9_handle_88 (by decide) ?_
          refine lv_goto (tgt := 111) hx hb dX9_handle_89 (by decide) ?_
          refine cv_v (As := [.int (nI k), .int 3, .int 0]) (rest := []) (b := w) ⟨hx, hb, hml, hown, hts⟩ (c_X9_set hT (w := w) hw (n := k) (k := 3) (x := 0) (by first | omega | decide | assumption) (by first | omega | decide | assumption)) (cwV 3 hts gX9_handle_X9_set rfl rfl rfl hdX9_set_v ⟨Nat.le_of_ble_eq_true rfl, Nat.le_of_ble_eq_true rfl⟩) hN hE hL (rcv10 hN hT hw.1) rfl rfl hl.1 (Nat.le_of_ble_eq_true rfl) dX9_handle_111 (Nat.zero_le _) (Nat.zero_le _) (fun H1 locs hL hqr523 => ?_)
          obtain ⟨hT1, hF1⟩ := hqr523
          have hP : va_P D vwCl [(w, .inr (9, [.int f512_0, .ref f512_1, .int (nI ((κ w).2.2.1)), .int (nI f512_3), .int (nI f512_4), .int f512_5, .int f512_6, .int f512_7, .ref (κ w).2.2.2, .ref f512_9, .ref f512_10, .ref f512_11, .int (nI f512_12), .int f512_13, .int f512_14, .int f512_15, .int f512_16, .ref f512_17]))] _ := hF1.hP (hP.sub [1] rfl) (fa_c ⟨by rw [hw.1]; decide, by rw [hw.2]; first | decide | (simp; done) | (simp; omega)⟩ fa_n)
          have hF := hF.tr (hF1.mono (by simp))
          have hT := hT1
          refine lv_goto (tgt := 225) hx hb dX9_handle_114 (by decide) ?_
          exact en_v hx hb hr hlocks hL (Nat.zero_le _) (Nat.zero_le _) dX9_handle_225 (⟨hT, hF⟩)
      · refine lv_tableIn (tgt := 117) (off := 97) hx hb dX9_handle_20 (by decide) (by decide) (by decide) (by decide) ?_
        refine lv_aload_n hx hb dX9_handle_117 rfl (lv_at hl 0 rfl) ?_
        refine lv_iload_n hx hb dX9_handle_118 rfl (lv_at hl 3 rfl) ?_
        refine lv_iconst (v := 1) hx hb dX9_handle_119 (by decide) ?_
        refine lv_iload hx hb dX9_handle_120 (lv_at hl 4 rfl) ?_
        refine lv_iload hx hb dX9_handle_122 (lv_at hl 5 rfl) ?_
        refine lv_iload hx hb dX9_handle_124 (lv_at hl 6 rfl) ?_
        refine cv_v (As := [.int (nI k), .int 1, .int y, .int z, .int u]) (rest := []) (b := w) ⟨hx, hb, hml, hown, hts⟩ (c_X9_plan hT (w := w) hw (n := k) (x := 1) (y := y) (z := z) (u := u) (by first | omega | decide | assumption)) (cwV 5 hts gX9_handle_X9_plan rfl rfl rfl hdX9_plan_v ⟨Nat.le_of_ble_eq_true rfl, Nat.le_of_ble_eq_true rfl⟩) hN hE hL (rcv10 hN hT hw.1) rfl rfl hl.1 (Nat.le_of_ble_eq_true rfl) dX9_handle_126 (Nat.zero_le _) (Nat.zero_le _) (fun H1 locs hL hqr524 => ?_)
        obtain ⟨hT1, hF1⟩ := hqr524
        have hF := hF.tr (hF1.mono (by simp))
        have hT := hT1
        refine lv_aload_n hx hb dX9_handle_129 rfl (lv_at hl 0 rfl) ?_
        refine lv_iconst (v := 3) hx hb dX9_handle_130 (by decide) ?_
        refine lv_iload_n hx hb dX9_handle_131 rfl (lv_at hl 3 rfl) ?_
        refine lv_iload_n hx hb dX9_handle_132 rfl (lv_at hl 2 rfl) ?_
        refine lv_iload hx hb dX9_handle_133 (lv_at hl 4 rfl) ?_
        refine lv_iconst (v := 0) hx hb dX9_handle_135 (by decide) ?_
        refine lv_iconst (v := 0) hx hb dX9_handle_136 (by decide) ?_
        refine cv_i (As := [.int 3, .int (nI k), .int (nI n), .int y, .int 0, .int 0]) (rest := []) (b := w) ⟨hx, hb, hml, hown, hts⟩ (c_X9_send hT (w := w) hw (x := 3) (n := k) (k := n) (y := y) (z := 0) (u := 0) (by first | omega | decide | assumption) (by first | omega | decide | assumption) (by first | omega | decide | assumption)) (cwV 6 hts gX9_handle_X9_send rfl rfl rfl hdX9_send_v ⟨Nat.le_of_ble_eq_true rfl, Nat.le_of_ble_eq_true rfl⟩) hN hE hL (rcv10 hN hT hw.1) rfl rfl hl.1 (Nat.le_of_ble_eq_true rfl) dX9_handle_137 (Nat.zero_le _) (Nat.zero_le _) (fun r525 H1 locs hL hqr525 => ?_)
        obtain ⟨hT1, hF1, hqr525⟩ := hqr525
        have hF := hF.tr (hF1.mono (by simp))
        have hT := hT1
        rcases hqr525 with rfl | rfl
        · refine lv_pop hx hb dX9_handle_140 rfl ?_
          refine lv_goto (tgt := 225) hx hb dX9_handle_141 (by decide) ?_
          exact en_v hx hb hr hlocks hL (Nat.zero_le _) (Nat.zero_le _) dX9_handle_225 (⟨hT, hF⟩)
        · refine lv_pop hx hb dX9_handle_140 rfl ?_
          refine lv_goto (tgt := 225) hx hb dX9_handle_141 (by decide) ?_
          exact en_v hx hb hr hlocks hL (Nat.zero_le _) (Nat.zero_le _) dX9_handle_225 (⟨hT, hF⟩)
      · refine lv_tableIn (tgt := 144) (off := 124) hx hb dX9_handle_20 (by decide) (by decide) (by decide) (by decide) ?_
        refine lv_aload_n hx hb dX9_handle_144 rfl (lv_at hl 0 rfl) ?_
        refine cv_i (As := []) (rest := []) (b := w) ⟨hx, hb, hml, hown, hts⟩ (c_X9_isOpen hT (w := w) hw) (cwV 0 hts gX9_handle_X9_isOpen rfl rfl rfl hdX9_isOpen_v ⟨Nat.le_of_ble_eq_true rfl, Nat.le_of_ble_eq_true rfl⟩) hN hE hL (rcv10 hN hT hw.1) rfl rfl hl.1 (Nat.le_of_ble_eq_true rfl) dX9_handle_145 (Nat.zero_le _) (Nat.zero_le _) (fun r526 H1 locs hL hqr526 => ?_)
        obtain ⟨h9, hqr526⟩ := hqr526; replace h9 := h9.symm; subst h9
        rcases hqr526 with rfl | rfl
        · refine lv_if_eq (tgt := 225) hx hb dX9_handle_148 (by decide) (fun _ => ?_) (fun c9 => absurd (by decide) c9)
          exact en_v hx hb hr hlocks hL (Nat.zero_le _) (Nat.zero_le _) dX9_handle_225 (⟨hT, hF⟩)
        · refine lv_if_eq (tgt := 225) hx hb dX9_handle_148 (by decide) (fun c9 => absurd c9 (by decide)) (fun _ => ?_)
          refine lv_iload hx hb dX9_handle_151 (lv_at hl 4 rfl) ?_
          refine lv_aload_n hx hb dX9_handle_153 rfl (lv_at hl 0 rfl) ?_
          obtain ⟨hb527, e527, hat527, hk527⟩ := hT.o10 hw.1
          obtain ⟨f527_0, f527_1, f527_3, f527_4, f527_5, f527_6, f527_7, f527_9, f527_10, f527_11, f527_12, f527_13, f527_14, f527_15, f527_16, f527_17, rfl, c527_2, c527_3, c527_4, c527_12, t527_1, t527_8, t527_9, c527_sd, t527_10, t527_11, t527_17⟩ := hk527
          have hP : va_P D vwCl [(w, .inr (9, [.int f527_0, .ref f527_1, .int (nI ((κ w).2.2.1)), .int (nI f527_3), .int (nI f527_4), .int f527_5, .int f527_6, .int f527_7, .ref (κ w).2.2.2, .ref f527_9, .ref f527_10, .ref f527_11, .int (nI f527_12), .int f527_13, .int f527_14, .int f527_15, .int f527_16, .ref f527_17]))] _ := va_P.cons hat527 va_P.nil
          refine va_get (D := D) (ci := 9) (v := .ref (κ w).2.2.2) (C := RX9) (T := TX9) (N := 18) hx hb hts iX9_handle_9 hown hN.1 hP 0 rfl rfl 8 (by decide) (hts _ mX9_handle_1) (fun _ h9 => h9) rfl dX9_handle_154 ?_
          refine lv_bipush (v := 6) hx hb dX9_handle_157 (by decide) ?_
          obtain ⟨hb528, e528, hat528, hk528⟩ := hT.o24 t527_8.1
          obtain ⟨g528, rfl, q528⟩ := hk528
          have hP : va_P D vwCl [((κ w).2.2.2, .inl (cs 0, 45783, .inl g528)), (w, .inr (9, [.int f527_0, .ref f527_1, .int (nI ((κ w).2.2.1)), .int (nI f527_3), .int (nI f527_4), .int f527_5, .int f527_6, .int f527_7, .ref (κ w).2.2.2, .ref f527_9, .ref f527_10, .ref f527_11, .int (nI f527_12), .int f527_13, .int f527_14, .int f527_15, .int f527_16, .ref f527_17]))] _ := va_P.cons hat528 hP
          refine ld_i (v := (g528 6)) hx hb hN hP 0 rfl (vp_in_nI (n := 6) (N := 45783) (by omega) (by omega)) (by rw [(show (6 : Int32).toNatClampNeg = 6 from nI_clamp (n := 6) (by omega))]) dX9_handle_159 ?_
          refine gn_i (fun x529 => ?_)
          refine lv_iconst (v := 1) hx hb dX9_handle_160 (by decide) ?_
          refine lv_isub hx hb dX9_handle_161 ?_
          refine gn_i (fun x530 => ?_)
          refine lv_icmp_ne (tgt := 225) hx hb dX9_handle_162 (by decide) (fun c531 => ?_) (fun c531 => ?_)
          · exact en_v hx hb hr hlocks hL (Nat.zero_le _) (Nat.zero_le _) dX9_handle_225 (⟨hT, hF⟩)
          · refine lv_iload_n hx hb dX9_handle_165 rfl (lv_at hl 3 rfl) ?_
            refine lv_aload_n hx hb dX9_handle_166 rfl (lv_at hl 0 rfl) ?_
            refine va_get (D := D) (ci := 9) (v := .ref (κ w).2.2.2) (C := RX9) (T := TX9) (N := 18) hx hb hts iX9_handle_9 hown hN.1 hP 1 rfl rfl 8 (by decide) (hts _ mX9_handle_1) (fun _ h9 => h9) rfl dX9_handle_167 ?_
            refine lv_bipush (v := 18) hx hb dX9_handle_170 (by decide) ?_
            refine ld_i (v := (g528 18)) hx hb hN hP 0 rfl (vp_in_nI (n := 18) (N := 45783) (by omega) (by omega)) (by rw [(show (18 : Int32).toNatClampNeg = 18 from nI_clamp (n := 18) (by omega))]) dX9_handle_172 ?_
            obtain ⟨n532, hn532, en532⟩ := q528.2.2.2.2.2.2
            refine tp_i (nI n532) en532 ?_
            refine lv_icmp_ne (tgt := 225) hx hb dX9_handle_173 (by decide) (fun c533 => ?_) (fun c533 => ?_)
            · have c533 : ¬ k = n532 := fun h9 => c533 ((nI_eq (a := k) (b := n532) (by omega) (by omega)).mpr h9)
              exact en_v hx hb hr hlocks hL (Nat.zero_le _) (Nat.zero_le _) dX9_handle_225 (⟨hT, hF⟩)
            · have c533 : k = n532 := (nI_eq (a := k) (b := n532) (by omega) (by omega)).mp c533
              refine lv_aload_n hx hb dX9_handle_176 rfl (lv_at hl 0 rfl) ?_
              refine cv_v (As := []) (rest := []) (b := w) ⟨hx, hb, hml, hown, hts⟩ (c_X9_vote hT (w := w) hw) (cwV 0 hts gX9_handle_X9_vote rfl rfl rfl hdX9_vote_v ⟨Nat.le_of_ble_eq_true rfl, Nat.le_of_ble_eq_true rfl⟩) hN hE hL (rcv10 hN hT hw.1) rfl rfl hl.1 (Nat.le_of_ble_eq_true rfl) dX9_handle_177 (Nat.zero_le _) (Nat.zero_le _) (fun H1 locs hL hqr534 => ?_)
              obtain ⟨hT1, hF1⟩ := hqr534
              have hP : va_P D vwCl [(w, .inr (9, [.int f527_0, .ref f527_1, .int (nI ((κ w).2.2.1)), .int (nI f527_3), .int (nI f527_4), .int f527_5, .int f527_6, .int f527_7, .ref (κ w).2.2.2, .ref f527_9, .ref f527_10, .ref f527_11, .int (nI f527_12), .int f527_13, .int f527_14, .int f527_15, .int f527_16, .ref f527_17]))] _ := hF1.hP (hP.sub [1] rfl) (fa_c ⟨by rw [hw.1]; decide, by rw [hw.2]; first | decide | (simp; done) | (simp; omega)⟩ fa_n)
              have hF := hF.tr (hF1.mono (by simp))
              have hT := hT1
              refine lv_goto (tgt := 225) hx hb dX9_handle_180 (by decide) ?_
              exact en_v hx hb hr hlocks hL (Nat.zero_le _) (Nat.zero_le _) dX9_handle_225 (⟨hT, hF⟩)
      · refine lv_tableIn (tgt := 183) (off := 163) hx hb dX9_handle_20 (by decide) (by decide) (by decide) (by decide) ?_
        refine lv_aload_n hx hb dX9_handle_183 rfl (lv_at hl 0 rfl) ?_
        refine lv_iload_n hx hb dX9_handle_184 rfl (lv_at hl 3 rfl) ?_
        refine lv_iconst (v := 2) hx hb dX9_handle_185 (by decide) ?_
        refine lv_iload hx hb dX9_handle_186 (lv_at hl 4 rfl) ?_
        refine lv_iload hx hb dX9_handle_188 (lv_at hl 5 rfl) ?_
        refine lv_iload hx hb dX9_handle_190 (lv_at hl 6 rfl) ?_
        refine cv_v (As := [.int (nI k), .int 2, .int y, .int z, .int u]) (rest := []) (b := w) ⟨hx, hb, hml, hown, hts⟩ (c_X9_plan hT (w := w) hw (n := k) (x := 2) (y := y) (z := z) (u := u) (by first | omega | decide | assumption)) (cwV 5 hts gX9_handle_X9_plan rfl rfl rfl hdX9_plan_v ⟨Nat.le_of_ble_eq_true rfl, Nat.le_of_ble_eq_true rfl⟩) hN hE hL (rcv10 hN hT hw.1) rfl rfl hl.1 (Nat.le_of_ble_eq_true rfl) dX9_handle_192 (Nat.zero_le _) (Nat.zero_le _) (fun H1 locs hL hqr535 => ?_)
        obtain ⟨hT1, hF1⟩ := hqr535
        have hF := hF.tr (hF1.mono (by simp))
        have hT := hT1
        refine lv_goto (tgt := 225) hx hb dX9_handle_195 (by decide) ?_
        exact en_v hx hb hr hlocks hL (Nat.zero_le _) (Nat.zero_le _) dX9_handle_225 (⟨hT, hF⟩)
theorem mX9_giveUp_1 : (.fieldLink RX9 18 "OneBeatModel" "data" "[I" : Cond) ∈ wsX9_giveUp := List.mem_of_getElem? (i := 1) (by decide +kernel)
theorem iX9_giveUp_9 : ∀ w ∈ wsX90, w ∈ wsX9_giveUp := fun w h => List.mem_of_mem_drop (List.mem_of_mem_take ((show wsX90 = (wsX9_giveUp.drop 33).take 18 by decide +kernel) ▸ h))
set_option maxHeartbeats 4000000 in
set_option maxRecDepth 100000 in
theorem c_X9_giveUp {l : Launch} {D : va_G} {cs : Nat → ClassId} {B0 T : Nat} {κ : KM} {H0 : Heap} (hT : WT B0 D cs T κ H0) {w : Nat} (hw : T2 κ w 10 12) : KC l yX9_giveUp wsX9_giveUp 3 76 0 0 D cs B0 H0 [.ref w] (Qv (fun H => WT B0 D cs T κ H ∧ Fr B0 [18] κ H0 H)) := by
  refine KC.of cX9_giveUp 3 none (by decide) rfl (Nat.le_of_ble_eq_true rfl) ?_
  intro p e s m below meth c ls hx hb hr hml hown hts hlocks hin hN hE hH0 hl
  have hown : s.vm.findClass RX9 = some m.cls := hown
  have hl : lv_has ls 3 [(0, .ref w)] := hl
  have hL : OkL B0 [] := OkL.nil
  have hF : Fr B0 [18] κ H0 H0 := Fr.rf
  refine lv_aload_n hx hb dX9_giveUp_0 rfl (lv_at hl 0 rfl) ?_
  obtain ⟨hb536, e536, hat536, hk536⟩ := hT.o10 hw.1
  obtain ⟨f536_0, f536_1, f536_3, f536_4, f536_5, f536_6, f536_7, f536_9, f536_10, f536_11, f536_12, f536_13, f536_14, f536_15, f536_16, f536_17, rfl, c536_2, c536_3, c536_4, c536_12, t536_1, t536_8, t536_9, c536_sd, t536_10, t536_11, t536_17⟩ := hk536
  have hP : va_P D vwCl [(w, .inr (9, [.int f536_0, .ref f536_1, .int (nI ((κ w).2.2.1)), .int (nI f536_3), .int (nI f536_4), .int f536_5, .int f536_6, .int f536_7, .ref (κ w).2.2.2, .ref f536_9, .ref f536_10, .ref f536_11, .int (nI f536_12), .int f536_13, .int f536_14, .int f536_15, .int f536_16, .ref f536_17]))] _ := va_P.cons hat536 va_P.nil
  refine va_get (D := D) (ci := 9) (v := .ref (κ w).2.2.2) (C := RX9) (T := TX9) (N := 18) hx hb hts iX9_giveUp_9 hown hN.1 hP 0 rfl rfl 8 (by decide) (hts _ mX9_giveUp_1) (fun _ h9 => h9) rfl dX9_giveUp_1 ?_
  refine lv_bipush (v := 18) hx hb dX9_giveUp_4 (by decide) ?_
  obtain ⟨hb537, e537, hat537, hk537⟩ := hT.o24 t536_8.1
  obtain ⟨g537, rfl, q537⟩ := hk537
  have hP : va_P D vwCl [((κ w).2.2.2, .inl (cs 0, 45783, .inl g537)), (w, .inr (9, [.int f536_0, .ref f536_1, .int (nI ((κ w).2.2.1)), .int (nI f536_3), .int (nI f536_4), .int f536_5, .int f536_6, .int f536_7, .ref (κ w).2.2.2, .ref f536_9, .ref f536_10, .ref f536_11, .int (nI f536_12), .int f536_13, .int f536_14, .int f536_15, .int f536_16, .ref f536_17]))] _ := va_P.cons hat537 hP
  refine ld_i (v := (g537 18)) hx hb hN hP 0 rfl (vp_in_nI (n := 18) (N := 45783) (by omega) (by omega)) (by rw [(show (18 : Int32).toNatClampNeg = 18 from nI_clamp (n := 18) (by omega))]) dX9_giveUp_6 ?_
  obtain ⟨n538, hn538, en538⟩ := q537.2.2.2.2.2.2
  refine tp_i (nI n538) en538 ?_
  refine lv_istore_n (lv' := [(1, .int (nI n538)), (0, .ref w)]) hx hb dX9_giveUp_7 rfl hl (by decide) rfl (fun ls hl => ?_)
  refine lv_aload_n hx hb dX9_giveUp_8 rfl (lv_at hl 1 rfl) ?_
  refine va_get (D := D) (ci := 9) (v := .ref (κ w).2.2.2) (C := RX9) (T := TX9) (N := 18) hx hb hts iX9_giveUp_9 hown hN.1 hP 1 rfl rfl 8 (by decide) (hts _ mX9_giveUp_1) (fun _ h9 => h9) rfl dX9_giveUp_9 ?_
  refine lv_bipush (v := 6) hx hb dX9_giveUp_12 (by decide) ?_
  refine ld_i (v := (g537 6)) hx hb hN hP 0 rfl (vp_in_nI (n := 6) (N := 45783) (by omega) (by omega)) (by rw [(show (6 : Int32).toNatClampNeg = 6 from nI_clamp (n := 6) (by omega))]) dX9_giveUp_14 ?_
  refine gn_i (fun x539 => ?_)
  refine lv_iconst (v := 1) hx hb dX9_giveUp_15 (by decide) ?_
  refine lv_isub hx hb dX9_giveUp_16 ?_
  refine gn_i (fun x540 => ?_)
  refine lv_istore_n (lv' := [(2, .int x540), (1, .int (nI n538)), (0, .ref w)]) hx hb dX9_giveUp_17 rfl hl (by decide) rfl (fun ls hl => ?_)
  refine lv_aload_n hx hb dX9_giveUp_18 rfl (lv_at hl 2 rfl) ?_
  refine va_get (D := D) (ci := 9) (v := .ref (κ w).2.2.2) (C := RX9) (T := TX9) (N := 18) hx hb hts iX9_giveUp_9 hown hN.1 hP 1 rfl rfl 8 (by decide) (hts _ mX9_giveUp_1) (fun _ h9 => h9) rfl dX9_giveUp_19 ?_
  refine lv_bipush (v := 20) hx hb dX9_giveUp_22 (by decide) ?_
  refine lv_iconst (v := 2) hx hb dX9_giveUp_24 (by decide) ?_
  have hB : Bx B0 D _ [((κ w).2.2.2, .inl (cs 0, 45783, .inl g537)), (w, .inr (9, [.int f536_0, .ref f536_1, .int (nI ((κ w).2.2.1)), .int (nI f536_3), .int (nI f536_4), .int f536_5, .int f536_6, .int f536_7, .ref (κ w).2.2.2, .ref f536_9, .ref f536_10, .ref f536_11, .int (nI f536_12), .int f536_13, .int f536_14, .int f536_15, .int f536_16, .ref f536_17]))] [] _ _ := Bx.of (fun a => (κ a).1) hL hP (fa_c hb537 (fa_c hb536 fa_n)) (by simp only [List.map_cons, List.map_nil, t536_8.1, hw.1]; decide)
  refine b_i hx hb hN hB 0 rfl (vp_in_nI (n := 20) (N := 45783) (by omega) (by omega)) (.inl rfl) dX9_giveUp_25 (fun H locs hB => ?_)
  rw [(show (20 : Int32).toNatClampNeg = 20 from nI_clamp (n := 20) (by omega))] at hB
  have hB : Bx B0 D _ [((κ w).2.2.2, .inl (cs 0, 45783, .inl (upd g537 20 2))), (w, .inr (9, [.int f536_0, .ref f536_1, .int (nI ((κ w).2.2.1)), .int (nI f536_3), .int (nI f536_4), .int f536_5, .int f536_6, .int f536_7, .ref (κ w).2.2.2, .ref f536_9, .ref f536_10, .ref f536_11, .int (nI f536_12), .int f536_13, .int f536_14, .int f536_15, .int f536_16, .ref f536_17]))] [(κ w).2.2.2] _ _ := hB
  have z541 := DOK.sf q537 (k := 20) (by omega) (x := 2)
  have e542 := (pk_un (f := g537) (x := 2) (show 18 ≠ 20 by omega)).trans en538
  refine lv_aload_n hx hb dX9_giveUp_26 rfl (lv_at hl 2 rfl) ?_
  refine va_get (D := D) (ci := 9) (v := .ref (κ w).2.2.2) (C := RX9) (T := TX9) (N := 18) hx hb hts iX9_giveUp_9 hown hN.1 hB.1 1 rfl rfl 8 (by decide) (hts _ mX9_giveUp_1) (fun _ h9 => h9) rfl dX9_giveUp_27 ?_
  refine lv_bipush (v := 8) hx hb dX9_giveUp_30 (by decide) ?_
  refine lv_dup2_11 hx hb dX9_giveUp_32 rfl rfl ?_
  refine ld_i (v := ((upd g537 20 2) 8)) hx hb hN hB.1 0 rfl (vp_in_nI (n := 8) (N := 45783) (by omega) (by omega)) (by rw [(show (8 : Int32).toNatClampNeg = 8 from nI_clamp (n := 8) (by omega))]) dX9_giveUp_33 ?_
  refine gn_i (fun x543 => ?_)
  refine lv_iconst (v := 1) hx hb dX9_giveUp_34 (by decide) ?_
  refine lv_iadd hx hb dX9_giveUp_35 ?_
  refine gn_i (fun x544 => ?_)
  refine b_i hx hb hN hB 0 rfl (vp_in_nI (n := 8) (N := 45783) (by omega) (by omega)) (.inr ⟨rfl, List.mem_of_getElem? (i := 0) rfl⟩) dX9_giveUp_36 (fun H locs hB => ?_)
  rw [(show (8 : Int32).toNatClampNeg = 8 from nI_clamp (n := 8) (by omega))] at hB
  have hB : Bx B0 D _ [((κ w).2.2.2, .inl (cs 0, 45783, .inl (upd (upd g537 20 2) 8 x544))), (w, .inr (9, [.int f536_0, .ref f536_1, .int (nI ((κ w).2.2.1)), .int (nI f536_3), .int (nI f536_4), .int f536_5, .int f536_6, .int f536_7, .ref (κ w).2.2.2, .ref f536_9, .ref f536_10, .ref f536_11, .int (nI f536_12), .int f536_13, .int f536_14, .int f536_15, .int f536_16, .ref f536_17]))] [(κ w).2.2.2] _ _ := hB
  have z545 := DOK.sf z541 (k := 8) (by omega) (x := x544)
  have e546 := (pk_un (f := (upd g537 20 2)) (x := x544) (show 18 ≠ 8 by omega)).trans e542
  refine lv_aload_n hx hb dX9_giveUp_37 rfl (lv_at hl 2 rfl) ?_
  refine lv_iload_n hx hb dX9_giveUp_38 rfl (lv_at hl 1 rfl) ?_
  have hT : WT B0 D cs T κ _ := hT.close hB ⟨⟨0, _, rfl, ok_24 t536_8.1 ⟨_, rfl, z545⟩⟩, trivial⟩
  have hF : Fr B0 [18] κ H0 _ := hF.close hB (fa_c (by simp [t536_8.2]) fa_n)
  have hL : OkL B0 _ := hB.2.2.2.2.2
  have hP : va_P D vwCl [((κ w).2.2.2, .inl (cs 0, 45783, .inl (upd (upd g537 20 2) 8 x544))), (w, .inr (9, [.int f536_0, .ref f536_1, .int (nI ((κ w).2.2.1)), .int (nI f536_3), .int (nI f536_4), .int f536_5, .int f536_6, .int f536_7, .ref (κ w).2.2.2, .ref f536_9, .ref f536_10, .ref f536_11, .int (nI f536_12), .int f536_13, .int f536_14, .int f536_15, .int f536_16, .ref f536_17]))] _ := hB.1
  refine cv_i (As := [.int (nI n538)]) (rest := []) (b := w) ⟨hx, hb, hml, hown, hts⟩ (c_X9_isUp hT (w := w) hw (n := n538) (by first | omega | decide | assumption)) (cwV 1 hts gX9_giveUp_X9_isUp rfl rfl rfl hdX9_isUp_v ⟨Nat.le_of_ble_eq_true rfl, Nat.le_of_ble_eq_true rfl⟩) hN hE hL (rcv10 hN hT hw.1) rfl rfl hl.1 (Nat.le_of_ble_eq_true rfl) dX9_giveUp_39 (Nat.zero_le _) (Nat.zero_le _) (fun r547 H1 locs hL hqr547 => ?_)
  obtain ⟨h9, hqr547⟩ := hqr547; replace h9 := h9.symm; subst h9
  rcases hqr547 with rfl | rfl
  · refine lv_if_ne (tgt := 46) hx hb dX9_giveUp_42 (by decide) (fun c9 => absurd (by decide) c9) (fun _ => ?_)
    exact en_v hx hb hr hlocks hL (Nat.zero_le _) (Nat.zero_le _) dX9_giveUp_45 (⟨hT, hF⟩)
  · refine lv_if_ne (tgt := 46) hx hb dX9_giveUp_42 (by decide) (fun _ => ?_) (fun c9 => absurd c9 (by decide))
    refine lv_aload_n hx hb dX9_giveUp_46 rfl (lv_at hl 2 rfl) ?_
    refine lv_iload_n hx hb dX9_giveUp_47 rfl (lv_at hl 1 rfl) ?_
    refine lv_bipush (v := 6) hx hb dX9_giveUp_48 (by decide) ?_
    refine cv_i (As := [.int (nI n538), .int 6]) (rest := []) (b := w) ⟨hx, hb, hml, hown, hts⟩ (c_X9_of hT (w := w) hw (n := n538) (k := 6) (by first | omega | decide | assumption) (by first | omega | decide | assumption)) (cwV 2 hts gX9_giveUp_X9_of rfl rfl rfl hdX9_of_v ⟨Nat.le_of_ble_eq_true rfl, Nat.le_of_ble_eq_true rfl⟩) hN hE hL (rcv10 hN hT hw.1) rfl rfl hl.1 (Nat.le_of_ble_eq_true rfl) dX9_giveUp_50 (Nat.zero_le _) (Nat.zero_le _) (fun r548 H1 locs hL hqr548 => ?_)
    obtain rfl := hqr548.symm
    refine lv_iload_n hx hb dX9_giveUp_53 rfl (lv_at hl 0 rfl) ?_
    refine lv_icmp_ne (tgt := 62) hx hb dX9_giveUp_54 (by decide) (fun c549 => ?_) (fun c549 => ?_)
    · refine lv_aload_n hx hb dX9_giveUp_62 rfl (lv_at hl 2 rfl) ?_
      refine lv_iconst (v := 5) hx hb dX9_giveUp_63 (by decide) ?_
      refine lv_iload_n hx hb dX9_giveUp_64 rfl (lv_at hl 1 rfl) ?_
      refine lv_iload_n hx hb dX9_giveUp_65 rfl (lv_at hl 0 rfl) ?_
      refine lv_iconst (v := 0) hx hb dX9_giveUp_66 (by decide) ?_
      refine lv_iconst (v := 0) hx hb dX9_giveUp_67 (by decide) ?_
      refine cv_v (As := [.int 5, .int (nI n538), .int x540, .int 0, .int 0]) (rest := []) (b := w) ⟨hx, hb, hml, hown, hts⟩ (c_X9_sendToOthers hT (w := w) hw (x := 5) (n := n538) (y := x540) (z := 0) (u := 0) (by first | omega | decide | assumption) (by first | omega | decide | assumption)) (cwV 5 hts gX9_giveUp_X9_sendToOthers rfl rfl rfl hdX9_sendToOthers_v ⟨Nat.le_of_ble_eq_true rfl, Nat.le_of_ble_eq_true rfl⟩) hN hE hL (rcv10 hN hT hw.1) rfl rfl hl.1 (Nat.le_of_ble_eq_true rfl) dX9_giveUp_68 (Nat.zero_le _) (Nat.zero_le _) (fun H1 locs hL hqr550 => ?_)
      obtain ⟨hT1, hF1⟩ := hqr550
      have hP : va_P D vwCl [(w, .inr (9, [.int f536_0, .ref f536_1, .int (nI ((κ w).2.2.1)), .int (nI f536_3), .int (nI f536_4), .int f536_5, .int f536_6, .int f536_7, .ref (κ w).2.2.2, .ref f536_9, .ref f536_10, .ref f536_11, .int (nI f536_12), .int f536_13, .int f536_14, .int f536_15, .int f536_16, .ref f536_17]))] _ := hF1.hP (hP.sub [1] rfl) (fa_c ⟨by rw [hw.1]; decide, by rw [hw.2]; first | decide | (simp; done) | (simp; omega)⟩ fa_n)
      have hF := hF.tr (hF1.mono (by simp))
      have hT := hT1
      exact en_v hx hb hr hlocks hL (Nat.zero_le _) (Nat.zero_le _) dX9_giveUp_71 (⟨hT, hF⟩)
    · refine lv_aload_n hx hb dX9_giveUp_57 rfl (lv_at hl 2 rfl) ?_
      refine lv_iload_n hx hb dX9_giveUp_58 rfl (lv_at hl 1 rfl) ?_
      refine cv_v (As := [.int (nI n538)]) (rest := []) (b := w) ⟨hx, hb, hml, hown, hts⟩ (c_X9_dropPlan hT (w := w) hw (n := n538) (by first | omega | decide | assumption)) (cwV 1 hts gX9_giveUp_X9_dropPlan rfl rfl rfl hdX9_dropPlan_v ⟨Nat.le_of_ble_eq_true rfl, Nat.le_of_ble_eq_true rfl⟩) hN hE hL (rcv10 hN hT hw.1) rfl rfl hl.1 (Nat.le_of_ble_eq_true rfl) dX9_giveUp_59 (Nat.zero_le _) (Nat.zero_le _) (fun H1 locs hL hqr551 => ?_)
      obtain ⟨hT1, hF1⟩ := hqr551
      have hP : va_P D vwCl [(w, .inr (9, [.int f536_0, .ref f536_1, .int (nI ((κ w).2.2.1)), .int (nI f536_3), .int (nI f536_4), .int f536_5, .int f536_6, .int f536_7, .ref (κ w).2.2.2, .ref f536_9, .ref f536_10, .ref f536_11, .int (nI f536_12), .int f536_13, .int f536_14, .int f536_15, .int f536_16, .ref f536_17]))] _ := hF1.hP (hP.sub [1] rfl) (fa_c ⟨by rw [hw.1]; decide, by rw [hw.2]; first | decide | (simp; done) | (simp; omega)⟩ fa_n)
      have hF := hF.tr (hF1.mono (by simp))
      have hT := hT1
      refine lv_aload_n hx hb dX9_giveUp_62 rfl (lv_at hl 2 rfl) ?_
      refine lv_iconst (v := 5) hx hb dX9_giveUp_63 (by decide) ?_
      refine lv_iload_n hx hb dX9_giveUp_64 rfl (lv_at hl 1 rfl) ?_
      refine lv_iload_n hx hb dX9_giveUp_65 rfl (lv_at hl 0 rfl) ?_
      refine lv_iconst (v := 0) hx hb dX9_giveUp_66 (by decide) ?_
      refine lv_iconst (v := 0) hx hb dX9_giveUp_67 (by decide) ?_
      refine cv_v (As := [.int 5, .int (nI n538), .int x540, .int 0, .int 0]) (rest := []) (b := w) ⟨hx, hb, hml, hown, hts⟩ (c_X9_sendToOthers hT (w := w) hw (x := 5) (n := n538) (y := x540) (z := 0) (u := 0) (by first | omega | decide | assumption) (by first | omega | decide | assumption)) (cwV 5 hts gX9_giveUp_X9_sendToOthers rfl rfl rfl hdX9_sendToOthers_v ⟨Nat.le_of_ble_eq_true rfl, Nat.le_of_ble_eq_true rfl⟩) hN hE hL (rcv10 hN hT hw.1) rfl rfl hl.1 (Nat.le_of_ble_eq_true rfl) dX9_giveUp_68 (Nat.zero_le _) (Nat.zero_le _) (fun H1 locs hL hqr552 => ?_)
      obtain ⟨hT1, hF1⟩ := hqr552
      have hP : va_P D vwCl [(w, .inr (9, [.int f536_0, .ref f536_1, .int (nI ((κ w).2.2.1)), .int (nI f536_3), .int (nI f536_4), .int f536_5, .int f536_6, .int f536_7, .ref (κ w).2.2.2, .ref f536_9, .ref f536_10, .ref f536_11, .int (nI f536_12), .int f536_13, .int f536_14, .int f536_15, .int f536_16, .ref f536_17]))] _ := hF1.hP (hP.sub [0] rfl) (fa_c ⟨by rw [hw.1]; decide, by rw [hw.2]; first | decide | (simp; done) | (simp; omega)⟩ fa_n)
      have hF := hF.tr (hF1.mono (by simp))
      have hT := hT1
      exact en_v hx hb hr hlocks hL (Nat.zero_le _) (Nat.zero_le _) dX9_giveUp_71 (⟨hT, hF⟩)
theorem hdX9_estimate_v : yX9_estimate.cls = RX9 ∧ yX9_estimate.cls ≠ "java/lang/invoke/MethodHandle" ∧ yX9_estimate.cls ≠ "java/lang/invoke/VarHandle" ∧ (parseMethodDescriptor yX9_estimate.desc).map (fun d => d.parameters.length) = some 1 := by decide +kernel
theorem mX9_change_1 : (.fieldLink RX9 18 "OneBeatModel" "data" "[I" : Cond) ∈ wsX9_change := List.mem_of_getElem? (i := 1) (by decide +kernel)
theorem iX9_change_9 : ∀ w ∈ wsX90, w ∈ wsX9_change := fun w h => List.mem_of_mem_drop (List.mem_of_mem_take ((show wsX90 = (wsX9_change.drop 26).take 18 by decide +kernel) ▸ h))
