theorem mX7_send_1 : (.fieldLink RX7 38 "OneBeat$World" "outgoing" "LOneBeat$Letter;" : Cond) ∈ wsX7_send := List.mem_of_getElem? (i := 1) (by decide +kernel)
theorem iX7_send_7 : ∀ w ∈ wsX70, w ∈ wsX7_send := fun w h => List.mem_of_mem_drop (List.mem_of_mem_take ((show wsX70 = (wsX7_send.drop 40).take 16 by decide +kernel) ▸ h))
theorem iX7_send_1 : ∀ w ∈ wsX10, w ∈ wsX7_send := fun w h => List.mem_of_mem_drop (List.mem_of_mem_take ((show wsX10 = (wsX7_send.drop 56).take 7 by decide +kernel) ▸ h))
theorem mX7_send_2 : (.fieldLink RX7 71 "OneBeat$World" "sent" "I" : Cond) ∈ wsX7_send := List.mem_of_getElem? (i := 2) (by decide +kernel)
theorem mX7_send_3 : (.fieldLink RX7 52 "OneBeat$World" "setup" "LOneBeat$Setup;" : Cond) ∈ wsX7_send := List.mem_of_getElem? (i := 3) (by decide +kernel)
theorem mX7_send_6 : (.fieldLink RX7 74 "OneBeat$World" "lost" "I" : Cond) ∈ wsX7_send := List.mem_of_getElem? (i := 6) (by decide +kernel)
theorem mX7_send_4 : (.fieldLink RX7 20 "OneBeat$World" "mail" "LOneBeat$Mail;" : Cond) ∈ wsX7_send := List.mem_of_getElem? (i := 4) (by decide +kernel)
theorem mX7_send_5 : (.fieldLink RX7 64 "OneBeat$World" "time" "I" : Cond) ∈ wsX7_send := List.mem_of_getElem? (i := 5) (by decide +kernel)
theorem hdX2_add_v : yX2_add.cls = RX2 ∧ yX2_add.cls ≠ "java/lang/invoke/MethodHandle" ∧ yX2_add.cls ≠ "java/lang/invoke/VarHandle" ∧ (parseMethodDescriptor yX2_add.desc).map (fun d => d.parameters.length) = some 2 := by decide +kernel
set_option maxHeartbeats 4000000 in
set_option maxRecDepth 100000 in
theorem c_X7_send {l : Launch} {D : va_G} {cs : Nat → ClassId} {B0 T : Nat} {κ : KM} {H0 : Heap} (hT : WT B0 D cs T κ H0) {w i : Nat} (hw : T2 κ w 8 i) {x y z u v t : Int32} {C cn ln : Nat → Nat} {rw9 : Nat → Nat → Int32} {dl : Nat → Int32} {su tm : Nat} (hsu : (κ w).2.2.1 = su) (htm : (κ w).2.2.2 = tm) (hMW : MW D cs H0 i su tm C cn ln rw9 dl) (hcn : ∀ j, j < 16 → cn j ≤ C j + 24) {M : Nat} (hM9 : ∀ j, j < 16 → 2 * ln j + 7 ≤ M) : KC l yX7_send wsX7_send 2 85 1 M D cs B0 H0 [.ref w, .int x, .int y, .int z, .int u, .int v, .int t] (Qi (fun r H => ∃ κ1, KX κ κ1 ∧ WT B0 D cs T κ1 H ∧ Fr B0 [i, i + 20] κ H0 H ∧ ∃ cn1 ln1 rw1 k n, MW D cs H i su tm C cn1 ln1 rw1 dl ∧ GP H0 H ln ln1 k n ∧ SD cn cn1 rw9 rw1 ((tm + (dl (plc y z)).toNatClampNeg) % 16) x y z ∧ (r = 0 ∨ r = 1))) := by
  refine KC.of cX7_send 9 (some .boolean) (by decide) rfl (Nat.le_of_ble_eq_true rfl) ?_
  intro p e s m below meth c ls hx hb hr hml hown hts hlocks hin hN hE hH0 hl
  have hown : s.vm.findClass RX7 = some m.cls := hown
  have hl : lv_has ls 9 [(0, .ref w), (1, .int x), (2, .int y), (3, .int z), (4, .int u), (5, .int v), (6, .int t)] := hl
  have hL : OkL B0 [] := OkL.nil
  have hF : Fr B0 [i, i + 20] κ H0 H0 := Fr.rf
  obtain ⟨hmk, hpr, hli, -, hi10⟩ := hT.ml hw
  have ht16 := hMW.2.2.2
  have h15a : ¬ 15 = i := by omega
  have h15b : ¬ 15 = i + 20 := by omega
  have h15c : ¬ 15 = i + 40 := by omega
  refine lv_aload_n hx hb dX7_send_0 rfl (lv_at hl 0 rfl) ?_
  obtain ⟨hb5066, e5066, hat5066, hk5066⟩ := hT.o8 hw.1
  obtain ⟨f5066_0, f5066_1, f5066_2, f5066_3, f5066_4, f5066_5, f5066_6, f5066_7, f5066_8, f5066_9, f5066_10, f5066_11, f5066_12, f5066_13, f5066_14, f5066_15, rfl, t5066_0, c5066_su, t5066_1, t5066_2, t5066_3, t5066_4, t5066_5, c5066_tm, c5066_lt, c5066_ml, c5066_pr, c5066_li⟩ := hk5066
  rw [hw.2] at t5066_1
  rw [hw.2] at t5066_2
  rw [hw.2] at t5066_3
  rw [hw.2] at t5066_4
  rw [hw.2] at t5066_5
  rw [hw.2] at c5066_lt c5066_ml c5066_pr c5066_li
  subst c5066_ml
  subst c5066_pr
  subst c5066_li
  have esu5066 := (c5066_su.trans hsu).symm
  subst esu5066
  have ctm5066 : f5066_7 &&& 15 = nI tm := by rw [c5066_tm, htm]
  have hP : va_P D vwCl [(w, .inr (7, [.ref su, .ref f5066_1, .ref (cs (400 + i)), .ref (cs (420 + i)), .ref (cs (460 + i)), .ref f5066_5, .long f5066_6, .int f5066_7, .int f5066_8, .int f5066_9, .int f5066_10, .int f5066_11, .int f5066_12, .int f5066_13, .int f5066_14, .int f5066_15]))] _ := va_P.cons hat5066 va_P.nil
  refine va_get (D := D) (ci := 7) (v := .ref f5066_5) (C := RX7) (T := TX7) (N := 16) hx hb hts iX7_send_7 hown hN.1 hP 0 rfl rfl 5 (by decide) (hts _ mX7_send_1) (fun _ h9 => h9) rfl dX7_send_1 ?_
  refine lv_astore (lv' := [(7, .ref f5066_5), (0, .ref w), (1, .int x), (2, .int y), (3, .int z), (4, .int u), (5, .int v), (6, .int t)]) hx hb dX7_send_4 hl (by decide) rfl (fun ls hl => ?_)
  refine lv_aload hx hb dX7_send_6 (lv_at hl 0 rfl) ?_
  refine lv_iload_n hx hb dX7_send_8 rfl (lv_at hl 2 rfl) ?_
  obtain ⟨hb5067, e5067, hat5067, hk5067⟩ := hT.o2 t5066_5.1
  obtain ⟨f5067_0, f5067_1, f5067_2, f5067_3, f5067_4, f5067_5, f5067_6, rfl⟩ := hk5067
  have hP : va_P D vwCl [(f5066_5, .inr (1, [.int f5067_0, .int f5067_1, .int f5067_2, .int f5067_3, .int f5067_4, .int f5067_5, .int f5067_6])), (w, .inr (7, [.ref su, .ref f5066_1, .ref (cs (400 + i)), .ref (cs (420 + i)), .ref (cs (460 + i)), .ref f5066_5, .long f5066_6, .int f5066_7, .int f5066_8, .int f5066_9, .int f5066_10, .int f5066_11, .int f5066_12, .int f5066_13, .int f5066_14, .int f5066_15]))] _ := va_P.cons hat5067 hP
  have hB : Bx B0 D _ [(f5066_5, .inr (1, [.int f5067_0, .int f5067_1, .int f5067_2, .int f5067_3, .int f5067_4, .int f5067_5, .int f5067_6])), (w, .inr (7, [.ref su, .ref f5066_1, .ref (cs (400 + i)), .ref (cs (420 + i)), .ref (cs (460 + i)), .ref f5066_5, .long f5066_6, .int f5066_7, .int f5066_8, .int f5066_9, .int f5066_10, .int f5066_11, .int f5066_12, .int f5066_13, .int f5066_14, .int f5066_15]))] [] _ _ := Bx.of (fun a => (κ a).1) hL hP (fa_c hb5067 (fa_c hb5066 fa_n)) (by simp only [List.map_cons, List.map_nil, t5066_5.1, hw.1]; decide)
  refine b_putN (D := D) (ci := 1) (v := .int x) (ty := .int) (C := RX1) (T := TX1) (N := 7) hx hb hts iX7_send_1 tyX1 tyX1_ok nmX1 hown hN hB 0 rfl rfl 0 (by decide) (hN.f 14 rfl) (fun _ h9 => h9) rfl (by decide +kernel) rfl rfl (Nat.le_of_ble_eq_true rfl) (.inl rfl) dX7_send_9 (fun H locs hB => ?_)
  have hB : Bx B0 D _ [(f5066_5, .inr (1, [.int x, .int f5067_1, .int f5067_2, .int f5067_3, .int f5067_4, .int f5067_5, .int f5067_6])), (w, .inr (7, [.ref su, .ref f5066_1, .ref (cs (400 + i)), .ref (cs (420 + i)), .ref (cs (460 + i)), .ref f5066_5, .long f5066_6, .int f5066_7, .int f5066_8, .int f5066_9, .int f5066_10, .int f5066_11, .int f5066_12, .int f5066_13, .int f5066_14, .int f5066_15]))] [f5066_5] _ _ := hB
  refine lv_aload hx hb dX7_send_12 (lv_at hl 0 rfl) ?_
  refine lv_iload_n hx hb dX7_send_14 rfl (lv_at hl 3 rfl) ?_
  refine b_putN (D := D) (ci := 1) (v := .int y) (ty := .int) (C := RX1) (T := TX1) (N := 7) hx hb hts iX7_send_1 tyX1 tyX1_ok nmX1 hown hN hB 0 rfl rfl 1 (by decide) (hN.f 16 rfl) (fun _ h9 => h9) rfl (by decide +kernel) rfl rfl (Nat.le_of_ble_eq_true rfl) (.inr ⟨rfl, List.mem_of_getElem? (i := 0) rfl⟩) dX7_send_15 (fun H locs hB => ?_)
  have hB : Bx B0 D _ [(f5066_5, .inr (1, [.int x, .int y, .int f5067_2, .int f5067_3, .int f5067_4, .int f5067_5, .int f5067_6])), (w, .inr (7, [.ref su, .ref f5066_1, .ref (cs (400 + i)), .ref (cs (420 + i)), .ref (cs (460 + i)), .ref f5066_5, .long f5066_6, .int f5066_7, .int f5066_8, .int f5066_9, .int f5066_10, .int f5066_11, .int f5066_12, .int f5066_13, .int f5066_14, .int f5066_15]))] [f5066_5] _ _ := hB
  refine lv_aload hx hb dX7_send_18 (lv_at hl 0 rfl) ?_
  refine lv_iload_n hx hb dX7_send_20 rfl (lv_at hl 4 rfl) ?_
  refine b_putN (D := D) (ci := 1) (v := .int z) (ty := .int) (C := RX1) (T := TX1) (N := 7) hx hb hts iX7_send_1 tyX1 tyX1_ok nmX1 hown hN hB 0 rfl rfl 2 (by decide) (hN.f 18 rfl) (fun _ h9 => h9) rfl (by decide +kernel) rfl rfl (Nat.le_of_ble_eq_true rfl) (.inr ⟨rfl, List.mem_of_getElem? (i := 0) rfl⟩) dX7_send_21 (fun H locs hB => ?_)
  have hB : Bx B0 D _ [(f5066_5, .inr (1, [.int x, .int y, .int z, .int f5067_3, .int f5067_4, .int f5067_5, .int f5067_6])), (w, .inr (7, [.ref su, .ref f5066_1, .ref (cs (400 + i)), .ref (cs (420 + i)), .ref (cs (460 + i)), .ref f5066_5, .long f5066_6, .int f5066_7, .int f5066_8, .int f5066_9, .int f5066_10, .int f5066_11, .int f5066_12, .int f5066_13, .int f5066_14, .int f5066_15]))] [f5066_5] _ _ := hB
  refine lv_aload hx hb dX7_send_24 (lv_at hl 0 rfl) ?_
  refine lv_aload_n hx hb dX7_send_26 rfl (lv_at hl 1 rfl) ?_
  refine va_get (D := D) (ci := 7) (v := .int f5066_9) (C := RX7) (T := TX7) (N := 16) hx hb hts iX7_send_7 hown hN.1 hB.1 1 rfl rfl 9 (by decide) (hts _ mX7_send_2) (fun _ h9 => h9) rfl dX7_send_27 ?_
  refine b_putN (D := D) (ci := 1) (v := .int f5066_9) (ty := .int) (C := RX1) (T := TX1) (N := 7) hx hb hts iX7_send_1 tyX1 tyX1_ok nmX1 hown hN hB 0 rfl rfl 3 (by decide) (hN.f 20 rfl) (fun _ h9 => h9) rfl (by decide +kernel) rfl rfl (Nat.le_of_ble_eq_true rfl) (.inr ⟨rfl, List.mem_of_getElem? (i := 0) rfl⟩) dX7_send_30 (fun H locs hB => ?_)
  have hB : Bx B0 D _ [(f5066_5, .inr (1, [.int x, .int y, .int z, .int f5066_9, .int f5067_4, .int f5067_5, .int f5067_6])), (w, .inr (7, [.ref su, .ref f5066_1, .ref (cs (400 + i)), .ref (cs (420 + i)), .ref (cs (460 + i)), .ref f5066_5, .long f5066_6, .int f5066_7, .int f5066_8, .int f5066_9, .int f5066_10, .int f5066_11, .int f5066_12, .int f5066_13, .int f5066_14, .int f5066_15]))] [f5066_5] _ _ := hB
  refine lv_aload hx hb dX7_send_33 (lv_at hl 0 rfl) ?_
  refine lv_iload hx hb dX7_send_35 (lv_at hl 5 rfl) ?_
  refine b_putN (D := D) (ci := 1) (v := .int u) (ty := .int) (C := RX1) (T := TX1) (N := 7) hx hb hts iX7_send_1 tyX1 tyX1_ok nmX1 hown hN hB 0 rfl rfl 4 (by decide) (hN.f 22 rfl) (fun _ h9 => h9) rfl (by decide +kernel) rfl rfl (Nat.le_of_ble_eq_true rfl) (.inr ⟨rfl, List.mem_of_getElem? (i := 0) rfl⟩) dX7_send_37 (fun H locs hB => ?_)
  have hB : Bx B0 D _ [(f5066_5, .inr (1, [.int x, .int y, .int z, .int f5066_9, .int u, .int f5067_5, .int f5067_6])), (w, .inr (7, [.ref su, .ref f5066_1, .ref (cs (400 + i)), .ref (cs (420 + i)), .ref (cs (460 + i)), .ref f5066_5, .long f5066_6, .int f5066_7, .int f5066_8, .int f5066_9, .int f5066_10, .int f5066_11, .int f5066_12, .int f5066_13, .int f5066_14, .int f5066_15]))] [f5066_5] _ _ := hB
  refine lv_aload hx hb dX7_send_40 (lv_at hl 0 rfl) ?_
  refine lv_iload hx hb dX7_send_42 (lv_at hl 6 rfl) ?_
  refine b_putN (D := D) (ci := 1) (v := .int v) (ty := .int) (C := RX1) (T := TX1) (N := 7) hx hb hts iX7_send_1 tyX1 tyX1_ok nmX1 hown hN hB 0 rfl rfl 5 (by decide) (hN.f 24 rfl) (fun _ h9 => h9) rfl (by decide +kernel) rfl rfl (Nat.le_of_ble_eq_true rfl) (.inr ⟨rfl, List.mem_of_getElem? (i := 0) rfl⟩) dX7_send_44 (fun H locs hB => ?_)
  have hB : Bx B0 D _ [(f5066_5, .inr (1, [.int x, .int y, .int z, .int f5066_9, .int u, .int v, .int f5067_6])), (w, .inr (7, [.ref su, .ref f5066_1, .ref (cs (400 + i)), .ref (cs (420 + i)), .ref (cs (460 + i)), .ref f5066_5, .long f5066_6, .int f5066_7, .int f5066_8, .int f5066_9, .int f5066_10, .int f5066_11, .int f5066_12, .int f5066_13, .int f5066_14, .int f5066_15]))] [f5066_5] _ _ := hB
  refine lv_aload hx hb dX7_send_47 (lv_at hl 0 rfl) ?_
  refine lv_iload hx hb dX7_send_49 (lv_at hl 7 rfl) ?_
  refine b_putN (D := D) (ci := 1) (v := .int t) (ty := .int) (C := RX1) (T := TX1) (N := 7) hx hb hts iX7_send_1 tyX1 tyX1_ok nmX1 hown hN hB 0 rfl rfl 6 (by decide) (hN.f 26 rfl) (fun _ h9 => h9) rfl (by decide +kernel) rfl rfl (Nat.le_of_ble_eq_true rfl) (.inr ⟨rfl, List.mem_of_getElem? (i := 0) rfl⟩) dX7_send_51 (fun H locs hB => ?_)
  have hB : Bx B0 D _ [(f5066_5, .inr (1, [.int x, .int y, .int z, .int f5066_9, .int u, .int v, .int t])), (w, .inr (7, [.ref su, .ref f5066_1, .ref (cs (400 + i)), .ref (cs (420 + i)), .ref (cs (460 + i)), .ref f5066_5, .long f5066_6, .int f5066_7, .int f5066_8, .int f5066_9, .int f5066_10, .int f5066_11, .int f5066_12, .int f5066_13, .int f5066_14, .int f5066_15]))] [f5066_5] _ _ := hB
  refine lv_aload_n hx hb dX7_send_54 rfl (lv_at hl 1 rfl) ?_
  refine lv_dup hx hb dX7_send_55 rfl ?_
  refine va_get (D := D) (ci := 7) (v := .int f5066_9) (C := RX7) (T := TX7) (N := 16) hx hb hts iX7_send_7 hown hN.1 hB.1 1 rfl rfl 9 (by decide) (hts _ mX7_send_2) (fun _ h9 => h9) rfl dX7_send_56 ?_
  refine lv_iconst (v := 1) hx hb dX7_send_59 (by decide) ?_
  refine lv_iadd hx hb dX7_send_60 ?_
  refine gn_i (fun x5068 => ?_)
  refine b_put (D := D) (ci := 7) (v := .int x5068) (ty := .int) (C := RX7) (T := TX7) (N := 16) hx hb hts iX7_send_7 tyX7 tyX7_ok nmX7 hown hN hB 1 rfl rfl 9 (by decide) (hts _ mX7_send_2) (fun _ h9 => h9) rfl (by decide +kernel) rfl rfl (Nat.le_of_ble_eq_true rfl) (.inl rfl) dX7_send_61 (fun H locs hB => ?_)
  have hB : Bx B0 D _ [(f5066_5, .inr (1, [.int x, .int y, .int z, .int f5066_9, .int u, .int v, .int t])), (w, .inr (7, [.ref su, .ref f5066_1, .ref (cs (400 + i)), .ref (cs (420 + i)), .ref (cs (460 + i)), .ref f5066_5, .long f5066_6, .int f5066_7, .int f5066_8, .int x5068, .int f5066_10, .int f5066_11, .int f5066_12, .int f5066_13, .int f5066_14, .int f5066_15]))] [w, f5066_5] _ _ := hB
  refine lv_aload_n hx hb dX7_send_64 rfl (lv_at hl 1 rfl) ?_
  refine va_get (D := D) (ci := 7) (v := .ref su) (C := RX7) (T := TX7) (N := 16) hx hb hts iX7_send_7 hown hN.1 hB.1 1 rfl rfl 0 (by decide) (hts _ mX7_send_3) (fun _ h9 => h9) rfl dX7_send_65 ?_
  refine lv_iload_n hx hb dX7_send_68 rfl (lv_at hl 3 rfl) ?_
  refine lv_iload_n hx hb dX7_send_69 rfl (lv_at hl 4 rfl) ?_
  have hMW := hMW.fr hT hw hsu (Fr.close (S := [i]) Fr.rf hB (fa_c (by simp [hw.2]) (fa_c (by simp [t5066_5.2]) fa_n))) (by first | (simp; done) | (simp [h15a, h15b, h15c]; done) | (simp; omega) | omega) (by first | (simp; done) | (simp [h15a, h15b, h15c]; done) | (simp; omega) | omega)
  have hT : WT B0 D cs T κ _ := hT.close hB ⟨⟨1, _, rfl, ok_8 hw.1 ⟨_, _, _, _, _, _, _, _, _, _, _, _, _, _, _, _, rfl, t5066_0, c5066_su, ⟨t5066_1.1, by rw [hw.2]; exact t5066_1.2⟩, ⟨t5066_2.1, by rw [hw.2]; exact t5066_2.2⟩, ⟨t5066_3.1, by rw [hw.2]; exact t5066_3.2⟩, ⟨t5066_4.1, by rw [hw.2]; exact t5066_4.2⟩, ⟨t5066_5.1, by rw [hw.2]; exact t5066_5.2⟩, c5066_tm, (by rw [hw.2]; omega), (by first | rw [hw.2] | (dsimp only; rw [hw.2])), (by first | rw [hw.2] | (dsimp only; rw [hw.2])), (by first | rw [hw.2] | (dsimp only; rw [hw.2]))⟩⟩, ⟨⟨0, _, rfl, ok_2 t5066_5.1 ⟨_, _, _, _, _, _, _, rfl⟩⟩, trivial⟩⟩
  have hF : Fr B0 [i, i + 20] κ H0 _ := hF.close hB (fa_c (by simp [hw.2]) (fa_c (by simp [t5066_5.2]) fa_n))
  have hL : OkL B0 _ := hB.2.2.2.2.2
  have hP : va_P D vwCl [(f5066_5, .inr (1, [.int x, .int y, .int z, .int f5066_9, .int u, .int v, .int t])), (w, .inr (7, [.ref su, .ref f5066_1, .ref (cs (400 + i)), .ref (cs (420 + i)), .ref (cs (460 + i)), .ref f5066_5, .long f5066_6, .int f5066_7, .int f5066_8, .int x5068, .int f5066_10, .int f5066_11, .int f5066_12, .int f5066_13, .int f5066_14, .int f5066_15]))] _ := hB.1
  refine cv_i (As := [.int y, .int z]) (rest := []) (b := su) ⟨hx, hb, hml, hown, hts⟩ (c_X6_delayOf hT (w := su) t5066_0 (x := y) (y := z)) (cwV 2 hts gX7_send_X6_delayOf rfl rfl rfl hdX6_delayOf_v ⟨Nat.le_of_ble_eq_true rfl, Nat.le_of_ble_eq_true rfl⟩) hN hE hL (rcv7 hN hT t5066_0.1) rfl rfl hl.1 (Nat.le_of_ble_eq_true rfl) dX7_send_70 (Nat.zero_le _) (Nat.zero_le _) (fun r5069 H1 locs hL hqr5069 => ?_)
  obtain ⟨h9, hqr5069⟩ := hqr5069; replace h9 := h9.symm; subst h9
  obtain ⟨f5070, d5071, n5072, h5073, rfl, e5074⟩ := hqr5069
  have hdl : dl (plc y z) = nI n5072 := (hMW.2.1.eq d5071 _ (plc_lt _ _)).trans e5074
  refine lv_istore (lv' := [(8, .int (nI n5072)), (7, .ref f5066_5), (0, .ref w), (1, .int x), (2, .int y), (3, .int z), (4, .int u), (5, .int v), (6, .int t)]) hx hb dX7_send_73 hl (by decide) rfl (fun ls hl => ?_)
  refine lv_iload hx hb dX7_send_75 (lv_at hl 0 rfl) ?_
  refine lv_if_le (tgt := 110) hx hb dX7_send_77 (by decide) (fun c5075 => ?_) (fun c5075 => ?_)
  · have c5075 : n5072 ≤ 0 := (nI_leI (a := n5072) (b := 0) (by omega) (by omega)).mp c5075
    refine lv_aload_n hx hb dX7_send_110 rfl (lv_at hl 2 rfl) ?_
    refine lv_dup hx hb dX7_send_111 rfl ?_
    refine va_get (D := D) (ci := 7) (v := .int f5066_10) (C := RX7) (T := TX7) (N := 16) hx hb hts iX7_send_7 hown hN.1 hP 1 rfl rfl 10 (by decide) (hts _ mX7_send_6) (fun _ h9 => h9) rfl dX7_send_112 ?_
    refine lv_iconst (v := 1) hx hb dX7_send_115 (by decide) ?_
    refine lv_iadd hx hb dX7_send_116 ?_
    refine gn_i (fun x5076 => ?_)
    have hB : Bx B0 D _ [(f5066_5, .inr (1, [.int x, .int y, .int z, .int f5066_9, .int u, .int v, .int t])), (w, .inr (7, [.ref su, .ref f5066_1, .ref (cs (400 + i)), .ref (cs (420 + i)), .ref (cs (460 + i)), .ref f5066_5, .long f5066_6, .int f5066_7, .int f5066_8, .int x5068, .int f5066_10, .int f5066_11, .int f5066_12, .int f5066_13, .int f5066_14, .int f5066_15]))] [] _ _ := Bx.of (fun a => (κ a).1) hL hP (fa_c hb5067 (fa_c hb5066 fa_n)) (by simp only [List.map_cons, List.map_nil, t5066_5.1, hw.1]; decide)
    refine b_put (D := D) (ci := 7) (v := .int x5076) (ty := .int) (C := RX7) (T := TX7) (N := 16) hx hb hts iX7_send_7 tyX7 tyX7_ok nmX7 hown hN hB 1 rfl rfl 10 (by decide) (hts _ mX7_send_6) (fun _ h9 => h9) rfl (by decide +kernel) rfl rfl (Nat.le_of_ble_eq_true rfl) (.inl rfl) dX7_send_117 (fun H locs hB => ?_)
    have hB : Bx B0 D _ [(f5066_5, .inr (1, [.int x, .int y, .int z, .int f5066_9, .int u, .int v, .int t])), (w, .inr (7, [.ref su, .ref f5066_1, .ref (cs (400 + i)), .ref (cs (420 + i)), .ref (cs (460 + i)), .ref f5066_5, .long f5066_6, .int f5066_7, .int f5066_8, .int x5068, .int x5076, .int f5066_11, .int f5066_12, .int f5066_13, .int f5066_14, .int f5066_15]))] [w] _ _ := hB
    refine lv_iconst (v := 0) hx hb dX7_send_120 (by decide) ?_
    have hMW := hMW.fr hT hw hsu (Fr.close (S := [i]) Fr.rf hB (fa_c (by simp [hw.2]) fa_n)) (by first | (simp; done) | (simp [h15a, h15b, h15c]; done) | (simp; omega) | omega) (by first | (simp; done) | (simp [h15a, h15b, h15c]; done) | (simp; omega) | omega)
    have hT : WT B0 D cs T κ _ := hT.close hB ⟨⟨1, _, rfl, ok_8 hw.1 ⟨_, _, _, _, _, _, _, _, _, _, _, _, _, _, _, _, rfl, t5066_0, c5066_su, ⟨t5066_1.1, by rw [hw.2]; exact t5066_1.2⟩, ⟨t5066_2.1, by rw [hw.2]; exact t5066_2.2⟩, ⟨t5066_3.1, by rw [hw.2]; exact t5066_3.2⟩, ⟨t5066_4.1, by rw [hw.2]; exact t5066_4.2⟩, ⟨t5066_5.1, by rw [hw.2]; exact t5066_5.2⟩, c5066_tm, (by rw [hw.2]; omega), (by first | rw [hw.2] | (dsimp only; rw [hw.2])), (by first | rw [hw.2] | (dsimp only; rw [hw.2])), (by first | rw [hw.2] | (dsimp only; rw [hw.2]))⟩⟩, trivial⟩
    have hF : Fr B0 [i, i + 20] κ H0 _ := hF.close hB (fa_c (by simp [hw.2]) fa_n)
    have hL : OkL B0 _ := hB.2.2.2.2.2
    have hP : va_P D vwCl [(f5066_5, .inr (1, [.int x, .int y, .int z, .int f5066_9, .int u, .int v, .int t])), (w, .inr (7, [.ref su, .ref f5066_1, .ref (cs (400 + i)), .ref (cs (420 + i)), .ref (cs (460 + i)), .ref f5066_5, .long f5066_6, .int f5066_7, .int f5066_8, .int x5068, .int x5076, .int f5066_11, .int f5066_12, .int f5066_13, .int f5066_14, .int f5066_15]))] _ := hB.1
    refine W.know (fun hg => ?_)
    rw [hH0] at hg
    exact en_i hx hb hr hlocks hL rfl (Nat.zero_le _) (Nat.zero_le _) dX7_send_121 (⟨_, KX.rf, hT, hF, _, _, _, _, _, hMW, ⟨hg, GN.rf⟩, Or.inl ⟨rfl, rfl⟩, Or.inl rfl⟩)
  · have c5075 : ¬ n5072 ≤ 0 := fun h9 => c5075 ((nI_leI (a := n5072) (b := 0) (by omega) (by omega)).mpr h9)
    refine lv_aload_n hx hb dX7_send_80 rfl (lv_at hl 2 rfl) ?_
    refine lv_iload_n hx hb dX7_send_81 rfl (lv_at hl 4 rfl) ?_
    refine lv_iload_n hx hb dX7_send_82 rfl (lv_at hl 5 rfl) ?_
    refine cv_i (As := [.int y, .int z]) (rest := []) (b := w) ⟨hx, hb, hml, hown, hts⟩ (c_X7_isCut hT (w := w) hw (x := y) (y := z)) (cwV 2 hts gX7_send_X7_isCut rfl rfl rfl hdX7_isCut_v ⟨Nat.le_of_ble_eq_true rfl, Nat.le_of_ble_eq_true rfl⟩) hN hE hL (rcv8 hN hT hw.1) rfl rfl hl.1 (Nat.le_of_ble_eq_true rfl) dX7_send_83 (Nat.zero_le _) (Nat.zero_le _) (fun r5077 H1 locs hL hqr5077 => ?_)
    obtain ⟨h9, hqr5077⟩ := hqr5077; replace h9 := h9.symm; subst h9
    rcases hqr5077 with rfl | rfl
    · refine lv_if_ne (tgt := 110) hx hb dX7_send_86 (by decide) (fun c9 => absurd (by decide) c9) (fun _ => ?_)
      refine lv_aload_n hx hb dX7_send_89 rfl (lv_at hl 2 rfl) ?_
      refine va_get (D := D) (ci := 7) (v := .ref (cs (400 + i))) (C := RX7) (T := TX7) (N := 16) hx hb hts iX7_send_7 hown hN.1 hP 1 rfl rfl 2 (by decide) (hts _ mX7_send_4) (fun _ h9 => h9) rfl dX7_send_90 ?_
      refine lv_aload_n hx hb dX7_send_93 rfl (lv_at hl 2 rfl) ?_
      refine va_get (D := D) (ci := 7) (v := .int f5066_7) (C := RX7) (T := TX7) (N := 16) hx hb hts iX7_send_7 hown hN.1 hP 1 rfl rfl 7 (by decide) (hts _ mX7_send_5) (fun _ h9 => h9) rfl dX7_send_94 ?_
      refine lv_iload hx hb dX7_send_97 (lv_at hl 0 rfl) ?_
      refine lv_iadd hx hb dX7_send_99 ?_
      refine lv_aload hx hb dX7_send_100 (lv_at hl 1 rfl) ?_
      have hmm : m15 (f5066_7 + (nI n5072)) = (tm + n5072) % 16 := m15_add ctm5066 ht16
      refine W.know (fun hgb => ?_)
      rw [hH0] at hgb
      refine cv_i (As := [.int (f5066_7 + (nI n5072)), .ref f5066_5]) (rest := []) (b := (cs (400 + i))) ⟨hx, hb, hml, hown, hts⟩ (c_X2_add hT (w := (cs (400 + i))) t5066_2 (x := (f5066_7 + (nI n5072))) (v := f5066_5) t5066_5 hMW.1 hMW.2.2.1 hcn hM9 (hP 0 _ rfl)) (cwV 2 hts gX7_send_X2_add rfl rfl rfl hdX2_add_v ⟨Nat.le_of_ble_eq_true rfl, Nat.le_of_ble_eq_true rfl⟩) hN hE hL (rcv3 hN hT t5066_2.1) rfl rfl hl.1 (Nat.le_of_ble_eq_true rfl) dX7_send_102 (show 0 + 1 ≤ 1 by omega) (show 0 + M ≤ M by omega) (fun r5078 H1 locs hL hqr5078 => ?_)
      obtain ⟨κr5078, hxr5078, hT1, hF1, hqr5078⟩ := hqr5078
      have hTo := hT
      have hwo := hw
      have hsuo := hsu
      have hF9 := hF1
      have hF := hF.tr (hF1.mono (by simp))
      have hT := hT1
      have hKF : KF κ κr5078 := hxr5078.f
      have hKX : KX κ κr5078 := hxr5078
      have hkw9 : κr5078 w = κ w := hxr5078 w (by rw [hw.1]; decide)
      rw [← hkw9] at hsu htm
      have t5066_5 := (hxr5078.f.t2 t5066_5 (by decide))
      have hw := (hxr5078.f.t2 hw (by decide))
      obtain ⟨c5079, l5080, w5081, k5082, n5083, m5084, L5085, g5086, (⟨rfl, a5087, b5088, d5089, u5090, v5091⟩ | ⟨rfl, p5092⟩)⟩ := hqr5078
      · have hMW := hMW.mb hTo hwo hsuo hF9 (by first | (simp; done) | (simp [h15a, h15b, h15c]; done) | (simp; omega) | omega) m5084 L5085
        have a5087 := (a5087).symm
        have b5088 := (b5088).symm
        have d5089 := (d5089).symm
        subst a5087 b5088 d5089 u5090 v5091
        have hGP := (show GP H0 _ ln ln 0 0 from ⟨hgb, GN.rf⟩).tr g5086
        refine W.tight (k := 0) (n := 0) (by rw [hH0]; exact hGP.1) ?_
        refine lv_if_eq (tgt := 110) hx hb dX7_send_105 (by decide) (fun _ => ?_) (fun c9 => absurd (by decide) c9)
        refine lv_aload_n hx hb dX7_send_110 rfl (lv_at hl 2 rfl) ?_
        refine lv_dup hx hb dX7_send_111 rfl ?_
        obtain ⟨hb5093, e5093, hat5093, hk5093⟩ := hT.o8 hw.1
        obtain ⟨f5093_0, f5093_1, f5093_2, f5093_3, f5093_4, f5093_5, f5093_6, f5093_7, f5093_8, f5093_9, f5093_10, f5093_11, f5093_12, f5093_13, f5093_14, f5093_15, rfl, t5093_0, c5093_su, t5093_1, t5093_2, t5093_3, t5093_4, t5093_5, c5093_tm, c5093_lt, c5093_ml, c5093_pr, c5093_li⟩ := hk5093
        rw [hw.2] at t5093_1
        rw [hw.2] at t5093_2
        rw [hw.2] at t5093_3
        rw [hw.2] at t5093_4
        rw [hw.2] at t5093_5
        rw [hw.2] at c5093_lt c5093_ml c5093_pr c5093_li
        subst c5093_ml
        subst c5093_pr
        subst c5093_li
        have esu5093 := (c5093_su.trans hsu).symm
        subst esu5093
        have ctm5093 : f5093_7 &&& 15 = nI tm := by rw [c5093_tm, htm]
        have hP : va_P D vwCl [(w, .inr (7, [.ref su, .ref f5093_1, .ref (cs (400 + i)), .ref (cs (420 + i)), .ref (cs (460 + i)), .ref f5093_5, .long f5093_6, .int f5093_7, .int f5093_8, .int f5093_9, .int f5093_10, .int f5093_11, .int f5093_12, .int f5093_13, .int f5093_14, .int f5093_15]))] _ := va_P.cons hat5093 va_P.nil
        refine va_get (D := D) (ci := 7) (v := .int f5093_10) (C := RX7) (T := TX7) (N := 16) hx hb hts iX7_send_7 hown hN.1 hP 0 rfl rfl 10 (by decide) (hts _ mX7_send_6) (fun _ h9 => h9) rfl dX7_send_112 ?_
        refine lv_iconst (v := 1) hx hb dX7_send_115 (by decide) ?_
        refine lv_iadd hx hb dX7_send_116 ?_
        refine gn_i (fun x5094 => ?_)
        have hB : Bx B0 D _ [(w, .inr (7, [.ref su, .ref f5093_1, .ref (cs (400 + i)), .ref (cs (420 + i)), .ref (cs (460 + i)), .ref f5093_5, .long f5093_6, .int f5093_7, .int f5093_8, .int f5093_9, .int f5093_10, .int f5093_11, .int f5093_12, .int f5093_13, .int f5093_14, .int f5093_15]))] [] _ _ := Bx.of (fun a => (κr5078 a).1) hL hP (fa_c hb5093 fa_n) (by simp only [List.map_cons, List.map_nil, hw.1]; decide)
        refine b_put (D := D) (ci := 7) (v := .int x5094) (ty := .int) (C := RX7) (T := TX7) (N := 16) hx hb hts iX7_send_7 tyX7 tyX7_ok nmX7 hown hN hB 0 rfl rfl 10 (by decide) (hts _ mX7_send_6) (fun _ h9 => h9) rfl (by decide +kernel) rfl rfl (Nat.le_of_ble_eq_true rfl) (.inl rfl) dX7_send_117 (fun H locs hB => ?_)
        have hB : Bx B0 D _ [(w, .inr (7, [.ref su, .ref f5093_1, .ref (cs (400 + i)), .ref (cs (420 + i)), .ref (cs (460 + i)), .ref f5093_5, .long f5093_6, .int f5093_7, .int f5093_8, .int f5093_9, .int x5094, .int f5093_11, .int f5093_12, .int f5093_13, .int f5093_14, .int f5093_15]))] [w] _ _ := hB
        refine lv_iconst (v := 0) hx hb dX7_send_120 (by decide) ?_
        have hMW := hMW.fr hT hw hsu (Fr.close (S := [i]) Fr.rf hB (fa_c (by simp [hw.2]) fa_n)) (by first | (simp; done) | (simp [h15a, h15b, h15c]; done) | (simp; omega) | omega) (by first | (simp; done) | (simp [h15a, h15b, h15c]; done) | (simp; omega) | omega)
        have hT : WT B0 D cs T κr5078 _ := hT.close hB ⟨⟨0, _, rfl, ok_8 hw.1 ⟨_, _, _, _, _, _, _, _, _, _, _, _, _, _, _, _, rfl, t5093_0, c5093_su, ⟨t5093_1.1, by rw [hw.2]; exact t5093_1.2⟩, ⟨t5093_2.1, by rw [hw.2]; exact t5093_2.2⟩, ⟨t5093_3.1, by rw [hw.2]; exact t5093_3.2⟩, ⟨t5093_4.1, by rw [hw.2]; exact t5093_4.2⟩, ⟨t5093_5.1, by rw [hw.2]; exact t5093_5.2⟩, c5093_tm, (by rw [hw.2]; omega), (by first | rw [hw.2] | (dsimp only; rw [hw.2])), (by first | rw [hw.2] | (dsimp only; rw [hw.2])), (by first | rw [hw.2] | (dsimp only; rw [hw.2]))⟩⟩, trivial⟩
        have hF : Fr B0 [i, i + 20] κ H0 _ := hF.closeN hB (fa_c (fun h9 => by rw [← (hKF _ h9).2, hw.2]; simp) fa_n)
        have hL : OkL B0 _ := hB.2.2.2.2.2
        have hP : va_P D vwCl [(w, .inr (7, [.ref su, .ref f5093_1, .ref (cs (400 + i)), .ref (cs (420 + i)), .ref (cs (460 + i)), .ref f5093_5, .long f5093_6, .int f5093_7, .int f5093_8, .int f5093_9, .int x5094, .int f5093_11, .int f5093_12, .int f5093_13, .int f5093_14, .int f5093_15]))] _ := hB.1
        refine W.know (fun hg => ?_)
        rw [hH0] at hg
        exact en_i hx hb hr hlocks hL rfl (Nat.zero_le _) (Nat.zero_le _) dX7_send_121 (⟨_, hKX, hT, hF, _, _, _, _, _, hMW, ⟨hg, GN.rf⟩, Or.inl ⟨rfl, rfl⟩, Or.inl rfl⟩)
      · have hMW := hMW.mb hTo hwo hsuo hF9 (by first | (simp; done) | (simp [h15a, h15b, h15c]; done) | (simp; omega) | omega) m5084 L5085
        have hGP := (show GP H0 _ ln ln 0 0 from ⟨hgb, GN.rf⟩).tr g5086
        rw [hmm] at p5092
        refine lv_if_eq (tgt := 110) hx hb dX7_send_105 (by decide) (fun c9 => absurd c9 (by decide)) (fun _ => ?_)
        refine lv_iconst (v := 1) hx hb dX7_send_108 (by decide) ?_
        refine W.know (fun hg => ?_)
        rw [hH0] at hg
        exact en_i hx hb hr hlocks hL rfl (show 0 + 1 ≤ 1 by omega) (show (0 + M) ≤ M by omega) dX7_send_109 (⟨_, hKX, hT, hF, _, _, _, _, _, hMW, hGP, Or.inr (by rw [hdl, nI_clamp (by omega)]; exact p5092), Or.inr rfl⟩)
    · refine lv_if_ne (tgt := 110) hx hb dX7_send_86 (by decide) (fun _ => ?_) (fun c9 => absurd c9 (by decide))
      refine lv_aload_n hx hb dX7_send_110 rfl (lv_at hl 2 rfl) ?_
      refine lv_dup hx hb dX7_send_111 rfl ?_
      refine va_get (D := D) (ci := 7) (v := .int f5066_10) (C := RX7) (T := TX7) (N := 16) hx hb hts iX7_send_7 hown hN.1 hP 1 rfl rfl 10 (by decide) (hts _ mX7_send_6) (fun _ h9 => h9) rfl dX7_send_112 ?_
      refine lv_iconst (v := 1) hx hb dX7_send_115 (by decide) ?_
      refine lv_iadd hx hb dX7_send_116 ?_
      refine gn_i (fun x5095 => ?_)
      have hB : Bx B0 D _ [(f5066_5, .inr (1, [.int x, .int y, .int z, .int f5066_9, .int u, .int v, .int t])), (w, .inr (7, [.ref su, .ref f5066_1, .ref (cs (400 + i)), .ref (cs (420 + i)), .ref (cs (460 + i)), .ref f5066_5, .long f5066_6, .int f5066_7, .int f5066_8, .int x5068, .int f5066_10, .int f5066_11, .int f5066_12, .int f5066_13, .int f5066_14, .int f5066_15]))] [] _ _ := Bx.of (fun a => (κ a).1) hL hP (fa_c hb5067 (fa_c hb5066 fa_n)) (by simp only [List.map_cons, List.map_nil, t5066_5.1, hw.1]; decide)
      refine b_put (D := D) (ci := 7) (v := .int x5095) (ty := .int) (C := RX7) (T := TX7) (N := 16) hx hb hts iX7_send_7 tyX7 tyX7_ok nmX7 hown hN hB 1 rfl rfl 10 (by decide) (hts _ mX7_send_6) (fun _ h9 => h9) rfl (by decide +kernel) rfl rfl (Nat.le_of_ble_eq_true rfl) (.inl rfl) dX7_send_117 (fun H locs hB => ?_)
      have hB : Bx B0 D _ [(f5066_5, .inr (1, [.int x, .int y, .int z, .int f5066_9, .int u, .int v, .int t])), (w, .inr (7, [.ref su, .ref f5066_1, .ref (cs (400 + i)), .ref (cs (420 + i)), .ref (cs (460 + i)), .ref f5066_5, .long f5066_6, .int f5066_7, .int f5066_8, .int x5068, .int x5095, .int f5066_11, .int f5066_12, .int f5066_13, .int f5066_14, .int f5066_15]))] [w] _ _ := hB
      refine lv_iconst (v := 0) hx hb dX7_send_120 (by decide) ?_
      have hMW := hMW.fr hT hw hsu (Fr.close (S := [i]) Fr.rf hB (fa_c (by simp [hw.2]) fa_n)) (by first | (simp; done) | (simp [h15a, h15b, h15c]; done) | (simp; omega) | omega) (by first | (simp; done) | (simp [h15a, h15b, h15c]; done) | (simp; omega) | omega)
      have hT : WT B0 D cs T κ _ := hT.close hB ⟨⟨1, _, rfl, ok_8 hw.1 ⟨_, _, _, _, _, _, _, _, _, _, _, _, _, _, _, _, rfl, t5066_0, c5066_su, ⟨t5066_1.1, by rw [hw.2]; exact t5066_1.2⟩, ⟨t5066_2.1, by rw [hw.2]; exact t5066_2.2⟩, ⟨t5066_3.1, by rw [hw.2]; exact t5066_3.2⟩, ⟨t5066_4.1, by rw [hw.2]; exact t5066_4.2⟩, ⟨t5066_5.1, by rw [hw.2]; exact t5066_5.2⟩, c5066_tm, (by rw [hw.2]; omega), (by first | rw [hw.2] | (dsimp only; rw [hw.2])), (by first | rw [hw.2] | (dsimp only; rw [hw.2])), (by first | rw [hw.2] | (dsimp only; rw [hw.2]))⟩⟩, trivial⟩
      have hF : Fr B0 [i, i + 20] κ H0 _ := hF.close hB (fa_c (by simp [hw.2]) fa_n)
      have hL : OkL B0 _ := hB.2.2.2.2.2
      have hP : va_P D vwCl [(f5066_5, .inr (1, [.int x, .int y, .int z, .int f5066_9, .int u, .int v, .int t])), (w, .inr (7, [.ref su, .ref f5066_1, .ref (cs (400 + i)), .ref (cs (420 + i)), .ref (cs (460 + i)), .ref f5066_5, .long f5066_6, .int f5066_7, .int f5066_8, .int x5068, .int x5095, .int f5066_11, .int f5066_12, .int f5066_13, .int f5066_14, .int f5066_15]))] _ := hB.1
      refine W.know (fun hg => ?_)
      rw [hH0] at hg
      exact en_i hx hb hr hlocks hL rfl (Nat.zero_le _) (Nat.zero_le _) dX7_send_121 (⟨_, KX.rf, hT, hF, _, _, _, _, _, hMW, ⟨hg, GN.rf⟩, Or.inl ⟨rfl, rfl⟩, Or.inl rfl⟩)
theorem mX7_sendToOthers_1 : (.fieldLink RX7 52 "OneBeat$World" "setup" "LOneBeat$Setup;" : Cond) ∈ wsX7_sendToOthers := List.mem_of_getElem? (i := 1) (by decide +kernel)
theorem iX7_sendToOthers_7 : ∀ w ∈ wsX70, w ∈ wsX7_sendToOthers := fun w h => List.mem_of_mem_drop (List.mem_of_mem_take ((show wsX70 = (wsX7_sendToOthers.drop 46).take 16 by decide +kernel) ▸ h))
theorem iX7_sendToOthers_6 : ∀ w ∈ wsX60, w ∈ wsX7_sendToOthers := fun w h => List.mem_of_mem_drop (List.mem_of_mem_take ((show wsX60 = (wsX7_sendToOthers.drop 62).take 8 by decide +kernel) ▸ h))
theorem mX7_sendToOthers_2 : (.fieldLink RX7 27 "OneBeat$World" "latest" "LOneBeat$Proposal;" : Cond) ∈ wsX7_sendToOthers := List.mem_of_getElem? (i := 2) (by decide +kernel)
theorem iX7_sendToOthers_4 : ∀ w ∈ wsX40, w ∈ wsX7_sendToOthers := fun w h => List.mem_of_mem_drop (List.mem_of_mem_take ((show wsX40 = (wsX7_sendToOthers.drop 70).take 8 by decide +kernel) ▸ h))
theorem mX7_sendToOthers_3 : (.fieldLink RX7 77 "OneBeat$World" "made" "I" : Cond) ∈ wsX7_sendToOthers := List.mem_of_getElem? (i := 3) (by decide +kernel)
theorem hdX7_send_v : yX7_send.cls = RX7 ∧ yX7_send.cls ≠ "java/lang/invoke/MethodHandle" ∧ yX7_send.cls ≠ "java/lang/invoke/VarHandle" ∧ (parseMethodDescriptor yX7_send.desc).map (fun d => d.parameters.length) = some 6 := by decide +kernel
set_option maxHeartbeats 4000000 in
set_option maxRecDepth 100000 in
theorem c_X7_sendToOthers_d1 {l : Launch} {D : va_G} {cs : Nat → ClassId} {B0 T : Nat} {κ : KM} {H0 : Heap} (hT : WT B0 D cs T κ H0) {w i : Nat} (hw : T2 κ w 8 i) {x : Int32} {C cn ln : Nat → Nat} {rw9 : Nat → Nat → Int32} {dl : Nat → Int32} {su tm : Nat} (hsu : (κ w).2.2.1 = su) (htm : (κ w).2.2.2 = tm) (hMW : MW D cs H0 i su tm C cn ln rw9 dl) (hk9 : ¬ (x = 0 ∨ x = 2)) {q0 pl : Nat} (hbo : EE C dl cn rw9 q0 pl + 8 ≤ 24) : KC l yX7_sendToOthers wsX7_sendToOthers 3 113 ((56 * sumN C 16 + 22407 - 2 * sumN ln 16) / 35) (56 * sumN C 16 + 22407 - 2 * sumN ln 16) D cs B0 H0 [.ref w, .int x] (Qv (fun H => ∃ κ1, KX κ κ1 ∧ WT B0 D cs T κ1 H ∧ Fr B0 [i, i + 20] κ H0 H ∧ ∃ cn1 ln1 rw1 k n, MW D cs H i su tm C cn1 ln1 rw1 dl ∧ GP H0 H ln ln1 k n ∧ EE C dl cn1 rw1 q0 pl ≤ EE C dl cn rw9 q0 pl + 8 ∧ ∀ q, q < 16 → cn q ≤ cn1 q)) := by
  refine KC.of cX7_sendToOthers 3 none (by decide) rfl (Nat.le_of_ble_eq_true rfl) ?_
  intro p e s m below meth c ls hx hb hr hml hown hts hlocks hin hN hE hH0 hl
  have hown : s.vm.findClass RX7 = some m.cls := hown
  have hl : lv_has ls 3 [(0, .ref w), (1, .int x)] := hl
  have hL : OkL B0 [] := OkL.nil
  have hF : Fr B0 [i, i + 20] κ H0 H0 := Fr.rf
  obtain ⟨hmk, hpr, hli, -, hi10⟩ := hT.ml hw
  have ht16 := hMW.2.2.2
  have h15a : ¬ 15 = i := by omega
  have h15b : ¬ 15 = i + 20 := by omega
  have h15c : ¬ 15 = i + 40 := by omega
  have hGN : GN ln ln 0 0 := GN.rf
  have hs0 := hMW.2.2.1.sum
  refine lv_iconst (v := 0) hx hb dX7_sendToOthers_0 (by decide) ?_
  refine lv_istore_n (lv' := [(2, .int 0), (0, .ref w), (1, .int x)]) hx hb dX7_sendToOthers_1 rfl hl (by decide) rfl (fun ls hl => ?_)
  refine W.know (fun hgb => ?_)
  rw [hH0] at hgb
  refine W.widen (k := ((56 * sumN C 16 + 22407 - 2 * sumN ln 16) / 35)) (n := (56 * sumN C 16 + 22407 - 2 * sumN ln 16)) (Nat.zero_le _) (Nat.zero_le _) ?_
  refine lp_m (α := Nat × KM × (Nat → Nat) × (Nat → Nat) × (Nat → Nat → Int32) × Nat × Nat) (nL := 3) (fun a9 => 8 - a9.1) (fun a9 H9 l9 => (a9.1 ≤ 8) ∧ (KX κ a9.2.1) ∧ (T2 a9.2.1 w 8 i) ∧ ((a9.2.1 w).2.2.1 = su) ∧ ((a9.2.1 w).2.2.2 = tm) ∧ (MW D cs H9 i su tm C a9.2.2.1 a9.2.2.2.1 a9.2.2.2.2.1 dl) ∧ (EE C dl a9.2.2.1 a9.2.2.2.2.1 q0 pl ≤ EE C dl cn rw9 q0 pl + 1 * a9.1) ∧ (Gr H0 H9 a9.2.2.2.2.2.1 a9.2.2.2.2.2.2) ∧ (GN ln a9.2.2.2.1 a9.2.2.2.2.2.1 a9.2.2.2.2.2.2) ∧ (∀ q, q < 16 → cn q ≤ a9.2.2.1 q) ∧ (WT B0 D cs T a9.2.1 H9) ∧ (Fr B0 [i, i + 20] κ H0 H9) ∧ (OkL B0 l9)) (fun a9 => [(2, .int (nI a9.1)), (0, .ref w), (1, .int x)]) ?_ (0, κ, cn, ln, rw9, 0, 0) _ _ _ ⟨(by show (0) ≤ 8; omega), KX.rf, hw, hsu, htm, hMW, (by show EE C dl (cn) (rw9) q0 pl ≤ EE C dl cn rw9 q0 pl + 1 * (0); omega), hgb, hGN, (fun _ _ => Nat.le_refl _), hT, hF, hL⟩ (lv_sub hl [0, 1, 2] rfl)
  rintro ⟨p, κ9, cn9, ln9, rw99, k9, n9⟩ H locs ls ih5096 ⟨hp, hKX, hw, hsu, htm, hMW, hEE, hGR, hGN, hmo, hT, hF, hL⟩ hl
  have hl : lv_has ls 3 [(2, .int (nI p)), (0, .ref w), (1, .int x)] := hl
  have hp : p ≤ 8 := hp
  have hKX : KX κ κ9 := hKX
  have hw : T2 κ9 w 8 i := hw
  have hsu : (κ9 w).2.2.1 = su := hsu
  have htm : (κ9 w).2.2.2 = tm := htm
  have hMW : MW D cs H i su tm C cn9 ln9 rw99 dl := hMW
  have hEE : EE C dl cn9 rw99 q0 pl ≤ EE C dl cn rw9 q0 pl + 1 * p := hEE
  have hGR : Gr H0 H k9 n9 := hGR
  have hGN : GN ln ln9 k9 n9 := hGN
  have hmo : ∀ q, q < 16 → cn q ≤ cn9 q := hmo
  have hT : WT B0 D cs T κ9 _ := hT
  have hKF := hKX.f
  refine W.tight (k := k9) (n := n9) (by rw [hH0]; exact hGR) ?_
  obtain ⟨hmk, hpr, hli, -, -⟩ := hT.ml hw
  have hg1 := hGN.1
  have hg2 := hGN.2
  have hs9 := hMW.2.2.1.sum
  refine lv_iload_n hx hb dX7_sendToOthers_2 rfl (lv_at hl 0 rfl) ?_
  refine lv_aload_n hx hb dX7_sendToOthers_3 rfl (lv_at hl 1 rfl) ?_
  obtain ⟨hb5097, e5097, hat5097, hk5097⟩ := hT.o8 hw.1
  obtain ⟨f5097_0, f5097_1, f5097_2, f5097_3, f5097_4, f5097_5, f5097_6, f5097_7, f5097_8, f5097_9, f5097_10, f5097_11, f5097_12, f5097_13, f5097_14, f5097_15, rfl, t5097_0, c5097_su, t5097_1, t5097_2, t5097_3, t5097_4, t5097_5, c5097_tm, c5097_lt, c5097_ml, c5097_pr, c5097_li⟩ := hk5097
  rw [hw.2] at t5097_1
  rw [hw.2] at t5097_2
  rw [hw.2] at t5097_3
  rw [hw.2] at t5097_4
  rw [hw.2] at t5097_5
  rw [hw.2] at c5097_lt c5097_ml c5097_pr c5097_li
  subst c5097_ml
  subst c5097_pr
  subst c5097_li
  have esu5097 := (c5097_su.trans hsu).symm
  subst esu5097
  have ctm5097 : f5097_7 &&& 15 = nI tm := by rw [c5097_tm, htm]
  have hP : va_P D vwCl [(w, .inr (7, [.ref su, .ref f5097_1, .ref (cs (400 + i)), .ref (cs (420 + i)), .ref (cs (460 + i)), .ref f5097_5, .long f5097_6, .int f5097_7, .int f5097_8, .int f5097_9, .int f5097_10, .int f5097_11, .int f5097_12, .int f5097_13, .int f5097_14, .int f5097_15]))] _ := va_P.cons hat5097 va_P.nil
  refine va_get (D := D) (ci := 7) (v := .ref su) (C := RX7) (T := TX7) (N := 16) hx hb hts iX7_sendToOthers_7 hown hN.1 hP 0 rfl rfl 0 (by decide) (hts _ mX7_sendToOthers_1) (fun _ h9 => h9) rfl dX7_sendToOthers_4 ?_
  obtain ⟨hb5098, e5098, hat5098, hk5098⟩ := hT.o7 t5097_0.1
  obtain ⟨f5098_0, f5098_1, f5098_2, f5098_3, f5098_4, f5098_5, f5098_6, f5098_7, rfl, c5098_0, c5098_3, c5098_mg, t5098_4, t5098_5, t5098_6, t5098_7⟩ := hk5098
  rw [t5097_0.2] at t5098_4
  rw [t5097_0.2] at t5098_5
  rw [t5097_0.2] at t5098_6
  rw [t5097_0.2] at t5098_7
  have hP : va_P D vwCl [(su, .inr (6, [.int (nI f5098_0), .int f5098_1, .int f5098_2, f5098_3, .ref f5098_4, .ref f5098_5, .ref f5098_6, .ref f5098_7])), (w, .inr (7, [.ref su, .ref f5097_1, .ref (cs (400 + i)), .ref (cs (420 + i)), .ref (cs (460 + i)), .ref f5097_5, .long f5097_6, .int f5097_7, .int f5097_8, .int f5097_9, .int f5097_10, .int f5097_11, .int f5097_12, .int f5097_13, .int f5097_14, .int f5097_15]))] _ := va_P.cons hat5098 hP
  refine va_getN (D := D) (ci := 6) (v := .int (nI f5098_0)) (C := RX6) (T := TX6) (N := 8) hx hb hts iX7_sendToOthers_6 hown hN.1 hP 0 rfl rfl 0 (by decide) (hN.f 39 rfl) (fun _ h9 => h9) rfl dX7_sendToOthers_7 ?_
  refine lv_icmp_ge (tgt := 64) hx hb dX7_sendToOthers_10 (by decide) (fun c5099 => ?_) (fun c5099 => ?_)
  · have c5099 : f5098_0 ≤ p := (nI_leI (a := f5098_0) (b := p) (by omega) (by omega)).mp c5099
    refine W.know (fun hg => ?_)
    rw [hH0] at hg
    exact en_v hx hb hr hlocks hL (show k9 ≤ ((56 * sumN C 16 + 22407 - 2 * sumN ln 16) / 35) by omega) (show n9 ≤ (56 * sumN C 16 + 22407 - 2 * sumN ln 16) by omega) dX7_sendToOthers_64 (⟨_, hKX, hT, hF, _, _, _, _, _, hMW, ⟨hg, hGN⟩, (by omega), hmo⟩)
  · have c5099 : ¬ f5098_0 ≤ p := fun h9 => c5099 ((nI_leI (a := f5098_0) (b := p) (by omega) (by omega)).mpr h9)
    refine lv_iload_n hx hb dX7_sendToOthers_13 rfl (lv_at hl 0 rfl) ?_
    refine lv_aload_n hx hb dX7_sendToOthers_14 rfl (lv_at hl 1 rfl) ?_
    refine va_get (D := D) (ci := 7) (v := .ref (cs (420 + i))) (C := RX7) (T := TX7) (N := 16) hx hb hts iX7_sendToOthers_7 hown hN.1 hP 1 rfl rfl 3 (by decide) (hts _ mX7_sendToOthers_2) (fun _ h9 => h9) rfl dX7_sendToOthers_15 ?_
    obtain ⟨hb5100, e5100, hat5100, hk5100⟩ := hT.o5 t5097_3.1
    obtain ⟨f5100_0, f5100_1, f5100_2, f5100_3, f5100_4, f5100_5, f5100_6, f5100_7, rfl, c5100⟩ := hk5100
    have hP : va_P D vwCl [((cs (420 + i)), .inr (4, [.int f5100_0, .int f5100_1, .int f5100_2, .int f5100_3, .int f5100_4, .int f5100_5, .int f5100_6, .int f5100_7])), (su, .inr (6, [.int (nI f5098_0), .int f5098_1, .int f5098_2, f5098_3, .ref f5098_4, .ref f5098_5, .ref f5098_6, .ref f5098_7])), (w, .inr (7, [.ref su, .ref f5097_1, .ref (cs (400 + i)), .ref (cs (420 + i)), .ref (cs (460 + i)), .ref f5097_5, .long f5097_6, .int f5097_7, .int f5097_8, .int f5097_9, .int f5097_10, .int f5097_11, .int f5097_12, .int f5097_13, .int f5097_14, .int f5097_15]))] _ := va_P.cons hat5100 hP
    refine va_getN (D := D) (ci := 4) (v := .int f5100_3) (C := RX4) (T := TX4) (N := 8) hx hb hts iX7_sendToOthers_4 hown hN.1 hP 0 rfl rfl 3 (by decide) (hN.f 9 rfl) (fun _ h9 => h9) rfl dX7_sendToOthers_18 ?_
    refine lv_icmp_eq (tgt := 58) hx hb dX7_sendToOthers_21 (by decide) (fun c5101 => ?_) (fun c5101 => ?_)
    · refine lv_iinc (v := (nI (p + 1))) (lv' := [(2, .int (nI (p + 1))), (0, .ref w), (1, .int x)]) hx hb dX7_sendToOthers_58 hl (k := 0) rfl (nI_add _ 1) (by decide) rfl (fun ls hl => ?_)
      refine lv_goto (tgt := 2) hx hb dX7_sendToOthers_61 (by decide) ?_
      refine W.know (fun hgb => ?_)
      rw [hH0] at hgb
      refine W.widen (k := ((56 * sumN C 16 + 22407 - 2 * sumN ln 16) / 35)) (n := (56 * sumN C 16 + 22407 - 2 * sumN ln 16)) (show k9 ≤ ((56 * sumN C 16 + 22407 - 2 * sumN ln 16) / 35) by omega) (show n9 ≤ (56 * sumN C 16 + 22407 - 2 * sumN ln 16) by omega) ?_
      exact ih5096 ((p + 1), κ9, cn9, ln9, rw99, k9, n9) _ _ _ (by show 8 - ((p + 1)) < 8 - p; omega) ⟨(by show ((p + 1)) ≤ 8; omega), hKX, hw, hsu, htm, hMW, (by show EE C dl (cn9) (rw99) q0 pl ≤ EE C dl cn rw9 q0 pl + 1 * ((p + 1)); omega), hgb, hGN, hmo, hT, hF, hL⟩ (lv_sub hl [0, 1, 2] rfl)
    · refine lv_aload_n hx hb dX7_sendToOthers_24 rfl (lv_at hl 1 rfl) ?_
      refine lv_iload_n hx hb dX7_sendToOthers_25 rfl (lv_at hl 2 rfl) ?_
      refine lv_aload_n hx hb dX7_sendToOthers_26 rfl (lv_at hl 1 rfl) ?_
      refine va_get (D := D) (ci := 7) (v := .ref (cs (420 + i))) (C := RX7) (T := TX7) (N := 16) hx hb hts iX7_sendToOthers_7 hown hN.1 hP 2 rfl rfl 3 (by decide) (hts _ mX7_sendToOthers_2) (fun _ h9 => h9) rfl dX7_sendToOthers_27 ?_
      refine va_getN (D := D) (ci := 4) (v := .int f5100_3) (C := RX4) (T := TX4) (N := 8) hx hb hts iX7_sendToOthers_4 hown hN.1 hP 0 rfl rfl 3 (by decide) (hN.f 9 rfl) (fun _ h9 => h9) rfl dX7_sendToOthers_30 ?_
      refine lv_iload_n hx hb dX7_sendToOthers_33 rfl (lv_at hl 0 rfl) ?_
      refine lv_aload_n hx hb dX7_sendToOthers_34 rfl (lv_at hl 1 rfl) ?_
      refine va_get (D := D) (ci := 7) (v := .int f5097_11) (C := RX7) (T := TX7) (N := 16) hx hb hts iX7_sendToOthers_7 hown hN.1 hP 2 rfl rfl 11 (by decide) (hts _ mX7_sendToOthers_3) (fun _ h9 => h9) rfl dX7_sendToOthers_35 ?_
      refine lv_iconst (v := 1) hx hb dX7_sendToOthers_38 (by decide) ?_
      refine lv_isub hx hb dX7_sendToOthers_39 ?_
      refine gn_i (fun x5102 => ?_)
      refine lv_aload_n hx hb dX7_sendToOthers_40 rfl (lv_at hl 1 rfl) ?_
      refine va_get (D := D) (ci := 7) (v := .ref (cs (420 + i))) (C := RX7) (T := TX7) (N := 16) hx hb hts iX7_sendToOthers_7 hown hN.1 hP 2 rfl rfl 3 (by decide) (hts _ mX7_sendToOthers_2) (fun _ h9 => h9) rfl dX7_sendToOthers_41 ?_
      refine va_getN (D := D) (ci := 4) (v := .int f5100_0) (C := RX4) (T := TX4) (N := 8) hx hb hts iX7_sendToOthers_4 hown hN.1 hP 0 rfl rfl 0 (by decide) (hN.f 5 rfl) (fun _ h9 => h9) rfl dX7_sendToOthers_44 ?_
      refine lv_aload_n hx hb dX7_sendToOthers_47 rfl (lv_at hl 1 rfl) ?_
      refine va_get (D := D) (ci := 7) (v := .ref (cs (420 + i))) (C := RX7) (T := TX7) (N := 16) hx hb hts iX7_sendToOthers_7 hown hN.1 hP 2 rfl rfl 3 (by decide) (hts _ mX7_sendToOthers_2) (fun _ h9 => h9) rfl dX7_sendToOthers_48 ?_
      refine va_getN (D := D) (ci := 4) (v := .int f5100_1) (C := RX4) (T := TX4) (N := 8) hx hb hts iX7_sendToOthers_4 hown hN.1 hP 0 rfl rfl 1 (by decide) (hN.f 7 rfl) (fun _ h9 => h9) rfl dX7_sendToOthers_51 ?_
      have hM9 : ∀ j, j < 16 → 2 * ln9 j + 7 ≤ 2 * sumN ln9 16 + 7 := fun j hj => by have := sumN_at (f := ln9) hj; omega
      have hcn := EE_cb (show EE C dl cn9 rw99 q0 pl ≤ 24 by omega)
      refine W.know (fun hgb => ?_)
      rw [hH0] at hgb
      refine cv_i (As := [.int x, .int f5100_3, .int (nI p), .int x5102, .int f5100_0, .int f5100_1]) (rest := []) (b := w) ⟨hx, hb, hml, hown, hts⟩ (c_X7_send hT (w := w) hw (x := x) (y := f5100_3) (z := (nI p)) (u := x5102) (v := f5100_0) (t := f5100_1) hsu htm hMW hcn hM9) (cwV 6 hts gX7_sendToOthers_X7_send rfl rfl rfl hdX7_send_v ⟨Nat.le_of_ble_eq_true rfl, Nat.le_of_ble_eq_true rfl⟩) hN hE hL (rcv8 hN hT hw.1) rfl rfl hl.1 (Nat.le_of_ble_eq_true rfl) dX7_sendToOthers_54 (show k9 + 1 ≤ ((56 * sumN C 16 + 22407 - 2 * sumN ln 16) / 35) by omega) (show n9 + (2 * sumN ln9 16 + 7) ≤ (56 * sumN C 16 + 22407 - 2 * sumN ln 16) by omega) (fun r5103 H1 locs hL hqr5103 => ?_)
      obtain ⟨κr5103, hxr5103, hT1, hF1, hqr5103⟩ := hqr5103
      have hTo := hT
      have hwo := hw
      have hsuo := hsu
      have hF9 := hF1
      have hF := hF.tr ((hF1.kf hKF).mono (by simp))
      have hT := hT1
      have hKF := hKF.tr hxr5103.f
      have hKX := hKX.tr hxr5103
      have hkw9 : κr5103 w = κ9 w := hxr5103 w (by rw [hw.1]; decide)
      rw [← hkw9] at hsu htm
      have hw := (hxr5103.f.t2 hw (by decide))
      obtain ⟨c5104, l5105, w5106, k5107, n5108, m5109, g5110, s5111, b5112⟩ := hqr5103
      have hMW := m5109
      obtain ⟨k5113, n5114, hGP⟩ : ∃ k9 n9, GP H0 _ ln l5105 k9 n9 := ⟨_, _, GP.tr (show GP H0 _ ln ln9 _ _ from ⟨hgb, hGN⟩) g5110⟩
      refine W.tight (k := k5113) (n := n5114) (by rw [hH0]; exact hGP.1) ?_
      have hGN : GN ln l5105 k5113 n5114 := hGP.2
      have hgk5113 := hGN.1
      have hgn5114 := hGN.2
      have hsk5113 := hMW.2.2.1.sum
      have hE1 := s5111.e1 (C := C) (dl := dl) (q0 := q0) (pl := pl) (Nat.mod_lt _ (by decide)) hk9
      have hmo : ∀ q, q < 16 → cn q ≤ c5104 q := fun q hq => Nat.le_trans (hmo q hq) (s5111.mono q hq)
      have hEE : EE C dl c5104 w5106 q0 pl ≤ EE C dl cn rw9 q0 pl + 1 * (p + 1) := by omega
      refine lv_pop hx hb dX7_sendToOthers_57 rfl ?_
      refine lv_iinc (v := (nI (p + 1))) (lv' := [(2, .int (nI (p + 1))), (0, .ref w), (1, .int x)]) hx hb dX7_sendToOthers_58 hl (k := 0) rfl (nI_add _ 1) (by decide) rfl (fun ls hl => ?_)
      refine lv_goto (tgt := 2) hx hb dX7_sendToOthers_61 (by decide) ?_
      refine W.know (fun hgb => ?_)
      rw [hH0] at hgb
      refine W.widen (k := ((56 * sumN C 16 + 22407 - 2 * sumN ln 16) / 35)) (n := (56 * sumN C 16 + 22407 - 2 * sumN ln 16)) (show k5113 ≤ ((56 * sumN C 16 + 22407 - 2 * sumN ln 16) / 35) by omega) (show n5114 ≤ (56 * sumN C 16 + 22407 - 2 * sumN ln 16) by omega) ?_
      exact ih5096 ((p + 1), κr5103, c5104, l5105, w5106, k5113, n5114) _ _ _ (by show 8 - ((p + 1)) < 8 - p; omega) ⟨(by show ((p + 1)) ≤ 8; omega), hKX, hw, hsu, htm, hMW, (by show EE C dl (c5104) (w5106) q0 pl ≤ EE C dl cn rw9 q0 pl + 1 * ((p + 1)); omega), hgb, hGN, hmo, hT, hF, hL⟩ (lv_sub hl [0, 1, 2] rfl)
set_option maxHeartbeats 4000000 in
set_option maxRecDepth 100000 in
theorem c_X7_sendToOthers_d2 {l : Launch} {D : va_G} {cs : Nat → ClassId} {B0 T : Nat} {κ : KM} {H0 : Heap} (hT : WT B0 D cs T κ H0) {w i : Nat} (hw : T2 κ w 8 i) {x : Int32} {C cn ln : Nat → Nat} {rw9 : Nat → Nat → Int32} {dl : Nat → Int32} {su tm : Nat} (hsu : (κ w).2.2.1 = su) (htm : (κ w).2.2.2 = tm) (hMW : MW D cs H0 i su tm C cn ln rw9 dl) {q0 pl : Nat} (hbo : EE C dl cn rw9 q0 pl + 16 ≤ 24) : KC l yX7_sendToOthers wsX7_sendToOthers 3 113 ((56 * sumN C 16 + 22407 - 2 * sumN ln 16) / 35) (56 * sumN C 16 + 22407 - 2 * sumN ln 16) D cs B0 H0 [.ref w, .int x] (Qv (fun H => ∃ κ1, KX κ κ1 ∧ WT B0 D cs T κ1 H ∧ Fr B0 [i, i + 20] κ H0 H ∧ ∃ cn1 ln1 rw1 k n, MW D cs H i su tm C cn1 ln1 rw1 dl ∧ GP H0 H ln ln1 k n ∧ EE C dl cn1 rw1 q0 pl ≤ EE C dl cn rw9 q0 pl + 16 ∧ ∀ q, q < 16 → cn q ≤ cn1 q)) := by
  refine KC.of cX7_sendToOthers 3 none (by decide) rfl (Nat.le_of_ble_eq_true rfl) ?_
  intro p e s m below meth c ls hx hb hr hml hown hts hlocks hin hN hE hH0 hl
  have hown : s.vm.findClass RX7 = some m.cls := hown
  have hl : lv_has ls 3 [(0, .ref w), (1, .int x)] := hl
  have hL : OkL B0 [] := OkL.nil
  have hF : Fr B0 [i, i + 20] κ H0 H0 := Fr.rf
  obtain ⟨hmk, hpr, hli, -, hi10⟩ := hT.ml hw
  have ht16 := hMW.2.2.2
  have h15a : ¬ 15 = i := by omega
  have h15b : ¬ 15 = i + 20 := by omega
  have h15c : ¬ 15 = i + 40 := by omega
  have hGN : GN ln ln 0 0 := GN.rf
  have hs0 := hMW.2.2.1.sum
  refine lv_iconst (v := 0) hx hb dX7_sendToOthers_0 (by decide) ?_
  refine lv_istore_n (lv' := [(2, .int 0), (0, .ref w), (1, .int x)]) hx hb dX7_sendToOthers_1 rfl hl (by decide) rfl (fun ls hl => ?_)
  refine W.know (fun hgb => ?_)
  rw [hH0] at hgb
  refine W.widen (k := ((56 * sumN C 16 + 22407 - 2 * sumN ln 16) / 35)) (n := (56 * sumN C 16 + 22407 - 2 * sumN ln 16)) (Nat.zero_le _) (Nat.zero_le _) ?_
  refine lp_m (α := Nat × KM × (Nat → Nat) × (Nat → Nat) × (Nat → Nat → Int32) × Nat × Nat) (nL := 3) (fun a9 => 8 - a9.1) (fun a9 H9 l9 => (a9.1 ≤ 8) ∧ (KX κ a9.2.1) ∧ (T2 a9.2.1 w 8 i) ∧ ((a9.2.1 w).2.2.1 = su) ∧ ((a9.2.1 w).2.2.2 = tm) ∧ (MW D cs H9 i su tm C a9.2.2.1 a9.2.2.2.1 a9.2.2.2.2.1 dl) ∧ (EE C dl a9.2.2.1 a9.2.2.2.2.1 q0 pl ≤ EE C dl cn rw9 q0 pl + 2 * a9.1) ∧ (Gr H0 H9 a9.2.2.2.2.2.1 a9.2.2.2.2.2.2) ∧ (GN ln a9.2.2.2.1 a9.2.2.2.2.2.1 a9.2.2.2.2.2.2) ∧ (∀ q, q < 16 → cn q ≤ a9.2.2.1 q) ∧ (WT B0 D cs T a9.2.1 H9) ∧ (Fr B0 [i, i + 20] κ H0 H9) ∧ (OkL B0 l9)) (fun a9 => [(2, .int (nI a9.1)), (0, .ref w), (1, .int x)]) ?_ (0, κ, cn, ln, rw9, 0, 0) _ _ _ ⟨(by show (0) ≤ 8; omega), KX.rf, hw, hsu, htm, hMW, (by show EE C dl (cn) (rw9) q0 pl ≤ EE C dl cn rw9 q0 pl + 2 * (0); omega), hgb, hGN, (fun _ _ => Nat.le_refl _), hT, hF, hL⟩ (lv_sub hl [0, 1, 2] rfl)
  rintro ⟨p, κ9, cn9, ln9, rw99, k9, n9⟩ H locs ls ih5115 ⟨hp, hKX, hw, hsu, htm, hMW, hEE, hGR, hGN, hmo, hT, hF, hL⟩ hl
  have hl : lv_has ls 3 [(2, .int (nI p)), (0, .ref w), (1, .int x)] := hl
  have hp : p ≤ 8 := hp
  have hKX : KX κ κ9 := hKX
  have hw : T2 κ9 w 8 i := hw
  have hsu : (κ9 w).2.2.1 = su := hsu
  have htm : (κ9 w).2.2.2 = tm := htm
  have hMW : MW D cs H i su tm C cn9 ln9 rw99 dl := hMW
  have hEE : EE C dl cn9 rw99 q0 pl ≤ EE C dl cn rw9 q0 pl + 2 * p := hEE
  have hGR : Gr H0 H k9 n9 := hGR
  have hGN : GN ln ln9 k9 n9 := hGN
  have hmo : ∀ q, q < 16 → cn q ≤ cn9 q := hmo
  have hT : WT B0 D cs T κ9 _ := hT
  have hKF := hKX.f
  refine W.tight (k := k9) (n := n9) (by rw [hH0]; exact hGR) ?_
  obtain ⟨hmk, hpr, hli, -, -⟩ := hT.ml hw
  have hg1 := hGN.1
  have hg2 := hGN.2
  have hs9 := hMW.2.2.1.sum
  refine lv_iload_n hx hb dX7_sendToOthers_2 rfl (lv_at hl 0 rfl) ?_
  refine lv_aload_n hx hb dX7_sendToOthers_3 rfl (lv_at hl 1 rfl) ?_
  obtain ⟨hb5116, e5116, hat5116, hk5116⟩ := hT.o8 hw.1
  obtain ⟨f5116_0, f5116_1, f5116_2, f5116_3, f5116_4, f5116_5, f5116_6, f5116_7, f5116_8, f5116_9, f5116_10, f5116_11, f5116_12, f5116_13, f5116_14, f5116_15, rfl, t5116_0, c5116_su, t5116_1, t5116_2, t5116_3, t5116_4, t5116_5, c5116_tm, c5116_lt, c5116_ml, c5116_pr, c5116_li⟩ := hk5116
  rw [hw.2] at t5116_1
  rw [hw.2] at t5116_2
  rw [hw.2] at t5116_3
  rw [hw.2] at t5116_4
  rw [hw.2] at t5116_5
  rw [hw.2] at c5116_lt c5116_ml c5116_pr c5116_li
  subst c5116_ml
  subst c5116_pr
  subst c5116_li
  have esu5116 := (c5116_su.trans hsu).symm
  subst esu5116
  have ctm5116 : f5116_7 &&& 15 = nI tm := by rw [c5116_tm, htm]
  have hP : va_P D vwCl [(w, .inr (7, [.ref su, .ref f5116_1, .ref (cs (400 + i)), .ref (cs (420 + i)), .ref (cs (460 + i)), .ref f5116_5, .long f5116_6, .int f5116_7, .int f5116_8, .int f5116_9, .int f5116_10, .int f5116_11, .int f5116_12, .int f5116_13, .int f5116_14, .int f5116_15]))] _ := va_P.cons hat5116 va_P.nil
  refine va_get (D := D) (ci := 7) (v := .ref su) (C := RX7) (T := TX7) (N := 16) hx hb hts iX7_sendToOthers_7 hown hN.1 hP 0 rfl rfl 0 (by decide) (hts _ mX7_sendToOthers_1) (fun _ h9 => h9) rfl dX7_sendToOthers_4 ?_
  obtain ⟨hb5117, e5117, hat5117, hk5117⟩ := hT.o7 t5116_0.1
  obtain ⟨f5117_0, f5117_1, f5117_2, f5117_3, f5117_4, f5117_5, f5117_6, f5117_7, rfl, c5117_0, c5117_3, c5117_mg, t5117_4, t5117_5, t5117_6, t5117_7⟩ := hk5117
  rw [t5116_0.2] at t5117_4
  rw [t5116_0.2] at t5117_5
  rw [t5116_0.2] at t5117_6
  rw [t5116_0.2] at t5117_7
  have hP : va_P D vwCl [(su, .inr (6, [.int (nI f5117_0), .int f5117_1, .int f5117_2, f5117_3, .ref f5117_4, .ref f5117_5, .ref f5117_6, .ref f5117_7])), (w, .inr (7, [.ref su, .ref f5116_1, .ref (cs (400 + i)), .ref (cs (420 + i)), .ref (cs (460 + i)), .ref f5116_5, .long f5116_6, .int f5116_7, .int f5116_8, .int f5116_9, .int f5116_10, .int f5116_11, .int f5116_12, .int f5116_13, .int f5116_14, .int f5116_15]))] _ := va_P.cons hat5117 hP
  refine va_getN (D := D) (ci := 6) (v := .int (nI f5117_0)) (C := RX6) (T := TX6) (N := 8) hx hb hts iX7_sendToOthers_6 hown hN.1 hP 0 rfl rfl 0 (by decide) (hN.f 39 rfl) (fun _ h9 => h9) rfl dX7_sendToOthers_7 ?_
  refine lv_icmp_ge (tgt := 64) hx hb dX7_sendToOthers_10 (by decide) (fun c5118 => ?_) (fun c5118 => ?_)
  · have c5118 : f5117_0 ≤ p := (nI_leI (a := f5117_0) (b := p) (by omega) (by omega)).mp c5118
    refine W.know (fun hg => ?_)
    rw [hH0] at hg
    exact en_v hx hb hr hlocks hL (show k9 ≤ ((56 * sumN C 16 + 22407 - 2 * sumN ln 16) / 35) by omega) (show n9 ≤ (56 * sumN C 16 + 22407 - 2 * sumN ln 16) by omega) dX7_sendToOthers_64 (⟨_, hKX, hT, hF, _, _, _, _, _, hMW, ⟨hg, hGN⟩, (by omega), hmo⟩)
  · have c5118 : ¬ f5117_0 ≤ p := fun h9 => c5118 ((nI_leI (a := f5117_0) (b := p) (by omega) (by omega)).mpr h9)
    refine lv_iload_n hx hb dX7_sendToOthers_13 rfl (lv_at hl 0 rfl) ?_
    refine lv_aload_n hx hb dX7_sendToOthers_14 rfl (lv_at hl 1 rfl) ?_
    refine va_get (D := D) (ci := 7) (v := .ref (cs (420 + i))) (C := RX7) (T := TX7) (N := 16) hx hb hts iX7_sendToOthers_7 hown hN.1 hP 1 rfl rfl 3 (by decide) (hts _ mX7_sendToOthers_2) (fun _ h9 => h9) rfl dX7_sendToOthers_15 ?_
    obtain ⟨hb5119, e5119, hat5119, hk5119⟩ := hT.o5 t5116_3.1
    obtain ⟨f5119_0, f5119_1, f5119_2, f5119_3, f5119_4, f5119_5, f5119_6, f5119_7, rfl, c5119⟩ := hk5119
    have hP : va_P D vwCl [((cs (420 + i)), .inr (4, [.int f5119_0, .int f5119_1, .int f5119_2, .int f5119_3, .int f5119_4, .int f5119_5, .int f5119_6, .int f5119_7])), (su, .inr (6, [.int (nI f5117_0), .int f5117_1, .int f5117_2, f5117_3, .ref f5117_4, .ref f5117_5, .ref f5117_6, .ref f5117_7])), (w, .inr (7, [.ref su, .ref f5116_1, .ref (cs (400 + i)), .ref (cs (420 + i)), .ref (cs (460 + i)), .ref f5116_5, .long f5116_6, .int f5116_7, .int f5116_8, .int f5116_9, .int f5116_10, .int f5116_11, .int f5116_12, .int f5116_13, .int f5116_14, .int f5116_15]))] _ := va_P.cons hat5119 hP
    refine va_getN (D := D) (ci := 4) (v := .int f5119_3) (C := RX4) (T := TX4) (N := 8) hx hb hts iX7_sendToOthers_4 hown hN.1 hP 0 rfl rfl 3 (by decide) (hN.f 9 rfl) (fun _ h9 => h9) rfl dX7_sendToOthers_18 ?_
    refine lv_icmp_eq (tgt := 58) hx hb dX7_sendToOthers_21 (by decide) (fun c5120 => ?_) (fun c5120 => ?_)
    · refine lv_iinc (v := (nI (p + 1))) (lv' := [(2, .int (nI (p + 1))), (0, .ref w), (1, .int x)]) hx hb dX7_sendToOthers_58 hl (k := 0) rfl (nI_add _ 1) (by decide) rfl (fun ls hl => ?_)
      refine lv_goto (tgt := 2) hx hb dX7_sendToOthers_61 (by decide) ?_
      refine W.know (fun hgb => ?_)
      rw [hH0] at hgb
      refine W.widen (k := ((56 * sumN C 16 + 22407 - 2 * sumN ln 16) / 35)) (n := (56 * sumN C 16 + 22407 - 2 * sumN ln 16)) (show k9 ≤ ((56 * sumN C 16 + 22407 - 2 * sumN ln 16) / 35) by omega) (show n9 ≤ (56 * sumN C 16 + 22407 - 2 * sumN ln 16) by omega) ?_
      exact ih5115 ((p + 1), κ9, cn9, ln9, rw99, k9, n9) _ _ _ (by show 8 - ((p + 1)) < 8 - p; omega) ⟨(by show ((p + 1)) ≤ 8; omega), hKX, hw, hsu, htm, hMW, (by show EE C dl (cn9) (rw99) q0 pl ≤ EE C dl cn rw9 q0 pl + 2 * ((p + 1)); omega), hgb, hGN, hmo, hT, hF, hL⟩ (lv_sub hl [0, 1, 2] rfl)
    · refine lv_aload_n hx hb dX7_sendToOthers_24 rfl (lv_at hl 1 rfl) ?_
      refine lv_iload_n hx hb dX7_sendToOthers_25 rfl (lv_at hl 2 rfl) ?_
      refine lv_aload_n hx hb dX7_sendToOthers_26 rfl (lv_at hl 1 rfl) ?_
      refine va_get (D := D) (ci := 7) (v := .ref (cs (420 + i))) (C := RX7) (T := TX7) (N := 16) hx hb hts iX7_sendToOthers_7 hown hN.1 hP 2 rfl rfl 3 (by decide) (hts _ mX7_sendToOthers_2) (fun _ h9 => h9) rfl dX7_sendToOthers_27 ?_
      refine va_getN (D := D) (ci := 4) (v := .int f5119_3) (C := RX4) (T := TX4) (N := 8) hx hb hts iX7_sendToOthers_4 hown hN.1 hP 0 rfl rfl 3 (by decide) (hN.f 9 rfl) (fun _ h9 => h9) rfl dX7_sendToOthers_30 ?_
      refine lv_iload_n hx hb dX7_sendToOthers_33 rfl (lv_at hl 0 rfl) ?_
      refine lv_aload_n hx hb dX7_sendToOthers_34 rfl (lv_at hl 1 rfl) ?_
      refine va_get (D := D) (ci := 7) (v := .int f5116_11) (C := RX7) (T := TX7) (N := 16) hx hb hts iX7_sendToOthers_7 hown hN.1 hP 2 rfl rfl 11 (by decide) (hts _ mX7_sendToOthers_3) (fun _ h9 => h9) rfl dX7_sendToOthers_35 ?_
      refine lv_iconst (v := 1) hx hb dX7_sendToOthers_38 (by decide) ?_
      refine lv_isub hx hb dX7_sendToOthers_39 ?_
      refine gn_i (fun x5121 => ?_)
      refine lv_aload_n hx hb dX7_sendToOthers_40 rfl (lv_at hl 1 rfl) ?_
      refine va_get (D := D) (ci := 7) (v := .ref (cs (420 + i))) (C := RX7) (T := TX7) (N := 16) hx hb hts iX7_sendToOthers_7 hown hN.1 hP 2 rfl rfl 3 (by decide) (hts _ mX7_sendToOthers_2) (fun _ h9 => h9) rfl dX7_sendToOthers_41 ?_
      refine va_getN (D := D) (ci := 4) (v := .int f5119_0) (C := RX4) (T := TX4) (N := 8) hx hb hts iX7_sendToOthers_4 hown hN.1 hP 0 rfl rfl 0 (by decide) (hN.f 5 rfl) (fun _ h9 => h9) rfl dX7_sendToOthers_44 ?_
      refine lv_aload_n hx hb dX7_sendToOthers_47 rfl (lv_at hl 1 rfl) ?_
      refine va_get (D := D) (ci := 7) (v := .ref (cs (420 + i))) (C := RX7) (T := TX7) (N := 16) hx hb hts iX7_sendToOthers_7 hown hN.1 hP 2 rfl rfl 3 (by decide) (hts _ mX7_sendToOthers_2) (fun _ h9 => h9) rfl dX7_sendToOthers_48 ?_
      refine va_getN (D := D) (ci := 4) (v := .int f5119_1) (C := RX4) (T := TX4) (N := 8) hx hb hts iX7_sendToOthers_4 hown hN.1 hP 0 rfl rfl 1 (by decide) (hN.f 7 rfl) (fun _ h9 => h9) rfl dX7_sendToOthers_51 ?_
      have hM9 : ∀ j, j < 16 → 2 * ln9 j + 7 ≤ 2 * sumN ln9 16 + 7 := fun j hj => by have := sumN_at (f := ln9) hj; omega
      have hcn := EE_cb (show EE C dl cn9 rw99 q0 pl ≤ 24 by omega)
      refine W.know (fun hgb => ?_)
      rw [hH0] at hgb
      refine cv_i (As := [.int x, .int f5119_3, .int (nI p), .int x5121, .int f5119_0, .int f5119_1]) (rest := []) (b := w) ⟨hx, hb, hml, hown, hts⟩ (c_X7_send hT (w := w) hw (x := x) (y := f5119_3) (z := (nI p)) (u := x5121) (v := f5119_0) (t := f5119_1) hsu htm hMW hcn hM9) (cwV 6 hts gX7_sendToOthers_X7_send rfl rfl rfl hdX7_send_v ⟨Nat.le_of_ble_eq_true rfl, Nat.le_of_ble_eq_true rfl⟩) hN hE hL (rcv8 hN hT hw.1) rfl rfl hl.1 (Nat.le_of_ble_eq_true rfl) dX7_sendToOthers_54 (show k9 + 1 ≤ ((56 * sumN C 16 + 22407 - 2 * sumN ln 16) / 35) by omega) (show n9 + (2 * sumN ln9 16 + 7) ≤ (56 * sumN C 16 + 22407 - 2 * sumN ln 16) by omega) (fun r5122 H1 locs hL hqr5122 => ?_)
      obtain ⟨κr5122, hxr5122, hT1, hF1, hqr5122⟩ := hqr5122
      have hTo := hT
      have hwo := hw
      have hsuo := hsu
      have hF9 := hF1
      have hF := hF.tr ((hF1.kf hKF).mono (by simp))
      have hT := hT1
      have hKF := hKF.tr hxr5122.f
      have hKX := hKX.tr hxr5122
      have hkw9 : κr5122 w = κ9 w := hxr5122 w (by rw [hw.1]; decide)
      rw [← hkw9] at hsu htm
      have hw := (hxr5122.f.t2 hw (by decide))
      obtain ⟨c5123, l5124, w5125, k5126, n5127, m5128, g5129, s5130, b5131⟩ := hqr5122
      have hMW := m5128
      obtain ⟨k5132, n5133, hGP⟩ : ∃ k9 n9, GP H0 _ ln l5124 k9 n9 := ⟨_, _, GP.tr (show GP H0 _ ln ln9 _ _ from ⟨hgb, hGN⟩) g5129⟩
      refine W.tight (k := k5132) (n := n5133) (by rw [hH0]; exact hGP.1) ?_
      have hGN : GN ln l5124 k5132 n5133 := hGP.2
      have hgk5132 := hGN.1
      have hgn5133 := hGN.2
      have hsk5132 := hMW.2.2.1.sum
      have hE1 := s5130.e2 (C := C) (dl := dl) (q0 := q0) (pl := pl) (Nat.mod_lt _ (by decide))
      have hmo : ∀ q, q < 16 → cn q ≤ c5123 q := fun q hq => Nat.le_trans (hmo q hq) (s5130.mono q hq)
      have hEE : EE C dl c5123 w5125 q0 pl ≤ EE C dl cn rw9 q0 pl + 2 * (p + 1) := by omega
      refine lv_pop hx hb dX7_sendToOthers_57 rfl ?_
      refine lv_iinc (v := (nI (p + 1))) (lv' := [(2, .int (nI (p + 1))), (0, .ref w), (1, .int x)]) hx hb dX7_sendToOthers_58 hl (k := 0) rfl (nI_add _ 1) (by decide) rfl (fun ls hl => ?_)
      refine lv_goto (tgt := 2) hx hb dX7_sendToOthers_61 (by decide) ?_
      refine W.know (fun hgb => ?_)
      rw [hH0] at hgb
      refine W.widen (k := ((56 * sumN C 16 + 22407 - 2 * sumN ln 16) / 35)) (n := (56 * sumN C 16 + 22407 - 2 * sumN ln 16)) (show k5132 ≤ ((56 * sumN C 16 + 22407 - 2 * sumN ln 16) / 35) by omega) (show n5133 ≤ (56 * sumN C 16 + 22407 - 2 * sumN ln 16) by omega) ?_
      exact ih5115 ((p + 1), κr5122, c5123, l5124, w5125, k5132, n5133) _ _ _ (by show 8 - ((p + 1)) < 8 - p; omega) ⟨(by show ((p + 1)) ≤ 8; omega), hKX, hw, hsu, htm, hMW, (by show EE C dl (c5123) (w5125) q0 pl ≤ EE C dl cn rw9 q0 pl + 2 * ((p + 1)); omega), hgb, hGN, hmo, hT, hF, hL⟩ (lv_sub hl [0, 1, 2] rfl)
theorem mX4_begin_1 : (.fieldLink RX4 9 "OneBeat$Proposal" "outcome" "I" : Cond) ∈ wsX4_begin := List.mem_of_getElem? (i := 1) (by decide +kernel)
theorem iX4_begin_4 : ∀ w ∈ wsX40, w ∈ wsX4_begin := fun w h => List.mem_of_mem_drop (List.mem_of_mem_take ((show wsX40 = (wsX4_begin.drop 3).take 8 by decide +kernel) ▸ h))
theorem mX4_begin_2 : (.fieldLink RX4 13 "OneBeat$Proposal" "firstChange" "I" : Cond) ∈ wsX4_begin := List.mem_of_getElem? (i := 2) (by decide +kernel)
set_option maxHeartbeats 4000000 in
set_option maxRecDepth 100000 in
theorem c_X4_begin {l : Launch} {D : va_G} {cs : Nat → ClassId} {B0 T : Nat} {κ : KM} {H0 : Heap} (hT : WT B0 D cs T κ H0) {w i : Nat} (hw : T2 κ w 5 i) : KC l yX4_begin wsX4_begin 0 0 0 0 D cs B0 H0 [.ref w] (Qv (fun H => WT B0 D cs T (kp κ w 1 (κ w).2.2.2) H ∧ Fr B0 [i] κ H0 H)) := by
  refine KC.of cX4_begin 1 none (by decide) rfl (Nat.le_of_ble_eq_true rfl) ?_
  intro p e s m below meth c ls hx hb hr hml hown hts hlocks hin hN hE hH0 hl
  have hown : s.vm.findClass RX4 = some m.cls := hown
  have hl : lv_has ls 1 [(0, .ref w)] := hl
  have hL : OkL B0 [] := OkL.nil
  have hF : Fr B0 [i] κ H0 H0 := Fr.rf
  refine lv_aload_n hx hb dX4_begin_0 rfl (lv_at hl 0 rfl) ?_
  refine lv_iconst (v := 3) hx hb dX4_begin_1 (by decide) ?_
  obtain ⟨hb5134, e5134, hat5134, hk5134⟩ := hT.o5 hw.1
  obtain ⟨f5134_0, f5134_1, f5134_2, f5134_3, f5134_4, f5134_5, f5134_6, f5134_7, rfl, c5134⟩ := hk5134
  have hP : va_P D vwCl [(w, .inr (4, [.int f5134_0, .int f5134_1, .int f5134_2, .int f5134_3, .int f5134_4, .int f5134_5, .int f5134_6, .int f5134_7]))] _ := va_P.cons hat5134 va_P.nil
  have hB : Bx B0 D _ [(w, .inr (4, [.int f5134_0, .int f5134_1, .int f5134_2, .int f5134_3, .int f5134_4, .int f5134_5, .int f5134_6, .int f5134_7]))] [] _ _ := Bx.of (fun a => (κ a).1) hL hP (fa_c hb5134 fa_n) (by simp only [List.map_cons, List.map_nil, hw.1]; decide)
  refine b_put (D := D) (ci := 4) (v := .int 3) (ty := .int) (C := RX4) (T := TX4) (N := 8) hx hb hts iX4_begin_4 tyX4 tyX4_ok nmX4 hown hN hB 0 rfl rfl 5 (by decide) (hts _ mX4_begin_1) (fun _ h9 => h9) rfl (by decide +kernel) rfl rfl (Nat.le_of_ble_eq_true rfl) (.inl rfl) dX4_begin_2 (fun H locs hB => ?_)
  have hB : Bx B0 D _ [(w, .inr (4, [.int f5134_0, .int f5134_1, .int f5134_2, .int f5134_3, .int f5134_4, .int 3, .int f5134_6, .int f5134_7]))] [w] _ _ := hB
  refine lv_aload_n hx hb dX4_begin_5 rfl (lv_at hl 0 rfl) ?_
  refine lv_iconst (v := (-1)) hx hb dX4_begin_6 (by decide) ?_
  refine b_put (D := D) (ci := 4) (v := .int (-1)) (ty := .int) (C := RX4) (T := TX4) (N := 8) hx hb hts iX4_begin_4 tyX4 tyX4_ok nmX4 hown hN hB 0 rfl rfl 6 (by decide) (hts _ mX4_begin_2) (fun _ h9 => h9) rfl (by decide +kernel) rfl rfl (Nat.le_of_ble_eq_true rfl) (.inr ⟨rfl, List.mem_of_getElem? (i := 0) rfl⟩) dX4_begin_7 (fun H locs hB => ?_)
  have hB : Bx B0 D _ [(w, .inr (4, [.int f5134_0, .int f5134_1, .int f5134_2, .int f5134_3, .int f5134_4, .int 3, .int (-1), .int f5134_7]))] [w] _ _ := hB
  have hF : Fr B0 [i] κ H0 _ := hF.close hB (fa_c (by simp [hw.2]) fa_n)
  have hT : WT B0 D cs T (kp κ w 1 (κ w).2.2.2) _ := hT.closeK w 1 (κ w).2.2.2 hB (by rw [hw.1]; decide) (by rw [hw.1]; decide) (List.mem_of_getElem? (i := 0) rfl) ⟨⟨0, _, rfl, kp_ok (ok_5 (k := ((κ w).1, (κ w).2.1, _, _)) hw.1 ⟨_, _, _, _, _, _, _, _, rfl, ⟨fun h9 => absurd h9 (by decide), fun h9 => absurd (show (1 : Nat) = 0 from h9) (by decide)⟩⟩)⟩, trivial⟩
  have hL : OkL B0 _ := hB.2.2.2.2.2
  exact en_v hx hb hr hlocks hL (Nat.zero_le _) (Nat.zero_le _) dX4_begin_10 (⟨hT, hF⟩)
theorem mX4_start_1 : (.fieldLink RX4 16 "OneBeat$Proposal" "song" "I" : Cond) ∈ wsX4_start := List.mem_of_getElem? (i := 1) (by decide +kernel)
theorem iX4_start_4 : ∀ w ∈ wsX40, w ∈ wsX4_start := fun w h => List.mem_of_mem_drop (List.mem_of_mem_take ((show wsX40 = (wsX4_start.drop 8).take 8 by decide +kernel) ▸ h))
theorem mX4_start_2 : (.fieldLink RX4 19 "OneBeat$Proposal" "beat" "I" : Cond) ∈ wsX4_start := List.mem_of_getElem? (i := 2) (by decide +kernel)
theorem mX4_start_3 : (.fieldLink RX4 22 "OneBeat$Proposal" "deadline" "I" : Cond) ∈ wsX4_start := List.mem_of_getElem? (i := 3) (by decide +kernel)
theorem mX4_start_4 : (.fieldLink RX4 25 "OneBeat$Proposal" "sender" "I" : Cond) ∈ wsX4_start := List.mem_of_getElem? (i := 4) (by decide +kernel)
theorem mX4_start_5 : (.fieldLink RX4 28 "OneBeat$Proposal" "votes" "I" : Cond) ∈ wsX4_start := List.mem_of_getElem? (i := 5) (by decide +kernel)
theorem mX4_start_6 : (.fieldLink RX4 9 "OneBeat$Proposal" "outcome" "I" : Cond) ∈ wsX4_start := List.mem_of_getElem? (i := 6) (by decide +kernel)
theorem mX4_start_7 : (.fieldLink RX4 13 "OneBeat$Proposal" "firstChange" "I" : Cond) ∈ wsX4_start := List.mem_of_getElem? (i := 7) (by decide +kernel)
set_option maxHeartbeats 4000000 in
set_option maxRecDepth 100000 in
theorem c_X4_start {l : Launch} {D : va_G} {cs : Nat → ClassId} {B0 T : Nat} {κ : KM} {H0 : Heap} (hT : WT B0 D cs T κ H0) {w i : Nat} (hw : T2 κ w 5 i) {x : Int32} {y : Int32} {z : Int32} {u : Int32} : KC l yX4_start wsX4_start 0 0 0 0 D cs B0 H0 [.ref w, .int x, .int y, .int z, .int u] (Qv (fun H => WT B0 D cs T (kp κ w 0 (κ w).2.2.2) H ∧ Fr B0 [i] κ H0 H)) := by
  refine KC.of cX4_start 5 none (by decide) rfl (Nat.le_of_ble_eq_true rfl) ?_
  intro p e s m below meth c ls hx hb hr hml hown hts hlocks hin hN hE hH0 hl
  have hown : s.vm.findClass RX4 = some m.cls := hown
  have hl : lv_has ls 5 [(0, .ref w), (1, .int x), (2, .int y), (3, .int z), (4, .int u)] := hl
  have hL : OkL B0 [] := OkL.nil
  have hF : Fr B0 [i] κ H0 H0 := Fr.rf
  refine lv_aload_n hx hb dX4_start_0 rfl (lv_at hl 0 rfl) ?_
  refine lv_iload_n hx hb dX4_start_1 rfl (lv_at hl 1 rfl) ?_
  obtain ⟨hb5135, e5135, hat5135, hk5135⟩ := hT.o5 hw.1
  obtain ⟨f5135_0, f5135_1, f5135_2, f5135_3, f5135_4, f5135_5, f5135_6, f5135_7, rfl, c5135⟩ := hk5135
  have hP : va_P D vwCl [(w, .inr (4, [.int f5135_0, .int f5135_1, .int f5135_2, .int f5135_3, .int f5135_4, .int f5135_5, .int f5135_6, .int f5135_7]))] _ := va_P.cons hat5135 va_P.nil
  have hB : Bx B0 D _ [(w, .inr (4, [.int f5135_0, .int f5135_1, .int f5135_2, .int f5135_3, .int f5135_4, .int f5135_5, .int f5135_6, .int f5135_7]))] [] _ _ := Bx.of (fun a => (κ a).1) hL hP (fa_c hb5135 fa_n) (by simp only [List.map_cons, List.map_nil, hw.1]; decide)
  refine b_put (D := D) (ci := 4) (v := .int x) (ty := .int) (C := RX4) (T := TX4) (N := 8) hx hb hts iX4_start_4 tyX4 tyX4_ok nmX4 hown hN hB 0 rfl rfl 0 (by decide) (hts _ mX4_start_1) (fun _ h9 => h9) rfl (by decide +kernel) rfl rfl (Nat.le_of_ble_eq_true rfl) (.inl rfl) dX4_start_2 (fun H locs hB => ?_)
  have hB : Bx B0 D _ [(w, .inr (4, [.int x, .int f5135_1, .int f5135_2, .int f5135_3, .int f5135_4, .int f5135_5, .int f5135_6, .int f5135_7]))] [w] _ _ := hB
  refine lv_aload_n hx hb dX4_start_5 rfl (lv_at hl 0 rfl) ?_
  refine lv_iload_n hx hb dX4_start_6 rfl (lv_at hl 2 rfl) ?_
  refine b_put (D := D) (ci := 4) (v := .int y) (ty := .int) (C := RX4) (T := TX4) (N := 8) hx hb hts iX4_start_4 tyX4 tyX4_ok nmX4 hown hN hB 0 rfl rfl 1 (by decide) (hts _ mX4_start_2) (fun _ h9 => h9) rfl (by decide +kernel) rfl rfl (Nat.le_of_ble_eq_true rfl) (.inr ⟨rfl, List.mem_of_getElem? (i := 0) rfl⟩) dX4_start_7 (fun H locs hB => ?_)
  have hB : Bx B0 D _ [(w, .inr (4, [.int x, .int y, .int f5135_2, .int f5135_3, .int f5135_4, .int f5135_5, .int f5135_6, .int f5135_7]))] [w] _ _ := hB
  refine lv_aload_n hx hb dX4_start_10 rfl (lv_at hl 0 rfl) ?_
  refine lv_iload_n hx hb dX4_start_11 rfl (lv_at hl 3 rfl) ?_
  refine b_put (D := D) (ci := 4) (v := .int z) (ty := .int) (C := RX4) (T := TX4) (N := 8) hx hb hts iX4_start_4 tyX4 tyX4_ok nmX4 hown hN hB 0 rfl rfl 2 (by decide) (hts _ mX4_start_3) (fun _ h9 => h9) rfl (by decide +kernel) rfl rfl (Nat.le_of_ble_eq_true rfl) (.inr ⟨rfl, List.mem_of_getElem? (i := 0) rfl⟩) dX4_start_12 (fun H locs hB => ?_)
  have hB : Bx B0 D _ [(w, .inr (4, [.int x, .int y, .int z, .int f5135_3, .int f5135_4, .int f5135_5, .int f5135_6, .int f5135_7]))] [w] _ _ := hB
  refine lv_aload_n hx hb dX4_start_15 rfl (lv_at hl 0 rfl) ?_
  refine lv_iload hx hb dX4_start_16 (lv_at hl 4 rfl) ?_
  refine b_put (D := D) (ci := 4) (v := .int u) (ty := .int) (C := RX4) (T := TX4) (N := 8) hx hb hts iX4_start_4 tyX4 tyX4_ok nmX4 hown hN hB 0 rfl rfl 3 (by decide) (hts _ mX4_start_4) (fun _ h9 => h9) rfl (by decide +kernel) rfl rfl (Nat.le_of_ble_eq_true rfl) (.inr ⟨rfl, List.mem_of_getElem? (i := 0) rfl⟩) dX4_start_18 (fun H locs hB => ?_)
  have hB : Bx B0 D _ [(w, .inr (4, [.int x, .int y, .int z, .int u, .int f5135_4, .int f5135_5, .int f5135_6, .int f5135_7]))] [w] _ _ := hB
  refine lv_aload_n hx hb dX4_start_21 rfl (lv_at hl 0 rfl) ?_
  refine lv_iconst (v := 1) hx hb dX4_start_22 (by decide) ?_
  refine b_put (D := D) (ci := 4) (v := .int 1) (ty := .int) (C := RX4) (T := TX4) (N := 8) hx hb hts iX4_start_4 tyX4 tyX4_ok nmX4 hown hN hB 0 rfl rfl 4 (by decide) (hts _ mX4_start_5) (fun _ h9 => h9) rfl (by decide +kernel) rfl rfl (Nat.le_of_ble_eq_true rfl) (.inr ⟨rfl, List.mem_of_getElem? (i := 0) rfl⟩) dX4_start_23 (fun H locs hB => ?_)
  have hB : Bx B0 D _ [(w, .inr (4, [.int x, .int y, .int z, .int u, .int 1, .int f5135_5, .int f5135_6, .int f5135_7]))] [w] _ _ := hB
  refine lv_aload_n hx hb dX4_start_26 rfl (lv_at hl 0 rfl) ?_
  refine lv_iconst (v := 0) hx hb dX4_start_27 (by decide) ?_
  refine b_put (D := D) (ci := 4) (v := .int 0) (ty := .int) (C := RX4) (T := TX4) (N := 8) hx hb hts iX4_start_4 tyX4 tyX4_ok nmX4 hown hN hB 0 rfl rfl 5 (by decide) (hts _ mX4_start_6) (fun _ h9 => h9) rfl (by decide +kernel) rfl rfl (Nat.le_of_ble_eq_true rfl) (.inr ⟨rfl, List.mem_of_getElem? (i := 0) rfl⟩) dX4_start_28 (fun H locs hB => ?_)
  have hB : Bx B0 D _ [(w, .inr (4, [.int x, .int y, .int z, .int u, .int 1, .int 0, .int f5135_6, .int f5135_7]))] [w] _ _ := hB
  refine lv_aload_n hx hb dX4_start_31 rfl (lv_at hl 0 rfl) ?_
  refine lv_iconst (v := (-1)) hx hb dX4_start_32 (by decide) ?_
  refine b_put (D := D) (ci := 4) (v := .int (-1)) (ty := .int) (C := RX4) (T := TX4) (N := 8) hx hb hts iX4_start_4 tyX4 tyX4_ok nmX4 hown hN hB 0 rfl rfl 6 (by decide) (hts _ mX4_start_7) (fun _ h9 => h9) rfl (by decide +kernel) rfl rfl (Nat.le_of_ble_eq_true rfl) (.inr ⟨rfl, List.mem_of_getElem? (i := 0) rfl⟩) dX4_start_33 (fun H locs hB => ?_)
  have hB : Bx B0 D _ [(w, .inr (4, [.int x, .int y, .int z, .int u, .int 1, .int 0, .int (-1), .int f5135_7]))] [w] _ _ := hB
  have hF : Fr B0 [i] κ H0 _ := hF.close hB (fa_c (by simp [hw.2]) fa_n)
  have hT : WT B0 D cs T (kp κ w 0 (κ w).2.2.2) _ := hT.closeK w 0 (κ w).2.2.2 hB (by rw [hw.1]; decide) (by rw [hw.1]; decide) (List.mem_of_getElem? (i := 0) rfl) ⟨⟨0, _, rfl, kp_ok (ok_5 (k := ((κ w).1, (κ w).2.1, _, _)) hw.1 ⟨_, _, _, _, _, _, _, _, rfl, ⟨fun _ => rfl, fun _ => rfl⟩⟩)⟩, trivial⟩
  have hL : OkL B0 _ := hB.2.2.2.2.2
  exact en_v hx hb hr hlocks hL (Nat.zero_le _) (Nat.zero_le _) dX4_start_36 (⟨hT, hF⟩)
theorem mX4_copyFrom_1 : (.fieldLink RX4 16 "OneBeat$Proposal" "song" "I" : Cond) ∈ wsX4_copyFrom := List.mem_of_getElem? (i := 1) (by decide +kernel)
theorem iX4_copyFrom_4 : ∀ w ∈ wsX40, w ∈ wsX4_copyFrom := fun w h => List.mem_of_mem_drop (List.mem_of_mem_take ((show wsX40 = (wsX4_copyFrom.drop 9).take 8 by decide +kernel) ▸ h))
theorem mX4_copyFrom_2 : (.fieldLink RX4 19 "OneBeat$Proposal" "beat" "I" : Cond) ∈ wsX4_copyFrom := List.mem_of_getElem? (i := 2) (by decide +kernel)
theorem mX4_copyFrom_3 : (.fieldLink RX4 22 "OneBeat$Proposal" "deadline" "I" : Cond) ∈ wsX4_copyFrom := List.mem_of_getElem? (i := 3) (by decide +kernel)
theorem mX4_copyFrom_4 : (.fieldLink RX4 25 "OneBeat$Proposal" "sender" "I" : Cond) ∈ wsX4_copyFrom := List.mem_of_getElem? (i := 4) (by decide +kernel)
theorem mX4_copyFrom_5 : (.fieldLink RX4 28 "OneBeat$Proposal" "votes" "I" : Cond) ∈ wsX4_copyFrom := List.mem_of_getElem? (i := 5) (by decide +kernel)
theorem mX4_copyFrom_6 : (.fieldLink RX4 9 "OneBeat$Proposal" "outcome" "I" : Cond) ∈ wsX4_copyFrom := List.mem_of_getElem? (i := 6) (by decide +kernel)
theorem mX4_copyFrom_7 : (.fieldLink RX4 13 "OneBeat$Proposal" "firstChange" "I" : Cond) ∈ wsX4_copyFrom := List.mem_of_getElem? (i := 7) (by decide +kernel)
theorem mX4_copyFrom_8 : (.fieldLink RX4 31 "OneBeat$Proposal" "lastChange" "I" : Cond) ∈ wsX4_copyFrom := List.mem_of_getElem? (i := 8) (by decide +kernel)
set_option maxHeartbeats 4000000 in
set_option maxRecDepth 100000 in
theorem c_X4_copyFrom {l : Launch} {D : va_G} {cs : Nat → ClassId} {B0 T : Nat} {κ : KM} {H0 : Heap} (hT : WT B0 D cs T κ H0) {w v i j : Nat} (hw : T2 κ w 5 i) (hv : T2 κ v 5 j) (hij : i ≠ j) : KC l yX4_copyFrom wsX4_copyFrom 0 0 0 0 D cs B0 H0 [.ref w, .ref v] (Qv (fun H => WT B0 D cs T (kp κ w (κ v).2.2.1 (κ w).2.2.2) H ∧ Fr B0 [i] κ H0 H)) := by
  refine KC.of cX4_copyFrom 2 none (by decide) rfl (Nat.le_of_ble_eq_true rfl) ?_
  intro p e s m below meth c ls hx hb hr hml hown hts hlocks hin hN hE hH0 hl
  have hown : s.vm.findClass RX4 = some m.cls := hown
  have hl : lv_has ls 2 [(0, .ref w), (1, .ref v)] := hl
  have hL : OkL B0 [] := OkL.nil
  have hF : Fr B0 [i] κ H0 H0 := Fr.rf
  refine lv_aload_n hx hb dX4_copyFrom_0 rfl (lv_at hl 0 rfl) ?_
  refine lv_aload_n hx hb dX4_copyFrom_1 rfl (lv_at hl 1 rfl) ?_
  obtain ⟨hb5136, e5136, hat5136, hk5136⟩ := hT.o5 hv.1
  obtain ⟨f5136_0, f5136_1, f5136_2, f5136_3, f5136_4, f5136_5, f5136_6, f5136_7, rfl, c5136⟩ := hk5136
  have hP : va_P D vwCl [(v, .inr (4, [.int f5136_0, .int f5136_1, .int f5136_2, .int f5136_3, .int f5136_4, .int f5136_5, .int f5136_6, .int f5136_7]))] _ := va_P.cons hat5136 va_P.nil
  refine va_get (D := D) (ci := 4) (v := .int f5136_0) (C := RX4) (T := TX4) (N := 8) hx hb hts iX4_copyFrom_4 hown hN.1 hP 0 rfl rfl 0 (by decide) (hts _ mX4_copyFrom_1) (fun _ h9 => h9) rfl dX4_copyFrom_2 ?_
  obtain ⟨hb5137, e5137, hat5137, hk5137⟩ := hT.o5 hw.1
  obtain ⟨f5137_0, f5137_1, f5137_2, f5137_3, f5137_4, f5137_5, f5137_6, f5137_7, rfl, c5137⟩ := hk5137
  have hP : va_P D vwCl [(w, .inr (4, [.int f5137_0, .int f5137_1, .int f5137_2, .int f5137_3, .int f5137_4, .int f5137_5, .int f5137_6, .int f5137_7])), (v, .inr (4, [.int f5136_0, .int f5136_1, .int f5136_2, .int f5136_3, .int f5136_4, .int f5136_5, .int f5136_6, .int f5136_7]))] _ := va_P.cons hat5137 hP
  have hB : Bx B0 D _ [(w, .inr (4, [.int f5137_0, .int f5137_1, .int f5137_2, .int f5137_3, .int f5137_4, .int f5137_5, .int f5137_6, .int f5137_7])), (v, .inr (4, [.int f5136_0, .int f5136_1, .int f5136_2, .int f5136_3, .int f5136_4, .int f5136_5, .int f5136_6, .int f5136_7]))] [] _ _ := Bx.of (fun a => (κ a).2.1) hL hP (fa_c hb5137 (fa_c hb5136 fa_n)) (by simp only [List.map_cons, List.map_nil, hw.1, hw.2, hv.1, hv.2]; simp; omega)
  refine b_put (D := D) (ci := 4) (v := .int f5136_0) (ty := .int) (C := RX4) (T := TX4) (N := 8) hx hb hts iX4_copyFrom_4 tyX4 tyX4_ok nmX4 hown hN hB 0 rfl rfl 0 (by decide) (hts _ mX4_copyFrom_1) (fun _ h9 => h9) rfl (by decide +kernel) rfl rfl (Nat.le_of_ble_eq_true rfl) (.inl rfl) dX4_copyFrom_5 (fun H locs hB => ?_)
  have hB : Bx B0 D _ [(w, .inr (4, [.int f5136_0, .int f5137_1, .int f5137_2, .int f5137_3, .int f5137_4, .int f5137_5, .int f5137_6, .int f5137_7])), (v, .inr (4, [.int f5136_0, .int f5136_1, .int f5136_2, .int f5136_3, .int f5136_4, .int f5136_5, .int f5136_6, .int f5136_7]))] [w] _ _ := hB
  refine lv_aload_n hx hb dX4_copyFrom_8 rfl (lv_at hl 0 rfl) ?_
  refine lv_aload_n hx hb dX4_copyFrom_9 rfl (lv_at hl 1 rfl) ?_
  refine va_get (D := D) (ci := 4) (v := .int f5136_1) (C := RX4) (T := TX4) (N := 8) hx hb hts iX4_copyFrom_4 hown hN.1 hB.1 1 rfl rfl 1 (by decide) (hts _ mX4_copyFrom_2) (fun _ h9 => h9) rfl dX4_copyFrom_10 ?_
  refine b_put (D := D) (ci := 4) (v := .int f5136_1) (ty := .int) (C := RX4) (T := TX4) (N := 8) hx hb hts iX4_copyFrom_4 tyX4 tyX4_ok nmX4 hown hN hB 0 rfl rfl 1 (by decide) (hts _ mX4_copyFrom_2) (fun _ h9 => h9) rfl (by decide +kernel) rfl rfl (Nat.le_of_ble_eq_true rfl) (.inr ⟨rfl, List.mem_of_getElem? (i := 0) rfl⟩) dX4_copyFrom_13 (fun H locs hB => ?_)
  have hB : Bx B0 D _ [(w, .inr (4, [.int f5136_0, .int f5136_1, .int f5137_2, .int f5137_3, .int f5137_4, .int f5137_5, .int f5137_6, .int f5137_7])), (v, .inr (4, [.int f5136_0, .int f5136_1, .int f5136_2, .int f5136_3, .int f5136_4, .int f5136_5, .int f5136_6, .int f5136_7]))] [w] _ _ := hB
  refine lv_aload_n hx hb dX4_copyFrom_16 rfl (lv_at hl 0 rfl) ?_
  refine lv_aload_n hx hb dX4_copyFrom_17 rfl (lv_at hl 1 rfl) ?_
  refine va_get (D := D) (ci := 4) (v := .int f5136_2) (C := RX4) (T := TX4) (N := 8) hx hb hts iX4_copyFrom_4 hown hN.1 hB.1 1 rfl rfl 2 (by decide) (hts _ mX4_copyFrom_3) (fun _ h9 => h9) rfl dX4_copyFrom_18 ?_
  refine b_put (D := D) (ci := 4) (v := .int f5136_2) (ty := .int) (C := RX4) (T := TX4) (N := 8) hx hb hts iX4_copyFrom_4 tyX4 tyX4_ok nmX4 hown hN hB 0 rfl rfl 2 (by decide) (hts _ mX4_copyFrom_3) (fun _ h9 => h9) rfl (by decide +kernel) rfl rfl (Nat.le_of_ble_eq_true rfl) (.inr ⟨rfl, List.mem_of_getElem? (i := 0) rfl⟩) dX4_copyFrom_21 (fun H locs hB => ?_)
  have hB : Bx B0 D _ [(w, .inr (4, [.int f5136_0, .int f5136_1, .int f5136_2, .int f5137_3, .int f5137_4, .int f5137_5, .int f5137_6, .int f5137_7])), (v, .inr (4, [.int f5136_0, .int f5136_1, .int f5136_2, .int f5136_3, .int f5136_4, .int f5136_5, .int f5136_6, .int f5136_7]))] [w] _ _ := hB
  refine lv_aload_n hx hb dX4_copyFrom_24 rfl (lv_at hl 0 rfl) ?_
  refine lv_aload_n hx hb dX4_copyFrom_25 rfl (lv_at hl 1 rfl) ?_
  refine va_get (D := D) (ci := 4) (v := .int f5136_3) (C := RX4) (T := TX4) (N := 8) hx hb hts iX4_copyFrom_4 hown hN.1 hB.1 1 rfl rfl 3 (by decide) (hts _ mX4_copyFrom_4) (fun _ h9 => h9) rfl dX4_copyFrom_26 ?_
  refine b_put (D := D) (ci := 4) (v := .int f5136_3) (ty := .int) (C := RX4) (T := TX4) (N := 8) hx hb hts iX4_copyFrom_4 tyX4 tyX4_ok nmX4 hown hN hB 0 rfl rfl 3 (by decide) (hts _ mX4_copyFrom_4) (fun _ h9 => h9) rfl (by decide +kernel) rfl rfl (Nat.le_of_ble_eq_true rfl) (.inr ⟨rfl, List.mem_of_getElem? (i := 0) rfl⟩) dX4_copyFrom_29 (fun H locs hB => ?_)
  have hB : Bx B0 D _ [(w, .inr (4, [.int f5136_0, .int f5136_1, .int f5136_2, .int f5136_3, .int f5137_4, .int f5137_5, .int f5137_6, .int f5137_7])), (v, .inr (4, [.int f5136_0, .int f5136_1, .int f5136_2, .int f5136_3, .int f5136_4, .int f5136_5, .int f5136_6, .int f5136_7]))] [w] _ _ := hB
  refine lv_aload_n hx hb dX4_copyFrom_32 rfl (lv_at hl 0 rfl) ?_
  refine lv_aload_n hx hb dX4_copyFrom_33 rfl (lv_at hl 1 rfl) ?_
  refine va_get (D := D) (ci := 4) (v := .int f5136_4) (C := RX4) (T := TX4) (N := 8) hx hb hts iX4_copyFrom_4 hown hN.1 hB.1 1 rfl rfl 4 (by decide) (hts _ mX4_copyFrom_5) (fun _ h9 => h9) rfl dX4_copyFrom_34 ?_
  refine b_put (D := D) (ci := 4) (v := .int f5136_4) (ty := .int) (C := RX4) (T := TX4) (N := 8) hx hb hts iX4_copyFrom_4 tyX4 tyX4_ok nmX4 hown hN hB 0 rfl rfl 4 (by decide) (hts _ mX4_copyFrom_5) (fun _ h9 => h9) rfl (by decide +kernel) rfl rfl (Nat.le_of_ble_eq_true rfl) (.inr ⟨rfl, List.mem_of_getElem? (i := 0) rfl⟩) dX4_copyFrom_37 (fun H locs hB => ?_)
  have hB : Bx B0 D _ [(w, .inr (4, [.int f5136_0, .int f5136_1, .int f5136_2, .int f5136_3, .int f5136_4, .int f5137_5, .int f5137_6, .int f5137_7])), (v, .inr (4, [.int f5136_0, .int f5136_1, .int f5136_2, .int f5136_3, .int f5136_4, .int f5136_5, .int f5136_6, .int f5136_7]))] [w] _ _ := hB
  refine lv_aload_n hx hb dX4_copyFrom_40 rfl (lv_at hl 0 rfl) ?_
  refine lv_aload_n hx hb dX4_copyFrom_41 rfl (lv_at hl 1 rfl) ?_
  refine va_get (D := D) (ci := 4) (v := .int f5136_5) (C := RX4) (T := TX4) (N := 8) hx hb hts iX4_copyFrom_4 hown hN.1 hB.1 1 rfl rfl 5 (by decide) (hts _ mX4_copyFrom_6) (fun _ h9 => h9) rfl dX4_copyFrom_42 ?_
  refine b_put (D := D) (ci := 4) (v := .int f5136_5) (ty := .int) (C := RX4) (T := TX4) (N := 8) hx hb hts iX4_copyFrom_4 tyX4 tyX4_ok nmX4 hown hN hB 0 rfl rfl 5 (by decide) (hts _ mX4_copyFrom_6) (fun _ h9 => h9) rfl (by decide +kernel) rfl rfl (Nat.le_of_ble_eq_true rfl) (.inr ⟨rfl, List.mem_of_getElem? (i := 0) rfl⟩) dX4_copyFrom_45 (fun H locs hB => ?_)
  have hB : Bx B0 D _ [(w, .inr (4, [.int f5136_0, .int f5136_1, .int f5136_2, .int f5136_3, .int f5136_4, .int f5136_5, .int f5137_6, .int f5137_7])), (v, .inr (4, [.int f5136_0, .int f5136_1, .int f5136_2, .int f5136_3, .int f5136_4, .int f5136_5, .int f5136_6, .int f5136_7]))] [w] _ _ := hB
  refine lv_aload_n hx hb dX4_copyFrom_48 rfl (lv_at hl 0 rfl) ?_
  refine lv_aload_n hx hb dX4_copyFrom_49 rfl (lv_at hl 1 rfl) ?_
  refine va_get (D := D) (ci := 4) (v := .int f5136_6) (C := RX4) (T := TX4) (N := 8) hx hb hts iX4_copyFrom_4 hown hN.1 hB.1 1 rfl rfl 6 (by decide) (hts _ mX4_copyFrom_7) (fun _ h9 => h9) rfl dX4_copyFrom_50 ?_
  refine b_put (D := D) (ci := 4) (v := .int f5136_6) (ty := .int) (C := RX4) (T := TX4) (N := 8) hx hb hts iX4_copyFrom_4 tyX4 tyX4_ok nmX4 hown hN hB 0 rfl rfl 6 (by decide) (hts _ mX4_copyFrom_7) (fun _ h9 => h9) rfl (by decide +kernel) rfl rfl (Nat.le_of_ble_eq_true rfl) (.inr ⟨rfl, List.mem_of_getElem? (i := 0) rfl⟩) dX4_copyFrom_53 (fun H locs hB => ?_)
  have hB : Bx B0 D _ [(w, .inr (4, [.int f5136_0, .int f5136_1, .int f5136_2, .int f5136_3, .int f5136_4, .int f5136_5, .int f5136_6, .int f5137_7])), (v, .inr (4, [.int f5136_0, .int f5136_1, .int f5136_2, .int f5136_3, .int f5136_4, .int f5136_5, .int f5136_6, .int f5136_7]))] [w] _ _ := hB
  refine lv_aload_n hx hb dX4_copyFrom_56 rfl (lv_at hl 0 rfl) ?_
  refine lv_aload_n hx hb dX4_copyFrom_57 rfl (lv_at hl 1 rfl) ?_
  refine va_get (D := D) (ci := 4) (v := .int f5136_7) (C := RX4) (T := TX4) (N := 8) hx hb hts iX4_copyFrom_4 hown hN.1 hB.1 1 rfl rfl 7 (by decide) (hts _ mX4_copyFrom_8) (fun _ h9 => h9) rfl dX4_copyFrom_58 ?_
  refine b_put (D := D) (ci := 4) (v := .int f5136_7) (ty := .int) (C := RX4) (T := TX4) (N := 8) hx hb hts iX4_copyFrom_4 tyX4 tyX4_ok nmX4 hown hN hB 0 rfl rfl 7 (by decide) (hts _ mX4_copyFrom_8) (fun _ h9 => h9) rfl (by decide +kernel) rfl rfl (Nat.le_of_ble_eq_true rfl) (.inr ⟨rfl, List.mem_of_getElem? (i := 0) rfl⟩) dX4_copyFrom_61 (fun H locs hB => ?_)
  have hB : Bx B0 D _ [(w, .inr (4, [.int f5136_0, .int f5136_1, .int f5136_2, .int f5136_3, .int f5136_4, .int f5136_5, .int f5136_6, .int f5136_7])), (v, .inr (4, [.int f5136_0, .int f5136_1, .int f5136_2, .int f5136_3, .int f5136_4, .int f5136_5, .int f5136_6, .int f5136_7]))] [w] _ _ := hB
  have hF : Fr B0 [i] κ H0 _ := hF.close hB (fa_c (by simp [hw.2]) fa_n)
  have hT : WT B0 D cs T (kp κ w (κ v).2.2.1 (κ w).2.2.2) _ := hT.closeK w (κ v).2.2.1 (κ w).2.2.2 hB (by rw [hw.1]; decide) (by rw [hw.1]; decide) (List.mem_of_getElem? (i := 0) rfl) ⟨⟨0, _, rfl, kp_ok (ok_5 (k := ((κ w).1, (κ w).2.1, _, _)) hw.1 ⟨_, _, _, _, _, _, _, _, rfl, c5136⟩)⟩, trivial⟩
  have hL : OkL B0 _ := hB.2.2.2.2.2
  exact en_v hx hb hr hlocks hL (Nat.zero_le _) (Nat.zero_le _) dX4_copyFrom_64 (⟨hT, hF⟩)
theorem mX7_commitIfVoted_1 : (.fieldLink RX7 27 "OneBeat$World" "latest" "LOneBeat$Proposal;" : Cond) ∈ wsX7_commitIfVoted := List.mem_of_getElem? (i := 1) (by decide +kernel)
theorem iX7_commitIfVoted_7 : ∀ w ∈ wsX70, w ∈ wsX7_commitIfVoted := fun w h => List.mem_of_mem_drop (List.mem_of_mem_take ((show wsX70 = (wsX7_commitIfVoted.drop 65).take 16 by decide +kernel) ▸ h))
theorem iX7_commitIfVoted_4 : ∀ w ∈ wsX40, w ∈ wsX7_commitIfVoted := fun w h => List.mem_of_mem_drop (List.mem_of_mem_take ((show wsX40 = (wsX7_commitIfVoted.drop 81).take 8 by decide +kernel) ▸ h))
theorem mX7_commitIfVoted_2 : (.fieldLink RX7 52 "OneBeat$World" "setup" "LOneBeat$Setup;" : Cond) ∈ wsX7_commitIfVoted := List.mem_of_getElem? (i := 2) (by decide +kernel)
theorem iX7_commitIfVoted_6 : ∀ w ∈ wsX60, w ∈ wsX7_commitIfVoted := fun w h => List.mem_of_mem_drop (List.mem_of_mem_take ((show wsX60 = (wsX7_commitIfVoted.drop 89).take 8 by decide +kernel) ▸ h))
theorem mX7_commitIfVoted_3 : (.fieldLink RX7 80 "OneBeat$World" "committed" "I" : Cond) ∈ wsX7_commitIfVoted := List.mem_of_getElem? (i := 3) (by decide +kernel)
theorem mX7_commitIfVoted_4 : (.fieldLink RX7 77 "OneBeat$World" "made" "I" : Cond) ∈ wsX7_commitIfVoted := List.mem_of_getElem? (i := 4) (by decide +kernel)
theorem hdX3_takePlan_v : yX3_takePlan.cls = RX3 ∧ yX3_takePlan.cls ≠ "java/lang/invoke/MethodHandle" ∧ yX3_takePlan.cls ≠ "java/lang/invoke/VarHandle" ∧ (parseMethodDescriptor yX3_takePlan.desc).map (fun d => d.parameters.length) = some 4 := by decide +kernel
theorem hdX7_sendToOthers_v : yX7_sendToOthers.cls = RX7 ∧ yX7_sendToOthers.cls ≠ "java/lang/invoke/MethodHandle" ∧ yX7_sendToOthers.cls ≠ "java/lang/invoke/VarHandle" ∧ (parseMethodDescriptor yX7_sendToOthers.desc).map (fun d => d.parameters.length) = some 1 := by decide +kernel
set_option maxHeartbeats 4000000 in
set_option maxRecDepth 100000 in
theorem c_X7_commitIfVoted {l : Launch} {D : va_G} {cs : Nat → ClassId} {B0 T : Nat} {κ : KM} {H0 : Heap} (hT : WT B0 D cs T κ H0) {w i : Nat} (hw : T2 κ w 8 i) {C cn ln : Nat → Nat} {rw9 : Nat → Nat → Int32} {dl : Nat → Int32} {su tm : Nat} (hsu : (κ w).2.2.1 = su) (htm : (κ w).2.2.2 = tm) (hMW : MW D cs H0 i su tm C cn ln rw9 dl) {q0 pl b : Nat} (hbo : EL C dl cn rw9 q0 pl (κ (cs (420 + i))).2.2.1 b) (hb24 : b ≤ 24) : KC l yX7_commitIfVoted wsX7_commitIfVoted 4 135 ((56 * sumN C 16 + 22407 - 2 * sumN ln 16) / 35) (56 * sumN C 16 + 22407 - 2 * sumN ln 16) D cs B0 H0 [.ref w] (Qv (fun H => ∃ κ1, KU i κ κ1 ∧ WT B0 D cs T κ1 H ∧ Fr B0 [i, i + 20] κ H0 H ∧ ∃ cn1 ln1 rw1 k n, MW D cs H i su tm C cn1 ln1 rw1 dl ∧ GP H0 H ln ln1 k n ∧ κ1 w = κ w ∧ EL C dl cn1 rw1 q0 pl (κ1 (cs (420 + i))).2.2.1 b ∧ ∀ q, q < 16 → cn q ≤ cn1 q)) := by
  refine KC.of cX7_commitIfVoted 1 none (by decide) rfl (Nat.le_of_ble_eq_true rfl) ?_
  intro p e s m below meth c ls hx hb hr hml hown hts hlocks hin hN hE hH0 hl
  have hown : s.vm.findClass RX7 = some m.cls := hown
  have hl : lv_has ls 1 [(0, .ref w)] := hl
  have hL : OkL B0 [] := OkL.nil
  have hF : Fr B0 [i, i + 20] κ H0 H0 := Fr.rf
  obtain ⟨hmk, hpr, hli, -, hi10⟩ := hT.ml hw
  have ht16 := hMW.2.2.2
  have h15a : ¬ 15 = i := by omega
  have h15b : ¬ 15 = i + 20 := by omega
  have h15c : ¬ 15 = i + 40 := by omega
  have hGN : GN ln ln 0 0 := GN.rf
  have hs0 := hMW.2.2.1.sum
  refine lv_aload_n hx hb dX7_commitIfVoted_0 rfl (lv_at hl 0 rfl) ?_
  obtain ⟨hb5138, e5138, hat5138, hk5138⟩ := hT.o8 hw.1
  obtain ⟨f5138_0, f5138_1, f5138_2, f5138_3, f5138_4, f5138_5, f5138_6, f5138_7, f5138_8, f5138_9, f5138_10, f5138_11, f5138_12, f5138_13, f5138_14, f5138_15, rfl, t5138_0, c5138_su, t5138_1, t5138_2, t5138_3, t5138_4, t5138_5, c5138_tm, c5138_lt, c5138_ml, c5138_pr, c5138_li⟩ := hk5138
  rw [hw.2] at t5138_1
  rw [hw.2] at t5138_2
  rw [hw.2] at t5138_3
  rw [hw.2] at t5138_4
  rw [hw.2] at t5138_5
  rw [hw.2] at c5138_lt c5138_ml c5138_pr c5138_li
  subst c5138_ml
  subst c5138_pr
  subst c5138_li
  have esu5138 := (c5138_su.trans hsu).symm
  subst esu5138
  have ctm5138 : f5138_7 &&& 15 = nI tm := by rw [c5138_tm, htm]
  have hP : va_P D vwCl [(w, .inr (7, [.ref su, .ref f5138_1, .ref (cs (400 + i)), .ref (cs (420 + i)), .ref (cs (460 + i)), .ref f5138_5, .long f5138_6, .int f5138_7, .int f5138_8, .int f5138_9, .int f5138_10, .int f5138_11, .int f5138_12, .int f5138_13, .int f5138_14, .int f5138_15]))] _ := va_P.cons hat5138 va_P.nil
  refine va_get (D := D) (ci := 7) (v := .ref (cs (420 + i))) (C := RX7) (T := TX7) (N := 16) hx hb hts iX7_commitIfVoted_7 hown hN.1 hP 0 rfl rfl 3 (by decide) (hts _ mX7_commitIfVoted_1) (fun _ h9 => h9) rfl dX7_commitIfVoted_1 ?_
  obtain ⟨hb5139, e5139, hat5139, hk5139⟩ := hT.o5 t5138_3.1
  obtain ⟨f5139_0, f5139_1, f5139_2, f5139_3, f5139_4, f5139_5, f5139_6, f5139_7, rfl, c5139⟩ := hk5139
  have hP : va_P D vwCl [((cs (420 + i)), .inr (4, [.int f5139_0, .int f5139_1, .int f5139_2, .int f5139_3, .int f5139_4, .int f5139_5, .int f5139_6, .int f5139_7])), (w, .inr (7, [.ref su, .ref f5138_1, .ref (cs (400 + i)), .ref (cs (420 + i)), .ref (cs (460 + i)), .ref f5138_5, .long f5138_6, .int f5138_7, .int f5138_8, .int f5138_9, .int f5138_10, .int f5138_11, .int f5138_12, .int f5138_13, .int f5138_14, .int f5138_15]))] _ := va_P.cons hat5139 hP
  refine va_getN (D := D) (ci := 4) (v := .int f5139_5) (C := RX4) (T := TX4) (N := 8) hx hb hts iX7_commitIfVoted_4 hown hN.1 hP 0 rfl rfl 5 (by decide) (hN.f 12 rfl) (fun _ h9 => h9) rfl dX7_commitIfVoted_4 ?_
  refine lv_if_ne (tgt := 27) hx hb dX7_commitIfVoted_7 (by decide) (fun c5140 => ?_) (fun c5140 => ?_)
  · refine W.know (fun hg => ?_)
    rw [hH0] at hg
    exact en_v hx hb hr hlocks hL (Nat.zero_le _) (Nat.zero_le _) dX7_commitIfVoted_27 (⟨κ, KU.rf, hT, hF, cn, ln, rw9, 0, 0, hMW, ⟨hg, GN.rf⟩, rfl, hbo, fun _ _ => Nat.le_refl _⟩)
  · have hop : (κ (cs (420 + i))).2.2.1 = 0 := c5139.mp c5140
    have hb8 := hbo.op9 hop
    refine lv_aload_n hx hb dX7_commitIfVoted_10 rfl (lv_at hl 0 rfl) ?_
    refine va_get (D := D) (ci := 7) (v := .ref (cs (420 + i))) (C := RX7) (T := TX7) (N := 16) hx hb hts iX7_commitIfVoted_7 hown hN.1 hP 1 rfl rfl 3 (by decide) (hts _ mX7_commitIfVoted_1) (fun _ h9 => h9) rfl dX7_commitIfVoted_11 ?_
    refine va_getN (D := D) (ci := 4) (v := .int f5139_4) (C := RX4) (T := TX4) (N := 8) hx hb hts iX7_commitIfVoted_4 hown hN.1 hP 0 rfl rfl 4 (by decide) (hN.f 10 rfl) (fun _ h9 => h9) rfl dX7_commitIfVoted_14 ?_
    refine lv_aload_n hx hb dX7_commitIfVoted_17 rfl (lv_at hl 0 rfl) ?_
    refine va_get (D := D) (ci := 7) (v := .ref su) (C := RX7) (T := TX7) (N := 16) hx hb hts iX7_commitIfVoted_7 hown hN.1 hP 1 rfl rfl 0 (by decide) (hts _ mX7_commitIfVoted_2) (fun _ h9 => h9) rfl dX7_commitIfVoted_18 ?_
    obtain ⟨hb5141, e5141, hat5141, hk5141⟩ := hT.o7 t5138_0.1
    obtain ⟨f5141_0, f5141_1, f5141_2, f5141_3, f5141_4, f5141_5, f5141_6, f5141_7, rfl, c5141_0, c5141_3, c5141_mg, t5141_4, t5141_5, t5141_6, t5141_7⟩ := hk5141
    rw [t5138_0.2] at t5141_4
    rw [t5138_0.2] at t5141_5
    rw [t5138_0.2] at t5141_6
    rw [t5138_0.2] at t5141_7
    have hP : va_P D vwCl [(su, .inr (6, [.int (nI f5141_0), .int f5141_1, .int f5141_2, f5141_3, .ref f5141_4, .ref f5141_5, .ref f5141_6, .ref f5141_7])), ((cs (420 + i)), .inr (4, [.int f5139_0, .int f5139_1, .int f5139_2, .int f5139_3, .int f5139_4, .int f5139_5, .int f5139_6, .int f5139_7])), (w, .inr (7, [.ref su, .ref f5138_1, .ref (cs (400 + i)), .ref (cs (420 + i)), .ref (cs (460 + i)), .ref f5138_5, .long f5138_6, .int f5138_7, .int f5138_8, .int f5138_9, .int f5138_10, .int f5138_11, .int f5138_12, .int f5138_13, .int f5138_14, .int f5138_15]))] _ := va_P.cons hat5141 hP
    refine va_getN (D := D) (ci := 6) (v := .int f5141_1) (C := RX6) (T := TX6) (N := 8) hx hb hts iX7_commitIfVoted_6 hown hN.1 hP 0 rfl rfl 1 (by decide) (hN.f 41 rfl) (fun _ h9 => h9) rfl dX7_commitIfVoted_21 ?_
    refine lv_icmp_ge (tgt := 28) hx hb dX7_commitIfVoted_24 (by decide) (fun c5142 => ?_) (fun c5142 => ?_)
    · refine lv_aload_n hx hb dX7_commitIfVoted_28 rfl (lv_at hl 0 rfl) ?_
      refine va_get (D := D) (ci := 7) (v := .ref (cs (420 + i))) (C := RX7) (T := TX7) (N := 16) hx hb hts iX7_commitIfVoted_7 hown hN.1 hP 2 rfl rfl 3 (by decide) (hts _ mX7_commitIfVoted_1) (fun _ h9 => h9) rfl dX7_commitIfVoted_29 ?_
      refine lv_iconst (v := 1) hx hb dX7_commitIfVoted_32 (by decide) ?_
      have hB : Bx B0 D _ [(su, .inr (6, [.int (nI f5141_0), .int f5141_1, .int f5141_2, f5141_3, .ref f5141_4, .ref f5141_5, .ref f5141_6, .ref f5141_7])), ((cs (420 + i)), .inr (4, [.int f5139_0, .int f5139_1, .int f5139_2, .int f5139_3, .int f5139_4, .int f5139_5, .int f5139_6, .int f5139_7])), (w, .inr (7, [.ref su, .ref f5138_1, .ref (cs (400 + i)), .ref (cs (420 + i)), .ref (cs (460 + i)), .ref f5138_5, .long f5138_6, .int f5138_7, .int f5138_8, .int f5138_9, .int f5138_10, .int f5138_11, .int f5138_12, .int f5138_13, .int f5138_14, .int f5138_15]))] [] _ _ := Bx.of (fun a => (κ a).1) hL hP (fa_c hb5141 (fa_c hb5139 (fa_c hb5138 fa_n))) (by simp only [List.map_cons, List.map_nil, t5138_0.1, t5138_3.1, hw.1]; decide)
      refine b_putN (D := D) (ci := 4) (v := .int 1) (ty := .int) (C := RX4) (T := TX4) (N := 8) hx hb hts iX7_commitIfVoted_4 tyX4 tyX4_ok nmX4 hown hN hB 1 rfl rfl 5 (by decide) (hN.f 12 rfl) (fun _ h9 => h9) rfl (by decide +kernel) rfl rfl (Nat.le_of_ble_eq_true rfl) (.inl rfl) dX7_commitIfVoted_33 (fun H locs hB => ?_)
      have hB : Bx B0 D _ [(su, .inr (6, [.int (nI f5141_0), .int f5141_1, .int f5141_2, f5141_3, .ref f5141_4, .ref f5141_5, .ref f5141_6, .ref f5141_7])), ((cs (420 + i)), .inr (4, [.int f5139_0, .int f5139_1, .int f5139_2, .int f5139_3, .int f5139_4, .int 1, .int f5139_6, .int f5139_7])), (w, .inr (7, [.ref su, .ref f5138_1, .ref (cs (400 + i)), .ref (cs (420 + i)), .ref (cs (460 + i)), .ref f5138_5, .long f5138_6, .int f5138_7, .int f5138_8, .int f5138_9, .int f5138_10, .int f5138_11, .int f5138_12, .int f5138_13, .int f5138_14, .int f5138_15]))] [(cs (420 + i))] _ _ := hB
      refine lv_aload_n hx hb dX7_commitIfVoted_36 rfl (lv_at hl 0 rfl) ?_
      refine lv_dup hx hb dX7_commitIfVoted_37 rfl ?_
      refine va_get (D := D) (ci := 7) (v := .int f5138_12) (C := RX7) (T := TX7) (N := 16) hx hb hts iX7_commitIfVoted_7 hown hN.1 hB.1 2 rfl rfl 12 (by decide) (hts _ mX7_commitIfVoted_3) (fun _ h9 => h9) rfl dX7_commitIfVoted_38 ?_
      refine lv_iconst (v := 1) hx hb dX7_commitIfVoted_41 (by decide) ?_
      refine lv_iadd hx hb dX7_commitIfVoted_42 ?_
      refine gn_i (fun x5143 => ?_)
      refine b_put (D := D) (ci := 7) (v := .int x5143) (ty := .int) (C := RX7) (T := TX7) (N := 16) hx hb hts iX7_commitIfVoted_7 tyX7 tyX7_ok nmX7 hown hN hB 2 rfl rfl 12 (by decide) (hts _ mX7_commitIfVoted_3) (fun _ h9 => h9) rfl (by decide +kernel) rfl rfl (Nat.le_of_ble_eq_true rfl) (.inl rfl) dX7_commitIfVoted_43 (fun H locs hB => ?_)
      have hB : Bx B0 D _ [(su, .inr (6, [.int (nI f5141_0), .int f5141_1, .int f5141_2, f5141_3, .ref f5141_4, .ref f5141_5, .ref f5141_6, .ref f5141_7])), ((cs (420 + i)), .inr (4, [.int f5139_0, .int f5139_1, .int f5139_2, .int f5139_3, .int f5139_4, .int 1, .int f5139_6, .int f5139_7])), (w, .inr (7, [.ref su, .ref f5138_1, .ref (cs (400 + i)), .ref (cs (420 + i)), .ref (cs (460 + i)), .ref f5138_5, .long f5138_6, .int f5138_7, .int f5138_8, .int f5138_9, .int f5138_10, .int f5138_11, .int x5143, .int f5138_13, .int f5138_14, .int f5138_15]))] [w, (cs (420 + i))] _ _ := hB
      refine lv_aload_n hx hb dX7_commitIfVoted_46 rfl (lv_at hl 0 rfl) ?_
      refine lv_aload_n hx hb dX7_commitIfVoted_47 rfl (lv_at hl 0 rfl) ?_
      refine va_get (D := D) (ci := 7) (v := .ref (cs (420 + i))) (C := RX7) (T := TX7) (N := 16) hx hb hts iX7_commitIfVoted_7 hown hN.1 hB.1 2 rfl rfl 3 (by decide) (hts _ mX7_commitIfVoted_1) (fun _ h9 => h9) rfl dX7_commitIfVoted_48 ?_
      refine va_getN (D := D) (ci := 4) (v := .int f5139_3) (C := RX4) (T := TX4) (N := 8) hx hb hts iX7_commitIfVoted_4 hown hN.1 hB.1 1 rfl rfl 3 (by decide) (hN.f 9 rfl) (fun _ h9 => h9) rfl dX7_commitIfVoted_51 ?_
      have hMW := hMW.fr hT hw hsu (Fr.close (S := [i]) Fr.rf hB (fa_c (by simp [hw.2]) (fa_c (by simp [t5138_3.2]) fa_n))) (by first | (simp; done) | (simp [h15a, h15b, h15c]; done) | (simp; omega) | omega) (by first | (simp; done) | (simp [h15a, h15b, h15c]; done) | (simp; omega) | omega)
      have hF : Fr B0 [i, i + 20] κ H0 _ := hF.close hB (fa_c (by simp [hw.2]) (fa_c (by simp [t5138_3.2]) fa_n))
      have hT : WT B0 D cs T (kp κ (cs (420 + i)) 1 (κ (cs (420 + i))).2.2.2) _ := hT.closeK (cs (420 + i)) 1 (κ (cs (420 + i))).2.2.2 hB (by rw [t5138_3.1]; decide) (by rw [t5138_3.1]; decide) (List.mem_of_getElem? (i := 1) rfl) ⟨⟨2, _, rfl, kp_oth (ne_c hw.1 t5138_3.1 (by decide)) (by rw [t5138_3.1]; decide) (by rw [t5138_3.1]; decide) (ok_8 hw.1 ⟨_, _, _, _, _, _, _, _, _, _, _, _, _, _, _, _, rfl, t5138_0, c5138_su, ⟨t5138_1.1, by rw [hw.2]; exact t5138_1.2⟩, ⟨t5138_2.1, by rw [hw.2]; exact t5138_2.2⟩, ⟨t5138_3.1, by rw [hw.2]; exact t5138_3.2⟩, ⟨t5138_4.1, by rw [hw.2]; exact t5138_4.2⟩, ⟨t5138_5.1, by rw [hw.2]; exact t5138_5.2⟩, c5138_tm, (by rw [hw.2]; omega), (by first | rw [hw.2] | (dsimp only; rw [hw.2])), (by first | rw [hw.2] | (dsimp only; rw [hw.2])), (by first | rw [hw.2] | (dsimp only; rw [hw.2]))⟩)⟩, ⟨⟨1, _, rfl, kp_ok (ok_5 (k := ((κ (cs (420 + i))).1, (κ (cs (420 + i))).2.1, _, _)) t5138_3.1 ⟨_, _, _, _, _, _, _, _, rfl, ⟨fun h9 => absurd h9 (by decide), fun h9 => absurd (show (1 : Nat) = 0 from h9) (by decide)⟩⟩)⟩, trivial⟩⟩
      have hL : OkL B0 _ := hB.2.2.2.2.2
      have hP : va_P D vwCl [(su, .inr (6, [.int (nI f5141_0), .int f5141_1, .int f5141_2, f5141_3, .ref f5141_4, .ref f5141_5, .ref f5141_6, .ref f5141_7])), ((cs (420 + i)), .inr (4, [.int f5139_0, .int f5139_1, .int f5139_2, .int f5139_3, .int f5139_4, .int 1, .int f5139_6, .int f5139_7])), (w, .inr (7, [.ref su, .ref f5138_1, .ref (cs (400 + i)), .ref (cs (420 + i)), .ref (cs (460 + i)), .ref f5138_5, .long f5138_6, .int f5138_7, .int f5138_8, .int f5138_9, .int f5138_10, .int f5138_11, .int x5143, .int f5138_13, .int f5138_14, .int f5138_15]))] _ := hB.1
      obtain ⟨κ5144, hκ5144⟩ : ∃ κq : KM, κq = (kp κ (cs (420 + i)) 1 (κ (cs (420 + i))).2.2.2) := ⟨_, rfl⟩
      have hxf5144 : KF κ κ5144 := by rw [hκ5144]; exact KF.kp
      rw [← hκ5144] at hT
      have hKF : KF κ κ5144 := hxf5144
      have hKU : KU i κ κ5144 := (show KU i κ κ5144 by rw [hκ5144]; exact KU.kp t5138_3)
      have hkw9 : κ5144 w = κ w := by rw [hκ5144]; exact kp_n (by first | exact ne_c hw.1 t5138_3.1 (by decide) | exact ne_o hw.2 t5138_3.2 (by first | assumption | exact (fun e9 => hij e9.symm) | omega))
      rw [← hkw9] at hsu htm
      have hKW : κ5144 w = κ w := hkw9
      have hw := (KF.t2 hxf5144 hw (by decide))
      have hpr := (KF.t2 hxf5144 hpr (by decide))
      have hmk := (KF.t2 hxf5144 hmk (by decide))
      have hli := (KF.t2 hxf5144 hli (by decide))
      have hop1 : (κ5144 (cs (420 + i))).2.2.1 = 1 := by rw [hκ5144, kp_a]
      refine cv_r (As := [.int f5139_3]) (rest := []) (b := w) ⟨hx, hb, hml, hown, hts⟩ (c_X7_at hT (w := w) hw (x := f5139_3)) (cwV 1 hts gX7_commitIfVoted_X7_at rfl rfl rfl hdX7_at_v ⟨Nat.le_of_ble_eq_true rfl, Nat.le_of_ble_eq_true rfl⟩) hN hE hL (rcv8 hN hT hw.1) rfl rfl hl.1 (Nat.le_of_ble_eq_true rfl) dX7_commitIfVoted_54 (Nat.zero_le _) (Nat.zero_le _) (fun r5145 H1 locs hL hqr5145 => ?_)
      obtain ⟨h9, hqr5145⟩ := hqr5145; replace h9 := h9.symm; subst h9
      refine lv_aload_n hx hb dX7_commitIfVoted_57 rfl (lv_at hl 0 rfl) ?_
      obtain ⟨hb5146, e5146, hat5146, hk5146⟩ := hT.o8 hw.1
      obtain ⟨f5146_0, f5146_1, f5146_2, f5146_3, f5146_4, f5146_5, f5146_6, f5146_7, f5146_8, f5146_9, f5146_10, f5146_11, f5146_12, f5146_13, f5146_14, f5146_15, rfl, t5146_0, c5146_su, t5146_1, t5146_2, t5146_3, t5146_4, t5146_5, c5146_tm, c5146_lt, c5146_ml, c5146_pr, c5146_li⟩ := hk5146
      rw [hw.2] at t5146_1
      rw [hw.2] at t5146_2
      rw [hw.2] at t5146_3
      rw [hw.2] at t5146_4
      rw [hw.2] at t5146_5
      rw [hw.2] at c5146_lt c5146_ml c5146_pr c5146_li
      subst c5146_ml
      subst c5146_pr
      subst c5146_li
      have esu5146 := (c5146_su.trans hsu).symm
      subst esu5146
      have ctm5146 : f5146_7 &&& 15 = nI tm := by rw [c5146_tm, htm]
      have hP : va_P D vwCl [(w, .inr (7, [.ref su, .ref f5146_1, .ref (cs (400 + i)), .ref (cs (420 + i)), .ref (cs (460 + i)), .ref f5146_5, .long f5146_6, .int f5146_7, .int f5146_8, .int f5146_9, .int f5146_10, .int f5146_11, .int f5146_12, .int f5146_13, .int f5146_14, .int f5146_15]))] _ := va_P.cons hat5146 va_P.nil
      refine va_get (D := D) (ci := 7) (v := .int f5146_11) (C := RX7) (T := TX7) (N := 16) hx hb hts iX7_commitIfVoted_7 hown hN.1 hP 0 rfl rfl 11 (by decide) (hts _ mX7_commitIfVoted_4) (fun _ h9 => h9) rfl dX7_commitIfVoted_58 ?_
      refine lv_iconst (v := 1) hx hb dX7_commitIfVoted_61 (by decide) ?_
      refine lv_isub hx hb dX7_commitIfVoted_62 ?_
      refine gn_i (fun x5147 => ?_)
      refine lv_aload_n hx hb dX7_commitIfVoted_63 rfl (lv_at hl 0 rfl) ?_
      refine va_get (D := D) (ci := 7) (v := .ref (cs (420 + i))) (C := RX7) (T := TX7) (N := 16) hx hb hts iX7_commitIfVoted_7 hown hN.1 hP 0 rfl rfl 3 (by decide) (hts _ mX7_commitIfVoted_1) (fun _ h9 => h9) rfl dX7_commitIfVoted_64 ?_
      obtain ⟨hb5148, e5148, hat5148, hk5148⟩ := hT.o5 t5146_3.1
      obtain ⟨f5148_0, f5148_1, f5148_2, f5148_3, f5148_4, f5148_5, f5148_6, f5148_7, rfl, c5148⟩ := hk5148
      have hP : va_P D vwCl [((cs (420 + i)), .inr (4, [.int f5148_0, .int f5148_1, .int f5148_2, .int f5148_3, .int f5148_4, .int f5148_5, .int f5148_6, .int f5148_7])), (w, .inr (7, [.ref su, .ref f5146_1, .ref (cs (400 + i)), .ref (cs (420 + i)), .ref (cs (460 + i)), .ref f5146_5, .long f5146_6, .int f5146_7, .int f5146_8, .int f5146_9, .int f5146_10, .int f5146_11, .int f5146_12, .int f5146_13, .int f5146_14, .int f5146_15]))] _ := va_P.cons hat5148 hP
      refine va_getN (D := D) (ci := 4) (v := .int f5148_0) (C := RX4) (T := TX4) (N := 8) hx hb hts iX7_commitIfVoted_4 hown hN.1 hP 0 rfl rfl 0 (by decide) (hN.f 5 rfl) (fun _ h9 => h9) rfl dX7_commitIfVoted_67 ?_
      refine lv_aload_n hx hb dX7_commitIfVoted_70 rfl (lv_at hl 0 rfl) ?_
      refine va_get (D := D) (ci := 7) (v := .ref (cs (420 + i))) (C := RX7) (T := TX7) (N := 16) hx hb hts iX7_commitIfVoted_7 hown hN.1 hP 1 rfl rfl 3 (by decide) (hts _ mX7_commitIfVoted_1) (fun _ h9 => h9) rfl dX7_commitIfVoted_71 ?_
      refine va_getN (D := D) (ci := 4) (v := .int f5148_1) (C := RX4) (T := TX4) (N := 8) hx hb hts iX7_commitIfVoted_4 hown hN.1 hP 0 rfl rfl 1 (by decide) (hN.f 7 rfl) (fun _ h9 => h9) rfl dX7_commitIfVoted_74 ?_
      refine lv_iconst (v := 2) hx hb dX7_commitIfVoted_77 (by decide) ?_
      refine cv_v (As := [.int x5147, .int f5148_0, .int f5148_1, .int 2]) (rest := []) (b := r5145) ⟨hx, hb, hml, hown, hts⟩ (c_X3_takePlan hT (w := r5145) hqr5145 (x := x5147) (y := f5148_0) (z := f5148_1) (u := 2)) (cwV 4 hts gX7_commitIfVoted_X3_takePlan rfl rfl rfl hdX3_takePlan_v ⟨Nat.le_of_ble_eq_true rfl, Nat.le_of_ble_eq_true rfl⟩) hN hE hL (rcv4 hN hT hqr5145.1) rfl rfl hl.1 (Nat.le_of_ble_eq_true rfl) dX7_commitIfVoted_78 (Nat.zero_le _) (Nat.zero_le _) (fun H1 locs hL hqr5149 => ?_)
      obtain ⟨hT1, hF1⟩ := hqr5149
      have hMW := hMW.fr hT hw hsu hF1 (by first | (simp; done) | (simp [h15a, h15b, h15c]; done) | (simp; omega) | omega) (by first | (simp; done) | (simp [h15a, h15b, h15c]; done) | (simp; omega) | omega)
      have hF := hF.tr ((hF1.kf hKF).mono (by simp))
      have hT := hT1
      refine lv_aload_n hx hb dX7_commitIfVoted_81 rfl (lv_at hl 0 rfl) ?_
      refine lv_iconst (v := 4) hx hb dX7_commitIfVoted_82 (by decide) ?_
      refine W.know (fun hgb => ?_)
      rw [hH0] at hgb
      refine cv_v (As := [.int 4]) (rest := []) (b := w) ⟨hx, hb, hml, hown, hts⟩ (c_X7_sendToOthers_d1 hT (w := w) hw (x := 4) hsu htm hMW (by decide) (q0 := q0) (pl := pl) (by omega)) (cwV 1 hts gX7_commitIfVoted_X7_sendToOthers rfl rfl rfl hdX7_sendToOthers_v ⟨Nat.le_of_ble_eq_true rfl, Nat.le_of_ble_eq_true rfl⟩) hN hE hL (rcv8 hN hT hw.1) rfl rfl hl.1 (Nat.le_of_ble_eq_true rfl) dX7_commitIfVoted_83 (show 0 + ((56 * sumN C 16 + 22407 - 2 * sumN ln 16) / 35) ≤ ((56 * sumN C 16 + 22407 - 2 * sumN ln 16) / 35) by omega) (show 0 + (56 * sumN C 16 + 22407 - 2 * sumN ln 16) ≤ (56 * sumN C 16 + 22407 - 2 * sumN ln 16) by omega) (fun H1 locs hL hqr5150 => ?_)
      obtain ⟨κr5150, hxr5150, hT1, hF1, hqr5150⟩ := hqr5150
      have hTo := hT
      have hwo := hw
      have hsuo := hsu
      have hF9 := hF1
      have hF := hF.tr ((hF1.kf hKF).mono (by simp))
      have hT := hT1
      have hKF := hKF.tr hxr5150.f
      have hKU : KU i κ κr5150 := hKU.tr (KX.u (i := i) hxr5150)
      have hkw9 : κr5150 w = κ5144 w := hxr5150 w (by rw [hw.1]; decide)
      rw [← hkw9] at hsu htm
      have hko9 : κr5150 (cs (420 + i)) = κ5144 (cs (420 + i)) := hxr5150 _ (by rw [hpr.1]; decide)
      have hKW : κr5150 w = κ w := hkw9.trans hKW
      rw [← hko9] at hop1
      have hw := (hxr5150.f.t2 hw (by decide))
      have hpr := (hxr5150.f.t2 hpr (by decide))
      have hmk := (hxr5150.f.t2 hmk (by decide))
      have hli := (hxr5150.f.t2 hli (by decide))
      obtain ⟨c5151, l5152, w5153, k5154, n5155, m5156, g5157, e5158, o5159⟩ := hqr5150
      have hMW := m5156
      obtain ⟨k5160, n5161, hGP⟩ : ∃ k9 n9, GP H0 _ ln l5152 k9 n9 := ⟨_, _, GP.tr (show GP H0 _ ln ln _ _ from ⟨hgb, hGN⟩) g5157⟩
      refine W.tight (k := k5160) (n := n5161) (by rw [hH0]; exact hGP.1) ?_
      have hGN : GN ln l5152 k5160 n5161 := hGP.2
      have hgk5160 := hGN.1
      have hgn5161 := hGN.2
      have hsk5160 := hMW.2.2.1.sum
      refine W.know (fun hg => ?_)
      rw [hH0] at hg
      exact en_v hx hb hr hlocks hL (show k5160 ≤ ((56 * sumN C 16 + 22407 - 2 * sumN ln 16) / 35) by omega) (show n5161 ≤ (56 * sumN C 16 + 22407 - 2 * sumN ln 16) by omega) dX7_commitIfVoted_86 (⟨_, hKU, hT, hF, _, _, _, _, _, hMW, ⟨hg, hGN⟩, hKW, EL.cl9 (by rw [hop1]; decide) (by omega), o5159⟩)
    · refine W.know (fun hg => ?_)
      rw [hH0] at hg
      exact en_v hx hb hr hlocks hL (Nat.zero_le _) (Nat.zero_le _) dX7_commitIfVoted_27 (⟨κ, KU.rf, hT, hF, cn, ln, rw9, 0, 0, hMW, ⟨hg, GN.rf⟩, rfl, hbo, fun _ _ => Nat.le_refl _⟩)
theorem mX7_giveUp_1 : (.fieldLink RX7 27 "OneBeat$World" "latest" "LOneBeat$Proposal;" : Cond) ∈ wsX7_giveUp := List.mem_of_getElem? (i := 1) (by decide +kernel)
theorem iX7_giveUp_7 : ∀ w ∈ wsX70, w ∈ wsX7_giveUp := fun w h => List.mem_of_mem_drop (List.mem_of_mem_take ((show wsX70 = (wsX7_giveUp.drop 63).take 16 by decide +kernel) ▸ h))
theorem iX7_giveUp_4 : ∀ w ∈ wsX40, w ∈ wsX7_giveUp := fun w h => List.mem_of_mem_drop (List.mem_of_mem_take ((show wsX40 = (wsX7_giveUp.drop 79).take 8 by decide +kernel) ▸ h))
theorem mX7_giveUp_2 : (.fieldLink RX7 83 "OneBeat$World" "givenUp" "I" : Cond) ∈ wsX7_giveUp := List.mem_of_getElem? (i := 2) (by decide +kernel)
theorem iX7_giveUp_3 : ∀ w ∈ wsX30, w ∈ wsX7_giveUp := fun w h => List.mem_of_mem_drop (List.mem_of_mem_take ((show wsX30 = (wsX7_giveUp.drop 87).take 10 by decide +kernel) ▸ h))
theorem mX7_giveUp_3 : (.fieldLink RX7 77 "OneBeat$World" "made" "I" : Cond) ∈ wsX7_giveUp := List.mem_of_getElem? (i := 3) (by decide +kernel)
set_option maxHeartbeats 4000000 in
set_option maxRecDepth 100000 in
theorem c_X7_giveUp {l : Launch} {D : va_G} {cs : Nat → ClassId} {B0 T : Nat} {κ : KM} {H0 : Heap} (hT : WT B0 D cs T κ H0) {w i : Nat} (hw : T2 κ w 8 i) {C cn ln : Nat → Nat} {rw9 : Nat → Nat → Int32} {dl : Nat → Int32} {su tm : Nat} (hsu : (κ w).2.2.1 = su) (htm : (κ w).2.2.2 = tm) (hMW : MW D cs H0 i su tm C cn ln rw9 dl) {q0 pl b : Nat} (hbo : EL C dl cn rw9 q0 pl (κ (cs (420 + i))).2.2.1 b) (hb24 : b ≤ 24) (hop : (κ (cs (420 + i))).2.2.1 = 0) : KC l yX7_giveUp wsX7_giveUp 4 135 ((56 * sumN C 16 + 22407 - 2 * sumN ln 16) / 35) (56 * sumN C 16 + 22407 - 2 * sumN ln 16) D cs B0 H0 [.ref w] (Qv (fun H => ∃ κ1, KU i κ κ1 ∧ WT B0 D cs T κ1 H ∧ Fr B0 [i, i + 20] κ H0 H ∧ ∃ cn1 ln1 rw1 k n, MW D cs H i su tm C cn1 ln1 rw1 dl ∧ GP H0 H ln ln1 k n ∧ κ1 w = κ w ∧ EL C dl cn1 rw1 q0 pl (κ1 (cs (420 + i))).2.2.1 b)) := by
  refine KC.of cX7_giveUp 2 none (by decide) rfl (Nat.le_of_ble_eq_true rfl) ?_
  intro p e s m below meth c ls hx hb hr hml hown hts hlocks hin hN hE hH0 hl
  have hown : s.vm.findClass RX7 = some m.cls := hown
  have hl : lv_has ls 2 [(0, .ref w)] := hl
  have hL : OkL B0 [] := OkL.nil
  have hF : Fr B0 [i, i + 20] κ H0 H0 := Fr.rf
  obtain ⟨hmk, hpr, hli, -, hi10⟩ := hT.ml hw
  have ht16 := hMW.2.2.2
  have h15a : ¬ 15 = i := by omega
  have h15b : ¬ 15 = i + 20 := by omega
  have h15c : ¬ 15 = i + 40 := by omega
  have hGN : GN ln ln 0 0 := GN.rf
  have hs0 := hMW.2.2.1.sum
  have hb8 := hbo.op9 hop
  refine lv_aload_n hx hb dX7_giveUp_0 rfl (lv_at hl 0 rfl) ?_
  obtain ⟨hb5162, e5162, hat5162, hk5162⟩ := hT.o8 hw.1
  obtain ⟨f5162_0, f5162_1, f5162_2, f5162_3, f5162_4, f5162_5, f5162_6, f5162_7, f5162_8, f5162_9, f5162_10, f5162_11, f5162_12, f5162_13, f5162_14, f5162_15, rfl, t5162_0, c5162_su, t5162_1, t5162_2, t5162_3, t5162_4, t5162_5, c5162_tm, c5162_lt, c5162_ml, c5162_pr, c5162_li⟩ := hk5162
  rw [hw.2] at t5162_1
  rw [hw.2] at t5162_2
  rw [hw.2] at t5162_3
  rw [hw.2] at t5162_4
  rw [hw.2] at t5162_5
  rw [hw.2] at c5162_lt c5162_ml c5162_pr c5162_li
  subst c5162_ml
  subst c5162_pr
  subst c5162_li
  have esu5162 := (c5162_su.trans hsu).symm
  subst esu5162
  have ctm5162 : f5162_7 &&& 15 = nI tm := by rw [c5162_tm, htm]
  have hP : va_P D vwCl [(w, .inr (7, [.ref su, .ref f5162_1, .ref (cs (400 + i)), .ref (cs (420 + i)), .ref (cs (460 + i)), .ref f5162_5, .long f5162_6, .int f5162_7, .int f5162_8, .int f5162_9, .int f5162_10, .int f5162_11, .int f5162_12, .int f5162_13, .int f5162_14, .int f5162_15]))] _ := va_P.cons hat5162 va_P.nil
  refine va_get (D := D) (ci := 7) (v := .ref (cs (420 + i))) (C := RX7) (T := TX7) (N := 16) hx hb hts iX7_giveUp_7 hown hN.1 hP 0 rfl rfl 3 (by decide) (hts _ mX7_giveUp_1) (fun _ h9 => h9) rfl dX7_giveUp_1 ?_
  refine lv_iconst (v := 2) hx hb dX7_giveUp_4 (by decide) ?_
  obtain ⟨hb5163, e5163, hat5163, hk5163⟩ := hT.o5 t5162_3.1
  obtain ⟨f5163_0, f5163_1, f5163_2, f5163_3, f5163_4, f5163_5, f5163_6, f5163_7, rfl, c5163⟩ := hk5163
  have hP : va_P D vwCl [((cs (420 + i)), .inr (4, [.int f5163_0, .int f5163_1, .int f5163_2, .int f5163_3, .int f5163_4, .int f5163_5, .int f5163_6, .int f5163_7])), (w, .inr (7, [.ref su, .ref f5162_1, .ref (cs (400 + i)), .ref (cs (420 + i)), .ref (cs (460 + i)), .ref f5162_5, .long f5162_6, .int f5162_7, .int f5162_8, .int f5162_9, .int f5162_10, .int f5162_11, .int f5162_12, .int f5162_13, .int f5162_14, .int f5162_15]))] _ := va_P.cons hat5163 hP
  have hB : Bx B0 D _ [((cs (420 + i)), .inr (4, [.int f5163_0, .int f5163_1, .int f5163_2, .int f5163_3, .int f5163_4, .int f5163_5, .int f5163_6, .int f5163_7])), (w, .inr (7, [.ref su, .ref f5162_1, .ref (cs (400 + i)), .ref (cs (420 + i)), .ref (cs (460 + i)), .ref f5162_5, .long f5162_6, .int f5162_7, .int f5162_8, .int f5162_9, .int f5162_10, .int f5162_11, .int f5162_12, .int f5162_13, .int f5162_14, .int f5162_15]))] [] _ _ := Bx.of (fun a => (κ a).1) hL hP (fa_c hb5163 (fa_c hb5162 fa_n)) (by simp only [List.map_cons, List.map_nil, t5162_3.1, hw.1]; decide)
  refine b_putN (D := D) (ci := 4) (v := .int 2) (ty := .int) (C := RX4) (T := TX4) (N := 8) hx hb hts iX7_giveUp_4 tyX4 tyX4_ok nmX4 hown hN hB 0 rfl rfl 5 (by decide) (hN.f 12 rfl) (fun _ h9 => h9) rfl (by decide +kernel) rfl rfl (Nat.le_of_ble_eq_true rfl) (.inl rfl) dX7_giveUp_5 (fun H locs hB => ?_)
  have hB : Bx B0 D _ [((cs (420 + i)), .inr (4, [.int f5163_0, .int f5163_1, .int f5163_2, .int f5163_3, .int f5163_4, .int 2, .int f5163_6, .int f5163_7])), (w, .inr (7, [.ref su, .ref f5162_1, .ref (cs (400 + i)), .ref (cs (420 + i)), .ref (cs (460 + i)), .ref f5162_5, .long f5162_6, .int f5162_7, .int f5162_8, .int f5162_9, .int f5162_10, .int f5162_11, .int f5162_12, .int f5162_13, .int f5162_14, .int f5162_15]))] [(cs (420 + i))] _ _ := hB
  refine lv_aload_n hx hb dX7_giveUp_8 rfl (lv_at hl 0 rfl) ?_
  refine lv_dup hx hb dX7_giveUp_9 rfl ?_
  refine va_get (D := D) (ci := 7) (v := .int f5162_13) (C := RX7) (T := TX7) (N := 16) hx hb hts iX7_giveUp_7 hown hN.1 hB.1 1 rfl rfl 13 (by decide) (hts _ mX7_giveUp_2) (fun _ h9 => h9) rfl dX7_giveUp_10 ?_
  refine lv_iconst (v := 1) hx hb dX7_giveUp_13 (by decide) ?_
  refine lv_iadd hx hb dX7_giveUp_14 ?_
  refine gn_i (fun x5164 => ?_)
  refine b_put (D := D) (ci := 7) (v := .int x5164) (ty := .int) (C := RX7) (T := TX7) (N := 16) hx hb hts iX7_giveUp_7 tyX7 tyX7_ok nmX7 hown hN hB 1 rfl rfl 13 (by decide) (hts _ mX7_giveUp_2) (fun _ h9 => h9) rfl (by decide +kernel) rfl rfl (Nat.le_of_ble_eq_true rfl) (.inl rfl) dX7_giveUp_15 (fun H locs hB => ?_)
  have hB : Bx B0 D _ [((cs (420 + i)), .inr (4, [.int f5163_0, .int f5163_1, .int f5163_2, .int f5163_3, .int f5163_4, .int 2, .int f5163_6, .int f5163_7])), (w, .inr (7, [.ref su, .ref f5162_1, .ref (cs (400 + i)), .ref (cs (420 + i)), .ref (cs (460 + i)), .ref f5162_5, .long f5162_6, .int f5162_7, .int f5162_8, .int f5162_9, .int f5162_10, .int f5162_11, .int f5162_12, .int x5164, .int f5162_14, .int f5162_15]))] [w, (cs (420 + i))] _ _ := hB
  refine lv_aload_n hx hb dX7_giveUp_18 rfl (lv_at hl 0 rfl) ?_
  refine lv_aload_n hx hb dX7_giveUp_19 rfl (lv_at hl 0 rfl) ?_
  refine va_get (D := D) (ci := 7) (v := .ref (cs (420 + i))) (C := RX7) (T := TX7) (N := 16) hx hb hts iX7_giveUp_7 hown hN.1 hB.1 1 rfl rfl 3 (by decide) (hts _ mX7_giveUp_1) (fun _ h9 => h9) rfl dX7_giveUp_20 ?_
  refine va_getN (D := D) (ci := 4) (v := .int f5163_3) (C := RX4) (T := TX4) (N := 8) hx hb hts iX7_giveUp_4 hown hN.1 hB.1 0 rfl rfl 3 (by decide) (hN.f 9 rfl) (fun _ h9 => h9) rfl dX7_giveUp_23 ?_
  have hMW := hMW.fr hT hw hsu (Fr.close (S := [i]) Fr.rf hB (fa_c (by simp [hw.2]) (fa_c (by simp [t5162_3.2]) fa_n))) (by first | (simp; done) | (simp [h15a, h15b, h15c]; done) | (simp; omega) | omega) (by first | (simp; done) | (simp [h15a, h15b, h15c]; done) | (simp; omega) | omega)
  have hF : Fr B0 [i, i + 20] κ H0 _ := hF.close hB (fa_c (by simp [hw.2]) (fa_c (by simp [t5162_3.2]) fa_n))
  have hT : WT B0 D cs T (kp κ (cs (420 + i)) 1 (κ (cs (420 + i))).2.2.2) _ := hT.closeK (cs (420 + i)) 1 (κ (cs (420 + i))).2.2.2 hB (by rw [t5162_3.1]; decide) (by rw [t5162_3.1]; decide) (List.mem_of_getElem? (i := 1) rfl) ⟨⟨1, _, rfl, kp_oth (ne_c hw.1 t5162_3.1 (by decide)) (by rw [t5162_3.1]; decide) (by rw [t5162_3.1]; decide) (ok_8 hw.1 ⟨_, _, _, _, _, _, _, _, _, _, _, _, _, _, _, _, rfl, t5162_0, c5162_su, ⟨t5162_1.1, by rw [hw.2]; exact t5162_1.2⟩, ⟨t5162_2.1, by rw [hw.2]; exact t5162_2.2⟩, ⟨t5162_3.1, by rw [hw.2]; exact t5162_3.2⟩, ⟨t5162_4.1, by rw [hw.2]; exact t5162_4.2⟩, ⟨t5162_5.1, by rw [hw.2]; exact t5162_5.2⟩, c5162_tm, (by rw [hw.2]; omega), (by first | rw [hw.2] | (dsimp only; rw [hw.2])), (by first | rw [hw.2] | (dsimp only; rw [hw.2])), (by first | rw [hw.2] | (dsimp only; rw [hw.2]))⟩)⟩, ⟨⟨0, _, rfl, kp_ok (ok_5 (k := ((κ (cs (420 + i))).1, (κ (cs (420 + i))).2.1, _, _)) t5162_3.1 ⟨_, _, _, _, _, _, _, _, rfl, ⟨fun h9 => absurd h9 (by decide), fun h9 => absurd (show (1 : Nat) = 0 from h9) (by decide)⟩⟩)⟩, trivial⟩⟩
  have hL : OkL B0 _ := hB.2.2.2.2.2
  have hP : va_P D vwCl [((cs (420 + i)), .inr (4, [.int f5163_0, .int f5163_1, .int f5163_2, .int f5163_3, .int f5163_4, .int 2, .int f5163_6, .int f5163_7])), (w, .inr (7, [.ref su, .ref f5162_1, .ref (cs (400 + i)), .ref (cs (420 + i)), .ref (cs (460 + i)), .ref f5162_5, .long f5162_6, .int f5162_7, .int f5162_8, .int f5162_9, .int f5162_10, .int f5162_11, .int f5162_12, .int x5164, .int f5162_14, .int f5162_15]))] _ := hB.1
  obtain ⟨κ5165, hκ5165⟩ : ∃ κq : KM, κq = (kp κ (cs (420 + i)) 1 (κ (cs (420 + i))).2.2.2) := ⟨_, rfl⟩
  have hxf5165 : KF κ κ5165 := by rw [hκ5165]; exact KF.kp
  rw [← hκ5165] at hT
  have hKF : KF κ κ5165 := hxf5165
  have hKU : KU i κ κ5165 := (show KU i κ κ5165 by rw [hκ5165]; exact KU.kp t5162_3)
  have hkw9 : κ5165 w = κ w := by rw [hκ5165]; exact kp_n (by first | exact ne_c hw.1 t5162_3.1 (by decide) | exact ne_o hw.2 t5162_3.2 (by first | assumption | exact (fun e9 => hij e9.symm) | omega))
  rw [← hkw9] at hsu htm
  have hKW : κ5165 w = κ w := hkw9
  have hw := (KF.t2 hxf5165 hw (by decide))
  have hpr := (KF.t2 hxf5165 hpr (by decide))
  have hmk := (KF.t2 hxf5165 hmk (by decide))
  have hli := (KF.t2 hxf5165 hli (by decide))
  have hop1 : (κ5165 (cs (420 + i))).2.2.1 = 1 := by rw [hκ5165, kp_a]
  refine cv_r (As := [.int f5163_3]) (rest := []) (b := w) ⟨hx, hb, hml, hown, hts⟩ (c_X7_at hT (w := w) hw (x := f5163_3)) (cwV 1 hts gX7_giveUp_X7_at rfl rfl rfl hdX7_at_v ⟨Nat.le_of_ble_eq_true rfl, Nat.le_of_ble_eq_true rfl⟩) hN hE hL (rcv8 hN hT hw.1) rfl rfl hl.1 (Nat.le_of_ble_eq_true rfl) dX7_giveUp_26 (Nat.zero_le _) (Nat.zero_le _) (fun r5166 H1 locs hL hqr5166 => ?_)
  obtain ⟨h9, hqr5166⟩ := hqr5166; replace h9 := h9.symm; subst h9
  refine lv_astore_n (lv' := [(1, .ref r5166), (0, .ref w)]) hx hb dX7_giveUp_29 rfl hl (by decide) rfl (fun ls hl => ?_)
  refine lv_aload_n hx hb dX7_giveUp_30 rfl (lv_at hl 0 rfl) ?_
  obtain ⟨hb5167, e5167, hat5167, hk5167⟩ := hT.o4 hqr5166.1
  obtain ⟨f5167_0, f5167_1, f5167_2, f5167_3, f5167_4, f5167_5, f5167_6, f5167_7, f5167_8, f5167_9, rfl, c5167_up⟩ := hk5167
  have hP : va_P D vwCl [(r5166, .inr (3, [.int f5167_0, .int f5167_1, .int f5167_2, .int f5167_3, .int f5167_4, .int f5167_5, .int f5167_6, .int f5167_7, .int f5167_8, .int f5167_9]))] _ := va_P.cons hat5167 va_P.nil
  refine va_getN (D := D) (ci := 3) (v := .int f5167_0) (C := RX3) (T := TX3) (N := 10) hx hb hts iX7_giveUp_3 hown hN.1 hP 0 rfl rfl 0 (by decide) (hN.f 27 rfl) (fun _ h9 => h9) rfl dX7_giveUp_31 ?_
  refine lv_if_ne (tgt := 38) hx hb dX7_giveUp_34 (by decide) (fun c5168 => ?_) (fun c5168 => ?_)
  · refine lv_aload_n hx hb dX7_giveUp_38 rfl (lv_at hl 0 rfl) ?_
    refine va_getN (D := D) (ci := 3) (v := .int f5167_4) (C := RX3) (T := TX3) (N := 10) hx hb hts iX7_giveUp_3 hown hN.1 hP 0 rfl rfl 4 (by decide) (hN.f 32 rfl) (fun _ h9 => h9) rfl dX7_giveUp_39 ?_
    refine lv_aload_n hx hb dX7_giveUp_42 rfl (lv_at hl 1 rfl) ?_
    obtain ⟨hb5169, e5169, hat5169, hk5169⟩ := hT.o8 hw.1
    obtain ⟨f5169_0, f5169_1, f5169_2, f5169_3, f5169_4, f5169_5, f5169_6, f5169_7, f5169_8, f5169_9, f5169_10, f5169_11, f5169_12, f5169_13, f5169_14, f5169_15, rfl, t5169_0, c5169_su, t5169_1, t5169_2, t5169_3, t5169_4, t5169_5, c5169_tm, c5169_lt, c5169_ml, c5169_pr, c5169_li⟩ := hk5169
    rw [hw.2] at t5169_1
    rw [hw.2] at t5169_2
    rw [hw.2] at t5169_3
    rw [hw.2] at t5169_4
    rw [hw.2] at t5169_5
    rw [hw.2] at c5169_lt c5169_ml c5169_pr c5169_li
    subst c5169_ml
    subst c5169_pr
    subst c5169_li
    have esu5169 := (c5169_su.trans hsu).symm
    subst esu5169
    have ctm5169 : f5169_7 &&& 15 = nI tm := by rw [c5169_tm, htm]
    have hP : va_P D vwCl [(w, .inr (7, [.ref su, .ref f5169_1, .ref (cs (400 + i)), .ref (cs (420 + i)), .ref (cs (460 + i)), .ref f5169_5, .long f5169_6, .int f5169_7, .int f5169_8, .int f5169_9, .int f5169_10, .int f5169_11, .int f5169_12, .int f5169_13, .int f5169_14, .int f5169_15])), (r5166, .inr (3, [.int f5167_0, .int f5167_1, .int f5167_2, .int f5167_3, .int f5167_4, .int f5167_5, .int f5167_6, .int f5167_7, .int f5167_8, .int f5167_9]))] _ := va_P.cons hat5169 hP
    refine va_get (D := D) (ci := 7) (v := .int f5169_11) (C := RX7) (T := TX7) (N := 16) hx hb hts iX7_giveUp_7 hown hN.1 hP 0 rfl rfl 11 (by decide) (hts _ mX7_giveUp_3) (fun _ h9 => h9) rfl dX7_giveUp_43 ?_
    refine lv_iconst (v := 1) hx hb dX7_giveUp_46 (by decide) ?_
    refine lv_isub hx hb dX7_giveUp_47 ?_
    refine gn_i (fun x5170 => ?_)
    refine lv_icmp_ne (tgt := 55) hx hb dX7_giveUp_48 (by decide) (fun c5171 => ?_) (fun c5171 => ?_)
    · refine lv_aload_n hx hb dX7_giveUp_55 rfl (lv_at hl 1 rfl) ?_
      refine lv_iconst (v := 5) hx hb dX7_giveUp_56 (by decide) ?_
      refine W.know (fun hgb => ?_)
      rw [hH0] at hgb
      refine cv_v (As := [.int 5]) (rest := []) (b := w) ⟨hx, hb, hml, hown, hts⟩ (c_X7_sendToOthers_d1 hT (w := w) hw (x := 5) hsu htm hMW (by decide) (q0 := q0) (pl := pl) (by omega)) (cwV 1 hts gX7_giveUp_X7_sendToOthers rfl rfl rfl hdX7_sendToOthers_v ⟨Nat.le_of_ble_eq_true rfl, Nat.le_of_ble_eq_true rfl⟩) hN hE hL (rcv8 hN hT hw.1) rfl rfl hl.1 (Nat.le_of_ble_eq_true rfl) dX7_giveUp_57 (show 0 + ((56 * sumN C 16 + 22407 - 2 * sumN ln 16) / 35) ≤ ((56 * sumN C 16 + 22407 - 2 * sumN ln 16) / 35) by omega) (show 0 + (56 * sumN C 16 + 22407 - 2 * sumN ln 16) ≤ (56 * sumN C 16 + 22407 - 2 * sumN ln 16) by omega) (fun H1 locs hL hqr5172 => ?_)
      obtain ⟨κr5172, hxr5172, hT1, hF1, hqr5172⟩ := hqr5172
      have hTo := hT
      have hwo := hw
      have hsuo := hsu
      have hF9 := hF1
      have hF := hF.tr ((hF1.kf hKF).mono (by simp))
      have hT := hT1
      have hKF := hKF.tr hxr5172.f
      have hKU : KU i κ κr5172 := hKU.tr (KX.u (i := i) hxr5172)
      have hkw9 : κr5172 w = κ5165 w := hxr5172 w (by rw [hw.1]; decide)
      rw [← hkw9] at hsu htm
      have hko9 : κr5172 (cs (420 + i)) = κ5165 (cs (420 + i)) := hxr5172 _ (by rw [hpr.1]; decide)
      have hKW : κr5172 w = κ w := hkw9.trans hKW
      rw [← hko9] at hop1
      have hqr5166 := (hxr5172.f.t2 hqr5166 (by decide))
      have hw := (hxr5172.f.t2 hw (by decide))
      have hpr := (hxr5172.f.t2 hpr (by decide))
      have hmk := (hxr5172.f.t2 hmk (by decide))
      have hli := (hxr5172.f.t2 hli (by decide))
      obtain ⟨c5173, l5174, w5175, k5176, n5177, m5178, g5179, e5180, o5181⟩ := hqr5172
      have hMW := m5178
      obtain ⟨k5182, n5183, hGP⟩ : ∃ k9 n9, GP H0 _ ln l5174 k9 n9 := ⟨_, _, GP.tr (show GP H0 _ ln ln _ _ from ⟨hgb, hGN⟩) g5179⟩
      refine W.tight (k := k5182) (n := n5183) (by rw [hH0]; exact hGP.1) ?_
      have hGN : GN ln l5174 k5182 n5183 := hGP.2
      have hgk5182 := hGN.1
      have hgn5183 := hGN.2
      have hsk5182 := hMW.2.2.1.sum
      refine W.know (fun hg => ?_)
      rw [hH0] at hg
      exact en_v hx hb hr hlocks hL (show k5182 ≤ ((56 * sumN C 16 + 22407 - 2 * sumN ln 16) / 35) by omega) (show n5183 ≤ (56 * sumN C 16 + 22407 - 2 * sumN ln 16) by omega) dX7_giveUp_60 (⟨_, hKU, hT, hF, _, _, _, _, _, hMW, ⟨hg, hGN⟩, hKW, EL.cl9 (by rw [hop1]; decide) (by omega)⟩)
    · refine lv_aload_n hx hb dX7_giveUp_51 rfl (lv_at hl 0 rfl) ?_
      refine cv_v (As := []) (rest := []) (b := r5166) ⟨hx, hb, hml, hown, hts⟩ (c_X3_dropPlan hT (w := r5166) hqr5166) (cwV 0 hts gX7_giveUp_X3_dropPlan rfl rfl rfl hdX3_dropPlan_v ⟨Nat.le_of_ble_eq_true rfl, Nat.le_of_ble_eq_true rfl⟩) hN hE hL (rcv4 hN hT hqr5166.1) rfl rfl hl.1 (Nat.le_of_ble_eq_true rfl) dX7_giveUp_52 (Nat.zero_le _) (Nat.zero_le _) (fun H1 locs hL hqr5184 => ?_)
      obtain ⟨hT1, hF1⟩ := hqr5184
      have hMW := hMW.fr hT hw hsu hF1 (by first | (simp; done) | (simp [h15a, h15b, h15c]; done) | (simp; omega) | omega) (by first | (simp; done) | (simp [h15a, h15b, h15c]; done) | (simp; omega) | omega)
      have hF := hF.tr ((hF1.kf hKF).mono (by simp))
      have hT := hT1
      refine lv_aload_n hx hb dX7_giveUp_55 rfl (lv_at hl 1 rfl) ?_
      refine lv_iconst (v := 5) hx hb dX7_giveUp_56 (by decide) ?_
      refine W.know (fun hgb => ?_)
      rw [hH0] at hgb
      refine cv_v (As := [.int 5]) (rest := []) (b := w) ⟨hx, hb, hml, hown, hts⟩ (c_X7_sendToOthers_d1 hT (w := w) hw (x := 5) hsu htm hMW (by decide) (q0 := q0) (pl := pl) (by omega)) (cwV 1 hts gX7_giveUp_X7_sendToOthers rfl rfl rfl hdX7_sendToOthers_v ⟨Nat.le_of_ble_eq_true rfl, Nat.le_of_ble_eq_true rfl⟩) hN hE hL (rcv8 hN hT hw.1) rfl rfl hl.1 (Nat.le_of_ble_eq_true rfl) dX7_giveUp_57 (show 0 + ((56 * sumN C 16 + 22407 - 2 * sumN ln 16) / 35) ≤ ((56 * sumN C 16 + 22407 - 2 * sumN ln 16) / 35) by omega) (show 0 + (56 * sumN C 16 + 22407 - 2 * sumN ln 16) ≤ (56 * sumN C 16 + 22407 - 2 * sumN ln 16) by omega) (fun H1 locs hL hqr5185 => ?_)
      obtain ⟨κr5185, hxr5185, hT1, hF1, hqr5185⟩ := hqr5185
      have hTo := hT
      have hwo := hw
      have hsuo := hsu
      have hF9 := hF1
      have hF := hF.tr ((hF1.kf hKF).mono (by simp))
      have hT := hT1
      have hKF := hKF.tr hxr5185.f
      have hKU : KU i κ κr5185 := hKU.tr (KX.u (i := i) hxr5185)
      have hkw9 : κr5185 w = κ5165 w := hxr5185 w (by rw [hw.1]; decide)
      rw [← hkw9] at hsu htm
      have hko9 : κr5185 (cs (420 + i)) = κ5165 (cs (420 + i)) := hxr5185 _ (by rw [hpr.1]; decide)
      have hKW : κr5185 w = κ w := hkw9.trans hKW
      rw [← hko9] at hop1
      have hqr5166 := (hxr5185.f.t2 hqr5166 (by decide))
      have hw := (hxr5185.f.t2 hw (by decide))
      have hpr := (hxr5185.f.t2 hpr (by decide))
      have hmk := (hxr5185.f.t2 hmk (by decide))
      have hli := (hxr5185.f.t2 hli (by decide))
      obtain ⟨c5186, l5187, w5188, k5189, n5190, m5191, g5192, e5193, o5194⟩ := hqr5185
      have hMW := m5191
      obtain ⟨k5195, n5196, hGP⟩ : ∃ k9 n9, GP H0 _ ln l5187 k9 n9 := ⟨_, _, GP.tr (show GP H0 _ ln ln _ _ from ⟨hgb, hGN⟩) g5192⟩
      refine W.tight (k := k5195) (n := n5196) (by rw [hH0]; exact hGP.1) ?_
      have hGN : GN ln l5187 k5195 n5196 := hGP.2
      have hgk5195 := hGN.1
      have hgn5196 := hGN.2
      have hsk5195 := hMW.2.2.1.sum
      refine W.know (fun hg => ?_)
      rw [hH0] at hg
      exact en_v hx hb hr hlocks hL (show k5195 ≤ ((56 * sumN C 16 + 22407 - 2 * sumN ln 16) / 35) by omega) (show n5196 ≤ (56 * sumN C 16 + 22407 - 2 * sumN ln 16) by omega) dX7_giveUp_60 (⟨_, hKU, hT, hF, _, _, _, _, _, hMW, ⟨hg, hGN⟩, hKW, EL.cl9 (by rw [hop1]; decide) (by omega)⟩)
  · refine W.know (fun hg => ?_)
    rw [hH0] at hg
    exact en_v hx hb hr hlocks hL (Nat.zero_le _) (Nat.zero_le _) dX7_giveUp_37 (⟨_, hKU, hT, hF, _, _, _, _, _, hMW, ⟨hg, hGN⟩, hKW, EL.cl9 (by rw [hop1]; decide) (by omega)⟩)
theorem mX7_receive_1 : (.fieldLink RX7 34 "OneBeat$World" "incoming" "LOneBeat$Letter;" : Cond) ∈ wsX7_receive := List.mem_of_getElem? (i := 1) (by decide +kernel)
theorem iX7_receive_7 : ∀ w ∈ wsX70, w ∈ wsX7_receive := fun w h => List.mem_of_mem_drop (List.mem_of_mem_take ((show wsX70 = (wsX7_receive.drop 80).take 16 by decide +kernel) ▸ h))
theorem iX7_receive_1 : ∀ w ∈ wsX10, w ∈ wsX7_receive := fun w h => List.mem_of_mem_drop (List.mem_of_mem_take ((show wsX10 = (wsX7_receive.drop 96).take 7 by decide +kernel) ▸ h))
theorem iX7_receive_3 : ∀ w ∈ wsX30, w ∈ wsX7_receive := fun w h => List.mem_of_mem_drop (List.mem_of_mem_take ((show wsX30 = (wsX7_receive.drop 103).take 10 by decide +kernel) ▸ h))
theorem mX7_receive_3 : (.fieldLink RX7 68 "OneBeat$World" "conductor" "I" : Cond) ∈ wsX7_receive := List.mem_of_getElem? (i := 3) (by decide +kernel)
theorem hdX7_isOpen_v : yX7_isOpen.cls = RX7 ∧ yX7_isOpen.cls ≠ "java/lang/invoke/MethodHandle" ∧ yX7_isOpen.cls ≠ "java/lang/invoke/VarHandle" ∧ (parseMethodDescriptor yX7_isOpen.desc).map (fun d => d.parameters.length) = some 1 := by decide +kernel
theorem mX7_receive_4 : (.fieldLink RX7 27 "OneBeat$World" "latest" "LOneBeat$Proposal;" : Cond) ∈ wsX7_receive := List.mem_of_getElem? (i := 4) (by decide +kernel)
theorem iX7_receive_4 : ∀ w ∈ wsX40, w ∈ wsX7_receive := fun w h => List.mem_of_mem_drop (List.mem_of_mem_take ((show wsX40 = (wsX7_receive.drop 113).take 8 by decide +kernel) ▸ h))
theorem mX7_receive_2 : (.fieldLink RX7 74 "OneBeat$World" "lost" "I" : Cond) ∈ wsX7_receive := List.mem_of_getElem? (i := 2) (by decide +kernel)
set_option maxHeartbeats 4000000 in
set_option maxRecDepth 100000 in
theorem c_X7_receive {l : Launch} {D : va_G} {cs : Nat → ClassId} {B0 T : Nat} {κ : KM} {H0 : Heap} (hT : WT B0 D cs T κ H0) {w i : Nat} (hw : T2 κ w 8 i) {C cn ln : Nat → Nat} {rw9 : Nat → Nat → Int32} {dl : Nat → Int32} {su tm : Nat} (hsu : (κ w).2.2.1 = su) (htm : (κ w).2.2.2 = tm) (hMW : MW D cs H0 i su tm C cn ln rw9 dl) {pl b : Nat} (hpl : pl < cn tm) (hbo : EL C dl cn rw9 tm pl (κ (cs (420 + i))).2.2.1 b) (hb24 : b ≤ 24) {b0 b1 b2 b3 b4 b5 b6 : Int32} (hli9 : va_at D vwCl (cs (460 + i), .inr (1, [.int b0, .int b1, .int b2, .int b3, .int b4, .int b5, .int b6])) H0) (e0 : b0 = rw9 tm (7 * pl)) (e1 : b1 = rw9 tm (7 * pl + 1)) (e2 : b2 = rw9 tm (7 * pl + 2)) : KC l yX7_receive wsX7_receive 3 113 ((56 * sumN C 16 + 22407 - 2 * sumN ln 16) / 35) (56 * sumN C 16 + 22407 - 2 * sumN ln 16) D cs B0 H0 [.ref w] (Qv (fun H => ∃ κ1, KX κ κ1 ∧ WT B0 D cs T κ1 H ∧ Fr B0 [i, i + 20] κ H0 H ∧ ∃ cn1 ln1 rw1 k n, MW D cs H i su tm C cn1 ln1 rw1 dl ∧ GP H0 H ln ln1 k n ∧ EL C dl cn1 rw1 tm (pl + 1) (κ (cs (420 + i))).2.2.1 b ∧ ∀ q, q < 16 → cn q ≤ cn1 q)) := by
  refine KC.of cX7_receive 4 none (by decide) rfl (Nat.le_of_ble_eq_true rfl) ?_
  intro p e s m below meth c ls hx hb hr hml hown hts hlocks hin hN hE hH0 hl
  have hown : s.vm.findClass RX7 = some m.cls := hown
  have hl : lv_has ls 4 [(0, .ref w)] := hl
  have hL : OkL B0 [] := OkL.nil
  have hF : Fr B0 [i, i + 20] κ H0 H0 := Fr.rf
  obtain ⟨hmk, hpr, hli, -, hi10⟩ := hT.ml hw
  have ht16 := hMW.2.2.2
  have h15a : ¬ 15 = i := by omega
  have h15b : ¬ 15 = i + 20 := by omega
  have h15c : ¬ 15 = i + 40 := by omega
  have hGN : GN ln ln 0 0 := GN.rf
  have hs0 := hMW.2.2.1.sum
  have hbli : B0 ≤ cs (460 + i) := (hT.o2 hli.1).1
  have hEE0 := Nat.le_trans hbo.le9 hb24
  have hP : va_P D vwCl [((cs (460 + i)), .inr (1, [.int b0, .int b1, .int b2, .int b3, .int b4, .int b5, .int b6]))] _ := va_P.cons hli9 va_P.nil
  refine lv_aload_n hx hb dX7_receive_0 rfl (lv_at hl 0 rfl) ?_
  obtain ⟨hb5197, e5197, hat5197, hk5197⟩ := hT.o8 hw.1
  obtain ⟨f5197_0, f5197_1, f5197_2, f5197_3, f5197_4, f5197_5, f5197_6, f5197_7, f5197_8, f5197_9, f5197_10, f5197_11, f5197_12, f5197_13, f5197_14, f5197_15, rfl, t5197_0, c5197_su, t5197_1, t5197_2, t5197_3, t5197_4, t5197_5, c5197_tm, c5197_lt, c5197_ml, c5197_pr, c5197_li⟩ := hk5197
  rw [hw.2] at t5197_1
  rw [hw.2] at t5197_2
  rw [hw.2] at t5197_3
  rw [hw.2] at t5197_4
  rw [hw.2] at t5197_5
  rw [hw.2] at c5197_lt c5197_ml c5197_pr c5197_li
  subst c5197_ml
  subst c5197_pr
  subst c5197_li
  have esu5197 := (c5197_su.trans hsu).symm
  subst esu5197
  have ctm5197 : f5197_7 &&& 15 = nI tm := by rw [c5197_tm, htm]
  have hP : va_P D vwCl [(w, .inr (7, [.ref su, .ref f5197_1, .ref (cs (400 + i)), .ref (cs (420 + i)), .ref (cs (460 + i)), .ref f5197_5, .long f5197_6, .int f5197_7, .int f5197_8, .int f5197_9, .int f5197_10, .int f5197_11, .int f5197_12, .int f5197_13, .int f5197_14, .int f5197_15])), ((cs (460 + i)), .inr (1, [.int b0, .int b1, .int b2, .int b3, .int b4, .int b5, .int b6]))] _ := va_P.cons hat5197 hP
  refine va_get (D := D) (ci := 7) (v := .ref (cs (460 + i))) (C := RX7) (T := TX7) (N := 16) hx hb hts iX7_receive_7 hown hN.1 hP 0 rfl rfl 4 (by decide) (hts _ mX7_receive_1) (fun _ h9 => h9) rfl dX7_receive_1 ?_
  refine lv_astore_n (lv' := [(1, .ref (cs (460 + i))), (0, .ref w)]) hx hb dX7_receive_4 rfl hl (by decide) rfl (fun ls hl => ?_)
  refine lv_aload_n hx hb dX7_receive_5 rfl (lv_at hl 1 rfl) ?_
  refine lv_aload_n hx hb dX7_receive_6 rfl (lv_at hl 0 rfl) ?_
  refine va_getN (D := D) (ci := 1) (v := .int b2) (C := RX1) (T := TX1) (N := 7) hx hb hts iX7_receive_1 hown hN.1 hP 1 rfl rfl 2 (by decide) (hN.f 18 rfl) (fun _ h9 => h9) rfl dX7_receive_7 ?_
  refine cv_r (As := [.int b2]) (rest := []) (b := w) ⟨hx, hb, hml, hown, hts⟩ (c_X7_at hT (w := w) hw (x := b2)) (cwV 1 hts gX7_receive_X7_at rfl rfl rfl hdX7_at_v ⟨Nat.le_of_ble_eq_true rfl, Nat.le_of_ble_eq_true rfl⟩) hN hE hL (rcv8 hN hT hw.1) rfl rfl hl.1 (Nat.le_of_ble_eq_true rfl) dX7_receive_10 (Nat.zero_le _) (Nat.zero_le _) (fun r5198 H1 locs hL hqr5198 => ?_)
  obtain ⟨h9, hqr5198⟩ := hqr5198; replace h9 := h9.symm; subst h9
  refine lv_astore_n (lv' := [(2, .ref r5198), (1, .ref (cs (460 + i))), (0, .ref w)]) hx hb dX7_receive_13 rfl hl (by decide) rfl (fun ls hl => ?_)
  refine lv_aload_n hx hb dX7_receive_14 rfl (lv_at hl 0 rfl) ?_
  obtain ⟨hb5199, e5199, hat5199, hk5199⟩ := hT.o4 hqr5198.1
  obtain ⟨f5199_0, f5199_1, f5199_2, f5199_3, f5199_4, f5199_5, f5199_6, f5199_7, f5199_8, f5199_9, rfl, c5199_up⟩ := hk5199
  have hP : va_P D vwCl [(r5198, .inr (3, [.int f5199_0, .int f5199_1, .int f5199_2, .int f5199_3, .int f5199_4, .int f5199_5, .int f5199_6, .int f5199_7, .int f5199_8, .int f5199_9])), (w, .inr (7, [.ref su, .ref f5197_1, .ref (cs (400 + i)), .ref (cs (420 + i)), .ref (cs (460 + i)), .ref f5197_5, .long f5197_6, .int f5197_7, .int f5197_8, .int f5197_9, .int f5197_10, .int f5197_11, .int f5197_12, .int f5197_13, .int f5197_14, .int f5197_15])), ((cs (460 + i)), .inr (1, [.int b0, .int b1, .int b2, .int b3, .int b4, .int b5, .int b6]))] _ := va_P.cons hat5199 hP
  refine va_getN (D := D) (ci := 3) (v := .int f5199_0) (C := RX3) (T := TX3) (N := 10) hx hb hts iX7_receive_3 hown hN.1 hP 0 rfl rfl 0 (by decide) (hN.f 27 rfl) (fun _ h9 => h9) rfl dX7_receive_15 ?_
  refine lv_if_ne (tgt := 32) hx hb dX7_receive_18 (by decide) (fun c5200 => ?_) (fun c5200 => ?_)
  · refine lv_aload_n hx hb dX7_receive_32 rfl (lv_at hl 1 rfl) ?_
    refine va_getN (D := D) (ci := 1) (v := .int b0) (C := RX1) (T := TX1) (N := 7) hx hb hts iX7_receive_1 hown hN.1 hP 2 rfl rfl 0 (by decide) (hN.f 14 rfl) (fun _ h9 => h9) rfl dX7_receive_33 ?_
    by_cases c5201 : (b0 : Int32).toInt < (0 : Int) ∨ (4 : Int) < (b0 : Int32).toInt
    · refine lv_tableOut (tgt := 245) hx hb dX7_receive_36 c5201 (by decide) ?_
      refine lv_aload_n hx hb dX7_receive_245 rfl (lv_at hl 0 rfl) ?_
      refine va_getN (D := D) (ci := 3) (v := .int f5199_3) (C := RX3) (T := TX3) (N := 10) hx hb hts iX7_receive_3 hown hN.1 hP 0 rfl rfl 3 (by decide) (hN.f 31 rfl) (fun _ h9 => h9) rfl dX7_receive_246 ?_
      refine lv_iconst (v := 1) hx hb dX7_receive_249 (by decide) ?_
      refine lv_icmp_ne (tgt := 268) hx hb dX7_receive_250 (by decide) (fun c5202 => ?_) (fun c5202 => ?_)
      · refine W.know (fun hg => ?_)
        rw [hH0] at hg
        exact en_v hx hb hr hlocks hL (Nat.zero_le _) (Nat.zero_le _) dX7_receive_268 (⟨_, KX.rf, hT, hF, _, _, _, _, _, hMW, ⟨hg, hGN⟩, hbo.rd ht16 hpl, fun _ _ => Nat.le_refl _⟩)
      · refine lv_aload_n hx hb dX7_receive_253 rfl (lv_at hl 0 rfl) ?_
        refine va_getN (D := D) (ci := 3) (v := .int f5199_4) (C := RX3) (T := TX3) (N := 10) hx hb hts iX7_receive_3 hown hN.1 hP 0 rfl rfl 4 (by decide) (hN.f 32 rfl) (fun _ h9 => h9) rfl dX7_receive_254 ?_
        refine lv_aload_n hx hb dX7_receive_257 rfl (lv_at hl 1 rfl) ?_
        refine va_getN (D := D) (ci := 1) (v := .int b4) (C := RX1) (T := TX1) (N := 7) hx hb hts iX7_receive_1 hown hN.1 hP 2 rfl rfl 4 (by decide) (hN.f 22 rfl) (fun _ h9 => h9) rfl dX7_receive_258 ?_
        refine lv_icmp_ne (tgt := 268) hx hb dX7_receive_261 (by decide) (fun c5203 => ?_) (fun c5203 => ?_)
        · refine W.know (fun hg => ?_)
          rw [hH0] at hg
          exact en_v hx hb hr hlocks hL (Nat.zero_le _) (Nat.zero_le _) dX7_receive_268 (⟨_, KX.rf, hT, hF, _, _, _, _, _, hMW, ⟨hg, hGN⟩, hbo.rd ht16 hpl, fun _ _ => Nat.le_refl _⟩)
        · refine lv_aload_n hx hb dX7_receive_264 rfl (lv_at hl 0 rfl) ?_
          refine cv_v (As := []) (rest := []) (b := r5198) ⟨hx, hb, hml, hown, hts⟩ (c_X3_dropPlan hT (w := r5198) hqr5198) (cwV 0 hts gX7_receive_X3_dropPlan rfl rfl rfl hdX3_dropPlan_v ⟨Nat.le_of_ble_eq_true rfl, Nat.le_of_ble_eq_true rfl⟩) hN hE hL (rcv4 hN hT hqr5198.1) rfl rfl hl.1 (Nat.le_of_ble_eq_true rfl) dX7_receive_265 (Nat.zero_le _) (Nat.zero_le _) (fun H1 locs hL hqr5204 => ?_)
          obtain ⟨hT1, hF1⟩ := hqr5204
          have hP : va_P D vwCl [((cs (460 + i)), .inr (1, [.int b0, .int b1, .int b2, .int b3, .int b4, .int b5, .int b6]))] _ := hF1.hP (hP.sub [2] rfl) (fa_c ⟨by rw [hli.1]; decide, by rw [hli.2]; first | decide | (simp; done) | (simp [h15a, h15b, h15c]; done) | (simp; omega)⟩ fa_n)
          have hMW := hMW.fr hT hw hsu hF1 (by first | (simp; done) | (simp [h15a, h15b, h15c]; done) | (simp; omega) | omega) (by first | (simp; done) | (simp [h15a, h15b, h15c]; done) | (simp; omega) | omega)
          have hF := hF.tr (hF1.mono (by simp))
          have hT := hT1
          refine W.know (fun hg => ?_)
          rw [hH0] at hg
          exact en_v hx hb hr hlocks hL (Nat.zero_le _) (Nat.zero_le _) dX7_receive_268 (⟨_, KX.rf, hT, hF, _, _, _, _, _, hMW, ⟨hg, hGN⟩, hbo.rd ht16 hpl, fun _ _ => Nat.le_refl _⟩)
    · rcases sw_0_4 c5201 with rfl | rfl | rfl | rfl | rfl
      · refine lv_tableIn (tgt := 72) (off := 36) hx hb dX7_receive_36 (by decide) (by decide) (by decide) (by decide) ?_
        refine lv_aload_n hx hb dX7_receive_72 rfl (lv_at hl 2 rfl) ?_
        refine lv_iconst (v := 1) hx hb dX7_receive_73 (by decide) ?_
        refine lv_aload_n hx hb dX7_receive_74 rfl (lv_at hl 1 rfl) ?_
        refine va_getN (D := D) (ci := 1) (v := .int b2) (C := RX1) (T := TX1) (N := 7) hx hb hts iX7_receive_1 hown hN.1 hP 2 rfl rfl 2 (by decide) (hN.f 18 rfl) (fun _ h9 => h9) rfl dX7_receive_75 ?_
        refine lv_aload_n hx hb dX7_receive_78 rfl (lv_at hl 1 rfl) ?_
        refine va_getN (D := D) (ci := 1) (v := .int b1) (C := RX1) (T := TX1) (N := 7) hx hb hts iX7_receive_1 hown hN.1 hP 2 rfl rfl 1 (by decide) (hN.f 16 rfl) (fun _ h9 => h9) rfl dX7_receive_79 ?_
        refine lv_iconst (v := (-1)) hx hb dX7_receive_82 (by decide) ?_
        refine lv_aload_n hx hb dX7_receive_83 rfl (lv_at hl 1 rfl) ?_
        refine va_getN (D := D) (ci := 1) (v := .int b5) (C := RX1) (T := TX1) (N := 7) hx hb hts iX7_receive_1 hown hN.1 hP 2 rfl rfl 5 (by decide) (hN.f 24 rfl) (fun _ h9 => h9) rfl dX7_receive_84 ?_
        refine lv_aload_n hx hb dX7_receive_87 rfl (lv_at hl 2 rfl) ?_
        refine lv_aload_n hx hb dX7_receive_88 rfl (lv_at hl 1 rfl) ?_
        refine va_getN (D := D) (ci := 1) (v := .int b2) (C := RX1) (T := TX1) (N := 7) hx hb hts iX7_receive_1 hown hN.1 hP 2 rfl rfl 2 (by decide) (hN.f 18 rfl) (fun _ h9 => h9) rfl dX7_receive_89 ?_
        refine cv_i (As := [.int b2]) (rest := [.int b5, .int (-1), .int b1, .int b2, .int 1, .ref w]) (b := w) ⟨hx, hb, hml, hown, hts⟩ (c_X7_clock hT (w := w) hw (x := b2)) (cwV 1 hts gX7_receive_X7_clock rfl rfl rfl hdX7_clock_v ⟨Nat.le_of_ble_eq_true rfl, Nat.le_of_ble_eq_true rfl⟩) hN hE hL (rcv8 hN hT hw.1) rfl rfl hl.1 (Nat.le_of_ble_eq_true rfl) dX7_receive_92 (Nat.zero_le _) (Nat.zero_le _) (fun r5205 H1 locs hL hqr5205 => ?_)
        obtain rfl := hqr5205.symm
        have hM9 : ∀ j, j < 16 → 2 * ln j + 7 ≤ 2 * sumN ln 16 + 7 := fun j hj => by have := sumN_at (f := ln) hj; omega
        have hcn := EE_cb hEE0
        refine W.know (fun hgb => ?_)
        rw [hH0] at hgb
        refine cv_i (As := [.int 1, .int b2, .int b1, .int (-1), .int b5, .int r5205]) (rest := []) (b := w) ⟨hx, hb, hml, hown, hts⟩ (c_X7_send hT (w := w) hw (x := 1) (y := b2) (z := b1) (u := (-1)) (v := b5) (t := r5205) hsu htm hMW hcn hM9) (cwV 6 hts gX7_receive_X7_send rfl rfl rfl hdX7_send_v ⟨Nat.le_of_ble_eq_true rfl, Nat.le_of_ble_eq_true rfl⟩) hN hE hL (rcv8 hN hT hw.1) rfl rfl hl.1 (Nat.le_of_ble_eq_true rfl) dX7_receive_95 (show 0 + 1 ≤ ((56 * sumN C 16 + 22407 - 2 * sumN ln 16) / 35) by omega) (show 0 + (2 * sumN ln 16 + 7) ≤ (56 * sumN C 16 + 22407 - 2 * sumN ln 16) by omega) (fun r5206 H1 locs hL hqr5206 => ?_)
        obtain ⟨κr5206, hxr5206, hT1, hF1, hqr5206⟩ := hqr5206
        have hTo := hT
        have hwo := hw
        have hsuo := hsu
        have hF9 := hF1
        have hF := hF.tr (hF1.mono (by simp))
        have hT := hT1
        have hKF : KF κ κr5206 := hxr5206.f
        have hKX : KX κ κr5206 := hxr5206
        have hkw9 : κr5206 w = κ w := hxr5206 w (by rw [hw.1]; decide)
        rw [← hkw9] at hsu htm
        have hqr5198 := (hxr5206.f.t2 hqr5198 (by decide))
        have t5197_4 := (hxr5206.f.t2 t5197_4 (by decide))
        have hw := (hxr5206.f.t2 hw (by decide))
        have hpr := (hxr5206.f.t2 hpr (by decide))
        have hmk := (hxr5206.f.t2 hmk (by decide))
        have hli := (hxr5206.f.t2 hli (by decide))
        obtain ⟨c5207, l5208, w5209, k5210, n5211, m5212, g5213, s5214, b5215⟩ := hqr5206
        have hMW := m5212
        obtain ⟨k5216, n5217, hGP⟩ : ∃ k9 n9, GP H0 _ ln l5208 k9 n9 := ⟨_, _, GP.tr (show GP H0 _ ln ln _ _ from ⟨hgb, hGN⟩) g5213⟩
        refine W.tight (k := k5216) (n := n5217) (by rw [hH0]; exact hGP.1) ?_
        have hGN : GN ln l5208 k5216 n5217 := hGP.2
        have hgk5216 := hGN.1
        have hgn5217 := hGN.2
        have hsk5216 := hMW.2.2.1.sum
        have hE1 := s5214.rp (C := C) ht16 hpl (by decide) (by decide) e0 e1 e2
        refine lv_pop hx hb dX7_receive_98 rfl ?_
        refine lv_goto (tgt := 268) hx hb dX7_receive_99 (by decide) ?_
        refine W.know (fun hg => ?_)
        rw [hH0] at hg
        exact en_v hx hb hr hlocks hL (show k5216 ≤ ((56 * sumN C 16 + 22407 - 2 * sumN ln 16) / 35) by omega) (show n5217 ≤ (56 * sumN C 16 + 22407 - 2 * sumN ln 16) by omega) dX7_receive_268 (⟨_, hKX, hT, hF, _, _, _, _, _, hMW, ⟨hg, hGN⟩, hbo.rp hE1, s5214.mono⟩)
      · refine lv_tableIn (tgt := 102) (off := 66) hx hb dX7_receive_36 (by decide) (by decide) (by decide) (by decide) ?_
        refine lv_aload_n hx hb dX7_receive_102 rfl (lv_at hl 1 rfl) ?_
        refine va_getN (D := D) (ci := 1) (v := .int b2) (C := RX1) (T := TX1) (N := 7) hx hb hts iX7_receive_1 hown hN.1 hP 2 rfl rfl 2 (by decide) (hN.f 18 rfl) (fun _ h9 => h9) rfl dX7_receive_103 ?_
        refine lv_aload_n hx hb dX7_receive_106 rfl (lv_at hl 2 rfl) ?_
        refine va_get (D := D) (ci := 7) (v := .int f5197_8) (C := RX7) (T := TX7) (N := 16) hx hb hts iX7_receive_7 hown hN.1 hP 1 rfl rfl 8 (by decide) (hts _ mX7_receive_3) (fun _ h9 => h9) rfl dX7_receive_107 ?_
        refine lv_icmp_eq (tgt := 268) hx hb dX7_receive_110 (by decide) (fun c5218 => ?_) (fun c5218 => ?_)
        · refine W.know (fun hg => ?_)
          rw [hH0] at hg
          exact en_v hx hb hr hlocks hL (Nat.zero_le _) (Nat.zero_le _) dX7_receive_268 (⟨_, KX.rf, hT, hF, _, _, _, _, _, hMW, ⟨hg, hGN⟩, hbo.rd ht16 hpl, fun _ _ => Nat.le_refl _⟩)
        · refine lv_aload_n hx hb dX7_receive_113 rfl (lv_at hl 2 rfl) ?_
          refine lv_aload_n hx hb dX7_receive_114 rfl (lv_at hl 1 rfl) ?_
          refine va_getN (D := D) (ci := 1) (v := .int b2) (C := RX1) (T := TX1) (N := 7) hx hb hts iX7_receive_1 hown hN.1 hP 2 rfl rfl 2 (by decide) (hN.f 18 rfl) (fun _ h9 => h9) rfl dX7_receive_115 ?_
          refine cv_i (As := [.int b2]) (rest := []) (b := w) ⟨hx, hb, hml, hown, hts⟩ (c_X7_clock hT (w := w) hw (x := b2)) (cwV 1 hts gX7_receive_X7_clock rfl rfl rfl hdX7_clock_v ⟨Nat.le_of_ble_eq_true rfl, Nat.le_of_ble_eq_true rfl⟩) hN hE hL (rcv8 hN hT hw.1) rfl rfl hl.1 (Nat.le_of_ble_eq_true rfl) dX7_receive_118 (Nat.zero_le _) (Nat.zero_le _) (fun r5219 H1 locs hL hqr5219 => ?_)
          obtain rfl := hqr5219.symm
          refine lv_istore_n (lv' := [(3, .int r5219), (2, .ref r5198), (1, .ref (cs (460 + i))), (0, .ref w)]) hx hb dX7_receive_121 rfl hl (by decide) rfl (fun ls hl => ?_)
          refine lv_aload_n hx hb dX7_receive_122 rfl (lv_at hl 1 rfl) ?_
          refine lv_aload_n hx hb dX7_receive_123 rfl (lv_at hl 2 rfl) ?_
          refine va_getN (D := D) (ci := 1) (v := .int b6) (C := RX1) (T := TX1) (N := 7) hx hb hts iX7_receive_1 hown hN.1 hP 2 rfl rfl 6 (by decide) (hN.f 26 rfl) (fun _ h9 => h9) rfl dX7_receive_124 ?_
          refine lv_iload_n hx hb dX7_receive_127 rfl (lv_at hl 0 rfl) ?_
          refine lv_aload_n hx hb dX7_receive_128 rfl (lv_at hl 2 rfl) ?_
          refine va_getN (D := D) (ci := 1) (v := .int b5) (C := RX1) (T := TX1) (N := 7) hx hb hts iX7_receive_1 hown hN.1 hP 2 rfl rfl 5 (by decide) (hN.f 24 rfl) (fun _ h9 => h9) rfl dX7_receive_129 ?_
          refine lv_isub hx hb dX7_receive_132 ?_
          refine gn_i (fun x5220 => ?_)
          refine lv_iconst (v := 2) hx hb dX7_receive_133 (by decide) ?_
          refine lv_idiv hx hb dX7_receive_134 (by decide) ?_
          refine gn_i (fun x5221 => ?_)
          refine lv_iadd hx hb dX7_receive_135 ?_
          refine gn_i (fun x5222 => ?_)
          refine lv_iload_n hx hb dX7_receive_136 rfl (lv_at hl 0 rfl) ?_
          refine lv_isub hx hb dX7_receive_137 ?_
          refine gn_i (fun x5223 => ?_)
          have hB : Bx B0 D _ [(r5198, .inr (3, [.int f5199_0, .int f5199_1, .int f5199_2, .int f5199_3, .int f5199_4, .int f5199_5, .int f5199_6, .int f5199_7, .int f5199_8, .int f5199_9])), (w, .inr (7, [.ref su, .ref f5197_1, .ref (cs (400 + i)), .ref (cs (420 + i)), .ref (cs (460 + i)), .ref f5197_5, .long f5197_6, .int f5197_7, .int f5197_8, .int f5197_9, .int f5197_10, .int f5197_11, .int f5197_12, .int f5197_13, .int f5197_14, .int f5197_15])), ((cs (460 + i)), .inr (1, [.int 1, .int b1, .int b2, .int b3, .int b4, .int b5, .int b6]))] [] _ _ := Bx.of (fun a => (κ a).1) hL hP (fa_c hb5199 (fa_c hb5197 (fa_c hbli fa_n))) (by simp only [List.map_cons, List.map_nil, hqr5198.1, hw.1, hli.1]; decide)
          refine b_putN (D := D) (ci := 3) (v := .int x5223) (ty := .int) (C := RX3) (T := TX3) (N := 10) hx hb hts iX7_receive_3 tyX3 tyX3_ok nmX3 hown hN hB 0 rfl rfl 1 (by decide) (hN.f 29 rfl) (fun _ h9 => h9) rfl (by decide +kernel) rfl rfl (Nat.le_of_ble_eq_true rfl) (.inl rfl) dX7_receive_138 (fun H locs hB => ?_)
          have hB : Bx B0 D _ [(r5198, .inr (3, [.int f5199_0, .int x5223, .int f5199_2, .int f5199_3, .int f5199_4, .int f5199_5, .int f5199_6, .int f5199_7, .int f5199_8, .int f5199_9])), (w, .inr (7, [.ref su, .ref f5197_1, .ref (cs (400 + i)), .ref (cs (420 + i)), .ref (cs (460 + i)), .ref f5197_5, .long f5197_6, .int f5197_7, .int f5197_8, .int f5197_9, .int f5197_10, .int f5197_11, .int f5197_12, .int f5197_13, .int f5197_14, .int f5197_15])), ((cs (460 + i)), .inr (1, [.int 1, .int b1, .int b2, .int b3, .int b4, .int b5, .int b6]))] [r5198] _ _ := hB
          refine lv_goto (tgt := 268) hx hb dX7_receive_141 (by decide) ?_
          have hMW := hMW.fr hT hw hsu (Fr.close (S := [i]) Fr.rf hB (fa_c (by simp [hqr5198.2]) fa_n)) (by first | (simp; done) | (simp [h15a, h15b, h15c]; done) | (simp; omega) | omega) (by first | (simp; done) | (simp [h15a, h15b, h15c]; done) | (simp; omega) | omega)
          have hT : WT B0 D cs T κ _ := hT.close hB ⟨⟨0, _, rfl, ok_4 hqr5198.1 ⟨_, _, _, _, _, _, _, _, _, _, rfl, c5199_up⟩⟩, trivial⟩
          have hF : Fr B0 [i, i + 20] κ H0 _ := hF.close hB (fa_c (by simp [hqr5198.2]) fa_n)
          have hL : OkL B0 _ := hB.2.2.2.2.2
          have hP : va_P D vwCl [(r5198, .inr (3, [.int f5199_0, .int x5223, .int f5199_2, .int f5199_3, .int f5199_4, .int f5199_5, .int f5199_6, .int f5199_7, .int f5199_8, .int f5199_9])), (w, .inr (7, [.ref su, .ref f5197_1, .ref (cs (400 + i)), .ref (cs (420 + i)), .ref (cs (460 + i)), .ref f5197_5, .long f5197_6, .int f5197_7, .int f5197_8, .int f5197_9, .int f5197_10, .int f5197_11, .int f5197_12, .int f5197_13, .int f5197_14, .int f5197_15])), ((cs (460 + i)), .inr (1, [.int 1, .int b1, .int b2, .int b3, .int b4, .int b5, .int b6]))] _ := hB.1
          refine W.know (fun hg => ?_)
          rw [hH0] at hg
          exact en_v hx hb hr hlocks hL (Nat.zero_le _) (Nat.zero_le _) dX7_receive_268 (⟨_, KX.rf, hT, hF, _, _, _, _, _, hMW, ⟨hg, hGN⟩, hbo.rd ht16 hpl, fun _ _ => Nat.le_refl _⟩)
      · refine lv_tableIn (tgt := 144) (off := 108) hx hb dX7_receive_36 (by decide) (by decide) (by decide) (by decide) ?_
        refine lv_aload_n hx hb dX7_receive_144 rfl (lv_at hl 0 rfl) ?_
        refine lv_aload_n hx hb dX7_receive_145 rfl (lv_at hl 1 rfl) ?_
        refine va_getN (D := D) (ci := 1) (v := .int b4) (C := RX1) (T := TX1) (N := 7) hx hb hts iX7_receive_1 hown hN.1 hP 2 rfl rfl 4 (by decide) (hN.f 22 rfl) (fun _ h9 => h9) rfl dX7_receive_146 ?_
        refine lv_aload_n hx hb dX7_receive_149 rfl (lv_at hl 1 rfl) ?_
        refine va_getN (D := D) (ci := 1) (v := .int b5) (C := RX1) (T := TX1) (N := 7) hx hb hts iX7_receive_1 hown hN.1 hP 2 rfl rfl 5 (by decide) (hN.f 24 rfl) (fun _ h9 => h9) rfl dX7_receive_150 ?_
        refine lv_aload_n hx hb dX7_receive_153 rfl (lv_at hl 1 rfl) ?_
        refine va_getN (D := D) (ci := 1) (v := .int b6) (C := RX1) (T := TX1) (N := 7) hx hb hts iX7_receive_1 hown hN.1 hP 2 rfl rfl 6 (by decide) (hN.f 26 rfl) (fun _ h9 => h9) rfl dX7_receive_154 ?_
        refine lv_iconst (v := 1) hx hb dX7_receive_157 (by decide) ?_
        refine cv_v (As := [.int b4, .int b5, .int b6, .int 1]) (rest := []) (b := r5198) ⟨hx, hb, hml, hown, hts⟩ (c_X3_takePlan hT (w := r5198) hqr5198 (x := b4) (y := b5) (z := b6) (u := 1)) (cwV 4 hts gX7_receive_X3_takePlan rfl rfl rfl hdX3_takePlan_v ⟨Nat.le_of_ble_eq_true rfl, Nat.le_of_ble_eq_true rfl⟩) hN hE hL (rcv4 hN hT hqr5198.1) rfl rfl hl.1 (Nat.le_of_ble_eq_true rfl) dX7_receive_158 (Nat.zero_le _) (Nat.zero_le _) (fun H1 locs hL hqr5224 => ?_)
        obtain ⟨hT1, hF1⟩ := hqr5224
        have hP : va_P D vwCl [((cs (460 + i)), .inr (1, [.int 2, .int b1, .int b2, .int b3, .int b4, .int b5, .int b6]))] _ := hF1.hP (hP.sub [2] rfl) (fa_c ⟨by rw [hli.1]; decide, by rw [hli.2]; first | decide | (simp; done) | (simp [h15a, h15b, h15c]; done) | (simp; omega)⟩ fa_n)
        have hMW := hMW.fr hT hw hsu hF1 (by first | (simp; done) | (simp [h15a, h15b, h15c]; done) | (simp; omega) | omega) (by first | (simp; done) | (simp [h15a, h15b, h15c]; done) | (simp; omega) | omega)
        have hF := hF.tr (hF1.mono (by simp))
        have hT := hT1
        refine lv_aload_n hx hb dX7_receive_161 rfl (lv_at hl 2 rfl) ?_
        refine lv_iconst (v := 3) hx hb dX7_receive_162 (by decide) ?_
        refine lv_aload_n hx hb dX7_receive_163 rfl (lv_at hl 1 rfl) ?_
        refine va_getN (D := D) (ci := 1) (v := .int b2) (C := RX1) (T := TX1) (N := 7) hx hb hts iX7_receive_1 hown hN.1 hP 0 rfl rfl 2 (by decide) (hN.f 18 rfl) (fun _ h9 => h9) rfl dX7_receive_164 ?_
        refine lv_aload_n hx hb dX7_receive_167 rfl (lv_at hl 1 rfl) ?_
        refine va_getN (D := D) (ci := 1) (v := .int b1) (C := RX1) (T := TX1) (N := 7) hx hb hts iX7_receive_1 hown hN.1 hP 0 rfl rfl 1 (by decide) (hN.f 16 rfl) (fun _ h9 => h9) rfl dX7_receive_168 ?_
        refine lv_aload_n hx hb dX7_receive_171 rfl (lv_at hl 1 rfl) ?_
        refine va_getN (D := D) (ci := 1) (v := .int b4) (C := RX1) (T := TX1) (N := 7) hx hb hts iX7_receive_1 hown hN.1 hP 0 rfl rfl 4 (by decide) (hN.f 22 rfl) (fun _ h9 => h9) rfl dX7_receive_172 ?_
        refine lv_iconst (v := 0) hx hb dX7_receive_175 (by decide) ?_
        refine lv_iconst (v := 0) hx hb dX7_receive_176 (by decide) ?_
        have hM9 : ∀ j, j < 16 → 2 * ln j + 7 ≤ 2 * sumN ln 16 + 7 := fun j hj => by have := sumN_at (f := ln) hj; omega
        have hcn := EE_cb hEE0
        refine W.know (fun hgb => ?_)
        rw [hH0] at hgb
        refine cv_i (As := [.int 3, .int b2, .int b1, .int b4, .int 0, .int 0]) (rest := []) (b := w) ⟨hx, hb, hml, hown, hts⟩ (c_X7_send hT (w := w) hw (x := 3) (y := b2) (z := b1) (u := b4) (v := 0) (t := 0) hsu htm hMW hcn hM9) (cwV 6 hts gX7_receive_X7_send rfl rfl rfl hdX7_send_v ⟨Nat.le_of_ble_eq_true rfl, Nat.le_of_ble_eq_true rfl⟩) hN hE hL (rcv8 hN hT hw.1) rfl rfl hl.1 (Nat.le_of_ble_eq_true rfl) dX7_receive_177 (show 0 + 1 ≤ ((56 * sumN C 16 + 22407 - 2 * sumN ln 16) / 35) by omega) (show 0 + (2 * sumN ln 16 + 7) ≤ (56 * sumN C 16 + 22407 - 2 * sumN ln 16) by omega) (fun r5225 H1 locs hL hqr5225 => ?_)
        obtain ⟨κr5225, hxr5225, hT1, hF1, hqr5225⟩ := hqr5225
        have hTo := hT
        have hwo := hw
        have hsuo := hsu
        have hF9 := hF1
        have hF := hF.tr (hF1.mono (by simp))
        have hT := hT1
        have hKF : KF κ κr5225 := hxr5225.f
        have hKX : KX κ κr5225 := hxr5225
        have hkw9 : κr5225 w = κ w := hxr5225 w (by rw [hw.1]; decide)
        rw [← hkw9] at hsu htm
        have hqr5198 := (hxr5225.f.t2 hqr5198 (by decide))
        have t5197_4 := (hxr5225.f.t2 t5197_4 (by decide))
        have hw := (hxr5225.f.t2 hw (by decide))
        have hpr := (hxr5225.f.t2 hpr (by decide))
        have hmk := (hxr5225.f.t2 hmk (by decide))
        have hli := (hxr5225.f.t2 hli (by decide))
        obtain ⟨c5226, l5227, w5228, k5229, n5230, m5231, g5232, s5233, b5234⟩ := hqr5225
        have hMW := m5231
        obtain ⟨k5235, n5236, hGP⟩ : ∃ k9 n9, GP H0 _ ln l5227 k9 n9 := ⟨_, _, GP.tr (show GP H0 _ ln ln _ _ from ⟨hgb, hGN⟩) g5232⟩
        refine W.tight (k := k5235) (n := n5236) (by rw [hH0]; exact hGP.1) ?_
        have hGN : GN ln l5227 k5235 n5236 := hGP.2
        have hgk5235 := hGN.1
        have hgn5236 := hGN.2
        have hsk5235 := hMW.2.2.1.sum
        have hE1 := s5233.rp (C := C) ht16 hpl (by decide) (by decide) e0 e1 e2
        refine lv_pop hx hb dX7_receive_180 rfl ?_
        refine lv_goto (tgt := 268) hx hb dX7_receive_181 (by decide) ?_
        refine W.know (fun hg => ?_)
        rw [hH0] at hg
        exact en_v hx hb hr hlocks hL (show k5235 ≤ ((56 * sumN C 16 + 22407 - 2 * sumN ln 16) / 35) by omega) (show n5236 ≤ (56 * sumN C 16 + 22407 - 2 * sumN ln 16) by omega) dX7_receive_268 (⟨_, hKX, hT, hF, _, _, _, _, _, hMW, ⟨hg, hGN⟩, hbo.rp hE1, s5233.mono⟩)
      · refine lv_tableIn (tgt := 184) (off := 148) hx hb dX7_receive_36 (by decide) (by decide) (by decide) (by decide) ?_
        refine lv_aload_n hx hb dX7_receive_184 rfl (lv_at hl 2 rfl) ?_
        refine lv_aload_n hx hb dX7_receive_185 rfl (lv_at hl 1 rfl) ?_
        refine va_getN (D := D) (ci := 1) (v := .int b4) (C := RX1) (T := TX1) (N := 7) hx hb hts iX7_receive_1 hown hN.1 hP 2 rfl rfl 4 (by decide) (hN.f 22 rfl) (fun _ h9 => h9) rfl dX7_receive_186 ?_
        refine cv_i (As := [.int b4]) (rest := []) (b := w) ⟨hx, hb, hml, hown, hts⟩ (c_X7_isOpen hT (w := w) hw (x := b4)) (cwV 1 hts gX7_receive_X7_isOpen rfl rfl rfl hdX7_isOpen_v ⟨Nat.le_of_ble_eq_true rfl, Nat.le_of_ble_eq_true rfl⟩) hN hE hL (rcv8 hN hT hw.1) rfl rfl hl.1 (Nat.le_of_ble_eq_true rfl) dX7_receive_189 (Nat.zero_le _) (Nat.zero_le _) (fun r5237 H1 locs hL hqr5237 => ?_)
        obtain ⟨h9, hqr5237⟩ := hqr5237; replace h9 := h9.symm; subst h9
        rcases hqr5237 with rfl | rfl
        · refine lv_if_eq (tgt := 268) hx hb dX7_receive_192 (by decide) (fun _ => ?_) (fun c9 => absurd (by decide) c9)
          refine W.know (fun hg => ?_)
          rw [hH0] at hg
          exact en_v hx hb hr hlocks hL (Nat.zero_le _) (Nat.zero_le _) dX7_receive_268 (⟨_, KX.rf, hT, hF, _, _, _, _, _, hMW, ⟨hg, hGN⟩, hbo.rd ht16 hpl, fun _ _ => Nat.le_refl _⟩)
        · refine lv_if_eq (tgt := 268) hx hb dX7_receive_192 (by decide) (fun c9 => absurd c9 (by decide)) (fun _ => ?_)
          refine lv_aload_n hx hb dX7_receive_195 rfl (lv_at hl 1 rfl) ?_
          refine va_getN (D := D) (ci := 1) (v := .int b2) (C := RX1) (T := TX1) (N := 7) hx hb hts iX7_receive_1 hown hN.1 hP 2 rfl rfl 2 (by decide) (hN.f 18 rfl) (fun _ h9 => h9) rfl dX7_receive_196 ?_
          refine lv_aload_n hx hb dX7_receive_199 rfl (lv_at hl 2 rfl) ?_
          refine va_get (D := D) (ci := 7) (v := .ref (cs (420 + i))) (C := RX7) (T := TX7) (N := 16) hx hb hts iX7_receive_7 hown hN.1 hP 1 rfl rfl 3 (by decide) (hts _ mX7_receive_4) (fun _ h9 => h9) rfl dX7_receive_200 ?_
          obtain ⟨hb5238, e5238, hat5238, hk5238⟩ := hT.o5 t5197_3.1
          obtain ⟨f5238_0, f5238_1, f5238_2, f5238_3, f5238_4, f5238_5, f5238_6, f5238_7, rfl, c5238⟩ := hk5238
          have hP : va_P D vwCl [((cs (420 + i)), .inr (4, [.int f5238_0, .int f5238_1, .int f5238_2, .int f5238_3, .int f5238_4, .int f5238_5, .int f5238_6, .int f5238_7])), (r5198, .inr (3, [.int f5199_0, .int f5199_1, .int f5199_2, .int f5199_3, .int f5199_4, .int f5199_5, .int f5199_6, .int f5199_7, .int f5199_8, .int f5199_9])), (w, .inr (7, [.ref su, .ref f5197_1, .ref (cs (400 + i)), .ref (cs (420 + i)), .ref (cs (460 + i)), .ref f5197_5, .long f5197_6, .int f5197_7, .int f5197_8, .int f5197_9, .int f5197_10, .int f5197_11, .int f5197_12, .int f5197_13, .int f5197_14, .int f5197_15])), ((cs (460 + i)), .inr (1, [.int 3, .int b1, .int b2, .int b3, .int b4, .int b5, .int b6]))] _ := va_P.cons hat5238 hP
          refine va_getN (D := D) (ci := 4) (v := .int f5238_3) (C := RX4) (T := TX4) (N := 8) hx hb hts iX7_receive_4 hown hN.1 hP 0 rfl rfl 3 (by decide) (hN.f 9 rfl) (fun _ h9 => h9) rfl dX7_receive_203 ?_
          refine lv_icmp_ne (tgt := 268) hx hb dX7_receive_206 (by decide) (fun c5239 => ?_) (fun c5239 => ?_)
          · refine W.know (fun hg => ?_)
            rw [hH0] at hg
            exact en_v hx hb hr hlocks hL (Nat.zero_le _) (Nat.zero_le _) dX7_receive_268 (⟨_, KX.rf, hT, hF, _, _, _, _, _, hMW, ⟨hg, hGN⟩, hbo.rd ht16 hpl, fun _ _ => Nat.le_refl _⟩)
          · refine lv_aload_n hx hb dX7_receive_209 rfl (lv_at hl 2 rfl) ?_
            refine va_get (D := D) (ci := 7) (v := .ref (cs (420 + i))) (C := RX7) (T := TX7) (N := 16) hx hb hts iX7_receive_7 hown hN.1 hP 2 rfl rfl 3 (by decide) (hts _ mX7_receive_4) (fun _ h9 => h9) rfl dX7_receive_210 ?_
            refine lv_dup hx hb dX7_receive_213 rfl ?_
            refine va_getN (D := D) (ci := 4) (v := .int f5238_4) (C := RX4) (T := TX4) (N := 8) hx hb hts iX7_receive_4 hown hN.1 hP 0 rfl rfl 4 (by decide) (hN.f 10 rfl) (fun _ h9 => h9) rfl dX7_receive_214 ?_
            refine lv_iconst (v := 1) hx hb dX7_receive_217 (by decide) ?_
            refine lv_iadd hx hb dX7_receive_218 ?_
            refine gn_i (fun x5240 => ?_)
            have hB : Bx B0 D _ [((cs (420 + i)), .inr (4, [.int f5238_0, .int f5238_1, .int f5238_2, .int f5238_3, .int f5238_4, .int f5238_5, .int f5238_6, .int f5238_7])), (r5198, .inr (3, [.int f5199_0, .int f5199_1, .int f5199_2, .int f5199_3, .int f5199_4, .int f5199_5, .int f5199_6, .int f5199_7, .int f5199_8, .int f5199_9])), (w, .inr (7, [.ref su, .ref f5197_1, .ref (cs (400 + i)), .ref (cs (420 + i)), .ref (cs (460 + i)), .ref f5197_5, .long f5197_6, .int f5197_7, .int f5197_8, .int f5197_9, .int f5197_10, .int f5197_11, .int f5197_12, .int f5197_13, .int f5197_14, .int f5197_15])), ((cs (460 + i)), .inr (1, [.int 3, .int b1, .int b2, .int b3, .int b4, .int b5, .int b6]))] [] _ _ := Bx.of (fun a => (κ a).1) hL hP (fa_c hb5238 (fa_c hb5199 (fa_c hb5197 (fa_c hbli fa_n)))) (by simp only [List.map_cons, List.map_nil, t5197_3.1, hqr5198.1, hw.1, hli.1]; decide)
            refine b_putN (D := D) (ci := 4) (v := .int x5240) (ty := .int) (C := RX4) (T := TX4) (N := 8) hx hb hts iX7_receive_4 tyX4 tyX4_ok nmX4 hown hN hB 0 rfl rfl 4 (by decide) (hN.f 10 rfl) (fun _ h9 => h9) rfl (by decide +kernel) rfl rfl (Nat.le_of_ble_eq_true rfl) (.inl rfl) dX7_receive_219 (fun H locs hB => ?_)
            have hB : Bx B0 D _ [((cs (420 + i)), .inr (4, [.int f5238_0, .int f5238_1, .int f5238_2, .int f5238_3, .int x5240, .int f5238_5, .int f5238_6, .int f5238_7])), (r5198, .inr (3, [.int f5199_0, .int f5199_1, .int f5199_2, .int f5199_3, .int f5199_4, .int f5199_5, .int f5199_6, .int f5199_7, .int f5199_8, .int f5199_9])), (w, .inr (7, [.ref su, .ref f5197_1, .ref (cs (400 + i)), .ref (cs (420 + i)), .ref (cs (460 + i)), .ref f5197_5, .long f5197_6, .int f5197_7, .int f5197_8, .int f5197_9, .int f5197_10, .int f5197_11, .int f5197_12, .int f5197_13, .int f5197_14, .int f5197_15])), ((cs (460 + i)), .inr (1, [.int 3, .int b1, .int b2, .int b3, .int b4, .int b5, .int b6]))] [(cs (420 + i))] _ _ := hB
            refine lv_goto (tgt := 268) hx hb dX7_receive_222 (by decide) ?_
            have hMW := hMW.fr hT hw hsu (Fr.close (S := [i]) Fr.rf hB (fa_c (by simp [t5197_3.2]) fa_n)) (by first | (simp; done) | (simp [h15a, h15b, h15c]; done) | (simp; omega) | omega) (by first | (simp; done) | (simp [h15a, h15b, h15c]; done) | (simp; omega) | omega)
            have hT : WT B0 D cs T κ _ := hT.close hB ⟨⟨0, _, rfl, ok_5 t5197_3.1 ⟨_, _, _, _, _, _, _, _, rfl, c5238⟩⟩, trivial⟩
            have hF : Fr B0 [i, i + 20] κ H0 _ := hF.close hB (fa_c (by simp [t5197_3.2]) fa_n)
            have hL : OkL B0 _ := hB.2.2.2.2.2
            have hP : va_P D vwCl [((cs (420 + i)), .inr (4, [.int f5238_0, .int f5238_1, .int f5238_2, .int f5238_3, .int x5240, .int f5238_5, .int f5238_6, .int f5238_7])), (r5198, .inr (3, [.int f5199_0, .int f5199_1, .int f5199_2, .int f5199_3, .int f5199_4, .int f5199_5, .int f5199_6, .int f5199_7, .int f5199_8, .int f5199_9])), (w, .inr (7, [.ref su, .ref f5197_1, .ref (cs (400 + i)), .ref (cs (420 + i)), .ref (cs (460 + i)), .ref f5197_5, .long f5197_6, .int f5197_7, .int f5197_8, .int f5197_9, .int f5197_10, .int f5197_11, .int f5197_12, .int f5197_13, .int f5197_14, .int f5197_15])), ((cs (460 + i)), .inr (1, [.int 3, .int b1, .int b2, .int b3, .int b4, .int b5, .int b6]))] _ := hB.1
            refine W.know (fun hg => ?_)
            rw [hH0] at hg
            exact en_v hx hb hr hlocks hL (Nat.zero_le _) (Nat.zero_le _) dX7_receive_268 (⟨_, KX.rf, hT, hF, _, _, _, _, _, hMW, ⟨hg, hGN⟩, hbo.rd ht16 hpl, fun _ _ => Nat.le_refl _⟩)
      · refine lv_tableIn (tgt := 225) (off := 189) hx hb dX7_receive_36 (by decide) (by decide) (by decide) (by decide) ?_
        refine lv_aload_n hx hb dX7_receive_225 rfl (lv_at hl 0 rfl) ?_
        refine lv_aload_n hx hb dX7_receive_226 rfl (lv_at hl 1 rfl) ?_
        refine va_getN (D := D) (ci := 1) (v := .int b4) (C := RX1) (T := TX1) (N := 7) hx hb hts iX7_receive_1 hown hN.1 hP 2 rfl rfl 4 (by decide) (hN.f 22 rfl) (fun _ h9 => h9) rfl dX7_receive_227 ?_
        refine lv_aload_n hx hb dX7_receive_230 rfl (lv_at hl 1 rfl) ?_
        refine va_getN (D := D) (ci := 1) (v := .int b5) (C := RX1) (T := TX1) (N := 7) hx hb hts iX7_receive_1 hown hN.1 hP 2 rfl rfl 5 (by decide) (hN.f 24 rfl) (fun _ h9 => h9) rfl dX7_receive_231 ?_
        refine lv_aload_n hx hb dX7_receive_234 rfl (lv_at hl 1 rfl) ?_
        refine va_getN (D := D) (ci := 1) (v := .int b6) (C := RX1) (T := TX1) (N := 7) hx hb hts iX7_receive_1 hown hN.1 hP 2 rfl rfl 6 (by decide) (hN.f 26 rfl) (fun _ h9 => h9) rfl dX7_receive_235 ?_
        refine lv_iconst (v := 2) hx hb dX7_receive_238 (by decide) ?_
        refine cv_v (As := [.int b4, .int b5, .int b6, .int 2]) (rest := []) (b := r5198) ⟨hx, hb, hml, hown, hts⟩ (c_X3_takePlan hT (w := r5198) hqr5198 (x := b4) (y := b5) (z := b6) (u := 2)) (cwV 4 hts gX7_receive_X3_takePlan rfl rfl rfl hdX3_takePlan_v ⟨Nat.le_of_ble_eq_true rfl, Nat.le_of_ble_eq_true rfl⟩) hN hE hL (rcv4 hN hT hqr5198.1) rfl rfl hl.1 (Nat.le_of_ble_eq_true rfl) dX7_receive_239 (Nat.zero_le _) (Nat.zero_le _) (fun H1 locs hL hqr5241 => ?_)
        obtain ⟨hT1, hF1⟩ := hqr5241
        have hP : va_P D vwCl [((cs (460 + i)), .inr (1, [.int 4, .int b1, .int b2, .int b3, .int b4, .int b5, .int b6]))] _ := hF1.hP (hP.sub [2] rfl) (fa_c ⟨by rw [hli.1]; decide, by rw [hli.2]; first | decide | (simp; done) | (simp [h15a, h15b, h15c]; done) | (simp; omega)⟩ fa_n)
        have hMW := hMW.fr hT hw hsu hF1 (by first | (simp; done) | (simp [h15a, h15b, h15c]; done) | (simp; omega) | omega) (by first | (simp; done) | (simp [h15a, h15b, h15c]; done) | (simp; omega) | omega)
        have hF := hF.tr (hF1.mono (by simp))
        have hT := hT1
        refine lv_goto (tgt := 268) hx hb dX7_receive_242 (by decide) ?_
        refine W.know (fun hg => ?_)
        rw [hH0] at hg
        exact en_v hx hb hr hlocks hL (Nat.zero_le _) (Nat.zero_le _) dX7_receive_268 (⟨_, KX.rf, hT, hF, _, _, _, _, _, hMW, ⟨hg, hGN⟩, hbo.rd ht16 hpl, fun _ _ => Nat.le_refl _⟩)
  · refine lv_aload_n hx hb dX7_receive_21 rfl (lv_at hl 2 rfl) ?_
    refine lv_dup hx hb dX7_receive_22 rfl ?_
    refine va_get (D := D) (ci := 7) (v := .int f5197_10) (C := RX7) (T := TX7) (N := 16) hx hb hts iX7_receive_7 hown hN.1 hP 1 rfl rfl 10 (by decide) (hts _ mX7_receive_2) (fun _ h9 => h9) rfl dX7_receive_23 ?_
    refine lv_iconst (v := 1) hx hb dX7_receive_26 (by decide) ?_
    refine lv_iadd hx hb dX7_receive_27 ?_
    refine gn_i (fun x5242 => ?_)
    have hB : Bx B0 D _ [(r5198, .inr (3, [.int f5199_0, .int f5199_1, .int f5199_2, .int f5199_3, .int f5199_4, .int f5199_5, .int f5199_6, .int f5199_7, .int f5199_8, .int f5199_9])), (w, .inr (7, [.ref su, .ref f5197_1, .ref (cs (400 + i)), .ref (cs (420 + i)), .ref (cs (460 + i)), .ref f5197_5, .long f5197_6, .int f5197_7, .int f5197_8, .int f5197_9, .int f5197_10, .int f5197_11, .int f5197_12, .int f5197_13, .int f5197_14, .int f5197_15])), ((cs (460 + i)), .inr (1, [.int b0, .int b1, .int b2, .int b3, .int b4, .int b5, .int b6]))] [] _ _ := Bx.of (fun a => (κ a).1) hL hP (fa_c hb5199 (fa_c hb5197 (fa_c hbli fa_n))) (by simp only [List.map_cons, List.map_nil, hqr5198.1, hw.1, hli.1]; decide)
    refine b_put (D := D) (ci := 7) (v := .int x5242) (ty := .int) (C := RX7) (T := TX7) (N := 16) hx hb hts iX7_receive_7 tyX7 tyX7_ok nmX7 hown hN hB 1 rfl rfl 10 (by decide) (hts _ mX7_receive_2) (fun _ h9 => h9) rfl (by decide +kernel) rfl rfl (Nat.le_of_ble_eq_true rfl) (.inl rfl) dX7_receive_28 (fun H locs hB => ?_)
    have hB : Bx B0 D _ [(r5198, .inr (3, [.int f5199_0, .int f5199_1, .int f5199_2, .int f5199_3, .int f5199_4, .int f5199_5, .int f5199_6, .int f5199_7, .int f5199_8, .int f5199_9])), (w, .inr (7, [.ref su, .ref f5197_1, .ref (cs (400 + i)), .ref (cs (420 + i)), .ref (cs (460 + i)), .ref f5197_5, .long f5197_6, .int f5197_7, .int f5197_8, .int f5197_9, .int x5242, .int f5197_11, .int f5197_12, .int f5197_13, .int f5197_14, .int f5197_15])), ((cs (460 + i)), .inr (1, [.int b0, .int b1, .int b2, .int b3, .int b4, .int b5, .int b6]))] [w] _ _ := hB
    have hMW := hMW.fr hT hw hsu (Fr.close (S := [i]) Fr.rf hB (fa_c (by simp [hw.2]) fa_n)) (by first | (simp; done) | (simp [h15a, h15b, h15c]; done) | (simp; omega) | omega) (by first | (simp; done) | (simp [h15a, h15b, h15c]; done) | (simp; omega) | omega)
    have hT : WT B0 D cs T κ _ := hT.close hB ⟨⟨1, _, rfl, ok_8 hw.1 ⟨_, _, _, _, _, _, _, _, _, _, _, _, _, _, _, _, rfl, t5197_0, c5197_su, ⟨t5197_1.1, by rw [hw.2]; exact t5197_1.2⟩, ⟨t5197_2.1, by rw [hw.2]; exact t5197_2.2⟩, ⟨t5197_3.1, by rw [hw.2]; exact t5197_3.2⟩, ⟨t5197_4.1, by rw [hw.2]; exact t5197_4.2⟩, ⟨t5197_5.1, by rw [hw.2]; exact t5197_5.2⟩, c5197_tm, (by rw [hw.2]; omega), (by first | rw [hw.2] | (dsimp only; rw [hw.2])), (by first | rw [hw.2] | (dsimp only; rw [hw.2])), (by first | rw [hw.2] | (dsimp only; rw [hw.2]))⟩⟩, trivial⟩
    have hF : Fr B0 [i, i + 20] κ H0 _ := hF.close hB (fa_c (by simp [hw.2]) fa_n)
    have hL : OkL B0 _ := hB.2.2.2.2.2
    have hP : va_P D vwCl [(r5198, .inr (3, [.int f5199_0, .int f5199_1, .int f5199_2, .int f5199_3, .int f5199_4, .int f5199_5, .int f5199_6, .int f5199_7, .int f5199_8, .int f5199_9])), (w, .inr (7, [.ref su, .ref f5197_1, .ref (cs (400 + i)), .ref (cs (420 + i)), .ref (cs (460 + i)), .ref f5197_5, .long f5197_6, .int f5197_7, .int f5197_8, .int f5197_9, .int x5242, .int f5197_11, .int f5197_12, .int f5197_13, .int f5197_14, .int f5197_15])), ((cs (460 + i)), .inr (1, [.int b0, .int b1, .int b2, .int b3, .int b4, .int b5, .int b6]))] _ := hB.1
    refine W.know (fun hg => ?_)
    rw [hH0] at hg
    exact en_v hx hb hr hlocks hL (Nat.zero_le _) (Nat.zero_le _) dX7_receive_31 (⟨_, KX.rf, hT, hF, _, _, _, _, _, hMW, ⟨hg, hGN⟩, hbo.rd ht16 hpl, fun _ _ => Nat.le_refl _⟩)
theorem mX7_tick_1 : (.fieldLink RX7 64 "OneBeat$World" "time" "I" : Cond) ∈ wsX7_tick := List.mem_of_getElem? (i := 1) (by decide +kernel)
theorem iX7_tick_7 : ∀ w ∈ wsX70, w ∈ wsX7_tick := fun w h => List.mem_of_mem_drop (List.mem_of_mem_take ((show wsX70 = (wsX7_tick.drop 141).take 16 by decide +kernel) ▸ h))
theorem mX7_tick_2 : (.fieldLink RX7 20 "OneBeat$World" "mail" "LOneBeat$Mail;" : Cond) ∈ wsX7_tick := List.mem_of_getElem? (i := 2) (by decide +kernel)
theorem hdX2_clear_v : yX2_clear.cls = RX2 ∧ yX2_clear.cls ≠ "java/lang/invoke/MethodHandle" ∧ yX2_clear.cls ≠ "java/lang/invoke/VarHandle" ∧ (parseMethodDescriptor yX2_clear.desc).map (fun d => d.parameters.length) = some 1 := by decide +kernel
theorem mX7_tick_4 : (.fieldLink RX7 27 "OneBeat$World" "latest" "LOneBeat$Proposal;" : Cond) ∈ wsX7_tick := List.mem_of_getElem? (i := 4) (by decide +kernel)
theorem iX7_tick_4 : ∀ w ∈ wsX40, w ∈ wsX7_tick := fun w h => List.mem_of_mem_drop (List.mem_of_mem_take ((show wsX40 = (wsX7_tick.drop 157).take 8 by decide +kernel) ▸ h))
theorem mX7_tick_5 : (.fieldLink RX7 52 "OneBeat$World" "setup" "LOneBeat$Setup;" : Cond) ∈ wsX7_tick := List.mem_of_getElem? (i := 5) (by decide +kernel)
theorem iX7_tick_6 : ∀ w ∈ wsX60, w ∈ wsX7_tick := fun w h => List.mem_of_mem_drop (List.mem_of_mem_take ((show wsX60 = (wsX7_tick.drop 165).take 8 by decide +kernel) ▸ h))
theorem hdX7_changeIfDue_v : yX7_changeIfDue.cls = RX7 ∧ yX7_changeIfDue.cls ≠ "java/lang/invoke/MethodHandle" ∧ yX7_changeIfDue.cls ≠ "java/lang/invoke/VarHandle" ∧ (parseMethodDescriptor yX7_changeIfDue.desc).map (fun d => d.parameters.length) = some 1 := by decide +kernel
theorem hdX7_giveUp_v : yX7_giveUp.cls = RX7 ∧ yX7_giveUp.cls ≠ "java/lang/invoke/MethodHandle" ∧ yX7_giveUp.cls ≠ "java/lang/invoke/VarHandle" ∧ (parseMethodDescriptor yX7_giveUp.desc).map (fun d => d.parameters.length) = some 0 := by decide +kernel
theorem mX7_tick_3 : (.fieldLink RX7 34 "OneBeat$World" "incoming" "LOneBeat$Letter;" : Cond) ∈ wsX7_tick := List.mem_of_getElem? (i := 3) (by decide +kernel)
theorem hdX7_receive_v : yX7_receive.cls = RX7 ∧ yX7_receive.cls ≠ "java/lang/invoke/MethodHandle" ∧ yX7_receive.cls ≠ "java/lang/invoke/VarHandle" ∧ (parseMethodDescriptor yX7_receive.desc).map (fun d => d.parameters.length) = some 0 := by decide +kernel
theorem hdX7_commitIfVoted_v : yX7_commitIfVoted.cls = RX7 ∧ yX7_commitIfVoted.cls ≠ "java/lang/invoke/MethodHandle" ∧ yX7_commitIfVoted.cls ≠ "java/lang/invoke/VarHandle" ∧ (parseMethodDescriptor yX7_commitIfVoted.desc).map (fun d => d.parameters.length) = some 0 := by decide +kernel
set_option maxHeartbeats 4000000 in
set_option maxRecDepth 100000 in
theorem c_X7_tick {l : Launch} {D : va_G} {cs : Nat → ClassId} {B0 T : Nat} {κ : KM} {H0 : Heap} (hT : WT B0 D cs T κ H0) {w i : Nat} (hw : T2 κ w 8 i) {C cn ln : Nat → Nat} {rw9 : Nat → Nat → Int32} {dl : Nat → Int32} {su tm : Nat} (hsu : (κ w).2.2.1 = su) (htm : (κ w).2.2.2 = tm) (hMW : MW D cs H0 i su tm C cn ln rw9 dl) {b : Nat} (hbo : EL C dl cn rw9 0 0 (κ (cs (420 + i))).2.2.1 b) (hb24 : b ≤ 24) : KC l yX7_tick wsX7_tick 5 156 ((56 * sumN C 16 + 22407 - 2 * sumN ln 16) / 35) (56 * sumN C 16 + 22407 - 2 * sumN ln 16) D cs B0 H0 [.ref w] (Qv (fun H => ∃ κ1, KU i κ κ1 ∧ WT B0 D cs T κ1 H ∧ Fr B0 [i, i + 20, i + 40] κ H0 H ∧ ∃ cn1 ln1 rw1 t1 k n, MW D cs H i su t1 C cn1 ln1 rw1 dl ∧ GP H0 H ln ln1 k n ∧ (κ1 w).2.2.1 = su ∧ (κ1 w).2.2.2 = t1 ∧ EL C dl cn1 rw1 0 0 (κ1 (cs (420 + i))).2.2.1 b)) := by
  refine KC.of cX7_tick 3 none (by decide) rfl (Nat.le_of_ble_eq_true rfl) ?_
  intro p e s m below meth c ls hx hb hr hml hown hts hlocks hin hN hE hH0 hl
  have hown : s.vm.findClass RX7 = some m.cls := hown
  have hl : lv_has ls 3 [(0, .ref w)] := hl
  have hL : OkL B0 [] := OkL.nil
  have hF : Fr B0 [i, i + 20, i + 40] κ H0 H0 := Fr.rf
  obtain ⟨hmk, hpr, hli, -, hi10⟩ := hT.ml hw
  have ht16 := hMW.2.2.2
  have h15a : ¬ 15 = i := by omega
  have h15b : ¬ 15 = i + 20 := by omega
  have h15c : ¬ 15 = i + 40 := by omega
  have hGN : GN ln ln 0 0 := GN.rf
  have hs0 := hMW.2.2.1.sum
  have hEO := hbo
  obtain ⟨t1, ht1⟩ : ∃ t1, (tm + 1) % 16 = t1 := ⟨_, rfl⟩
  have ht9 : t1 < 16 := by omega
  refine lv_aload_n hx hb dX7_tick_0 rfl (lv_at hl 0 rfl) ?_
  refine lv_dup hx hb dX7_tick_1 rfl ?_
  obtain ⟨hb5243, e5243, hat5243, hk5243⟩ := hT.o8 hw.1
  obtain ⟨f5243_0, f5243_1, f5243_2, f5243_3, f5243_4, f5243_5, f5243_6, f5243_7, f5243_8, f5243_9, f5243_10, f5243_11, f5243_12, f5243_13, f5243_14, f5243_15, rfl, t5243_0, c5243_su, t5243_1, t5243_2, t5243_3, t5243_4, t5243_5, c5243_tm, c5243_lt, c5243_ml, c5243_pr, c5243_li⟩ := hk5243
  rw [hw.2] at t5243_1
  rw [hw.2] at t5243_2
  rw [hw.2] at t5243_3
  rw [hw.2] at t5243_4
  rw [hw.2] at t5243_5
  rw [hw.2] at c5243_lt c5243_ml c5243_pr c5243_li
  subst c5243_ml
  subst c5243_pr
  subst c5243_li
  have esu5243 := (c5243_su.trans hsu).symm
  subst esu5243
  have ctm5243 : f5243_7 &&& 15 = nI tm := by rw [c5243_tm, htm]
  have hP : va_P D vwCl [(w, .inr (7, [.ref su, .ref f5243_1, .ref (cs (400 + i)), .ref (cs (420 + i)), .ref (cs (460 + i)), .ref f5243_5, .long f5243_6, .int f5243_7, .int f5243_8, .int f5243_9, .int f5243_10, .int f5243_11, .int f5243_12, .int f5243_13, .int f5243_14, .int f5243_15]))] _ := va_P.cons hat5243 va_P.nil
  refine va_get (D := D) (ci := 7) (v := .int f5243_7) (C := RX7) (T := TX7) (N := 16) hx hb hts iX7_tick_7 hown hN.1 hP 0 rfl rfl 7 (by decide) (hts _ mX7_tick_1) (fun _ h9 => h9) rfl dX7_tick_2 ?_
  refine lv_iconst (v := 1) hx hb dX7_tick_5 (by decide) ?_
  refine lv_iadd hx hb dX7_tick_6 ?_
  have hB : Bx B0 D _ [(w, .inr (7, [.ref su, .ref f5243_1, .ref (cs (400 + i)), .ref (cs (420 + i)), .ref (cs (460 + i)), .ref f5243_5, .long f5243_6, .int f5243_7, .int f5243_8, .int f5243_9, .int f5243_10, .int f5243_11, .int f5243_12, .int f5243_13, .int f5243_14, .int f5243_15]))] [] _ _ := Bx.of (fun a => (κ a).1) hL hP (fa_c hb5243 fa_n) (by simp only [List.map_cons, List.map_nil, hw.1]; decide)
  refine b_put (D := D) (ci := 7) (v := .int (f5243_7 + 1)) (ty := .int) (C := RX7) (T := TX7) (N := 16) hx hb hts iX7_tick_7 tyX7 tyX7_ok nmX7 hown hN hB 0 rfl rfl 7 (by decide) (hts _ mX7_tick_1) (fun _ h9 => h9) rfl (by decide +kernel) rfl rfl (Nat.le_of_ble_eq_true rfl) (.inl rfl) dX7_tick_7 (fun H locs hB => ?_)
  have hct9 : (f5243_7 + 1) &&& 15 = nI t1 := by rw [← ht1]; exact and15_1 ctm5243 ht16
  have hB : Bx B0 D _ [(w, .inr (7, [.ref su, .ref f5243_1, .ref (cs (400 + i)), .ref (cs (420 + i)), .ref (cs (460 + i)), .ref f5243_5, .long f5243_6, .int (f5243_7 + 1), .int f5243_8, .int f5243_9, .int f5243_10, .int f5243_11, .int f5243_12, .int f5243_13, .int f5243_14, .int f5243_15]))] [w] _ _ := hB
  refine lv_aload_n hx hb dX7_tick_10 rfl (lv_at hl 0 rfl) ?_
  refine va_get (D := D) (ci := 7) (v := .ref (cs (400 + i))) (C := RX7) (T := TX7) (N := 16) hx hb hts iX7_tick_7 hown hN.1 hB.1 0 rfl rfl 2 (by decide) (hts _ mX7_tick_2) (fun _ h9 => h9) rfl dX7_tick_11 ?_
  refine lv_aload_n hx hb dX7_tick_14 rfl (lv_at hl 0 rfl) ?_
  refine va_get (D := D) (ci := 7) (v := .int (f5243_7 + 1)) (C := RX7) (T := TX7) (N := 16) hx hb hts iX7_tick_7 hown hN.1 hB.1 0 rfl rfl 7 (by decide) (hts _ mX7_tick_1) (fun _ h9 => h9) rfl dX7_tick_15 ?_
  have hMW := hMW.fr hT hw hsu (Fr.close (S := [i]) Fr.rf hB (fa_c (by simp [hw.2]) fa_n)) (by first | (simp; done) | (simp [h15a, h15b, h15c]; done) | (simp; omega) | omega) (by first | (simp; done) | (simp [h15a, h15b, h15c]; done) | (simp; omega) | omega)
  have hF : Fr B0 [i, i + 20, i + 40] κ H0 _ := hF.close hB (fa_c (by simp [hw.2]) fa_n)
  have hT : WT B0 D cs T (kp κ w su t1) _ := hT.closeK w su t1 hB (by rw [hw.1]; decide) (by rw [hw.1]; decide) (List.mem_of_getElem? (i := 0) rfl) ⟨⟨0, _, rfl, kp_ok (ok_8 (k := ((κ w).1, (κ w).2.1, _, _)) hw.1 ⟨_, _, _, _, _, _, _, _, _, _, _, _, _, _, _, _, rfl, (t2kp t5243_0), rfl, ⟨(t2kp t5243_1).1, by rw [hw.2]; exact (t2kp t5243_1).2⟩, ⟨(t2kp t5243_2).1, by rw [hw.2]; exact (t2kp t5243_2).2⟩, ⟨(t2kp t5243_3).1, by rw [hw.2]; exact (t2kp t5243_3).2⟩, ⟨(t2kp t5243_4).1, by rw [hw.2]; exact (t2kp t5243_4).2⟩, ⟨(t2kp t5243_5).1, by rw [hw.2]; exact (t2kp t5243_5).2⟩, hct9, (by rw [hw.2]; omega), (by first | rw [hw.2] | (dsimp only; rw [hw.2])), (by first | rw [hw.2] | (dsimp only; rw [hw.2])), (by first | rw [hw.2] | (dsimp only; rw [hw.2]))⟩)⟩, trivial⟩
  have hL : OkL B0 _ := hB.2.2.2.2.2
  have hP : va_P D vwCl [(w, .inr (7, [.ref su, .ref f5243_1, .ref (cs (400 + i)), .ref (cs (420 + i)), .ref (cs (460 + i)), .ref f5243_5, .long f5243_6, .int (f5243_7 + 1), .int f5243_8, .int f5243_9, .int f5243_10, .int f5243_11, .int f5243_12, .int f5243_13, .int f5243_14, .int f5243_15]))] _ := hB.1
  obtain ⟨κ5244, hκ5244⟩ : ∃ κq : KM, κq = (kp κ w su t1) := ⟨_, rfl⟩
  have hxf5244 : KF κ κ5244 := by rw [hκ5244]; exact KF.kp
  rw [← hκ5244] at hT
  have hKF : KF κ κ5244 := hxf5244
  have hKU : KU i κ κ5244 := (show KU i κ κ5244 by rw [hκ5244]; exact KU.kp hw)
  have hsu : (κ5244 w).2.2.1 = su := by rw [hκ5244, kp_a]
  have htm : (κ5244 w).2.2.2 = t1 := by rw [hκ5244, kp_a]
  have hw := (KF.t2 hxf5244 hw (by decide))
  have t5243_2 := (KF.t2 hxf5244 t5243_2 (by decide))
  have hpr := (KF.t2 hxf5244 hpr (by decide))
  have hmk := (KF.t2 hxf5244 hmk (by decide))
  have hli := (KF.t2 hxf5244 hli (by decide))
  have hMW := hMW.tm ht9
  have hcn := EE_cb (Nat.le_trans hEO.le9 hb24)
  have hmm : m15 (f5243_7 + 1) = t1 := m15_of hct9 ht9
  refine cv_i (As := [.int (f5243_7 + 1)]) (rest := []) (b := (cs (400 + i))) ⟨hx, hb, hml, hown, hts⟩ (c_X2_countAt_dc hT (w := (cs (400 + i))) t5243_2 (x := (f5243_7 + 1)) hMW.1 hMW.2.2.1 hcn) (cwV 1 hts gX7_tick_X2_countAt rfl rfl rfl hdX2_countAt_v ⟨Nat.le_of_ble_eq_true rfl, Nat.le_of_ble_eq_true rfl⟩) hN hE hL (rcv3 hN hT t5243_2.1) rfl rfl hl.1 (Nat.le_of_ble_eq_true rfl) dX7_tick_18 (Nat.zero_le _) (Nat.zero_le _) (fun r5245 H1 locs hL hqr5245 => ?_)
  obtain ⟨h9, hqr5245⟩ := hqr5245; replace h9 := h9.symm; subst h9
  obtain rfl := hqr5245
  refine tp_i (nI (cn t1)) (by rw [hmm]) ?_
  have hc9 := hcn t1 ht9
  have hc8 := (hMW.2.2.1 t1 ht9).2.2.2
  refine lv_istore_n (lv' := [(1, .int (nI (cn t1))), (0, .ref w)]) hx hb dX7_tick_21 rfl hl (by decide) rfl (fun ls hl => ?_)
  refine lv_iconst (v := 0) hx hb dX7_tick_22 (by decide) ?_
  refine lv_istore_n (lv' := [(2, .int 0), (1, .int (nI (cn t1))), (0, .ref w)]) hx hb dX7_tick_23 rfl hl (by decide) rfl (fun ls hl => ?_)
  have hpo9 : κ5244 (cs (420 + i)) = κ (cs (420 + i)) := by rw [hκ5244]; exact kp_n (ne_c hpr.1 hw.1 (by decide))
  refine W.know (fun hgb => ?_)
  rw [hH0] at hgb
  refine W.widen (k := ((56 * sumN C 16 + 22407 - 2 * sumN ln 16) / 35)) (n := (56 * sumN C 16 + 22407 - 2 * sumN ln 16)) (Nat.zero_le _) (Nat.zero_le _) ?_
  refine lp_m (α := Nat × KM × (Nat → Nat) × (Nat → Nat) × (Nat → Nat → Int32) × Nat × Nat) (nL := 3) (fun a9 => cn t1 - a9.1) (fun a9 H9 l9 => (a9.1 ≤ cn t1) ∧ (KU i κ a9.2.1) ∧ (T2 a9.2.1 w 8 i) ∧ ((a9.2.1 w).2.2.1 = su) ∧ ((a9.2.1 w).2.2.2 = t1) ∧ (MW D cs H9 i su t1 C a9.2.2.1 a9.2.2.2.1 a9.2.2.2.2.1 dl) ∧ (EL C dl a9.2.2.1 a9.2.2.2.2.1 t1 a9.1 (a9.2.1 (cs (420 + i))).2.2.1 b) ∧ (Gr H0 H9 a9.2.2.2.2.2.1 a9.2.2.2.2.2.2) ∧ (GN ln a9.2.2.2.1 a9.2.2.2.2.2.1 a9.2.2.2.2.2.2) ∧ (∀ q, q < 16 → cn q ≤ a9.2.2.1 q) ∧ (WT B0 D cs T a9.2.1 H9) ∧ (Fr B0 [i, i + 20, i + 40] κ H0 H9) ∧ (OkL B0 l9)) (fun a9 => [(2, .int (nI a9.1)), (0, .ref w), (1, .int (nI (cn t1)))]) ?_ (0, κ5244, cn, ln, rw9, 0, 0) _ _ _ ⟨(Nat.zero_le _), hKU, hw, hsu, htm, hMW, (hEO.st.k (congrArg (fun q9 => q9.2.2.1) hpo9)), hgb, hGN, (fun _ _ => Nat.le_refl _), hT, hF, hL⟩ (lv_sub hl [0, 2, 1] rfl)
  rintro ⟨p, κ9, cn9, ln9, rw99, k9, n9⟩ H locs ls ih5246 ⟨hp, hKU, hw, hsu, htm, hMW, hEO, hGR, hGN, hmo, hT, hF, hL⟩ hl
  have hl : lv_has ls 3 [(2, .int (nI p)), (0, .ref w), (1, .int (nI (cn t1)))] := hl
  have hp : p ≤ cn t1 := hp
  have hKU : KU i κ κ9 := hKU
  have hw : T2 κ9 w 8 i := hw
  have hsu : (κ9 w).2.2.1 = su := hsu
  have htm : (κ9 w).2.2.2 = t1 := htm
  have hMW : MW D cs H i su t1 C cn9 ln9 rw99 dl := hMW
  have hEO : EL C dl cn9 rw99 t1 p (κ9 (cs (420 + i))).2.2.1 b := hEO
  have hGR : Gr H0 H k9 n9 := hGR
  have hGN : GN ln ln9 k9 n9 := hGN
  have hmo : ∀ q, q < 16 → cn q ≤ cn9 q := hmo
  have hT : WT B0 D cs T κ9 _ := hT
  have hKF := hKU.1
  refine W.tight (k := k9) (n := n9) (by rw [hH0]; exact hGR) ?_
  obtain ⟨hmk, hpr, hli, -, -⟩ := hT.ml hw
  have hg1 := hGN.1
  have hg2 := hGN.2
  have hs9 := hMW.2.2.1.sum
  have hcn := EE_cb (Nat.le_trans hEO.le9 hb24)
  have hc9 := hcn t1 ht9
  have hc8 := (hMW.2.2.1 t1 ht9).2.2.2
  have hc7 := hmo t1 ht9
  refine lv_iload_n hx hb dX7_tick_24 rfl (lv_at hl 0 rfl) ?_
  refine lv_iload_n hx hb dX7_tick_25 rfl (lv_at hl 2 rfl) ?_
  refine lv_icmp_ge (tgt := 62) hx hb dX7_tick_26 (by decide) (fun c5247 => ?_) (fun c5247 => ?_)
  · have c5247 : (cn t1) ≤ p := (nI_leI (a := (cn t1)) (b := p) (by omega) (by omega)).mp c5247
    refine lv_aload_n hx hb dX7_tick_62 rfl (lv_at hl 1 rfl) ?_
    obtain ⟨hb5248, e5248, hat5248, hk5248⟩ := hT.o8 hw.1
    obtain ⟨f5248_0, f5248_1, f5248_2, f5248_3, f5248_4, f5248_5, f5248_6, f5248_7, f5248_8, f5248_9, f5248_10, f5248_11, f5248_12, f5248_13, f5248_14, f5248_15, rfl, t5248_0, c5248_su, t5248_1, t5248_2, t5248_3, t5248_4, t5248_5, c5248_tm, c5248_lt, c5248_ml, c5248_pr, c5248_li⟩ := hk5248
    rw [hw.2] at t5248_1
    rw [hw.2] at t5248_2
    rw [hw.2] at t5248_3
    rw [hw.2] at t5248_4
    rw [hw.2] at t5248_5
    rw [hw.2] at c5248_lt c5248_ml c5248_pr c5248_li
    subst c5248_ml
    subst c5248_pr
    subst c5248_li
    have esu5248 := (c5248_su.trans hsu).symm
    subst esu5248
    have ctm5248 : f5248_7 &&& 15 = nI t1 := by rw [c5248_tm, htm]
    have hP : va_P D vwCl [(w, .inr (7, [.ref su, .ref f5248_1, .ref (cs (400 + i)), .ref (cs (420 + i)), .ref (cs (460 + i)), .ref f5248_5, .long f5248_6, .int f5248_7, .int f5248_8, .int f5248_9, .int f5248_10, .int f5248_11, .int f5248_12, .int f5248_13, .int f5248_14, .int f5248_15]))] _ := va_P.cons hat5248 va_P.nil
    refine va_get (D := D) (ci := 7) (v := .ref (cs (400 + i))) (C := RX7) (T := TX7) (N := 16) hx hb hts iX7_tick_7 hown hN.1 hP 0 rfl rfl 2 (by decide) (hts _ mX7_tick_2) (fun _ h9 => h9) rfl dX7_tick_63 ?_
    refine lv_aload_n hx hb dX7_tick_66 rfl (lv_at hl 1 rfl) ?_
    refine va_get (D := D) (ci := 7) (v := .int f5248_7) (C := RX7) (T := TX7) (N := 16) hx hb hts iX7_tick_7 hown hN.1 hP 0 rfl rfl 7 (by decide) (hts _ mX7_tick_1) (fun _ h9 => h9) rfl dX7_tick_67 ?_
    have hcn := EE_cb (Nat.le_trans hEO.le9 hb24)
    have hmm : m15 f5248_7 = t1 := m15_of ctm5248 ht9
    refine cv_v (As := [.int f5248_7]) (rest := []) (b := (cs (400 + i))) ⟨hx, hb, hml, hown, hts⟩ (c_X2_clear_dc hT (w := (cs (400 + i))) t5248_2 (x := f5248_7) hMW.1 hMW.2.2.1 hcn) (cwV 1 hts gX7_tick_X2_clear rfl rfl rfl hdX2_clear_v ⟨Nat.le_of_ble_eq_true rfl, Nat.le_of_ble_eq_true rfl⟩) hN hE hL (rcv3 hN hT t5248_2.1) rfl rfl hl.1 (Nat.le_of_ble_eq_true rfl) dX7_tick_70 (show k9 + 0 ≤ ((56 * sumN C 16 + 22407 - 2 * sumN ln 16) / 35) by omega) (show n9 + 0 ≤ (56 * sumN C 16 + 22407 - 2 * sumN ln 16) by omega) (fun H1 locs hL hqr5249 => ?_)
    obtain ⟨hT1, hF1, hqr5249⟩ := hqr5249
    have hP : va_P D vwCl [(w, .inr (7, [.ref su, .ref f5248_1, .ref (cs (400 + i)), .ref (cs (420 + i)), .ref (cs (460 + i)), .ref f5248_5, .long f5248_6, .int f5248_7, .int f5248_8, .int f5248_9, .int f5248_10, .int f5248_11, .int f5248_12, .int f5248_13, .int f5248_14, .int f5248_15]))] _ := hF1.hP (hP.sub [0] rfl) (fa_c ⟨by rw [hw.1]; decide, by rw [hw.2]; first | decide | (simp; done) | (simp [h15a, h15b, h15c]; done) | (simp; omega)⟩ fa_n)
    have hTo := hT
    have hwo := hw
    have hsuo := hsu
    have hF9 := hF1
    have hF := hF.tr ((hF1.kf hKF).mono (by simp))
    have hT := hT1
    have m5250 := hqr5249
    rw [hmm] at m5250
    have hMW := hMW.mb hTo hwo hsuo hF9 (by first | (simp; done) | (simp [h15a, h15b, h15c]; done) | (simp; omega) | omega) m5250 hMW.2.2.1.clear
    have hEO := hEO.clear
    refine lv_aload_n hx hb dX7_tick_73 rfl (lv_at hl 1 rfl) ?_
    refine va_get (D := D) (ci := 7) (v := .ref (cs (420 + i))) (C := RX7) (T := TX7) (N := 16) hx hb hts iX7_tick_7 hown hN.1 hP 0 rfl rfl 3 (by decide) (hts _ mX7_tick_4) (fun _ h9 => h9) rfl dX7_tick_74 ?_
    obtain ⟨hb5251, e5251, hat5251, hk5251⟩ := hT.o5 t5248_3.1
    obtain ⟨f5251_0, f5251_1, f5251_2, f5251_3, f5251_4, f5251_5, f5251_6, f5251_7, rfl, c5251⟩ := hk5251
    have hP : va_P D vwCl [((cs (420 + i)), .inr (4, [.int f5251_0, .int f5251_1, .int f5251_2, .int f5251_3, .int f5251_4, .int f5251_5, .int f5251_6, .int f5251_7])), (w, .inr (7, [.ref su, .ref f5248_1, .ref (cs (400 + i)), .ref (cs (420 + i)), .ref (cs (460 + i)), .ref f5248_5, .long f5248_6, .int f5248_7, .int f5248_8, .int f5248_9, .int f5248_10, .int f5248_11, .int f5248_12, .int f5248_13, .int f5248_14, .int f5248_15]))] _ := va_P.cons hat5251 hP
    refine va_getN (D := D) (ci := 4) (v := .int f5251_5) (C := RX4) (T := TX4) (N := 8) hx hb hts iX7_tick_4 hown hN.1 hP 0 rfl rfl 5 (by decide) (hN.f 12 rfl) (fun _ h9 => h9) rfl dX7_tick_77 ?_
    refine lv_if_ne (tgt := 101) hx hb dX7_tick_80 (by decide) (fun c5252 => ?_) (fun c5252 => ?_)
    · refine lv_iconst (v := 0) hx hb dX7_tick_101 (by decide) ?_
      refine lv_istore_n (lv' := [(2, .int 0), (0, .ref w), (1, .int (nI (cn t1)))]) hx hb dX7_tick_102 rfl hl (by decide) rfl (fun ls hl => ?_)
      refine lp_m (α := Nat) (nL := 3) (fun a9 => 8 - a9) (fun a9 H9 l9 => (a9 ≤ 8) ∧ (MW D cs H9 i su t1 C (up9 cn9 t1 0) ln9 rw99 dl) ∧ (WT B0 D cs T κ9 H9) ∧ (Fr B0 [i, i + 20, i + 40] κ H0 H9) ∧ (OkL B0 l9)) (fun a9 => [(2, .int (nI a9)), (0, .ref w)]) ?_ 0 _ _ _ ⟨(by show (0) ≤ 8; omega), hMW, hT, hF, hL⟩ (lv_sub hl [0, 1] rfl)
      rintro p2 H locs ls ih5253 ⟨hp2, hMW, hT, hF, hL⟩ hl
      have hl : lv_has ls 3 [(2, .int (nI p2)), (0, .ref w)] := hl
      have hp2 : p2 ≤ 8 := hp2
      have hMW : MW D cs H i su t1 C (up9 cn9 t1 0) ln9 rw99 dl := hMW
      refine lv_iload_n hx hb dX7_tick_103 rfl (lv_at hl 0 rfl) ?_
      refine lv_aload_n hx hb dX7_tick_104 rfl (lv_at hl 1 rfl) ?_
      obtain ⟨hb5254, e5254, hat5254, hk5254⟩ := hT.o8 hw.1
      obtain ⟨f5254_0, f5254_1, f5254_2, f5254_3, f5254_4, f5254_5, f5254_6, f5254_7, f5254_8, f5254_9, f5254_10, f5254_11, f5254_12, f5254_13, f5254_14, f5254_15, rfl, t5254_0, c5254_su, t5254_1, t5254_2, t5254_3, t5254_4, t5254_5, c5254_tm, c5254_lt, c5254_ml, c5254_pr, c5254_li⟩ := hk5254
      rw [hw.2] at t5254_1
      rw [hw.2] at t5254_2
      rw [hw.2] at t5254_3
      rw [hw.2] at t5254_4
      rw [hw.2] at t5254_5
      rw [hw.2] at c5254_lt c5254_ml c5254_pr c5254_li
      subst c5254_ml
      subst c5254_pr
      subst c5254_li
      have esu5254 := (c5254_su.trans hsu).symm
      subst esu5254
      have ctm5254 : f5254_7 &&& 15 = nI t1 := by rw [c5254_tm, htm]
      have hP : va_P D vwCl [(w, .inr (7, [.ref su, .ref f5254_1, .ref (cs (400 + i)), .ref (cs (420 + i)), .ref (cs (460 + i)), .ref f5254_5, .long f5254_6, .int f5254_7, .int f5254_8, .int f5254_9, .int f5254_10, .int f5254_11, .int f5254_12, .int f5254_13, .int f5254_14, .int f5254_15]))] _ := va_P.cons hat5254 va_P.nil
      refine va_get (D := D) (ci := 7) (v := .ref su) (C := RX7) (T := TX7) (N := 16) hx hb hts iX7_tick_7 hown hN.1 hP 0 rfl rfl 0 (by decide) (hts _ mX7_tick_5) (fun _ h9 => h9) rfl dX7_tick_105 ?_
      obtain ⟨hb5255, e5255, hat5255, hk5255⟩ := hT.o7 t5254_0.1
      obtain ⟨f5255_0, f5255_1, f5255_2, f5255_3, f5255_4, f5255_5, f5255_6, f5255_7, rfl, c5255_0, c5255_3, c5255_mg, t5255_4, t5255_5, t5255_6, t5255_7⟩ := hk5255
      rw [t5254_0.2] at t5255_4
      rw [t5254_0.2] at t5255_5
      rw [t5254_0.2] at t5255_6
      rw [t5254_0.2] at t5255_7
      have hP : va_P D vwCl [(su, .inr (6, [.int (nI f5255_0), .int f5255_1, .int f5255_2, f5255_3, .ref f5255_4, .ref f5255_5, .ref f5255_6, .ref f5255_7])), (w, .inr (7, [.ref su, .ref f5254_1, .ref (cs (400 + i)), .ref (cs (420 + i)), .ref (cs (460 + i)), .ref f5254_5, .long f5254_6, .int f5254_7, .int f5254_8, .int f5254_9, .int f5254_10, .int f5254_11, .int f5254_12, .int f5254_13, .int f5254_14, .int f5254_15]))] _ := va_P.cons hat5255 hP
      refine va_getN (D := D) (ci := 6) (v := .int (nI f5255_0)) (C := RX6) (T := TX6) (N := 8) hx hb hts iX7_tick_6 hown hN.1 hP 0 rfl rfl 0 (by decide) (hN.f 39 rfl) (fun _ h9 => h9) rfl dX7_tick_108 ?_
      refine lv_icmp_ge (tgt := 125) hx hb dX7_tick_111 (by decide) (fun c5256 => ?_) (fun c5256 => ?_)
      · have c5256 : f5255_0 ≤ p2 := (nI_leI (a := f5255_0) (b := p2) (by omega) (by omega)).mp c5256
        refine W.know (fun hg => ?_)
        rw [hH0] at hg
        exact en_v hx hb hr hlocks hL (show k9 ≤ ((56 * sumN C 16 + 22407 - 2 * sumN ln 16) / 35) by omega) (show n9 ≤ (56 * sumN C 16 + 22407 - 2 * sumN ln 16) by omega) dX7_tick_125 (⟨_, hKU, hT, hF, _, _, _, _, _, _, hMW, ⟨hg, hGN⟩, hsu, htm, hEO.st⟩)
      · have c5256 : ¬ f5255_0 ≤ p2 := fun h9 => c5256 ((nI_leI (a := f5255_0) (b := p2) (by omega) (by omega)).mpr h9)
        refine lv_aload_n hx hb dX7_tick_114 rfl (lv_at hl 1 rfl) ?_
        refine lv_iload_n hx hb dX7_tick_115 rfl (lv_at hl 0 rfl) ?_
        refine cv_v (As := [.int (nI p2)]) (rest := []) (b := w) ⟨hx, hb, hml, hown, hts⟩ (c_X7_changeIfDue hT (w := w) hw (x := (nI p2))) (cwV 1 hts gX7_tick_X7_changeIfDue rfl rfl rfl hdX7_changeIfDue_v ⟨Nat.le_of_ble_eq_true rfl, Nat.le_of_ble_eq_true rfl⟩) hN hE hL (rcv8 hN hT hw.1) rfl rfl hl.1 (Nat.le_of_ble_eq_true rfl) dX7_tick_116 (show k9 + 0 ≤ ((56 * sumN C 16 + 22407 - 2 * sumN ln 16) / 35) by omega) (show n9 + 0 ≤ (56 * sumN C 16 + 22407 - 2 * sumN ln 16) by omega) (fun H1 locs hL hqr5257 => ?_)
        obtain ⟨hT1, hF1⟩ := hqr5257
        have hP : va_P D vwCl [(su, .inr (6, [.int (nI f5255_0), .int f5255_1, .int f5255_2, f5255_3, .ref f5255_4, .ref f5255_5, .ref f5255_6, .ref f5255_7]))] _ := hF1.hP (hP.sub [0] rfl) (fa_c ⟨by rw [t5254_0.1]; decide, by rw [t5254_0.2]; first | decide | (simp; done) | (simp [h15a, h15b, h15c]; done) | (simp; omega)⟩ fa_n)
        have hMW := hMW.fr hT hw hsu hF1 (by first | (simp; done) | (simp [h15a, h15b, h15c]; done) | (simp; omega) | omega) (by first | (simp; done) | (simp [h15a, h15b, h15c]; done) | (simp; omega) | omega)
        have hF := hF.tr ((hF1.kf hKF).mono (by simp))
        have hT := hT1
        refine lv_iinc (v := (nI (p2 + 1))) (lv' := [(2, .int (nI (p2 + 1))), (0, .ref w)]) hx hb dX7_tick_119 hl (k := 0) rfl (nI_add _ 1) (by decide) rfl (fun ls hl => ?_)
        refine lv_goto (tgt := 103) hx hb dX7_tick_122 (by decide) ?_
        exact ih5253 (p2 + 1) _ _ _ (by show 8 - ((p2 + 1)) < 8 - p2; omega) ⟨(by show ((p2 + 1)) ≤ 8; omega), hMW, hT, hF, hL⟩ (lv_sub hl [0, 1] rfl)
    · have hop : (κ9 (cs (420 + i))).2.2.1 = 0 := c5251.mp c5252
      refine lv_aload_n hx hb dX7_tick_83 rfl (lv_at hl 1 rfl) ?_
      refine va_get (D := D) (ci := 7) (v := .ref (cs (420 + i))) (C := RX7) (T := TX7) (N := 16) hx hb hts iX7_tick_7 hown hN.1 hP 1 rfl rfl 3 (by decide) (hts _ mX7_tick_4) (fun _ h9 => h9) rfl dX7_tick_84 ?_
      refine va_getN (D := D) (ci := 4) (v := .int f5251_2) (C := RX4) (T := TX4) (N := 8) hx hb hts iX7_tick_4 hown hN.1 hP 0 rfl rfl 2 (by decide) (hN.f 8 rfl) (fun _ h9 => h9) rfl dX7_tick_87 ?_
      refine lv_aload_n hx hb dX7_tick_90 rfl (lv_at hl 1 rfl) ?_
      refine va_get (D := D) (ci := 7) (v := .int f5248_7) (C := RX7) (T := TX7) (N := 16) hx hb hts iX7_tick_7 hown hN.1 hP 1 rfl rfl 7 (by decide) (hts _ mX7_tick_1) (fun _ h9 => h9) rfl dX7_tick_91 ?_
      refine lv_icmp_ne (tgt := 101) hx hb dX7_tick_94 (by decide) (fun c5258 => ?_) (fun c5258 => ?_)
      · refine lv_iconst (v := 0) hx hb dX7_tick_101 (by decide) ?_
        refine lv_istore_n (lv' := [(2, .int 0), (0, .ref w), (1, .int (nI (cn t1)))]) hx hb dX7_tick_102 rfl hl (by decide) rfl (fun ls hl => ?_)
        refine lp_m (α := Nat) (nL := 3) (fun a9 => 8 - a9) (fun a9 H9 l9 => (a9 ≤ 8) ∧ (MW D cs H9 i su t1 C (up9 cn9 t1 0) ln9 rw99 dl) ∧ (WT B0 D cs T κ9 H9) ∧ (Fr B0 [i, i + 20, i + 40] κ H0 H9) ∧ (OkL B0 l9)) (fun a9 => [(2, .int (nI a9)), (0, .ref w)]) ?_ 0 _ _ _ ⟨(by show (0) ≤ 8; omega), hMW, hT, hF, hL⟩ (lv_sub hl [0, 1] rfl)
        rintro p2 H locs ls ih5259 ⟨hp2, hMW, hT, hF, hL⟩ hl
        have hl : lv_has ls 3 [(2, .int (nI p2)), (0, .ref w)] := hl
        have hp2 : p2 ≤ 8 := hp2
        have hMW : MW D cs H i su t1 C (up9 cn9 t1 0) ln9 rw99 dl := hMW
        refine lv_iload_n hx hb dX7_tick_103 rfl (lv_at hl 0 rfl) ?_
        refine lv_aload_n hx hb dX7_tick_104 rfl (lv_at hl 1 rfl) ?_
        obtain ⟨hb5260, e5260, hat5260, hk5260⟩ := hT.o8 hw.1
        obtain ⟨f5260_0, f5260_1, f5260_2, f5260_3, f5260_4, f5260_5, f5260_6, f5260_7, f5260_8, f5260_9, f5260_10, f5260_11, f5260_12, f5260_13, f5260_14, f5260_15, rfl, t5260_0, c5260_su, t5260_1, t5260_2, t5260_3, t5260_4, t5260_5, c5260_tm, c5260_lt, c5260_ml, c5260_pr, c5260_li⟩ := hk5260
        rw [hw.2] at t5260_1
        rw [hw.2] at t5260_2
        rw [hw.2] at t5260_3
        rw [hw.2] at t5260_4
        rw [hw.2] at t5260_5
        rw [hw.2] at c5260_lt c5260_ml c5260_pr c5260_li
        subst c5260_ml
        subst c5260_pr
        subst c5260_li
        have esu5260 := (c5260_su.trans hsu).symm
        subst esu5260
        have ctm5260 : f5260_7 &&& 15 = nI t1 := by rw [c5260_tm, htm]
        have hP : va_P D vwCl [(w, .inr (7, [.ref su, .ref f5260_1, .ref (cs (400 + i)), .ref (cs (420 + i)), .ref (cs (460 + i)), .ref f5260_5, .long f5260_6, .int f5260_7, .int f5260_8, .int f5260_9, .int f5260_10, .int f5260_11, .int f5260_12, .int f5260_13, .int f5260_14, .int f5260_15]))] _ := va_P.cons hat5260 va_P.nil
        refine va_get (D := D) (ci := 7) (v := .ref su) (C := RX7) (T := TX7) (N := 16) hx hb hts iX7_tick_7 hown hN.1 hP 0 rfl rfl 0 (by decide) (hts _ mX7_tick_5) (fun _ h9 => h9) rfl dX7_tick_105 ?_
        obtain ⟨hb5261, e5261, hat5261, hk5261⟩ := hT.o7 t5260_0.1
        obtain ⟨f5261_0, f5261_1, f5261_2, f5261_3, f5261_4, f5261_5, f5261_6, f5261_7, rfl, c5261_0, c5261_3, c5261_mg, t5261_4, t5261_5, t5261_6, t5261_7⟩ := hk5261
        rw [t5260_0.2] at t5261_4
        rw [t5260_0.2] at t5261_5
        rw [t5260_0.2] at t5261_6
        rw [t5260_0.2] at t5261_7
        have hP : va_P D vwCl [(su, .inr (6, [.int (nI f5261_0), .int f5261_1, .int f5261_2, f5261_3, .ref f5261_4, .ref f5261_5, .ref f5261_6, .ref f5261_7])), (w, .inr (7, [.ref su, .ref f5260_1, .ref (cs (400 + i)), .ref (cs (420 + i)), .ref (cs (460 + i)), .ref f5260_5, .long f5260_6, .int f5260_7, .int f5260_8, .int f5260_9, .int f5260_10, .int f5260_11, .int f5260_12, .int f5260_13, .int f5260_14, .int f5260_15]))] _ := va_P.cons hat5261 hP
        refine va_getN (D := D) (ci := 6) (v := .int (nI f5261_0)) (C := RX6) (T := TX6) (N := 8) hx hb hts iX7_tick_6 hown hN.1 hP 0 rfl rfl 0 (by decide) (hN.f 39 rfl) (fun _ h9 => h9) rfl dX7_tick_108 ?_
        refine lv_icmp_ge (tgt := 125) hx hb dX7_tick_111 (by decide) (fun c5262 => ?_) (fun c5262 => ?_)
        · have c5262 : f5261_0 ≤ p2 := (nI_leI (a := f5261_0) (b := p2) (by omega) (by omega)).mp c5262
          refine W.know (fun hg => ?_)
          rw [hH0] at hg
          exact en_v hx hb hr hlocks hL (show k9 ≤ ((56 * sumN C 16 + 22407 - 2 * sumN ln 16) / 35) by omega) (show n9 ≤ (56 * sumN C 16 + 22407 - 2 * sumN ln 16) by omega) dX7_tick_125 (⟨_, hKU, hT, hF, _, _, _, _, _, _, hMW, ⟨hg, hGN⟩, hsu, htm, hEO.st⟩)
        · have c5262 : ¬ f5261_0 ≤ p2 := fun h9 => c5262 ((nI_leI (a := f5261_0) (b := p2) (by omega) (by omega)).mpr h9)
          refine lv_aload_n hx hb dX7_tick_114 rfl (lv_at hl 1 rfl) ?_
          refine lv_iload_n hx hb dX7_tick_115 rfl (lv_at hl 0 rfl) ?_
          refine cv_v (As := [.int (nI p2)]) (rest := []) (b := w) ⟨hx, hb, hml, hown, hts⟩ (c_X7_changeIfDue hT (w := w) hw (x := (nI p2))) (cwV 1 hts gX7_tick_X7_changeIfDue rfl rfl rfl hdX7_changeIfDue_v ⟨Nat.le_of_ble_eq_true rfl, Nat.le_of_ble_eq_true rfl⟩) hN hE hL (rcv8 hN hT hw.1) rfl rfl hl.1 (Nat.le_of_ble_eq_true rfl) dX7_tick_116 (show k9 + 0 ≤ ((56 * sumN C 16 + 22407 - 2 * sumN ln 16) / 35) by omega) (show n9 + 0 ≤ (56 * sumN C 16 + 22407 - 2 * sumN ln 16) by omega) (fun H1 locs hL hqr5263 => ?_)
          obtain ⟨hT1, hF1⟩ := hqr5263
          have hP : va_P D vwCl [(su, .inr (6, [.int (nI f5261_0), .int f5261_1, .int f5261_2, f5261_3, .ref f5261_4, .ref f5261_5, .ref f5261_6, .ref f5261_7]))] _ := hF1.hP (hP.sub [0] rfl) (fa_c ⟨by rw [t5260_0.1]; decide, by rw [t5260_0.2]; first | decide | (simp; done) | (simp [h15a, h15b, h15c]; done) | (simp; omega)⟩ fa_n)
          have hMW := hMW.fr hT hw hsu hF1 (by first | (simp; done) | (simp [h15a, h15b, h15c]; done) | (simp; omega) | omega) (by first | (simp; done) | (simp [h15a, h15b, h15c]; done) | (simp; omega) | omega)
          have hF := hF.tr ((hF1.kf hKF).mono (by simp))
          have hT := hT1
          refine lv_iinc (v := (nI (p2 + 1))) (lv' := [(2, .int (nI (p2 + 1))), (0, .ref w)]) hx hb dX7_tick_119 hl (k := 0) rfl (nI_add _ 1) (by decide) rfl (fun ls hl => ?_)
          refine lv_goto (tgt := 103) hx hb dX7_tick_122 (by decide) ?_
          exact ih5259 (p2 + 1) _ _ _ (by show 8 - ((p2 + 1)) < 8 - p2; omega) ⟨(by show ((p2 + 1)) ≤ 8; omega), hMW, hT, hF, hL⟩ (lv_sub hl [0, 1] rfl)
      · refine lv_aload_n hx hb dX7_tick_97 rfl (lv_at hl 1 rfl) ?_
        refine W.know (fun hgb => ?_)
        rw [hH0] at hgb
        refine cv_v (As := []) (rest := []) (b := w) ⟨hx, hb, hml, hown, hts⟩ (c_X7_giveUp hT (w := w) hw hsu htm hMW hEO hb24 hop) (cwV 0 hts gX7_tick_X7_giveUp rfl rfl rfl hdX7_giveUp_v ⟨Nat.le_of_ble_eq_true rfl, Nat.le_of_ble_eq_true rfl⟩) hN hE hL (rcv8 hN hT hw.1) rfl rfl hl.1 (Nat.le_of_ble_eq_true rfl) dX7_tick_98 (show k9 + ((56 * sumN C 16 + 22407 - 2 * sumN ln9 16) / 35) ≤ ((56 * sumN C 16 + 22407 - 2 * sumN ln 16) / 35) by omega) (show n9 + (56 * sumN C 16 + 22407 - 2 * sumN ln9 16) ≤ (56 * sumN C 16 + 22407 - 2 * sumN ln 16) by omega) (fun H1 locs hL hqr5264 => ?_)
        obtain ⟨κr5264, hxr5264, hT1, hF1, hqr5264⟩ := hqr5264
        have hxfr5264 := hxr5264.1
        have hTo := hT
        have hwo := hw
        have hsuo := hsu
        have hF9 := hF1
        have hF := hF.tr ((hF1.kf hKF).mono (by simp))
        have hT := hT1
        have hKF := hKF.tr hxfr5264
        have hKU : KU i κ κr5264 := hKU.tr hxr5264
        have hw := (KF.t2 hxfr5264 hw (by decide))
        have hpr := (KF.t2 hxfr5264 hpr (by decide))
        have hmk := (KF.t2 hxfr5264 hmk (by decide))
        have hli := (KF.t2 hxfr5264 hli (by decide))
        obtain ⟨c5265, l5266, w5267, k5268, n5269, m5270, g5271, q5272, e5273⟩ := hqr5264
        have hMW := m5270
        obtain ⟨k5274, n5275, hGP⟩ : ∃ k9 n9, GP H0 _ ln l5266 k9 n9 := ⟨_, _, GP.tr (show GP H0 _ ln ln9 _ _ from ⟨hgb, hGN⟩) g5271⟩
        refine W.tight (k := k5274) (n := n5275) (by rw [hH0]; exact hGP.1) ?_
        have hGN : GN ln l5266 k5274 n5275 := hGP.2
        have hgk5274 := hGN.1
        have hgn5275 := hGN.2
        have hsk5274 := hMW.2.2.1.sum
        rw [← q5272] at hsu htm
        have hEO := e5273
        refine lv_iconst (v := 0) hx hb dX7_tick_101 (by decide) ?_
        refine lv_istore_n (lv' := [(2, .int 0), (0, .ref w), (1, .int (nI (cn t1)))]) hx hb dX7_tick_102 rfl hl (by decide) rfl (fun ls hl => ?_)
        refine lp_m (α := Nat) (nL := 3) (fun a9 => 8 - a9) (fun a9 H9 l9 => (a9 ≤ 8) ∧ (MW D cs H9 i su t1 C c5265 l5266 w5267 dl) ∧ (WT B0 D cs T κr5264 H9) ∧ (Fr B0 [i, i + 20, i + 40] κ H0 H9) ∧ (OkL B0 l9)) (fun a9 => [(2, .int (nI a9)), (0, .ref w)]) ?_ 0 _ _ _ ⟨(by show (0) ≤ 8; omega), hMW, hT, hF, hL⟩ (lv_sub hl [0, 1] rfl)
        rintro p2 H locs ls ih5276 ⟨hp2, hMW, hT, hF, hL⟩ hl
        have hl : lv_has ls 3 [(2, .int (nI p2)), (0, .ref w)] := hl
        have hp2 : p2 ≤ 8 := hp2
        have hMW : MW D cs H i su t1 C c5265 l5266 w5267 dl := hMW
        refine lv_iload_n hx hb dX7_tick_103 rfl (lv_at hl 0 rfl) ?_
        refine lv_aload_n hx hb dX7_tick_104 rfl (lv_at hl 1 rfl) ?_
        obtain ⟨hb5277, e5277, hat5277, hk5277⟩ := hT.o8 hw.1
        obtain ⟨f5277_0, f5277_1, f5277_2, f5277_3, f5277_4, f5277_5, f5277_6, f5277_7, f5277_8, f5277_9, f5277_10, f5277_11, f5277_12, f5277_13, f5277_14, f5277_15, rfl, t5277_0, c5277_su, t5277_1, t5277_2, t5277_3, t5277_4, t5277_5, c5277_tm, c5277_lt, c5277_ml, c5277_pr, c5277_li⟩ := hk5277
        rw [hw.2] at t5277_1
        rw [hw.2] at t5277_2
        rw [hw.2] at t5277_3
        rw [hw.2] at t5277_4
        rw [hw.2] at t5277_5
        rw [hw.2] at c5277_lt c5277_ml c5277_pr c5277_li
        subst c5277_ml
        subst c5277_pr
        subst c5277_li
        have esu5277 := (c5277_su.trans hsu).symm
        subst esu5277
        have ctm5277 : f5277_7 &&& 15 = nI t1 := by rw [c5277_tm, htm]
        have hP : va_P D vwCl [(w, .inr (7, [.ref su, .ref f5277_1, .ref (cs (400 + i)), .ref (cs (420 + i)), .ref (cs (460 + i)), .ref f5277_5, .long f5277_6, .int f5277_7, .int f5277_8, .int f5277_9, .int f5277_10, .int f5277_11, .int f5277_12, .int f5277_13, .int f5277_14, .int f5277_15]))] _ := va_P.cons hat5277 va_P.nil
        refine va_get (D := D) (ci := 7) (v := .ref su) (C := RX7) (T := TX7) (N := 16) hx hb hts iX7_tick_7 hown hN.1 hP 0 rfl rfl 0 (by decide) (hts _ mX7_tick_5) (fun _ h9 => h9) rfl dX7_tick_105 ?_
        obtain ⟨hb5278, e5278, hat5278, hk5278⟩ := hT.o7 t5277_0.1
        obtain ⟨f5278_0, f5278_1, f5278_2, f5278_3, f5278_4, f5278_5, f5278_6, f5278_7, rfl, c5278_0, c5278_3, c5278_mg, t5278_4, t5278_5, t5278_6, t5278_7⟩ := hk5278
        rw [t5277_0.2] at t5278_4
        rw [t5277_0.2] at t5278_5
        rw [t5277_0.2] at t5278_6
        rw [t5277_0.2] at t5278_7
        have hP : va_P D vwCl [(su, .inr (6, [.int (nI f5278_0), .int f5278_1, .int f5278_2, f5278_3, .ref f5278_4, .ref f5278_5, .ref f5278_6, .ref f5278_7])), (w, .inr (7, [.ref su, .ref f5277_1, .ref (cs (400 + i)), .ref (cs (420 + i)), .ref (cs (460 + i)), .ref f5277_5, .long f5277_6, .int f5277_7, .int f5277_8, .int f5277_9, .int f5277_10, .int f5277_11, .int f5277_12, .int f5277_13, .int f5277_14, .int f5277_15]))] _ := va_P.cons hat5278 hP
        refine va_getN (D := D) (ci := 6) (v := .int (nI f5278_0)) (C := RX6) (T := TX6) (N := 8) hx hb hts iX7_tick_6 hown hN.1 hP 0 rfl rfl 0 (by decide) (hN.f 39 rfl) (fun _ h9 => h9) rfl dX7_tick_108 ?_
        refine lv_icmp_ge (tgt := 125) hx hb dX7_tick_111 (by decide) (fun c5279 => ?_) (fun c5279 => ?_)
        · have c5279 : f5278_0 ≤ p2 := (nI_leI (a := f5278_0) (b := p2) (by omega) (by omega)).mp c5279
          refine W.know (fun hg => ?_)
          rw [hH0] at hg
          exact en_v hx hb hr hlocks hL (show k5274 ≤ ((56 * sumN C 16 + 22407 - 2 * sumN ln 16) / 35) by omega) (show n5275 ≤ (56 * sumN C 16 + 22407 - 2 * sumN ln 16) by omega) dX7_tick_125 (⟨_, hKU, hT, hF, _, _, _, _, _, _, hMW, ⟨hg, hGN⟩, hsu, htm, hEO.st⟩)
        · have c5279 : ¬ f5278_0 ≤ p2 := fun h9 => c5279 ((nI_leI (a := f5278_0) (b := p2) (by omega) (by omega)).mpr h9)
          refine lv_aload_n hx hb dX7_tick_114 rfl (lv_at hl 1 rfl) ?_
          refine lv_iload_n hx hb dX7_tick_115 rfl (lv_at hl 0 rfl) ?_
          refine cv_v (As := [.int (nI p2)]) (rest := []) (b := w) ⟨hx, hb, hml, hown, hts⟩ (c_X7_changeIfDue hT (w := w) hw (x := (nI p2))) (cwV 1 hts gX7_tick_X7_changeIfDue rfl rfl rfl hdX7_changeIfDue_v ⟨Nat.le_of_ble_eq_true rfl, Nat.le_of_ble_eq_true rfl⟩) hN hE hL (rcv8 hN hT hw.1) rfl rfl hl.1 (Nat.le_of_ble_eq_true rfl) dX7_tick_116 (show k5274 + 0 ≤ ((56 * sumN C 16 + 22407 - 2 * sumN ln 16) / 35) by omega) (show n5275 + 0 ≤ (56 * sumN C 16 + 22407 - 2 * sumN ln 16) by omega) (fun H1 locs hL hqr5280 => ?_)
          obtain ⟨hT1, hF1⟩ := hqr5280
          have hP : va_P D vwCl [(su, .inr (6, [.int (nI f5278_0), .int f5278_1, .int f5278_2, f5278_3, .ref f5278_4, .ref f5278_5, .ref f5278_6, .ref f5278_7]))] _ := hF1.hP (hP.sub [0] rfl) (fa_c ⟨by rw [t5277_0.1]; decide, by rw [t5277_0.2]; first | decide | (simp; done) | (simp [h15a, h15b, h15c]; done) | (simp; omega)⟩ fa_n)
          have hMW := hMW.fr hT hw hsu hF1 (by first | (simp; done) | (simp [h15a, h15b, h15c]; done) | (simp; omega) | omega) (by first | (simp; done) | (simp [h15a, h15b, h15c]; done) | (simp; omega) | omega)
          have hF := hF.tr ((hF1.kf hKF).mono (by simp))
          have hT := hT1
          refine lv_iinc (v := (nI (p2 + 1))) (lv' := [(2, .int (nI (p2 + 1))), (0, .ref w)]) hx hb dX7_tick_119 hl (k := 0) rfl (nI_add _ 1) (by decide) rfl (fun ls hl => ?_)
          refine lv_goto (tgt := 103) hx hb dX7_tick_122 (by decide) ?_
          exact ih5276 (p2 + 1) _ _ _ (by show 8 - ((p2 + 1)) < 8 - p2; omega) ⟨(by show ((p2 + 1)) ≤ 8; omega), hMW, hT, hF, hL⟩ (lv_sub hl [0, 1] rfl)
  · have c5247 : ¬ (cn t1) ≤ p := fun h9 => c5247 ((nI_leI (a := (cn t1)) (b := p) (by omega) (by omega)).mpr h9)
    refine lv_aload_n hx hb dX7_tick_29 rfl (lv_at hl 1 rfl) ?_
    obtain ⟨hb5281, e5281, hat5281, hk5281⟩ := hT.o8 hw.1
    obtain ⟨f5281_0, f5281_1, f5281_2, f5281_3, f5281_4, f5281_5, f5281_6, f5281_7, f5281_8, f5281_9, f5281_10, f5281_11, f5281_12, f5281_13, f5281_14, f5281_15, rfl, t5281_0, c5281_su, t5281_1, t5281_2, t5281_3, t5281_4, t5281_5, c5281_tm, c5281_lt, c5281_ml, c5281_pr, c5281_li⟩ := hk5281
    rw [hw.2] at t5281_1
    rw [hw.2] at t5281_2
    rw [hw.2] at t5281_3
    rw [hw.2] at t5281_4
    rw [hw.2] at t5281_5
    rw [hw.2] at c5281_lt c5281_ml c5281_pr c5281_li
    subst c5281_ml
    subst c5281_pr
    subst c5281_li
    have esu5281 := (c5281_su.trans hsu).symm
    subst esu5281
    have ctm5281 : f5281_7 &&& 15 = nI t1 := by rw [c5281_tm, htm]
    have hP : va_P D vwCl [(w, .inr (7, [.ref su, .ref f5281_1, .ref (cs (400 + i)), .ref (cs (420 + i)), .ref (cs (460 + i)), .ref f5281_5, .long f5281_6, .int f5281_7, .int f5281_8, .int f5281_9, .int f5281_10, .int f5281_11, .int f5281_12, .int f5281_13, .int f5281_14, .int f5281_15]))] _ := va_P.cons hat5281 va_P.nil
    refine va_get (D := D) (ci := 7) (v := .ref (cs (400 + i))) (C := RX7) (T := TX7) (N := 16) hx hb hts iX7_tick_7 hown hN.1 hP 0 rfl rfl 2 (by decide) (hts _ mX7_tick_2) (fun _ h9 => h9) rfl dX7_tick_30 ?_
    refine lv_aload_n hx hb dX7_tick_33 rfl (lv_at hl 1 rfl) ?_
    refine va_get (D := D) (ci := 7) (v := .int f5281_7) (C := RX7) (T := TX7) (N := 16) hx hb hts iX7_tick_7 hown hN.1 hP 0 rfl rfl 7 (by decide) (hts _ mX7_tick_1) (fun _ h9 => h9) rfl dX7_tick_34 ?_
    refine lv_iload_n hx hb dX7_tick_37 rfl (lv_at hl 0 rfl) ?_
    refine lv_aload_n hx hb dX7_tick_38 rfl (lv_at hl 1 rfl) ?_
    refine va_get (D := D) (ci := 7) (v := .ref (cs (460 + i))) (C := RX7) (T := TX7) (N := 16) hx hb hts iX7_tick_7 hown hN.1 hP 0 rfl rfl 4 (by decide) (hts _ mX7_tick_3) (fun _ h9 => h9) rfl dX7_tick_39 ?_
    have hcn := EE_cb (Nat.le_trans hEO.le9 hb24)
    have hmm : m15 f5281_7 = t1 := m15_of ctm5281 ht9
    refine cv_i (As := [.int f5281_7, .int (nI p), .ref (cs (460 + i))]) (rest := []) (b := (cs (400 + i))) ⟨hx, hb, hml, hown, hts⟩ (c_X2_read_dc hT (w := (cs (400 + i))) t5281_2 (x := f5281_7) (n := p) (v := (cs (460 + i))) t5281_4 hMW.1 hMW.2.2.1 hcn (by rw [hmm]; have := hmo t1 ht9; omega)) (cwV 3 hts gX7_tick_X2_read rfl rfl rfl hdX2_read_v ⟨Nat.le_of_ble_eq_true rfl, Nat.le_of_ble_eq_true rfl⟩) hN hE hL (rcv3 hN hT t5281_2.1) rfl rfl hl.1 (Nat.le_of_ble_eq_true rfl) dX7_tick_42 (show k9 + 0 ≤ ((56 * sumN C 16 + 22407 - 2 * sumN ln 16) / 35) by omega) (show n9 + 0 ≤ (56 * sumN C 16 + 22407 - 2 * sumN ln 16) by omega) (fun r5282 H1 locs hL hqr5282 => ?_)
    obtain ⟨hT1, hF1, hqr5282⟩ := hqr5282
    have hP : va_P D vwCl [(w, .inr (7, [.ref su, .ref f5281_1, .ref (cs (400 + i)), .ref (cs (420 + i)), .ref (cs (460 + i)), .ref f5281_5, .long f5281_6, .int f5281_7, .int f5281_8, .int f5281_9, .int f5281_10, .int f5281_11, .int f5281_12, .int f5281_13, .int f5281_14, .int f5281_15]))] _ := hF1.hP (hP.sub [0] rfl) (fa_c ⟨by rw [hw.1]; decide, by rw [hw.2]; first | decide | (simp; done) | (simp [h15a, h15b, h15c]; done) | (simp; omega)⟩ fa_n)
    have hMW := hMW.fr hT hw hsu hF1 (by first | (simp; done) | (simp [h15a, h15b, h15c]; done) | (simp; omega) | omega) (by first | (simp; done) | (simp [h15a, h15b, h15c]; done) | (simp; omega) | omega)
    have hF := hF.tr ((hF1.kf hKF).mono (by simp))
    have hT := hT1
    obtain ⟨rfl, v5283⟩ := hqr5282
    rw [hmm] at v5283
    have hbli : B0 ≤ cs (460 + i) := (hT.o2 hli.1).1
    have hP : va_P D vwCl [((cs (460 + i)), .inr (1, [.int (rw99 t1 (7 * p)), .int (rw99 t1 (7 * p + 1)), .int (rw99 t1 (7 * p + 2)), .int (rw99 t1 (7 * p + 3)), .int (rw99 t1 (7 * p + 4)), .int (rw99 t1 (7 * p + 5)), .int (rw99 t1 (7 * p + 6))])), (w, .inr (7, [.ref su, .ref f5281_1, .ref (cs (400 + i)), .ref (cs (420 + i)), .ref (cs (460 + i)), .ref f5281_5, .long f5281_6, .int f5281_7, .int f5281_8, .int f5281_9, .int f5281_10, .int f5281_11, .int f5281_12, .int f5281_13, .int f5281_14, .int f5281_15]))] _ := va_P.cons v5283 hP
    refine lv_if_eq (tgt := 56) hx hb dX7_tick_45 (by decide) (fun c9 => absurd c9 (by decide)) (fun _ => ?_)
    refine lv_aload_n hx hb dX7_tick_48 rfl (lv_at hl 1 rfl) ?_
    refine W.know (fun hgb => ?_)
    rw [hH0] at hgb
    refine cv_v (As := []) (rest := []) (b := w) ⟨hx, hb, hml, hown, hts⟩ (c_X7_receive hT (w := w) hw hsu htm hMW (pl := p) (by have := hmo t1 ht9; omega) hEO hb24 (hP 0 _ rfl) rfl rfl rfl) (cwV 0 hts gX7_tick_X7_receive rfl rfl rfl hdX7_receive_v ⟨Nat.le_of_ble_eq_true rfl, Nat.le_of_ble_eq_true rfl⟩) hN hE hL (rcv8 hN hT hw.1) rfl rfl hl.1 (Nat.le_of_ble_eq_true rfl) dX7_tick_49 (show k9 + ((56 * sumN C 16 + 22407 - 2 * sumN ln9 16) / 35) ≤ ((56 * sumN C 16 + 22407 - 2 * sumN ln 16) / 35) by omega) (show n9 + (56 * sumN C 16 + 22407 - 2 * sumN ln9 16) ≤ (56 * sumN C 16 + 22407 - 2 * sumN ln 16) by omega) (fun H1 locs hL hqr5284 => ?_)
    obtain ⟨κr5284, hxr5284, hT1, hF1, hqr5284⟩ := hqr5284
    have hTo := hT
    have hwo := hw
    have hsuo := hsu
    have hF9 := hF1
    have hF := hF.tr ((hF1.kf hKF).mono (by simp))
    have hT := hT1
    have hKF := hKF.tr hxr5284.f
    have hKU : KU i κ κr5284 := hKU.tr (KX.u (i := i) hxr5284)
    have hkw9 : κr5284 w = κ9 w := hxr5284 w (by rw [hw.1]; decide)
    rw [← hkw9] at hsu htm
    have hko9 : κr5284 (cs (420 + i)) = κ9 (cs (420 + i)) := hxr5284 _ (by rw [hpr.1]; decide)
    have hw := (hxr5284.f.t2 hw (by decide))
    have hpr := (hxr5284.f.t2 hpr (by decide))
    have hmk := (hxr5284.f.t2 hmk (by decide))
    have hli := (hxr5284.f.t2 hli (by decide))
    obtain ⟨c5285, l5286, w5287, k5288, n5289, m5290, g5291, e5292, o5293⟩ := hqr5284
    have hMW := m5290
    obtain ⟨k5294, n5295, hGP⟩ : ∃ k9 n9, GP H0 _ ln l5286 k9 n9 := ⟨_, _, GP.tr (show GP H0 _ ln ln9 _ _ from ⟨hgb, hGN⟩) g5291⟩
    refine W.tight (k := k5294) (n := n5295) (by rw [hH0]; exact hGP.1) ?_
    have hGN : GN ln l5286 k5294 n5295 := hGP.2
    have hgk5294 := hGN.1
    have hgn5295 := hGN.2
    have hsk5294 := hMW.2.2.1.sum
    have hEO := e5292
    rw [← hko9] at hEO
    have hmo : ∀ q, q < 16 → cn q ≤ c5285 q := fun q hq => Nat.le_trans (hmo q hq) (o5293 q hq)
    refine lv_aload_n hx hb dX7_tick_52 rfl (lv_at hl 1 rfl) ?_
    refine W.know (fun hgb => ?_)
    rw [hH0] at hgb
    refine cv_v (As := []) (rest := []) (b := w) ⟨hx, hb, hml, hown, hts⟩ (c_X7_commitIfVoted hT (w := w) hw hsu htm hMW hEO hb24) (cwV 0 hts gX7_tick_X7_commitIfVoted rfl rfl rfl hdX7_commitIfVoted_v ⟨Nat.le_of_ble_eq_true rfl, Nat.le_of_ble_eq_true rfl⟩) hN hE hL (rcv8 hN hT hw.1) rfl rfl hl.1 (Nat.le_of_ble_eq_true rfl) dX7_tick_53 (show k5294 + ((56 * sumN C 16 + 22407 - 2 * sumN l5286 16) / 35) ≤ ((56 * sumN C 16 + 22407 - 2 * sumN ln 16) / 35) by omega) (show n5295 + (56 * sumN C 16 + 22407 - 2 * sumN l5286 16) ≤ (56 * sumN C 16 + 22407 - 2 * sumN ln 16) by omega) (fun H1 locs hL hqr5296 => ?_)
    obtain ⟨κr5296, hxr5296, hT1, hF1, hqr5296⟩ := hqr5296
    have hxfr5296 := hxr5296.1
    have hTo := hT
    have hwo := hw
    have hsuo := hsu
    have hF9 := hF1
    have hF := hF.tr ((hF1.kf hKF).mono (by simp))
    have hT := hT1
    have hKF := hKF.tr hxfr5296
    have hKU : KU i κ κr5296 := hKU.tr hxr5296
    have hw := (KF.t2 hxfr5296 hw (by decide))
    have hpr := (KF.t2 hxfr5296 hpr (by decide))
    have hmk := (KF.t2 hxfr5296 hmk (by decide))
    have hli := (KF.t2 hxfr5296 hli (by decide))
    obtain ⟨c5297, l5298, w5299, k5300, n5301, m5302, g5303, q5304, e5305, o5306⟩ := hqr5296
    have hMW := m5302
    obtain ⟨k5307, n5308, hGP⟩ : ∃ k9 n9, GP H0 _ ln l5298 k9 n9 := ⟨_, _, GP.tr (show GP H0 _ ln l5286 _ _ from ⟨hgb, hGN⟩) g5303⟩
    refine W.tight (k := k5307) (n := n5308) (by rw [hH0]; exact hGP.1) ?_
    have hGN : GN ln l5298 k5307 n5308 := hGP.2
    have hgk5307 := hGN.1
    have hgn5308 := hGN.2
    have hsk5307 := hMW.2.2.1.sum
    rw [← q5304] at hsu htm
    have hEO := e5305
    have hmo : ∀ q, q < 16 → cn q ≤ c5297 q := fun q hq => Nat.le_trans (hmo q hq) (o5306 q hq)
    refine lv_iinc (v := (nI (p + 1))) (lv' := [(2, .int (nI (p + 1))), (0, .ref w), (1, .int (nI (cn t1)))]) hx hb dX7_tick_56 hl (k := 0) rfl (nI_add _ 1) (by decide) rfl (fun ls hl => ?_)
    refine lv_goto (tgt := 24) hx hb dX7_tick_59 (by decide) ?_
    refine W.know (fun hgb => ?_)
    rw [hH0] at hgb
    refine W.widen (k := ((56 * sumN C 16 + 22407 - 2 * sumN ln 16) / 35)) (n := (56 * sumN C 16 + 22407 - 2 * sumN ln 16)) (show k5307 ≤ ((56 * sumN C 16 + 22407 - 2 * sumN ln 16) / 35) by omega) (show n5308 ≤ (56 * sumN C 16 + 22407 - 2 * sumN ln 16) by omega) ?_
    have hEO : EL C dl c5297 w5299 t1 (p + 1) (κr5296 (cs (420 + i))).2.2.1 b := hEO
    exact ih5246 ((p + 1), κr5296, c5297, l5298, w5299, k5307, n5308) _ _ _ (by show cn t1 - ((p + 1)) < cn t1 - p; omega) ⟨(by show ((p + 1)) ≤ cn t1; omega), hKU, hw, hsu, htm, hMW, hEO, hgb, hGN, hmo, hT, hF, hL⟩ (lv_sub hl [0, 1, 2] rfl)
theorem mX7_runOn_1 : (.fieldLink RX7 89 "OneBeat$World" "late" "I" : Cond) ∈ wsX7_runOn := List.mem_of_getElem? (i := 1) (by decide +kernel)
theorem iX7_runOn_7 : ∀ w ∈ wsX70, w ∈ wsX7_runOn := fun w h => List.mem_of_mem_drop (List.mem_of_mem_take ((show wsX70 = (wsX7_runOn.drop 149).take 16 by decide +kernel) ▸ h))
theorem hdX7_isBusy_v : yX7_isBusy.cls = RX7 ∧ yX7_isBusy.cls ≠ "java/lang/invoke/MethodHandle" ∧ yX7_isBusy.cls ≠ "java/lang/invoke/VarHandle" ∧ (parseMethodDescriptor yX7_isBusy.desc).map (fun d => d.parameters.length) = some 0 := by decide +kernel
theorem hdX7_tick_v : yX7_tick.cls = RX7 ∧ yX7_tick.cls ≠ "java/lang/invoke/MethodHandle" ∧ yX7_tick.cls ≠ "java/lang/invoke/VarHandle" ∧ (parseMethodDescriptor yX7_tick.desc).map (fun d => d.parameters.length) = some 0 := by decide +kernel
theorem mX7_runOn_2 : (.fieldLink RX7 27 "OneBeat$World" "latest" "LOneBeat$Proposal;" : Cond) ∈ wsX7_runOn := List.mem_of_getElem? (i := 2) (by decide +kernel)
theorem iX7_runOn_4 : ∀ w ∈ wsX40, w ∈ wsX7_runOn := fun w h => List.mem_of_mem_drop (List.mem_of_mem_take ((show wsX40 = (wsX7_runOn.drop 165).take 8 by decide +kernel) ▸ h))
set_option maxHeartbeats 4000000 in
set_option maxRecDepth 100000 in
theorem c_X7_runOn {l : Launch} {D : va_G} {cs : Nat → ClassId} {B0 T : Nat} {κ : KM} {H0 : Heap} (hT : WT B0 D cs T κ H0) {w i : Nat} (hw : T2 κ w 8 i) {x : Int32} (qx : x = 0 ∨ x = 1) {C cn ln : Nat → Nat} {rw9 : Nat → Nat → Int32} {dl : Nat → Int32} {su tm : Nat} (hsu : (κ w).2.2.1 = su) (htm : (κ w).2.2.2 = tm) (hMW : MW D cs H0 i su tm C cn ln rw9 dl) {b : Nat} (hbo : EL C dl cn rw9 0 0 (κ (cs (420 + i))).2.2.1 b) (hb24 : b ≤ 24) : KC l yX7_runOn wsX7_runOn 6 178 ((56 * sumN C 16 + 22407 - 2 * sumN ln 16) / 35) (56 * sumN C 16 + 22407 - 2 * sumN ln 16) D cs B0 H0 [.ref w, .int x] (Qi (fun _ H => ∃ κ1, KU i κ κ1 ∧ WT B0 D cs T κ1 H ∧ Fr B0 [i, i + 20, i + 40] κ H0 H ∧ ∃ cn1 ln1 rw1 t1 k n, MW D cs H i su t1 C cn1 ln1 rw1 dl ∧ GP H0 H ln ln1 k n ∧ (κ1 w).2.2.1 = su ∧ (κ1 w).2.2.2 = t1 ∧ EL C dl cn1 rw1 0 0 (κ1 (cs (420 + i))).2.2.1 b)) := by
  refine KC.of cX7_runOn 4 (some .int) (by decide) rfl (Nat.le_of_ble_eq_true rfl) ?_
  intro p e s m below meth c ls hx hb hr hml hown hts hlocks hin hN hE hH0 hl
  have hown : s.vm.findClass RX7 = some m.cls := hown
  have hl : lv_has ls 4 [(0, .ref w), (1, .int x)] := hl
  have hL : OkL B0 [] := OkL.nil
  have hF : Fr B0 [i, i + 20, i + 40] κ H0 H0 := Fr.rf
  obtain ⟨hmk, hpr, hli, -, hi10⟩ := hT.ml hw
  have ht16 := hMW.2.2.2
  have h15a : ¬ 15 = i := by omega
  have h15b : ¬ 15 = i + 20 := by omega
  have h15c : ¬ 15 = i + 40 := by omega
  have hGN : GN ln ln 0 0 := GN.rf
  have hs0 := hMW.2.2.1.sum
  refine lv_aload_n hx hb dX7_runOn_0 rfl (lv_at hl 0 rfl) ?_
  obtain ⟨hb5309, e5309, hat5309, hk5309⟩ := hT.o8 hw.1
  obtain ⟨f5309_0, f5309_1, f5309_2, f5309_3, f5309_4, f5309_5, f5309_6, f5309_7, f5309_8, f5309_9, f5309_10, f5309_11, f5309_12, f5309_13, f5309_14, f5309_15, rfl, t5309_0, c5309_su, t5309_1, t5309_2, t5309_3, t5309_4, t5309_5, c5309_tm, c5309_lt, c5309_ml, c5309_pr, c5309_li⟩ := hk5309
  rw [hw.2] at t5309_1
  rw [hw.2] at t5309_2
  rw [hw.2] at t5309_3
  rw [hw.2] at t5309_4
  rw [hw.2] at t5309_5
  rw [hw.2] at c5309_lt c5309_ml c5309_pr c5309_li
  subst c5309_ml
  subst c5309_pr
  subst c5309_li
  have esu5309 := (c5309_su.trans hsu).symm
  subst esu5309
  have ctm5309 : f5309_7 &&& 15 = nI tm := by rw [c5309_tm, htm]
  have hP : va_P D vwCl [(w, .inr (7, [.ref su, .ref f5309_1, .ref (cs (400 + i)), .ref (cs (420 + i)), .ref (cs (460 + i)), .ref f5309_5, .long f5309_6, .int f5309_7, .int f5309_8, .int f5309_9, .int f5309_10, .int f5309_11, .int f5309_12, .int f5309_13, .int f5309_14, .int f5309_15]))] _ := va_P.cons hat5309 va_P.nil
  refine va_get (D := D) (ci := 7) (v := .int f5309_15) (C := RX7) (T := TX7) (N := 16) hx hb hts iX7_runOn_7 hown hN.1 hP 0 rfl rfl 15 (by decide) (hts _ mX7_runOn_1) (fun _ h9 => h9) rfl dX7_runOn_1 ?_
  refine lv_istore_n (lv' := [(2, .int f5309_15), (0, .ref w), (1, .int x)]) hx hb dX7_runOn_4 rfl hl (by decide) rfl (fun ls hl => ?_)
  refine lv_iconst (v := 0) hx hb dX7_runOn_5 (by decide) ?_
  refine lv_istore_n (lv' := [(3, .int 0), (2, .int f5309_15), (0, .ref w), (1, .int x)]) hx hb dX7_runOn_6 rfl hl (by decide) rfl (fun ls hl => ?_)
  refine W.know (fun hgb => ?_)
  rw [hH0] at hgb
  refine W.widen (k := ((56 * sumN C 16 + 22407 - 2 * sumN ln 16) / 35)) (n := (56 * sumN C 16 + 22407 - 2 * sumN ln 16)) (Nat.zero_le _) (Nat.zero_le _) ?_
  refine lp_m (α := Nat × KM × (Nat → Nat) × (Nat → Nat) × (Nat → Nat → Int32) × Nat × Nat × Nat × Int32) (nL := 4) (fun a9 => 400 - a9.1) (fun a9 H9 l9 => (a9.1 ≤ 400) ∧ (KU i κ a9.2.1) ∧ (T2 a9.2.1 w 8 i) ∧ ((a9.2.1 w).2.2.1 = su) ∧ ((a9.2.1 w).2.2.2 = a9.2.2.2.2.2.1) ∧ (MW D cs H9 i su a9.2.2.2.2.2.1 C a9.2.2.1 a9.2.2.2.1 a9.2.2.2.2.1 dl) ∧ (EL C dl a9.2.2.1 a9.2.2.2.2.1 0 0 (a9.2.1 (cs (420 + i))).2.2.1 b) ∧ (Gr H0 H9 a9.2.2.2.2.2.2.1 a9.2.2.2.2.2.2.2.1) ∧ (GN ln a9.2.2.2.1 a9.2.2.2.2.2.2.1 a9.2.2.2.2.2.2.2.1) ∧ (WT B0 D cs T a9.2.1 H9) ∧ (Fr B0 [i, i + 20, i + 40] κ H0 H9) ∧ (OkL B0 l9)) (fun a9 => [(3, .int (nI a9.1)), (0, .ref w), (1, .int x), (2, .int a9.2.2.2.2.2.2.2.2)]) ?_ (0, κ, cn, ln, rw9, tm, 0, 0, f5309_15) _ _ _ ⟨(by show (0) ≤ 400; omega), KU.rf, hw, hsu, htm, hMW, hbo, hgb, hGN, hT, hF, hL⟩ (lv_sub hl [0, 2, 3, 1] rfl)
  rintro ⟨k, κ9, cn9, ln9, rw99, t9, k9, n9, y⟩ H locs ls ih5310 ⟨hk, hKU, hw, hsu, htm, hMW, hEO, hGR, hGN, hT, hF, hL⟩ hl
  have hl : lv_has ls 4 [(3, .int (nI k)), (0, .ref w), (1, .int x), (2, .int y)] := hl
  have hk : k ≤ 400 := hk
  have hKU : KU i κ κ9 := hKU
  have hw : T2 κ9 w 8 i := hw
  have hsu : (κ9 w).2.2.1 = su := hsu
  have htm : (κ9 w).2.2.2 = t9 := htm
  have hMW : MW D cs H i su t9 C cn9 ln9 rw99 dl := hMW
  have hEO : EL C dl cn9 rw99 0 0 (κ9 (cs (420 + i))).2.2.1 b := hEO
  have hGR : Gr H0 H k9 n9 := hGR
  have hGN : GN ln ln9 k9 n9 := hGN
  have hT : WT B0 D cs T κ9 _ := hT
  have hKF := hKU.1
  refine W.tight (k := k9) (n := n9) (by rw [hH0]; exact hGR) ?_
  obtain ⟨hmk, hpr, hli, -, -⟩ := hT.ml hw
  have hg1 := hGN.1
  have hg2 := hGN.2
  have hs9 := hMW.2.2.1.sum
  refine lv_iload_n hx hb dX7_runOn_7 rfl (lv_at hl 0 rfl) ?_
  refine lv_sipush (v := 400) hx hb dX7_runOn_8 (by decide) ?_
  refine lv_icmp_ge (tgt := 56) hx hb dX7_runOn_11 (by decide) (fun c5311 => ?_) (fun c5311 => ?_)
  · have c5311 : 400 ≤ k := (nI_leI (a := 400) (b := k) (by omega) (by omega)).mp c5311
    refine lv_iload_n hx hb dX7_runOn_56 rfl (lv_at hl 0 rfl) ?_
    refine W.know (fun hg => ?_)
    rw [hH0] at hg
    exact en_i hx hb hr hlocks hL rfl (show k9 ≤ ((56 * sumN C 16 + 22407 - 2 * sumN ln 16) / 35) by omega) (show n9 ≤ (56 * sumN C 16 + 22407 - 2 * sumN ln 16) by omega) dX7_runOn_57 (⟨_, hKU, hT, hF, _, _, _, _, _, _, hMW, ⟨hg, hGN⟩, hsu, htm, hEO⟩)
  · have c5311 : ¬ 400 ≤ k := fun h9 => c5311 ((nI_leI (a := 400) (b := k) (by omega) (by omega)).mpr h9)
    refine lv_aload_n hx hb dX7_runOn_14 rfl (lv_at hl 1 rfl) ?_
    refine cv_i (As := []) (rest := []) (b := w) ⟨hx, hb, hml, hown, hts⟩ (c_X7_isBusy hT (w := w) hw) (cwV 0 hts gX7_runOn_X7_isBusy rfl rfl rfl hdX7_isBusy_v ⟨Nat.le_of_ble_eq_true rfl, Nat.le_of_ble_eq_true rfl⟩) hN hE hL (rcv8 hN hT hw.1) rfl rfl hl.1 (Nat.le_of_ble_eq_true rfl) dX7_runOn_15 (show k9 + 0 ≤ ((56 * sumN C 16 + 22407 - 2 * sumN ln 16) / 35) by omega) (show n9 + 0 ≤ (56 * sumN C 16 + 22407 - 2 * sumN ln 16) by omega) (fun r5312 H1 locs hL hqr5312 => ?_)
    obtain ⟨h9, hqr5312⟩ := hqr5312; replace h9 := h9.symm; subst h9
    rcases hqr5312 with rfl | rfl
    · refine lv_if_eq (tgt := 56) hx hb dX7_runOn_18 (by decide) (fun _ => ?_) (fun c9 => absurd (by decide) c9)
      refine lv_iload_n hx hb dX7_runOn_56 rfl (lv_at hl 0 rfl) ?_
      refine W.know (fun hg => ?_)
      rw [hH0] at hg
      exact en_i hx hb hr hlocks hL rfl (show k9 ≤ ((56 * sumN C 16 + 22407 - 2 * sumN ln 16) / 35) by omega) (show n9 ≤ (56 * sumN C 16 + 22407 - 2 * sumN ln 16) by omega) dX7_runOn_57 (⟨_, hKU, hT, hF, _, _, _, _, _, _, hMW, ⟨hg, hGN⟩, hsu, htm, hEO⟩)
    · refine lv_if_eq (tgt := 56) hx hb dX7_runOn_18 (by decide) (fun c9 => absurd c9 (by decide)) (fun _ => ?_)
      refine lv_iload_n hx hb dX7_runOn_21 rfl (lv_at hl 2 rfl) ?_
      refine lv_if_eq (tgt := 46) hx hb dX7_runOn_22 (by decide) (fun c5313 => ?_) (fun c5313 => ?_)
      · refine lv_aload_n hx hb dX7_runOn_46 rfl (lv_at hl 1 rfl) ?_
        refine W.know (fun hgb => ?_)
        rw [hH0] at hgb
        refine cv_v (As := []) (rest := []) (b := w) ⟨hx, hb, hml, hown, hts⟩ (c_X7_tick hT (w := w) hw hsu htm hMW hEO hb24) (cwV 0 hts gX7_runOn_X7_tick rfl rfl rfl hdX7_tick_v ⟨Nat.le_of_ble_eq_true rfl, Nat.le_of_ble_eq_true rfl⟩) hN hE hL (rcv8 hN hT hw.1) rfl rfl hl.1 (Nat.le_of_ble_eq_true rfl) dX7_runOn_47 (show k9 + ((56 * sumN C 16 + 22407 - 2 * sumN ln9 16) / 35) ≤ ((56 * sumN C 16 + 22407 - 2 * sumN ln 16) / 35) by omega) (show n9 + (56 * sumN C 16 + 22407 - 2 * sumN ln9 16) ≤ (56 * sumN C 16 + 22407 - 2 * sumN ln 16) by omega) (fun H1 locs hL hqr5314 => ?_)
        obtain ⟨κr5314, hxr5314, hT1, hF1, hqr5314⟩ := hqr5314
        have hxfr5314 := hxr5314.1
        have hTo := hT
        have hwo := hw
        have hsuo := hsu
        have hF9 := hF1
        have hF := hF.tr ((hF1.kf hKF).mono (by simp))
        have hT := hT1
        have hKF := hKF.tr hxfr5314
        have hKU : KU i κ κr5314 := hKU.tr hxr5314
        have hw := (KF.t2 hxfr5314 hw (by decide))
        have hpr := (KF.t2 hxfr5314 hpr (by decide))
        have hmk := (KF.t2 hxfr5314 hmk (by decide))
        have hli := (KF.t2 hxfr5314 hli (by decide))
        obtain ⟨c5315, l5316, w5317, t5318, k5319, n5320, m5321, g5322, s5323, q5324, e5325⟩ := hqr5314
        have hMW := m5321
        obtain ⟨k5326, n5327, hGP⟩ : ∃ k9 n9, GP H0 _ ln l5316 k9 n9 := ⟨_, _, GP.tr (show GP H0 _ ln ln9 _ _ from ⟨hgb, hGN⟩) g5322⟩
        refine W.tight (k := k5326) (n := n5327) (by rw [hH0]; exact hGP.1) ?_
        have hGN : GN ln l5316 k5326 n5327 := hGP.2
        have hgk5326 := hGN.1
        have hgn5327 := hGN.2
        have hsk5326 := hMW.2.2.1.sum
        have hsu := s5323
        have htm := q5324
        have hEO := e5325
        refine lv_iinc (v := (nI (k + 1))) (lv' := [(3, .int (nI (k + 1))), (0, .ref w), (1, .int x), (2, .int y)]) hx hb dX7_runOn_50 hl (k := 0) rfl (nI_add _ 1) (by decide) rfl (fun ls hl => ?_)
        refine lv_goto (tgt := 7) hx hb dX7_runOn_53 (by decide) ?_
        refine W.know (fun hgb => ?_)
        rw [hH0] at hgb
        refine W.widen (k := ((56 * sumN C 16 + 22407 - 2 * sumN ln 16) / 35)) (n := (56 * sumN C 16 + 22407 - 2 * sumN ln 16)) (show k5326 ≤ ((56 * sumN C 16 + 22407 - 2 * sumN ln 16) / 35) by omega) (show n5327 ≤ (56 * sumN C 16 + 22407 - 2 * sumN ln 16) by omega) ?_
        exact ih5310 ((k + 1), κr5314, c5315, l5316, w5317, t5318, k5326, n5327, y) _ _ _ (by show 400 - ((k + 1)) < 400 - k; omega) ⟨(by show ((k + 1)) ≤ 400; omega), hKU, hw, hsu, htm, hMW, hEO, hgb, hGN, hT, hF, hL⟩ (lv_sub hl [0, 1, 2, 3] rfl)
      · refine lv_aload_n hx hb dX7_runOn_25 rfl (lv_at hl 1 rfl) ?_
        obtain ⟨hb5328, e5328, hat5328, hk5328⟩ := hT.o8 hw.1
        obtain ⟨f5328_0, f5328_1, f5328_2, f5328_3, f5328_4, f5328_5, f5328_6, f5328_7, f5328_8, f5328_9, f5328_10, f5328_11, f5328_12, f5328_13, f5328_14, f5328_15, rfl, t5328_0, c5328_su, t5328_1, t5328_2, t5328_3, t5328_4, t5328_5, c5328_tm, c5328_lt, c5328_ml, c5328_pr, c5328_li⟩ := hk5328
        rw [hw.2] at t5328_1
        rw [hw.2] at t5328_2
        rw [hw.2] at t5328_3
        rw [hw.2] at t5328_4
        rw [hw.2] at t5328_5
        rw [hw.2] at c5328_lt c5328_ml c5328_pr c5328_li
        subst c5328_ml
        subst c5328_pr
        subst c5328_li
        have esu5328 := (c5328_su.trans hsu).symm
        subst esu5328
        have ctm5328 : f5328_7 &&& 15 = nI t9 := by rw [c5328_tm, htm]
        have hP : va_P D vwCl [(w, .inr (7, [.ref su, .ref f5328_1, .ref (cs (400 + i)), .ref (cs (420 + i)), .ref (cs (460 + i)), .ref f5328_5, .long f5328_6, .int f5328_7, .int f5328_8, .int f5328_9, .int f5328_10, .int f5328_11, .int f5328_12, .int f5328_13, .int f5328_14, .int f5328_15]))] _ := va_P.cons hat5328 va_P.nil
        refine va_get (D := D) (ci := 7) (v := .int f5328_15) (C := RX7) (T := TX7) (N := 16) hx hb hts iX7_runOn_7 hown hN.1 hP 0 rfl rfl 15 (by decide) (hts _ mX7_runOn_1) (fun _ h9 => h9) rfl dX7_runOn_26 ?_
        refine lv_iload_n hx hb dX7_runOn_29 rfl (lv_at hl 3 rfl) ?_
        refine lv_icmp_ne (tgt := 44) hx hb dX7_runOn_30 (by decide) (fun c5329 => ?_) (fun c5329 => ?_)
        · refine lv_iload_n hx hb dX7_runOn_44 rfl (lv_at hl 0 rfl) ?_
          refine W.know (fun hg => ?_)
          rw [hH0] at hg
          exact en_i hx hb hr hlocks hL rfl (show k9 ≤ ((56 * sumN C 16 + 22407 - 2 * sumN ln 16) / 35) by omega) (show n9 ≤ (56 * sumN C 16 + 22407 - 2 * sumN ln 16) by omega) dX7_runOn_45 (⟨_, hKU, hT, hF, _, _, _, _, _, _, hMW, ⟨hg, hGN⟩, hsu, htm, hEO⟩)
        · refine lv_aload_n hx hb dX7_runOn_33 rfl (lv_at hl 1 rfl) ?_
          refine va_get (D := D) (ci := 7) (v := .ref (cs (420 + i))) (C := RX7) (T := TX7) (N := 16) hx hb hts iX7_runOn_7 hown hN.1 hP 0 rfl rfl 3 (by decide) (hts _ mX7_runOn_2) (fun _ h9 => h9) rfl dX7_runOn_34 ?_
          obtain ⟨hb5330, e5330, hat5330, hk5330⟩ := hT.o5 t5328_3.1
          obtain ⟨f5330_0, f5330_1, f5330_2, f5330_3, f5330_4, f5330_5, f5330_6, f5330_7, rfl, c5330⟩ := hk5330
          have hP : va_P D vwCl [((cs (420 + i)), .inr (4, [.int f5330_0, .int f5330_1, .int f5330_2, .int f5330_3, .int f5330_4, .int f5330_5, .int f5330_6, .int f5330_7])), (w, .inr (7, [.ref su, .ref f5328_1, .ref (cs (400 + i)), .ref (cs (420 + i)), .ref (cs (460 + i)), .ref f5328_5, .long f5328_6, .int f5328_7, .int f5328_8, .int f5328_9, .int f5328_10, .int f5328_11, .int f5328_12, .int f5328_13, .int f5328_14, .int f5328_15]))] _ := va_P.cons hat5330 hP
          refine va_getN (D := D) (ci := 4) (v := .int f5330_5) (C := RX4) (T := TX4) (N := 8) hx hb hts iX7_runOn_4 hown hN.1 hP 0 rfl rfl 5 (by decide) (hN.f 12 rfl) (fun _ h9 => h9) rfl dX7_runOn_37 ?_
          refine lv_iconst (v := 2) hx hb dX7_runOn_40 (by decide) ?_
          refine lv_icmp_ne (tgt := 46) hx hb dX7_runOn_41 (by decide) (fun c5331 => ?_) (fun c5331 => ?_)
          · refine lv_aload_n hx hb dX7_runOn_46 rfl (lv_at hl 1 rfl) ?_
            refine W.know (fun hgb => ?_)
            rw [hH0] at hgb
            refine cv_v (As := []) (rest := []) (b := w) ⟨hx, hb, hml, hown, hts⟩ (c_X7_tick hT (w := w) hw hsu htm hMW hEO hb24) (cwV 0 hts gX7_runOn_X7_tick rfl rfl rfl hdX7_tick_v ⟨Nat.le_of_ble_eq_true rfl, Nat.le_of_ble_eq_true rfl⟩) hN hE hL (rcv8 hN hT hw.1) rfl rfl hl.1 (Nat.le_of_ble_eq_true rfl) dX7_runOn_47 (show k9 + ((56 * sumN C 16 + 22407 - 2 * sumN ln9 16) / 35) ≤ ((56 * sumN C 16 + 22407 - 2 * sumN ln 16) / 35) by omega) (show n9 + (56 * sumN C 16 + 22407 - 2 * sumN ln9 16) ≤ (56 * sumN C 16 + 22407 - 2 * sumN ln 16) by omega) (fun H1 locs hL hqr5332 => ?_)
            obtain ⟨κr5332, hxr5332, hT1, hF1, hqr5332⟩ := hqr5332
            have hxfr5332 := hxr5332.1
            have hTo := hT
            have hwo := hw
            have hsuo := hsu
            have hF9 := hF1
            have hF := hF.tr ((hF1.kf hKF).mono (by simp))
            have hT := hT1
            have hKF := hKF.tr hxfr5332
            have hKU : KU i κ κr5332 := hKU.tr hxr5332
            have hw := (KF.t2 hxfr5332 hw (by decide))
            have hpr := (KF.t2 hxfr5332 hpr (by decide))
            have hmk := (KF.t2 hxfr5332 hmk (by decide))
            have hli := (KF.t2 hxfr5332 hli (by decide))
            obtain ⟨c5333, l5334, w5335, t5336, k5337, n5338, m5339, g5340, s5341, q5342, e5343⟩ := hqr5332
            have hMW := m5339
            obtain ⟨k5344, n5345, hGP⟩ : ∃ k9 n9, GP H0 _ ln l5334 k9 n9 := ⟨_, _, GP.tr (show GP H0 _ ln ln9 _ _ from ⟨hgb, hGN⟩) g5340⟩
            refine W.tight (k := k5344) (n := n5345) (by rw [hH0]; exact hGP.1) ?_
            have hGN : GN ln l5334 k5344 n5345 := hGP.2
            have hgk5344 := hGN.1
            have hgn5345 := hGN.2
            have hsk5344 := hMW.2.2.1.sum
            have hsu := s5341
            have htm := q5342
            have hEO := e5343
            refine lv_iinc (v := (nI (k + 1))) (lv' := [(3, .int (nI (k + 1))), (0, .ref w), (1, .int x), (2, .int y)]) hx hb dX7_runOn_50 hl (k := 0) rfl (nI_add _ 1) (by decide) rfl (fun ls hl => ?_)
            refine lv_goto (tgt := 7) hx hb dX7_runOn_53 (by decide) ?_
            refine W.know (fun hgb => ?_)
            rw [hH0] at hgb
            refine W.widen (k := ((56 * sumN C 16 + 22407 - 2 * sumN ln 16) / 35)) (n := (56 * sumN C 16 + 22407 - 2 * sumN ln 16)) (show k5344 ≤ ((56 * sumN C 16 + 22407 - 2 * sumN ln 16) / 35) by omega) (show n5345 ≤ (56 * sumN C 16 + 22407 - 2 * sumN ln 16) by omega) ?_
            exact ih5310 ((k + 1), κr5332, c5333, l5334, w5335, t5336, k5344, n5345, y) _ _ _ (by show 400 - ((k + 1)) < 400 - k; omega) ⟨(by show ((k + 1)) ≤ 400; omega), hKU, hw, hsu, htm, hMW, hEO, hgb, hGN, hT, hF, hL⟩ (lv_sub hl [0, 1, 2, 3] rfl)
          · refine lv_iload_n hx hb dX7_runOn_44 rfl (lv_at hl 0 rfl) ?_
            refine W.know (fun hg => ?_)
            rw [hH0] at hg
            exact en_i hx hb hr hlocks hL rfl (show k9 ≤ ((56 * sumN C 16 + 22407 - 2 * sumN ln 16) / 35) by omega) (show n9 ≤ (56 * sumN C 16 + 22407 - 2 * sumN ln 16) by omega) dX7_runOn_45 (⟨_, hKU, hT, hF, _, _, _, _, _, _, hMW, ⟨hg, hGN⟩, hsu, htm, hEO⟩)
theorem mX7_startProposal_1 : (.fieldLink RX7 27 "OneBeat$World" "latest" "LOneBeat$Proposal;" : Cond) ∈ wsX7_startProposal := List.mem_of_getElem? (i := 1) (by decide +kernel)
theorem iX7_startProposal_7 : ∀ w ∈ wsX70, w ∈ wsX7_startProposal := fun w h => List.mem_of_mem_drop (List.mem_of_mem_take ((show wsX70 = (wsX7_startProposal.drop 92).take 16 by decide +kernel) ▸ h))
theorem mX7_startProposal_2 : (.fieldLink RX7 68 "OneBeat$World" "conductor" "I" : Cond) ∈ wsX7_startProposal := List.mem_of_getElem? (i := 2) (by decide +kernel)
theorem mX7_startProposal_3 : (.fieldLink RX7 64 "OneBeat$World" "time" "I" : Cond) ∈ wsX7_startProposal := List.mem_of_getElem? (i := 3) (by decide +kernel)
theorem mX7_startProposal_4 : (.fieldLink RX7 52 "OneBeat$World" "setup" "LOneBeat$Setup;" : Cond) ∈ wsX7_startProposal := List.mem_of_getElem? (i := 4) (by decide +kernel)
theorem iX7_startProposal_6 : ∀ w ∈ wsX60, w ∈ wsX7_startProposal := fun w h => List.mem_of_mem_drop (List.mem_of_mem_take ((show wsX60 = (wsX7_startProposal.drop 108).take 8 by decide +kernel) ▸ h))
theorem hdX4_start_v : yX4_start.cls = RX4 ∧ yX4_start.cls ≠ "java/lang/invoke/MethodHandle" ∧ yX4_start.cls ≠ "java/lang/invoke/VarHandle" ∧ (parseMethodDescriptor yX4_start.desc).map (fun d => d.parameters.length) = some 4 := by decide +kernel
theorem mX7_startProposal_5 : (.fieldLink RX7 77 "OneBeat$World" "made" "I" : Cond) ∈ wsX7_startProposal := List.mem_of_getElem? (i := 5) (by decide +kernel)
theorem iX7_startProposal_4 : ∀ w ∈ wsX40, w ∈ wsX7_startProposal := fun w h => List.mem_of_mem_drop (List.mem_of_mem_take ((show wsX40 = (wsX7_startProposal.drop 116).take 8 by decide +kernel) ▸ h))
