theorem mX7_send_1 : (.fieldLink RX7 38 "OneBeat$World" "outgoing" "LOneBeat$Letter;" : Cond) ∈ wsX7_send := List.mem_of_getElem? (i := 1) (by decide +kernel)
theorem iX7_send_7 : ∀ w ∈ wsX70, w ∈ wsX7_send := fun w h => List.mem_of_mem_drop (List.mem_of_mem_take ((show wsX70 = (wsX7_send.drop 40).take 16 by decide +kernel) ▸ h))
theorem iX7_send_1 : ∀ w ∈ wsX10, w ∈ wsX7_send := fun w h => List.mem_of_mem_drop (List.mem_of_mem_take ((show wsX10 = (wsX7_send.drop 56).take 7 by decide +kernel) ▸ h))
theorem mX7_send_2 : (.fieldLink RX7 71 "OneBeat$World" "sent" "I" : Cond) ∈ wsX7_send := List.mem_of_getElem? (i := 2) (by decide +kernel)
theorem mX7_send_3 : (.fieldLink RX7 52 "OneBeat$World" "setup" "LOneBeat$Setup;" : Cond) ∈ wsX7_send := List.mem_of_getElem? (i := 3) (by decide +kernel)
theorem mX7_send_6 : (.fieldLink RX7 74 "OneBeat$World" "lost" "I" : Cond) ∈ wsX7_send := List.mem_of_getElem? (i := 6) (by decide +kernel)
theorem mX7_send_4 : (.fieldLink RX7 20 "OneBeat$World" "mail" "LOneBeat$Mail;" : Cond) ∈ wsX7_send := List.mem_of_getElem? (i := 4) (by decide +kernel)
theorem mX7_send_5 : (.fieldLink RX7 64 "OneBeat$World" "time" "I" : Cond) ∈ wsX7_send := List.mem_of_getElem? (i := 5) (by decide +kernel)
theorem hdX2_add_v : yX2_add.cls = RX2 ∧ yX2_add.cls ≠ "java/lang/invoke/MethodHandle" ∧ yX2_add.cls ≠ "java/lang/invoke/VarHandle" ∧ (parseMethodDescriptor yX2_add.desc).map (fun d => d.parameters.length) = some 2 := by decide +kernel
set_option maxHeartbeats 4000000 in
set_option maxRecDepth 100000 in
theorem c_X7_send {l : Launch} {D : va_G} {cs : Nat → ClassId} {B0 T : Nat} {κ : KM} {H0 : Heap} (hT : WT B0 D cs T κ H0) {w i : Nat} (hw : T2 κ w 8 i) {x y z u v t : Int32} {C cn ln : Nat → Nat} {rw9 : Nat → Nat → Int32} {dl : Nat → Int32} {su tm : Nat} (hsu : (κ w).2.2.1 = su) (htm : (κ w).2.2.2 = tm) (hMW : MW D cs H0 i su tm C cn ln rw9 dl) (hcn : ∀ j, j < 16 → cn j ≤ C j + 24) {M : Nat} (hM9 : ∀ j, j < 16 → 2 * ln j + 7 ≤ M) : KC l yX7_send wsX7_send 2 85 1 M D cs B0 H0 [.ref w, .int x, .int y, .int z, .int u, .int v, .int t] (Qi (fun _ H => ∃ κ1, KX κ κ1 ∧ WT B0 D cs T κ1 H ∧ Fr B0 [i, i + 20] κ H0 H ∧ ∃ cn1 ln1 rw1 k n, MW D cs H i su tm C cn1 ln1 rw1 dl ∧ GP H0 H ln ln1 k n ∧ SD cn cn1 rw9 rw1 ((tm + (dl (plc y z)).toNatClampNeg) % 16) x y z)) := by
  refine KC.of cX7_send 9 (some .boolean) (by decide) rfl (Nat.le_of_ble_eq_true rfl) ?_
  intro p e s m below meth c ls hx hb hr hml hown hts hlocks hin hN hE hH0 hl
  have hown : s.vm.findClass RX7 = some m.cls := hown
  have hl : lv_has ls 9 [(0, .ref w), (1, .int x), (2, .int y), (3, .int z), (4, .int u), (5, .int v), (6, .int t)] := hl
  have hL : OkL B0 [] := OkL.nil
  have hF : Fr B0 [i, i + 20] κ H0 H0 := Fr.rf
  obtain ⟨hmk, hpr, hli, -, hi10⟩ := hT.ml hw
  have ht16 := hMW.2.2.2
  have h15a : ¬ 15 = i := by omega
  have h15b : ¬ 15 = i + 20 := by omega
  have h15c : ¬ 15 = i + 40 := by omega
  refine lv_aload_n hx hb dX7_send_0 rfl (lv_at hl 0 rfl) ?_
  obtain ⟨hb5058, e5058, hat5058, hk5058⟩ := hT.o8 hw.1
  obtain ⟨f5058_0, f5058_1, f5058_2, f5058_3, f5058_4, f5058_5, f5058_6, f5058_7, f5058_8, f5058_9, f5058_10, f5058_11, f5058_12, f5058_13, f5058_14, f5058_15, rfl, t5058_0, c5058_su, t5058_1, t5058_2, t5058_3, t5058_4, t5058_5, c5058_tm, c5058_lt, c5058_ml, c5058_pr, c5058_li⟩ := hk5058
  rw [hw.2] at t5058_1
  rw [hw.2] at t5058_2
  rw [hw.2] at t5058_3
  rw [hw.2] at t5058_4
  rw [hw.2] at t5058_5
  rw [hw.2] at c5058_lt c5058_ml c5058_pr c5058_li
  subst c5058_ml
  subst c5058_pr
  subst c5058_li
  have esu5058 := (c5058_su.trans hsu).symm
  subst esu5058
  have ctm5058 : f5058_7 &&& 15 = nI tm := by rw [c5058_tm, htm]
  have hP : va_P D vwCl [(w, .inr (7, [.ref su, .ref f5058_1, .ref (cs (400 + i)), .ref (cs (420 + i)), .ref (cs (460 + i)), .ref f5058_5, .long f5058_6, .int f5058_7, .int f5058_8, .int f5058_9, .int f5058_10, .int f5058_11, .int f5058_12, .int f5058_13, .int f5058_14, .int f5058_15]))] _ := va_P.cons hat5058 va_P.nil
  refine va_get (D := D) (ci := 7) (v := .ref f5058_5) (C := RX7) (T := TX7) (N := 16) hx hb hts iX7_send_7 hown hN.1 hP 0 rfl rfl 5 (by decide) (hts _ mX7_send_1) (fun _ h9 => h9) rfl dX7_send_1 ?_
  refine lv_astore (lv' := [(7, .ref f5058_5), (0, .ref w), (1, .int x), (2, .int y), (3, .int z), (4, .int u), (5, .int v), (6, .int t)]) hx hb dX7_send_4 hl (by decide) rfl (fun ls hl => ?_)
  refine lv_aload hx hb dX7_send_6 (lv_at hl 0 rfl) ?_
  refine lv_iload_n hx hb dX7_send_8 rfl (lv_at hl 2 rfl) ?_
  obtain ⟨hb5059, e5059, hat5059, hk5059⟩ := hT.o2 t5058_5.1
  obtain ⟨f5059_0, f5059_1, f5059_2, f5059_3, f5059_4, f5059_5, f5059_6, rfl⟩ := hk5059
  have hP : va_P D vwCl [(f5058_5, .inr (1, [.int f5059_0, .int f5059_1, .int f5059_2, .int f5059_3, .int f5059_4, .int f5059_5, .int f5059_6])), (w, .inr (7, [.ref su, .ref f5058_1, .ref (cs (400 + i)), .ref (cs (420 + i)), .ref (cs (460 + i)), .ref f5058_5, .long f5058_6, .int f5058_7, .int f5058_8, .int f5058_9, .int f5058_10, .int f5058_11, .int f5058_12, .int f5058_13, .int f5058_14, .int f5058_15]))] _ := va_P.cons hat5059 hP
  have hB : Bx B0 D _ [(f5058_5, .inr (1, [.int f5059_0, .int f5059_1, .int f5059_2, .int f5059_3, .int f5059_4, .int f5059_5, .int f5059_6])), (w, .inr (7, [.ref su, .ref f5058_1, .ref (cs (400 + i)), .ref (cs (420 + i)), .ref (cs (460 + i)), .ref f5058_5, .long f5058_6, .int f5058_7, .int f5058_8, .int f5058_9, .int f5058_10, .int f5058_11, .int f5058_12, .int f5058_13, .int f5058_14, .int f5058_15]))] [] _ _ := Bx.of (fun a => (κ a).1) hL hP (fa_c hb5059 (fa_c hb5058 fa_n)) (by simp only [List.map_cons, List.map_nil, t5058_5.1, hw.1]; decide)
  refine b_putN (D := D) (ci := 1) (v := .int x) (ty := .int) (C := RX1) (T := TX1) (N := 7) hx hb hts iX7_send_1 tyX1 tyX1_ok nmX1 hown hN hB 0 rfl rfl 0 (by decide) (hN.f 14 rfl) (fun _ h9 => h9) rfl (by decide +kernel) rfl rfl (Nat.le_of_ble_eq_true rfl) (.inl rfl) dX7_send_9 (fun H locs hB => ?_)
  have hB : Bx B0 D _ [(f5058_5, .inr (1, [.int x, .int f5059_1, .int f5059_2, .int f5059_3, .int f5059_4, .int f5059_5, .int f5059_6])), (w, .inr (7, [.ref su, .ref f5058_1, .ref (cs (400 + i)), .ref (cs (420 + i)), .ref (cs (460 + i)), .ref f5058_5, .long f5058_6, .int f5058_7, .int f5058_8, .int f5058_9, .int f5058_10, .int f5058_11, .int f5058_12, .int f5058_13, .int f5058_14, .int f5058_15]))] [f5058_5] _ _ := hB
  refine lv_aload hx hb dX7_send_12 (lv_at hl 0 rfl) ?_
  refine lv_iload_n hx hb dX7_send_14 rfl (lv_at hl 3 rfl) ?_
  refine b_putN (D := D) (ci := 1) (v := .int y) (ty := .int) (C := RX1) (T := TX1) (N := 7) hx hb hts iX7_send_1 tyX1 tyX1_ok nmX1 hown hN hB 0 rfl rfl 1 (by decide) (hN.f 16 rfl) (fun _ h9 => h9) rfl (by decide +kernel) rfl rfl (Nat.le_of_ble_eq_true rfl) (.inr ⟨rfl, List.mem_of_getElem? (i := 0) rfl⟩) dX7_send_15 (fun H locs hB => ?_)
  have hB : Bx B0 D _ [(f5058_5, .inr (1, [.int x, .int y, .int f5059_2, .int f5059_3, .int f5059_4, .int f5059_5, .int f5059_6])), (w, .inr (7, [.ref su, .ref f5058_1, .ref (cs (400 + i)), .ref (cs (420 + i)), .ref (cs (460 + i)), .ref f5058_5, .long f5058_6, .int f5058_7, .int f5058_8, .int f5058_9, .int f5058_10, .int f5058_11, .int f5058_12, .int f5058_13, .int f5058_14, .int f5058_15]))] [f5058_5] _ _ := hB
  refine lv_aload hx hb dX7_send_18 (lv_at hl 0 rfl) ?_
  refine lv_iload_n hx hb dX7_send_20 rfl (lv_at hl 4 rfl) ?_
  refine b_putN (D := D) (ci := 1) (v := .int z) (ty := .int) (C := RX1) (T := TX1) (N := 7) hx hb hts iX7_send_1 tyX1 tyX1_ok nmX1 hown hN hB 0 rfl rfl 2 (by decide) (hN.f 18 rfl) (fun _ h9 => h9) rfl (by decide +kernel) rfl rfl (Nat.le_of_ble_eq_true rfl) (.inr ⟨rfl, List.mem_of_getElem? (i := 0) rfl⟩) dX7_send_21 (fun H locs hB => ?_)
  have hB : Bx B0 D _ [(f5058_5, .inr (1, [.int x, .int y, .int z, .int f5059_3, .int f5059_4, .int f5059_5, .int f5059_6])), (w, .inr (7, [.ref su, .ref f5058_1, .ref (cs (400 + i)), .ref (cs (420 + i)), .ref (cs (460 + i)), .ref f5058_5, .long f5058_6, .int f5058_7, .int f5058_8, .int f5058_9, .int f5058_10, .int f5058_11, .int f5058_12, .int f5058_13, .int f5058_14, .int f5058_15]))] [f5058_5] _ _ := hB
  refine lv_aload hx hb dX7_send_24 (lv_at hl 0 rfl) ?_
  refine lv_aload_n hx hb dX7_send_26 rfl (lv_at hl 1 rfl) ?_
  refine va_get (D := D) (ci := 7) (v := .int f5058_9) (C := RX7) (T := TX7) (N := 16) hx hb hts iX7_send_7 hown hN.1 hB.1 1 rfl rfl 9 (by decide) (hts _ mX7_send_2) (fun _ h9 => h9) rfl dX7_send_27 ?_
  refine b_putN (D := D) (ci := 1) (v := .int f5058_9) (ty := .int) (C := RX1) (T := TX1) (N := 7) hx hb hts iX7_send_1 tyX1 tyX1_ok nmX1 hown hN hB 0 rfl rfl 3 (by decide) (hN.f 20 rfl) (fun _ h9 => h9) rfl (by decide +kernel) rfl rfl (Nat.le_of_ble_eq_true rfl) (.inr ⟨rfl, List.mem_of_getElem? (i := 0) rfl⟩) dX7_send_30 (fun H locs hB => ?_)
  have hB : Bx B0 D _ [(f5058_5, .inr (1, [.int x, .int y, .int z, .int f5058_9, .int f5059_4, .int f5059_5, .int f5059_6])), (w, .inr (7, [.ref su, .ref f5058_1, .ref (cs (400 + i)), .ref (cs (420 + i)), .ref (cs (460 + i)), .ref f5058_5, .long f5058_6, .int f5058_7, .int f5058_8, .int f5058_9, .int f5058_10, .int f5058_11, .int f5058_12, .int f5058_13, .int f5058_14, .int f5058_15]))] [f5058_5] _ _ := hB
  refine lv_aload hx hb dX7_send_33 (lv_at hl 0 rfl) ?_
  refine lv_iload hx hb dX7_send_35 (lv_at hl 5 rfl) ?_
  refine b_putN (D := D) (ci := 1) (v := .int u) (ty := .int) (C := RX1) (T := TX1) (N := 7) hx hb hts iX7_send_1 tyX1 tyX1_ok nmX1 hown hN hB 0 rfl rfl 4 (by decide) (hN.f 22 rfl) (fun _ h9 => h9) rfl (by decide +kernel) rfl rfl (Nat.le_of_ble_eq_true rfl) (.inr ⟨rfl, List.mem_of_getElem? (i := 0) rfl⟩) dX7_send_37 (fun H locs hB => ?_)
  have hB : Bx B0 D _ [(f5058_5, .inr (1, [.int x, .int y, .int z, .int f5058_9, .int u, .int f5059_5, .int f5059_6])), (w, .inr (7, [.ref su, .ref f5058_1, .ref (cs (400 + i)), .ref (cs (420 + i)), .ref (cs (460 + i)), .ref f5058_5, .long f5058_6, .int f5058_7, .int f5058_8, .int f5058_9, .int f5058_10, .int f5058_11, .int f5058_12, .int f5058_13, .int f5058_14, .int f5058_15]))] [f5058_5] _ _ := hB
  refine lv_aload hx hb dX7_send_40 (lv_at hl 0 rfl) ?_
  refine lv_iload hx hb dX7_send_42 (lv_at hl 6 rfl) ?_
  refine b_putN (D := D) (ci := 1) (v := .int v) (ty := .int) (C := RX1) (T := TX1) (N := 7) hx hb hts iX7_send_1 tyX1 tyX1_ok nmX1 hown hN hB 0 rfl rfl 5 (by decide) (hN.f 24 rfl) (fun _ h9 => h9) rfl (by decide +kernel) rfl rfl (Nat.le_of_ble_eq_true rfl) (.inr ⟨rfl, List.mem_of_getElem? (i := 0) rfl⟩) dX7_send_44 (fun H locs hB => ?_)
  have hB : Bx B0 D _ [(f5058_5, .inr (1, [.int x, .int y, .int z, .int f5058_9, .int u, .int v, .int f5059_6])), (w, .inr (7, [.ref su, .ref f5058_1, .ref (cs (400 + i)), .ref (cs (420 + i)), .ref (cs (460 + i)), .ref f5058_5, .long f5058_6, .int f5058_7, .int f5058_8, .int f5058_9, .int f5058_10, .int f5058_11, .int f5058_12, .int f5058_13, .int f5058_14, .int f5058_15]))] [f5058_5] _ _ := hB
  refine lv_aload hx hb dX7_send_47 (lv_at hl 0 rfl) ?_
  refine lv_iload hx hb dX7_send_49 (lv_at hl 7 rfl) ?_
  refine b_putN (D := D) (ci := 1) (v := .int t) (ty := .int) (C := RX1) (T := TX1) (N := 7) hx hb hts iX7_send_1 tyX1 tyX1_ok nmX1 hown hN hB 0 rfl rfl 6 (by decide) (hN.f 26 rfl) (fun _ h9 => h9) rfl (by decide +kernel) rfl rfl (Nat.le_of_ble_eq_true rfl) (.inr ⟨rfl, List.mem_of_getElem? (i := 0) rfl⟩) dX7_send_51 (fun H locs hB => ?_)
  have hB : Bx B0 D _ [(f5058_5, .inr (1, [.int x, .int y, .int z, .int f5058_9, .int u, .int v, .int t])), (w, .inr (7, [.ref su, .ref f5058_1, .ref (cs (400 + i)), .ref (cs (420 + i)), .ref (cs (460 + i)), .ref f5058_5, .long f5058_6, .int f5058_7, .int f5058_8, .int f5058_9, .int f5058_10, .int f5058_11, .int f5058_12, .int f5058_13, .int f5058_14, .int f5058_15]))] [f5058_5] _ _ := hB
  refine lv_aload_n hx hb dX7_send_54 rfl (lv_at hl 1 rfl) ?_
  refine lv_dup hx hb dX7_send_55 rfl ?_
  refine va_get (D := D) (ci := 7) (v := .int f5058_9) (C := RX7) (T := TX7) (N := 16) hx hb hts iX7_send_7 hown hN.1 hB.1 1 rfl rfl 9 (by decide) (hts _ mX7_send_2) (fun _ h9 => h9) rfl dX7_send_56 ?_
  refine lv_iconst (v := 1) hx hb dX7_send_59 (by decide) ?_
  refine lv_iadd hx hb dX7_send_60 ?_
  refine gn_i (fun x5060 => ?_)
  refine b_put (D := D) (ci := 7) (v := .int x5060) (ty := .int) (C := RX7) (T := TX7) (N := 16) hx hb hts iX7_send_7 tyX7 tyX7_ok nmX7 hown hN hB 1 rfl rfl 9 (by decide) (hts _ mX7_send_2) (fun _ h9 => h9) rfl (by decide +kernel) rfl rfl (Nat.le_of_ble_eq_true rfl) (.inl rfl) dX7_send_61 (fun H locs hB => ?_)
  have hB : Bx B0 D _ [(f5058_5, .inr (1, [.int x, .int y, .int z, .int f5058_9, .int u, .int v, .int t])), (w, .inr (7, [.ref su, .ref f5058_1, .ref (cs (400 + i)), .ref (cs (420 + i)), .ref (cs (460 + i)), .ref f5058_5, .long f5058_6, .int f5058_7, .int f5058_8, .int x5060, .int f5058_10, .int f5058_11, .int f5058_12, .int f5058_13, .int f5058_14, .int f5058_15]))] [w, f5058_5] _ _ := hB
  refine lv_aload_n hx hb dX7_send_64 rfl (lv_at hl 1 rfl) ?_
  refine va_get (D := D) (ci := 7) (v := .ref su) (C := RX7) (T := TX7) (N := 16) hx hb hts iX7_send_7 hown hN.1 hB.1 1 rfl rfl 0 (by decide) (hts _ mX7_send_3) (fun _ h9 => h9) rfl dX7_send_65 ?_
  refine lv_iload_n hx hb dX7_send_68 rfl (lv_at hl 3 rfl) ?_
  refine lv_iload_n hx hb dX7_send_69 rfl (lv_at hl 4 rfl) ?_
  have hMW := hMW.fr hT hw hsu (Fr.close (S := [i]) Fr.rf hB (fa_c (by simp [hw.2]) (fa_c (by simp [t5058_5.2]) fa_n))) (by first | (simp; done) | (simp [h15a, h15b, h15c]; done) | (simp; omega) | omega) (by first | (simp; done) | (simp [h15a, h15b, h15c]; done) | (simp; omega) | omega)
  have hT : WT B0 D cs T κ _ := hT.close hB ⟨⟨1, _, rfl, ok_8 hw.1 ⟨_, _, _, _, _, _, _, _, _, _, _, _, _, _, _, _, rfl, t5058_0, c5058_su, ⟨t5058_1.1, by rw [hw.2]; exact t5058_1.2⟩, ⟨t5058_2.1, by rw [hw.2]; exact t5058_2.2⟩, ⟨t5058_3.1, by rw [hw.2]; exact t5058_3.2⟩, ⟨t5058_4.1, by rw [hw.2]; exact t5058_4.2⟩, ⟨t5058_5.1, by rw [hw.2]; exact t5058_5.2⟩, c5058_tm, (by rw [hw.2]; omega), (by first | rw [hw.2] | (dsimp only; rw [hw.2])), (by first | rw [hw.2] | (dsimp only; rw [hw.2])), (by first | rw [hw.2] | (dsimp only; rw [hw.2]))⟩⟩, ⟨⟨0, _, rfl, ok_2 t5058_5.1 ⟨_, _, _, _, _, _, _, rfl⟩⟩, trivial⟩⟩
  have hF : Fr B0 [i, i + 20] κ H0 _ := hF.close hB (fa_c (by simp [hw.2]) (fa_c (by simp [t5058_5.2]) fa_n))
  have hL : OkL B0 _ := hB.2.2.2.2.2
  have hP : va_P D vwCl [(f5058_5, .inr (1, [.int x, .int y, .int z, .int f5058_9, .int u, .int v, .int t])), (w, .inr (7, [.ref su, .ref f5058_1, .ref (cs (400 + i)), .ref (cs (420 + i)), .ref (cs (460 + i)), .ref f5058_5, .long f5058_6, .int f5058_7, .int f5058_8, .int x5060, .int f5058_10, .int f5058_11, .int f5058_12, .int f5058_13, .int f5058_14, .int f5058_15]))] _ := hB.1
  refine cv_i (As := [.int y, .int z]) (rest := []) (b := su) ⟨hx, hb, hml, hown, hts⟩ (c_X6_delayOf hT (w := su) t5058_0 (x := y) (y := z)) (cwV 2 hts gX7_send_X6_delayOf rfl rfl rfl hdX6_delayOf_v ⟨Nat.le_of_ble_eq_true rfl, Nat.le_of_ble_eq_true rfl⟩) hN hE hL (rcv7 hN hT t5058_0.1) rfl rfl hl.1 (Nat.le_of_ble_eq_true rfl) dX7_send_70 (Nat.zero_le _) (Nat.zero_le _) (fun r5061 H1 locs hL hqr5061 => ?_)
  obtain ⟨h9, hqr5061⟩ := hqr5061; replace h9 := h9.symm; subst h9
  obtain ⟨f5062, d5063, n5064, h5065, rfl, e5066⟩ := hqr5061
  have hdl : dl (plc y z) = nI n5064 := (hMW.2.1.eq d5063 _ (plc_lt _ _)).trans e5066
  refine lv_istore (lv' := [(8, .int (nI n5064)), (7, .ref f5058_5), (0, .ref w), (1, .int x), (2, .int y), (3, .int z), (4, .int u), (5, .int v), (6, .int t)]) hx hb dX7_send_73 hl (by decide) rfl (fun ls hl => ?_)
  refine lv_iload hx hb dX7_send_75 (lv_at hl 0 rfl) ?_
  refine lv_if_le (tgt := 110) hx hb dX7_send_77 (by decide) (fun c5067 => ?_) (fun c5067 => ?_)
  · have c5067 : n5064 ≤ 0 := (nI_leI (a := n5064) (b := 0) (by omega) (by omega)).mp c5067
    refine lv_aload_n hx hb dX7_send_110 rfl (lv_at hl 2 rfl) ?_
    refine lv_dup hx hb dX7_send_111 rfl ?_
    refine va_get (D := D) (ci := 7) (v := .int f5058_10) (C := RX7) (T := TX7) (N := 16) hx hb hts iX7_send_7 hown hN.1 hP 1 rfl rfl 10 (by decide) (hts _ mX7_send_6) (fun _ h9 => h9) rfl dX7_send_112 ?_
    refine lv_iconst (v := 1) hx hb dX7_send_115 (by decide) ?_
    refine lv_iadd hx hb dX7_send_116 ?_
    refine gn_i (fun x5068 => ?_)
    have hB : Bx B0 D _ [(f5058_5, .inr (1, [.int x, .int y, .int z, .int f5058_9, .int u, .int v, .int t])), (w, .inr (7, [.ref su, .ref f5058_1, .ref (cs (400 + i)), .ref (cs (420 + i)), .ref (cs (460 + i)), .ref f5058_5, .long f5058_6, .int f5058_7, .int f5058_8, .int x5060, .int f5058_10, .int f5058_11, .int f5058_12, .int f5058_13, .int f5058_14, .int f5058_15]))] [] _ _ := Bx.of (fun a => (κ a).1) hL hP (fa_c hb5059 (fa_c hb5058 fa_n)) (by simp only [List.map_cons, List.map_nil, t5058_5.1, hw.1]; decide)
    refine b_put (D := D) (ci := 7) (v := .int x5068) (ty := .int) (C := RX7) (T := TX7) (N := 16) hx hb hts iX7_send_7 tyX7 tyX7_ok nmX7 hown hN hB 1 rfl rfl 10 (by decide) (hts _ mX7_send_6) (fun _ h9 => h9) rfl (by decide +kernel) rfl rfl (Nat.le_of_ble_eq_true rfl) (.inl rfl) dX7_send_117 (fun H locs hB => ?_)
    have hB : Bx B0 D _ [(f5058_5, .inr (1, [.int x, .int y, .int z, .int f5058_9, .int u, .int v, .int t])), (w, .inr (7, [.ref su, .ref f5058_1, .ref (cs (400 + i)), .ref (cs (420 + i)), .ref (cs (460 + i)), .ref f5058_5, .long f5058_6, .int f5058_7, .int f5058_8, .int x5060, .int x5068, .int f5058_11, .int f5058_12, .int f5058_13, .int f5058_14, .int f5058_15]))] [w] _ _ := hB
    refine lv_iconst (v := 0) hx hb dX7_send_120 (by decide) ?_
    have hMW := hMW.fr hT hw hsu (Fr.close (S := [i]) Fr.rf hB (fa_c (by simp [hw.2]) fa_n)) (by first | (simp; done) | (simp [h15a, h15b, h15c]; done) | (simp; omega) | omega) (by first | (simp; done) | (simp [h15a, h15b, h15c]; done) | (simp; omega) | omega)
    have hT : WT B0 D cs T κ _ := hT.close hB ⟨⟨1, _, rfl, ok_8 hw.1 ⟨_, _, _, _, _, _, _, _, _, _, _, _, _, _, _, _, rfl, t5058_0, c5058_su, ⟨t5058_1.1, by rw [hw.2]; exact t5058_1.2⟩, ⟨t5058_2.1, by rw [hw.2]; exact t5058_2.2⟩, ⟨t5058_3.1, by rw [hw.2]; exact t5058_3.2⟩, ⟨t5058_4.1, by rw [hw.2]; exact t5058_4.2⟩, ⟨t5058_5.1, by rw [hw.2]; exact t5058_5.2⟩, c5058_tm, (by rw [hw.2]; omega), (by first | rw [hw.2] | (dsimp only; rw [hw.2])), (by first | rw [hw.2] | (dsimp only; rw [hw.2])), (by first | rw [hw.2] | (dsimp only; rw [hw.2]))⟩⟩, trivial⟩
    have hF : Fr B0 [i, i + 20] κ H0 _ := hF.close hB (fa_c (by simp [hw.2]) fa_n)
    have hL : OkL B0 _ := hB.2.2.2.2.2
    have hP : va_P D vwCl [(f5058_5, .inr (1, [.int x, .int y, .int z, .int f5058_9, .int u, .int v, .int t])), (w, .inr (7, [.ref su, .ref f5058_1, .ref (cs (400 + i)), .ref (cs (420 + i)), .ref (cs (460 + i)), .ref f5058_5, .long f5058_6, .int f5058_7, .int f5058_8, .int x5060, .int x5068, .int f5058_11, .int f5058_12, .int f5058_13, .int f5058_14, .int f5058_15]))] _ := hB.1
    refine W.know (fun hg => ?_)
    rw [hH0] at hg
    exact en_i hx hb hr hlocks hL rfl (Nat.zero_le _) (Nat.zero_le _) dX7_send_121 (⟨_, KX.rf, hT, hF, _, _, _, _, _, hMW, ⟨hg, GN.rf⟩, Or.inl ⟨rfl, rfl⟩⟩)
  · have c5067 : ¬ n5064 ≤ 0 := fun h9 => c5067 ((nI_leI (a := n5064) (b := 0) (by omega) (by omega)).mpr h9)
    refine lv_aload_n hx hb dX7_send_80 rfl (lv_at hl 2 rfl) ?_
    refine lv_iload_n hx hb dX7_send_81 rfl (lv_at hl 4 rfl) ?_
    refine lv_iload_n hx hb dX7_send_82 rfl (lv_at hl 5 rfl) ?_
    refine cv_i (As := [.int y, .int z]) (rest := []) (b := w) ⟨hx, hb, hml, hown, hts⟩ (c_X7_isCut hT (w := w) hw (x := y) (y := z)) (cwV 2 hts gX7_send_X7_isCut rfl rfl rfl hdX7_isCut_v ⟨Nat.le_of_ble_eq_true rfl, Nat.le_of_ble_eq_true rfl⟩) hN hE hL (rcv8 hN hT hw.1) rfl rfl hl.1 (Nat.le_of_ble_eq_true rfl) dX7_send_83 (Nat.zero_le _) (Nat.zero_le _) (fun r5069 H1 locs hL hqr5069 => ?_)
    obtain ⟨h9, hqr5069⟩ := hqr5069; replace h9 := h9.symm; subst h9
    rcases hqr5069 with rfl | rfl
    · refine lv_if_ne (tgt := 110) hx hb dX7_send_86 (by decide) (fun c9 => absurd (by decide) c9) (fun _ => ?_)
      refine lv_aload_n hx hb dX7_send_89 rfl (lv_at hl 2 rfl) ?_
      refine va_get (D := D) (ci := 7) (v := .ref (cs (400 + i))) (C := RX7) (T := TX7) (N := 16) hx hb hts iX7_send_7 hown hN.1 hP 1 rfl rfl 2 (by decide) (hts _ mX7_send_4) (fun _ h9 => h9) rfl dX7_send_90 ?_
      refine lv_aload_n hx hb dX7_send_93 rfl (lv_at hl 2 rfl) ?_
      refine va_get (D := D) (ci := 7) (v := .int f5058_7) (C := RX7) (T := TX7) (N := 16) hx hb hts iX7_send_7 hown hN.1 hP 1 rfl rfl 7 (by decide) (hts _ mX7_send_5) (fun _ h9 => h9) rfl dX7_send_94 ?_
      refine lv_iload hx hb dX7_send_97 (lv_at hl 0 rfl) ?_
      refine lv_iadd hx hb dX7_send_99 ?_
      refine lv_aload hx hb dX7_send_100 (lv_at hl 1 rfl) ?_
      have hmm : m15 (f5058_7 + (nI n5064)) = (tm + n5064) % 16 := m15_add ctm5058 ht16
      refine W.know (fun hgb => ?_)
      rw [hH0] at hgb
      refine cv_i (As := [.int (f5058_7 + (nI n5064)), .ref f5058_5]) (rest := []) (b := (cs (400 + i))) ⟨hx, hb, hml, hown, hts⟩ (c_X2_add hT (w := (cs (400 + i))) t5058_2 (x := (f5058_7 + (nI n5064))) (v := f5058_5) t5058_5 hMW.1 hMW.2.2.1 hcn hM9 (hP 0 _ rfl)) (cwV 2 hts gX7_send_X2_add rfl rfl rfl hdX2_add_v ⟨Nat.le_of_ble_eq_true rfl, Nat.le_of_ble_eq_true rfl⟩) hN hE hL (rcv3 hN hT t5058_2.1) rfl rfl hl.1 (Nat.le_of_ble_eq_true rfl) dX7_send_102 (show 0 + 1 ≤ 1 by omega) (show 0 + M ≤ M by omega) (fun r5070 H1 locs hL hqr5070 => ?_)
      obtain ⟨κr5070, hxr5070, hT1, hF1, hqr5070⟩ := hqr5070
      have hTo := hT
      have hwo := hw
      have hsuo := hsu
      have hF9 := hF1
      have hF := hF.tr (hF1.mono (by simp))
      have hT := hT1
      have hKF : KF κ κr5070 := hxr5070.f
      have hKX : KX κ κr5070 := hxr5070
      have hkw9 : κr5070 w = κ w := hxr5070 w (by rw [hw.1]; decide)
      rw [← hkw9] at hsu htm
      have t5058_5 := (hxr5070.f.t2 t5058_5 (by decide))
      have hw := (hxr5070.f.t2 hw (by decide))
      obtain ⟨c5071, l5072, w5073, k5074, n5075, m5076, L5077, g5078, (⟨rfl, a5079, b5080, d5081, u5082, v5083⟩ | ⟨rfl, p5084⟩)⟩ := hqr5070
      · have hMW := hMW.mb hTo hwo hsuo hF9 (by first | (simp; done) | (simp [h15a, h15b, h15c]; done) | (simp; omega) | omega) m5076 L5077
        have a5079 := (a5079).symm
        have b5080 := (b5080).symm
        have d5081 := (d5081).symm
        subst a5079 b5080 d5081 u5082 v5083
        have hGP := (show GP H0 _ ln ln 0 0 from ⟨hgb, GN.rf⟩).tr g5078
        refine W.tight (k := 0) (n := 0) (by rw [hH0]; exact hGP.1) ?_
        refine lv_if_eq (tgt := 110) hx hb dX7_send_105 (by decide) (fun _ => ?_) (fun c9 => absurd (by decide) c9)
        refine lv_aload_n hx hb dX7_send_110 rfl (lv_at hl 2 rfl) ?_
        refine lv_dup hx hb dX7_send_111 rfl ?_
        obtain ⟨hb5085, e5085, hat5085, hk5085⟩ := hT.o8 hw.1
        obtain ⟨f5085_0, f5085_1, f5085_2, f5085_3, f5085_4, f5085_5, f5085_6, f5085_7, f5085_8, f5085_9, f5085_10, f5085_11, f5085_12, f5085_13, f5085_14, f5085_15, rfl, t5085_0, c5085_su, t5085_1, t5085_2, t5085_3, t5085_4, t5085_5, c5085_tm, c5085_lt, c5085_ml, c5085_pr, c5085_li⟩ := hk5085
        rw [hw.2] at t5085_1
        rw [hw.2] at t5085_2
        rw [hw.2] at t5085_3
        rw [hw.2] at t5085_4
        rw [hw.2] at t5085_5
        rw [hw.2] at c5085_lt c5085_ml c5085_pr c5085_li
        subst c5085_ml
        subst c5085_pr
        subst c5085_li
        have esu5085 := (c5085_su.trans hsu).symm
        subst esu5085
        have ctm5085 : f5085_7 &&& 15 = nI tm := by rw [c5085_tm, htm]
        have hP : va_P D vwCl [(w, .inr (7, [.ref su, .ref f5085_1, .ref (cs (400 + i)), .ref (cs (420 + i)), .ref (cs (460 + i)), .ref f5085_5, .long f5085_6, .int f5085_7, .int f5085_8, .int f5085_9, .int f5085_10, .int f5085_11, .int f5085_12, .int f5085_13, .int f5085_14, .int f5085_15]))] _ := va_P.cons hat5085 va_P.nil
        refine va_get (D := D) (ci := 7) (v := .int f5085_10) (C := RX7) (T := TX7) (N := 16) hx hb hts iX7_send_7 hown hN.1 hP 0 rfl rfl 10 (by decide) (hts _ mX7_send_6) (fun _ h9 => h9) rfl dX7_send_112 ?_
        refine lv_iconst (v := 1) hx hb dX7_send_115 (by decide) ?_
        refine lv_iadd hx hb dX7_send_116 ?_
        refine gn_i (fun x5086 => ?_)
        have hB : Bx B0 D _ [(w, .inr (7, [.ref su, .ref f5085_1, .ref (cs (400 + i)), .ref (cs (420 + i)), .ref (cs (460 + i)), .ref f5085_5, .long f5085_6, .int f5085_7, .int f5085_8, .int f5085_9, .int f5085_10, .int f5085_11, .int f5085_12, .int f5085_13, .int f5085_14, .int f5085_15]))] [] _ _ := Bx.of (fun a => (κr5070 a).1) hL hP (fa_c hb5085 fa_n) (by simp only [List.map_cons, List.map_nil, hw.1]; decide)
        refine b_put (D := D) (ci := 7) (v := .int x5086) (ty := .int) (C := RX7) (T := TX7) (N := 16) hx hb hts iX7_send_7 tyX7 tyX7_ok nmX7 hown hN hB 0 rfl rfl 10 (by decide) (hts _ mX7_send_6) (fun _ h9 => h9) rfl (by decide +kernel) rfl rfl (Nat.le_of_ble_eq_true rfl) (.inl rfl) dX7_send_117 (fun H locs hB => ?_)
        have hB : Bx B0 D _ [(w, .inr (7, [.ref su, .ref f5085_1, .ref (cs (400 + i)), .ref (cs (420 + i)), .ref (cs (460 + i)), .ref f5085_5, .long f5085_6, .int f5085_7, .int f5085_8, .int f5085_9, .int x5086, .int f5085_11, .int f5085_12, .int f5085_13, .int f5085_14, .int f5085_15]))] [w] _ _ := hB
        refine lv_iconst (v := 0) hx hb dX7_send_120 (by decide) ?_
        have hMW := hMW.fr hT hw hsu (Fr.close (S := [i]) Fr.rf hB (fa_c (by simp [hw.2]) fa_n)) (by first | (simp; done) | (simp [h15a, h15b, h15c]; done) | (simp; omega) | omega) (by first | (simp; done) | (simp [h15a, h15b, h15c]; done) | (simp; omega) | omega)
        have hT : WT B0 D cs T κr5070 _ := hT.close hB ⟨⟨0, _, rfl, ok_8 hw.1 ⟨_, _, _, _, _, _, _, _, _, _, _, _, _, _, _, _, rfl, t5085_0, c5085_su, ⟨t5085_1.1, by rw [hw.2]; exact t5085_1.2⟩, ⟨t5085_2.1, by rw [hw.2]; exact t5085_2.2⟩, ⟨t5085_3.1, by rw [hw.2]; exact t5085_3.2⟩, ⟨t5085_4.1, by rw [hw.2]; exact t5085_4.2⟩, ⟨t5085_5.1, by rw [hw.2]; exact t5085_5.2⟩, c5085_tm, (by rw [hw.2]; omega), (by first | rw [hw.2] | (dsimp only; rw [hw.2])), (by first | rw [hw.2] | (dsimp only; rw [hw.2])), (by first | rw [hw.2] | (dsimp only; rw [hw.2]))⟩⟩, trivial⟩
        have hF : Fr B0 [i, i + 20] κ H0 _ := hF.closeN hB (fa_c (fun h9 => by rw [← (hKF _ h9).2, hw.2]; simp) fa_n)
        have hL : OkL B0 _ := hB.2.2.2.2.2
        have hP : va_P D vwCl [(w, .inr (7, [.ref su, .ref f5085_1, .ref (cs (400 + i)), .ref (cs (420 + i)), .ref (cs (460 + i)), .ref f5085_5, .long f5085_6, .int f5085_7, .int f5085_8, .int f5085_9, .int x5086, .int f5085_11, .int f5085_12, .int f5085_13, .int f5085_14, .int f5085_15]))] _ := hB.1
        refine W.know (fun hg => ?_)
        rw [hH0] at hg
        exact en_i hx hb hr hlocks hL rfl (Nat.zero_le _) (Nat.zero_le _) dX7_send_121 (⟨_, hKX, hT, hF, _, _, _, _, _, hMW, ⟨hg, GN.rf⟩, Or.inl ⟨rfl, rfl⟩⟩)
      · have hMW := hMW.mb hTo hwo hsuo hF9 (by first | (simp; done) | (simp [h15a, h15b, h15c]; done) | (simp; omega) | omega) m5076 L5077
        have hGP := (show GP H0 _ ln ln 0 0 from ⟨hgb, GN.rf⟩).tr g5078
        rw [hmm] at p5084
        refine lv_if_eq (tgt := 110) hx hb dX7_send_105 (by decide) (fun c9 => absurd c9 (by decide)) (fun _ => ?_)
        refine lv_iconst (v := 1) hx hb dX7_send_108 (by decide) ?_
        refine W.know (fun hg => ?_)
        rw [hH0] at hg
        exact en_i hx hb hr hlocks hL rfl (show 0 + 1 ≤ 1 by omega) (show (0 + M) ≤ M by omega) dX7_send_109 (⟨_, hKX, hT, hF, _, _, _, _, _, hMW, hGP, Or.inr (by rw [hdl, nI_clamp (by omega)]; exact p5084)⟩)
    · refine lv_if_ne (tgt := 110) hx hb dX7_send_86 (by decide) (fun _ => ?_) (fun c9 => absurd c9 (by decide))
      refine lv_aload_n hx hb dX7_send_110 rfl (lv_at hl 2 rfl) ?_
      refine lv_dup hx hb dX7_send_111 rfl ?_
      refine va_get (D := D) (ci := 7) (v := .int f5058_10) (C := RX7) (T := TX7) (N := 16) hx hb hts iX7_send_7 hown hN.1 hP 1 rfl rfl 10 (by decide) (hts _ mX7_send_6) (fun _ h9 => h9) rfl dX7_send_112 ?_
      refine lv_iconst (v := 1) hx hb dX7_send_115 (by decide) ?_
      refine lv_iadd hx hb dX7_send_116 ?_
      refine gn_i (fun x5087 => ?_)
      have hB : Bx B0 D _ [(f5058_5, .inr (1, [.int x, .int y, .int z, .int f5058_9, .int u, .int v, .int t])), (w, .inr (7, [.ref su, .ref f5058_1, .ref (cs (400 + i)), .ref (cs (420 + i)), .ref (cs (460 + i)), .ref f5058_5, .long f5058_6, .int f5058_7, .int f5058_8, .int x5060, .int f5058_10, .int f5058_11, .int f5058_12, .int f5058_13, .int f5058_14, .int f5058_15]))] [] _ _ := Bx.of (fun a => (κ a).1) hL hP (fa_c hb5059 (fa_c hb5058 fa_n)) (by simp only [List.map_cons, List.map_nil, t5058_5.1, hw.1]; decide)
      refine b_put (D := D) (ci := 7) (v := .int x5087) (ty := .int) (C := RX7) (T := TX7) (N := 16) hx hb hts iX7_send_7 tyX7 tyX7_ok nmX7 hown hN hB 1 rfl rfl 10 (by decide) (hts _ mX7_send_6) (fun _ h9 => h9) rfl (by decide +kernel) rfl rfl (Nat.le_of_ble_eq_true rfl) (.inl rfl) dX7_send_117 (fun H locs hB => ?_)
      have hB : Bx B0 D _ [(f5058_5, .inr (1, [.int x, .int y, .int z, .int f5058_9, .int u, .int v, .int t])), (w, .inr (7, [.ref su, .ref f5058_1, .ref (cs (400 + i)), .ref (cs (420 + i)), .ref (cs (460 + i)), .ref f5058_5, .long f5058_6, .int f5058_7, .int f5058_8, .int x5060, .int x5087, .int f5058_11, .int f5058_12, .int f5058_13, .int f5058_14, .int f5058_15]))] [w] _ _ := hB
      refine lv_iconst (v := 0) hx hb dX7_send_120 (by decide) ?_
      have hMW := hMW.fr hT hw hsu (Fr.close (S := [i]) Fr.rf hB (fa_c (by simp [hw.2]) fa_n)) (by first | (simp; done) | (simp [h15a, h15b, h15c]; done) | (simp; omega) | omega) (by first | (simp; done) | (simp [h15a, h15b, h15c]; done) | (simp; omega) | omega)
      have hT : WT B0 D cs T κ _ := hT.close hB ⟨⟨1, _, rfl, ok_8 hw.1 ⟨_, _, _, _, _, _, _, _, _, _, _, _, _, _, _, _, rfl, t5058_0, c5058_su, ⟨t5058_1.1, by rw [hw.2]; exact t5058_1.2⟩, ⟨t5058_2.1, by rw [hw.2]; exact t5058_2.2⟩, ⟨t5058_3.1, by rw [hw.2]; exact t5058_3.2⟩, ⟨t5058_4.1, by rw [hw.2]; exact t5058_4.2⟩, ⟨t5058_5.1, by rw [hw.2]; exact t5058_5.2⟩, c5058_tm, (by rw [hw.2]; omega), (by first | rw [hw.2] | (dsimp only; rw [hw.2])), (by first | rw [hw.2] | (dsimp only; rw [hw.2])), (by first | rw [hw.2] | (dsimp only; rw [hw.2]))⟩⟩, trivial⟩
      have hF : Fr B0 [i, i + 20] κ H0 _ := hF.close hB (fa_c (by simp [hw.2]) fa_n)
      have hL : OkL B0 _ := hB.2.2.2.2.2
      have hP : va_P D vwCl [(f5058_5, .inr (1, [.int x, .int y, .int z, .int f5058_9, .int u, .int v, .int t])), (w, .inr (7, [.ref su, .ref f5058_1, .ref (cs (400 + i)), .ref (cs (420 + i)), .ref (cs (460 + i)), .ref f5058_5, .long f5058_6, .int f5058_7, .int f5058_8, .int x5060, .int x5087, .int f5058_11, .int f5058_12, .int f5058_13, .int f5058_14, .int f5058_15]))] _ := hB.1
      refine W.know (fun hg => ?_)
      rw [hH0] at hg
      exact en_i hx hb hr hlocks hL rfl (Nat.zero_le _) (Nat.zero_le _) dX7_send_121 (⟨_, KX.rf, hT, hF, _, _, _, _, _, hMW, ⟨hg, GN.rf⟩, Or.inl ⟨rfl, rfl⟩⟩)
theorem mX7_sendToOthers_1 : (.fieldLink RX7 52 "OneBeat$World" "setup" "LOneBeat$Setup;" : Cond) ∈ wsX7_sendToOthers := List.mem_of_getElem? (i := 1) (by decide +kernel)
theorem iX7_sendToOthers_7 : ∀ w ∈ wsX70, w ∈ wsX7_sendToOthers := fun w h => List.mem_of_mem_drop (List.mem_of_mem_take ((show wsX70 = (wsX7_sendToOthers.drop 46).take 16 by decide +kernel) ▸ h))
theorem iX7_sendToOthers_6 : ∀ w ∈ wsX60, w ∈ wsX7_sendToOthers := fun w h => List.mem_of_mem_drop (List.mem_of_mem_take ((show wsX60 = (wsX7_sendToOthers.drop 62).take 8 by decide +kernel) ▸ h))
theorem mX7_sendToOthers_2 : (.fieldLink RX7 27 "OneBeat$World" "latest" "LOneBeat$Proposal;" : Cond) ∈ wsX7_sendToOthers := List.mem_of_getElem? (i := 2) (by decide +kernel)
theorem iX7_sendToOthers_4 : ∀ w ∈ wsX40, w ∈ wsX7_sendToOthers := fun w h => List.mem_of_mem_drop (List.mem_of_mem_take ((show wsX40 = (wsX7_sendToOthers.drop 70).take 8 by decide +kernel) ▸ h))
theorem mX7_sendToOthers_3 : (.fieldLink RX7 77 "OneBeat$World" "made" "I" : Cond) ∈ wsX7_sendToOthers := List.mem_of_getElem? (i := 3) (by decide +kernel)
theorem hdX7_send_v : yX7_send.cls = RX7 ∧ yX7_send.cls ≠ "java/lang/invoke/MethodHandle" ∧ yX7_send.cls ≠ "java/lang/invoke/VarHandle" ∧ (parseMethodDescriptor yX7_send.desc).map (fun d => d.parameters.length) = some 6 := by decide +kernel
set_option maxHeartbeats 4000000 in
set_option maxRecDepth 100000 in
theorem c_X7_sendToOthers_d1 {l : Launch} {D : va_G} {cs : Nat → ClassId} {B0 T : Nat} {κ : KM} {H0 : Heap} (hT : WT B0 D cs T κ H0) {w i : Nat} (hw : T2 κ w 8 i) {x : Int32} {C cn ln : Nat → Nat} {rw9 : Nat → Nat → Int32} {dl : Nat → Int32} {su tm : Nat} (hsu : (κ w).2.2.1 = su) (htm : (κ w).2.2.2 = tm) (hMW : MW D cs H0 i su tm C cn ln rw9 dl) (hk9 : ¬ (x = 0 ∨ x = 2)) {q0 pl : Nat} (hbo : EE C dl cn rw9 q0 pl + 8 ≤ 24) : KC l yX7_sendToOthers wsX7_sendToOthers 3 113 ((56 * sumN C 16 + 22407 - 2 * sumN ln 16) / 35) (56 * sumN C 16 + 22407 - 2 * sumN ln 16) D cs B0 H0 [.ref w, .int x] (Qv (fun H => ∃ κ1, KX κ κ1 ∧ WT B0 D cs T κ1 H ∧ Fr B0 [i, i + 20] κ H0 H ∧ ∃ cn1 ln1 rw1 k n, MW D cs H i su tm C cn1 ln1 rw1 dl ∧ GP H0 H ln ln1 k n ∧ EE C dl cn1 rw1 q0 pl ≤ EE C dl cn rw9 q0 pl + 8 ∧ ∀ q, q < 16 → cn q ≤ cn1 q)) := by
  refine KC.of cX7_sendToOthers 3 none (by decide) rfl (Nat.le_of_ble_eq_true rfl) ?_
  intro p e s m below meth c ls hx hb hr hml hown hts hlocks hin hN hE hH0 hl
  have hown : s.vm.findClass RX7 = some m.cls := hown
  have hl : lv_has ls 3 [(0, .ref w), (1, .int x)] := hl
  have hL : OkL B0 [] := OkL.nil
  have hF : Fr B0 [i, i + 20] κ H0 H0 := Fr.rf
  obtain ⟨hmk, hpr, hli, -, hi10⟩ := hT.ml hw
  have ht16 := hMW.2.2.2
  have h15a : ¬ 15 = i := by omega
  have h15b : ¬ 15 = i + 20 := by omega
  have h15c : ¬ 15 = i + 40 := by omega
  have hGN : GN ln ln 0 0 := GN.rf
  have hs0 := hMW.2.2.1.sum
  refine lv_iconst (v := 0) hx hb dX7_sendToOthers_0 (by decide) ?_
  refine lv_istore_n (lv' := [(2, .int 0), (0, .ref w), (1, .int x)]) hx hb dX7_sendToOthers_1 rfl hl (by decide) rfl (fun ls hl => ?_)
  refine W.know (fun hgb => ?_)
  rw [hH0] at hgb
  refine W.widen (k := ((56 * sumN C 16 + 22407 - 2 * sumN ln 16) / 35)) (n := (56 * sumN C 16 + 22407 - 2 * sumN ln 16)) (Nat.zero_le _) (Nat.zero_le _) ?_
  refine lp_m (α := Nat × KM × (Nat → Nat) × (Nat → Nat) × (Nat → Nat → Int32) × Nat × Nat) (nL := 3) (fun a9 => 8 - a9.1) (fun a9 H9 l9 => (a9.1 ≤ 8) ∧ (KX κ a9.2.1) ∧ (T2 a9.2.1 w 8 i) ∧ ((a9.2.1 w).2.2.1 = su) ∧ ((a9.2.1 w).2.2.2 = tm) ∧ (MW D cs H9 i su tm C a9.2.2.1 a9.2.2.2.1 a9.2.2.2.2.1 dl) ∧ (EE C dl a9.2.2.1 a9.2.2.2.2.1 q0 pl ≤ EE C dl cn rw9 q0 pl + 1 * a9.1) ∧ (Gr H0 H9 a9.2.2.2.2.2.1 a9.2.2.2.2.2.2) ∧ (GN ln a9.2.2.2.1 a9.2.2.2.2.2.1 a9.2.2.2.2.2.2) ∧ (∀ q, q < 16 → cn q ≤ a9.2.2.1 q) ∧ (WT B0 D cs T a9.2.1 H9) ∧ (Fr B0 [i, i + 20] κ H0 H9) ∧ (OkL B0 l9)) (fun a9 => [(2, .int (nI a9.1)), (0, .ref w), (1, .int x)]) ?_ (0, κ, cn, ln, rw9, 0, 0) _ _ _ ⟨(by show (0) ≤ 8; omega), KX.rf, hw, hsu, htm, hMW, (by show EE C dl (cn) (rw9) q0 pl ≤ EE C dl cn rw9 q0 pl + 1 * (0); omega), hgb, hGN, (fun _ _ => Nat.le_refl _), hT, hF, hL⟩ (lv_sub hl [0, 1, 2] rfl)
  rintro ⟨p, κ9, cn9, ln9, rw99, k9, n9⟩ H locs ls ih5088 ⟨hp, hKX, hw, hsu, htm, hMW, hEE, hGR, hGN, hmo, hT, hF, hL⟩ hl
  have hl : lv_has ls 3 [(2, .int (nI p)), (0, .ref w), (1, .int x)] := hl
  have hp : p ≤ 8 := hp
  have hKX : KX κ κ9 := hKX
  have hw : T2 κ9 w 8 i := hw
  have hsu : (κ9 w).2.2.1 = su := hsu
  have htm : (κ9 w).2.2.2 = tm := htm
  have hMW : MW D cs H i su tm C cn9 ln9 rw99 dl := hMW
  have hEE : EE C dl cn9 rw99 q0 pl ≤ EE C dl cn rw9 q0 pl + 1 * p := hEE
  have hGR : Gr H0 H k9 n9 := hGR
  have hGN : GN ln ln9 k9 n9 := hGN
  have hmo : ∀ q, q < 16 → cn q ≤ cn9 q := hmo
  have hT : WT B0 D cs T κ9 _ := hT
  have hKF := hKX.f
  refine W.tight (k := k9) (n := n9) (by rw [hH0]; exact hGR) ?_
  obtain ⟨hmk, hpr, hli, -, -⟩ := hT.ml hw
  have hg1 := hGN.1
  have hg2 := hGN.2
  have hs9 := hMW.2.2.1.sum
  refine lv_iload_n hx hb dX7_sendToOthers_2 rfl (lv_at hl 0 rfl) ?_
  refine lv_aload_n hx hb dX7_sendToOthers_3 rfl (lv_at hl 1 rfl) ?_
  obtain ⟨hb5089, e5089, hat5089, hk5089⟩ := hT.o8 hw.1
  obtain ⟨f5089_0, f5089_1, f5089_2, f5089_3, f5089_4, f5089_5, f5089_6, f5089_7, f5089_8, f5089_9, f5089_10, f5089_11, f5089_12, f5089_13, f5089_14, f5089_15, rfl, t5089_0, c5089_su, t5089_1, t5089_2, t5089_3, t5089_4, t5089_5, c5089_tm, c5089_lt, c5089_ml, c5089_pr, c5089_li⟩ := hk5089
  rw [hw.2] at t5089_1
  rw [hw.2] at t5089_2
  rw [hw.2] at t5089_3
  rw [hw.2] at t5089_4
  rw [hw.2] at t5089_5
  rw [hw.2] at c5089_lt c5089_ml c5089_pr c5089_li
  subst c5089_ml
  subst c5089_pr
  subst c5089_li
  have esu5089 := (c5089_su.trans hsu).symm
  subst esu5089
  have ctm5089 : f5089_7 &&& 15 = nI tm := by rw [c5089_tm, htm]
  have hP : va_P D vwCl [(w, .inr (7, [.ref su, .ref f5089_1, .ref (cs (400 + i)), .ref (cs (420 + i)), .ref (cs (460 + i)), .ref f5089_5, .long f5089_6, .int f5089_7, .int f5089_8, .int f5089_9, .int f5089_10, .int f5089_11, .int f5089_12, .int f5089_13, .int f5089_14, .int f5089_15]))] _ := va_P.cons hat5089 va_P.nil
  refine va_get (D := D) (ci := 7) (v := .ref su) (C := RX7) (T := TX7) (N := 16) hx hb hts iX7_sendToOthers_7 hown hN.1 hP 0 rfl rfl 0 (by decide) (hts _ mX7_sendToOthers_1) (fun _ h9 => h9) rfl dX7_sendToOthers_4 ?_
  obtain ⟨hb5090, e5090, hat5090, hk5090⟩ := hT.o7 t5089_0.1
  obtain ⟨f5090_0, f5090_1, f5090_2, f5090_3, f5090_4, f5090_5, f5090_6, f5090_7, rfl, c5090_0, c5090_3, c5090_mg, t5090_4, t5090_5, t5090_6, t5090_7⟩ := hk5090
  rw [t5089_0.2] at t5090_4
  rw [t5089_0.2] at t5090_5
  rw [t5089_0.2] at t5090_6
  rw [t5089_0.2] at t5090_7
  have hP : va_P D vwCl [(su, .inr (6, [.int (nI f5090_0), .int f5090_1, .int f5090_2, f5090_3, .ref f5090_4, .ref f5090_5, .ref f5090_6, .ref f5090_7])), (w, .inr (7, [.ref su, .ref f5089_1, .ref (cs (400 + i)), .ref (cs (420 + i)), .ref (cs (460 + i)), .ref f5089_5, .long f5089_6, .int f5089_7, .int f5089_8, .int f5089_9, .int f5089_10, .int f5089_11, .int f5089_12, .int f5089_13, .int f5089_14, .int f5089_15]))] _ := va_P.cons hat5090 hP
  refine va_getN (D := D) (ci := 6) (v := .int (nI f5090_0)) (C := RX6) (T := TX6) (N := 8) hx hb hts iX7_sendToOthers_6 hown hN.1 hP 0 rfl rfl 0 (by decide) (hN.f 39 rfl) (fun _ h9 => h9) rfl dX7_sendToOthers_7 ?_
  refine lv_icmp_ge (tgt := 64) hx hb dX7_sendToOthers_10 (by decide) (fun c5091 => ?_) (fun c5091 => ?_)
  · have c5091 : f5090_0 ≤ p := (nI_leI (a := f5090_0) (b := p) (by omega) (by omega)).mp c5091
    refine W.know (fun hg => ?_)
    rw [hH0] at hg
    exact en_v hx hb hr hlocks hL (show k9 ≤ ((56 * sumN C 16 + 22407 - 2 * sumN ln 16) / 35) by omega) (show n9 ≤ (56 * sumN C 16 + 22407 - 2 * sumN ln 16) by omega) dX7_sendToOthers_64 (⟨_, hKX, hT, hF, _, _, _, _, _, hMW, ⟨hg, hGN⟩, (by omega), hmo⟩)
  · have c5091 : ¬ f5090_0 ≤ p := fun h9 => c5091 ((nI_leI (a := f5090_0) (b := p) (by omega) (by omega)).mpr h9)
    refine lv_iload_n hx hb dX7_sendToOthers_13 rfl (lv_at hl 0 rfl) ?_
    refine lv_aload_n hx hb dX7_sendToOthers_14 rfl (lv_at hl 1 rfl) ?_
    refine va_get (D := D) (ci := 7) (v := .ref (cs (420 + i))) (C := RX7) (T := TX7) (N := 16) hx hb hts iX7_sendToOthers_7 hown hN.1 hP 1 rfl rfl 3 (by decide) (hts _ mX7_sendToOthers_2) (fun _ h9 => h9) rfl dX7_sendToOthers_15 ?_
    obtain ⟨hb5092, e5092, hat5092, hk5092⟩ := hT.o5 t5089_3.1
    obtain ⟨f5092_0, f5092_1, f5092_2, f5092_3, f5092_4, f5092_5, f5092_6, f5092_7, rfl, c5092⟩ := hk5092
    have hP : va_P D vwCl [((cs (420 + i)), .inr (4, [.int f5092_0, .int f5092_1, .int f5092_2, .int f5092_3, .int f5092_4, .int f5092_5, .int f5092_6, .int f5092_7])), (su, .inr (6, [.int (nI f5090_0), .int f5090_1, .int f5090_2, f5090_3, .ref f5090_4, .ref f5090_5, .ref f5090_6, .ref f5090_7])), (w, .inr (7, [.ref su, .ref f5089_1, .ref (cs (400 + i)), .ref (cs (420 + i)), .ref (cs (460 + i)), .ref f5089_5, .long f5089_6, .int f5089_7, .int f5089_8, .int f5089_9, .int f5089_10, .int f5089_11, .int f5089_12, .int f5089_13, .int f5089_14, .int f5089_15]))] _ := va_P.cons hat5092 hP
    refine va_getN (D := D) (ci := 4) (v := .int f5092_3) (C := RX4) (T := TX4) (N := 8) hx hb hts iX7_sendToOthers_4 hown hN.1 hP 0 rfl rfl 3 (by decide) (hN.f 9 rfl) (fun _ h9 => h9) rfl dX7_sendToOthers_18 ?_
    refine lv_icmp_eq (tgt := 58) hx hb dX7_sendToOthers_21 (by decide) (fun c5093 => ?_) (fun c5093 => ?_)
    · refine lv_iinc (v := (nI (p + 1))) (lv' := [(2, .int (nI (p + 1))), (0, .ref w), (1, .int x)]) hx hb dX7_sendToOthers_58 hl (k := 0) rfl (nI_add _ 1) (by decide) rfl (fun ls hl => ?_)
      refine lv_goto (tgt := 2) hx hb dX7_sendToOthers_61 (by decide) ?_
      refine W.know (fun hgb => ?_)
      rw [hH0] at hgb
      refine W.widen (k := ((56 * sumN C 16 + 22407 - 2 * sumN ln 16) / 35)) (n := (56 * sumN C 16 + 22407 - 2 * sumN ln 16)) (show k9 ≤ ((56 * sumN C 16 + 22407 - 2 * sumN ln 16) / 35) by omega) (show n9 ≤ (56 * sumN C 16 + 22407 - 2 * sumN ln 16) by omega) ?_
      exact ih5088 ((p + 1), κ9, cn9, ln9, rw99, k9, n9) _ _ _ (by show 8 - ((p + 1)) < 8 - p; omega) ⟨(by show ((p + 1)) ≤ 8; omega), hKX, hw, hsu, htm, hMW, (by show EE C dl (cn9) (rw99) q0 pl ≤ EE C dl cn rw9 q0 pl + 1 * ((p + 1)); omega), hgb, hGN, hmo, hT, hF, hL⟩ (lv_sub hl [0, 1, 2] rfl)
    · refine lv_aload_n hx hb dX7_sendToOthers_24 rfl (lv_at hl 1 rfl) ?_
      refine lv_iload_n hx hb dX7_sendToOthers_25 rfl (lv_at hl 2 rfl) ?_
      refine lv_aload_n hx hb dX7_sendToOthers_26 rfl (lv_at hl 1 rfl) ?_
      refine va_get (D := D) (ci := 7) (v := .ref (cs (420 + i))) (C := RX7) (T := TX7) (N := 16) hx hb hts iX7_sendToOthers_7 hown hN.1 hP 2 rfl rfl 3 (by decide) (hts _ mX7_sendToOthers_2) (fun _ h9 => h9) rfl dX7_sendToOthers_27 ?_
      refine va_getN (D := D) (ci := 4) (v := .int f5092_3) (C := RX4) (T := TX4) (N := 8) hx hb hts iX7_sendToOthers_4 hown hN.1 hP 0 rfl rfl 3 (by decide) (hN.f 9 rfl) (fun _ h9 => h9) rfl dX7_sendToOthers_30 ?_
      refine lv_iload_n hx hb dX7_sendToOthers_33 rfl (lv_at hl 0 rfl) ?_
      refine lv_aload_n hx hb dX7_sendToOthers_34 rfl (lv_at hl 1 rfl) ?_
      refine va_get (D := D) (ci := 7) (v := .int f5089_11) (C := RX7) (T := TX7) (N := 16) hx hb hts iX7_sendToOthers_7 hown hN.1 hP 2 rfl rfl 11 (by decide) (hts _ mX7_sendToOthers_3) (fun _ h9 => h9) rfl dX7_sendToOthers_35 ?_
      refine lv_iconst (v := 1) hx hb dX7_sendToOthers_38 (by decide) ?_
      refine lv_isub hx hb dX7_sendToOthers_39 ?_
      refine gn_i (fun x5094 => ?_)
      refine lv_aload_n hx hb dX7_sendToOthers_40 rfl (lv_at hl 1 rfl) ?_
      refine va_get (D := D) (ci := 7) (v := .ref (cs (420 + i))) (C := RX7) (T := TX7) (N := 16) hx hb hts iX7_sendToOthers_7 hown hN.1 hP 2 rfl rfl 3 (by decide) (hts _ mX7_sendToOthers_2) (fun _ h9 => h9) rfl dX7_sendToOthers_41 ?_
      refine va_getN (D := D) (ci := 4) (v := .int f5092_0) (C := RX4) (T := TX4) (N := 8) hx hb hts iX7_sendToOthers_4 hown hN.1 hP 0 rfl rfl 0 (by decide) (hN.f 5 rfl) (fun _ h9 => h9) rfl dX7_sendToOthers_44 ?_
      refine lv_aload_n hx hb dX7_sendToOthers_47 rfl (lv_at hl 1 rfl) ?_
      refine va_get (D := D) (ci := 7) (v := .ref (cs (420 + i))) (C := RX7) (T := TX7) (N := 16) hx hb hts iX7_sendToOthers_7 hown hN.1 hP 2 rfl rfl 3 (by decide) (hts _ mX7_sendToOthers_2) (fun _ h9 => h9) rfl dX7_sendToOthers_48 ?_
      refine va_getN (D := D) (ci := 4) (v := .int f5092_1) (C := RX4) (T := TX4) (N := 8) hx hb hts iX7_sendToOthers_4 hown hN.1 hP 0 rfl rfl 1 (by decide) (hN.f 7 rfl) (fun _ h9 => h9) rfl dX7_sendToOthers_51 ?_
      have hM9 : ∀ j, j < 16 → 2 * ln9 j + 7 ≤ 2 * sumN ln9 16 + 7 := fun j hj => by have := sumN_at (f := ln9) hj; omega
      have hcn := EE_cb (show EE C dl cn9 rw99 q0 pl ≤ 24 by omega)
      refine W.know (fun hgb => ?_)
      rw [hH0] at hgb
      refine cv_i (As := [.int x, .int f5092_3, .int (nI p), .int x5094, .int f5092_0, .int f5092_1]) (rest := []) (b := w) ⟨hx, hb, hml, hown, hts⟩ (c_X7_send hT (w := w) hw (x := x) (y := f5092_3) (z := (nI p)) (u := x5094) (v := f5092_0) (t := f5092_1) hsu htm hMW hcn hM9) (cwV 6 hts gX7_sendToOthers_X7_send rfl rfl rfl hdX7_send_v ⟨Nat.le_of_ble_eq_true rfl, Nat.le_of_ble_eq_true rfl⟩) hN hE hL (rcv8 hN hT hw.1) rfl rfl hl.1 (Nat.le_of_ble_eq_true rfl) dX7_sendToOthers_54 (show k9 + 1 ≤ ((56 * sumN C 16 + 22407 - 2 * sumN ln 16) / 35) by omega) (show n9 + (2 * sumN ln9 16 + 7) ≤ (56 * sumN C 16 + 22407 - 2 * sumN ln 16) by omega) (fun r5095 H1 locs hL hqr5095 => ?_)
      obtain ⟨κr5095, hxr5095, hT1, hF1, hqr5095⟩ := hqr5095
      have hTo := hT
      have hwo := hw
      have hsuo := hsu
      have hF9 := hF1
      have hF := hF.tr ((hF1.kf hKF).mono (by simp))
      have hT := hT1
      have hKF := hKF.tr hxr5095.f
      have hKX := hKX.tr hxr5095
      have hkw9 : κr5095 w = κ9 w := hxr5095 w (by rw [hw.1]; decide)
      rw [← hkw9] at hsu htm
      have hw := (hxr5095.f.t2 hw (by decide))
      obtain ⟨c5096, l5097, w5098, k5099, n5100, m5101, g5102, s5103⟩ := hqr5095
      have hMW := m5101
      obtain ⟨k5104, n5105, hGP⟩ : ∃ k9 n9, GP H0 _ ln l5097 k9 n9 := ⟨_, _, GP.tr (show GP H0 _ ln ln9 _ _ from ⟨hgb, hGN⟩) g5102⟩
      refine W.tight (k := k5104) (n := n5105) (by rw [hH0]; exact hGP.1) ?_
      have hGN : GN ln l5097 k5104 n5105 := hGP.2
      have hgk5104 := hGN.1
      have hgn5105 := hGN.2
      have hsk5104 := hMW.2.2.1.sum
      have hE1 := s5103.e1 (C := C) (dl := dl) (q0 := q0) (pl := pl) (Nat.mod_lt _ (by decide)) hk9
      have hmo : ∀ q, q < 16 → cn q ≤ c5096 q := fun q hq => Nat.le_trans (hmo q hq) (s5103.mono q hq)
      have hEE : EE C dl c5096 w5098 q0 pl ≤ EE C dl cn rw9 q0 pl + 1 * (p + 1) := by omega
      refine lv_pop hx hb dX7_sendToOthers_57 rfl ?_
      refine lv_iinc (v := (nI (p + 1))) (lv' := [(2, .int (nI (p + 1))), (0, .ref w), (1, .int x)]) hx hb dX7_sendToOthers_58 hl (k := 0) rfl (nI_add _ 1) (by decide) rfl (fun ls hl => ?_)
      refine lv_goto (tgt := 2) hx hb dX7_sendToOthers_61 (by decide) ?_
      refine W.know (fun hgb => ?_)
      rw [hH0] at hgb
      refine W.widen (k := ((56 * sumN C 16 + 22407 - 2 * sumN ln 16) / 35)) (n := (56 * sumN C 16 + 22407 - 2 * sumN ln 16)) (show k5104 ≤ ((56 * sumN C 16 + 22407 - 2 * sumN ln 16) / 35) by omega) (show n5105 ≤ (56 * sumN C 16 + 22407 - 2 * sumN ln 16) by omega) ?_
      exact ih5088 ((p + 1), κr5095, c5096, l5097, w5098, k5104, n5105) _ _ _ (by show 8 - ((p + 1)) < 8 - p; omega) ⟨(by show ((p + 1)) ≤ 8; omega), hKX, hw, hsu, htm, hMW, (by show EE C dl (c5096) (w5098) q0 pl ≤ EE C dl cn rw9 q0 pl + 1 * ((p + 1)); omega), hgb, hGN, hmo, hT, hF, hL⟩ (lv_sub hl [0, 1, 2] rfl)
set_option maxHeartbeats 4000000 in
set_option maxRecDepth 100000 in
theorem c_X7_sendToOthers_d2 {l : Launch} {D : va_G} {cs : Nat → ClassId} {B0 T : Nat} {κ : KM} {H0 : Heap} (hT : WT B0 D cs T κ H0) {w i : Nat} (hw : T2 κ w 8 i) {x : Int32} {C cn ln : Nat → Nat} {rw9 : Nat → Nat → Int32} {dl : Nat → Int32} {su tm : Nat} (hsu : (κ w).2.2.1 = su) (htm : (κ w).2.2.2 = tm) (hMW : MW D cs H0 i su tm C cn ln rw9 dl) {q0 pl : Nat} (hbo : EE C dl cn rw9 q0 pl + 16 ≤ 24) : KC l yX7_sendToOthers wsX7_sendToOthers 3 113 ((56 * sumN C 16 + 22407 - 2 * sumN ln 16) / 35) (56 * sumN C 16 + 22407 - 2 * sumN ln 16) D cs B0 H0 [.ref w, .int x] (Qv (fun H => ∃ κ1, KX κ κ1 ∧ WT B0 D cs T κ1 H ∧ Fr B0 [i, i + 20] κ H0 H ∧ ∃ cn1 ln1 rw1 k n, MW D cs H i su tm C cn1 ln1 rw1 dl ∧ GP H0 H ln ln1 k n ∧ EE C dl cn1 rw1 q0 pl ≤ EE C dl cn rw9 q0 pl + 16 ∧ ∀ q, q < 16 → cn q ≤ cn1 q)) := by
  refine KC.of cX7_sendToOthers 3 none (by decide) rfl (Nat.le_of_ble_eq_true rfl) ?_
  intro p e s m below meth c ls hx hb hr hml hown hts hlocks hin hN hE hH0 hl
  have hown : s.vm.findClass RX7 = some m.cls := hown
  have hl : lv_has ls 3 [(0, .ref w), (1, .int x)] := hl
  have hL : OkL B0 [] := OkL.nil
  have hF : Fr B0 [i, i + 20] κ H0 H0 := Fr.rf
  obtain ⟨hmk, hpr, hli, -, hi10⟩ := hT.ml hw
  have ht16 := hMW.2.2.2
  have h15a : ¬ 15 = i := by omega
  have h15b : ¬ 15 = i + 20 := by omega
  have h15c : ¬ 15 = i + 40 := by omega
  have hGN : GN ln ln 0 0 := GN.rf
  have hs0 := hMW.2.2.1.sum
  refine lv_iconst (v := 0) hx hb dX7_sendToOthers_0 (by decide) ?_
  refine lv_istore_n (lv' := [(2, .int 0), (0, .ref w), (1, .int x)]) hx hb dX7_sendToOthers_1 rfl hl (by decide) rfl (fun ls hl => ?_)
  refine W.know (fun hgb => ?_)
  rw [hH0] at hgb
  refine W.widen (k := ((56 * sumN C 16 + 22407 - 2 * sumN ln 16) / 35)) (n := (56 * sumN C 16 + 22407 - 2 * sumN ln 16)) (Nat.zero_le _) (Nat.zero_le _) ?_
  refine lp_m (α := Nat × KM × (Nat → Nat) × (Nat → Nat) × (Nat → Nat → Int32) × Nat × Nat) (nL := 3) (fun a9 => 8 - a9.1) (fun a9 H9 l9 => (a9.1 ≤ 8) ∧ (KX κ a9.2.1) ∧ (T2 a9.2.1 w 8 i) ∧ ((a9.2.1 w).2.2.1 = su) ∧ ((a9.2.1 w).2.2.2 = tm) ∧ (MW D cs H9 i su tm C a9.2.2.1 a9.2.2.2.1 a9.2.2.2.2.1 dl) ∧ (EE C dl a9.2.2.1 a9.2.2.2.2.1 q0 pl ≤ EE C dl cn rw9 q0 pl + 2 * a9.1) ∧ (Gr H0 H9 a9.2.2.2.2.2.1 a9.2.2.2.2.2.2) ∧ (GN ln a9.2.2.2.1 a9.2.2.2.2.2.1 a9.2.2.2.2.2.2) ∧ (∀ q, q < 16 → cn q ≤ a9.2.2.1 q) ∧ (WT B0 D cs T a9.2.1 H9) ∧ (Fr B0 [i, i + 20] κ H0 H9) ∧ (OkL B0 l9)) (fun a9 => [(2, .int (nI a9.1)), (0, .ref w), (1, .int x)]) ?_ (0, κ, cn, ln, rw9, 0, 0) _ _ _ ⟨(by show (0) ≤ 8; omega), KX.rf, hw, hsu, htm, hMW, (by show EE C dl (cn) (rw9) q0 pl ≤ EE C dl cn rw9 q0 pl + 2 * (0); omega), hgb, hGN, (fun _ _ => Nat.le_refl _), hT, hF, hL⟩ (lv_sub hl [0, 1, 2] rfl)
  rintro ⟨p, κ9, cn9, ln9, rw99, k9, n9⟩ H locs ls ih5106 ⟨hp, hKX, hw, hsu, htm, hMW, hEE, hGR, hGN, hmo, hT, hF, hL⟩ hl
  have hl : lv_has ls 3 [(2, .int (nI p)), (0, .ref w), (1, .int x)] := hl
  have hp : p ≤ 8 := hp
  have hKX : KX κ κ9 := hKX
  have hw : T2 κ9 w 8 i := hw
  have hsu : (κ9 w).2.2.1 = su := hsu
  have htm : (κ9 w).2.2.2 = tm := htm
  have hMW : MW D cs H i su tm C cn9 ln9 rw99 dl := hMW
  have hEE : EE C dl cn9 rw99 q0 pl ≤ EE C dl cn rw9 q0 pl + 2 * p := hEE
  have hGR : Gr H0 H k9 n9 := hGR
  have hGN : GN ln ln9 k9 n9 := hGN
  have hmo : ∀ q, q < 16 → cn q ≤ cn9 q := hmo
  have hT : WT B0 D cs T κ9 _ := hT
  have hKF := hKX.f
  refine W.tight (k := k9) (n := n9) (by rw [hH0]; exact hGR) ?_
  obtain ⟨hmk, hpr, hli, -, -⟩ := hT.ml hw
  have hg1 := hGN.1
  have hg2 := hGN.2
  have hs9 := hMW.2.2.1.sum
  refine lv_iload_n hx hb dX7_sendToOthers_2 rfl (lv_at hl 0 rfl) ?_
  refine lv_aload_n hx hb dX7_sendToOthers_3 rfl (lv_at hl 1 rfl) ?_
  obtain ⟨hb5107, e5107, hat5107, hk5107⟩ := hT.o8 hw.1
  obtain ⟨f5107_0, f5107_1, f5107_2, f5107_3, f5107_4, f5107_5, f5107_6, f5107_7, f5107_8, f5107_9, f5107_10, f5107_11, f5107_12, f5107_13, f5107_14, f5107_15, rfl, t5107_0, c5107_su, t5107_1, t5107_2, t5107_3, t5107_4, t5107_5, c5107_tm, c5107_lt, c5107_ml, c5107_pr, c5107_li⟩ := hk5107
  rw [hw.2] at t5107_1
  rw [hw.2] at t5107_2
  rw [hw.2] at t5107_3
  rw [hw.2] at t5107_4
  rw [hw.2] at t5107_5
  rw [hw.2] at c5107_lt c5107_ml c5107_pr c5107_li
  subst c5107_ml
  subst c5107_pr
  subst c5107_li
  have esu5107 := (c5107_su.trans hsu).symm
  subst esu5107
  have ctm5107 : f5107_7 &&& 15 = nI tm := by rw [c5107_tm, htm]
  have hP : va_P D vwCl [(w, .inr (7, [.ref su, .ref f5107_1, .ref (cs (400 + i)), .ref (cs (420 + i)), .ref (cs (460 + i)), .ref f5107_5, .long f5107_6, .int f5107_7, .int f5107_8, .int f5107_9, .int f5107_10, .int f5107_11, .int f5107_12, .int f5107_13, .int f5107_14, .int f5107_15]))] _ := va_P.cons hat5107 va_P.nil
  refine va_get (D := D) (ci := 7) (v := .ref su) (C := RX7) (T := TX7) (N := 16) hx hb hts iX7_sendToOthers_7 hown hN.1 hP 0 rfl rfl 0 (by decide) (hts _ mX7_sendToOthers_1) (fun _ h9 => h9) rfl dX7_sendToOthers_4 ?_
  obtain ⟨hb5108, e5108, hat5108, hk5108⟩ := hT.o7 t5107_0.1
  obtain ⟨f5108_0, f5108_1, f5108_2, f5108_3, f5108_4, f5108_5, f5108_6, f5108_7, rfl, c5108_0, c5108_3, c5108_mg, t5108_4, t5108_5, t5108_6, t5108_7⟩ := hk5108
  rw [t5107_0.2] at t5108_4
  rw [t5107_0.2] at t5108_5
  rw [t5107_0.2] at t5108_6
  rw [t5107_0.2] at t5108_7
  have hP : va_P D vwCl [(su, .inr (6, [.int (nI f5108_0), .int f5108_1, .int f5108_2, f5108_3, .ref f5108_4, .ref f5108_5, .ref f5108_6, .ref f5108_7])), (w, .inr (7, [.ref su, .ref f5107_1, .ref (cs (400 + i)), .ref (cs (420 + i)), .ref (cs (460 + i)), .ref f5107_5, .long f5107_6, .int f5107_7, .int f5107_8, .int f5107_9, .int f5107_10, .int f5107_11, .int f5107_12, .int f5107_13, .int f5107_14, .int f5107_15]))] _ := va_P.cons hat5108 hP
  refine va_getN (D := D) (ci := 6) (v := .int (nI f5108_0)) (C := RX6) (T := TX6) (N := 8) hx hb hts iX7_sendToOthers_6 hown hN.1 hP 0 rfl rfl 0 (by decide) (hN.f 39 rfl) (fun _ h9 => h9) rfl dX7_sendToOthers_7 ?_
  refine lv_icmp_ge (tgt := 64) hx hb dX7_sendToOthers_10 (by decide) (fun c5109 => ?_) (fun c5109 => ?_)
  · have c5109 : f5108_0 ≤ p := (nI_leI (a := f5108_0) (b := p) (by omega) (by omega)).mp c5109
    refine W.know (fun hg => ?_)
    rw [hH0] at hg
    exact en_v hx hb hr hlocks hL (show k9 ≤ ((56 * sumN C 16 + 22407 - 2 * sumN ln 16) / 35) by omega) (show n9 ≤ (56 * sumN C 16 + 22407 - 2 * sumN ln 16) by omega) dX7_sendToOthers_64 (⟨_, hKX, hT, hF, _, _, _, _, _, hMW, ⟨hg, hGN⟩, (by omega), hmo⟩)
  · have c5109 : ¬ f5108_0 ≤ p := fun h9 => c5109 ((nI_leI (a := f5108_0) (b := p) (by omega) (by omega)).mpr h9)
    refine lv_iload_n hx hb dX7_sendToOthers_13 rfl (lv_at hl 0 rfl) ?_
    refine lv_aload_n hx hb dX7_sendToOthers_14 rfl (lv_at hl 1 rfl) ?_
    refine va_get (D := D) (ci := 7) (v := .ref (cs (420 + i))) (C := RX7) (T := TX7) (N := 16) hx hb hts iX7_sendToOthers_7 hown hN.1 hP 1 rfl rfl 3 (by decide) (hts _ mX7_sendToOthers_2) (fun _ h9 => h9) rfl dX7_sendToOthers_15 ?_
    obtain ⟨hb5110, e5110, hat5110, hk5110⟩ := hT.o5 t5107_3.1
    obtain ⟨f5110_0, f5110_1, f5110_2, f5110_3, f5110_4, f5110_5, f5110_6, f5110_7, rfl, c5110⟩ := hk5110
    have hP : va_P D vwCl [((cs (420 + i)), .inr (4, [.int f5110_0, .int f5110_1, .int f5110_2, .int f5110_3, .int f5110_4, .int f5110_5, .int f5110_6, .int f5110_7])), (su, .inr (6, [.int (nI f5108_0), .int f5108_1, .int f5108_2, f5108_3, .ref f5108_4, .ref f5108_5, .ref f5108_6, .ref f5108_7])), (w, .inr (7, [.ref su, .ref f5107_1, .ref (cs (400 + i)), .ref (cs (420 + i)), .ref (cs (460 + i)), .ref f5107_5, .long f5107_6, .int f5107_7, .int f5107_8, .int f5107_9, .int f5107_10, .int f5107_11, .int f5107_12, .int f5107_13, .int f5107_14, .int f5107_15]))] _ := va_P.cons hat5110 hP
    refine va_getN (D := D) (ci := 4) (v := .int f5110_3) (C := RX4) (T := TX4) (N := 8) hx hb hts iX7_sendToOthers_4 hown hN.1 hP 0 rfl rfl 3 (by decide) (hN.f 9 rfl) (fun _ h9 => h9) rfl dX7_sendToOthers_18 ?_
    refine lv_icmp_eq (tgt := 58) hx hb dX7_sendToOthers_21 (by decide) (fun c5111 => ?_) (fun c5111 => ?_)
    · refine lv_iinc (v := (nI (p + 1))) (lv' := [(2, .int (nI (p + 1))), (0, .ref w), (1, .int x)]) hx hb dX7_sendToOthers_58 hl (k := 0) rfl (nI_add _ 1) (by decide) rfl (fun ls hl => ?_)
      refine lv_goto (tgt := 2) hx hb dX7_sendToOthers_61 (by decide) ?_
      refine W.know (fun hgb => ?_)
      rw [hH0] at hgb
      refine W.widen (k := ((56 * sumN C 16 + 22407 - 2 * sumN ln 16) / 35)) (n := (56 * sumN C 16 + 22407 - 2 * sumN ln 16)) (show k9 ≤ ((56 * sumN C 16 + 22407 - 2 * sumN ln 16) / 35) by omega) (show n9 ≤ (56 * sumN C 16 + 22407 - 2 * sumN ln 16) by omega) ?_
      exact ih5106 ((p + 1), κ9, cn9, ln9, rw99, k9, n9) _ _ _ (by show 8 - ((p + 1)) < 8 - p; omega) ⟨(by show ((p + 1)) ≤ 8; omega), hKX, hw, hsu, htm, hMW, (by show EE C dl (cn9) (rw99) q0 pl ≤ EE C dl cn rw9 q0 pl + 2 * ((p + 1)); omega), hgb, hGN, hmo, hT, hF, hL⟩ (lv_sub hl [0, 1, 2] rfl)
    · refine lv_aload_n hx hb dX7_sendToOthers_24 rfl (lv_at hl 1 rfl) ?_
      refine lv_iload_n hx hb dX7_sendToOthers_25 rfl (lv_at hl 2 rfl) ?_
      refine lv_aload_n hx hb dX7_sendToOthers_26 rfl (lv_at hl 1 rfl) ?_
      refine va_get (D := D) (ci := 7) (v := .ref (cs (420 + i))) (C := RX7) (T := TX7) (N := 16) hx hb hts iX7_sendToOthers_7 hown hN.1 hP 2 rfl rfl 3 (by decide) (hts _ mX7_sendToOthers_2) (fun _ h9 => h9) rfl dX7_sendToOthers_27 ?_
      refine va_getN (D := D) (ci := 4) (v := .int f5110_3) (C := RX4) (T := TX4) (N := 8) hx hb hts iX7_sendToOthers_4 hown hN.1 hP 0 rfl rfl 3 (by decide) (hN.f 9 rfl) (fun _ h9 => h9) rfl dX7_sendToOthers_30 ?_
      refine lv_iload_n hx hb dX7_sendToOthers_33 rfl (lv_at hl 0 rfl) ?_
      refine lv_aload_n hx hb dX7_sendToOthers_34 rfl (lv_at hl 1 rfl) ?_
      refine va_get (D := D) (ci := 7) (v := .int f5107_11) (C := RX7) (T := TX7) (N := 16) hx hb hts iX7_sendToOthers_7 hown hN.1 hP 2 rfl rfl 11 (by decide) (hts _ mX7_sendToOthers_3) (fun _ h9 => h9) rfl dX7_sendToOthers_35 ?_
      refine lv_iconst (v := 1) hx hb dX7_sendToOthers_38 (by decide) ?_
      refine lv_isub hx hb dX7_sendToOthers_39 ?_
      refine gn_i (fun x5112 => ?_)
      refine lv_aload_n hx hb dX7_sendToOthers_40 rfl (lv_at hl 1 rfl) ?_
      refine va_get (D := D) (ci := 7) (v := .ref (cs (420 + i))) (C := RX7) (T := TX7) (N := 16) hx hb hts iX7_sendToOthers_7 hown hN.1 hP 2 rfl rfl 3 (by decide) (hts _ mX7_sendToOthers_2) (fun _ h9 => h9) rfl dX7_sendToOthers_41 ?_
      refine va_getN (D := D) (ci := 4) (v := .int f5110_0) (C := RX4) (T := TX4) (N := 8) hx hb hts iX7_sendToOthers_4 hown hN.1 hP 0 rfl rfl 0 (by decide) (hN.f 5 rfl) (fun _ h9 => h9) rfl dX7_sendToOthers_44 ?_
      refine lv_aload_n hx hb dX7_sendToOthers_47 rfl (lv_at hl 1 rfl) ?_
      refine va_get (D := D) (ci := 7) (v := .ref (cs (420 + i))) (C := RX7) (T := TX7) (N := 16) hx hb hts iX7_sendToOthers_7 hown hN.1 hP 2 rfl rfl 3 (by decide) (hts _ mX7_sendToOthers_2) (fun _ h9 => h9) rfl dX7_sendToOthers_48 ?_
      refine va_getN (D := D) (ci := 4) (v := .int f5110_1) (C := RX4) (T := TX4) (N := 8) hx hb hts iX7_sendToOthers_4 hown hN.1 hP 0 rfl rfl 1 (by decide) (hN.f 7 rfl) (fun _ h9 => h9) rfl dX7_sendToOthers_51 ?_
      have hM9 : ∀ j, j < 16 → 2 * ln9 j + 7 ≤ 2 * sumN ln9 16 + 7 := fun j hj => by have := sumN_at (f := ln9) hj; omega
      have hcn := EE_cb (show EE C dl cn9 rw99 q0 pl ≤ 24 by omega)
      refine W.know (fun hgb => ?_)
      rw [hH0] at hgb
      refine cv_i (As := [.int x, .int f5110_3, .int (nI p), .int x5112, .int f5110_0, .int f5110_1]) (rest := []) (b := w) ⟨hx, hb, hml, hown, hts⟩ (c_X7_send hT (w := w) hw (x := x) (y := f5110_3) (z := (nI p)) (u := x5112) (v := f5110_0) (t := f5110_1) hsu htm hMW hcn hM9) (cwV 6 hts gX7_sendToOthers_X7_send rfl rfl rfl hdX7_send_v ⟨Nat.le_of_ble_eq_true rfl, Nat.le_of_ble_eq_true rfl⟩) hN hE hL (rcv8 hN hT hw.1) rfl rfl hl.1 (Nat.le_of_ble_eq_true rfl) dX7_sendToOthers_54 (show k9 + 1 ≤ ((56 * sumN C 16 + 22407 - 2 * sumN ln 16) / 35) by omega) (show n9 + (2 * sumN ln9 16 + 7) ≤ (56 * sumN C 16 + 22407 - 2 * sumN ln 16) by omega) (fun r5113 H1 locs hL hqr5113 => ?_)
      obtain ⟨κr5113, hxr5113, hT1, hF1, hqr5113⟩ := hqr5113
      have hTo := hT
      have hwo := hw
      have hsuo := hsu
      have hF9 := hF1
      have hF := hF.tr ((hF1.kf hKF).mono (by simp))
      have hT := hT1
      have hKF := hKF.tr hxr5113.f
      have hKX := hKX.tr hxr5113
      have hkw9 : κr5113 w = κ9 w := hxr5113 w (by rw [hw.1]; decide)
      rw [← hkw9] at hsu htm
      have hw := (hxr5113.f.t2 hw (by decide))
      obtain ⟨c5114, l5115, w5116, k5117, n5118, m5119, g5120, s5121⟩ := hqr5113
      have hMW := m5119
      obtain ⟨k5122, n5123, hGP⟩ : ∃ k9 n9, GP H0 _ ln l5115 k9 n9 := ⟨_, _, GP.tr (show GP H0 _ ln ln9 _ _ from ⟨hgb, hGN⟩) g5120⟩
      refine W.tight (k := k5122) (n := n5123) (by rw [hH0]; exact hGP.1) ?_
      have hGN : GN ln l5115 k5122 n5123 := hGP.2
      have hgk5122 := hGN.1
      have hgn5123 := hGN.2
      have hsk5122 := hMW.2.2.1.sum
      have hE1 := s5121.e2 (C := C) (dl := dl) (q0 := q0) (pl := pl) (Nat.mod_lt _ (by decide))
      have hmo : ∀ q, q < 16 → cn q ≤ c5114 q := fun q hq => Nat.le_trans (hmo q hq) (s5121.mono q hq)
      have hEE : EE C dl c5114 w5116 q0 pl ≤ EE C dl cn rw9 q0 pl + 2 * (p + 1) := by omega
      refine lv_pop hx hb dX7_sendToOthers_57 rfl ?_
      refine lv_iinc (v := (nI (p + 1))) (lv' := [(2, .int (nI (p + 1))), (0, .ref w), (1, .int x)]) hx hb dX7_sendToOthers_58 hl (k := 0) rfl (nI_add _ 1) (by decide) rfl (fun ls hl => ?_)
      refine lv_goto (tgt := 2) hx hb dX7_sendToOthers_61 (by decide) ?_
      refine W.know (fun hgb => ?_)
      rw [hH0] at hgb
      refine W.widen (k := ((56 * sumN C 16 + 22407 - 2 * sumN ln 16) / 35)) (n := (56 * sumN C 16 + 22407 - 2 * sumN ln 16)) (show k5122 ≤ ((56 * sumN C 16 + 22407 - 2 * sumN ln 16) / 35) by omega) (show n5123 ≤ (56 * sumN C 16 + 22407 - 2 * sumN ln 16) by omega) ?_
      exact ih5106 ((p + 1), κr5113, c5114, l5115, w5116, k5122, n5123) _ _ _ (by show 8 - ((p + 1)) < 8 - p; omega) ⟨(by show ((p + 1)) ≤ 8; omega), hKX, hw, hsu, htm, hMW, (by show EE C dl (c5114) (w5116) q0 pl ≤ EE C dl cn rw9 q0 pl + 2 * ((p + 1)); omega), hgb, hGN, hmo, hT, hF, hL⟩ (lv_sub hl [0, 1, 2] rfl)
theorem mX4_begin_1 : (.fieldLink RX4 9 "OneBeat$Proposal" "outcome" "I" : Cond) ∈ wsX4_begin := List.mem_of_getElem? (i := 1) (by decide +kernel)
theorem iX4_begin_4 : ∀ w ∈ wsX40, w ∈ wsX4_begin := fun w h => List.mem_of_mem_drop (List.mem_of_mem_take ((show wsX40 = (wsX4_begin.drop 3).take 8 by decide +kernel) ▸ h))
theorem mX4_begin_2 : (.fieldLink RX4 13 "OneBeat$Proposal" "firstChange" "I" : Cond) ∈ wsX4_begin := List.mem_of_getElem? (i := 2) (by decide +kernel)
set_option maxHeartbeats 4000000 in
set_option maxRecDepth 100000 in
theorem c_X4_begin {l : Launch} {D : va_G} {cs : Nat → ClassId} {B0 T : Nat} {κ : KM} {H0 : Heap} (hT : WT B0 D cs T κ H0) {w i : Nat} (hw : T2 κ w 5 i) : KC l yX4_begin wsX4_begin 0 0 0 0 D cs B0 H0 [.ref w] (Qv (fun H => WT B0 D cs T (kp κ w 1 (κ w).2.2.2) H ∧ Fr B0 [i] κ H0 H)) := by
  refine KC.of cX4_begin 1 none (by decide) rfl (Nat.le_of_ble_eq_true rfl) ?_
  intro p e s m below meth c ls hx hb hr hml hown hts hlocks hin hN hE hH0 hl
  have hown : s.vm.findClass RX4 = some m.cls := hown
  have hl : lv_has ls 1 [(0, .ref w)] := hl
  have hL : OkL B0 [] := OkL.nil
  have hF : Fr B0 [i] κ H0 H0 := Fr.rf
  refine lv_aload_n hx hb dX4_begin_0 rfl (lv_at hl 0 rfl) ?_
  refine lv_iconst (v := 3) hx hb dX4_begin_1 (by decide) ?_
  obtain ⟨hb5124, e5124, hat5124, hk5124⟩ := hT.o5 hw.1
  obtain ⟨f5124_0, f5124_1, f5124_2, f5124_3, f5124_4, f5124_5, f5124_6, f5124_7, rfl, c5124⟩ := hk5124
  have hP : va_P D vwCl [(w, .inr (4, [.int f5124_0, .int f5124_1, .int f5124_2, .int f5124_3, .int f5124_4, .int f5124_5, .int f5124_6, .int f5124_7]))] _ := va_P.cons hat5124 va_P.nil
  have hB : Bx B0 D _ [(w, .inr (4, [.int f5124_0, .int f5124_1, .int f5124_2, .int f5124_3, .int f5124_4, .int f5124_5, .int f5124_6, .int f5124_7]))] [] _ _ := Bx.of (fun a => (κ a).1) hL hP (fa_c hb5124 fa_n) (by simp only [List.map_cons, List.map_nil, hw.1]; decide)
  refine b_put (D := D) (ci := 4) (v := .int 3) (ty := .int) (C := RX4) (T := TX4) (N := 8) hx hb hts iX4_begin_4 tyX4 tyX4_ok nmX4 hown hN hB 0 rfl rfl 5 (by decide) (hts _ mX4_begin_1) (fun _ h9 => h9) rfl (by decide +kernel) rfl rfl (Nat.le_of_ble_eq_true rfl) (.inl rfl) dX4_begin_2 (fun H locs hB => ?_)
  have hB : Bx B0 D _ [(w, .inr (4, [.int f5124_0, .int f5124_1, .int f5124_2, .int f5124_3, .int f5124_4, .int 3, .int f5124_6, .int f5124_7]))] [w] _ _ := hB
  refine lv_aload_n hx hb dX4_begin_5 rfl (lv_at hl 0 rfl) ?_
  refine lv_iconst (v := (-1)) hx hb dX4_begin_6 (by decide) ?_
  refine b_put (D := D) (ci := 4) (v := .int (-1)) (ty := .int) (C := RX4) (T := TX4) (N := 8) hx hb hts iX4_begin_4 tyX4 tyX4_ok nmX4 hown hN hB 0 rfl rfl 6 (by decide) (hts _ mX4_begin_2) (fun _ h9 => h9) rfl (by decide +kernel) rfl rfl (Nat.le_of_ble_eq_true rfl) (.inr ⟨rfl, List.mem_of_getElem? (i := 0) rfl⟩) dX4_begin_7 (fun H locs hB => ?_)
  have hB : Bx B0 D _ [(w, .inr (4, [.int f5124_0, .int f5124_1, .int f5124_2, .int f5124_3, .int f5124_4, .int 3, .int (-1), .int f5124_7]))] [w] _ _ := hB
  have hF : Fr B0 [i] κ H0 _ := hF.close hB (fa_c (by simp [hw.2]) fa_n)
  have hT : WT B0 D cs T (kp κ w 1 (κ w).2.2.2) _ := hT.closeK w 1 (κ w).2.2.2 hB (by rw [hw.1]; decide) (by rw [hw.1]; decide) (List.mem_of_getElem? (i := 0) rfl) ⟨⟨0, _, rfl, kp_ok (ok_5 (k := ((κ w).1, (κ w).2.1, _, _)) hw.1 ⟨_, _, _, _, _, _, _, _, rfl, ⟨fun h9 => absurd h9 (by decide), fun h9 => absurd (show (1 : Nat) = 0 from h9) (by decide)⟩⟩)⟩, trivial⟩
  have hL : OkL B0 _ := hB.2.2.2.2.2
  exact en_v hx hb hr hlocks hL (Nat.zero_le _) (Nat.zero_le _) dX4_begin_10 (⟨hT, hF⟩)
theorem mX4_start_1 : (.fieldLink RX4 16 "OneBeat$Proposal" "song" "I" : Cond) ∈ wsX4_start := List.mem_of_getElem? (i := 1) (by decide +kernel)
theorem iX4_start_4 : ∀ w ∈ wsX40, w ∈ wsX4_start := fun w h => List.mem_of_mem_drop (List.mem_of_mem_take ((show wsX40 = (wsX4_start.drop 8).take 8 by decide +kernel) ▸ h))
theorem mX4_start_2 : (.fieldLink RX4 19 "OneBeat$Proposal" "beat" "I" : Cond) ∈ wsX4_start := List.mem_of_getElem? (i := 2) (by decide +kernel)
theorem mX4_start_3 : (.fieldLink RX4 22 "OneBeat$Proposal" "deadline" "I" : Cond) ∈ wsX4_start := List.mem_of_getElem? (i := 3) (by decide +kernel)
theorem mX4_start_4 : (.fieldLink RX4 25 "OneBeat$Proposal" "sender" "I" : Cond) ∈ wsX4_start := List.mem_of_getElem? (i := 4) (by decide +kernel)
theorem mX4_start_5 : (.fieldLink RX4 28 "OneBeat$Proposal" "votes" "I" : Cond) ∈ wsX4_start := List.mem_of_getElem? (i := 5) (by decide +kernel)
theorem mX4_start_6 : (.fieldLink RX4 9 "OneBeat$Proposal" "outcome" "I" : Cond) ∈ wsX4_start := List.mem_of_getElem? (i := 6) (by decide +kernel)
theorem mX4_start_7 : (.fieldLink RX4 13 "OneBeat$Proposal" "firstChange" "I" : Cond) ∈ wsX4_start := List.mem_of_getElem? (i := 7) (by decide +kernel)
set_option maxHeartbeats 4000000 in
set_option maxRecDepth 100000 in
theorem c_X4_start {l : Launch} {D : va_G} {cs : Nat → ClassId} {B0 T : Nat} {κ : KM} {H0 : Heap} (hT : WT B0 D cs T κ H0) {w i : Nat} (hw : T2 κ w 5 i) {x : Int32} {y : Int32} {z : Int32} {u : Int32} : KC l yX4_start wsX4_start 0 0 0 0 D cs B0 H0 [.ref w, .int x, .int y, .int z, .int u] (Qv (fun H => WT B0 D cs T (kp κ w 0 (κ w).2.2.2) H ∧ Fr B0 [i] κ H0 H)) := by
  refine KC.of cX4_start 5 none (by decide) rfl (Nat.le_of_ble_eq_true rfl) ?_
  intro p e s m below meth c ls hx hb hr hml hown hts hlocks hin hN hE hH0 hl
  have hown : s.vm.findClass RX4 = some m.cls := hown
  have hl : lv_has ls 5 [(0, .ref w), (1, .int x), (2, .int y), (3, .int z), (4, .int u)] := hl
  have hL : OkL B0 [] := OkL.nil
  have hF : Fr B0 [i] κ H0 H0 := Fr.rf
  refine lv_aload_n hx hb dX4_start_0 rfl (lv_at hl 0 rfl) ?_
  refine lv_iload_n hx hb dX4_start_1 rfl (lv_at hl 1 rfl) ?_
  obtain ⟨hb5125, e5125, hat5125, hk5125⟩ := hT.o5 hw.1
  obtain ⟨f5125_0, f5125_1, f5125_2, f5125_3, f5125_4, f5125_5, f5125_6, f5125_7, rfl, c5125⟩ := hk5125
  have hP : va_P D vwCl [(w, .inr (4, [.int f5125_0, .int f5125_1, .int f5125_2, .int f5125_3, .int f5125_4, .int f5125_5, .int f5125_6, .int f5125_7]))] _ := va_P.cons hat5125 va_P.nil
  have hB : Bx B0 D _ [(w, .inr (4, [.int f5125_0, .int f5125_1, .int f5125_2, .int f5125_3, .int f5125_4, .int f5125_5, .int f5125_6, .int f5125_7]))] [] _ _ := Bx.of (fun a => (κ a).1) hL hP (fa_c hb5125 fa_n) (by simp only [List.map_cons, List.map_nil, hw.1]; decide)
  refine b_put (D := D) (ci := 4) (v := .int x) (ty := .int) (C := RX4) (T := TX4) (N := 8) hx hb hts iX4_start_4 tyX4 tyX4_ok nmX4 hown hN hB 0 rfl rfl 0 (by decide) (hts _ mX4_start_1) (fun _ h9 => h9) rfl (by decide +kernel) rfl rfl (Nat.le_of_ble_eq_true rfl) (.inl rfl) dX4_start_2 (fun H locs hB => ?_)
  have hB : Bx B0 D _ [(w, .inr (4, [.int x, .int f5125_1, .int f5125_2, .int f5125_3, .int f5125_4, .int f5125_5, .int f5125_6, .int f5125_7]))] [w] _ _ := hB
  refine lv_aload_n hx hb dX4_start_5 rfl (lv_at hl 0 rfl) ?_
  refine lv_iload_n hx hb dX4_start_6 rfl (lv_at hl 2 rfl) ?_
  refine b_put (D := D) (ci := 4) (v := .int y) (ty := .int) (C := RX4) (T := TX4) (N := 8) hx hb hts iX4_start_4 tyX4 tyX4_ok nmX4 hown hN hB 0 rfl rfl 1 (by decide) (hts _ mX4_start_2) (fun _ h9 => h9) rfl (by decide +kernel) rfl rfl (Nat.le_of_ble_eq_true rfl) (.inr ⟨rfl, List.mem_of_getElem? (i := 0) rfl⟩) dX4_start_7 (fun H locs hB => ?_)
  have hB : Bx B0 D _ [(w, .inr (4, [.int x, .int y, .int f5125_2, .int f5125_3, .int f5125_4, .int f5125_5, .int f5125_6, .int f5125_7]))] [w] _ _ := hB
  refine lv_aload_n hx hb dX4_start_10 rfl (lv_at hl 0 rfl) ?_
  refine lv_iload_n hx hb dX4_start_11 rfl (lv_at hl 3 rfl) ?_
  refine b_put (D := D) (ci := 4) (v := .int z) (ty := .int) (C := RX4) (T := TX4) (N := 8) hx hb hts iX4_start_4 tyX4 tyX4_ok nmX4 hown hN hB 0 rfl rfl 2 (by decide) (hts _ mX4_start_3) (fun _ h9 => h9) rfl (by decide +kernel) rfl rfl (Nat.le_of_ble_eq_true rfl) (.inr ⟨rfl, List.mem_of_getElem? (i := 0) rfl⟩) dX4_start_12 (fun H locs hB => ?_)
  have hB : Bx B0 D _ [(w, .inr (4, [.int x, .int y, .int z, .int f5125_3, .int f5125_4, .int f5125_5, .int f5125_6, .int f5125_7]))] [w] _ _ := hB
  refine lv_aload_n hx hb dX4_start_15 rfl (lv_at hl 0 rfl) ?_
  refine lv_iload hx hb dX4_start_16 (lv_at hl 4 rfl) ?_
  refine b_put (D := D) (ci := 4) (v := .int u) (ty := .int) (C := RX4) (T := TX4) (N := 8) hx hb hts iX4_start_4 tyX4 tyX4_ok nmX4 hown hN hB 0 rfl rfl 3 (by decide) (hts _ mX4_start_4) (fun _ h9 => h9) rfl (by decide +kernel) rfl rfl (Nat.le_of_ble_eq_true rfl) (.inr ⟨rfl, List.mem_of_getElem? (i := 0) rfl⟩) dX4_start_18 (fun H locs hB => ?_)
  have hB : Bx B0 D _ [(w, .inr (4, [.int x, .int y, .int z, .int u, .int f5125_4, .int f5125_5, .int f5125_6, .int f5125_7]))] [w] _ _ := hB
  refine lv_aload_n hx hb dX4_start_21 rfl (lv_at hl 0 rfl) ?_
  refine lv_iconst (v := 1) hx hb dX4_start_22 (by decide) ?_
  refine b_put (D := D) (ci := 4) (v := .int 1) (ty := .int) (C := RX4) (T := TX4) (N := 8) hx hb hts iX4_start_4 tyX4 tyX4_ok nmX4 hown hN hB 0 rfl rfl 4 (by decide) (hts _ mX4_start_5) (fun _ h9 => h9) rfl (by decide +kernel) rfl rfl (Nat.le_of_ble_eq_true rfl) (.inr ⟨rfl, List.mem_of_getElem? (i := 0) rfl⟩) dX4_start_23 (fun H locs hB => ?_)
  have hB : Bx B0 D _ [(w, .inr (4, [.int x, .int y, .int z, .int u, .int 1, .int f5125_5, .int f5125_6, .int f5125_7]))] [w] _ _ := hB
  refine lv_aload_n hx hb dX4_start_26 rfl (lv_at hl 0 rfl) ?_
  refine lv_iconst (v := 0) hx hb dX4_start_27 (by decide) ?_
  refine b_put (D := D) (ci := 4) (v := .int 0) (ty := .int) (C := RX4) (T := TX4) (N := 8) hx hb hts iX4_start_4 tyX4 tyX4_ok nmX4 hown hN hB 0 rfl rfl 5 (by decide) (hts _ mX4_start_6) (fun _ h9 => h9) rfl (by decide +kernel) rfl rfl (Nat.le_of_ble_eq_true rfl) (.inr ⟨rfl, List.mem_of_getElem? (i := 0) rfl⟩) dX4_start_28 (fun H locs hB => ?_)
  have hB : Bx B0 D _ [(w, .inr (4, [.int x, .int y, .int z, .int u, .int 1, .int 0, .int f5125_6, .int f5125_7]))] [w] _ _ := hB
  refine lv_aload_n hx hb dX4_start_31 rfl (lv_at hl 0 rfl) ?_
  refine lv_iconst (v := (-1)) hx hb dX4_start_32 (by decide) ?_
  refine b_put (D := D) (ci := 4) (v := .int (-1)) (ty := .int) (C := RX4) (T := TX4) (N := 8) hx hb hts iX4_start_4 tyX4 tyX4_ok nmX4 hown hN hB 0 rfl rfl 6 (by decide) (hts _ mX4_start_7) (fun _ h9 => h9) rfl (by decide +kernel) rfl rfl (Nat.le_of_ble_eq_true rfl) (.inr ⟨rfl, List.mem_of_getElem? (i := 0) rfl⟩) dX4_start_33 (fun H locs hB => ?_)
  have hB : Bx B0 D _ [(w, .inr (4, [.int x, .int y, .int z, .int u, .int 1, .int 0, .int (-1), .int f5125_7]))] [w] _ _ := hB
  have hF : Fr B0 [i] κ H0 _ := hF.close hB (fa_c (by simp [hw.2]) fa_n)
  have hT : WT B0 D cs T (kp κ w 0 (κ w).2.2.2) _ := hT.closeK w 0 (κ w).2.2.2 hB (by rw [hw.1]; decide) (by rw [hw.1]; decide) (List.mem_of_getElem? (i := 0) rfl) ⟨⟨0, _, rfl, kp_ok (ok_5 (k := ((κ w).1, (κ w).2.1, _, _)) hw.1 ⟨_, _, _, _, _, _, _, _, rfl, ⟨fun _ => rfl, fun _ => rfl⟩⟩)⟩, trivial⟩
  have hL : OkL B0 _ := hB.2.2.2.2.2
  exact en_v hx hb hr hlocks hL (Nat.zero_le _) (Nat.zero_le _) dX4_start_36 (⟨hT, hF⟩)
theorem mX4_copyFrom_1 : (.fieldLink RX4 16 "OneBeat$Proposal" "song" "I" : Cond) ∈ wsX4_copyFrom := List.mem_of_getElem? (i := 1) (by decide +kernel)
theorem iX4_copyFrom_4 : ∀ w ∈ wsX40, w ∈ wsX4_copyFrom := fun w h => List.mem_of_mem_drop (List.mem_of_mem_take ((show wsX40 = (wsX4_copyFrom.drop 9).take 8 by decide +kernel) ▸ h))
theorem mX4_copyFrom_2 : (.fieldLink RX4 19 "OneBeat$Proposal" "beat" "I" : Cond) ∈ wsX4_copyFrom := List.mem_of_getElem? (i := 2) (by decide +kernel)
theorem mX4_copyFrom_3 : (.fieldLink RX4 22 "OneBeat$Proposal" "deadline" "I" : Cond) ∈ wsX4_copyFrom := List.mem_of_getElem? (i := 3) (by decide +kernel)
theorem mX4_copyFrom_4 : (.fieldLink RX4 25 "OneBeat$Proposal" "sender" "I" : Cond) ∈ wsX4_copyFrom := List.mem_of_getElem? (i := 4) (by decide +kernel)
theorem mX4_copyFrom_5 : (.fieldLink RX4 28 "OneBeat$Proposal" "votes" "I" : Cond) ∈ wsX4_copyFrom := List.mem_of_getElem? (i := 5) (by decide +kernel)
theorem mX4_copyFrom_6 : (.fieldLink RX4 9 "OneBeat$Proposal" "outcome" "I" : Cond) ∈ wsX4_copyFrom := List.mem_of_getElem? (i := 6) (by decide +kernel)
theorem mX4_copyFrom_7 : (.fieldLink RX4 13 "OneBeat$Proposal" "firstChange" "I" : Cond) ∈ wsX4_copyFrom := List.mem_of_getElem? (i := 7) (by decide +kernel)
theorem mX4_copyFrom_8 : (.fieldLink RX4 31 "OneBeat$Proposal" "lastChange" "I" : Cond) ∈ wsX4_copyFrom := List.mem_of_getElem? (i := 8) (by decide +kernel)
set_option maxHeartbeats 4000000 in
set_option maxRecDepth 100000 in
theorem c_X4_copyFrom {l : Launch} {D : va_G} {cs : Nat → ClassId} {B0 T : Nat} {κ : KM} {H0 : Heap} (hT : WT B0 D cs T κ H0) {w v i j : Nat} (hw : T2 κ w 5 i) (hv : T2 κ v 5 j) (hij : i ≠ j) : KC l yX4_copyFrom wsX4_copyFrom 0 0 0 0 D cs B0 H0 [.ref w, .ref v] (Qv (fun H => WT B0 D cs T (kp κ w (κ v).2.2.1 (κ w).2.2.2) H ∧ Fr B0 [i] κ H0 H)) := by
  refine KC.of cX4_copyFrom 2 none (by decide) rfl (Nat.le_of_ble_eq_true rfl) ?_
  intro p e s m below meth c ls hx hb hr hml hown hts hlocks hin hN hE hH0 hl
  have hown : s.vm.findClass RX4 = some m.cls := hown
  have hl : lv_has ls 2 [(0, .ref w), (1, .ref v)] := hl
  have hL : OkL B0 [] := OkL.nil
  have hF : Fr B0 [i] κ H0 H0 := Fr.rf
  refine lv_aload_n hx hb dX4_copyFrom_0 rfl (lv_at hl 0 rfl) ?_
  refine lv_aload_n hx hb dX4_copyFrom_1 rfl (lv_at hl 1 rfl) ?_
  obtain ⟨hb5126, e5126, hat5126, hk5126⟩ := hT.o5 hv.1
  obtain ⟨f5126_0, f5126_1, f5126_2, f5126_3, f5126_4, f5126_5, f5126_6, f5126_7, rfl, c5126⟩ := hk5126
  have hP : va_P D vwCl [(v, .inr (4, [.int f5126_0, .int f5126_1, .int f5126_2, .int f5126_3, .int f5126_4, .int f5126_5, .int f5126_6, .int f5126_7]))] _ := va_P.cons hat5126 va_P.nil
  refine va_get (D := D) (ci := 4) (v := .int f5126_0) (C := RX4) (T := TX4) (N := 8) hx hb hts iX4_copyFrom_4 hown hN.1 hP 0 rfl rfl 0 (by decide) (hts _ mX4_copyFrom_1) (fun _ h9 => h9) rfl dX4_copyFrom_2 ?_
  obtain ⟨hb5127, e5127, hat5127, hk5127⟩ := hT.o5 hw.1
  obtain ⟨f5127_0, f5127_1, f5127_2, f5127_3, f5127_4, f5127_5, f5127_6, f5127_7, rfl, c5127⟩ := hk5127
  have hP : va_P D vwCl [(w, .inr (4, [.int f5127_0, .int f5127_1, .int f5127_2, .int f5127_3, .int f5127_4, .int f5127_5, .int f5127_6, .int f5127_7])), (v, .inr (4, [.int f5126_0, .int f5126_1, .int f5126_2, .int f5126_3, .int f5126_4, .int f5126_5, .int f5126_6, .int f5126_7]))] _ := va_P.cons hat5127 hP
  have hB : Bx B0 D _ [(w, .inr (4, [.int f5127_0, .int f5127_1, .int f5127_2, .int f5127_3, .int f5127_4, .int f5127_5, .int f5127_6, .int f5127_7])), (v, .inr (4, [.int f5126_0, .int f5126_1, .int f5126_2, .int f5126_3, .int f5126_4, .int f5126_5, .int f5126_6, .int f5126_7]))] [] _ _ := Bx.of (fun a => (κ a).2.1) hL hP (fa_c hb5127 (fa_c hb5126 fa_n)) (by simp only [List.map_cons, List.map_nil, hw.1, hw.2, hv.1, hv.2]; simp; omega)
  refine b_put (D := D) (ci := 4) (v := .int f5126_0) (ty := .int) (C := RX4) (T := TX4) (N := 8) hx hb hts iX4_copyFrom_4 tyX4 tyX4_ok nmX4 hown hN hB 0 rfl rfl 0 (by decide) (hts _ mX4_copyFrom_1) (fun _ h9 => h9) rfl (by decide +kernel) rfl rfl (Nat.le_of_ble_eq_true rfl) (.inl rfl) dX4_copyFrom_5 (fun H locs hB => ?_)
  have hB : Bx B0 D _ [(w, .inr (4, [.int f5126_0, .int f5127_1, .int f5127_2, .int f5127_3, .int f5127_4, .int f5127_5, .int f5127_6, .int f5127_7])), (v, .inr (4, [.int f5126_0, .int f5126_1, .int f5126_2, .int f5126_3, .int f5126_4, .int f5126_5, .int f5126_6, .int f5126_7]))] [w] _ _ := hB
  refine lv_aload_n hx hb dX4_copyFrom_8 rfl (lv_at hl 0 rfl) ?_
  refine lv_aload_n hx hb dX4_copyFrom_9 rfl (lv_at hl 1 rfl) ?_
  refine va_get (D := D) (ci := 4) (v := .int f5126_1) (C := RX4) (T := TX4) (N := 8) hx hb hts iX4_copyFrom_4 hown hN.1 hB.1 1 rfl rfl 1 (by decide) (hts _ mX4_copyFrom_2) (fun _ h9 => h9) rfl dX4_copyFrom_10 ?_
  refine b_put (D := D) (ci := 4) (v := .int f5126_1) (ty := .int) (C := RX4) (T := TX4) (N := 8) hx hb hts iX4_copyFrom_4 tyX4 tyX4_ok nmX4 hown hN hB 0 rfl rfl 1 (by decide) (hts _ mX4_copyFrom_2) (fun _ h9 => h9) rfl (by decide +kernel) rfl rfl (Nat.le_of_ble_eq_true rfl) (.inr ⟨rfl, List.mem_of_getElem? (i := 0) rfl⟩) dX4_copyFrom_13 (fun H locs hB => ?_)
  have hB : Bx B0 D _ [(w, .inr (4, [.int f5126_0, .int f5126_1, .int f5127_2, .int f5127_3, .int f5127_4, .int f5127_5, .int f5127_6, .int f5127_7])), (v, .inr (4, [.int f5126_0, .int f5126_1, .int f5126_2, .int f5126_3, .int f5126_4, .int f5126_5, .int f5126_6, .int f5126_7]))] [w] _ _ := hB
  refine lv_aload_n hx hb dX4_copyFrom_16 rfl (lv_at hl 0 rfl) ?_
  refine lv_aload_n hx hb dX4_copyFrom_17 rfl (lv_at hl 1 rfl) ?_
  refine va_get (D := D) (ci := 4) (v := .int f5126_2) (C := RX4) (T := TX4) (N := 8) hx hb hts iX4_copyFrom_4 hown hN.1 hB.1 1 rfl rfl 2 (by decide) (hts _ mX4_copyFrom_3) (fun _ h9 => h9) rfl dX4_copyFrom_18 ?_
  refine b_put (D := D) (ci := 4) (v := .int f5126_2) (ty := .int) (C := RX4) (T := TX4) (N := 8) hx hb hts iX4_copyFrom_4 tyX4 tyX4_ok nmX4 hown hN hB 0 rfl rfl 2 (by decide) (hts _ mX4_copyFrom_3) (fun _ h9 => h9) rfl (by decide +kernel) rfl rfl (Nat.le_of_ble_eq_true rfl) (.inr ⟨rfl, List.mem_of_getElem? (i := 0) rfl⟩) dX4_copyFrom_21 (fun H locs hB => ?_)
  have hB : Bx B0 D _ [(w, .inr (4, [.int f5126_0, .int f5126_1, .int f5126_2, .int f5127_3, .int f5127_4, .int f5127_5, .int f5127_6, .int f5127_7])), (v, .inr (4, [.int f5126_0, .int f5126_1, .int f5126_2, .int f5126_3, .int f5126_4, .int f5126_5, .int f5126_6, .int f5126_7]))] [w] _ _ := hB
  refine lv_aload_n hx hb dX4_copyFrom_24 rfl (lv_at hl 0 rfl) ?_
  refine lv_aload_n hx hb dX4_copyFrom_25 rfl (lv_at hl 1 rfl) ?_
  refine va_get (D := D) (ci := 4) (v := .int f5126_3) (C := RX4) (T := TX4) (N := 8) hx hb hts iX4_copyFrom_4 hown hN.1 hB.1 1 rfl rfl 3 (by decide) (hts _ mX4_copyFrom_4) (fun _ h9 => h9) rfl dX4_copyFrom_26 ?_
  refine b_put (D := D) (ci := 4) (v := .int f5126_3) (ty := .int) (C := RX4) (T := TX4) (N := 8) hx hb hts iX4_copyFrom_4 tyX4 tyX4_ok nmX4 hown hN hB 0 rfl rfl 3 (by decide) (hts _ mX4_copyFrom_4) (fun _ h9 => h9) rfl (by decide +kernel) rfl rfl (Nat.le_of_ble_eq_true rfl) (.inr ⟨rfl, List.mem_of_getElem? (i := 0) rfl⟩) dX4_copyFrom_29 (fun H locs hB => ?_)
  have hB : Bx B0 D _ [(w, .inr (4, [.int f5126_0, .int f5126_1, .int f5126_2, .int f5126_3, .int f5127_4, .int f5127_5, .int f5127_6, .int f5127_7])), (v, .inr (4, [.int f5126_0, .int f5126_1, .int f5126_2, .int f5126_3, .int f5126_4, .int f5126_5, .int f5126_6, .int f5126_7]))] [w] _ _ := hB
  refine lv_aload_n hx hb dX4_copyFrom_32 rfl (lv_at hl 0 rfl) ?_
  refine lv_aload_n hx hb dX4_copyFrom_33 rfl (lv_at hl 1 rfl) ?_
  refine va_get (D := D) (ci := 4) (v := .int f5126_4) (C := RX4) (T := TX4) (N := 8) hx hb hts iX4_copyFrom_4 hown hN.1 hB.1 1 rfl rfl 4 (by decide) (hts _ mX4_copyFrom_5) (fun _ h9 => h9) rfl dX4_copyFrom_34 ?_
  refine b_put (D := D) (ci := 4) (v := .int f5126_4) (ty := .int) (C := RX4) (T := TX4) (N := 8) hx hb hts iX4_copyFrom_4 tyX4 tyX4_ok nmX4 hown hN hB 0 rfl rfl 4 (by decide) (hts _ mX4_copyFrom_5) (fun _ h9 => h9) rfl (by decide +kernel) rfl rfl (Nat.le_of_ble_eq_true rfl) (.inr ⟨rfl, List.mem_of_getElem? (i := 0) rfl⟩) dX4_copyFrom_37 (fun H locs hB => ?_)
  have hB : Bx B0 D _ [(w, .inr (4, [.int f5126_0, .int f5126_1, .int f5126_2, .int f5126_3, .int f5126_4, .int f5127_5, .int f5127_6, .int f5127_7])), (v, .inr (4, [.int f5126_0, .int f5126_1, .int f5126_2, .int f5126_3, .int f5126_4, .int f5126_5, .int f5126_6, .int f5126_7]))] [w] _ _ := hB
  refine lv_aload_n hx hb dX4_copyFrom_40 rfl (lv_at hl 0 rfl) ?_
  refine lv_aload_n hx hb dX4_copyFrom_41 rfl (lv_at hl 1 rfl) ?_
  refine va_get (D := D) (ci := 4) (v := .int f5126_5) (C := RX4) (T := TX4) (N := 8) hx hb hts iX4_copyFrom_4 hown hN.1 hB.1 1 rfl rfl 5 (by decide) (hts _ mX4_copyFrom_6) (fun _ h9 => h9) rfl dX4_copyFrom_42 ?_
  refine b_put (D := D) (ci := 4) (v := .int f5126_5) (ty := .int) (C := RX4) (T := TX4) (N := 8) hx hb hts iX4_copyFrom_4 tyX4 tyX4_ok nmX4 hown hN hB 0 rfl rfl 5 (by decide) (hts _ mX4_copyFrom_6) (fun _ h9 => h9) rfl (by decide +kernel) rfl rfl (Nat.le_of_ble_eq_true rfl) (.inr ⟨rfl, List.mem_of_getElem? (i := 0) rfl⟩) dX4_copyFrom_45 (fun H locs hB => ?_)
  have hB : Bx B0 D _ [(w, .inr (4, [.int f5126_0, .int f5126_1, .int f5126_2, .int f5126_3, .int f5126_4, .int f5126_5, .int f5127_6, .int f5127_7])), (v, .inr (4, [.int f5126_0, .int f5126_1, .int f5126_2, .int f5126_3, .int f5126_4, .int f5126_5, .int f5126_6, .int f5126_7]))] [w] _ _ := hB
  refine lv_aload_n hx hb dX4_copyFrom_48 rfl (lv_at hl 0 rfl) ?_
  refine lv_aload_n hx hb dX4_copyFrom_49 rfl (lv_at hl 1 rfl) ?_
  refine va_get (D := D) (ci := 4) (v := .int f5126_6) (C := RX4) (T := TX4) (N := 8) hx hb hts iX4_copyFrom_4 hown hN.1 hB.1 1 rfl rfl 6 (by decide) (hts _ mX4_copyFrom_7) (fun _ h9 => h9) rfl dX4_copyFrom_50 ?_
  refine b_put (D := D) (ci := 4) (v := .int f5126_6) (ty := .int) (C := RX4) (T := TX4) (N := 8) hx hb hts iX4_copyFrom_4 tyX4 tyX4_ok nmX4 hown hN hB 0 rfl rfl 6 (by decide) (hts _ mX4_copyFrom_7) (fun _ h9 => h9) rfl (by decide +kernel) rfl rfl (Nat.le_of_ble_eq_true rfl) (.inr ⟨rfl, List.mem_of_getElem? (i := 0) rfl⟩) dX4_copyFrom_53 (fun H locs hB => ?_)
  have hB : Bx B0 D _ [(w, .inr (4, [.int f5126_0, .int f5126_1, .int f5126_2, .int f5126_3, .int f5126_4, .int f5126_5, .int f5126_6, .int f5127_7])), (v, .inr (4, [.int f5126_0, .int f5126_1, .int f5126_2, .int f5126_3, .int f5126_4, .int f5126_5, .int f5126_6, .int f5126_7]))] [w] _ _ := hB
  refine lv_aload_n hx hb dX4_copyFrom_56 rfl (lv_at hl 0 rfl) ?_
  refine lv_aload_n hx hb dX4_copyFrom_57 rfl (lv_at hl 1 rfl) ?_
  refine va_get (D := D) (ci := 4) (v := .int f5126_7) (C := RX4) (T := TX4) (N := 8) hx hb hts iX4_copyFrom_4 hown hN.1 hB.1 1 rfl rfl 7 (by decide) (hts _ mX4_copyFrom_8) (fun _ h9 => h9) rfl dX4_copyFrom_58 ?_
  refine b_put (D := D) (ci := 4) (v := .int f5126_7) (ty := .int) (C := RX4) (T := TX4) (N := 8) hx hb hts iX4_copyFrom_4 tyX4 tyX4_ok nmX4 hown hN hB 0 rfl rfl 7 (by decide) (hts _ mX4_copyFrom_8) (fun _ h9 => h9) rfl (by decide +kernel) rfl rfl (Nat.le_of_ble_eq_true rfl) (.inr ⟨rfl, List.mem_of_getElem? (i := 0) rfl⟩) dX4_copyFrom_61 (fun H locs hB => ?_)
  have hB : Bx B0 D _ [(w, .inr (4, [.int f5126_0, .int f5126_1, .int f5126_2, .int f5126_3, .int f5126_4, .int f5126_5, .int f5126_6, .int f5126_7])), (v, .inr (4, [.int f5126_0, .int f5126_1, .int f5126_2, .int f5126_3, .int f5126_4, .int f5126_5, .int f5126_6, .int f5126_7]))] [w] _ _ := hB
  have hF : Fr B0 [i] κ H0 _ := hF.close hB (fa_c (by simp [hw.2]) fa_n)
  have hT : WT B0 D cs T (kp κ w (κ v).2.2.1 (κ w).2.2.2) _ := hT.closeK w (κ v).2.2.1 (κ w).2.2.2 hB (by rw [hw.1]; decide) (by rw [hw.1]; decide) (List.mem_of_getElem? (i := 0) rfl) ⟨⟨0, _, rfl, kp_ok (ok_5 (k := ((κ w).1, (κ w).2.1, _, _)) hw.1 ⟨_, _, _, _, _, _, _, _, rfl, c5126⟩)⟩, trivial⟩
  have hL : OkL B0 _ := hB.2.2.2.2.2
  exact en_v hx hb hr hlocks hL (Nat.zero_le _) (Nat.zero_le _) dX4_copyFrom_64 (⟨hT, hF⟩)
theorem mX7_commitIfVoted_1 : (.fieldLink RX7 27 "OneBeat$World" "latest" "LOneBeat$Proposal;" : Cond) ∈ wsX7_commitIfVoted := List.mem_of_getElem? (i := 1) (by decide +kernel)
theorem iX7_commitIfVoted_7 : ∀ w ∈ wsX70, w ∈ wsX7_commitIfVoted := fun w h => List.mem_of_mem_drop (List.mem_of_mem_take ((show wsX70 = (wsX7_commitIfVoted.drop 65).take 16 by decide +kernel) ▸ h))
theorem iX7_commitIfVoted_4 : ∀ w ∈ wsX40, w ∈ wsX7_commitIfVoted := fun w h => List.mem_of_mem_drop (List.mem_of_mem_take ((show wsX40 = (wsX7_commitIfVoted.drop 81).take 8 by decide +kernel) ▸ h))
theorem mX7_commitIfVoted_2 : (.fieldLink RX7 52 "OneBeat$World" "setup" "LOneBeat$Setup;" : Cond) ∈ wsX7_commitIfVoted := List.mem_of_getElem? (i := 2) (by decide +kernel)
theorem iX7_commitIfVoted_6 : ∀ w ∈ wsX60, w ∈ wsX7_commitIfVoted := fun w h => List.mem_of_mem_drop (List.mem_of_mem_take ((show wsX60 = (wsX7_commitIfVoted.drop 89).take 8 by decide +kernel) ▸ h))
theorem mX7_commitIfVoted_3 : (.fieldLink RX7 80 "OneBeat$World" "committed" "I" : Cond) ∈ wsX7_commitIfVoted := List.mem_of_getElem? (i := 3) (by decide +kernel)
theorem mX7_commitIfVoted_4 : (.fieldLink RX7 77 "OneBeat$World" "made" "I" : Cond) ∈ wsX7_commitIfVoted := List.mem_of_getElem? (i := 4) (by decide +kernel)
theorem hdX3_takePlan_v : yX3_takePlan.cls = RX3 ∧ yX3_takePlan.cls ≠ "java/lang/invoke/MethodHandle" ∧ yX3_takePlan.cls ≠ "java/lang/invoke/VarHandle" ∧ (parseMethodDescriptor yX3_takePlan.desc).map (fun d => d.parameters.length) = some 4 := by decide +kernel
theorem hdX7_sendToOthers_v : yX7_sendToOthers.cls = RX7 ∧ yX7_sendToOthers.cls ≠ "java/lang/invoke/MethodHandle" ∧ yX7_sendToOthers.cls ≠ "java/lang/invoke/VarHandle" ∧ (parseMethodDescriptor yX7_sendToOthers.desc).map (fun d => d.parameters.length) = some 1 := by decide +kernel
set_option maxHeartbeats 4000000 in
set_option maxRecDepth 100000 in
theorem c_X7_commitIfVoted {l : Launch} {D : va_G} {cs : Nat → ClassId} {B0 T : Nat} {κ : KM} {H0 : Heap} (hT : WT B0 D cs T κ H0) {w i : Nat} (hw : T2 κ w 8 i) {C cn ln : Nat → Nat} {rw9 : Nat → Nat → Int32} {dl : Nat → Int32} {su tm : Nat} (hsu : (κ w).2.2.1 = su) (htm : (κ w).2.2.2 = tm) (hMW : MW D cs H0 i su tm C cn ln rw9 dl) {q0 pl b : Nat} (hbo : EL C dl cn rw9 q0 pl (κ (cs (420 + i))).2.2.1 b) (hb24 : b ≤ 24) : KC l yX7_commitIfVoted wsX7_commitIfVoted 4 135 ((56 * sumN C 16 + 22407 - 2 * sumN ln 16) / 35) (56 * sumN C 16 + 22407 - 2 * sumN ln 16) D cs B0 H0 [.ref w] (Qv (fun H => ∃ κ1, KU i κ κ1 ∧ WT B0 D cs T κ1 H ∧ Fr B0 [i, i + 20] κ H0 H ∧ ∃ cn1 ln1 rw1 k n, MW D cs H i su tm C cn1 ln1 rw1 dl ∧ GP H0 H ln ln1 k n ∧ κ1 w = κ w ∧ EL C dl cn1 rw1 q0 pl (κ1 (cs (420 + i))).2.2.1 b ∧ ∀ q, q < 16 → cn q ≤ cn1 q)) := by
  refine KC.of cX7_commitIfVoted 1 none (by decide) rfl (Nat.le_of_ble_eq_true rfl) ?_
  intro p e s m below meth c ls hx hb hr hml hown hts hlocks hin hN hE hH0 hl
  have hown : s.vm.findClass RX7 = some m.cls := hown
  have hl : lv_has ls 1 [(0, .ref w)] := hl
  have hL : OkL B0 [] := OkL.nil
  have hF : Fr B0 [i, i + 20] κ H0 H0 := Fr.rf
  obtain ⟨hmk, hpr, hli, -, hi10⟩ := hT.ml hw
  have ht16 := hMW.2.2.2
  have h15a : ¬ 15 = i := by omega
  have h15b : ¬ 15 = i + 20 := by omega
  have h15c : ¬ 15 = i + 40 := by omega
  have hGN : GN ln ln 0 0 := GN.rf
  have hs0 := hMW.2.2.1.sum
  refine lv_aload_n hx hb dX7_commitIfVoted_0 rfl (lv_at hl 0 rfl) ?_
  obtain ⟨hb5128, e5128, hat5128, hk5128⟩ := hT.o8 hw.1
  obtain ⟨f5128_0, f5128_1, f5128_2, f5128_3, f5128_4, f5128_5, f5128_6, f5128_7, f5128_8, f5128_9, f5128_10, f5128_11, f5128_12, f5128_13, f5128_14, f5128_15, rfl, t5128_0, c5128_su, t5128_1, t5128_2, t5128_3, t5128_4, t5128_5, c5128_tm, c5128_lt, c5128_ml, c5128_pr, c5128_li⟩ := hk5128
  rw [hw.2] at t5128_1
  rw [hw.2] at t5128_2
  rw [hw.2] at t5128_3
  rw [hw.2] at t5128_4
  rw [hw.2] at t5128_5
  rw [hw.2] at c5128_lt c5128_ml c5128_pr c5128_li
  subst c5128_ml
  subst c5128_pr
  subst c5128_li
  have esu5128 := (c5128_su.trans hsu).symm
  subst esu5128
  have ctm5128 : f5128_7 &&& 15 = nI tm := by rw [c5128_tm, htm]
  have hP : va_P D vwCl [(w, .inr (7, [.ref su, .ref f5128_1, .ref (cs (400 + i)), .ref (cs (420 + i)), .ref (cs (460 + i)), .ref f5128_5, .long f5128_6, .int f5128_7, .int f5128_8, .int f5128_9, .int f5128_10, .int f5128_11, .int f5128_12, .int f5128_13, .int f5128_14, .int f5128_15]))] _ := va_P.cons hat5128 va_P.nil
  refine va_get (D := D) (ci := 7) (v := .ref (cs (420 + i))) (C := RX7) (T := TX7) (N := 16) hx hb hts iX7_commitIfVoted_7 hown hN.1 hP 0 rfl rfl 3 (by decide) (hts _ mX7_commitIfVoted_1) (fun _ h9 => h9) rfl dX7_commitIfVoted_1 ?_
  obtain ⟨hb5129, e5129, hat5129, hk5129⟩ := hT.o5 t5128_3.1
  obtain ⟨f5129_0, f5129_1, f5129_2, f5129_3, f5129_4, f5129_5, f5129_6, f5129_7, rfl, c5129⟩ := hk5129
  have hP : va_P D vwCl [((cs (420 + i)), .inr (4, [.int f5129_0, .int f5129_1, .int f5129_2, .int f5129_3, .int f5129_4, .int f5129_5, .int f5129_6, .int f5129_7])), (w, .inr (7, [.ref su, .ref f5128_1, .ref (cs (400 + i)), .ref (cs (420 + i)), .ref (cs (460 + i)), .ref f5128_5, .long f5128_6, .int f5128_7, .int f5128_8, .int f5128_9, .int f5128_10, .int f5128_11, .int f5128_12, .int f5128_13, .int f5128_14, .int f5128_15]))] _ := va_P.cons hat5129 hP
  refine va_getN (D := D) (ci := 4) (v := .int f5129_5) (C := RX4) (T := TX4) (N := 8) hx hb hts iX7_commitIfVoted_4 hown hN.1 hP 0 rfl rfl 5 (by decide) (hN.f 12 rfl) (fun _ h9 => h9) rfl dX7_commitIfVoted_4 ?_
  refine lv_if_ne (tgt := 27) hx hb dX7_commitIfVoted_7 (by decide) (fun c5130 => ?_) (fun c5130 => ?_)
  · refine W.know (fun hg => ?_)
    rw [hH0] at hg
    exact en_v hx hb hr hlocks hL (Nat.zero_le _) (Nat.zero_le _) dX7_commitIfVoted_27 (⟨κ, KU.rf, hT, hF, cn, ln, rw9, 0, 0, hMW, ⟨hg, GN.rf⟩, rfl, hbo, fun _ _ => Nat.le_refl _⟩)
  · have hop : (κ (cs (420 + i))).2.2.1 = 0 := c5129.mp c5130
    have hb8 := hbo.op9 hop
    refine lv_aload_n hx hb dX7_commitIfVoted_10 rfl (lv_at hl 0 rfl) ?_
    refine va_get (D := D) (ci := 7) (v := .ref (cs (420 + i))) (C := RX7) (T := TX7) (N := 16) hx hb hts iX7_commitIfVoted_7 hown hN.1 hP 1 rfl rfl 3 (by decide) (hts _ mX7_commitIfVoted_1) (fun _ h9 => h9) rfl dX7_commitIfVoted_11 ?_
    refine va_getN (D := D) (ci := 4) (v := .int f5129_4) (C := RX4) (T := TX4) (N := 8) hx hb hts iX7_commitIfVoted_4 hown hN.1 hP 0 rfl rfl 4 (by decide) (hN.f 10 rfl) (fun _ h9 => h9) rfl dX7_commitIfVoted_14 ?_
    refine lv_aload_n hx hb dX7_commitIfVoted_17 rfl (lv_at hl 0 rfl) ?_
    refine va_get (D := D) (ci := 7) (v := .ref su) (C := RX7) (T := TX7) (N := 16) hx hb hts iX7_commitIfVoted_7 hown hN.1 hP 1 rfl rfl 0 (by decide) (hts _ mX7_commitIfVoted_2) (fun _ h9 => h9) rfl dX7_commitIfVoted_18 ?_
    obtain ⟨hb5131, e5131, hat5131, hk5131⟩ := hT.o7 t5128_0.1
    obtain ⟨f5131_0, f5131_1, f5131_2, f5131_3, f5131_4, f5131_5, f5131_6, f5131_7, rfl, c5131_0, c5131_3, c5131_mg, t5131_4, t5131_5, t5131_6, t5131_7⟩ := hk5131
    rw [t5128_0.2] at t5131_4
    rw [t5128_0.2] at t5131_5
    rw [t5128_0.2] at t5131_6
    rw [t5128_0.2] at t5131_7
    have hP : va_P D vwCl [(su, .inr (6, [.int (nI f5131_0), .int f5131_1, .int f5131_2, f5131_3, .ref f5131_4, .ref f5131_5, .ref f5131_6, .ref f5131_7])), ((cs (420 + i)), .inr (4, [.int f5129_0, .int f5129_1, .int f5129_2, .int f5129_3, .int f5129_4, .int f5129_5, .int f5129_6, .int f5129_7])), (w, .inr (7, [.ref su, .ref f5128_1, .ref (cs (400 + i)), .ref (cs (420 + i)), .ref (cs (460 + i)), .ref f5128_5, .long f5128_6, .int f5128_7, .int f5128_8, .int f5128_9, .int f5128_10, .int f5128_11, .int f5128_12, .int f5128_13, .int f5128_14, .int f5128_15]))] _ := va_P.cons hat5131 hP
    refine va_getN (D := D) (ci := 6) (v := .int f5131_1) (C := RX6) (T := TX6) (N := 8) hx hb hts iX7_commitIfVoted_6 hown hN.1 hP 0 rfl rfl 1 (by decide) (hN.f 41 rfl) (fun _ h9 => h9) rfl dX7_commitIfVoted_21 ?_
    refine lv_icmp_ge (tgt := 28) hx hb dX7_commitIfVoted_24 (by decide) (fun c5132 => ?_) (fun c5132 => ?_)
    · refine lv_aload_n hx hb dX7_commitIfVoted_28 rfl (lv_at hl 0 rfl) ?_
      refine va_get (D := D) (ci := 7) (v := .ref (cs (420 + i))) (C := RX7) (T := TX7) (N := 16) hx hb hts iX7_commitIfVoted_7 hown hN.1 hP 2 rfl rfl 3 (by decide) (hts _ mX7_commitIfVoted_1) (fun _ h9 => h9) rfl dX7_commitIfVoted_29 ?_
      refine lv_iconst (v := 1) hx hb dX7_commitIfVoted_32 (by decide) ?_
      have hB : Bx B0 D _ [(su, .inr (6, [.int (nI f5131_0), .int f5131_1, .int f5131_2, f5131_3, .ref f5131_4, .ref f5131_5, .ref f5131_6, .ref f5131_7])), ((cs (420 + i)), .inr (4, [.int f5129_0, .int f5129_1, .int f5129_2, .int f5129_3, .int f5129_4, .int f5129_5, .int f5129_6, .int f5129_7])), (w, .inr (7, [.ref su, .ref f5128_1, .ref (cs (400 + i)), .ref (cs (420 + i)), .ref (cs (460 + i)), .ref f5128_5, .long f5128_6, .int f5128_7, .int f5128_8, .int f5128_9, .int f5128_10, .int f5128_11, .int f5128_12, .int f5128_13, .int f5128_14, .int f5128_15]))] [] _ _ := Bx.of (fun a => (κ a).1) hL hP (fa_c hb5131 (fa_c hb5129 (fa_c hb5128 fa_n))) (by simp only [List.map_cons, List.map_nil, t5128_0.1, t5128_3.1, hw.1]; decide)
      refine b_putN (D := D) (ci := 4) (v := .int 1) (ty := .int) (C := RX4) (T := TX4) (N := 8) hx hb hts iX7_commitIfVoted_4 tyX4 tyX4_ok nmX4 hown hN hB 1 rfl rfl 5 (by decide) (hN.f 12 rfl) (fun _ h9 => h9) rfl (by decide +kernel) rfl rfl (Nat.le_of_ble_eq_true rfl) (.inl rfl) dX7_commitIfVoted_33 (fun H locs hB => ?_)
      have hB : Bx B0 D _ [(su, .inr (6, [.int (nI f5131_0), .int f5131_1, .int f5131_2, f5131_3, .ref f5131_4, .ref f5131_5, .ref f5131_6, .ref f5131_7])), ((cs (420 + i)), .inr (4, [.int f5129_0, .int f5129_1, .int f5129_2, .int f5129_3, .int f5129_4, .int 1, .int f5129_6, .int f5129_7])), (w, .inr (7, [.ref su, .ref f5128_1, .ref (cs (400 + i)), .ref (cs (420 + i)), .ref (cs (460 + i)), .ref f5128_5, .long f5128_6, .int f5128_7, .int f5128_8, .int f5128_9, .int f5128_10, .int f5128_11, .int f5128_12, .int f5128_13, .int f5128_14, .int f5128_15]))] [(cs (420 + i))] _ _ := hB
      refine lv_aload_n hx hb dX7_commitIfVoted_36 rfl (lv_at hl 0 rfl) ?_
      refine lv_dup hx hb dX7_commitIfVoted_37 rfl ?_
      refine va_get (D := D) (ci := 7) (v := .int f5128_12) (C := RX7) (T := TX7) (N := 16) hx hb hts iX7_commitIfVoted_7 hown hN.1 hB.1 2 rfl rfl 12 (by decide) (hts _ mX7_commitIfVoted_3) (fun _ h9 => h9) rfl dX7_commitIfVoted_38 ?_
      refine lv_iconst (v := 1) hx hb dX7_commitIfVoted_41 (by decide) ?_
      refine lv_iadd hx hb dX7_commitIfVoted_42 ?_
      refine gn_i (fun x5133 => ?_)
      refine b_put (D := D) (ci := 7) (v := .int x5133) (ty := .int) (C := RX7) (T := TX7) (N := 16) hx hb hts iX7_commitIfVoted_7 tyX7 tyX7_ok nmX7 hown hN hB 2 rfl rfl 12 (by decide) (hts _ mX7_commitIfVoted_3) (fun _ h9 => h9) rfl (by decide +kernel) rfl rfl (Nat.le_of_ble_eq_true rfl) (.inl rfl) dX7_commitIfVoted_43 (fun H locs hB => ?_)
      have hB : Bx B0 D _ [(su, .inr (6, [.int (nI f5131_0), .int f5131_1, .int f5131_2, f5131_3, .ref f5131_4, .ref f5131_5, .ref f5131_6, .ref f5131_7])), ((cs (420 + i)), .inr (4, [.int f5129_0, .int f5129_1, .int f5129_2, .int f5129_3, .int f5129_4, .int 1, .int f5129_6, .int f5129_7])), (w, .inr (7, [.ref su, .ref f5128_1, .ref (cs (400 + i)), .ref (cs (420 + i)), .ref (cs (460 + i)), .ref f5128_5, .long f5128_6, .int f5128_7, .int f5128_8, .int f5128_9, .int f5128_10, .int f5128_11, .int x5133, .int f5128_13, .int f5128_14, .int f5128_15]))] [w, (cs (420 + i))] _ _ := hB
      refine lv_aload_n hx hb dX7_commitIfVoted_46 rfl (lv_at hl 0 rfl) ?_
      refine lv_aload_n hx hb dX7_commitIfVoted_47 rfl (lv_at hl 0 rfl) ?_
      refine va_get (D := D) (ci := 7) (v := .ref (cs (420 + i))) (C := RX7) (T := TX7) (N := 16) hx hb hts iX7_commitIfVoted_7 hown hN.1 hB.1 2 rfl rfl 3 (by decide) (hts _ mX7_commitIfVoted_1) (fun _ h9 => h9) rfl dX7_commitIfVoted_48 ?_
      refine va_getN (D := D) (ci := 4) (v := .int f5129_3) (C := RX4) (T := TX4) (N := 8) hx hb hts iX7_commitIfVoted_4 hown hN.1 hB.1 1 rfl rfl 3 (by decide) (hN.f 9 rfl) (fun _ h9 => h9) rfl dX7_commitIfVoted_51 ?_
      have hMW := hMW.fr hT hw hsu (Fr.close (S := [i]) Fr.rf hB (fa_c (by simp [hw.2]) (fa_c (by simp [t5128_3.2]) fa_n))) (by first | (simp; done) | (simp [h15a, h15b, h15c]; done) | (simp; omega) | omega) (by first | (simp; done) | (simp [h15a, h15b, h15c]; done) | (simp; omega) | omega)
      have hF : Fr B0 [i, i + 20] κ H0 _ := hF.close hB (fa_c (by simp [hw.2]) (fa_c (by simp [t5128_3.2]) fa_n))
      have hT : WT B0 D cs T (kp κ (cs (420 + i)) 1 (κ (cs (420 + i))).2.2.2) _ := hT.closeK (cs (420 + i)) 1 (κ (cs (420 + i))).2.2.2 hB (by rw [t5128_3.1]; decide) (by rw [t5128_3.1]; decide) (List.mem_of_getElem? (i := 1) rfl) ⟨⟨2, _, rfl, kp_oth (ne_c hw.1 t5128_3.1 (by decide)) (by rw [t5128_3.1]; decide) (by rw [t5128_3.1]; decide) (ok_8 hw.1 ⟨_, _, _, _, _, _, _, _, _, _, _, _, _, _, _, _, rfl, t5128_0, c5128_su, ⟨t5128_1.1, by rw [hw.2]; exact t5128_1.2⟩, ⟨t5128_2.1, by rw [hw.2]; exact t5128_2.2⟩, ⟨t5128_3.1, by rw [hw.2]; exact t5128_3.2⟩, ⟨t5128_4.1, by rw [hw.2]; exact t5128_4.2⟩, ⟨t5128_5.1, by rw [hw.2]; exact t5128_5.2⟩, c5128_tm, (by rw [hw.2]; omega), (by first | rw [hw.2] | (dsimp only; rw [hw.2])), (by first | rw [hw.2] | (dsimp only; rw [hw.2])), (by first | rw [hw.2] | (dsimp only; rw [hw.2]))⟩)⟩, ⟨⟨1, _, rfl, kp_ok (ok_5 (k := ((κ (cs (420 + i))).1, (κ (cs (420 + i))).2.1, _, _)) t5128_3.1 ⟨_, _, _, _, _, _, _, _, rfl, ⟨fun h9 => absurd h9 (by decide), fun h9 => absurd (show (1 : Nat) = 0 from h9) (by decide)⟩⟩)⟩, trivial⟩⟩
      have hL : OkL B0 _ := hB.2.2.2.2.2
      have hP : va_P D vwCl [(su, .inr (6, [.int (nI f5131_0), .int f5131_1, .int f5131_2, f5131_3, .ref f5131_4, .ref f5131_5, .ref f5131_6, .ref f5131_7])), ((cs (420 + i)), .inr (4, [.int f5129_0, .int f5129_1, .int f5129_2, .int f5129_3, .int f5129_4, .int 1, .int f5129_6, .int f5129_7])), (w, .inr (7, [.ref su, .ref f5128_1, .ref (cs (400 + i)), .ref (cs (420 + i)), .ref (cs (460 + i)), .ref f5128_5, .long f5128_6, .int f5128_7, .int f5128_8, .int f5128_9, .int f5128_10, .int f5128_11, .int x5133, .int f5128_13, .int f5128_14, .int f5128_15]))] _ := hB.1
      obtain ⟨κ5134, hκ5134⟩ : ∃ κ9 : KM, κ9 = (kp κ (cs (420 + i)) 1 (κ (cs (420 + i))).2.2.2) := ⟨_, rfl⟩
      have hxf5134 : KF κ κ5134 := by rw [hκ5134]; exact KF.kp
      rw [← hκ5134] at hT
      have hKF : KF κ κ5134 := hxf5134
      have hKU : KU i κ κ5134 := (show KU i κ κ5134 by rw [hκ5134]; exact KU.kp t5128_3)
      have hkw9 : κ5134 w = κ w := by rw [hκ5134]; exact kp_n (ne_c hw.1 t5128_3.1 (by decide))
      rw [← hkw9] at hsu htm
      have hKW : κ5134 w = κ w := hkw9
      have hw := (KF.t2 hxf5134 hw (by decide))
      have hpr := (KF.t2 hxf5134 hpr (by decide))
      have hmk := (KF.t2 hxf5134 hmk (by decide))
      have hli := (KF.t2 hxf5134 hli (by decide))
      have hop1 : (κ5134 (cs (420 + i))).2.2.1 = 1 := by rw [hκ5134, kp_a]
      refine cv_r (As := [.int f5129_3]) (rest := []) (b := w) ⟨hx, hb, hml, hown, hts⟩ (c_X7_at hT (w := w) hw (x := f5129_3)) (cwV 1 hts gX7_commitIfVoted_X7_at rfl rfl rfl hdX7_at_v ⟨Nat.le_of_ble_eq_true rfl, Nat.le_of_ble_eq_true rfl⟩) hN hE hL (rcv8 hN hT hw.1) rfl rfl hl.1 (Nat.le_of_ble_eq_true rfl) dX7_commitIfVoted_54 (Nat.zero_le _) (Nat.zero_le _) (fun r5135 H1 locs hL hqr5135 => ?_)
      obtain ⟨h9, hqr5135⟩ := hqr5135; replace h9 := h9.symm; subst h9
      refine lv_aload_n hx hb dX7_commitIfVoted_57 rfl (lv_at hl 0 rfl) ?_
      obtain ⟨hb5136, e5136, hat5136, hk5136⟩ := hT.o8 hw.1
      obtain ⟨f5136_0, f5136_1, f5136_2, f5136_3, f5136_4, f5136_5, f5136_6, f5136_7, f5136_8, f5136_9, f5136_10, f5136_11, f5136_12, f5136_13, f5136_14, f5136_15, rfl, t5136_0, c5136_su, t5136_1, t5136_2, t5136_3, t5136_4, t5136_5, c5136_tm, c5136_lt, c5136_ml, c5136_pr, c5136_li⟩ := hk5136
      rw [hw.2] at t5136_1
      rw [hw.2] at t5136_2
      rw [hw.2] at t5136_3
      rw [hw.2] at t5136_4
      rw [hw.2] at t5136_5
      rw [hw.2] at c5136_lt c5136_ml c5136_pr c5136_li
      subst c5136_ml
      subst c5136_pr
      subst c5136_li
      have esu5136 := (c5136_su.trans hsu).symm
      subst esu5136
      have ctm5136 : f5136_7 &&& 15 = nI tm := by rw [c5136_tm, htm]
      have hP : va_P D vwCl [(w, .inr (7, [.ref su, .ref f5136_1, .ref (cs (400 + i)), .ref (cs (420 + i)), .ref (cs (460 + i)), .ref f5136_5, .long f5136_6, .int f5136_7, .int f5136_8, .int f5136_9, .int f5136_10, .int f5136_11, .int f5136_12, .int f5136_13, .int f5136_14, .int f5136_15]))] _ := va_P.cons hat5136 va_P.nil
      refine va_get (D := D) (ci := 7) (v := .int f5136_11) (C := RX7) (T := TX7) (N := 16) hx hb hts iX7_commitIfVoted_7 hown hN.1 hP 0 rfl rfl 11 (by decide) (hts _ mX7_commitIfVoted_4) (fun _ h9 => h9) rfl dX7_commitIfVoted_58 ?_
      refine lv_iconst (v := 1) hx hb dX7_commitIfVoted_61 (by decide) ?_
      refine lv_isub hx hb dX7_commitIfVoted_62 ?_
      refine gn_i (fun x5137 => ?_)
      refine lv_aload_n hx hb dX7_commitIfVoted_63 rfl (lv_at hl 0 rfl) ?_
      refine va_get (D := D) (ci := 7) (v := .ref (cs (420 + i))) (C := RX7) (T := TX7) (N := 16) hx hb hts iX7_commitIfVoted_7 hown hN.1 hP 0 rfl rfl 3 (by decide) (hts _ mX7_commitIfVoted_1) (fun _ h9 => h9) rfl dX7_commitIfVoted_64 ?_
      obtain ⟨hb5138, e5138, hat5138, hk5138⟩ := hT.o5 t5136_3.1
      obtain ⟨f5138_0, f5138_1, f5138_2, f5138_3, f5138_4, f5138_5, f5138_6, f5138_7, rfl, c5138⟩ := hk5138
      have hP : va_P D vwCl [((cs (420 + i)), .inr (4, [.int f5138_0, .int f5138_1, .int f5138_2, .int f5138_3, .int f5138_4, .int f5138_5, .int f5138_6, .int f5138_7])), (w, .inr (7, [.ref su, .ref f5136_1, .ref (cs (400 + i)), .ref (cs (420 + i)), .ref (cs (460 + i)), .ref f5136_5, .long f5136_6, .int f5136_7, .int f5136_8, .int f5136_9, .int f5136_10, .int f5136_11, .int f5136_12, .int f5136_13, .int f5136_14, .int f5136_15]))] _ := va_P.cons hat5138 hP
      refine va_getN (D := D) (ci := 4) (v := .int f5138_0) (C := RX4) (T := TX4) (N := 8) hx hb hts iX7_commitIfVoted_4 hown hN.1 hP 0 rfl rfl 0 (by decide) (hN.f 5 rfl) (fun _ h9 => h9) rfl dX7_commitIfVoted_67 ?_
      refine lv_aload_n hx hb dX7_commitIfVoted_70 rfl (lv_at hl 0 rfl) ?_
      refine va_get (D := D) (ci := 7) (v := .ref (cs (420 + i))) (C := RX7) (T := TX7) (N := 16) hx hb hts iX7_commitIfVoted_7 hown hN.1 hP 1 rfl rfl 3 (by decide) (hts _ mX7_commitIfVoted_1) (fun _ h9 => h9) rfl dX7_commitIfVoted_71 ?_
      refine va_getN (D := D) (ci := 4) (v := .int f5138_1) (C := RX4) (T := TX4) (N := 8) hx hb hts iX7_commitIfVoted_4 hown hN.1 hP 0 rfl rfl 1 (by decide) (hN.f 7 rfl) (fun _ h9 => h9) rfl dX7_commitIfVoted_74 ?_
      refine lv_iconst (v := 2) hx hb dX7_commitIfVoted_77 (by decide) ?_
      refine cv_v (As := [.int x5137, .int f5138_0, .int f5138_1, .int 2]) (rest := []) (b := r5135) ⟨hx, hb, hml, hown, hts⟩ (c_X3_takePlan hT (w := r5135) hqr5135 (x := x5137) (y := f5138_0) (z := f5138_1) (u := 2)) (cwV 4 hts gX7_commitIfVoted_X3_takePlan rfl rfl rfl hdX3_takePlan_v ⟨Nat.le_of_ble_eq_true rfl, Nat.le_of_ble_eq_true rfl⟩) hN hE hL (rcv4 hN hT hqr5135.1) rfl rfl hl.1 (Nat.le_of_ble_eq_true rfl) dX7_commitIfVoted_78 (Nat.zero_le _) (Nat.zero_le _) (fun H1 locs hL hqr5139 => ?_)
      obtain ⟨hT1, hF1⟩ := hqr5139
      have hMW := hMW.fr hT hw hsu hF1 (by first | (simp; done) | (simp [h15a, h15b, h15c]; done) | (simp; omega) | omega) (by first | (simp; done) | (simp [h15a, h15b, h15c]; done) | (simp; omega) | omega)
      have hF := hF.tr ((hF1.kf hKF).mono (by simp))
      have hT := hT1
      refine lv_aload_n hx hb dX7_commitIfVoted_81 rfl (lv_at hl 0 rfl) ?_
      refine lv_iconst (v := 4) hx hb dX7_commitIfVoted_82 (by decide) ?_
      refine W.know (fun hgb => ?_)
      rw [hH0] at hgb
      refine cv_v (As := [.int 4]) (rest := []) (b := w) ⟨hx, hb, hml, hown, hts⟩ (c_X7_sendToOthers_d1 hT (w := w) hw (x := 4) hsu htm hMW (by decide) (q0 := q0) (pl := pl) (by omega)) (cwV 1 hts gX7_commitIfVoted_X7_sendToOthers rfl rfl rfl hdX7_sendToOthers_v ⟨Nat.le_of_ble_eq_true rfl, Nat.le_of_ble_eq_true rfl⟩) hN hE hL (rcv8 hN hT hw.1) rfl rfl hl.1 (Nat.le_of_ble_eq_true rfl) dX7_commitIfVoted_83 (show 0 + ((56 * sumN C 16 + 22407 - 2 * sumN ln 16) / 35) ≤ ((56 * sumN C 16 + 22407 - 2 * sumN ln 16) / 35) by omega) (show 0 + (56 * sumN C 16 + 22407 - 2 * sumN ln 16) ≤ (56 * sumN C 16 + 22407 - 2 * sumN ln 16) by omega) (fun H1 locs hL hqr5140 => ?_)
      obtain ⟨κr5140, hxr5140, hT1, hF1, hqr5140⟩ := hqr5140
      have hTo := hT
      have hwo := hw
      have hsuo := hsu
      have hF9 := hF1
      have hF := hF.tr ((hF1.kf hKF).mono (by simp))
      have hT := hT1
      have hKF := hKF.tr hxr5140.f
      have hKU : KU i κ κr5140 := hKU.tr (KX.u (i := i) hxr5140)
      have hkw9 : κr5140 w = κ5134 w := hxr5140 w (by rw [hw.1]; decide)
      rw [← hkw9] at hsu htm
      have hko9 : κr5140 (cs (420 + i)) = κ5134 (cs (420 + i)) := hxr5140 _ (by rw [hpr.1]; decide)
      have hKW : κr5140 w = κ w := hkw9.trans hKW
      rw [← hko9] at hop1
      have hw := (hxr5140.f.t2 hw (by decide))
      have hpr := (hxr5140.f.t2 hpr (by decide))
      have hmk := (hxr5140.f.t2 hmk (by decide))
      have hli := (hxr5140.f.t2 hli (by decide))
      obtain ⟨c5141, l5142, w5143, k5144, n5145, m5146, g5147, e5148, o5149⟩ := hqr5140
      have hMW := m5146
      obtain ⟨k5150, n5151, hGP⟩ : ∃ k9 n9, GP H0 _ ln l5142 k9 n9 := ⟨_, _, GP.tr (show GP H0 _ ln ln _ _ from ⟨hgb, hGN⟩) g5147⟩
      refine W.tight (k := k5150) (n := n5151) (by rw [hH0]; exact hGP.1) ?_
      have hGN : GN ln l5142 k5150 n5151 := hGP.2
      have hgk5150 := hGN.1
      have hgn5151 := hGN.2
      have hsk5150 := hMW.2.2.1.sum
      refine W.know (fun hg => ?_)
      rw [hH0] at hg
      exact en_v hx hb hr hlocks hL (show k5150 ≤ ((56 * sumN C 16 + 22407 - 2 * sumN ln 16) / 35) by omega) (show n5151 ≤ (56 * sumN C 16 + 22407 - 2 * sumN ln 16) by omega) dX7_commitIfVoted_86 (⟨_, hKU, hT, hF, _, _, _, _, _, hMW, ⟨hg, hGN⟩, hKW, EL.cl9 (by rw [hop1]; decide) (by omega), o5149⟩)
    · refine W.know (fun hg => ?_)
      rw [hH0] at hg
      exact en_v hx hb hr hlocks hL (Nat.zero_le _) (Nat.zero_le _) dX7_commitIfVoted_27 (⟨κ, KU.rf, hT, hF, cn, ln, rw9, 0, 0, hMW, ⟨hg, GN.rf⟩, rfl, hbo, fun _ _ => Nat.le_refl _⟩)
theorem mX7_giveUp_1 : (.fieldLink RX7 27 "OneBeat$World" "latest" "LOneBeat$Proposal;" : Cond) ∈ wsX7_giveUp := List.mem_of_getElem? (i := 1) (by decide +kernel)
theorem iX7_giveUp_7 : ∀ w ∈ wsX70, w ∈ wsX7_giveUp := fun w h => List.mem_of_mem_drop (List.mem_of_mem_take ((show wsX70 = (wsX7_giveUp.drop 63).take 16 by decide +kernel) ▸ h))
theorem iX7_giveUp_4 : ∀ w ∈ wsX40, w ∈ wsX7_giveUp := fun w h => List.mem_of_mem_drop (List.mem_of_mem_take ((show wsX40 = (wsX7_giveUp.drop 79).take 8 by decide +kernel) ▸ h))
theorem mX7_giveUp_2 : (.fieldLink RX7 83 "OneBeat$World" "givenUp" "I" : Cond) ∈ wsX7_giveUp := List.mem_of_getElem? (i := 2) (by decide +kernel)
theorem iX7_giveUp_3 : ∀ w ∈ wsX30, w ∈ wsX7_giveUp := fun w h => List.mem_of_mem_drop (List.mem_of_mem_take ((show wsX30 = (wsX7_giveUp.drop 87).take 10 by decide +kernel) ▸ h))
theorem mX7_giveUp_3 : (.fieldLink RX7 77 "OneBeat$World" "made" "I" : Cond) ∈ wsX7_giveUp := List.mem_of_getElem? (i := 3) (by decide +kernel)
set_option maxHeartbeats 4000000 in
set_option maxRecDepth 100000 in
theorem c_X7_giveUp {l : Launch} {D : va_G} {cs : Nat → ClassId} {B0 T : Nat} {κ : KM} {H0 : Heap} (hT : WT B0 D cs T κ H0) {w i : Nat} (hw : T2 κ w 8 i) {C cn ln : Nat → Nat} {rw9 : Nat → Nat → Int32} {dl : Nat → Int32} {su tm : Nat} (hsu : (κ w).2.2.1 = su) (htm : (κ w).2.2.2 = tm) (hMW : MW D cs H0 i su tm C cn ln rw9 dl) {q0 pl b : Nat} (hbo : EL C dl cn rw9 q0 pl (κ (cs (420 + i))).2.2.1 b) (hb24 : b ≤ 24) (hop : (κ (cs (420 + i))).2.2.1 = 0) : KC l yX7_giveUp wsX7_giveUp 4 135 ((56 * sumN C 16 + 22407 - 2 * sumN ln 16) / 35) (56 * sumN C 16 + 22407 - 2 * sumN ln 16) D cs B0 H0 [.ref w] (Qv (fun H => ∃ κ1, KU i κ κ1 ∧ WT B0 D cs T κ1 H ∧ Fr B0 [i, i + 20] κ H0 H ∧ ∃ cn1 ln1 rw1 k n, MW D cs H i su tm C cn1 ln1 rw1 dl ∧ GP H0 H ln ln1 k n ∧ κ1 w = κ w ∧ EL C dl cn1 rw1 q0 pl (κ1 (cs (420 + i))).2.2.1 b)) := by
  refine KC.of cX7_giveUp 2 none (by decide) rfl (Nat.le_of_ble_eq_true rfl) ?_
  intro p e s m below meth c ls hx hb hr hml hown hts hlocks hin hN hE hH0 hl
  have hown : s.vm.findClass RX7 = some m.cls := hown
  have hl : lv_has ls 2 [(0, .ref w)] := hl
  have hL : OkL B0 [] := OkL.nil
  have hF : Fr B0 [i, i + 20] κ H0 H0 := Fr.rf
  obtain ⟨hmk, hpr, hli, -, hi10⟩ := hT.ml hw
  have ht16 := hMW.2.2.2
  have h15a : ¬ 15 = i := by omega
  have h15b : ¬ 15 = i + 20 := by omega
  have h15c : ¬ 15 = i + 40 := by omega
  have hGN : GN ln ln 0 0 := GN.rf
  have hs0 := hMW.2.2.1.sum
  have hb8 := hbo.op9 hop
  refine lv_aload_n hx hb dX7_giveUp_0 rfl (lv_at hl 0 rfl) ?_
  obtain ⟨hb5152, e5152, hat5152, hk5152⟩ := hT.o8 hw.1
  obtain ⟨f5152_0, f5152_1, f5152_2, f5152_3, f5152_4, f5152_5, f5152_6, f5152_7, f5152_8, f5152_9, f5152_10, f5152_11, f5152_12, f5152_13, f5152_14, f5152_15, rfl, t5152_0, c5152_su, t5152_1, t5152_2, t5152_3, t5152_4, t5152_5, c5152_tm, c5152_lt, c5152_ml, c5152_pr, c5152_li⟩ := hk5152
  rw [hw.2] at t5152_1
  rw [hw.2] at t5152_2
  rw [hw.2] at t5152_3
  rw [hw.2] at t5152_4
  rw [hw.2] at t5152_5
  rw [hw.2] at c5152_lt c5152_ml c5152_pr c5152_li
  subst c5152_ml
  subst c5152_pr
  subst c5152_li
  have esu5152 := (c5152_su.trans hsu).symm
  subst esu5152
  have ctm5152 : f5152_7 &&& 15 = nI tm := by rw [c5152_tm, htm]
  have hP : va_P D vwCl [(w, .inr (7, [.ref su, .ref f5152_1, .ref (cs (400 + i)), .ref (cs (420 + i)), .ref (cs (460 + i)), .ref f5152_5, .long f5152_6, .int f5152_7, .int f5152_8, .int f5152_9, .int f5152_10, .int f5152_11, .int f5152_12, .int f5152_13, .int f5152_14, .int f5152_15]))] _ := va_P.cons hat5152 va_P.nil
  refine va_get (D := D) (ci := 7) (v := .ref (cs (420 + i))) (C := RX7) (T := TX7) (N := 16) hx hb hts iX7_giveUp_7 hown hN.1 hP 0 rfl rfl 3 (by decide) (hts _ mX7_giveUp_1) (fun _ h9 => h9) rfl dX7_giveUp_1 ?_
  refine lv_iconst (v := 2) hx hb dX7_giveUp_4 (by decide) ?_
  obtain ⟨hb5153, e5153, hat5153, hk5153⟩ := hT.o5 t5152_3.1
  obtain ⟨f5153_0, f5153_1, f5153_2, f5153_3, f5153_4, f5153_5, f5153_6, f5153_7, rfl, c5153⟩ := hk5153
  have hP : va_P D vwCl [((cs (420 + i)), .inr (4, [.int f5153_0, .int f5153_1, .int f5153_2, .int f5153_3, .int f5153_4, .int f5153_5, .int f5153_6, .int f5153_7])), (w, .inr (7, [.ref su, .ref f5152_1, .ref (cs (400 + i)), .ref (cs (420 + i)), .ref (cs (460 + i)), .ref f5152_5, .long f5152_6, .int f5152_7, .int f5152_8, .int f5152_9, .int f5152_10, .int f5152_11, .int f5152_12, .int f5152_13, .int f5152_14, .int f5152_15]))] _ := va_P.cons hat5153 hP
  have hB : Bx B0 D _ [((cs (420 + i)), .inr (4, [.int f5153_0, .int f5153_1, .int f5153_2, .int f5153_3, .int f5153_4, .int f5153_5, .int f5153_6, .int f5153_7])), (w, .inr (7, [.ref su, .ref f5152_1, .ref (cs (400 + i)), .ref (cs (420 + i)), .ref (cs (460 + i)), .ref f5152_5, .long f5152_6, .int f5152_7, .int f5152_8, .int f5152_9, .int f5152_10, .int f5152_11, .int f5152_12, .int f5152_13, .int f5152_14, .int f5152_15]))] [] _ _ := Bx.of (fun a => (κ a).1) hL hP (fa_c hb5153 (fa_c hb5152 fa_n)) (by simp only [List.map_cons, List.map_nil, t5152_3.1, hw.1]; decide)
  refine b_putN (D := D) (ci := 4) (v := .int 2) (ty := .int) (C := RX4) (T := TX4) (N := 8) hx hb hts iX7_giveUp_4 tyX4 tyX4_ok nmX4 hown hN hB 0 rfl rfl 5 (by decide) (hN.f 12 rfl) (fun _ h9 => h9) rfl (by decide +kernel) rfl rfl (Nat.le_of_ble_eq_true rfl) (.inl rfl) dX7_giveUp_5 (fun H locs hB => ?_)
  have hB : Bx B0 D _ [((cs (420 + i)), .inr (4, [.int f5153_0, .int f5153_1, .int f5153_2, .int f5153_3, .int f5153_4, .int 2, .int f5153_6, .int f5153_7])), (w, .inr (7, [.ref su, .ref f5152_1, .ref (cs (400 + i)), .ref (cs (420 + i)), .ref (cs (460 + i)), .ref f5152_5, .long f5152_6, .int f5152_7, .int f5152_8, .int f5152_9, .int f5152_10, .int f5152_11, .int f5152_12, .int f5152_13, .int f5152_14, .int f5152_15]))] [(cs (420 + i))] _ _ := hB
  refine lv_aload_n hx hb dX7_giveUp_8 rfl (lv_at hl 0 rfl) ?_
  refine lv_dup hx hb dX7_giveUp_9 rfl ?_
  refine va_get (D := D) (ci := 7) (v := .int f5152_13) (C := RX7) (T := TX7) (N := 16) hx hb hts iX7_giveUp_7 hown hN.1 hB.1 1 rfl rfl 13 (by decide) (hts _ mX7_giveUp_2) (fun _ h9 => h9) rfl dX7_giveUp_10 ?_
  refine lv_iconst (v := 1) hx hb dX7_giveUp_13 (by decide) ?_
  refine lv_iadd hx hb dX7_giveUp_14 ?_
  refine gn_i (fun x5154 => ?_)
  refine b_put (D := D) (ci := 7) (v := .int x5154) (ty := .int) (C := RX7) (T := TX7) (N := 16) hx hb hts iX7_giveUp_7 tyX7 tyX7_ok nmX7 hown hN hB 1 rfl rfl 13 (by decide) (hts _ mX7_giveUp_2) (fun _ h9 => h9) rfl (by decide +kernel) rfl rfl (Nat.le_of_ble_eq_true rfl) (.inl rfl) dX7_giveUp_15 (fun H locs hB => ?_)
  have hB : Bx B0 D _ [((cs (420 + i)), .inr (4, [.int f5153_0, .int f5153_1, .int f5153_2, .int f5153_3, .int f5153_4, .int 2, .int f5153_6, .int f5153_7])), (w, .inr (7, [.ref su, .ref f5152_1, .ref (cs (400 + i)), .ref (cs (420 + i)), .ref (cs (460 + i)), .ref f5152_5, .long f5152_6, .int f5152_7, .int f5152_8, .int f5152_9, .int f5152_10, .int f5152_11, .int f5152_12, .int x5154, .int f5152_14, .int f5152_15]))] [w, (cs (420 + i))] _ _ := hB
  refine lv_aload_n hx hb dX7_giveUp_18 rfl (lv_at hl 0 rfl) ?_
  refine lv_aload_n hx hb dX7_giveUp_19 rfl (lv_at hl 0 rfl) ?_
  refine va_get (D := D) (ci := 7) (v := .ref (cs (420 + i))) (C := RX7) (T := TX7) (N := 16) hx hb hts iX7_giveUp_7 hown hN.1 hB.1 1 rfl rfl 3 (by decide) (hts _ mX7_giveUp_1) (fun _ h9 => h9) rfl dX7_giveUp_20 ?_
  refine va_getN (D := D) (ci := 4) (v := .int f5153_3) (C := RX4) (T := TX4) (N := 8) hx hb hts iX7_giveUp_4 hown hN.1 hB.1 0 rfl rfl 3 (by decide) (hN.f 9 rfl) (fun _ h9 => h9) rfl dX7_giveUp_23 ?_
  have hMW := hMW.fr hT hw hsu (Fr.close (S := [i]) Fr.rf hB (fa_c (by simp [hw.2]) (fa_c (by simp [t5152_3.2]) fa_n))) (by first | (simp; done) | (simp [h15a, h15b, h15c]; done) | (simp; omega) | omega) (by first | (simp; done) | (simp [h15a, h15b, h15c]; done) | (simp; omega) | omega)
  have hF : Fr B0 [i, i + 20] κ H0 _ := hF.close hB (fa_c (by simp [hw.2]) (fa_c (by simp [t5152_3.2]) fa_n))
  have hT : WT B0 D cs T (kp κ (cs (420 + i)) 1 (κ (cs (420 + i))).2.2.2) _ := hT.closeK (cs (420 + i)) 1 (κ (cs (420 + i))).2.2.2 hB (by rw [t5152_3.1]; decide) (by rw [t5152_3.1]; decide) (List.mem_of_getElem? (i := 1) rfl) ⟨⟨1, _, rfl, kp_oth (ne_c hw.1 t5152_3.1 (by decide)) (by rw [t5152_3.1]; decide) (by rw [t5152_3.1]; decide) (ok_8 hw.1 ⟨_, _, _, _, _, _, _, _, _, _, _, _, _, _, _, _, rfl, t5152_0, c5152_su, ⟨t5152_1.1, by rw [hw.2]; exact t5152_1.2⟩, ⟨t5152_2.1, by rw [hw.2]; exact t5152_2.2⟩, ⟨t5152_3.1, by rw [hw.2]; exact t5152_3.2⟩, ⟨t5152_4.1, by rw [hw.2]; exact t5152_4.2⟩, ⟨t5152_5.1, by rw [hw.2]; exact t5152_5.2⟩, c5152_tm, (by rw [hw.2]; omega), (by first | rw [hw.2] | (dsimp only; rw [hw.2])), (by first | rw [hw.2] | (dsimp only; rw [hw.2])), (by first | rw [hw.2] | (dsimp only; rw [hw.2]))⟩)⟩, ⟨⟨0, _, rfl, kp_ok (ok_5 (k := ((κ (cs (420 + i))).1, (κ (cs (420 + i))).2.1, _, _)) t5152_3.1 ⟨_, _, _, _, _, _, _, _, rfl, ⟨fun h9 => absurd h9 (by decide), fun h9 => absurd (show (1 : Nat) = 0 from h9) (by decide)⟩⟩)⟩, trivial⟩⟩
  have hL : OkL B0 _ := hB.2.2.2.2.2
  have hP : va_P D vwCl [((cs (420 + i)), .inr (4, [.int f5153_0, .int f5153_1, .int f5153_2, .int f5153_3, .int f5153_4, .int 2, .int f5153_6, .int f5153_7])), (w, .inr (7, [.ref su, .ref f5152_1, .ref (cs (400 + i)), .ref (cs (420 + i)), .ref (cs (460 + i)), .ref f5152_5, .long f5152_6, .int f5152_7, .int f5152_8, .int f5152_9, .int f5152_10, .int f5152_11, .int f5152_12, .int x5154, .int f5152_14, .int f5152_15]))] _ := hB.1
  obtain ⟨κ5155, hκ5155⟩ : ∃ κ9 : KM, κ9 = (kp κ (cs (420 + i)) 1 (κ (cs (420 + i))).2.2.2) := ⟨_, rfl⟩
  have hxf5155 : KF κ κ5155 := by rw [hκ5155]; exact KF.kp
  rw [← hκ5155] at hT
  have hKF : KF κ κ5155 := hxf5155
  have hKU : KU i κ κ5155 := (show KU i κ κ5155 by rw [hκ5155]; exact KU.kp t5152_3)
  have hkw9 : κ5155 w = κ w := by rw [hκ5155]; exact kp_n (ne_c hw.1 t5152_3.1 (by decide))
  rw [← hkw9] at hsu htm
  have hKW : κ5155 w = κ w := hkw9
  have hw := (KF.t2 hxf5155 hw (by decide))
  have hpr := (KF.t2 hxf5155 hpr (by decide))
  have hmk := (KF.t2 hxf5155 hmk (by decide))
  have hli := (KF.t2 hxf5155 hli (by decide))
  have hop1 : (κ5155 (cs (420 + i))).2.2.1 = 1 := by rw [hκ5155, kp_a]
  refine cv_r (As := [.int f5153_3]) (rest := []) (b := w) ⟨hx, hb, hml, hown, hts⟩ (c_X7_at hT (w := w) hw (x := f5153_3)) (cwV 1 hts gX7_giveUp_X7_at rfl rfl rfl hdX7_at_v ⟨Nat.le_of_ble_eq_true rfl, Nat.le_of_ble_eq_true rfl⟩) hN hE hL (rcv8 hN hT hw.1) rfl rfl hl.1 (Nat.le_of_ble_eq_true rfl) dX7_giveUp_26 (Nat.zero_le _) (Nat.zero_le _) (fun r5156 H1 locs hL hqr5156 => ?_)
  obtain ⟨h9, hqr5156⟩ := hqr5156; replace h9 := h9.symm; subst h9
  refine lv_astore_n (lv' := [(1, .ref r5156), (0, .ref w)]) hx hb dX7_giveUp_29 rfl hl (by decide) rfl (fun ls hl => ?_)
  refine lv_aload_n hx hb dX7_giveUp_30 rfl (lv_at hl 0 rfl) ?_
  obtain ⟨hb5157, e5157, hat5157, hk5157⟩ := hT.o4 hqr5156.1
  obtain ⟨f5157_0, f5157_1, f5157_2, f5157_3, f5157_4, f5157_5, f5157_6, f5157_7, f5157_8, f5157_9, rfl, c5157_up⟩ := hk5157
  have hP : va_P D vwCl [(r5156, .inr (3, [.int f5157_0, .int f5157_1, .int f5157_2, .int f5157_3, .int f5157_4, .int f5157_5, .int f5157_6, .int f5157_7, .int f5157_8, .int f5157_9]))] _ := va_P.cons hat5157 va_P.nil
  refine va_getN (D := D) (ci := 3) (v := .int f5157_0) (C := RX3) (T := TX3) (N := 10) hx hb hts iX7_giveUp_3 hown hN.1 hP 0 rfl rfl 0 (by decide) (hN.f 27 rfl) (fun _ h9 => h9) rfl dX7_giveUp_31 ?_
  refine lv_if_ne (tgt := 38) hx hb dX7_giveUp_34 (by decide) (fun c5158 => ?_) (fun c5158 => ?_)
  · refine lv_aload_n hx hb dX7_giveUp_38 rfl (lv_at hl 0 rfl) ?_
    refine va_getN (D := D) (ci := 3) (v := .int f5157_4) (C := RX3) (T := TX3) (N := 10) hx hb hts iX7_giveUp_3 hown hN.1 hP 0 rfl rfl 4 (by decide) (hN.f 32 rfl) (fun _ h9 => h9) rfl dX7_giveUp_39 ?_
    refine lv_aload_n hx hb dX7_giveUp_42 rfl (lv_at hl 1 rfl) ?_
    obtain ⟨hb5159, e5159, hat5159, hk5159⟩ := hT.o8 hw.1
    obtain ⟨f5159_0, f5159_1, f5159_2, f5159_3, f5159_4, f5159_5, f5159_6, f5159_7, f5159_8, f5159_9, f5159_10, f5159_11, f5159_12, f5159_13, f5159_14, f5159_15, rfl, t5159_0, c5159_su, t5159_1, t5159_2, t5159_3, t5159_4, t5159_5, c5159_tm, c5159_lt, c5159_ml, c5159_pr, c5159_li⟩ := hk5159
    rw [hw.2] at t5159_1
    rw [hw.2] at t5159_2
    rw [hw.2] at t5159_3
    rw [hw.2] at t5159_4
    rw [hw.2] at t5159_5
    rw [hw.2] at c5159_lt c5159_ml c5159_pr c5159_li
    subst c5159_ml
    subst c5159_pr
    subst c5159_li
    have esu5159 := (c5159_su.trans hsu).symm
    subst esu5159
    have ctm5159 : f5159_7 &&& 15 = nI tm := by rw [c5159_tm, htm]
    have hP : va_P D vwCl [(w, .inr (7, [.ref su, .ref f5159_1, .ref (cs (400 + i)), .ref (cs (420 + i)), .ref (cs (460 + i)), .ref f5159_5, .long f5159_6, .int f5159_7, .int f5159_8, .int f5159_9, .int f5159_10, .int f5159_11, .int f5159_12, .int f5159_13, .int f5159_14, .int f5159_15])), (r5156, .inr (3, [.int f5157_0, .int f5157_1, .int f5157_2, .int f5157_3, .int f5157_4, .int f5157_5, .int f5157_6, .int f5157_7, .int f5157_8, .int f5157_9]))] _ := va_P.cons hat5159 hP
    refine va_get (D := D) (ci := 7) (v := .int f5159_11) (C := RX7) (T := TX7) (N := 16) hx hb hts iX7_giveUp_7 hown hN.1 hP 0 rfl rfl 11 (by decide) (hts _ mX7_giveUp_3) (fun _ h9 => h9) rfl dX7_giveUp_43 ?_
    refine lv_iconst (v := 1) hx hb dX7_giveUp_46 (by decide) ?_
    refine lv_isub hx hb dX7_giveUp_47 ?_
    refine gn_i (fun x5160 => ?_)
    refine lv_icmp_ne (tgt := 55) hx hb dX7_giveUp_48 (by decide) (fun c5161 => ?_) (fun c5161 => ?_)
    · refine lv_aload_n hx hb dX7_giveUp_55 rfl (lv_at hl 1 rfl) ?_
      refine lv_iconst (v := 5) hx hb dX7_giveUp_56 (by decide) ?_
      refine W.know (fun hgb => ?_)
      rw [hH0] at hgb
      refine cv_v (As := [.int 5]) (rest := []) (b := w) ⟨hx, hb, hml, hown, hts⟩ (c_X7_sendToOthers_d1 hT (w := w) hw (x := 5) hsu htm hMW (by decide) (q0 := q0) (pl := pl) (by omega)) (cwV 1 hts gX7_giveUp_X7_sendToOthers rfl rfl rfl hdX7_sendToOthers_v ⟨Nat.le_of_ble_eq_true rfl, Nat.le_of_ble_eq_true rfl⟩) hN hE hL (rcv8 hN hT hw.1) rfl rfl hl.1 (Nat.le_of_ble_eq_true rfl) dX7_giveUp_57 (show 0 + ((56 * sumN C 16 + 22407 - 2 * sumN ln 16) / 35) ≤ ((56 * sumN C 16 + 22407 - 2 * sumN ln 16) / 35) by omega) (show 0 + (56 * sumN C 16 + 22407 - 2 * sumN ln 16) ≤ (56 * sumN C 16 + 22407 - 2 * sumN ln 16) by omega) (fun H1 locs hL hqr5162 => ?_)
      obtain ⟨κr5162, hxr5162, hT1, hF1, hqr5162⟩ := hqr5162
      have hTo := hT
      have hwo := hw
      have hsuo := hsu
      have hF9 := hF1
      have hF := hF.tr ((hF1.kf hKF).mono (by simp))
      have hT := hT1
      have hKF := hKF.tr hxr5162.f
      have hKU : KU i κ κr5162 := hKU.tr (KX.u (i := i) hxr5162)
      have hkw9 : κr5162 w = κ5155 w := hxr5162 w (by rw [hw.1]; decide)
      rw [← hkw9] at hsu htm
      have hko9 : κr5162 (cs (420 + i)) = κ5155 (cs (420 + i)) := hxr5162 _ (by rw [hpr.1]; decide)
      have hKW : κr5162 w = κ w := hkw9.trans hKW
      rw [← hko9] at hop1
      have hqr5156 := (hxr5162.f.t2 hqr5156 (by decide))
      have hw := (hxr5162.f.t2 hw (by decide))
      have hpr := (hxr5162.f.t2 hpr (by decide))
      have hmk := (hxr5162.f.t2 hmk (by decide))
      have hli := (hxr5162.f.t2 hli (by decide))
      obtain ⟨c5163, l5164, w5165, k5166, n5167, m5168, g5169, e5170, o5171⟩ := hqr5162
      have hMW := m5168
      obtain ⟨k5172, n5173, hGP⟩ : ∃ k9 n9, GP H0 _ ln l5164 k9 n9 := ⟨_, _, GP.tr (show GP H0 _ ln ln _ _ from ⟨hgb, hGN⟩) g5169⟩
      refine W.tight (k := k5172) (n := n5173) (by rw [hH0]; exact hGP.1) ?_
      have hGN : GN ln l5164 k5172 n5173 := hGP.2
      have hgk5172 := hGN.1
      have hgn5173 := hGN.2
      have hsk5172 := hMW.2.2.1.sum
      refine W.know (fun hg => ?_)
      rw [hH0] at hg
      exact en_v hx hb hr hlocks hL (show k5172 ≤ ((56 * sumN C 16 + 22407 - 2 * sumN ln 16) / 35) by omega) (show n5173 ≤ (56 * sumN C 16 + 22407 - 2 * sumN ln 16) by omega) dX7_giveUp_60 (⟨_, hKU, hT, hF, _, _, _, _, _, hMW, ⟨hg, hGN⟩, hKW, EL.cl9 (by rw [hop1]; decide) (by omega)⟩)
    · refine lv_aload_n hx hb dX7_giveUp_51 rfl (lv_at hl 0 rfl) ?_
      refine cv_v (As := []) (rest := []) (b := r5156) ⟨hx, hb, hml, hown, hts⟩ (c_X3_dropPlan hT (w := r5156) hqr5156) (cwV 0 hts gX7_giveUp_X3_dropPlan rfl rfl rfl hdX3_dropPlan_v ⟨Nat.le_of_ble_eq_true rfl, Nat.le_of_ble_eq_true rfl⟩) hN hE hL (rcv4 hN hT hqr5156.1) rfl rfl hl.1 (Nat.le_of_ble_eq_true rfl) dX7_giveUp_52 (Nat.zero_le _) (Nat.zero_le _) (fun H1 locs hL hqr5174 => ?_)
      obtain ⟨hT1, hF1⟩ := hqr5174
      have hMW := hMW.fr hT hw hsu hF1 (by first | (simp; done) | (simp [h15a, h15b, h15c]; done) | (simp; omega) | omega) (by first | (simp; done) | (simp [h15a, h15b, h15c]; done) | (simp; omega) | omega)
      have hF := hF.tr ((hF1.kf hKF).mono (by simp))
      have hT := hT1
      refine lv_aload_n hx hb dX7_giveUp_55 rfl (lv_at hl 1 rfl) ?_
      refine lv_iconst (v := 5) hx hb dX7_giveUp_56 (by decide) ?_
      refine W.know (fun hgb => ?_)
      rw [hH0] at hgb
      refine cv_v (As := [.int 5]) (rest := []) (b := w) ⟨hx, hb, hml, hown, hts⟩ (c_X7_sendToOthers_d1 hT (w := w) hw (x := 5) hsu htm hMW (by decide) (q0 := q0) (pl := pl) (by omega)) (cwV 1 hts gX7_giveUp_X7_sendToOthers rfl rfl rfl hdX7_sendToOthers_v ⟨Nat.le_of_ble_eq_true rfl, Nat.le_of_ble_eq_true rfl⟩) hN hE hL (rcv8 hN hT hw.1) rfl rfl hl.1 (Nat.le_of_ble_eq_true rfl) dX7_giveUp_57 (show 0 + ((56 * sumN C 16 + 22407 - 2 * sumN ln 16) / 35) ≤ ((56 * sumN C 16 + 22407 - 2 * sumN ln 16) / 35) by omega) (show 0 + (56 * sumN C 16 + 22407 - 2 * sumN ln 16) ≤ (56 * sumN C 16 + 22407 - 2 * sumN ln 16) by omega) (fun H1 locs hL hqr5175 => ?_)
      obtain ⟨κr5175, hxr5175, hT1, hF1, hqr5175⟩ := hqr5175
      have hTo := hT
      have hwo := hw
      have hsuo := hsu
      have hF9 := hF1
      have hF := hF.tr ((hF1.kf hKF).mono (by simp))
      have hT := hT1
      have hKF := hKF.tr hxr5175.f
      have hKU : KU i κ κr5175 := hKU.tr (KX.u (i := i) hxr5175)
      have hkw9 : κr5175 w = κ5155 w := hxr5175 w (by rw [hw.1]; decide)
      rw [← hkw9] at hsu htm
      have hko9 : κr5175 (cs (420 + i)) = κ5155 (cs (420 + i)) := hxr5175 _ (by rw [hpr.1]; decide)
      have hKW : κr5175 w = κ w := hkw9.trans hKW
      rw [← hko9] at hop1
      have hqr5156 := (hxr5175.f.t2 hqr5156 (by decide))
      have hw := (hxr5175.f.t2 hw (by decide))
      have hpr := (hxr5175.f.t2 hpr (by decide))
      have hmk := (hxr5175.f.t2 hmk (by decide))
      have hli := (hxr5175.f.t2 hli (by decide))
      obtain ⟨c5176, l5177, w5178, k5179, n5180, m5181, g5182, e5183, o5184⟩ := hqr5175
      have hMW := m5181
      obtain ⟨k5185, n5186, hGP⟩ : ∃ k9 n9, GP H0 _ ln l5177 k9 n9 := ⟨_, _, GP.tr (show GP H0 _ ln ln _ _ from ⟨hgb, hGN⟩) g5182⟩
      refine W.tight (k := k5185) (n := n5186) (by rw [hH0]; exact hGP.1) ?_
      have hGN : GN ln l5177 k5185 n5186 := hGP.2
      have hgk5185 := hGN.1
      have hgn5186 := hGN.2
      have hsk5185 := hMW.2.2.1.sum
      refine W.know (fun hg => ?_)
      rw [hH0] at hg
      exact en_v hx hb hr hlocks hL (show k5185 ≤ ((56 * sumN C 16 + 22407 - 2 * sumN ln 16) / 35) by omega) (show n5186 ≤ (56 * sumN C 16 + 22407 - 2 * sumN ln 16) by omega) dX7_giveUp_60 (⟨_, hKU, hT, hF, _, _, _, _, _, hMW, ⟨hg, hGN⟩, hKW, EL.cl9 (by rw [hop1]; decide) (by omega)⟩)
  · refine W.know (fun hg => ?_)
    rw [hH0] at hg
    exact en_v hx hb hr hlocks hL (Nat.zero_le _) (Nat.zero_le _) dX7_giveUp_37 (⟨_, hKU, hT, hF, _, _, _, _, _, hMW, ⟨hg, hGN⟩, hKW, EL.cl9 (by rw [hop1]; decide) (by omega)⟩)
theorem mX7_receive_1 : (.fieldLink RX7 34 "OneBeat$World" "incoming" "LOneBeat$Letter;" : Cond) ∈ wsX7_receive := List.mem_of_getElem? (i := 1) (by decide +kernel)
theorem iX7_receive_7 : ∀ w ∈ wsX70, w ∈ wsX7_receive := fun w h => List.mem_of_mem_drop (List.mem_of_mem_take ((show wsX70 = (wsX7_receive.drop 80).take 16 by decide +kernel) ▸ h))
theorem iX7_receive_1 : ∀ w ∈ wsX10, w ∈ wsX7_receive := fun w h => List.mem_of_mem_drop (List.mem_of_mem_take ((show wsX10 = (wsX7_receive.drop 96).take 7 by decide +kernel) ▸ h))
theorem iX7_receive_3 : ∀ w ∈ wsX30, w ∈ wsX7_receive := fun w h => List.mem_of_mem_drop (List.mem_of_mem_take ((show wsX30 = (wsX7_receive.drop 103).take 10 by decide +kernel) ▸ h))
theorem mX7_receive_3 : (.fieldLink RX7 68 "OneBeat$World" "conductor" "I" : Cond) ∈ wsX7_receive := List.mem_of_getElem? (i := 3) (by decide +kernel)
theorem hdX7_isOpen_v : yX7_isOpen.cls = RX7 ∧ yX7_isOpen.cls ≠ "java/lang/invoke/MethodHandle" ∧ yX7_isOpen.cls ≠ "java/lang/invoke/VarHandle" ∧ (parseMethodDescriptor yX7_isOpen.desc).map (fun d => d.parameters.length) = some 1 := by decide +kernel
theorem mX7_receive_4 : (.fieldLink RX7 27 "OneBeat$World" "latest" "LOneBeat$Proposal;" : Cond) ∈ wsX7_receive := List.mem_of_getElem? (i := 4) (by decide +kernel)
theorem iX7_receive_4 : ∀ w ∈ wsX40, w ∈ wsX7_receive := fun w h => List.mem_of_mem_drop (List.mem_of_mem_take ((show wsX40 = (wsX7_receive.drop 113).take 8 by decide +kernel) ▸ h))
theorem mX7_receive_2 : (.fieldLink RX7 74 "OneBeat$World" "lost" "I" : Cond) ∈ wsX7_receive := List.mem_of_getElem? (i := 2) (by decide +kernel)
set_option maxHeartbeats 4000000 in
set_option maxRecDepth 100000 in
theorem c_X7_receive {l : Launch} {D : va_G} {cs : Nat → ClassId} {B0 T : Nat} {κ : KM} {H0 : Heap} (hT : WT B0 D cs T κ H0) {w i : Nat} (hw : T2 κ w 8 i) {C cn ln : Nat → Nat} {rw9 : Nat → Nat → Int32} {dl : Nat → Int32} {su tm : Nat} (hsu : (κ w).2.2.1 = su) (htm : (κ w).2.2.2 = tm) (hMW : MW D cs H0 i su tm C cn ln rw9 dl) {pl b : Nat} (hpl : pl < cn tm) (hbo : EL C dl cn rw9 tm pl (κ (cs (420 + i))).2.2.1 b) (hb24 : b ≤ 24) {b0 b1 b2 b3 b4 b5 b6 : Int32} (hli9 : va_at D vwCl (cs (460 + i), .inr (1, [.int b0, .int b1, .int b2, .int b3, .int b4, .int b5, .int b6])) H0) (e0 : b0 = rw9 tm (7 * pl)) (e1 : b1 = rw9 tm (7 * pl + 1)) (e2 : b2 = rw9 tm (7 * pl + 2)) : KC l yX7_receive wsX7_receive 3 113 ((56 * sumN C 16 + 22407 - 2 * sumN ln 16) / 35) (56 * sumN C 16 + 22407 - 2 * sumN ln 16) D cs B0 H0 [.ref w] (Qv (fun H => ∃ κ1, KX κ κ1 ∧ WT B0 D cs T κ1 H ∧ Fr B0 [i, i + 20] κ H0 H ∧ ∃ cn1 ln1 rw1 k n, MW D cs H i su tm C cn1 ln1 rw1 dl ∧ GP H0 H ln ln1 k n ∧ EL C dl cn1 rw1 tm (pl + 1) (κ (cs (420 + i))).2.2.1 b ∧ ∀ q, q < 16 → cn q ≤ cn1 q)) := by
  refine KC.of cX7_receive 4 none (by decide) rfl (Nat.le_of_ble_eq_true rfl) ?_
  intro p e s m below meth c ls hx hb hr hml hown hts hlocks hin hN hE hH0 hl
  have hown : s.vm.findClass RX7 = some m.cls := hown
  have hl : lv_has ls 4 [(0, .ref w)] := hl
  have hL : OkL B0 [] := OkL.nil
  have hF : Fr B0 [i, i + 20] κ H0 H0 := Fr.rf
  obtain ⟨hmk, hpr, hli, -, hi10⟩ := hT.ml hw
  have ht16 := hMW.2.2.2
  have h15a : ¬ 15 = i := by omega
  have h15b : ¬ 15 = i + 20 := by omega
  have h15c : ¬ 15 = i + 40 := by omega
  have hGN : GN ln ln 0 0 := GN.rf
  have hs0 := hMW.2.2.1.sum
  have hbli : B0 ≤ cs (460 + i) := (hT.o2 hli.1).1
  have hEE0 := Nat.le_trans hbo.le9 hb24
  have hP : va_P D vwCl [((cs (460 + i)), .inr (1, [.int b0, .int b1, .int b2, .int b3, .int b4, .int b5, .int b6]))] _ := va_P.cons hli9 va_P.nil
  refine lv_aload_n hx hb dX7_receive_0 rfl (lv_at hl 0 rfl) ?_
  obtain ⟨hb5187, e5187, hat5187, hk5187⟩ := hT.o8 hw.1
  obtain ⟨f5187_0, f5187_1, f5187_2, f5187_3, f5187_4, f5187_5, f5187_6, f5187_7, f5187_8, f5187_9, f5187_10, f5187_11, f5187_12, f5187_13, f5187_14, f5187_15, rfl, t5187_0, c5187_su, t5187_1, t5187_2, t5187_3, t5187_4, t5187_5, c5187_tm, c5187_lt, c5187_ml, c5187_pr, c5187_li⟩ := hk5187
  rw [hw.2] at t5187_1
  rw [hw.2] at t5187_2
  rw [hw.2] at t5187_3
  rw [hw.2] at t5187_4
  rw [hw.2] at t5187_5
  rw [hw.2] at c5187_lt c5187_ml c5187_pr c5187_li
  subst c5187_ml
  subst c5187_pr
  subst c5187_li
  have esu5187 := (c5187_su.trans hsu).symm
  subst esu5187
  have ctm5187 : f5187_7 &&& 15 = nI tm := by rw [c5187_tm, htm]
  have hP : va_P D vwCl [(w, .inr (7, [.ref su, .ref f5187_1, .ref (cs (400 + i)), .ref (cs (420 + i)), .ref (cs (460 + i)), .ref f5187_5, .long f5187_6, .int f5187_7, .int f5187_8, .int f5187_9, .int f5187_10, .int f5187_11, .int f5187_12, .int f5187_13, .int f5187_14, .int f5187_15])), ((cs (460 + i)), .inr (1, [.int b0, .int b1, .int b2, .int b3, .int b4, .int b5, .int b6]))] _ := va_P.cons hat5187 hP
  refine va_get (D := D) (ci := 7) (v := .ref (cs (460 + i))) (C := RX7) (T := TX7) (N := 16) hx hb hts iX7_receive_7 hown hN.1 hP 0 rfl rfl 4 (by decide) (hts _ mX7_receive_1) (fun _ h9 => h9) rfl dX7_receive_1 ?_
  refine lv_astore_n (lv' := [(1, .ref (cs (460 + i))), (0, .ref w)]) hx hb dX7_receive_4 rfl hl (by decide) rfl (fun ls hl => ?_)
  refine lv_aload_n hx hb dX7_receive_5 rfl (lv_at hl 1 rfl) ?_
  refine lv_aload_n hx hb dX7_receive_6 rfl (lv_at hl 0 rfl) ?_
  refine va_getN (D := D) (ci := 1) (v := .int b2) (C := RX1) (T := TX1) (N := 7) hx hb hts iX7_receive_1 hown hN.1 hP 1 rfl rfl 2 (by decide) (hN.f 18 rfl) (fun _ h9 => h9) rfl dX7_receive_7 ?_
  refine cv_r (As := [.int b2]) (rest := []) (b := w) ⟨hx, hb, hml, hown, hts⟩ (c_X7_at hT (w := w) hw (x := b2)) (cwV 1 hts gX7_receive_X7_at rfl rfl rfl hdX7_at_v ⟨Nat.le_of_ble_eq_true rfl, Nat.le_of_ble_eq_true rfl⟩) hN hE hL (rcv8 hN hT hw.1) rfl rfl hl.1 (Nat.le_of_ble_eq_true rfl) dX7_receive_10 (Nat.zero_le _) (Nat.zero_le _) (fun r5188 H1 locs hL hqr5188 => ?_)
  obtain ⟨h9, hqr5188⟩ := hqr5188; replace h9 := h9.symm; subst h9
  refine lv_astore_n (lv' := [(2, .ref r5188), (1, .ref (cs (460 + i))), (0, .ref w)]) hx hb dX7_receive_13 rfl hl (by decide) rfl (fun ls hl => ?_)
  refine lv_aload_n hx hb dX7_receive_14 rfl (lv_at hl 0 rfl) ?_
  obtain ⟨hb5189, e5189, hat5189, hk5189⟩ := hT.o4 hqr5188.1
  obtain ⟨f5189_0, f5189_1, f5189_2, f5189_3, f5189_4, f5189_5, f5189_6, f5189_7, f5189_8, f5189_9, rfl, c5189_up⟩ := hk5189
  have hP : va_P D vwCl [(r5188, .inr (3, [.int f5189_0, .int f5189_1, .int f5189_2, .int f5189_3, .int f5189_4, .int f5189_5, .int f5189_6, .int f5189_7, .int f5189_8, .int f5189_9])), (w, .inr (7, [.ref su, .ref f5187_1, .ref (cs (400 + i)), .ref (cs (420 + i)), .ref (cs (460 + i)), .ref f5187_5, .long f5187_6, .int f5187_7, .int f5187_8, .int f5187_9, .int f5187_10, .int f5187_11, .int f5187_12, .int f5187_13, .int f5187_14, .int f5187_15])), ((cs (460 + i)), .inr (1, [.int b0, .int b1, .int b2, .int b3, .int b4, .int b5, .int b6]))] _ := va_P.cons hat5189 hP
  refine va_getN (D := D) (ci := 3) (v := .int f5189_0) (C := RX3) (T := TX3) (N := 10) hx hb hts iX7_receive_3 hown hN.1 hP 0 rfl rfl 0 (by decide) (hN.f 27 rfl) (fun _ h9 => h9) rfl dX7_receive_15 ?_
  refine lv_if_ne (tgt := 32) hx hb dX7_receive_18 (by decide) (fun c5190 => ?_) (fun c5190 => ?_)
  · refine lv_aload_n hx hb dX7_receive_32 rfl (lv_at hl 1 rfl) ?_
    refine va_getN (D := D) (ci := 1) (v := .int b0) (C := RX1) (T := TX1) (N := 7) hx hb hts iX7_receive_1 hown hN.1 hP 2 rfl rfl 0 (by decide) (hN.f 14 rfl) (fun _ h9 => h9) rfl dX7_receive_33 ?_
    by_cases c5191 : (b0 : Int32).toInt < (0 : Int) ∨ (4 : Int) < (b0 : Int32).toInt
    · refine lv_tableOut (tgt := 245) hx hb dX7_receive_36 c5191 (by decide) ?_
      refine lv_aload_n hx hb dX7_receive_245 rfl (lv_at hl 0 rfl) ?_
      refine va_getN (D := D) (ci := 3) (v := .int f5189_3) (C := RX3) (T := TX3) (N := 10) hx hb hts iX7_receive_3 hown hN.1 hP 0 rfl rfl 3 (by decide) (hN.f 31 rfl) (fun _ h9 => h9) rfl dX7_receive_246 ?_
      refine lv_iconst (v := 1) hx hb dX7_receive_249 (by decide) ?_
      refine lv_icmp_ne (tgt := 268) hx hb dX7_receive_250 (by decide) (fun c5192 => ?_) (fun c5192 => ?_)
      · refine W.know (fun hg => ?_)
        rw [hH0] at hg
        exact en_v hx hb hr hlocks hL (Nat.zero_le _) (Nat.zero_le _) dX7_receive_268 (⟨_, KX.rf, hT, hF, _, _, _, _, _, hMW, ⟨hg, hGN⟩, hbo.rd ht16 hpl, fun _ _ => Nat.le_refl _⟩)
      · refine lv_aload_n hx hb dX7_receive_253 rfl (lv_at hl 0 rfl) ?_
        refine va_getN (D := D) (ci := 3) (v := .int f5189_4) (C := RX3) (T := TX3) (N := 10) hx hb hts iX7_receive_3 hown hN.1 hP 0 rfl rfl 4 (by decide) (hN.f 32 rfl) (fun _ h9 => h9) rfl dX7_receive_254 ?_
        refine lv_aload_n hx hb dX7_receive_257 rfl (lv_at hl 1 rfl) ?_
        refine va_getN (D := D) (ci := 1) (v := .int b4) (C := RX1) (T := TX1) (N := 7) hx hb hts iX7_receive_1 hown hN.1 hP 2 rfl rfl 4 (by decide) (hN.f 22 rfl) (fun _ h9 => h9) rfl dX7_receive_258 ?_
        refine lv_icmp_ne (tgt := 268) hx hb dX7_receive_261 (by decide) (fun c5193 => ?_) (fun c5193 => ?_)
        · refine W.know (fun hg => ?_)
          rw [hH0] at hg
          exact en_v hx hb hr hlocks hL (Nat.zero_le _) (Nat.zero_le _) dX7_receive_268 (⟨_, KX.rf, hT, hF, _, _, _, _, _, hMW, ⟨hg, hGN⟩, hbo.rd ht16 hpl, fun _ _ => Nat.le_refl _⟩)
        · refine lv_aload_n hx hb dX7_receive_264 rfl (lv_at hl 0 rfl) ?_
          refine cv_v (As := []) (rest := []) (b := r5188) ⟨hx, hb, hml, hown, hts⟩ (c_X3_dropPlan hT (w := r5188) hqr5188) (cwV 0 hts gX7_receive_X3_dropPlan rfl rfl rfl hdX3_dropPlan_v ⟨Nat.le_of_ble_eq_true rfl, Nat.le_of_ble_eq_true rfl⟩) hN hE hL (rcv4 hN hT hqr5188.1) rfl rfl hl.1 (Nat.le_of_ble_eq_true rfl) dX7_receive_265 (Nat.zero_le _) (Nat.zero_le _) (fun H1 locs hL hqr5194 => ?_)
          obtain ⟨hT1, hF1⟩ := hqr5194
          have hP : va_P D vwCl [((cs (460 + i)), .inr (1, [.int b0, .int b1, .int b2, .int b3, .int b4, .int b5, .int b6]))] _ := hF1.hP (hP.sub [2] rfl) (fa_c ⟨by rw [hli.1]; decide, by rw [hli.2]; first | decide | (simp; done) | (simp [h15a, h15b, h15c]; done) | (simp; omega)⟩ fa_n)
          have hMW := hMW.fr hT hw hsu hF1 (by first | (simp; done) | (simp [h15a, h15b, h15c]; done) | (simp; omega) | omega) (by first | (simp; done) | (simp [h15a, h15b, h15c]; done) | (simp; omega) | omega)
          have hF := hF.tr (hF1.mono (by simp))
          have hT := hT1
          refine W.know (fun hg => ?_)
          rw [hH0] at hg
          exact en_v hx hb hr hlocks hL (Nat.zero_le _) (Nat.zero_le _) dX7_receive_268 (⟨_, KX.rf, hT, hF, _, _, _, _, _, hMW, ⟨hg, hGN⟩, hbo.rd ht16 hpl, fun _ _ => Nat.le_refl _⟩)
    · rcases sw_0_4 c5191 with rfl | rfl | rfl | rfl | rfl
      · refine lv_tableIn (tgt := 72) (off := 36) hx hb dX7_receive_36 (by decide) (by decide) (by decide) (by decide) ?_
        refine lv_aload_n hx hb dX7_receive_72 rfl (lv_at hl 2 rfl) ?_
        refine lv_iconst (v := 1) hx hb dX7_receive_73 (by decide) ?_
        refine lv_aload_n hx hb dX7_receive_74 rfl (lv_at hl 1 rfl) ?_
        refine va_getN (D := D) (ci := 1) (v := .int b2) (C := RX1) (T := TX1) (N := 7) hx hb hts iX7_receive_1 hown hN.1 hP 2 rfl rfl 2 (by decide) (hN.f 18 rfl) (fun _ h9 => h9) rfl dX7_receive_75 ?_
        refine lv_aload_n hx hb dX7_receive_78 rfl (lv_at hl 1 rfl) ?_
        refine va_getN (D := D) (ci := 1) (v := .int b1) (C := RX1) (T := TX1) (N := 7) hx hb hts iX7_receive_1 hown hN.1 hP 2 rfl rfl 1 (by decide) (hN.f 16 rfl) (fun _ h9 => h9) rfl dX7_receive_79 ?_
        refine lv_iconst (v := (-1)) hx hb dX7_receive_82 (by decide) ?_
        refine lv_aload_n hx hb dX7_receive_83 rfl (lv_at hl 1 rfl) ?_
        refine va_getN (D := D) (ci := 1) (v := .int b5) (C := RX1) (T := TX1) (N := 7) hx hb hts iX7_receive_1 hown hN.1 hP 2 rfl rfl 5 (by decide) (hN.f 24 rfl) (fun _ h9 => h9) rfl dX7_receive_84 ?_
        refine lv_aload_n hx hb dX7_receive_87 rfl (lv_at hl 2 rfl) ?_
        refine lv_aload_n hx hb dX7_receive_88 rfl (lv_at hl 1 rfl) ?_
        refine va_getN (D := D) (ci := 1) (v := .int b2) (C := RX1) (T := TX1) (N := 7) hx hb hts iX7_receive_1 hown hN.1 hP 2 rfl rfl 2 (by decide) (hN.f 18 rfl) (fun _ h9 => h9) rfl dX7_receive_89 ?_
        refine cv_i (As := [.int b2]) (rest := [.int b5, .int (-1), .int b1, .int b2, .int 1, .ref w]) (b := w) ⟨hx, hb, hml, hown, hts⟩ (c_X7_clock hT (w := w) hw (x := b2)) (cwV 1 hts gX7_receive_X7_clock rfl rfl rfl hdX7_clock_v ⟨Nat.le_of_ble_eq_true rfl, Nat.le_of_ble_eq_true rfl⟩) hN hE hL (rcv8 hN hT hw.1) rfl rfl hl.1 (Nat.le_of_ble_eq_true rfl) dX7_receive_92 (Nat.zero_le _) (Nat.zero_le _) (fun r5195 H1 locs hL hqr5195 => ?_)
        obtain rfl := hqr5195.symm
        have hM9 : ∀ j, j < 16 → 2 * ln j + 7 ≤ 2 * sumN ln 16 + 7 := fun j hj => by have := sumN_at (f := ln) hj; omega
        have hcn := EE_cb hEE0
        refine W.know (fun hgb => ?_)
        rw [hH0] at hgb
        refine cv_i (As := [.int 1, .int b2, .int b1, .int (-1), .int b5, .int r5195]) (rest := []) (b := w) ⟨hx, hb, hml, hown, hts⟩ (c_X7_send hT (w := w) hw (x := 1) (y := b2) (z := b1) (u := (-1)) (v := b5) (t := r5195) hsu htm hMW hcn hM9) (cwV 6 hts gX7_receive_X7_send rfl rfl rfl hdX7_send_v ⟨Nat.le_of_ble_eq_true rfl, Nat.le_of_ble_eq_true rfl⟩) hN hE hL (rcv8 hN hT hw.1) rfl rfl hl.1 (Nat.le_of_ble_eq_true rfl) dX7_receive_95 (show 0 + 1 ≤ ((56 * sumN C 16 + 22407 - 2 * sumN ln 16) / 35) by omega) (show 0 + (2 * sumN ln 16 + 7) ≤ (56 * sumN C 16 + 22407 - 2 * sumN ln 16) by omega) (fun r5196 H1 locs hL hqr5196 => ?_)
        obtain ⟨κr5196, hxr5196, hT1, hF1, hqr5196⟩ := hqr5196
        have hTo := hT
        have hwo := hw
        have hsuo := hsu
        have hF9 := hF1
        have hF := hF.tr (hF1.mono (by simp))
        have hT := hT1
        have hKF : KF κ κr5196 := hxr5196.f
        have hKX : KX κ κr5196 := hxr5196
        have hkw9 : κr5196 w = κ w := hxr5196 w (by rw [hw.1]; decide)
        rw [← hkw9] at hsu htm
        have hqr5188 := (hxr5196.f.t2 hqr5188 (by decide))
        have t5187_4 := (hxr5196.f.t2 t5187_4 (by decide))
        have hw := (hxr5196.f.t2 hw (by decide))
        have hpr := (hxr5196.f.t2 hpr (by decide))
        have hmk := (hxr5196.f.t2 hmk (by decide))
        have hli := (hxr5196.f.t2 hli (by decide))
        obtain ⟨c5197, l5198, w5199, k5200, n5201, m5202, g5203, s5204⟩ := hqr5196
        have hMW := m5202
        obtain ⟨k5205, n5206, hGP⟩ : ∃ k9 n9, GP H0 _ ln l5198 k9 n9 := ⟨_, _, GP.tr (show GP H0 _ ln ln _ _ from ⟨hgb, hGN⟩) g5203⟩
        refine W.tight (k := k5205) (n := n5206) (by rw [hH0]; exact hGP.1) ?_
        have hGN : GN ln l5198 k5205 n5206 := hGP.2
        have hgk5205 := hGN.1
        have hgn5206 := hGN.2
        have hsk5205 := hMW.2.2.1.sum
        have hE1 := s5204.rp (C := C) ht16 hpl (by decide) (by decide) e0 e1 e2
        refine lv_pop hx hb dX7_receive_98 rfl ?_
        refine lv_goto (tgt := 268) hx hb dX7_receive_99 (by decide) ?_
        refine W.know (fun hg => ?_)
        rw [hH0] at hg
        exact en_v hx hb hr hlocks hL (show k5205 ≤ ((56 * sumN C 16 + 22407 - 2 * sumN ln 16) / 35) by omega) (show n5206 ≤ (56 * sumN C 16 + 22407 - 2 * sumN ln 16) by omega) dX7_receive_268 (⟨_, hKX, hT, hF, _, _, _, _, _, hMW, ⟨hg, hGN⟩, hbo.rp hE1, s5204.mono⟩)
      · refine lv_tableIn (tgt := 102) (off := 66) hx hb dX7_receive_36 (by decide) (by decide) (by decide) (by decide) ?_
        refine lv_aload_n hx hb dX7_receive_102 rfl (lv_at hl 1 rfl) ?_
        refine va_getN (D := D) (ci := 1) (v := .int b2) (C := RX1) (T := TX1) (N := 7) hx hb hts iX7_receive_1 hown hN.1 hP 2 rfl rfl 2 (by decide) (hN.f 18 rfl) (fun _ h9 => h9) rfl dX7_receive_103 ?_
        refine lv_aload_n hx hb dX7_receive_106 rfl (lv_at hl 2 rfl) ?_
        refine va_get (D := D) (ci := 7) (v := .int f5187_8) (C := RX7) (T := TX7) (N := 16) hx hb hts iX7_receive_7 hown hN.1 hP 1 rfl rfl 8 (by decide) (hts _ mX7_receive_3) (fun _ h9 => h9) rfl dX7_receive_107 ?_
        refine lv_icmp_eq (tgt := 268) hx hb dX7_receive_110 (by decide) (fun c5207 => ?_) (fun c5207 => ?_)
        · refine W.know (fun hg => ?_)
          rw [hH0] at hg
          exact en_v hx hb hr hlocks hL (Nat.zero_le _) (Nat.zero_le _) dX7_receive_268 (⟨_, KX.rf, hT, hF, _, _, _, _, _, hMW, ⟨hg, hGN⟩, hbo.rd ht16 hpl, fun _ _ => Nat.le_refl _⟩)
        · refine lv_aload_n hx hb dX7_receive_113 rfl (lv_at hl 2 rfl) ?_
          refine lv_aload_n hx hb dX7_receive_114 rfl (lv_at hl 1 rfl) ?_
          refine va_getN (D := D) (ci := 1) (v := .int b2) (C := RX1) (T := TX1) (N := 7) hx hb hts iX7_receive_1 hown hN.1 hP 2 rfl rfl 2 (by decide) (hN.f 18 rfl) (fun _ h9 => h9) rfl dX7_receive_115 ?_
          refine cv_i (As := [.int b2]) (rest := []) (b := w) ⟨hx, hb, hml, hown, hts⟩ (c_X7_clock hT (w := w) hw (x := b2)) (cwV 1 hts gX7_receive_X7_clock rfl rfl rfl hdX7_clock_v ⟨Nat.le_of_ble_eq_true rfl, Nat.le_of_ble_eq_true rfl⟩) hN hE hL (rcv8 hN hT hw.1) rfl rfl hl.1 (Nat.le_of_ble_eq_true rfl) dX7_receive_118 (Nat.zero_le _) (Nat.zero_le _) (fun r5208 H1 locs hL hqr5208 => ?_)
          obtain rfl := hqr5208.symm
          refine lv_istore_n (lv' := [(3, .int r5208), (2, .ref r5188), (1, .ref (cs (460 + i))), (0, .ref w)]) hx hb dX7_receive_121 rfl hl (by decide) rfl (fun ls hl => ?_)
          refine lv_aload_n hx hb dX7_receive_122 rfl (lv_at hl 1 rfl) ?_
          refine lv_aload_n hx hb dX7_receive_123 rfl (lv_at hl 2 rfl) ?_
          refine va_getN (D := D) (ci := 1) (v := .int b6) (C := RX1) (T := TX1) (N := 7) hx hb hts iX7_receive_1 hown hN.1 hP 2 rfl rfl 6 (by decide) (hN.f 26 rfl) (fun _ h9 => h9) rfl dX7_receive_124 ?_
          refine lv_iload_n hx hb dX7_receive_127 rfl (lv_at hl 0 rfl) ?_
          refine lv_aload_n hx hb dX7_receive_128 rfl (lv_at hl 2 rfl) ?_
          refine va_getN (D := D) (ci := 1) (v := .int b5) (C := RX1) (T := TX1) (N := 7) hx hb hts iX7_receive_1 hown hN.1 hP 2 rfl rfl 5 (by decide) (hN.f 24 rfl) (fun _ h9 => h9) rfl dX7_receive_129 ?_
          refine lv_isub hx hb dX7_receive_132 ?_
          refine gn_i (fun x5209 => ?_)
          refine lv_iconst (v := 2) hx hb dX7_receive_133 (by decide) ?_
          refine lv_idiv hx hb dX7_receive_134 (by decide) ?_
          refine gn_i (fun x5210 => ?_)
          refine lv_iadd hx hb dX7_receive_135 ?_
          refine gn_i (fun x5211 => ?_)
          refine lv_iload_n hx hb dX7_receive_136 rfl (lv_at hl 0 rfl) ?_
          refine lv_isub hx hb dX7_receive_137 ?_
          refine gn_i (fun x5212 => ?_)
          have hB : Bx B0 D _ [(r5188, .inr (3, [.int f5189_0, .int f5189_1, .int f5189_2, .int f5189_3, .int f5189_4, .int f5189_5, .int f5189_6, .int f5189_7, .int f5189_8, .int f5189_9])), (w, .inr (7, [.ref su, .ref f5187_1, .ref (cs (400 + i)), .ref (cs (420 + i)), .ref (cs (460 + i)), .ref f5187_5, .long f5187_6, .int f5187_7, .int f5187_8, .int f5187_9, .int f5187_10, .int f5187_11, .int f5187_12, .int f5187_13, .int f5187_14, .int f5187_15])), ((cs (460 + i)), .inr (1, [.int 1, .int b1, .int b2, .int b3, .int b4, .int b5, .int b6]))] [] _ _ := Bx.of (fun a => (κ a).1) hL hP (fa_c hb5189 (fa_c hb5187 (fa_c hbli fa_n))) (by simp only [List.map_cons, List.map_nil, hqr5188.1, hw.1, hli.1]; decide)
          refine b_putN (D := D) (ci := 3) (v := .int x5212) (ty := .int) (C := RX3) (T := TX3) (N := 10) hx hb hts iX7_receive_3 tyX3 tyX3_ok nmX3 hown hN hB 0 rfl rfl 1 (by decide) (hN.f 29 rfl) (fun _ h9 => h9) rfl (by decide +kernel) rfl rfl (Nat.le_of_ble_eq_true rfl) (.inl rfl) dX7_receive_138 (fun H locs hB => ?_)
          have hB : Bx B0 D _ [(r5188, .inr (3, [.int f5189_0, .int x5212, .int f5189_2, .int f5189_3, .int f5189_4, .int f5189_5, .int f5189_6, .int f5189_7, .int f5189_8, .int f5189_9])), (w, .inr (7, [.ref su, .ref f5187_1, .ref (cs (400 + i)), .ref (cs (420 + i)), .ref (cs (460 + i)), .ref f5187_5, .long f5187_6, .int f5187_7, .int f5187_8, .int f5187_9, .int f5187_10, .int f5187_11, .int f5187_12, .int f5187_13, .int f5187_14, .int f5187_15])), ((cs (460 + i)), .inr (1, [.int 1, .int b1, .int b2, .int b3, .int b4, .int b5, .int b6]))] [r5188] _ _ := hB
          refine lv_goto (tgt := 268) hx hb dX7_receive_141 (by decide) ?_
          have hMW := hMW.fr hT hw hsu (Fr.close (S := [i]) Fr.rf hB (fa_c (by simp [hqr5188.2]) fa_n)) (by first | (simp; done) | (simp [h15a, h15b, h15c]; done) | (simp; omega) | omega) (by first | (simp; done) | (simp [h15a, h15b, h15c]; done) | (simp; omega) | omega)
          have hT : WT B0 D cs T κ _ := hT.close hB ⟨⟨0, _, rfl, ok_4 hqr5188.1 ⟨_, _, _, _, _, _, _, _, _, _, rfl, c5189_up⟩⟩, trivial⟩
          have hF : Fr B0 [i, i + 20] κ H0 _ := hF.close hB (fa_c (by simp [hqr5188.2]) fa_n)
          have hL : OkL B0 _ := hB.2.2.2.2.2
          have hP : va_P D vwCl [(r5188, .inr (3, [.int f5189_0, .int x5212, .int f5189_2, .int f5189_3, .int f5189_4, .int f5189_5, .int f5189_6, .int f5189_7, .int f5189_8, .int f5189_9])), (w, .inr (7, [.ref su, .ref f5187_1, .ref (cs (400 + i)), .ref (cs (420 + i)), .ref (cs (460 + i)), .ref f5187_5, .long f5187_6, .int f5187_7, .int f5187_8, .int f5187_9, .int f5187_10, .int f5187_11, .int f5187_12, .int f5187_13, .int f5187_14, .int f5187_15])), ((cs (460 + i)), .inr (1, [.int 1, .int b1, .int b2, .int b3, .int b4, .int b5, .int b6]))] _ := hB.1
          refine W.know (fun hg => ?_)
          rw [hH0] at hg
          exact en_v hx hb hr hlocks hL (Nat.zero_le _) (Nat.zero_le _) dX7_receive_268 (⟨_, KX.rf, hT, hF, _, _, _, _, _, hMW, ⟨hg, hGN⟩, hbo.rd ht16 hpl, fun _ _ => Nat.le_refl _⟩)
      · refine lv_tableIn (tgt := 144) (off := 108) hx hb dX7_receive_36 (by decide) (by decide) (by decide) (by decide) ?_
        refine lv_aload_n hx hb dX7_receive_144 rfl (lv_at hl 0 rfl) ?_
        refine lv_aload_n hx hb dX7_receive_145 rfl (lv_at hl 1 rfl) ?_
        refine va_getN (D := D) (ci := 1) (v := .int b4) (C := RX1) (T := TX1) (N := 7) hx hb hts iX7_receive_1 hown hN.1 hP 2 rfl rfl 4 (by decide) (hN.f 22 rfl) (fun _ h9 => h9) rfl dX7_receive_146 ?_
        refine lv_aload_n hx hb dX7_receive_149 rfl (lv_at hl 1 rfl) ?_
        refine va_getN (D := D) (ci := 1) (v := .int b5) (C := RX1) (T := TX1) (N := 7) hx hb hts iX7_receive_1 hown hN.1 hP 2 rfl rfl 5 (by decide) (hN.f 24 rfl) (fun _ h9 => h9) rfl dX7_receive_150 ?_
        refine lv_aload_n hx hb dX7_receive_153 rfl (lv_at hl 1 rfl) ?_
        refine va_getN (D := D) (ci := 1) (v := .int b6) (C := RX1) (T := TX1) (N := 7) hx hb hts iX7_receive_1 hown hN.1 hP 2 rfl rfl 6 (by decide) (hN.f 26 rfl) (fun _ h9 => h9) rfl dX7_receive_154 ?_
        refine lv_iconst (v := 1) hx hb dX7_receive_157 (by decide) ?_
        refine cv_v (As := [.int b4, .int b5, .int b6, .int 1]) (rest := []) (b := r5188) ⟨hx, hb, hml, hown, hts⟩ (c_X3_takePlan hT (w := r5188) hqr5188 (x := b4) (y := b5) (z := b6) (u := 1)) (cwV 4 hts gX7_receive_X3_takePlan rfl rfl rfl hdX3_takePlan_v ⟨Nat.le_of_ble_eq_true rfl, Nat.le_of_ble_eq_true rfl⟩) hN hE hL (rcv4 hN hT hqr5188.1) rfl rfl hl.1 (Nat.le_of_ble_eq_true rfl) dX7_receive_158 (Nat.zero_le _) (Nat.zero_le _) (fun H1 locs hL hqr5213 => ?_)
        obtain ⟨hT1, hF1⟩ := hqr5213
        have hP : va_P D vwCl [((cs (460 + i)), .inr (1, [.int 2, .int b1, .int b2, .int b3, .int b4, .int b5, .int b6]))] _ := hF1.hP (hP.sub [2] rfl) (fa_c ⟨by rw [hli.1]; decide, by rw [hli.2]; first | decide | (simp; done) | (simp [h15a, h15b, h15c]; done) | (simp; omega)⟩ fa_n)
        have hMW := hMW.fr hT hw hsu hF1 (by first | (simp; done) | (simp [h15a, h15b, h15c]; done) | (simp; omega) | omega) (by first | (simp; done) | (simp [h15a, h15b, h15c]; done) | (simp; omega) | omega)
        have hF := hF.tr (hF1.mono (by simp))
        have hT := hT1
        refine lv_aload_n hx hb dX7_receive_161 rfl (lv_at hl 2 rfl) ?_
        refine lv_iconst (v := 3) hx hb dX7_receive_162 (by decide) ?_
        refine lv_aload_n hx hb dX7_receive_163 rfl (lv_at hl 1 rfl) ?_
        refine va_getN (D := D) (ci := 1) (v := .int b2) (C := RX1) (T := TX1) (N := 7) hx hb hts iX7_receive_1 hown hN.1 hP 0 rfl rfl 2 (by decide) (hN.f 18 rfl) (fun _ h9 => h9) rfl dX7_receive_164 ?_
        refine lv_aload_n hx hb dX7_receive_167 rfl (lv_at hl 1 rfl) ?_
        refine va_getN (D := D) (ci := 1) (v := .int b1) (C := RX1) (T := TX1) (N := 7) hx hb hts iX7_receive_1 hown hN.1 hP 0 rfl rfl 1 (by decide) (hN.f 16 rfl) (fun _ h9 => h9) rfl dX7_receive_168 ?_
        refine lv_aload_n hx hb dX7_receive_171 rfl (lv_at hl 1 rfl) ?_
        refine va_getN (D := D) (ci := 1) (v := .int b4) (C := RX1) (T := TX1) (N := 7) hx hb hts iX7_receive_1 hown hN.1 hP 0 rfl rfl 4 (by decide) (hN.f 22 rfl) (fun _ h9 => h9) rfl dX7_receive_172 ?_
        refine lv_iconst (v := 0) hx hb dX7_receive_175 (by decide) ?_
        refine lv_iconst (v := 0) hx hb dX7_receive_176 (by decide) ?_
        have hM9 : ∀ j, j < 16 → 2 * ln j + 7 ≤ 2 * sumN ln 16 + 7 := fun j hj => by have := sumN_at (f := ln) hj; omega
        have hcn := EE_cb hEE0
        refine W.know (fun hgb => ?_)
        rw [hH0] at hgb
        refine cv_i (As := [.int 3, .int b2, .int b1, .int b4, .int 0, .int 0]) (rest := []) (b := w) ⟨hx, hb, hml, hown, hts⟩ (c_X7_send hT (w := w) hw (x := 3) (y := b2) (z := b1) (u := b4) (v := 0) (t := 0) hsu htm hMW hcn hM9) (cwV 6 hts gX7_receive_X7_send rfl rfl rfl hdX7_send_v ⟨Nat.le_of_ble_eq_true rfl, Nat.le_of_ble_eq_true rfl⟩) hN hE hL (rcv8 hN hT hw.1) rfl rfl hl.1 (Nat.le_of_ble_eq_true rfl) dX7_receive_177 (show 0 + 1 ≤ ((56 * sumN C 16 + 22407 - 2 * sumN ln 16) / 35) by omega) (show 0 + (2 * sumN ln 16 + 7) ≤ (56 * sumN C 16 + 22407 - 2 * sumN ln 16) by omega) (fun r5214 H1 locs hL hqr5214 => ?_)
        obtain ⟨κr5214, hxr5214, hT1, hF1, hqr5214⟩ := hqr5214
        have hTo := hT
        have hwo := hw
        have hsuo := hsu
        have hF9 := hF1
        have hF := hF.tr (hF1.mono (by simp))
        have hT := hT1
        have hKF : KF κ κr5214 := hxr5214.f
        have hKX : KX κ κr5214 := hxr5214
        have hkw9 : κr5214 w = κ w := hxr5214 w (by rw [hw.1]; decide)
        rw [← hkw9] at hsu htm
        have hqr5188 := (hxr5214.f.t2 hqr5188 (by decide))
        have t5187_4 := (hxr5214.f.t2 t5187_4 (by decide))
        have hw := (hxr5214.f.t2 hw (by decide))
        have hpr := (hxr5214.f.t2 hpr (by decide))
        have hmk := (hxr5214.f.t2 hmk (by decide))
        have hli := (hxr5214.f.t2 hli (by decide))
        obtain ⟨c5215, l5216, w5217, k5218, n5219, m5220, g5221, s5222⟩ := hqr5214
        have hMW := m5220
        obtain ⟨k5223, n5224, hGP⟩ : ∃ k9 n9, GP H0 _ ln l5216 k9 n9 := ⟨_, _, GP.tr (show GP H0 _ ln ln _ _ from ⟨hgb, hGN⟩) g5221⟩
        refine W.tight (k := k5223) (n := n5224) (by rw [hH0]; exact hGP.1) ?_
        have hGN : GN ln l5216 k5223 n5224 := hGP.2
        have hgk5223 := hGN.1
        have hgn5224 := hGN.2
        have hsk5223 := hMW.2.2.1.sum
        have hE1 := s5222.rp (C := C) ht16 hpl (by decide) (by decide) e0 e1 e2
        refine lv_pop hx hb dX7_receive_180 rfl ?_
        refine lv_goto (tgt := 268) hx hb dX7_receive_181 (by decide) ?_
        refine W.know (fun hg => ?_)
        rw [hH0] at hg
        exact en_v hx hb hr hlocks hL (show k5223 ≤ ((56 * sumN C 16 + 22407 - 2 * sumN ln 16) / 35) by omega) (show n5224 ≤ (56 * sumN C 16 + 22407 - 2 * sumN ln 16) by omega) dX7_receive_268 (⟨_, hKX, hT, hF, _, _, _, _, _, hMW, ⟨hg, hGN⟩, hbo.rp hE1, s5222.mono⟩)
      · refine lv_tableIn (tgt := 184) (off := 148) hx hb dX7_receive_36 (by decide) (by decide) (by decide) (by decide) ?_
        refine lv_aload_n hx hb dX7_receive_184 rfl (lv_at hl 2 rfl) ?_
        refine lv_aload_n hx hb dX7_receive_185 rfl (lv_at hl 1 rfl) ?_
        refine va_getN (D := D) (ci := 1) (v := .int b4) (C := RX1) (T := TX1) (N := 7) hx hb hts iX7_receive_1 hown hN.1 hP 2 rfl rfl 4 (by decide) (hN.f 22 rfl) (fun _ h9 => h9) rfl dX7_receive_186 ?_
        refine cv_i (As := [.int b4]) (rest := []) (b := w) ⟨hx, hb, hml, hown, hts⟩ (c_X7_isOpen hT (w := w) hw (x := b4)) (cwV 1 hts gX7_receive_X7_isOpen rfl rfl rfl hdX7_isOpen_v ⟨Nat.le_of_ble_eq_true rfl, Nat.le_of_ble_eq_true rfl⟩) hN hE hL (rcv8 hN hT hw.1) rfl rfl hl.1 (Nat.le_of_ble_eq_true rfl) dX7_receive_189 (Nat.zero_le _) (Nat.zero_le _) (fun r5225 H1 locs hL hqr5225 => ?_)
        obtain ⟨h9, hqr5225⟩ := hqr5225; replace h9 := h9.symm; subst h9
        rcases hqr5225 with rfl | rfl
        · refine lv_if_eq (tgt := 268) hx hb dX7_receive_192 (by decide) (fun _ => ?_) (fun c9 => absurd (by decide) c9)
          refine W.know (fun hg => ?_)
          rw [hH0] at hg
          exact en_v hx hb hr hlocks hL (Nat.zero_le _) (Nat.zero_le _) dX7_receive_268 (⟨_, KX.rf, hT, hF, _, _, _, _, _, hMW, ⟨hg, hGN⟩, hbo.rd ht16 hpl, fun _ _ => Nat.le_refl _⟩)
        · refine lv_if_eq (tgt := 268) hx hb dX7_receive_192 (by decide) (fun c9 => absurd c9 (by decide)) (fun _ => ?_)
          refine lv_aload_n hx hb dX7_receive_195 rfl (lv_at hl 1 rfl) ?_
          refine va_getN (D := D) (ci := 1) (v := .int b2) (C := RX1) (T := TX1) (N := 7) hx hb hts iX7_receive_1 hown hN.1 hP 2 rfl rfl 2 (by decide) (hN.f 18 rfl) (fun _ h9 => h9) rfl dX7_receive_196 ?_
          refine lv_aload_n hx hb dX7_receive_199 rfl (lv_at hl 2 rfl) ?_
          refine va_get (D := D) (ci := 7) (v := .ref (cs (420 + i))) (C := RX7) (T := TX7) (N := 16) hx hb hts iX7_receive_7 hown hN.1 hP 1 rfl rfl 3 (by decide) (hts _ mX7_receive_4) (fun _ h9 => h9) rfl dX7_receive_200 ?_
          obtain ⟨hb5226, e5226, hat5226, hk5226⟩ := hT.o5 t5187_3.1
          obtain ⟨f5226_0, f5226_1, f5226_2, f5226_3, f5226_4, f5226_5, f5226_6, f5226_7, rfl, c5226⟩ := hk5226
          have hP : va_P D vwCl [((cs (420 + i)), .inr (4, [.int f5226_0, .int f5226_1, .int f5226_2, .int f5226_3, .int f5226_4, .int f5226_5, .int f5226_6, .int f5226_7])), (r5188, .inr (3, [.int f5189_0, .int f5189_1, .int f5189_2, .int f5189_3, .int f5189_4, .int f5189_5, .int f5189_6, .int f5189_7, .int f5189_8, .int f5189_9])), (w, .inr (7, [.ref su, .ref f5187_1, .ref (cs (400 + i)), .ref (cs (420 + i)), .ref (cs (460 + i)), .ref f5187_5, .long f5187_6, .int f5187_7, .int f5187_8, .int f5187_9, .int f5187_10, .int f5187_11, .int f5187_12, .int f5187_13, .int f5187_14, .int f5187_15])), ((cs (460 + i)), .inr (1, [.int 3, .int b1, .int b2, .int b3, .int b4, .int b5, .int b6]))] _ := va_P.cons hat5226 hP
          refine va_getN (D := D) (ci := 4) (v := .int f5226_3) (C := RX4) (T := TX4) (N := 8) hx hb hts iX7_receive_4 hown hN.1 hP 0 rfl rfl 3 (by decide) (hN.f 9 rfl) (fun _ h9 => h9) rfl dX7_receive_203 ?_
          refine lv_icmp_ne (tgt := 268) hx hb dX7_receive_206 (by decide) (fun c5227 => ?_) (fun c5227 => ?_)
          · refine W.know (fun hg => ?_)
            rw [hH0] at hg
            exact en_v hx hb hr hlocks hL (Nat.zero_le _) (Nat.zero_le _) dX7_receive_268 (⟨_, KX.rf, hT, hF, _, _, _, _, _, hMW, ⟨hg, hGN⟩, hbo.rd ht16 hpl, fun _ _ => Nat.le_refl _⟩)
          · refine lv_aload_n hx hb dX7_receive_209 rfl (lv_at hl 2 rfl) ?_
            refine va_get (D := D) (ci := 7) (v := .ref (cs (420 + i))) (C := RX7) (T := TX7) (N := 16) hx hb hts iX7_receive_7 hown hN.1 hP 2 rfl rfl 3 (by decide) (hts _ mX7_receive_4) (fun _ h9 => h9) rfl dX7_receive_210 ?_
            refine lv_dup hx hb dX7_receive_213 rfl ?_
            refine va_getN (D := D) (ci := 4) (v := .int f5226_4) (C := RX4) (T := TX4) (N := 8) hx hb hts iX7_receive_4 hown hN.1 hP 0 rfl rfl 4 (by decide) (hN.f 10 rfl) (fun _ h9 => h9) rfl dX7_receive_214 ?_
            refine lv_iconst (v := 1) hx hb dX7_receive_217 (by decide) ?_
            refine lv_iadd hx hb dX7_receive_218 ?_
            refine gn_i (fun x5228 => ?_)
            have hB : Bx B0 D _ [((cs (420 + i)), .inr (4, [.int f5226_0, .int f5226_1, .int f5226_2, .int f5226_3, .int f5226_4, .int f5226_5, .int f5226_6, .int f5226_7])), (r5188, .inr (3, [.int f5189_0, .int f5189_1, .int f5189_2, .int f5189_3, .int f5189_4, .int f5189_5, .int f5189_6, .int f5189_7, .int f5189_8, .int f5189_9])), (w, .inr (7, [.ref su, .ref f5187_1, .ref (cs (400 + i)), .ref (cs (420 + i)), .ref (cs (460 + i)), .ref f5187_5, .long f5187_6, .int f5187_7, .int f5187_8, .int f5187_9, .int f5187_10, .int f5187_11, .int f5187_12, .int f5187_13, .int f5187_14, .int f5187_15])), ((cs (460 + i)), .inr (1, [.int 3, .int b1, .int b2, .int b3, .int b4, .int b5, .int b6]))] [] _ _ := Bx.of (fun a => (κ a).1) hL hP (fa_c hb5226 (fa_c hb5189 (fa_c hb5187 (fa_c hbli fa_n)))) (by simp only [List.map_cons, List.map_nil, t5187_3.1, hqr5188.1, hw.1, hli.1]; decide)
            refine b_putN (D := D) (ci := 4) (v := .int x5228) (ty := .int) (C := RX4) (T := TX4) (N := 8) hx hb hts iX7_receive_4 tyX4 tyX4_ok nmX4 hown hN hB 0 rfl rfl 4 (by decide) (hN.f 10 rfl) (fun _ h9 => h9) rfl (by decide +kernel) rfl rfl (Nat.le_of_ble_eq_true rfl) (.inl rfl) dX7_receive_219 (fun H locs hB => ?_)
            have hB : Bx B0 D _ [((cs (420 + i)), .inr (4, [.int f5226_0, .int f5226_1, .int f5226_2, .int f5226_3, .int x5228, .int f5226_5, .int f5226_6, .int f5226_7])), (r5188, .inr (3, [.int f5189_0, .int f5189_1, .int f5189_2, .int f5189_3, .int f5189_4, .int f5189_5, .int f5189_6, .int f5189_7, .int f5189_8, .int f5189_9])), (w, .inr (7, [.ref su, .ref f5187_1, .ref (cs (400 + i)), .ref (cs (420 + i)), .ref (cs (460 + i)), .ref f5187_5, .long f5187_6, .int f5187_7, .int f5187_8, .int f5187_9, .int f5187_10, .int f5187_11, .int f5187_12, .int f5187_13, .int f5187_14, .int f5187_15])), ((cs (460 + i)), .inr (1, [.int 3, .int b1, .int b2, .int b3, .int b4, .int b5, .int b6]))] [(cs (420 + i))] _ _ := hB
            refine lv_goto (tgt := 268) hx hb dX7_receive_222 (by decide) ?_
            have hMW := hMW.fr hT hw hsu (Fr.close (S := [i]) Fr.rf hB (fa_c (by simp [t5187_3.2]) fa_n)) (by first | (simp; done) | (simp [h15a, h15b, h15c]; done) | (simp; omega) | omega) (by first | (simp; done) | (simp [h15a, h15b, h15c]; done) | (simp; omega) | omega)
            have hT : WT B0 D cs T κ _ := hT.close hB ⟨⟨0, _, rfl, ok_5 t5187_3.1 ⟨_, _, _, _, _, _, _, _, rfl, c5226⟩⟩, trivial⟩
            have hF : Fr B0 [i, i + 20] κ H0 _ := hF.close hB (fa_c (by simp [t5187_3.2]) fa_n)
            have hL : OkL B0 _ := hB.2.2.2.2.2
            have hP : va_P D vwCl [((cs (420 + i)), .inr (4, [.int f5226_0, .int f5226_1, .int f5226_2, .int f5226_3, .int x5228, .int f5226_5, .int f5226_6, .int f5226_7])), (r5188, .inr (3, [.int f5189_0, .int f5189_1, .int f5189_2, .int f5189_3, .int f5189_4, .int f5189_5, .int f5189_6, .int f5189_7, .int f5189_8, .int f5189_9])), (w, .inr (7, [.ref su, .ref f5187_1, .ref (cs (400 + i)), .ref (cs (420 + i)), .ref (cs (460 + i)), .ref f5187_5, .long f5187_6, .int f5187_7, .int f5187_8, .int f5187_9, .int f5187_10, .int f5187_11, .int f5187_12, .int f5187_13, .int f5187_14, .int f5187_15])), ((cs (460 + i)), .inr (1, [.int 3, .int b1, .int b2, .int b3, .int b4, .int b5, .int b6]))] _ := hB.1
            refine W.know (fun hg => ?_)
            rw [hH0] at hg
            exact en_v hx hb hr hlocks hL (Nat.zero_le _) (Nat.zero_le _) dX7_receive_268 (⟨_, KX.rf, hT, hF, _, _, _, _, _, hMW, ⟨hg, hGN⟩, hbo.rd ht16 hpl, fun _ _ => Nat.le_refl _⟩)
      · refine lv_tableIn (tgt := 225) (off := 189) hx hb dX7_receive_36 (by decide) (by decide) (by decide) (by decide) ?_
        refine lv_aload_n hx hb dX7_receive_225 rfl (lv_at hl 0 rfl) ?_
        refine lv_aload_n hx hb dX7_receive_226 rfl (lv_at hl 1 rfl) ?_
        refine va_getN (D := D) (ci := 1) (v := .int b4) (C := RX1) (T := TX1) (N := 7) hx hb hts iX7_receive_1 hown hN.1 hP 2 rfl rfl 4 (by decide) (hN.f 22 rfl) (fun _ h9 => h9) rfl dX7_receive_227 ?_
        refine lv_aload_n hx hb dX7_receive_230 rfl (lv_at hl 1 rfl) ?_
        refine va_getN (D := D) (ci := 1) (v := .int b5) (C := RX1) (T := TX1) (N := 7) hx hb hts iX7_receive_1 hown hN.1 hP 2 rfl rfl 5 (by decide) (hN.f 24 rfl) (fun _ h9 => h9) rfl dX7_receive_231 ?_
        refine lv_aload_n hx hb dX7_receive_234 rfl (lv_at hl 1 rfl) ?_
        refine va_getN (D := D) (ci := 1) (v := .int b6) (C := RX1) (T := TX1) (N := 7) hx hb hts iX7_receive_1 hown hN.1 hP 2 rfl rfl 6 (by decide) (hN.f 26 rfl) (fun _ h9 => h9) rfl dX7_receive_235 ?_
        refine lv_iconst (v := 2) hx hb dX7_receive_238 (by decide) ?_
        refine cv_v (As := [.int b4, .int b5, .int b6, .int 2]) (rest := []) (b := r5188) ⟨hx, hb, hml, hown, hts⟩ (c_X3_takePlan hT (w := r5188) hqr5188 (x := b4) (y := b5) (z := b6) (u := 2)) (cwV 4 hts gX7_receive_X3_takePlan rfl rfl rfl hdX3_takePlan_v ⟨Nat.le_of_ble_eq_true rfl, Nat.le_of_ble_eq_true rfl⟩) hN hE hL (rcv4 hN hT hqr5188.1) rfl rfl hl.1 (Nat.le_of_ble_eq_true rfl) dX7_receive_239 (Nat.zero_le _) (Nat.zero_le _) (fun H1 locs hL hqr5229 => ?_)
        obtain ⟨hT1, hF1⟩ := hqr5229
        have hP : va_P D vwCl [((cs (460 + i)), .inr (1, [.int 4, .int b1, .int b2, .int b3, .int b4, .int b5, .int b6]))] _ := hF1.hP (hP.sub [2] rfl) (fa_c ⟨by rw [hli.1]; decide, by rw [hli.2]; first | decide | (simp; done) | (simp [h15a, h15b, h15c]; done) | (simp; omega)⟩ fa_n)
        have hMW := hMW.fr hT hw hsu hF1 (by first | (simp; done) | (simp [h15a, h15b, h15c]; done) | (simp; omega) | omega) (by first | (simp; done) | (simp [h15a, h15b, h15c]; done) | (simp; omega) | omega)
        have hF := hF.tr (hF1.mono (by simp))
        have hT := hT1
        refine lv_goto (tgt := 268) hx hb dX7_receive_242 (by decide) ?_
        refine W.know (fun hg => ?_)
        rw [hH0] at hg
        exact en_v hx hb hr hlocks hL (Nat.zero_le _) (Nat.zero_le _) dX7_receive_268 (⟨_, KX.rf, hT, hF, _, _, _, _, _, hMW, ⟨hg, hGN⟩, hbo.rd ht16 hpl, fun _ _ => Nat.le_refl _⟩)
  · refine lv_aload_n hx hb dX7_receive_21 rfl (lv_at hl 2 rfl) ?_
    refine lv_dup hx hb dX7_receive_22 rfl ?_
    refine va_get (D := D) (ci := 7) (v := .int f5187_10) (C := RX7) (T := TX7) (N := 16) hx hb hts iX7_receive_7 hown hN.1 hP 1 rfl rfl 10 (by decide) (hts _ mX7_receive_2) (fun _ h9 => h9) rfl dX7_receive_23 ?_
    refine lv_iconst (v := 1) hx hb dX7_receive_26 (by decide) ?_
    refine lv_iadd hx hb dX7_receive_27 ?_
    refine gn_i (fun x5230 => ?_)
    have hB : Bx B0 D _ [(r5188, .inr (3, [.int f5189_0, .int f5189_1, .int f5189_2, .int f5189_3, .int f5189_4, .int f5189_5, .int f5189_6, .int f5189_7, .int f5189_8, .int f5189_9])), (w, .inr (7, [.ref su, .ref f5187_1, .ref (cs (400 + i)), .ref (cs (420 + i)), .ref (cs (460 + i)), .ref f5187_5, .long f5187_6, .int f5187_7, .int f5187_8, .int f5187_9, .int f5187_10, .int f5187_11, .int f5187_12, .int f5187_13, .int f5187_14, .int f5187_15])), ((cs (460 + i)), .inr (1, [.int b0, .int b1, .int b2, .int b3, .int b4, .int b5, .int b6]))] [] _ _ := Bx.of (fun a => (κ a).1) hL hP (fa_c hb5189 (fa_c hb5187 (fa_c hbli fa_n))) (by simp only [List.map_cons, List.map_nil, hqr5188.1, hw.1, hli.1]; decide)
    refine b_put (D := D) (ci := 7) (v := .int x5230) (ty := .int) (C := RX7) (T := TX7) (N := 16) hx hb hts iX7_receive_7 tyX7 tyX7_ok nmX7 hown hN hB 1 rfl rfl 10 (by decide) (hts _ mX7_receive_2) (fun _ h9 => h9) rfl (by decide +kernel) rfl rfl (Nat.le_of_ble_eq_true rfl) (.inl rfl) dX7_receive_28 (fun H locs hB => ?_)
    have hB : Bx B0 D _ [(r5188, .inr (3, [.int f5189_0, .int f5189_1, .int f5189_2, .int f5189_3, .int f5189_4, .int f5189_5, .int f5189_6, .int f5189_7, .int f5189_8, .int f5189_9])), (w, .inr (7, [.ref su, .ref f5187_1, .ref (cs (400 + i)), .ref (cs (420 + i)), .ref (cs (460 + i)), .ref f5187_5, .long f5187_6, .int f5187_7, .int f5187_8, .int f5187_9, .int x5230, .int f5187_11, .int f5187_12, .int f5187_13, .int f5187_14, .int f5187_15])), ((cs (460 + i)), .inr (1, [.int b0, .int b1, .int b2, .int b3, .int b4, .int b5, .int b6]))] [w] _ _ := hB
    have hMW := hMW.fr hT hw hsu (Fr.close (S := [i]) Fr.rf hB (fa_c (by simp [hw.2]) fa_n)) (by first | (simp; done) | (simp [h15a, h15b, h15c]; done) | (simp; omega) | omega) (by first | (simp; done) | (simp [h15a, h15b, h15c]; done) | (simp; omega) | omega)
    have hT : WT B0 D cs T κ _ := hT.close hB ⟨⟨1, _, rfl, ok_8 hw.1 ⟨_, _, _, _, _, _, _, _, _, _, _, _, _, _, _, _, rfl, t5187_0, c5187_su, ⟨t5187_1.1, by rw [hw.2]; exact t5187_1.2⟩, ⟨t5187_2.1, by rw [hw.2]; exact t5187_2.2⟩, ⟨t5187_3.1, by rw [hw.2]; exact t5187_3.2⟩, ⟨t5187_4.1, by rw [hw.2]; exact t5187_4.2⟩, ⟨t5187_5.1, by rw [hw.2]; exact t5187_5.2⟩, c5187_tm, (by rw [hw.2]; omega), (by first | rw [hw.2] | (dsimp only; rw [hw.2])), (by first | rw [hw.2] | (dsimp only; rw [hw.2])), (by first | rw [hw.2] | (dsimp only; rw [hw.2]))⟩⟩, trivial⟩
    have hF : Fr B0 [i, i + 20] κ H0 _ := hF.close hB (fa_c (by simp [hw.2]) fa_n)
    have hL : OkL B0 _ := hB.2.2.2.2.2
    have hP : va_P D vwCl [(r5188, .inr (3, [.int f5189_0, .int f5189_1, .int f5189_2, .int f5189_3, .int f5189_4, .int f5189_5, .int f5189_6, .int f5189_7, .int f5189_8, .int f5189_9])), (w, .inr (7, [.ref su, .ref f5187_1, .ref (cs (400 + i)), .ref (cs (420 + i)), .ref (cs (460 + i)), .ref f5187_5, .long f5187_6, .int f5187_7, .int f5187_8, .int f5187_9, .int x5230, .int f5187_11, .int f5187_12, .int f5187_13, .int f5187_14, .int f5187_15])), ((cs (460 + i)), .inr (1, [.int b0, .int b1, .int b2, .int b3, .int b4, .int b5, .int b6]))] _ := hB.1
    refine W.know (fun hg => ?_)
    rw [hH0] at hg
    exact en_v hx hb hr hlocks hL (Nat.zero_le _) (Nat.zero_le _) dX7_receive_31 (⟨_, KX.rf, hT, hF, _, _, _, _, _, hMW, ⟨hg, hGN⟩, hbo.rd ht16 hpl, fun _ _ => Nat.le_refl _⟩)
theorem mX7_tick_1 : (.fieldLink RX7 64 "OneBeat$World" "time" "I" : Cond) ∈ wsX7_tick := List.mem_of_getElem? (i := 1) (by decide +kernel)
theorem iX7_tick_7 : ∀ w ∈ wsX70, w ∈ wsX7_tick := fun w h => List.mem_of_mem_drop (List.mem_of_mem_take ((show wsX70 = (wsX7_tick.drop 141).take 16 by decide +kernel) ▸ h))
theorem mX7_tick_2 : (.fieldLink RX7 20 "OneBeat$World" "mail" "LOneBeat$Mail;" : Cond) ∈ wsX7_tick := List.mem_of_getElem? (i := 2) (by decide +kernel)
theorem hdX2_clear_v : yX2_clear.cls = RX2 ∧ yX2_clear.cls ≠ "java/lang/invoke/MethodHandle" ∧ yX2_clear.cls ≠ "java/lang/invoke/VarHandle" ∧ (parseMethodDescriptor yX2_clear.desc).map (fun d => d.parameters.length) = some 1 := by decide +kernel
theorem mX7_tick_4 : (.fieldLink RX7 27 "OneBeat$World" "latest" "LOneBeat$Proposal;" : Cond) ∈ wsX7_tick := List.mem_of_getElem? (i := 4) (by decide +kernel)
theorem iX7_tick_4 : ∀ w ∈ wsX40, w ∈ wsX7_tick := fun w h => List.mem_of_mem_drop (List.mem_of_mem_take ((show wsX40 = (wsX7_tick.drop 157).take 8 by decide +kernel) ▸ h))
theorem mX7_tick_5 : (.fieldLink RX7 52 "OneBeat$World" "setup" "LOneBeat$Setup;" : Cond) ∈ wsX7_tick := List.mem_of_getElem? (i := 5) (by decide +kernel)
theorem iX7_tick_6 : ∀ w ∈ wsX60, w ∈ wsX7_tick := fun w h => List.mem_of_mem_drop (List.mem_of_mem_take ((show wsX60 = (wsX7_tick.drop 165).take 8 by decide +kernel) ▸ h))
theorem hdX7_changeIfDue_v : yX7_changeIfDue.cls = RX7 ∧ yX7_changeIfDue.cls ≠ "java/lang/invoke/MethodHandle" ∧ yX7_changeIfDue.cls ≠ "java/lang/invoke/VarHandle" ∧ (parseMethodDescriptor yX7_changeIfDue.desc).map (fun d => d.parameters.length) = some 1 := by decide +kernel
theorem hdX7_giveUp_v : yX7_giveUp.cls = RX7 ∧ yX7_giveUp.cls ≠ "java/lang/invoke/MethodHandle" ∧ yX7_giveUp.cls ≠ "java/lang/invoke/VarHandle" ∧ (parseMethodDescriptor yX7_giveUp.desc).map (fun d => d.parameters.length) = some 0 := by decide +kernel
theorem mX7_tick_3 : (.fieldLink RX7 34 "OneBeat$World" "incoming" "LOneBeat$Letter;" : Cond) ∈ wsX7_tick := List.mem_of_getElem? (i := 3) (by decide +kernel)
theorem hdX7_receive_v : yX7_receive.cls = RX7 ∧ yX7_receive.cls ≠ "java/lang/invoke/MethodHandle" ∧ yX7_receive.cls ≠ "java/lang/invoke/VarHandle" ∧ (parseMethodDescriptor yX7_receive.desc).map (fun d => d.parameters.length) = some 0 := by decide +kernel
theorem hdX7_commitIfVoted_v : yX7_commitIfVoted.cls = RX7 ∧ yX7_commitIfVoted.cls ≠ "java/lang/invoke/MethodHandle" ∧ yX7_commitIfVoted.cls ≠ "java/lang/invoke/VarHandle" ∧ (parseMethodDescriptor yX7_commitIfVoted.desc).map (fun d => d.parameters.length) = some 0 := by decide +kernel
set_option maxHeartbeats 4000000 in
set_option maxRecDepth 100000 in
theorem c_X7_tick {l : Launch} {D : va_G} {cs : Nat → ClassId} {B0 T : Nat} {κ : KM} {H0 : Heap} (hT : WT B0 D cs T κ H0) {w i : Nat} (hw : T2 κ w 8 i) {C cn ln : Nat → Nat} {rw9 : Nat → Nat → Int32} {dl : Nat → Int32} {su tm : Nat} (hsu : (κ w).2.2.1 = su) (htm : (κ w).2.2.2 = tm) (hMW : MW D cs H0 i su tm C cn ln rw9 dl) {b : Nat} (hbo : EL C dl cn rw9 0 0 (κ (cs (420 + i))).2.2.1 b) (hb24 : b ≤ 24) : KC l yX7_tick wsX7_tick 5 156 ((56 * sumN C 16 + 22407 - 2 * sumN ln 16) / 35) (56 * sumN C 16 + 22407 - 2 * sumN ln 16) D cs B0 H0 [.ref w] (Qv (fun H => ∃ κ1, KU i κ κ1 ∧ WT B0 D cs T κ1 H ∧ Fr B0 [i, i + 20, i + 40] κ H0 H ∧ ∃ cn1 ln1 rw1 t1 k n, MW D cs H i su t1 C cn1 ln1 rw1 dl ∧ GP H0 H ln ln1 k n ∧ (κ1 w).2.2.1 = su ∧ (κ1 w).2.2.2 = t1 ∧ EL C dl cn1 rw1 0 0 (κ1 (cs (420 + i))).2.2.1 b)) := by
  refine KC.of cX7_tick 3 none (by decide) rfl (Nat.le_of_ble_eq_true rfl) ?_
  intro p e s m below meth c ls hx hb hr hml hown hts hlocks hin hN hE hH0 hl
  have hown : s.vm.findClass RX7 = some m.cls := hown
  have hl : lv_has ls 3 [(0, .ref w)] := hl
  have hL : OkL B0 [] := OkL.nil
  have hF : Fr B0 [i, i + 20, i + 40] κ H0 H0 := Fr.rf
  obtain ⟨hmk, hpr, hli, -, hi10⟩ := hT.ml hw
  have ht16 := hMW.2.2.2
  have h15a : ¬ 15 = i := by omega
  have h15b : ¬ 15 = i + 20 := by omega
  have h15c : ¬ 15 = i + 40 := by omega
  have hGN : GN ln ln 0 0 := GN.rf
  have hs0 := hMW.2.2.1.sum
  have hEO := hbo
  obtain ⟨t1, ht1⟩ : ∃ t1, (tm + 1) % 16 = t1 := ⟨_, rfl⟩
  have ht9 : t1 < 16 := by omega
  refine lv_aload_n hx hb dX7_tick_0 rfl (lv_at hl 0 rfl) ?_
  refine lv_dup hx hb dX7_tick_1 rfl ?_
  obtain ⟨hb5231, e5231, hat5231, hk5231⟩ := hT.o8 hw.1
  obtain ⟨f5231_0, f5231_1, f5231_2, f5231_3, f5231_4, f5231_5, f5231_6, f5231_7, f5231_8, f5231_9, f5231_10, f5231_11, f5231_12, f5231_13, f5231_14, f5231_15, rfl, t5231_0, c5231_su, t5231_1, t5231_2, t5231_3, t5231_4, t5231_5, c5231_tm, c5231_lt, c5231_ml, c5231_pr, c5231_li⟩ := hk5231
  rw [hw.2] at t5231_1
  rw [hw.2] at t5231_2
  rw [hw.2] at t5231_3
  rw [hw.2] at t5231_4
  rw [hw.2] at t5231_5
  rw [hw.2] at c5231_lt c5231_ml c5231_pr c5231_li
  subst c5231_ml
  subst c5231_pr
  subst c5231_li
  have esu5231 := (c5231_su.trans hsu).symm
  subst esu5231
  have ctm5231 : f5231_7 &&& 15 = nI tm := by rw [c5231_tm, htm]
  have hP : va_P D vwCl [(w, .inr (7, [.ref su, .ref f5231_1, .ref (cs (400 + i)), .ref (cs (420 + i)), .ref (cs (460 + i)), .ref f5231_5, .long f5231_6, .int f5231_7, .int f5231_8, .int f5231_9, .int f5231_10, .int f5231_11, .int f5231_12, .int f5231_13, .int f5231_14, .int f5231_15]))] _ := va_P.cons hat5231 va_P.nil
  refine va_get (D := D) (ci := 7) (v := .int f5231_7) (C := RX7) (T := TX7) (N := 16) hx hb hts iX7_tick_7 hown hN.1 hP 0 rfl rfl 7 (by decide) (hts _ mX7_tick_1) (fun _ h9 => h9) rfl dX7_tick_2 ?_
  refine lv_iconst (v := 1) hx hb dX7_tick_5 (by decide) ?_
  refine lv_iadd hx hb dX7_tick_6 ?_
  have hB : Bx B0 D _ [(w, .inr (7, [.ref su, .ref f5231_1, .ref (cs (400 + i)), .ref (cs (420 + i)), .ref (cs (460 + i)), .ref f5231_5, .long f5231_6, .int f5231_7, .int f5231_8, .int f5231_9, .int f5231_10, .int f5231_11, .int f5231_12, .int f5231_13, .int f5231_14, .int f5231_15]))] [] _ _ := Bx.of (fun a => (κ a).1) hL hP (fa_c hb5231 fa_n) (by simp only [List.map_cons, List.map_nil, hw.1]; decide)
  refine b_put (D := D) (ci := 7) (v := .int (f5231_7 + 1)) (ty := .int) (C := RX7) (T := TX7) (N := 16) hx hb hts iX7_tick_7 tyX7 tyX7_ok nmX7 hown hN hB 0 rfl rfl 7 (by decide) (hts _ mX7_tick_1) (fun _ h9 => h9) rfl (by decide +kernel) rfl rfl (Nat.le_of_ble_eq_true rfl) (.inl rfl) dX7_tick_7 (fun H locs hB => ?_)
  have hct9 : (f5231_7 + 1) &&& 15 = nI t1 := by rw [← ht1]; exact and15_1 ctm5231 ht16
  have hB : Bx B0 D _ [(w, .inr (7, [.ref su, .ref f5231_1, .ref (cs (400 + i)), .ref (cs (420 + i)), .ref (cs (460 + i)), .ref f5231_5, .long f5231_6, .int (f5231_7 + 1), .int f5231_8, .int f5231_9, .int f5231_10, .int f5231_11, .int f5231_12, .int f5231_13, .int f5231_14, .int f5231_15]))] [w] _ _ := hB
  refine lv_aload_n hx hb dX7_tick_10 rfl (lv_at hl 0 rfl) ?_
  refine va_get (D := D) (ci := 7) (v := .ref (cs (400 + i))) (C := RX7) (T := TX7) (N := 16) hx hb hts iX7_tick_7 hown hN.1 hB.1 0 rfl rfl 2 (by decide) (hts _ mX7_tick_2) (fun _ h9 => h9) rfl dX7_tick_11 ?_
  refine lv_aload_n hx hb dX7_tick_14 rfl (lv_at hl 0 rfl) ?_
  refine va_get (D := D) (ci := 7) (v := .int (f5231_7 + 1)) (C := RX7) (T := TX7) (N := 16) hx hb hts iX7_tick_7 hown hN.1 hB.1 0 rfl rfl 7 (by decide) (hts _ mX7_tick_1) (fun _ h9 => h9) rfl dX7_tick_15 ?_
  have hMW := hMW.fr hT hw hsu (Fr.close (S := [i]) Fr.rf hB (fa_c (by simp [hw.2]) fa_n)) (by first | (simp; done) | (simp [h15a, h15b, h15c]; done) | (simp; omega) | omega) (by first | (simp; done) | (simp [h15a, h15b, h15c]; done) | (simp; omega) | omega)
  have hF : Fr B0 [i, i + 20, i + 40] κ H0 _ := hF.close hB (fa_c (by simp [hw.2]) fa_n)
  have hT : WT B0 D cs T (kp κ w su t1) _ := hT.closeK w su t1 hB (by rw [hw.1]; decide) (by rw [hw.1]; decide) (List.mem_of_getElem? (i := 0) rfl) ⟨⟨0, _, rfl, kp_ok (ok_8 (k := ((κ w).1, (κ w).2.1, _, _)) hw.1 ⟨_, _, _, _, _, _, _, _, _, _, _, _, _, _, _, _, rfl, (t2kp t5231_0), rfl, ⟨(t2kp t5231_1).1, by rw [hw.2]; exact (t2kp t5231_1).2⟩, ⟨(t2kp t5231_2).1, by rw [hw.2]; exact (t2kp t5231_2).2⟩, ⟨(t2kp t5231_3).1, by rw [hw.2]; exact (t2kp t5231_3).2⟩, ⟨(t2kp t5231_4).1, by rw [hw.2]; exact (t2kp t5231_4).2⟩, ⟨(t2kp t5231_5).1, by rw [hw.2]; exact (t2kp t5231_5).2⟩, hct9, (by rw [hw.2]; omega), (by first | rw [hw.2] | (dsimp only; rw [hw.2])), (by first | rw [hw.2] | (dsimp only; rw [hw.2])), (by first | rw [hw.2] | (dsimp only; rw [hw.2]))⟩)⟩, trivial⟩
  have hL : OkL B0 _ := hB.2.2.2.2.2
  have hP : va_P D vwCl [(w, .inr (7, [.ref su, .ref f5231_1, .ref (cs (400 + i)), .ref (cs (420 + i)), .ref (cs (460 + i)), .ref f5231_5, .long f5231_6, .int (f5231_7 + 1), .int f5231_8, .int f5231_9, .int f5231_10, .int f5231_11, .int f5231_12, .int f5231_13, .int f5231_14, .int f5231_15]))] _ := hB.1
  obtain ⟨κ5232, hκ5232⟩ : ∃ κ9 : KM, κ9 = (kp κ w su t1) := ⟨_, rfl⟩
  have hxf5232 : KF κ κ5232 := by rw [hκ5232]; exact KF.kp
  rw [← hκ5232] at hT
  have hKF : KF κ κ5232 := hxf5232
  have hKU : KU i κ κ5232 := (show KU i κ κ5232 by rw [hκ5232]; exact KU.kp hw)
  have hsu : (κ5232 w).2.2.1 = su := by rw [hκ5232, kp_a]
  have htm : (κ5232 w).2.2.2 = t1 := by rw [hκ5232, kp_a]
  have hw := (KF.t2 hxf5232 hw (by decide))
  have t5231_2 := (KF.t2 hxf5232 t5231_2 (by decide))
  have hpr := (KF.t2 hxf5232 hpr (by decide))
  have hmk := (KF.t2 hxf5232 hmk (by decide))
  have hli := (KF.t2 hxf5232 hli (by decide))
  have hMW := hMW.tm ht9
  have hcn := EE_cb (Nat.le_trans hEO.le9 hb24)
  have hmm : m15 (f5231_7 + 1) = t1 := m15_of hct9 ht9
  refine cv_i (As := [.int (f5231_7 + 1)]) (rest := []) (b := (cs (400 + i))) ⟨hx, hb, hml, hown, hts⟩ (c_X2_countAt_dc hT (w := (cs (400 + i))) t5231_2 (x := (f5231_7 + 1)) hMW.1 hMW.2.2.1 hcn) (cwV 1 hts gX7_tick_X2_countAt rfl rfl rfl hdX2_countAt_v ⟨Nat.le_of_ble_eq_true rfl, Nat.le_of_ble_eq_true rfl⟩) hN hE hL (rcv3 hN hT t5231_2.1) rfl rfl hl.1 (Nat.le_of_ble_eq_true rfl) dX7_tick_18 (Nat.zero_le _) (Nat.zero_le _) (fun r5233 H1 locs hL hqr5233 => ?_)
  obtain ⟨h9, hqr5233⟩ := hqr5233; replace h9 := h9.symm; subst h9
  obtain rfl := hqr5233
  refine tp_i (nI (cn t1)) (by rw [hmm]) ?_
  have hc9 := hcn t1 ht9
  have hc8 := (hMW.2.2.1 t1 ht9).2.2.2
  refine lv_istore_n (lv' := [(1, .int (nI (cn t1))), (0, .ref w)]) hx hb dX7_tick_21 rfl hl (by decide) rfl (fun ls hl => ?_)
  refine lv_iconst (v := 0) hx hb dX7_tick_22 (by decide) ?_
  refine lv_istore_n (lv' := [(2, .int 0), (1, .int (nI (cn t1))), (0, .ref w)]) hx hb dX7_tick_23 rfl hl (by decide) rfl (fun ls hl => ?_)
  have hpo9 : κ5232 (cs (420 + i)) = κ (cs (420 + i)) := by rw [hκ5232]; exact kp_n (ne_c hpr.1 hw.1 (by decide))
  refine W.know (fun hgb => ?_)
  rw [hH0] at hgb
  refine W.widen (k := ((56 * sumN C 16 + 22407 - 2 * sumN ln 16) / 35)) (n := (56 * sumN C 16 + 22407 - 2 * sumN ln 16)) (Nat.zero_le _) (Nat.zero_le _) ?_
  refine lp_m (α := Nat × KM × (Nat → Nat) × (Nat → Nat) × (Nat → Nat → Int32) × Nat × Nat) (nL := 3) (fun a9 => cn t1 - a9.1) (fun a9 H9 l9 => (a9.1 ≤ cn t1) ∧ (KU i κ a9.2.1) ∧ (T2 a9.2.1 w 8 i) ∧ ((a9.2.1 w).2.2.1 = su) ∧ ((a9.2.1 w).2.2.2 = t1) ∧ (MW D cs H9 i su t1 C a9.2.2.1 a9.2.2.2.1 a9.2.2.2.2.1 dl) ∧ (EL C dl a9.2.2.1 a9.2.2.2.2.1 t1 a9.1 (a9.2.1 (cs (420 + i))).2.2.1 b) ∧ (Gr H0 H9 a9.2.2.2.2.2.1 a9.2.2.2.2.2.2) ∧ (GN ln a9.2.2.2.1 a9.2.2.2.2.2.1 a9.2.2.2.2.2.2) ∧ (∀ q, q < 16 → cn q ≤ a9.2.2.1 q) ∧ (WT B0 D cs T a9.2.1 H9) ∧ (Fr B0 [i, i + 20, i + 40] κ H0 H9) ∧ (OkL B0 l9)) (fun a9 => [(2, .int (nI a9.1)), (0, .ref w), (1, .int (nI (cn t1)))]) ?_ (0, κ5232, cn, ln, rw9, 0, 0) _ _ _ ⟨(Nat.zero_le _), hKU, hw, hsu, htm, hMW, (hEO.st.k (congrArg (fun q9 => q9.2.2.1) hpo9)), hgb, hGN, (fun _ _ => Nat.le_refl _), hT, hF, hL⟩ (lv_sub hl [0, 2, 1] rfl)
  rintro ⟨p, κ9, cn9, ln9, rw99, k9, n9⟩ H locs ls ih5234 ⟨hp, hKU, hw, hsu, htm, hMW, hEO, hGR, hGN, hmo, hT, hF, hL⟩ hl
  have hl : lv_has ls 3 [(2, .int (nI p)), (0, .ref w), (1, .int (nI (cn t1)))] := hl
  have hp : p ≤ cn t1 := hp
  have hKU : KU i κ κ9 := hKU
  have hw : T2 κ9 w 8 i := hw
  have hsu : (κ9 w).2.2.1 = su := hsu
  have htm : (κ9 w).2.2.2 = t1 := htm
  have hMW : MW D cs H i su t1 C cn9 ln9 rw99 dl := hMW
  have hEO : EL C dl cn9 rw99 t1 p (κ9 (cs (420 + i))).2.2.1 b := hEO
  have hGR : Gr H0 H k9 n9 := hGR
  have hGN : GN ln ln9 k9 n9 := hGN
  have hmo : ∀ q, q < 16 → cn q ≤ cn9 q := hmo
  have hT : WT B0 D cs T κ9 _ := hT
  have hKF := hKU.1
  refine W.tight (k := k9) (n := n9) (by rw [hH0]; exact hGR) ?_
  obtain ⟨hmk, hpr, hli, -, -⟩ := hT.ml hw
  have hg1 := hGN.1
  have hg2 := hGN.2
  have hs9 := hMW.2.2.1.sum
  have hcn := EE_cb (Nat.le_trans hEO.le9 hb24)
  have hc9 := hcn t1 ht9
  have hc8 := (hMW.2.2.1 t1 ht9).2.2.2
  have hc7 := hmo t1 ht9
  refine lv_iload_n hx hb dX7_tick_24 rfl (lv_at hl 0 rfl) ?_
  refine lv_iload_n hx hb dX7_tick_25 rfl (lv_at hl 2 rfl) ?_
  refine lv_icmp_ge (tgt := 62) hx hb dX7_tick_26 (by decide) (fun c5235 => ?_) (fun c5235 => ?_)
  · have c5235 : (cn t1) ≤ p := (nI_leI (a := (cn t1)) (b := p) (by omega) (by omega)).mp c5235
    refine lv_aload_n hx hb dX7_tick_62 rfl (lv_at hl 1 rfl) ?_
    obtain ⟨hb5236, e5236, hat5236, hk5236⟩ := hT.o8 hw.1
    obtain ⟨f5236_0, f5236_1, f5236_2, f5236_3, f5236_4, f5236_5, f5236_6, f5236_7, f5236_8, f5236_9, f5236_10, f5236_11, f5236_12, f5236_13, f5236_14, f5236_15, rfl, t5236_0, c5236_su, t5236_1, t5236_2, t5236_3, t5236_4, t5236_5, c5236_tm, c5236_lt, c5236_ml, c5236_pr, c5236_li⟩ := hk5236
    rw [hw.2] at t5236_1
    rw [hw.2] at t5236_2
    rw [hw.2] at t5236_3
    rw [hw.2] at t5236_4
    rw [hw.2] at t5236_5
    rw [hw.2] at c5236_lt c5236_ml c5236_pr c5236_li
    subst c5236_ml
    subst c5236_pr
    subst c5236_li
    have esu5236 := (c5236_su.trans hsu).symm
    subst esu5236
    have ctm5236 : f5236_7 &&& 15 = nI t1 := by rw [c5236_tm, htm]
    have hP : va_P D vwCl [(w, .inr (7, [.ref su, .ref f5236_1, .ref (cs (400 + i)), .ref (cs (420 + i)), .ref (cs (460 + i)), .ref f5236_5, .long f5236_6, .int f5236_7, .int f5236_8, .int f5236_9, .int f5236_10, .int f5236_11, .int f5236_12, .int f5236_13, .int f5236_14, .int f5236_15]))] _ := va_P.cons hat5236 va_P.nil
    refine va_get (D := D) (ci := 7) (v := .ref (cs (400 + i))) (C := RX7) (T := TX7) (N := 16) hx hb hts iX7_tick_7 hown hN.1 hP 0 rfl rfl 2 (by decide) (hts _ mX7_tick_2) (fun _ h9 => h9) rfl dX7_tick_63 ?_
    refine lv_aload_n hx hb dX7_tick_66 rfl (lv_at hl 1 rfl) ?_
    refine va_get (D := D) (ci := 7) (v := .int f5236_7) (C := RX7) (T := TX7) (N := 16) hx hb hts iX7_tick_7 hown hN.1 hP 0 rfl rfl 7 (by decide) (hts _ mX7_tick_1) (fun _ h9 => h9) rfl dX7_tick_67 ?_
    have hcn := EE_cb (Nat.le_trans hEO.le9 hb24)
    have hmm : m15 f5236_7 = t1 := m15_of ctm5236 ht9
    refine cv_v (As := [.int f5236_7]) (rest := []) (b := (cs (400 + i))) ⟨hx, hb, hml, hown, hts⟩ (c_X2_clear_dc hT (w := (cs (400 + i))) t5236_2 (x := f5236_7) hMW.1 hMW.2.2.1 hcn) (cwV 1 hts gX7_tick_X2_clear rfl rfl rfl hdX2_clear_v ⟨Nat.le_of_ble_eq_true rfl, Nat.le_of_ble_eq_true rfl⟩) hN hE hL (rcv3 hN hT t5236_2.1) rfl rfl hl.1 (Nat.le_of_ble_eq_true rfl) dX7_tick_70 (show k9 + 0 ≤ ((56 * sumN C 16 + 22407 - 2 * sumN ln 16) / 35) by omega) (show n9 + 0 ≤ (56 * sumN C 16 + 22407 - 2 * sumN ln 16) by omega) (fun H1 locs hL hqr5237 => ?_)
    obtain ⟨hT1, hF1, hqr5237⟩ := hqr5237
    have hP : va_P D vwCl [(w, .inr (7, [.ref su, .ref f5236_1, .ref (cs (400 + i)), .ref (cs (420 + i)), .ref (cs (460 + i)), .ref f5236_5, .long f5236_6, .int f5236_7, .int f5236_8, .int f5236_9, .int f5236_10, .int f5236_11, .int f5236_12, .int f5236_13, .int f5236_14, .int f5236_15]))] _ := hF1.hP (hP.sub [0] rfl) (fa_c ⟨by rw [hw.1]; decide, by rw [hw.2]; first | decide | (simp; done) | (simp [h15a, h15b, h15c]; done) | (simp; omega)⟩ fa_n)
    have hTo := hT
    have hwo := hw
    have hsuo := hsu
    have hF9 := hF1
    have hF := hF.tr ((hF1.kf hKF).mono (by simp))
    have hT := hT1
    have m5238 := hqr5237
    rw [hmm] at m5238
    have hMW := hMW.mb hTo hwo hsuo hF9 (by first | (simp; done) | (simp [h15a, h15b, h15c]; done) | (simp; omega) | omega) m5238 hMW.2.2.1.clear
    have hEO := hEO.clear
    refine lv_aload_n hx hb dX7_tick_73 rfl (lv_at hl 1 rfl) ?_
    refine va_get (D := D) (ci := 7) (v := .ref (cs (420 + i))) (C := RX7) (T := TX7) (N := 16) hx hb hts iX7_tick_7 hown hN.1 hP 0 rfl rfl 3 (by decide) (hts _ mX7_tick_4) (fun _ h9 => h9) rfl dX7_tick_74 ?_
    obtain ⟨hb5239, e5239, hat5239, hk5239⟩ := hT.o5 t5236_3.1
    obtain ⟨f5239_0, f5239_1, f5239_2, f5239_3, f5239_4, f5239_5, f5239_6, f5239_7, rfl, c5239⟩ := hk5239
    have hP : va_P D vwCl [((cs (420 + i)), .inr (4, [.int f5239_0, .int f5239_1, .int f5239_2, .int f5239_3, .int f5239_4, .int f5239_5, .int f5239_6, .int f5239_7])), (w, .inr (7, [.ref su, .ref f5236_1, .ref (cs (400 + i)), .ref (cs (420 + i)), .ref (cs (460 + i)), .ref f5236_5, .long f5236_6, .int f5236_7, .int f5236_8, .int f5236_9, .int f5236_10, .int f5236_11, .int f5236_12, .int f5236_13, .int f5236_14, .int f5236_15]))] _ := va_P.cons hat5239 hP
    refine va_getN (D := D) (ci := 4) (v := .int f5239_5) (C := RX4) (T := TX4) (N := 8) hx hb hts iX7_tick_4 hown hN.1 hP 0 rfl rfl 5 (by decide) (hN.f 12 rfl) (fun _ h9 => h9) rfl dX7_tick_77 ?_
    refine lv_if_ne (tgt := 101) hx hb dX7_tick_80 (by decide) (fun c5240 => ?_) (fun c5240 => ?_)
    · refine lv_iconst (v := 0) hx hb dX7_tick_101 (by decide) ?_
      refine lv_istore_n (lv' := [(2, .int 0), (0, .ref w), (1, .int (nI (cn t1)))]) hx hb dX7_tick_102 rfl hl (by decide) rfl (fun ls hl => ?_)
      refine lp_m (α := Nat) (nL := 3) (fun a9 => 8 - a9) (fun a9 H9 l9 => (a9 ≤ 8) ∧ (MW D cs H9 i su t1 C (up9 cn9 t1 0) ln9 rw99 dl) ∧ (WT B0 D cs T κ9 H9) ∧ (Fr B0 [i, i + 20, i + 40] κ H0 H9) ∧ (OkL B0 l9)) (fun a9 => [(2, .int (nI a9)), (0, .ref w)]) ?_ 0 _ _ _ ⟨(by show (0) ≤ 8; omega), hMW, hT, hF, hL⟩ (lv_sub hl [0, 1] rfl)
      rintro p2 H locs ls ih5241 ⟨hp2, hMW, hT, hF, hL⟩ hl
      have hl : lv_has ls 3 [(2, .int (nI p2)), (0, .ref w)] := hl
      have hp2 : p2 ≤ 8 := hp2
      have hMW : MW D cs H i su t1 C (up9 cn9 t1 0) ln9 rw99 dl := hMW
      refine lv_iload_n hx hb dX7_tick_103 rfl (lv_at hl 0 rfl) ?_
      refine lv_aload_n hx hb dX7_tick_104 rfl (lv_at hl 1 rfl) ?_
      obtain ⟨hb5242, e5242, hat5242, hk5242⟩ := hT.o8 hw.1
      obtain ⟨f5242_0, f5242_1, f5242_2, f5242_3, f5242_4, f5242_5, f5242_6, f5242_7, f5242_8, f5242_9, f5242_10, f5242_11, f5242_12, f5242_13, f5242_14, f5242_15, rfl, t5242_0, c5242_su, t5242_1, t5242_2, t5242_3, t5242_4, t5242_5, c5242_tm, c5242_lt, c5242_ml, c5242_pr, c5242_li⟩ := hk5242
      rw [hw.2] at t5242_1
      rw [hw.2] at t5242_2
      rw [hw.2] at t5242_3
      rw [hw.2] at t5242_4
      rw [hw.2] at t5242_5
      rw [hw.2] at c5242_lt c5242_ml c5242_pr c5242_li
      subst c5242_ml
      subst c5242_pr
      subst c5242_li
      have esu5242 := (c5242_su.trans hsu).symm
      subst esu5242
      have ctm5242 : f5242_7 &&& 15 = nI t1 := by rw [c5242_tm, htm]
      have hP : va_P D vwCl [(w, .inr (7, [.ref su, .ref f5242_1, .ref (cs (400 + i)), .ref (cs (420 + i)), .ref (cs (460 + i)), .ref f5242_5, .long f5242_6, .int f5242_7, .int f5242_8, .int f5242_9, .int f5242_10, .int f5242_11, .int f5242_12, .int f5242_13, .int f5242_14, .int f5242_15]))] _ := va_P.cons hat5242 va_P.nil
      refine va_get (D := D) (ci := 7) (v := .ref su) (C := RX7) (T := TX7) (N := 16) hx hb hts iX7_tick_7 hown hN.1 hP 0 rfl rfl 0 (by decide) (hts _ mX7_tick_5) (fun _ h9 => h9) rfl dX7_tick_105 ?_
      obtain ⟨hb5243, e5243, hat5243, hk5243⟩ := hT.o7 t5242_0.1
      obtain ⟨f5243_0, f5243_1, f5243_2, f5243_3, f5243_4, f5243_5, f5243_6, f5243_7, rfl, c5243_0, c5243_3, c5243_mg, t5243_4, t5243_5, t5243_6, t5243_7⟩ := hk5243
      rw [t5242_0.2] at t5243_4
      rw [t5242_0.2] at t5243_5
      rw [t5242_0.2] at t5243_6
      rw [t5242_0.2] at t5243_7
      have hP : va_P D vwCl [(su, .inr (6, [.int (nI f5243_0), .int f5243_1, .int f5243_2, f5243_3, .ref f5243_4, .ref f5243_5, .ref f5243_6, .ref f5243_7])), (w, .inr (7, [.ref su, .ref f5242_1, .ref (cs (400 + i)), .ref (cs (420 + i)), .ref (cs (460 + i)), .ref f5242_5, .long f5242_6, .int f5242_7, .int f5242_8, .int f5242_9, .int f5242_10, .int f5242_11, .int f5242_12, .int f5242_13, .int f5242_14, .int f5242_15]))] _ := va_P.cons hat5243 hP
      refine va_getN (D := D) (ci := 6) (v := .int (nI f5243_0)) (C := RX6) (T := TX6) (N := 8) hx hb hts iX7_tick_6 hown hN.1 hP 0 rfl rfl 0 (by decide) (hN.f 39 rfl) (fun _ h9 => h9) rfl dX7_tick_108 ?_
      refine lv_icmp_ge (tgt := 125) hx hb dX7_tick_111 (by decide) (fun c5244 => ?_) (fun c5244 => ?_)
      · have c5244 : f5243_0 ≤ p2 := (nI_leI (a := f5243_0) (b := p2) (by omega) (by omega)).mp c5244
        refine W.know (fun hg => ?_)
        rw [hH0] at hg
        exact en_v hx hb hr hlocks hL (show k9 ≤ ((56 * sumN C 16 + 22407 - 2 * sumN ln 16) / 35) by omega) (show n9 ≤ (56 * sumN C 16 + 22407 - 2 * sumN ln 16) by omega) dX7_tick_125 (⟨_, hKU, hT, hF, _, _, _, _, _, _, hMW, ⟨hg, hGN⟩, hsu, htm, hEO.st⟩)
      · have c5244 : ¬ f5243_0 ≤ p2 := fun h9 => c5244 ((nI_leI (a := f5243_0) (b := p2) (by omega) (by omega)).mpr h9)
        refine lv_aload_n hx hb dX7_tick_114 rfl (lv_at hl 1 rfl) ?_
        refine lv_iload_n hx hb dX7_tick_115 rfl (lv_at hl 0 rfl) ?_
        refine cv_v (As := [.int (nI p2)]) (rest := []) (b := w) ⟨hx, hb, hml, hown, hts⟩ (c_X7_changeIfDue hT (w := w) hw (x := (nI p2))) (cwV 1 hts gX7_tick_X7_changeIfDue rfl rfl rfl hdX7_changeIfDue_v ⟨Nat.le_of_ble_eq_true rfl, Nat.le_of_ble_eq_true rfl⟩) hN hE hL (rcv8 hN hT hw.1) rfl rfl hl.1 (Nat.le_of_ble_eq_true rfl) dX7_tick_116 (show k9 + 0 ≤ ((56 * sumN C 16 + 22407 - 2 * sumN ln 16) / 35) by omega) (show n9 + 0 ≤ (56 * sumN C 16 + 22407 - 2 * sumN ln 16) by omega) (fun H1 locs hL hqr5245 => ?_)
        obtain ⟨hT1, hF1⟩ := hqr5245
        have hP : va_P D vwCl [(su, .inr (6, [.int (nI f5243_0), .int f5243_1, .int f5243_2, f5243_3, .ref f5243_4, .ref f5243_5, .ref f5243_6, .ref f5243_7]))] _ := hF1.hP (hP.sub [0] rfl) (fa_c ⟨by rw [t5242_0.1]; decide, by rw [t5242_0.2]; first | decide | (simp; done) | (simp [h15a, h15b, h15c]; done) | (simp; omega)⟩ fa_n)
        have hMW := hMW.fr hT hw hsu hF1 (by first | (simp; done) | (simp [h15a, h15b, h15c]; done) | (simp; omega) | omega) (by first | (simp; done) | (simp [h15a, h15b, h15c]; done) | (simp; omega) | omega)
        have hF := hF.tr ((hF1.kf hKF).mono (by simp))
        have hT := hT1
        refine lv_iinc (v := (nI (p2 + 1))) (lv' := [(2, .int (nI (p2 + 1))), (0, .ref w)]) hx hb dX7_tick_119 hl (k := 0) rfl (nI_add _ 1) (by decide) rfl (fun ls hl => ?_)
        refine lv_goto (tgt := 103) hx hb dX7_tick_122 (by decide) ?_
        exact ih5241 (p2 + 1) _ _ _ (by show 8 - ((p2 + 1)) < 8 - p2; omega) ⟨(by show ((p2 + 1)) ≤ 8; omega), hMW, hT, hF, hL⟩ (lv_sub hl [0, 1] rfl)
    · have hop : (κ9 (cs (420 + i))).2.2.1 = 0 := c5239.mp c5240
      refine lv_aload_n hx hb dX7_tick_83 rfl (lv_at hl 1 rfl) ?_
      refine va_get (D := D) (ci := 7) (v := .ref (cs (420 + i))) (C := RX7) (T := TX7) (N := 16) hx hb hts iX7_tick_7 hown hN.1 hP 1 rfl rfl 3 (by decide) (hts _ mX7_tick_4) (fun _ h9 => h9) rfl dX7_tick_84 ?_
      refine va_getN (D := D) (ci := 4) (v := .int f5239_2) (C := RX4) (T := TX4) (N := 8) hx hb hts iX7_tick_4 hown hN.1 hP 0 rfl rfl 2 (by decide) (hN.f 8 rfl) (fun _ h9 => h9) rfl dX7_tick_87 ?_
      refine lv_aload_n hx hb dX7_tick_90 rfl (lv_at hl 1 rfl) ?_
      refine va_get (D := D) (ci := 7) (v := .int f5236_7) (C := RX7) (T := TX7) (N := 16) hx hb hts iX7_tick_7 hown hN.1 hP 1 rfl rfl 7 (by decide) (hts _ mX7_tick_1) (fun _ h9 => h9) rfl dX7_tick_91 ?_
      refine lv_icmp_ne (tgt := 101) hx hb dX7_tick_94 (by decide) (fun c5246 => ?_) (fun c5246 => ?_)
      · refine lv_iconst (v := 0) hx hb dX7_tick_101 (by decide) ?_
        refine lv_istore_n (lv' := [(2, .int 0), (0, .ref w), (1, .int (nI (cn t1)))]) hx hb dX7_tick_102 rfl hl (by decide) rfl (fun ls hl => ?_)
        refine lp_m (α := Nat) (nL := 3) (fun a9 => 8 - a9) (fun a9 H9 l9 => (a9 ≤ 8) ∧ (MW D cs H9 i su t1 C (up9 cn9 t1 0) ln9 rw99 dl) ∧ (WT B0 D cs T κ9 H9) ∧ (Fr B0 [i, i + 20, i + 40] κ H0 H9) ∧ (OkL B0 l9)) (fun a9 => [(2, .int (nI a9)), (0, .ref w)]) ?_ 0 _ _ _ ⟨(by show (0) ≤ 8; omega), hMW, hT, hF, hL⟩ (lv_sub hl [0, 1] rfl)
        rintro p2 H locs ls ih5247 ⟨hp2, hMW, hT, hF, hL⟩ hl
        have hl : lv_has ls 3 [(2, .int (nI p2)), (0, .ref w)] := hl
        have hp2 : p2 ≤ 8 := hp2
        have hMW : MW D cs H i su t1 C (up9 cn9 t1 0) ln9 rw99 dl := hMW
        refine lv_iload_n hx hb dX7_tick_103 rfl (lv_at hl 0 rfl) ?_
        refine lv_aload_n hx hb dX7_tick_104 rfl (lv_at hl 1 rfl) ?_
        obtain ⟨hb5248, e5248, hat5248, hk5248⟩ := hT.o8 hw.1
        obtain ⟨f5248_0, f5248_1, f5248_2, f5248_3, f5248_4, f5248_5, f5248_6, f5248_7, f5248_8, f5248_9, f5248_10, f5248_11, f5248_12, f5248_13, f5248_14, f5248_15, rfl, t5248_0, c5248_su, t5248_1, t5248_2, t5248_3, t5248_4, t5248_5, c5248_tm, c5248_lt, c5248_ml, c5248_pr, c5248_li⟩ := hk5248
        rw [hw.2] at t5248_1
        rw [hw.2] at t5248_2
        rw [hw.2] at t5248_3
        rw [hw.2] at t5248_4
        rw [hw.2] at t5248_5
        rw [hw.2] at c5248_lt c5248_ml c5248_pr c5248_li
        subst c5248_ml
        subst c5248_pr
        subst c5248_li
        have esu5248 := (c5248_su.trans hsu).symm
        subst esu5248
        have ctm5248 : f5248_7 &&& 15 = nI t1 := by rw [c5248_tm, htm]
        have hP : va_P D vwCl [(w, .inr (7, [.ref su, .ref f5248_1, .ref (cs (400 + i)), .ref (cs (420 + i)), .ref (cs (460 + i)), .ref f5248_5, .long f5248_6, .int f5248_7, .int f5248_8, .int f5248_9, .int f5248_10, .int f5248_11, .int f5248_12, .int f5248_13, .int f5248_14, .int f5248_15]))] _ := va_P.cons hat5248 va_P.nil
        refine va_get (D := D) (ci := 7) (v := .ref su) (C := RX7) (T := TX7) (N := 16) hx hb hts iX7_tick_7 hown hN.1 hP 0 rfl rfl 0 (by decide) (hts _ mX7_tick_5) (fun _ h9 => h9) rfl dX7_tick_105 ?_
        obtain ⟨hb5249, e5249, hat5249, hk5249⟩ := hT.o7 t5248_0.1
        obtain ⟨f5249_0, f5249_1, f5249_2, f5249_3, f5249_4, f5249_5, f5249_6, f5249_7, rfl, c5249_0, c5249_3, c5249_mg, t5249_4, t5249_5, t5249_6, t5249_7⟩ := hk5249
        rw [t5248_0.2] at t5249_4
        rw [t5248_0.2] at t5249_5
        rw [t5248_0.2] at t5249_6
        rw [t5248_0.2] at t5249_7
        have hP : va_P D vwCl [(su, .inr (6, [.int (nI f5249_0), .int f5249_1, .int f5249_2, f5249_3, .ref f5249_4, .ref f5249_5, .ref f5249_6, .ref f5249_7])), (w, .inr (7, [.ref su, .ref f5248_1, .ref (cs (400 + i)), .ref (cs (420 + i)), .ref (cs (460 + i)), .ref f5248_5, .long f5248_6, .int f5248_7, .int f5248_8, .int f5248_9, .int f5248_10, .int f5248_11, .int f5248_12, .int f5248_13, .int f5248_14, .int f5248_15]))] _ := va_P.cons hat5249 hP
        refine va_getN (D := D) (ci := 6) (v := .int (nI f5249_0)) (C := RX6) (T := TX6) (N := 8) hx hb hts iX7_tick_6 hown hN.1 hP 0 rfl rfl 0 (by decide) (hN.f 39 rfl) (fun _ h9 => h9) rfl dX7_tick_108 ?_
        refine lv_icmp_ge (tgt := 125) hx hb dX7_tick_111 (by decide) (fun c5250 => ?_) (fun c5250 => ?_)
        · have c5250 : f5249_0 ≤ p2 := (nI_leI (a := f5249_0) (b := p2) (by omega) (by omega)).mp c5250
          refine W.know (fun hg => ?_)
          rw [hH0] at hg
          exact en_v hx hb hr hlocks hL (show k9 ≤ ((56 * sumN C 16 + 22407 - 2 * sumN ln 16) / 35) by omega) (show n9 ≤ (56 * sumN C 16 + 22407 - 2 * sumN ln 16) by omega) dX7_tick_125 (⟨_, hKU, hT, hF, _, _, _, _, _, _, hMW, ⟨hg, hGN⟩, hsu, htm, hEO.st⟩)
        · have c5250 : ¬ f5249_0 ≤ p2 := fun h9 => c5250 ((nI_leI (a := f5249_0) (b := p2) (by omega) (by omega)).mpr h9)
          refine lv_aload_n hx hb dX7_tick_114 rfl (lv_at hl 1 rfl) ?_
          refine lv_iload_n hx hb dX7_tick_115 rfl (lv_at hl 0 rfl) ?_
          refine cv_v (As := [.int (nI p2)]) (rest := []) (b := w) ⟨hx, hb, hml, hown, hts⟩ (c_X7_changeIfDue hT (w := w) hw (x := (nI p2))) (cwV 1 hts gX7_tick_X7_changeIfDue rfl rfl rfl hdX7_changeIfDue_v ⟨Nat.le_of_ble_eq_true rfl, Nat.le_of_ble_eq_true rfl⟩) hN hE hL (rcv8 hN hT hw.1) rfl rfl hl.1 (Nat.le_of_ble_eq_true rfl) dX7_tick_116 (show k9 + 0 ≤ ((56 * sumN C 16 + 22407 - 2 * sumN ln 16) / 35) by omega) (show n9 + 0 ≤ (56 * sumN C 16 + 22407 - 2 * sumN ln 16) by omega) (fun H1 locs hL hqr5251 => ?_)
          obtain ⟨hT1, hF1⟩ := hqr5251
          have hP : va_P D vwCl [(su, .inr (6, [.int (nI f5249_0), .int f5249_1, .int f5249_2, f5249_3, .ref f5249_4, .ref f5249_5, .ref f5249_6, .ref f5249_7]))] _ := hF1.hP (hP.sub [0] rfl) (fa_c ⟨by rw [t5248_0.1]; decide, by rw [t5248_0.2]; first | decide | (simp; done) | (simp [h15a, h15b, h15c]; done) | (simp; omega)⟩ fa_n)
          have hMW := hMW.fr hT hw hsu hF1 (by first | (simp; done) | (simp [h15a, h15b, h15c]; done) | (simp; omega) | omega) (by first | (simp; done) | (simp [h15a, h15b, h15c]; done) | (simp; omega) | omega)
          have hF := hF.tr ((hF1.kf hKF).mono (by simp))
          have hT := hT1
          refine lv_iinc (v := (nI (p2 + 1))) (lv' := [(2, .int (nI (p2 + 1))), (0, .ref w)]) hx hb dX7_tick_119 hl (k := 0) rfl (nI_add _ 1) (by decide) rfl (fun ls hl => ?_)
          refine lv_goto (tgt := 103) hx hb dX7_tick_122 (by decide) ?_
          exact ih5247 (p2 + 1) _ _ _ (by show 8 - ((p2 + 1)) < 8 - p2; omega) ⟨(by show ((p2 + 1)) ≤ 8; omega), hMW, hT, hF, hL⟩ (lv_sub hl [0, 1] rfl)
      · refine lv_aload_n hx hb dX7_tick_97 rfl (lv_at hl 1 rfl) ?_
        refine W.know (fun hgb => ?_)
        rw [hH0] at hgb
        refine cv_v (As := []) (rest := []) (b := w) ⟨hx, hb, hml, hown, hts⟩ (c_X7_giveUp hT (w := w) hw hsu htm hMW hEO hb24 hop) (cwV 0 hts gX7_tick_X7_giveUp rfl rfl rfl hdX7_giveUp_v ⟨Nat.le_of_ble_eq_true rfl, Nat.le_of_ble_eq_true rfl⟩) hN hE hL (rcv8 hN hT hw.1) rfl rfl hl.1 (Nat.le_of_ble_eq_true rfl) dX7_tick_98 (show k9 + ((56 * sumN C 16 + 22407 - 2 * sumN ln9 16) / 35) ≤ ((56 * sumN C 16 + 22407 - 2 * sumN ln 16) / 35) by omega) (show n9 + (56 * sumN C 16 + 22407 - 2 * sumN ln9 16) ≤ (56 * sumN C 16 + 22407 - 2 * sumN ln 16) by omega) (fun H1 locs hL hqr5252 => ?_)
        obtain ⟨κr5252, hxr5252, hT1, hF1, hqr5252⟩ := hqr5252
        have hxfr5252 := hxr5252.1
        have hTo := hT
        have hwo := hw
        have hsuo := hsu
        have hF9 := hF1
        have hF := hF.tr ((hF1.kf hKF).mono (by simp))
        have hT := hT1
        have hKF := hKF.tr hxfr5252
        have hKU : KU i κ κr5252 := hKU.tr hxr5252
        have hw := (KF.t2 hxfr5252 hw (by decide))
        have hpr := (KF.t2 hxfr5252 hpr (by decide))
        have hmk := (KF.t2 hxfr5252 hmk (by decide))
        have hli := (KF.t2 hxfr5252 hli (by decide))
        obtain ⟨c5253, l5254, w5255, k5256, n5257, m5258, g5259, q5260, e5261⟩ := hqr5252
        have hMW := m5258
        obtain ⟨k5262, n5263, hGP⟩ : ∃ k9 n9, GP H0 _ ln l5254 k9 n9 := ⟨_, _, GP.tr (show GP H0 _ ln ln9 _ _ from ⟨hgb, hGN⟩) g5259⟩
        refine W.tight (k := k5262) (n := n5263) (by rw [hH0]; exact hGP.1) ?_
        have hGN : GN ln l5254 k5262 n5263 := hGP.2
        have hgk5262 := hGN.1
        have hgn5263 := hGN.2
        have hsk5262 := hMW.2.2.1.sum
        rw [← q5260] at hsu htm
        have hEO := e5261
        refine lv_iconst (v := 0) hx hb dX7_tick_101 (by decide) ?_
        refine lv_istore_n (lv' := [(2, .int 0), (0, .ref w), (1, .int (nI (cn t1)))]) hx hb dX7_tick_102 rfl hl (by decide) rfl (fun ls hl => ?_)
        refine lp_m (α := Nat) (nL := 3) (fun a9 => 8 - a9) (fun a9 H9 l9 => (a9 ≤ 8) ∧ (MW D cs H9 i su t1 C c5253 l5254 w5255 dl) ∧ (WT B0 D cs T κr5252 H9) ∧ (Fr B0 [i, i + 20, i + 40] κ H0 H9) ∧ (OkL B0 l9)) (fun a9 => [(2, .int (nI a9)), (0, .ref w)]) ?_ 0 _ _ _ ⟨(by show (0) ≤ 8; omega), hMW, hT, hF, hL⟩ (lv_sub hl [0, 1] rfl)
        rintro p2 H locs ls ih5264 ⟨hp2, hMW, hT, hF, hL⟩ hl
        have hl : lv_has ls 3 [(2, .int (nI p2)), (0, .ref w)] := hl
        have hp2 : p2 ≤ 8 := hp2
        have hMW : MW D cs H i su t1 C c5253 l5254 w5255 dl := hMW
        refine lv_iload_n hx hb dX7_tick_103 rfl (lv_at hl 0 rfl) ?_
        refine lv_aload_n hx hb dX7_tick_104 rfl (lv_at hl 1 rfl) ?_
        obtain ⟨hb5265, e5265, hat5265, hk5265⟩ := hT.o8 hw.1
        obtain ⟨f5265_0, f5265_1, f5265_2, f5265_3, f5265_4, f5265_5, f5265_6, f5265_7, f5265_8, f5265_9, f5265_10, f5265_11, f5265_12, f5265_13, f5265_14, f5265_15, rfl, t5265_0, c5265_su, t5265_1, t5265_2, t5265_3, t5265_4, t5265_5, c5265_tm, c5265_lt, c5265_ml, c5265_pr, c5265_li⟩ := hk5265
        rw [hw.2] at t5265_1
        rw [hw.2] at t5265_2
        rw [hw.2] at t5265_3
        rw [hw.2] at t5265_4
        rw [hw.2] at t5265_5
        rw [hw.2] at c5265_lt c5265_ml c5265_pr c5265_li
        subst c5265_ml
        subst c5265_pr
        subst c5265_li
        have esu5265 := (c5265_su.trans hsu).symm
        subst esu5265
        have ctm5265 : f5265_7 &&& 15 = nI t1 := by rw [c5265_tm, htm]
        have hP : va_P D vwCl [(w, .inr (7, [.ref su, .ref f5265_1, .ref (cs (400 + i)), .ref (cs (420 + i)), .ref (cs (460 + i)), .ref f5265_5, .long f5265_6, .int f5265_7, .int f5265_8, .int f5265_9, .int f5265_10, .int f5265_11, .int f5265_12, .int f5265_13, .int f5265_14, .int f5265_15]))] _ := va_P.cons hat5265 va_P.nil
        refine va_get (D := D) (ci := 7) (v := .ref su) (C := RX7) (T := TX7) (N := 16) hx hb hts iX7_tick_7 hown hN.1 hP 0 rfl rfl 0 (by decide) (hts _ mX7_tick_5) (fun _ h9 => h9) rfl dX7_tick_105 ?_
        obtain ⟨hb5266, e5266, hat5266, hk5266⟩ := hT.o7 t5265_0.1
        obtain ⟨f5266_0, f5266_1, f5266_2, f5266_3, f5266_4, f5266_5, f5266_6, f5266_7, rfl, c5266_0, c5266_3, c5266_mg, t5266_4, t5266_5, t5266_6, t5266_7⟩ := hk5266
        rw [t5265_0.2] at t5266_4
        rw [t5265_0.2] at t5266_5
        rw [t5265_0.2] at t5266_6
        rw [t5265_0.2] at t5266_7
        have hP : va_P D vwCl [(su, .inr (6, [.int (nI f5266_0), .int f5266_1, .int f5266_2, f5266_3, .ref f5266_4, .ref f5266_5, .ref f5266_6, .ref f5266_7])), (w, .inr (7, [.ref su, .ref f5265_1, .ref (cs (400 + i)), .ref (cs (420 + i)), .ref (cs (460 + i)), .ref f5265_5, .long f5265_6, .int f5265_7, .int f5265_8, .int f5265_9, .int f5265_10, .int f5265_11, .int f5265_12, .int f5265_13, .int f5265_14, .int f5265_15]))] _ := va_P.cons hat5266 hP
        refine va_getN (D := D) (ci := 6) (v := .int (nI f5266_0)) (C := RX6) (T := TX6) (N := 8) hx hb hts iX7_tick_6 hown hN.1 hP 0 rfl rfl 0 (by decide) (hN.f 39 rfl) (fun _ h9 => h9) rfl dX7_tick_108 ?_
        refine lv_icmp_ge (tgt := 125) hx hb dX7_tick_111 (by decide) (fun c5267 => ?_) (fun c5267 => ?_)
        · have c5267 : f5266_0 ≤ p2 := (nI_leI (a := f5266_0) (b := p2) (by omega) (by omega)).mp c5267
          refine W.know (fun hg => ?_)
          rw [hH0] at hg
          exact en_v hx hb hr hlocks hL (show k5262 ≤ ((56 * sumN C 16 + 22407 - 2 * sumN ln 16) / 35) by omega) (show n5263 ≤ (56 * sumN C 16 + 22407 - 2 * sumN ln 16) by omega) dX7_tick_125 (⟨_, hKU, hT, hF, _, _, _, _, _, _, hMW, ⟨hg, hGN⟩, hsu, htm, hEO.st⟩)
        · have c5267 : ¬ f5266_0 ≤ p2 := fun h9 => c5267 ((nI_leI (a := f5266_0) (b := p2) (by omega) (by omega)).mpr h9)
          refine lv_aload_n hx hb dX7_tick_114 rfl (lv_at hl 1 rfl) ?_
          refine lv_iload_n hx hb dX7_tick_115 rfl (lv_at hl 0 rfl) ?_
          refine cv_v (As := [.int (nI p2)]) (rest := []) (b := w) ⟨hx, hb, hml, hown, hts⟩ (c_X7_changeIfDue hT (w := w) hw (x := (nI p2))) (cwV 1 hts gX7_tick_X7_changeIfDue rfl rfl rfl hdX7_changeIfDue_v ⟨Nat.le_of_ble_eq_true rfl, Nat.le_of_ble_eq_true rfl⟩) hN hE hL (rcv8 hN hT hw.1) rfl rfl hl.1 (Nat.le_of_ble_eq_true rfl) dX7_tick_116 (show k5262 + 0 ≤ ((56 * sumN C 16 + 22407 - 2 * sumN ln 16) / 35) by omega) (show n5263 + 0 ≤ (56 * sumN C 16 + 22407 - 2 * sumN ln 16) by omega) (fun H1 locs hL hqr5268 => ?_)
          obtain ⟨hT1, hF1⟩ := hqr5268
          have hP : va_P D vwCl [(su, .inr (6, [.int (nI f5266_0), .int f5266_1, .int f5266_2, f5266_3, .ref f5266_4, .ref f5266_5, .ref f5266_6, .ref f5266_7]))] _ := hF1.hP (hP.sub [0] rfl) (fa_c ⟨by rw [t5265_0.1]; decide, by rw [t5265_0.2]; first | decide | (simp; done) | (simp [h15a, h15b, h15c]; done) | (simp; omega)⟩ fa_n)
          have hMW := hMW.fr hT hw hsu hF1 (by first | (simp; done) | (simp [h15a, h15b, h15c]; done) | (simp; omega) | omega) (by first | (simp; done) | (simp [h15a, h15b, h15c]; done) | (simp; omega) | omega)
          have hF := hF.tr ((hF1.kf hKF).mono (by simp))
          have hT := hT1
          refine lv_iinc (v := (nI (p2 + 1))) (lv' := [(2, .int (nI (p2 + 1))), (0, .ref w)]) hx hb dX7_tick_119 hl (k := 0) rfl (nI_add _ 1) (by decide) rfl (fun ls hl => ?_)
          refine lv_goto (tgt := 103) hx hb dX7_tick_122 (by decide) ?_
          exact ih5264 (p2 + 1) _ _ _ (by show 8 - ((p2 + 1)) < 8 - p2; omega) ⟨(by show ((p2 + 1)) ≤ 8; omega), hMW, hT, hF, hL⟩ (lv_sub hl [0, 1] rfl)
  · have c5235 : ¬ (cn t1) ≤ p := fun h9 => c5235 ((nI_leI (a := (cn t1)) (b := p) (by omega) (by omega)).mpr h9)
    refine lv_aload_n hx hb dX7_tick_29 rfl (lv_at hl 1 rfl) ?_
    obtain ⟨hb5269, e5269, hat5269, hk5269⟩ := hT.o8 hw.1
    obtain ⟨f5269_0, f5269_1, f5269_2, f5269_3, f5269_4, f5269_5, f5269_6, f5269_7, f5269_8, f5269_9, f5269_10, f5269_11, f5269_12, f5269_13, f5269_14, f5269_15, rfl, t5269_0, c5269_su, t5269_1, t5269_2, t5269_3, t5269_4, t5269_5, c5269_tm, c5269_lt, c5269_ml, c5269_pr, c5269_li⟩ := hk5269
    rw [hw.2] at t5269_1
    rw [hw.2] at t5269_2
    rw [hw.2] at t5269_3
    rw [hw.2] at t5269_4
    rw [hw.2] at t5269_5
    rw [hw.2] at c5269_lt c5269_ml c5269_pr c5269_li
    subst c5269_ml
    subst c5269_pr
    subst c5269_li
    have esu5269 := (c5269_su.trans hsu).symm
    subst esu5269
    have ctm5269 : f5269_7 &&& 15 = nI t1 := by rw [c5269_tm, htm]
    have hP : va_P D vwCl [(w, .inr (7, [.ref su, .ref f5269_1, .ref (cs (400 + i)), .ref (cs (420 + i)), .ref (cs (460 + i)), .ref f5269_5, .long f5269_6, .int f5269_7, .int f5269_8, .int f5269_9, .int f5269_10, .int f5269_11, .int f5269_12, .int f5269_13, .int f5269_14, .int f5269_15]))] _ := va_P.cons hat5269 va_P.nil
    refine va_get (D := D) (ci := 7) (v := .ref (cs (400 + i))) (C := RX7) (T := TX7) (N := 16) hx hb hts iX7_tick_7 hown hN.1 hP 0 rfl rfl 2 (by decide) (hts _ mX7_tick_2) (fun _ h9 => h9) rfl dX7_tick_30 ?_
    refine lv_aload_n hx hb dX7_tick_33 rfl (lv_at hl 1 rfl) ?_
    refine va_get (D := D) (ci := 7) (v := .int f5269_7) (C := RX7) (T := TX7) (N := 16) hx hb hts iX7_tick_7 hown hN.1 hP 0 rfl rfl 7 (by decide) (hts _ mX7_tick_1) (fun _ h9 => h9) rfl dX7_tick_34 ?_
    refine lv_iload_n hx hb dX7_tick_37 rfl (lv_at hl 0 rfl) ?_
    refine lv_aload_n hx hb dX7_tick_38 rfl (lv_at hl 1 rfl) ?_
    refine va_get (D := D) (ci := 7) (v := .ref (cs (460 + i))) (C := RX7) (T := TX7) (N := 16) hx hb hts iX7_tick_7 hown hN.1 hP 0 rfl rfl 4 (by decide) (hts _ mX7_tick_3) (fun _ h9 => h9) rfl dX7_tick_39 ?_
    have hcn := EE_cb (Nat.le_trans hEO.le9 hb24)
    have hmm : m15 f5269_7 = t1 := m15_of ctm5269 ht9
    refine cv_i (As := [.int f5269_7, .int (nI p), .ref (cs (460 + i))]) (rest := []) (b := (cs (400 + i))) ⟨hx, hb, hml, hown, hts⟩ (c_X2_read_dc hT (w := (cs (400 + i))) t5269_2 (x := f5269_7) (n := p) (v := (cs (460 + i))) t5269_4 hMW.1 hMW.2.2.1 hcn (by rw [hmm]; have := hmo t1 ht9; omega)) (cwV 3 hts gX7_tick_X2_read rfl rfl rfl hdX2_read_v ⟨Nat.le_of_ble_eq_true rfl, Nat.le_of_ble_eq_true rfl⟩) hN hE hL (rcv3 hN hT t5269_2.1) rfl rfl hl.1 (Nat.le_of_ble_eq_true rfl) dX7_tick_42 (show k9 + 0 ≤ ((56 * sumN C 16 + 22407 - 2 * sumN ln 16) / 35) by omega) (show n9 + 0 ≤ (56 * sumN C 16 + 22407 - 2 * sumN ln 16) by omega) (fun r5270 H1 locs hL hqr5270 => ?_)
    obtain ⟨hT1, hF1, hqr5270⟩ := hqr5270
    have hP : va_P D vwCl [(w, .inr (7, [.ref su, .ref f5269_1, .ref (cs (400 + i)), .ref (cs (420 + i)), .ref (cs (460 + i)), .ref f5269_5, .long f5269_6, .int f5269_7, .int f5269_8, .int f5269_9, .int f5269_10, .int f5269_11, .int f5269_12, .int f5269_13, .int f5269_14, .int f5269_15]))] _ := hF1.hP (hP.sub [0] rfl) (fa_c ⟨by rw [hw.1]; decide, by rw [hw.2]; first | decide | (simp; done) | (simp [h15a, h15b, h15c]; done) | (simp; omega)⟩ fa_n)
    have hMW := hMW.fr hT hw hsu hF1 (by first | (simp; done) | (simp [h15a, h15b, h15c]; done) | (simp; omega) | omega) (by first | (simp; done) | (simp [h15a, h15b, h15c]; done) | (simp; omega) | omega)
    have hF := hF.tr ((hF1.kf hKF).mono (by simp))
    have hT := hT1
    obtain ⟨rfl, v5271⟩ := hqr5270
    rw [hmm] at v5271
    have hbli : B0 ≤ cs (460 + i) := (hT.o2 hli.1).1
    have hP : va_P D vwCl [((cs (460 + i)), .inr (1, [.int (rw99 t1 (7 * p)), .int (rw99 t1 (7 * p + 1)), .int (rw99 t1 (7 * p + 2)), .int (rw99 t1 (7 * p + 3)), .int (rw99 t1 (7 * p + 4)), .int (rw99 t1 (7 * p + 5)), .int (rw99 t1 (7 * p + 6))])), (w, .inr (7, [.ref su, .ref f5269_1, .ref (cs (400 + i)), .ref (cs (420 + i)), .ref (cs (460 + i)), .ref f5269_5, .long f5269_6, .int f5269_7, .int f5269_8, .int f5269_9, .int f5269_10, .int f5269_11, .int f5269_12, .int f5269_13, .int f5269_14, .int f5269_15]))] _ := va_P.cons v5271 hP
    refine lv_if_eq (tgt := 56) hx hb dX7_tick_45 (by decide) (fun c9 => absurd c9 (by decide)) (fun _ => ?_)
    refine lv_aload_n hx hb dX7_tick_48 rfl (lv_at hl 1 rfl) ?_
    refine W.know (fun hgb => ?_)
    rw [hH0] at hgb
    refine cv_v (As := []) (rest := []) (b := w) ⟨hx, hb, hml, hown, hts⟩ (c_X7_receive hT (w := w) hw hsu htm hMW (pl := p) (by have := hmo t1 ht9; omega) hEO hb24 (hP 0 _ rfl) rfl rfl rfl) (cwV 0 hts gX7_tick_X7_receive rfl rfl rfl hdX7_receive_v ⟨Nat.le_of_ble_eq_true rfl, Nat.le_of_ble_eq_true rfl⟩) hN hE hL (rcv8 hN hT hw.1) rfl rfl hl.1 (Nat.le_of_ble_eq_true rfl) dX7_tick_49 (show k9 + ((56 * sumN C 16 + 22407 - 2 * sumN ln9 16) / 35) ≤ ((56 * sumN C 16 + 22407 - 2 * sumN ln 16) / 35) by omega) (show n9 + (56 * sumN C 16 + 22407 - 2 * sumN ln9 16) ≤ (56 * sumN C 16 + 22407 - 2 * sumN ln 16) by omega) (fun H1 locs hL hqr5272 => ?_)
    obtain ⟨κr5272, hxr5272, hT1, hF1, hqr5272⟩ := hqr5272
    have hTo := hT
    have hwo := hw
    have hsuo := hsu
    have hF9 := hF1
    have hF := hF.tr ((hF1.kf hKF).mono (by simp))
    have hT := hT1
    have hKF := hKF.tr hxr5272.f
    have hKU : KU i κ κr5272 := hKU.tr (KX.u (i := i) hxr5272)
    have hkw9 : κr5272 w = κ9 w := hxr5272 w (by rw [hw.1]; decide)
    rw [← hkw9] at hsu htm
    have hko9 : κr5272 (cs (420 + i)) = κ9 (cs (420 + i)) := hxr5272 _ (by rw [hpr.1]; decide)
    have hw := (hxr5272.f.t2 hw (by decide))
    have hpr := (hxr5272.f.t2 hpr (by decide))
    have hmk := (hxr5272.f.t2 hmk (by decide))
    have hli := (hxr5272.f.t2 hli (by decide))
    obtain ⟨c5273, l5274, w5275, k5276, n5277, m5278, g5279, e5280, o5281⟩ := hqr5272
    have hMW := m5278
    obtain ⟨k5282, n5283, hGP⟩ : ∃ k9 n9, GP H0 _ ln l5274 k9 n9 := ⟨_, _, GP.tr (show GP H0 _ ln ln9 _ _ from ⟨hgb, hGN⟩) g5279⟩
    refine W.tight (k := k5282) (n := n5283) (by rw [hH0]; exact hGP.1) ?_
    have hGN : GN ln l5274 k5282 n5283 := hGP.2
    have hgk5282 := hGN.1
    have hgn5283 := hGN.2
    have hsk5282 := hMW.2.2.1.sum
    have hEO := e5280
    rw [← hko9] at hEO
    have hmo : ∀ q, q < 16 → cn q ≤ c5273 q := fun q hq => Nat.le_trans (hmo q hq) (o5281 q hq)
    refine lv_aload_n hx hb dX7_tick_52 rfl (lv_at hl 1 rfl) ?_
    refine W.know (fun hgb => ?_)
    rw [hH0] at hgb
    refine cv_v (As := []) (rest := []) (b := w) ⟨hx, hb, hml, hown, hts⟩ (c_X7_commitIfVoted hT (w := w) hw hsu htm hMW hEO hb24) (cwV 0 hts gX7_tick_X7_commitIfVoted rfl rfl rfl hdX7_commitIfVoted_v ⟨Nat.le_of_ble_eq_true rfl, Nat.le_of_ble_eq_true rfl⟩) hN hE hL (rcv8 hN hT hw.1) rfl rfl hl.1 (Nat.le_of_ble_eq_true rfl) dX7_tick_53 (show k5282 + ((56 * sumN C 16 + 22407 - 2 * sumN l5274 16) / 35) ≤ ((56 * sumN C 16 + 22407 - 2 * sumN ln 16) / 35) by omega) (show n5283 + (56 * sumN C 16 + 22407 - 2 * sumN l5274 16) ≤ (56 * sumN C 16 + 22407 - 2 * sumN ln 16) by omega) (fun H1 locs hL hqr5284 => ?_)
    obtain ⟨κr5284, hxr5284, hT1, hF1, hqr5284⟩ := hqr5284
    have hxfr5284 := hxr5284.1
    have hTo := hT
    have hwo := hw
    have hsuo := hsu
    have hF9 := hF1
    have hF := hF.tr ((hF1.kf hKF).mono (by simp))
    have hT := hT1
    have hKF := hKF.tr hxfr5284
    have hKU : KU i κ κr5284 := hKU.tr hxr5284
    have hw := (KF.t2 hxfr5284 hw (by decide))
    have hpr := (KF.t2 hxfr5284 hpr (by decide))
    have hmk := (KF.t2 hxfr5284 hmk (by decide))
    have hli := (KF.t2 hxfr5284 hli (by decide))
    obtain ⟨c5285, l5286, w5287, k5288, n5289, m5290, g5291, q5292, e5293, o5294⟩ := hqr5284
    have hMW := m5290
    obtain ⟨k5295, n5296, hGP⟩ : ∃ k9 n9, GP H0 _ ln l5286 k9 n9 := ⟨_, _, GP.tr (show GP H0 _ ln l5274 _ _ from ⟨hgb, hGN⟩) g5291⟩
    refine W.tight (k := k5295) (n := n5296) (by rw [hH0]; exact hGP.1) ?_
    have hGN : GN ln l5286 k5295 n5296 := hGP.2
    have hgk5295 := hGN.1
    have hgn5296 := hGN.2
    have hsk5295 := hMW.2.2.1.sum
    rw [← q5292] at hsu htm
    have hEO := e5293
    have hmo : ∀ q, q < 16 → cn q ≤ c5285 q := fun q hq => Nat.le_trans (hmo q hq) (o5294 q hq)
    refine lv_iinc (v := (nI (p + 1))) (lv' := [(2, .int (nI (p + 1))), (0, .ref w), (1, .int (nI (cn t1)))]) hx hb dX7_tick_56 hl (k := 0) rfl (nI_add _ 1) (by decide) rfl (fun ls hl => ?_)
    refine lv_goto (tgt := 24) hx hb dX7_tick_59 (by decide) ?_
    refine W.know (fun hgb => ?_)
    rw [hH0] at hgb
    refine W.widen (k := ((56 * sumN C 16 + 22407 - 2 * sumN ln 16) / 35)) (n := (56 * sumN C 16 + 22407 - 2 * sumN ln 16)) (show k5295 ≤ ((56 * sumN C 16 + 22407 - 2 * sumN ln 16) / 35) by omega) (show n5296 ≤ (56 * sumN C 16 + 22407 - 2 * sumN ln 16) by omega) ?_
    have hEO : EL C dl c5285 w5287 t1 (p + 1) (κr5284 (cs (420 + i))).2.2.1 b := hEO
    exact ih5234 ((p + 1), κr5284, c5285, l5286, w5287, k5295, n5296) _ _ _ (by show cn t1 - ((p + 1)) < cn t1 - p; omega) ⟨(by show ((p + 1)) ≤ cn t1; omega), hKU, hw, hsu, htm, hMW, hEO, hgb, hGN, hmo, hT, hF, hL⟩ (lv_sub hl [0, 1, 2] rfl)
