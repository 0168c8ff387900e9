theorem mX7_send_1 : (.fieldLink RX7 38 "OneBeat$World" "outgoing" "LOneBeat$Letter;" : Cond) ∈ wsX7_send := List.mem_of_getElem? (i := 1) (by decide +kernel)
theorem iX7_send_7 : ∀ w ∈ wsX70, w ∈ wsX7_send := fun w h => List.mem_of_mem_drop (List.mem_of_mem_take ((show wsX70 = (wsX7_send.drop 40).take 16 by decide +kernel) ▸ h))
theorem iX7_send_1 : ∀ w ∈ wsX10, w ∈ wsX7_send := fun w h => List.mem_of_mem_drop (List.mem_of_mem_take ((show wsX10 = (wsX7_send.drop 56).take 7 by decide +kernel) ▸ h))
theorem mX7_send_2 : (.fieldLink RX7 71 "OneBeat$World" "sent" "I" : Cond) ∈ wsX7_send := List.mem_of_getElem? (i := 2) (by decide +kernel)
theorem mX7_send_3 : (.fieldLink RX7 52 "OneBeat$World" "setup" "LOneBeat$Setup;" : Cond) ∈ wsX7_send := List.mem_of_getElem? (i := 3) (by decide +kernel)
theorem mX7_send_6 : (.fieldLink RX7 74 "OneBeat$World" "lost" "I" : Cond) ∈ wsX7_send := List.mem_of_getElem? (i := 6) (by decide +kernel)
theorem mX7_send_4 : (.fieldLink RX7 20 "OneBeat$World" "mail" "LOneBeat$Mail;" : Cond) ∈ wsX7_send := List.mem_of_getElem? (i := 4) (by decide +kernel)
theorem mX7_send_5 : (.fieldLink RX7 64 "OneBeat$World" "time" "I" : Cond) ∈ wsX7_send := List.mem_of_getElem? (i := 5) (by decide +kernel)
theorem hdX2_add_v : yX2_add.cls = RX2 ∧ yX2_add.cls ≠ "java/lang/invoke/MethodHandle" ∧ yX2_add.cls ≠ "java/lang/invoke/VarHandle" ∧ (parseMethodDescriptor yX2_add.desc).map (fun d => d.parameters.length) = some 2 := by decide +kernel
set_option maxHeartbeats 4000000 in
set_option maxRecDepth 100000 in
theorem c_X7_send {l : Launch} {D : va_G} {cs : Nat → ClassId} {B0 T : Nat} {κ : KM} {H0 : Heap} (hT : WT B0 D cs T κ H0) {w i : Nat} (hw : T2 κ w 8 i) {x y z u v t : Int32} {C cn ln : Nat → Nat} {rw9 : Nat → Nat → Int32} {dl : Nat → Int32} {su tm : Nat} (hsu : (κ w).2.2.1 = su) (htm : (κ w).2.2.2 = tm) (hMW : MW D cs H0 i su tm C cn ln rw9 dl) (hcn : ∀ j, j < 16 → cn j ≤ C j + 24) {M : Nat} (hM9 : ∀ j, j < 16 → 2 * ln j + 7 ≤ M) : KC l yX7_send wsX7_send 2 85 1 M D cs B0 H0 [.ref w, .int x, .int y, .int z, .int u, .int v, .int t] (Qi (fun _ H => ∃ κ1, KX κ κ1 ∧ WT B0 D cs T κ1 H ∧ Fr B0 [i, i + 20] κ H0 H ∧ ∃ cn1 ln1 rw1 k n, MW D cs H i su tm C cn1 ln1 rw1 dl ∧ GP H0 H ln ln1 k n ∧ SD cn cn1 rw9 rw1 ((tm + (dl (plc y z)).toNatClampNeg) % 16) x y z)) := by
  refine KC.of cX7_send 9 (some .boolean) (by decide) rfl (Nat.le_of_ble_eq_true rfl) ?_
  intro p e s m below meth c ls hx hb hr hml hown hts hlocks hin hN hE hH0 hl
  have hown : s.vm.findClass RX7 = some m.cls := hown
  have hl : lv_has ls 9 [(0, .ref w), (1, .int x), (2, .int y), (3, .int z), (4, .int u), (5, .int v), (6, .int t)] := hl
  have hL : OkL B0 [] := OkL.nil
  have hF : Fr B0 [i, i + 20] κ H0 H0 := Fr.rf
  obtain ⟨hml, hpr, hli, -, hi10⟩ := hT.ml hw
  have ht16 := hMW.2.2.2
  refine lv_aload_n hx hb dX7_send_0 rfl (lv_at hl 0 rfl) ?_
  obtain ⟨hb5042, e5042, hat5042, hk5042⟩ := hT.o8 hw.1
  obtain ⟨f5042_0, f5042_1, f5042_2, f5042_3, f5042_4, f5042_5, f5042_6, f5042_7, f5042_8, f5042_9, f5042_10, f5042_11, f5042_12, f5042_13, f5042_14, f5042_15, rfl, t5042_0, c5042_su, t5042_1, t5042_2, t5042_3, t5042_4, t5042_5, c5042_tm, c5042_lt, c5042_ml, c5042_pr, c5042_li⟩ := hk5042
  rw [hw.2] at t5042_1
  rw [hw.2] at t5042_2
  rw [hw.2] at t5042_3
  rw [hw.2] at t5042_4
  rw [hw.2] at t5042_5
  rw [hw.2] at c5042_lt c5042_ml c5042_pr c5042_li
  subst c5042_ml
  subst c5042_pr
  subst c5042_li
  have esu5042 := (c5042_su.trans hsu).symm
  subst esu5042
  have ctm5042 : f5042_7 &&& 15 = nI tm := by rw [c5042_tm, htm]
  have hP : va_P D vwCl [(w, .inr (7, [.ref su, .ref f5042_1, .ref (cs (400 + i)), .ref (cs (420 + i)), .ref (cs (460 + i)), .ref f5042_5, .long f5042_6, .int f5042_7, .int f5042_8, .int f5042_9, .int f5042_10, .int f5042_11, .int f5042_12, .int f5042_13, .int f5042_14, .int f5042_15]))] _ := va_P.cons hat5042 va_P.nil
  refine va_get (D := D) (ci := 7) (v := .ref f5042_5) (C := RX7) (T := TX7) (N := 16) hx hb hts iX7_send_7 hown hN.1 hP 0 rfl rfl 5 (by decide) (hts _ mX7_send_1) (fun _ h9 => h9) rfl dX7_send_1 ?_
  refine lv_astore (lv' := [(7, .ref f5042_5), (0, .ref w), (1, .int x), (2, .int y), (3, .int z), (4, .int u), (5, .int v), (6, .int t)]) hx hb dX7_send_4 hl (by decide) rfl (fun ls hl => ?_)
  refine lv_aload hx hb dX7_send_6 (lv_at hl 0 rfl) ?_
  refine lv_iload_n hx hb dX7_send_8 rfl (lv_at hl 2 rfl) ?_
  obtain ⟨hb5043, e5043, hat5043, hk5043⟩ := hT.o2 t5042_5.1
  obtain ⟨f5043_0, f5043_1, f5043_2, f5043_3, f5043_4, f5043_5, f5043_6, rfl⟩ := hk5043
  have hP : va_P D vwCl [(f5042_5, .inr (1, [.int f5043_0, .int f5043_1, .int f5043_2, .int f5043_3, .int f5043_4, .int f5043_5, .int f5043_6])), (w, .inr (7, [.ref su, .ref f5042_1, .ref (cs (400 + i)), .ref (cs (420 + i)), .ref (cs (460 + i)), .ref f5042_5, .long f5042_6, .int f5042_7, .int f5042_8, .int f5042_9, .int f5042_10, .int f5042_11, .int f5042_12, .int f5042_13, .int f5042_14, .int f5042_15]))] _ := va_P.cons hat5043 hP
  have hB : Bx B0 D _ [(f5042_5, .inr (1, [.int f5043_0, .int f5043_1, .int f5043_2, .int f5043_3, .int f5043_4, .int f5043_5, .int f5043_6])), (w, .inr (7, [.ref su, .ref f5042_1, .ref (cs (400 + i)), .ref (cs (420 + i)), .ref (cs (460 + i)), .ref f5042_5, .long f5042_6, .int f5042_7, .int f5042_8, .int f5042_9, .int f5042_10, .int f5042_11, .int f5042_12, .int f5042_13, .int f5042_14, .int f5042_15]))] [] _ _ := Bx.of (fun a => (κ a).1) hL hP (fa_c hb5043 (fa_c hb5042 fa_n)) (by simp only [List.map_cons, List.map_nil, t5042_5.1, hw.1]; decide)
  refine b_putN (D := D) (ci := 1) (v := .int x) (ty := .int) (C := RX1) (T := TX1) (N := 7) hx hb hts iX7_send_1 tyX1 tyX1_ok nmX1 hown hN hB 0 rfl rfl 0 (by decide) (hN.f 14 rfl) (fun _ h9 => h9) rfl (by decide +kernel) rfl rfl (Nat.le_of_ble_eq_true rfl) (.inl rfl) dX7_send_9 (fun H locs hB => ?_)
  have hB : Bx B0 D _ [(f5042_5, .inr (1, [.int x, .int f5043_1, .int f5043_2, .int f5043_3, .int f5043_4, .int f5043_5, .int f5043_6])), (w, .inr (7, [.ref su, .ref f5042_1, .ref (cs (400 + i)), .ref (cs (420 + i)), .ref (cs (460 + i)), .ref f5042_5, .long f5042_6, .int f5042_7, .int f5042_8, .int f5042_9, .int f5042_10, .int f5042_11, .int f5042_12, .int f5042_13, .int f5042_14, .int f5042_15]))] [f5042_5] _ _ := hB
  refine lv_aload hx hb dX7_send_12 (lv_at hl 0 rfl) ?_
  refine lv_iload_n hx hb dX7_send_14 rfl (lv_at hl 3 rfl) ?_
  refine b_putN (D := D) (ci := 1) (v := .int y) (ty := .int) (C := RX1) (T := TX1) (N := 7) hx hb hts iX7_send_1 tyX1 tyX1_ok nmX1 hown hN hB 0 rfl rfl 1 (by decide) (hN.f 16 rfl) (fun _ h9 => h9) rfl (by decide +kernel) rfl rfl (Nat.le_of_ble_eq_true rfl) (.inr ⟨rfl, List.mem_of_getElem? (i := 0) rfl⟩) dX7_send_15 (fun H locs hB => ?_)
  have hB : Bx B0 D _ [(f5042_5, .inr (1, [.int x, .int y, .int f5043_2, .int f5043_3, .int f5043_4, .int f5043_5, .int f5043_6])), (w, .inr (7, [.ref su, .ref f5042_1, .ref (cs (400 + i)), .ref (cs (420 + i)), .ref (cs (460 + i)), .ref f5042_5, .long f5042_6, .int f5042_7, .int f5042_8, .int f5042_9, .int f5042_10, .int f5042_11, .int f5042_12, .int f5042_13, .int f5042_14, .int f5042_15]))] [f5042_5] _ _ := hB
  refine lv_aload hx hb dX7_send_18 (lv_at hl 0 rfl) ?_
  refine lv_iload_n hx hb dX7_send_20 rfl (lv_at hl 4 rfl) ?_
  refine b_putN (D := D) (ci := 1) (v := .int z) (ty := .int) (C := RX1) (T := TX1) (N := 7) hx hb hts iX7_send_1 tyX1 tyX1_ok nmX1 hown hN hB 0 rfl rfl 2 (by decide) (hN.f 18 rfl) (fun _ h9 => h9) rfl (by decide +kernel) rfl rfl (Nat.le_of_ble_eq_true rfl) (.inr ⟨rfl, List.mem_of_getElem? (i := 0) rfl⟩) dX7_send_21 (fun H locs hB => ?_)
  have hB : Bx B0 D _ [(f5042_5, .inr (1, [.int x, .int y, .int z, .int f5043_3, .int f5043_4, .int f5043_5, .int f5043_6])), (w, .inr (7, [.ref su, .ref f5042_1, .ref (cs (400 + i)), .ref (cs (420 + i)), .ref (cs (460 + i)), .ref f5042_5, .long f5042_6, .int f5042_7, .int f5042_8, .int f5042_9, .int f5042_10, .int f5042_11, .int f5042_12, .int f5042_13, .int f5042_14, .int f5042_15]))] [f5042_5] _ _ := hB
  refine lv_aload hx hb dX7_send_24 (lv_at hl 0 rfl) ?_
  refine lv_aload_n hx hb dX7_send_26 rfl (lv_at hl 1 rfl) ?_
  refine va_get (D := D) (ci := 7) (v := .int f5042_9) (C := RX7) (T := TX7) (N := 16) hx hb hts iX7_send_7 hown hN.1 hB.1 1 rfl rfl 9 (by decide) (hts _ mX7_send_2) (fun _ h9 => h9) rfl dX7_send_27 ?_
  refine b_putN (D := D) (ci := 1) (v := .int f5042_9) (ty := .int) (C := RX1) (T := TX1) (N := 7) hx hb hts iX7_send_1 tyX1 tyX1_ok nmX1 hown hN hB 0 rfl rfl 3 (by decide) (hN.f 20 rfl) (fun _ h9 => h9) rfl (by decide +kernel) rfl rfl (Nat.le_of_ble_eq_true rfl) (.inr ⟨rfl, List.mem_of_getElem? (i := 0) rfl⟩) dX7_send_30 (fun H locs hB => ?_)
  have hB : Bx B0 D _ [(f5042_5, .inr (1, [.int x, .int y, .int z, .int f5042_9, .int f5043_4, .int f5043_5, .int f5043_6])), (w, .inr (7, [.ref su, .ref f5042_1, .ref (cs (400 + i)), .ref (cs (420 + i)), .ref (cs (460 + i)), .ref f5042_5, .long f5042_6, .int f5042_7, .int f5042_8, .int f5042_9, .int f5042_10, .int f5042_11, .int f5042_12, .int f5042_13, .int f5042_14, .int f5042_15]))] [f5042_5] _ _ := hB
  refine lv_aload hx hb dX7_send_33 (lv_at hl 0 rfl) ?_
  refine lv_iload hx hb dX7_send_35 (lv_at hl 5 rfl) ?_
  refine b_putN (D := D) (ci := 1) (v := .int u) (ty := .int) (C := RX1) (T := TX1) (N := 7) hx hb hts iX7_send_1 tyX1 tyX1_ok nmX1 hown hN hB 0 rfl rfl 4 (by decide) (hN.f 22 rfl) (fun _ h9 => h9) rfl (by decide +kernel) rfl rfl (Nat.le_of_ble_eq_true rfl) (.inr ⟨rfl, List.mem_of_getElem? (i := 0) rfl⟩) dX7_send_37 (fun H locs hB => ?_)
  have hB : Bx B0 D _ [(f5042_5, .inr (1, [.int x, .int y, .int z, .int f5042_9, .int u, .int f5043_5, .int f5043_6])), (w, .inr (7, [.ref su, .ref f5042_1, .ref (cs (400 + i)), .ref (cs (420 + i)), .ref (cs (460 + i)), .ref f5042_5, .long f5042_6, .int f5042_7, .int f5042_8, .int f5042_9, .int f5042_10, .int f5042_11, .int f5042_12, .int f5042_13, .int f5042_14, .int f5042_15]))] [f5042_5] _ _ := hB
  refine lv_aload hx hb dX7_send_40 (lv_at hl 0 rfl) ?_
  refine lv_iload hx hb dX7_send_42 (lv_at hl 6 rfl) ?_
  refine b_putN (D := D) (ci := 1) (v := .int v) (ty := .int) (C := RX1) (T := TX1) (N := 7) hx hb hts iX7_send_1 tyX1 tyX1_ok nmX1 hown hN hB 0 rfl rfl 5 (by decide) (hN.f 24 rfl) (fun _ h9 => h9) rfl (by decide +kernel) rfl rfl (Nat.le_of_ble_eq_true rfl) (.inr ⟨rfl, List.mem_of_getElem? (i := 0) rfl⟩) dX7_send_44 (fun H locs hB => ?_)
  have hB : Bx B0 D _ [(f5042_5, .inr (1, [.int x, .int y, .int z, .int f5042_9, .int u, .int v, .int f5043_6])), (w, .inr (7, [.ref su, .ref f5042_1, .ref (cs (400 + i)), .ref (cs (420 + i)), .ref (cs (460 + i)), .ref f5042_5, .long f5042_6, .int f5042_7, .int f5042_8, .int f5042_9, .int f5042_10, .int f5042_11, .int f5042_12, .int f5042_13, .int f5042_14, .int f5042_15]))] [f5042_5] _ _ := hB
  refine lv_aload hx hb dX7_send_47 (lv_at hl 0 rfl) ?_
  refine lv_iload hx hb dX7_send_49 (lv_at hl 7 rfl) ?_
  refine b_putN (D := D) (ci := 1) (v := .int t) (ty := .int) (C := RX1) (T := TX1) (N := 7) hx hb hts iX7_send_1 tyX1 tyX1_ok nmX1 hown hN hB 0 rfl rfl 6 (by decide) (hN.f 26 rfl) (fun _ h9 => h9) rfl (by decide +kernel) rfl rfl (Nat.le_of_ble_eq_true rfl) (.inr ⟨rfl, List.mem_of_getElem? (i := 0) rfl⟩) dX7_send_51 (fun H locs hB => ?_)
  have hB : Bx B0 D _ [(f5042_5, .inr (1, [.int x, .int y, .int z, .int f5042_9, .int u, .int v, .int t])), (w, .inr (7, [.ref su, .ref f5042_1, .ref (cs (400 + i)), .ref (cs (420 + i)), .ref (cs (460 + i)), .ref f5042_5, .long f5042_6, .int f5042_7, .int f5042_8, .int f5042_9, .int f5042_10, .int f5042_11, .int f5042_12, .int f5042_13, .int f5042_14, .int f5042_15]))] [f5042_5] _ _ := hB
  refine lv_aload_n hx hb dX7_send_54 rfl (lv_at hl 1 rfl) ?_
  refine lv_dup hx hb dX7_send_55 rfl ?_
  refine va_get (D := D) (ci := 7) (v := .int f5042_9) (C := RX7) (T := TX7) (N := 16) hx hb hts iX7_send_7 hown hN.1 hB.1 1 rfl rfl 9 (by decide) (hts _ mX7_send_2) (fun _ h9 => h9) rfl dX7_send_56 ?_
  refine lv_iconst (v := 1) hx hb dX7_send_59 (by decide) ?_
  refine lv_iadd hx hb dX7_send_60 ?_
  refine gn_i (fun x5044 => ?_)
  refine b_put (D := D) (ci := 7) (v := .int x5044) (ty := .int) (C := RX7) (T := TX7) (N := 16) hx hb hts iX7_send_7 tyX7 tyX7_ok nmX7 hown hN hB 1 rfl rfl 9 (by decide) (hts _ mX7_send_2) (fun _ h9 => h9) rfl (by decide +kernel) rfl rfl (Nat.le_of_ble_eq_true rfl) (.inl rfl) dX7_send_61 (fun H locs hB => ?_)
  have hB : Bx B0 D _ [(f5042_5, .inr (1, [.int x, .int y, .int z, .int f5042_9, .int u, .int v, .int t])), (w, .inr (7, [.ref su, .ref f5042_1, .ref (cs (400 + i)), .ref (cs (420 + i)), .ref (cs (460 + i)), .ref f5042_5, .long f5042_6, .int f5042_7, .int f5042_8, .int x5044, .int f5042_10, .int f5042_11, .int f5042_12, .int f5042_13, .int f5042_14, .int f5042_15]))] [w, f5042_5] _ _ := hB
  refine lv_aload_n hx hb dX7_send_64 rfl (lv_at hl 1 rfl) ?_
  refine va_get (D := D) (ci := 7) (v := .ref su) (C := RX7) (T := TX7) (N := 16) hx hb hts iX7_send_7 hown hN.1 hB.1 1 rfl rfl 0 (by decide) (hts _ mX7_send_3) (fun _ h9 => h9) rfl dX7_send_65 ?_
  refine lv_iload_n hx hb dX7_send_68 rfl (lv_at hl 3 rfl) ?_
  refine lv_iload_n hx hb dX7_send_69 rfl (lv_at hl 4 rfl) ?_
  have hMW := hMW.fr hT hw hsu (Fr.close (S := [i]) Fr.rf hB (fa_c (by simp [hw.2]) (fa_c (by simp [t5042_5.2]) fa_n))) (by first | (simp; done) | (simp; omega) | omega) (by first | (simp; done) | (simp; omega) | omega)
  have hT : WT B0 D cs T κ _ := hT.close hB ⟨⟨1, _, rfl, ok_8 hw.1 ⟨_, _, _, _, _, _, _, _, _, _, _, _, _, _, _, _, rfl, t5042_0, c5042_su, ⟨t5042_1.1, by rw [hw.2]; exact t5042_1.2⟩, ⟨t5042_2.1, by rw [hw.2]; exact t5042_2.2⟩, ⟨t5042_3.1, by rw [hw.2]; exact t5042_3.2⟩, ⟨t5042_4.1, by rw [hw.2]; exact t5042_4.2⟩, ⟨t5042_5.1, by rw [hw.2]; exact t5042_5.2⟩, c5042_tm, (by rw [hw.2]; omega), (by first | rw [hw.2] | (dsimp only; rw [hw.2])), (by first | rw [hw.2] | (dsimp only; rw [hw.2])), (by first | rw [hw.2] | (dsimp only; rw [hw.2]))⟩⟩, ⟨⟨0, _, rfl, ok_2 t5042_5.1 ⟨_, _, _, _, _, _, _, rfl⟩⟩, trivial⟩⟩
  have hF : Fr B0 [i, i + 20] κ H0 _ := hF.close hB (fa_c (by simp [hw.2]) (fa_c (by simp [t5042_5.2]) fa_n))
  have hL : OkL B0 _ := hB.2.2.2.2.2
  have hP : va_P D vwCl [(f5042_5, .inr (1, [.int x, .int y, .int z, .int f5042_9, .int u, .int v, .int t])), (w, .inr (7, [.ref su, .ref f5042_1, .ref (cs (400 + i)), .ref (cs (420 + i)), .ref (cs (460 + i)), .ref f5042_5, .long f5042_6, .int f5042_7, .int f5042_8, .int x5044, .int f5042_10, .int f5042_11, .int f5042_12, .int f5042_13, .int f5042_14, .int f5042_15]))] _ := hB.1
  refine cv_i (As := [.int y, .int z]) (rest := []) (b := su) ⟨hx, hb, hml, hown, hts⟩ (c_X6_delayOf hT (w := su) t5042_0 (x := y) (y := z)) (cwV 2 hts gX7_send_X6_delayOf rfl rfl rfl hdX6_delayOf_v ⟨Nat.le_of_ble_eq_true rfl, Nat.le_of_ble_eq_true rfl⟩) hN hE hL (rcv7 hN hT t5042_0.1) rfl rfl hl.1 (Nat.le_of_ble_eq_true rfl) dX7_send_70 (Nat.zero_le _) (Nat.zero_le _) (fun r5045 H1 locs hL hqr5045 => ?_)
  obtain ⟨h9, hqr5045⟩ := hqr5045; replace h9 := h9.symm; subst h9
  obtain ⟨f5046, d5047, n5048, h5049, rfl, e5050⟩ := hqr5045
  have hdl : dl (plc y z) = nI n5048 := (hMW.2.1.eq d5047 _ (plc_lt _ _)).trans e5050
  refine lv_istore (lv' := [(8, .int (nI n5048)), (7, .ref f5042_5), (0, .ref w), (1, .int x), (2, .int y), (3, .int z), (4, .int u), (5, .int v), (6, .int t)]) hx hb dX7_send_73 hl (by decide) rfl (fun ls hl => ?_)
  refine lv_iload hx hb dX7_send_75 (lv_at hl 0 rfl) ?_
  refine lv_if_le (tgt := 110) hx hb dX7_send_77 (by decide) (fun c5051 => ?_) (fun c5051 => ?_)
  · have c5051 : n5048 ≤ 0 := (nI_leI (a := n5048) (b := 0) (by omega) (by omega)).mp c5051
    refine lv_aload_n hx hb dX7_send_110 rfl (lv_at hl 2 rfl) ?_
    refine lv_dup hx hb dX7_send_111 rfl ?_
    refine va_get (D := D) (ci := 7) (v := .int f5042_10) (C := RX7) (T := TX7) (N := 16) hx hb hts iX7_send_7 hown hN.1 hP 1 rfl rfl 10 (by decide) (hts _ mX7_send_6) (fun _ h9 => h9) rfl dX7_send_112 ?_
    refine lv_iconst (v := 1) hx hb dX7_send_115 (by decide) ?_
    refine lv_iadd hx hb dX7_send_116 ?_
    refine gn_i (fun x5052 => ?_)
    have hB : Bx B0 D _ [(f5042_5, .inr (1, [.int x, .int y, .int z, .int f5042_9, .int u, .int v, .int t])), (w, .inr (7, [.ref su, .ref f5042_1, .ref (cs (400 + i)), .ref (cs (420 + i)), .ref (cs (460 + i)), .ref f5042_5, .long f5042_6, .int f5042_7, .int f5042_8, .int x5044, .int f5042_10, .int f5042_11, .int f5042_12, .int f5042_13, .int f5042_14, .int f5042_15]))] [] _ _ := Bx.of (fun a => (κ a).1) hL hP (fa_c hb5043 (fa_c hb5042 fa_n)) (by simp only [List.map_cons, List.map_nil, t5042_5.1, hw.1]; decide)
    refine b_put (D := D) (ci := 7) (v := .int x5052) (ty := .int) (C := RX7) (T := TX7) (N := 16) hx hb hts iX7_send_7 tyX7 tyX7_ok nmX7 hown hN hB 1 rfl rfl 10 (by decide) (hts _ mX7_send_6) (fun _ h9 => h9) rfl (by decide +kernel) rfl rfl (Nat.le_of_ble_eq_true rfl) (.inl rfl) dX7_send_117 (fun H locs hB => ?_)
    have hB : Bx B0 D _ [(f5042_5, .inr (1, [.int x, .int y, .int z, .int f5042_9, .int u, .int v, .int t])), (w, .inr (7, [.ref su, .ref f5042_1, .ref (cs (400 + i)), .ref (cs (420 + i)), .ref (cs (460 + i)), .ref f5042_5, .long f5042_6, .int f5042_7, .int f5042_8, .int x5044, .int x5052, .int f5042_11, .int f5042_12, .int f5042_13, .int f5042_14, .int f5042_15]))] [w] _ _ := hB
    refine lv_iconst (v := 0) hx hb dX7_send_120 (by decide) ?_
    have hMW := hMW.fr hT hw hsu (Fr.close (S := [i]) Fr.rf hB (fa_c (by simp [hw.2]) fa_n)) (by first | (simp; done) | (simp; omega) | omega) (by first | (simp; done) | (simp; omega) | omega)
    have hT : WT B0 D cs T κ _ := hT.close hB ⟨⟨1, _, rfl, ok_8 hw.1 ⟨_, _, _, _, _, _, _, _, _, _, _, _, _, _, _, _, rfl, t5042_0, c5042_su, ⟨t5042_1.1, by rw [hw.2]; exact t5042_1.2⟩, ⟨t5042_2.1, by rw [hw.2]; exact t5042_2.2⟩, ⟨t5042_3.1, by rw [hw.2]; exact t5042_3.2⟩, ⟨t5042_4.1, by rw [hw.2]; exact t5042_4.2⟩, ⟨t5042_5.1, by rw [hw.2]; exact t5042_5.2⟩, c5042_tm, (by rw [hw.2]; omega), (by first | rw [hw.2] | (dsimp only; rw [hw.2])), (by first | rw [hw.2] | (dsimp only; rw [hw.2])), (by first | rw [hw.2] | (dsimp only; rw [hw.2]))⟩⟩, trivial⟩
    have hF : Fr B0 [i, i + 20] κ H0 _ := hF.close hB (fa_c (by simp [hw.2]) fa_n)
    have hL : OkL B0 _ := hB.2.2.2.2.2
    have hP : va_P D vwCl [(f5042_5, .inr (1, [.int x, .int y, .int z, .int f5042_9, .int u, .int v, .int t])), (w, .inr (7, [.ref su, .ref f5042_1, .ref (cs (400 + i)), .ref (cs (420 + i)), .ref (cs (460 + i)), .ref f5042_5, .long f5042_6, .int f5042_7, .int f5042_8, .int x5044, .int x5052, .int f5042_11, .int f5042_12, .int f5042_13, .int f5042_14, .int f5042_15]))] _ := hB.1
    refine W.know (fun hg => ?_)
    rw [hH0] at hg
    exact en_i hx hb hr hlocks hL rfl (Nat.zero_le _) (Nat.zero_le _) dX7_send_121 (⟨_, KX.rf, hT, hF, _, _, _, _, _, hMW, ⟨hg, GN.rf⟩, Or.inl ⟨rfl, rfl⟩⟩)
  · have c5051 : ¬ n5048 ≤ 0 := fun h9 => c5051 ((nI_leI (a := n5048) (b := 0) (by omega) (by omega)).mpr h9)
    refine lv_aload_n hx hb dX7_send_80 rfl (lv_at hl 2 rfl) ?_
    refine lv_iload_n hx hb dX7_send_81 rfl (lv_at hl 4 rfl) ?_
    refine lv_iload_n hx hb dX7_send_82 rfl (lv_at hl 5 rfl) ?_
    refine cv_i (As := [.int y, .int z]) (rest := []) (b := w) ⟨hx, hb, hml, hown, hts⟩ (c_X7_isCut hT (w := w) hw (x := y) (y := z)) (cwV 2 hts gX7_send_X7_isCut rfl rfl rfl hdX7_isCut_v ⟨Nat.le_of_ble_eq_true rfl, Nat.le_of_ble_eq_true rfl⟩) hN hE hL (rcv8 hN hT hw.1) rfl rfl hl.1 (Nat.le_of_ble_eq_true rfl) dX7_send_83 (Nat.zero_le _) (Nat.zero_le _) (fun r5053 H1 locs hL hqr5053 => ?_)
    obtain ⟨h9, hqr5053⟩ := hqr5053; replace h9 := h9.symm; subst h9
    rcases hqr5053 with rfl | rfl
    · refine lv_if_ne (tgt := 110) hx hb dX7_send_86 (by decide) (fun c9 => absurd (by decide) c9) (fun _ => ?_)
      refine lv_aload_n hx hb dX7_send_89 rfl (lv_at hl 2 rfl) ?_
      refine va_get (D := D) (ci := 7) (v := .ref (cs (400 + i))) (C := RX7) (T := TX7) (N := 16) hx hb hts iX7_send_7 hown hN.1 hP 1 rfl rfl 2 (by decide) (hts _ mX7_send_4) (fun _ h9 => h9) rfl dX7_send_90 ?_
      refine lv_aload_n hx hb dX7_send_93 rfl (lv_at hl 2 rfl) ?_
      refine va_get (D := D) (ci := 7) (v := .int f5042_7) (C := RX7) (T := TX7) (N := 16) hx hb hts iX7_send_7 hown hN.1 hP 1 rfl rfl 7 (by decide) (hts _ mX7_send_5) (fun _ h9 => h9) rfl dX7_send_94 ?_
      refine lv_iload hx hb dX7_send_97 (lv_at hl 0 rfl) ?_
      refine lv_iadd hx hb dX7_send_99 ?_
      refine lv_aload hx hb dX7_send_100 (lv_at hl 1 rfl) ?_
      have hmm : m15 (f5042_7 + (nI n5048)) = (tm + n5048) % 16 := m15_add ctm5042 ht16
      refine W.know (fun hgb => ?_)
      rw [hH0] at hgb
      refine cv_i (As := [.int (f5042_7 + (nI n5048)), .ref f5042_5]) (rest := []) (b := (cs (400 + i))) ⟨hx, hb, hml, hown, hts⟩ (c_X2_add hT (w := (cs (400 + i))) t5042_2 (x := (f5042_7 + (nI n5048))) (v := f5042_5) t5042_5 hMW.1 hMW.2.2.1 hcn hM9 (hP 0 _ rfl)) (cwV 2 hts gX7_send_X2_add rfl rfl rfl hdX2_add_v ⟨Nat.le_of_ble_eq_true rfl, Nat.le_of_ble_eq_true rfl⟩) hN hE hL (rcv3 hN hT t5042_2.1) rfl rfl hl.1 (Nat.le_of_ble_eq_true rfl) dX7_send_102 (show 0 + 1 ≤ 1 by omega) (show 0 + M ≤ M by omega) (fun r5054 H1 locs hL hqr5054 => ?_)
      obtain ⟨κr5054, hxr5054, hT1, hF1, hqr5054⟩ := hqr5054
      have hTo := hT
      have hwo := hw
      have hsuo := hsu
      have hF9 := hF1
      have hF := hF.tr (hF1.mono (by simp))
      have hT := hT1
      have hKF : KF κ κr5054 := hxr5054.f
      have hKX : KX κ κr5054 := hxr5054
      have hkw9 : κr5054 w = κ w := hxr5054 w (by rw [hw.1]; decide)
      rw [← hkw9] at hsu htm
      have t5042_5 := (hxr5054.f.t2 t5042_5 (by decide))
      have hw := (hxr5054.f.t2 hw (by decide))
      obtain ⟨c5055, l5056, w5057, k5058, n5059, m5060, L5061, g5062, (⟨rfl, a5063, b5064, d5065, u5066, v5067⟩ | ⟨rfl, p5068⟩)⟩ := hqr5054
      · have hMW := hMW.mb hTo hwo hsuo hF9 (by first | (simp; done) | (simp; omega) | omega) m5060 L5061
        have a5063 := (a5063).symm
        have b5064 := (b5064).symm
        have d5065 := (d5065).symm
        subst a5063 b5064 d5065 u5066 v5067
        have hGP := (show GP H0 _ ln ln 0 0 from ⟨hgb, GN.rf⟩).tr g5062
        refine W.tight (k := 0) (n := 0) (by rw [hH0]; exact hGP.1) ?_
        refine lv_if_eq (tgt := 110) hx hb dX7_send_105 (by decide) (fun _ => ?_) (fun c9 => absurd (by decide) c9)
        refine lv_aload_n hx hb dX7_send_110 rfl (lv_at hl 2 rfl) ?_
        refine lv_dup hx hb dX7_send_111 rfl ?_
        obtain ⟨hb5069, e5069, hat5069, hk5069⟩ := hT.o8 hw.1
        obtain ⟨f5069_0, f5069_1, f5069_2, f5069_3, f5069_4, f5069_5, f5069_6, f5069_7, f5069_8, f5069_9, f5069_10, f5069_11, f5069_12, f5069_13, f5069_14, f5069_15, rfl, t5069_0, c5069_su, t5069_1, t5069_2, t5069_3, t5069_4, t5069_5, c5069_tm, c5069_lt, c5069_ml, c5069_pr, c5069_li⟩ := hk5069
        rw [hw.2] at t5069_1
        rw [hw.2] at t5069_2
        rw [hw.2] at t5069_3
        rw [hw.2] at t5069_4
        rw [hw.2] at t5069_5
        rw [hw.2] at c5069_lt c5069_ml c5069_pr c5069_li
        subst c5069_ml
        subst c5069_pr
        subst c5069_li
        have esu5069 := (c5069_su.trans hsu).symm
        subst esu5069
        have ctm5069 : f5069_7 &&& 15 = nI tm := by rw [c5069_tm, htm]
        have hP : va_P D vwCl [(w, .inr (7, [.ref su, .ref f5069_1, .ref (cs (400 + i)), .ref (cs (420 + i)), .ref (cs (460 + i)), .ref f5069_5, .long f5069_6, .int f5069_7, .int f5069_8, .int f5069_9, .int f5069_10, .int f5069_11, .int f5069_12, .int f5069_13, .int f5069_14, .int f5069_15]))] _ := va_P.cons hat5069 va_P.nil
        refine va_get (D := D) (ci := 7) (v := .int f5069_10) (C := RX7) (T := TX7) (N := 16) hx hb hts iX7_send_7 hown hN.1 hP 0 rfl rfl 10 (by decide) (hts _ mX7_send_6) (fun _ h9 => h9) rfl dX7_send_112 ?_
        refine lv_iconst (v := 1) hx hb dX7_send_115 (by decide) ?_
        refine lv_iadd hx hb dX7_send_116 ?_
        refine gn_i (fun x5070 => ?_)
        have hB : Bx B0 D _ [(w, .inr (7, [.ref su, .ref f5069_1, .ref (cs (400 + i)), .ref (cs (420 + i)), .ref (cs (460 + i)), .ref f5069_5, .long f5069_6, .int f5069_7, .int f5069_8, .int f5069_9, .int f5069_10, .int f5069_11, .int f5069_12, .int f5069_13, .int f5069_14, .int f5069_15]))] [] _ _ := Bx.of (fun a => (κr5054 a).1) hL hP (fa_c hb5069 fa_n) (by simp only [List.map_cons, List.map_nil, hw.1]; decide)
        refine b_put (D := D) (ci := 7) (v := .int x5070) (ty := .int) (C := RX7) (T := TX7) (N := 16) hx hb hts iX7_send_7 tyX7 tyX7_ok nmX7 hown hN hB 0 rfl rfl 10 (by decide) (hts _ mX7_send_6) (fun _ h9 => h9) rfl (by decide +kernel) rfl rfl (Nat.le_of_ble_eq_true rfl) (.inl rfl) dX7_send_117 (fun H locs hB => ?_)
        have hB : Bx B0 D _ [(w, .inr (7, [.ref su, .ref f5069_1, .ref (cs (400 + i)), .ref (cs (420 + i)), .ref (cs (460 + i)), .ref f5069_5, .long f5069_6, .int f5069_7, .int f5069_8, .int f5069_9, .int x5070, .int f5069_11, .int f5069_12, .int f5069_13, .int f5069_14, .int f5069_15]))] [w] _ _ := hB
        refine lv_iconst (v := 0) hx hb dX7_send_120 (by decide) ?_
        have hMW := hMW.fr hT hw hsu (Fr.close (S := [i]) Fr.rf hB (fa_c (by simp [hw.2]) fa_n)) (by first | (simp; done) | (simp; omega) | omega) (by first | (simp; done) | (simp; omega) | omega)
        have hT : WT B0 D cs T κr5054 _ := hT.close hB ⟨⟨0, _, rfl, ok_8 hw.1 ⟨_, _, _, _, _, _, _, _, _, _, _, _, _, _, _, _, rfl, t5069_0, c5069_su, ⟨t5069_1.1, by rw [hw.2]; exact t5069_1.2⟩, ⟨t5069_2.1, by rw [hw.2]; exact t5069_2.2⟩, ⟨t5069_3.1, by rw [hw.2]; exact t5069_3.2⟩, ⟨t5069_4.1, by rw [hw.2]; exact t5069_4.2⟩, ⟨t5069_5.1, by rw [hw.2]; exact t5069_5.2⟩, c5069_tm, (by rw [hw.2]; omega), (by first | rw [hw.2] | (dsimp only; rw [hw.2])), (by first | rw [hw.2] | (dsimp only; rw [hw.2])), (by first | rw [hw.2] | (dsimp only; rw [hw.2]))⟩⟩, trivial⟩
        have hF : Fr B0 [i, i + 20] κ H0 _ := hF.closeN hB (fa_c (fun h9 => by rw [← (hKF _ h9).2, hw.2]; simp) fa_n)
        have hL : OkL B0 _ := hB.2.2.2.2.2
        have hP : va_P D vwCl [(w, .inr (7, [.ref su, .ref f5069_1, .ref (cs (400 + i)), .ref (cs (420 + i)), .ref (cs (460 + i)), .ref f5069_5, .long f5069_6, .int f5069_7, .int f5069_8, .int f5069_9, .int x5070, .int f5069_11, .int f5069_12, .int f5069_13, .int f5069_14, .int f5069_15]))] _ := hB.1
        refine W.know (fun hg => ?_)
        rw [hH0] at hg
        exact en_i hx hb hr hlocks hL rfl (Nat.zero_le _) (Nat.zero_le _) dX7_send_121 (⟨_, hKX, hT, hF, _, _, _, _, _, hMW, ⟨hg, GN.rf⟩, Or.inl ⟨rfl, rfl⟩⟩)
      · have hMW := hMW.mb hTo hwo hsuo hF9 (by first | (simp; done) | (simp; omega) | omega) m5060 L5061
        have hGP := (show GP H0 _ ln ln 0 0 from ⟨hgb, GN.rf⟩).tr g5062
        rw [hmm] at p5068
        refine lv_if_eq (tgt := 110) hx hb dX7_send_105 (by decide) (fun c9 => absurd c9 (by decide)) (fun _ => ?_)
        refine lv_iconst (v := 1) hx hb dX7_send_108 (by decide) ?_
        refine W.know (fun hg => ?_)
        rw [hH0] at hg
        exact en_i hx hb hr hlocks hL rfl (show 0 + 1 ≤ 1 by omega) (show (0 + M) ≤ M by omega) dX7_send_109 (⟨_, hKX, hT, hF, _, _, _, _, _, hMW, hGP, Or.inr (by rw [hdl, nI_clamp (by omega)]; exact p5068)⟩)
    · refine lv_if_ne (tgt := 110) hx hb dX7_send_86 (by decide) (fun _ => ?_) (fun c9 => absurd c9 (by decide))
      refine lv_aload_n hx hb dX7_send_110 rfl (lv_at hl 2 rfl) ?_
      refine lv_dup hx hb dX7_send_111 rfl ?_
      refine va_get (D := D) (ci := 7) (v := .int f5042_10) (C := RX7) (T := TX7) (N := 16) hx hb hts iX7_send_7 hown hN.1 hP 1 rfl rfl 10 (by decide) (hts _ mX7_send_6) (fun _ h9 => h9) rfl dX7_send_112 ?_
      refine lv_iconst (v := 1) hx hb dX7_send_115 (by decide) ?_
      refine lv_iadd hx hb dX7_send_116 ?_
      refine gn_i (fun x5071 => ?_)
      have hB : Bx B0 D _ [(f5042_5, .inr (1, [.int x, .int y, .int z, .int f5042_9, .int u, .int v, .int t])), (w, .inr (7, [.ref su, .ref f5042_1, .ref (cs (400 + i)), .ref (cs (420 + i)), .ref (cs (460 + i)), .ref f5042_5, .long f5042_6, .int f5042_7, .int f5042_8, .int x5044, .int f5042_10, .int f5042_11, .int f5042_12, .int f5042_13, .int f5042_14, .int f5042_15]))] [] _ _ := Bx.of (fun a => (κ a).1) hL hP (fa_c hb5043 (fa_c hb5042 fa_n)) (by simp only [List.map_cons, List.map_nil, t5042_5.1, hw.1]; decide)
      refine b_put (D := D) (ci := 7) (v := .int x5071) (ty := .int) (C := RX7) (T := TX7) (N := 16) hx hb hts iX7_send_7 tyX7 tyX7_ok nmX7 hown hN hB 1 rfl rfl 10 (by decide) (hts _ mX7_send_6) (fun _ h9 => h9) rfl (by decide +kernel) rfl rfl (Nat.le_of_ble_eq_true rfl) (.inl rfl) dX7_send_117 (fun H locs hB => ?_)
      have hB : Bx B0 D _ [(f5042_5, .inr (1, [.int x, .int y, .int z, .int f5042_9, .int u, .int v, .int t])), (w, .inr (7, [.ref su, .ref f5042_1, .ref (cs (400 + i)), .ref (cs (420 + i)), .ref (cs (460 + i)), .ref f5042_5, .long f5042_6, .int f5042_7, .int f5042_8, .int x5044, .int x5071, .int f5042_11, .int f5042_12, .int f5042_13, .int f5042_14, .int f5042_15]))] [w] _ _ := hB
      refine lv_iconst (v := 0) hx hb dX7_send_120 (by decide) ?_
      have hMW := hMW.fr hT hw hsu (Fr.close (S := [i]) Fr.rf hB (fa_c (by simp [hw.2]) fa_n)) (by first | (simp; done) | (simp; omega) | omega) (by first | (simp; done) | (simp; omega) | omega)
      have hT : WT B0 D cs T κ _ := hT.close hB ⟨⟨1, _, rfl, ok_8 hw.1 ⟨_, _, _, _, _, _, _, _, _, _, _, _, _, _, _, _, rfl, t5042_0, c5042_su, ⟨t5042_1.1, by rw [hw.2]; exact t5042_1.2⟩, ⟨t5042_2.1, by rw [hw.2]; exact t5042_2.2⟩, ⟨t5042_3.1, by rw [hw.2]; exact t5042_3.2⟩, ⟨t5042_4.1, by rw [hw.2]; exact t5042_4.2⟩, ⟨t5042_5.1, by rw [hw.2]; exact t5042_5.2⟩, c5042_tm, (by rw [hw.2]; omega), (by first | rw [hw.2] | (dsimp only; rw [hw.2])), (by first | rw [hw.2] | (dsimp only; rw [hw.2])), (by first | rw [hw.2] | (dsimp only; rw [hw.2]))⟩⟩, trivial⟩
      have hF : Fr B0 [i, i + 20] κ H0 _ := hF.close hB (fa_c (by simp [hw.2]) fa_n)
      have hL : OkL B0 _ := hB.2.2.2.2.2
      have hP : va_P D vwCl [(f5042_5, .inr (1, [.int x, .int y, .int z, .int f5042_9, .int u, .int v, .int t])), (w, .inr (7, [.ref su, .ref f5042_1, .ref (cs (400 + i)), .ref (cs (420 + i)), .ref (cs (460 + i)), .ref f5042_5, .long f5042_6, .int f5042_7, .int f5042_8, .int x5044, .int x5071, .int f5042_11, .int f5042_12, .int f5042_13, .int f5042_14, .int f5042_15]))] _ := hB.1
      refine W.know (fun hg => ?_)
      rw [hH0] at hg
      exact en_i hx hb hr hlocks hL rfl (Nat.zero_le _) (Nat.zero_le _) dX7_send_121 (⟨_, KX.rf, hT, hF, _, _, _, _, _, hMW, ⟨hg, GN.rf⟩, Or.inl ⟨rfl, rfl⟩⟩)
theorem mX7_sendToOthers_1 : (.fieldLink RX7 52 "OneBeat$World" "setup" "LOneBeat$Setup;" : Cond) ∈ wsX7_sendToOthers := List.mem_of_getElem? (i := 1) (by decide +kernel)
theorem iX7_sendToOthers_7 : ∀ w ∈ wsX70, w ∈ wsX7_sendToOthers := fun w h => List.mem_of_mem_drop (List.mem_of_mem_take ((show wsX70 = (wsX7_sendToOthers.drop 46).take 16 by decide +kernel) ▸ h))
theorem iX7_sendToOthers_6 : ∀ w ∈ wsX60, w ∈ wsX7_sendToOthers := fun w h => List.mem_of_mem_drop (List.mem_of_mem_take ((show wsX60 = (wsX7_sendToOthers.drop 62).take 8 by decide +kernel) ▸ h))
theorem mX7_sendToOthers_2 : (.fieldLink RX7 27 "OneBeat$World" "latest" "LOneBeat$Proposal;" : Cond) ∈ wsX7_sendToOthers := List.mem_of_getElem? (i := 2) (by decide +kernel)
theorem iX7_sendToOthers_4 : ∀ w ∈ wsX40, w ∈ wsX7_sendToOthers := fun w h => List.mem_of_mem_drop (List.mem_of_mem_take ((show wsX40 = (wsX7_sendToOthers.drop 70).take 8 by decide +kernel) ▸ h))
theorem mX7_sendToOthers_3 : (.fieldLink RX7 77 "OneBeat$World" "made" "I" : Cond) ∈ wsX7_sendToOthers := List.mem_of_getElem? (i := 3) (by decide +kernel)
theorem hdX7_send_v : yX7_send.cls = RX7 ∧ yX7_send.cls ≠ "java/lang/invoke/MethodHandle" ∧ yX7_send.cls ≠ "java/lang/invoke/VarHandle" ∧ (parseMethodDescriptor yX7_send.desc).map (fun d => d.parameters.length) = some 6 := by decide +kernel
set_option maxHeartbeats 4000000 in
set_option maxRecDepth 100000 in
theorem c_X7_sendToOthers_d1 {l : Launch} {D : va_G} {cs : Nat → ClassId} {B0 T : Nat} {κ : KM} {H0 : Heap} (hT : WT B0 D cs T κ H0) {w i : Nat} (hw : T2 κ w 8 i) {x : Int32} {C cn ln : Nat → Nat} {rw9 : Nat → Nat → Int32} {dl : Nat → Int32} {su tm : Nat} (hsu : (κ w).2.2.1 = su) (htm : (κ w).2.2.2 = tm) (hMW : MW D cs H0 i su tm C cn ln rw9 dl) (hk9 : ¬ (x = 0 ∨ x = 2)) {q0 pl : Nat} (hb : EE C dl cn rw9 q0 pl + 8 ≤ 24) : KC l yX7_sendToOthers wsX7_sendToOthers 3 113 ((56 * sumN C 16 + 22407 - 2 * sumN ln 16) / 35) (56 * sumN C 16 + 22407 - 2 * sumN ln 16) D cs B0 H0 [.ref w, .int x] (Qv (fun H => ∃ κ1, KX κ κ1 ∧ WT B0 D cs T κ1 H ∧ Fr B0 [i, i + 20] κ H0 H ∧ ∃ cn1 ln1 rw1 k n, MW D cs H i su tm C cn1 ln1 rw1 dl ∧ GP H0 H ln ln1 k n ∧ EE C dl cn1 rw1 q0 pl ≤ EE C dl cn rw9 q0 pl + 8 ∧ ∀ q, q < 16 → cn q ≤ cn1 q)) := by
  refine KC.of cX7_sendToOthers 3 none (by decide) rfl (Nat.le_of_ble_eq_true rfl) ?_
  intro p e s m below meth c ls hx hb hr hml hown hts hlocks hin hN hE hH0 hl
  have hown : s.vm.findClass RX7 = some m.cls := hown
  have hl : lv_has ls 3 [(0, .ref w), (1, .int x)] := hl
  have hL : OkL B0 [] := OkL.nil
  have hF : Fr B0 [i, i + 20] κ H0 H0 := Fr.rf
  obtain ⟨hml, hpr, hli, -, hi10⟩ := hT.ml hw
  have ht16 := hMW.2.2.2
  have hGN : GN ln ln 0 0 := GN.rf
  have hs0 := hMW.2.2.1.sum
  refine lv_iconst (v := 0) hx hb dX7_sendToOthers_0 (by decide) ?_
  refine lv_istore_n (lv' := [(2, .int 0), (0, .ref w), (1, .int x)]) hx hb dX7_sendToOthers_1 rfl hl (by decide) rfl (fun ls hl => ?_)
  refine W.know (fun hgb => ?_)
  rw [hH0] at hgb
  refine W.widen (k := ((56 * sumN C 16 + 22407 - 2 * sumN ln 16) / 35)) (n := (56 * sumN C 16 + 22407 - 2 * sumN ln 16)) (Nat.zero_le _) (Nat.zero_le _) ?_
  refine lp_m (α := Nat × KM × (Nat → Nat) × (Nat → Nat) × (Nat → Nat → Int32) × Nat × Nat) (nL := 3) (fun a9 => 8 - a9.1) (fun a9 H9 l9 => (a9.1 ≤ 8) ∧ (KX κ a9.2.1) ∧ (T2 a9.2.1 w 8 i) ∧ ((a9.2.1 w).2.2.1 = su) ∧ ((a9.2.1 w).2.2.2 = tm) ∧ (MW D cs H9 i su tm C a9.2.2.1 a9.2.2.2.1 a9.2.2.2.2.1 dl) ∧ (EE C dl a9.2.2.1 a9.2.2.2.2.1 q0 pl ≤ EE C dl cn rw9 q0 pl + 1 * a9.1) ∧ (Gr H0 H9 a9.2.2.2.2.2.1 a9.2.2.2.2.2.2) ∧ (GN ln a9.2.2.2.1 a9.2.2.2.2.2.1 a9.2.2.2.2.2.2) ∧ (∀ q, q < 16 → cn q ≤ a9.2.2.1 q) ∧ (WT B0 D cs T a9.2.1 H9) ∧ (Fr B0 [i, i + 20] κ H0 H9) ∧ (OkL B0 l9)) (fun a9 => [(2, .int (nI a9.1)), (0, .ref w), (1, .int x)]) ?_ (0, κ, cn, ln, rw9, 0, 0) _ _ _ ⟨(by show (0) ≤ 8; omega), KX.rf, hw, hsu, htm, hMW, (by show EE C dl (cn) (rw9) q0 pl ≤ EE C dl cn rw9 q0 pl + 1 * (0); omega), hgb, hGN, (fun _ _ => Nat.le_refl _), hT, hF, hL⟩ (lv_sub hl [0, 1, 2] rfl)
  rintro ⟨p, κ9, cn9, ln9, rw99, k9, n9⟩ H locs ls ih5072 ⟨hp, hKX, hw, hsu, htm, hMW, hEE, hGR, hGN, hmo, hT, hF, hL⟩ hl
  have hl : lv_has ls 3 [(2, .int (nI p)), (0, .ref w), (1, .int x)] := hl
  have hp : p ≤ 8 := hp
  have hKX : KX κ κ9 := hKX
  have hw : T2 κ9 w 8 i := hw
  have hsu : (κ9 w).2.2.1 = su := hsu
  have htm : (κ9 w).2.2.2 = tm := htm
  have hMW : MW D cs H i su tm C cn9 ln9 rw99 dl := hMW
  have hEE : EE C dl cn9 rw99 q0 pl ≤ EE C dl cn rw9 q0 pl + 1 * p := hEE
  have hGR : Gr H0 H k9 n9 := hGR
  have hGN : GN ln ln9 k9 n9 := hGN
  have hmo : ∀ q, q < 16 → cn q ≤ cn9 q := hmo
  have hT : WT B0 D cs T κ9 _ := hT
  have hKF := hKX.f
  refine W.tight (k := k9) (n := n9) (by rw [hH0]; exact hGR) ?_
  obtain ⟨hml, hpr, hli, -, -⟩ := hT.ml hw
  have hg1 := hGN.1
  have hg2 := hGN.2
  have hs9 := hMW.2.2.1.sum
  refine lv_iload_n hx hb dX7_sendToOthers_2 rfl (lv_at hl 0 rfl) ?_
  refine lv_aload_n hx hb dX7_sendToOthers_3 rfl (lv_at hl 1 rfl) ?_
  obtain ⟨hb5073, e5073, hat5073, hk5073⟩ := hT.o8 hw.1
  obtain ⟨f5073_0, f5073_1, f5073_2, f5073_3, f5073_4, f5073_5, f5073_6, f5073_7, f5073_8, f5073_9, f5073_10, f5073_11, f5073_12, f5073_13, f5073_14, f5073_15, rfl, t5073_0, c5073_su, t5073_1, t5073_2, t5073_3, t5073_4, t5073_5, c5073_tm, c5073_lt, c5073_ml, c5073_pr, c5073_li⟩ := hk5073
  rw [hw.2] at t5073_1
  rw [hw.2] at t5073_2
  rw [hw.2] at t5073_3
  rw [hw.2] at t5073_4
  rw [hw.2] at t5073_5
  rw [hw.2] at c5073_lt c5073_ml c5073_pr c5073_li
  subst c5073_ml
  subst c5073_pr
  subst c5073_li
  have esu5073 := (c5073_su.trans hsu).symm
  subst esu5073
  have ctm5073 : f5073_7 &&& 15 = nI tm := by rw [c5073_tm, htm]
  have hP : va_P D vwCl [(w, .inr (7, [.ref su, .ref f5073_1, .ref (cs (400 + i)), .ref (cs (420 + i)), .ref (cs (460 + i)), .ref f5073_5, .long f5073_6, .int f5073_7, .int f5073_8, .int f5073_9, .int f5073_10, .int f5073_11, .int f5073_12, .int f5073_13, .int f5073_14, .int f5073_15]))] _ := va_P.cons hat5073 va_P.nil
  refine va_get (D := D) (ci := 7) (v := .ref su) (C := RX7) (T := TX7) (N := 16) hx hb hts iX7_sendToOthers_7 hown hN.1 hP 0 rfl rfl 0 (by decide) (hts _ mX7_sendToOthers_1) (fun _ h9 => h9) rfl dX7_sendToOthers_4 ?_
  obtain ⟨hb5074, e5074, hat5074, hk5074⟩ := hT.o7 t5073_0.1
  obtain ⟨f5074_0, f5074_1, f5074_2, f5074_3, f5074_4, f5074_5, f5074_6, f5074_7, rfl, c5074_0, c5074_3, c5074_mg, t5074_4, t5074_5, t5074_6, t5074_7⟩ := hk5074
  rw [t5073_0.2] at t5074_4
  rw [t5073_0.2] at t5074_5
  rw [t5073_0.2] at t5074_6
  rw [t5073_0.2] at t5074_7
  have hP : va_P D vwCl [(su, .inr (6, [.int (nI f5074_0), .int f5074_1, .int f5074_2, f5074_3, .ref f5074_4, .ref f5074_5, .ref f5074_6, .ref f5074_7])), (w, .inr (7, [.ref su, .ref f5073_1, .ref (cs (400 + i)), .ref (cs (420 + i)), .ref (cs (460 + i)), .ref f5073_5, .long f5073_6, .int f5073_7, .int f5073_8, .int f5073_9, .int f5073_10, .int f5073_11, .int f5073_12, .int f5073_13, .int f5073_14, .int f5073_15]))] _ := va_P.cons hat5074 hP
  refine va_getN (D := D) (ci := 6) (v := .int (nI f5074_0)) (C := RX6) (T := TX6) (N := 8) hx hb hts iX7_sendToOthers_6 hown hN.1 hP 0 rfl rfl 0 (by decide) (hN.f 39 rfl) (fun _ h9 => h9) rfl dX7_sendToOthers_7 ?_
  refine lv_icmp_ge (tgt := 64) hx hb dX7_sendToOthers_10 (by decide) (fun c5075 => ?_) (fun c5075 => ?_)
  · have c5075 : f5074_0 ≤ p := (nI_leI (a := f5074_0) (b := p) (by omega) (by omega)).mp c5075
    refine W.know (fun hg => ?_)
    rw [hH0] at hg
    exact en_v hx hb hr hlocks hL (show k9 ≤ ((56 * sumN C 16 + 22407 - 2 * sumN ln 16) / 35) by omega) (show n9 ≤ (56 * sumN C 16 + 22407 - 2 * sumN ln 16) by omega) dX7_sendToOthers_64 (⟨_, hKX, hT, hF, _, _, _, _, _, hMW, ⟨hg, hGN⟩, (by omega), hmo⟩)
  · have c5075 : ¬ f5074_0 ≤ p := fun h9 => c5075 ((nI_leI (a := f5074_0) (b := p) (by omega) (by omega)).mpr h9)
    refine lv_iload_n hx hb dX7_sendToOthers_13 rfl (lv_at hl 0 rfl) ?_
    refine lv_aload_n hx hb dX7_sendToOthers_14 rfl (lv_at hl 1 rfl) ?_
    refine va_get (D := D) (ci := 7) (v := .ref (cs (420 + i))) (C := RX7) (T := TX7) (N := 16) hx hb hts iX7_sendToOthers_7 hown hN.1 hP 1 rfl rfl 3 (by decide) (hts _ mX7_sendToOthers_2) (fun _ h9 => h9) rfl dX7_sendToOthers_15 ?_
    obtain ⟨hb5076, e5076, hat5076, hk5076⟩ := hT.o5 t5073_3.1
    obtain ⟨f5076_0, f5076_1, f5076_2, f5076_3, f5076_4, f5076_5, f5076_6, f5076_7, rfl, c5076⟩ := hk5076
    have hP : va_P D vwCl [((cs (420 + i)), .inr (4, [.int f5076_0, .int f5076_1, .int f5076_2, .int f5076_3, .int f5076_4, .int f5076_5, .int f5076_6, .int f5076_7])), (su, .inr (6, [.int (nI f5074_0), .int f5074_1, .int f5074_2, f5074_3, .ref f5074_4, .ref f5074_5, .ref f5074_6, .ref f5074_7])), (w, .inr (7, [.ref su, .ref f5073_1, .ref (cs (400 + i)), .ref (cs (420 + i)), .ref (cs (460 + i)), .ref f5073_5, .long f5073_6, .int f5073_7, .int f5073_8, .int f5073_9, .int f5073_10, .int f5073_11, .int f5073_12, .int f5073_13, .int f5073_14, .int f5073_15]))] _ := va_P.cons hat5076 hP
    refine va_getN (D := D) (ci := 4) (v := .int f5076_3) (C := RX4) (T := TX4) (N := 8) hx hb hts iX7_sendToOthers_4 hown hN.1 hP 0 rfl rfl 3 (by decide) (hN.f 9 rfl) (fun _ h9 => h9) rfl dX7_sendToOthers_18 ?_
    refine lv_icmp_eq (tgt := 58) hx hb dX7_sendToOthers_21 (by decide) (fun c5077 => ?_) (fun c5077 => ?_)
    · refine lv_iinc (v := (nI (p + 1))) (lv' := [(2, .int (nI (p + 1))), (0, .ref w), (1, .int x)]) hx hb dX7_sendToOthers_58 hl (k := 0) rfl (nI_add _ 1) (by decide) rfl (fun ls hl => ?_)
      refine lv_goto (tgt := 2) hx hb dX7_sendToOthers_61 (by decide) ?_
      refine W.know (fun hgb => ?_)
      rw [hH0] at hgb
      refine W.widen (k := ((56 * sumN C 16 + 22407 - 2 * sumN ln 16) / 35)) (n := (56 * sumN C 16 + 22407 - 2 * sumN ln 16)) (show k9 ≤ ((56 * sumN C 16 + 22407 - 2 * sumN ln 16) / 35) by omega) (show n9 ≤ (56 * sumN C 16 + 22407 - 2 * sumN ln 16) by omega) ?_
      exact ih5072 ((p + 1), κ9, cn9, ln9, rw99, k9, n9) _ _ _ (by show 8 - ((p + 1)) < 8 - p; omega) ⟨(by show ((p + 1)) ≤ 8; omega), hKX, hw, hsu, htm, hMW, (by show EE C dl (cn9) (rw99) q0 pl ≤ EE C dl cn rw9 q0 pl + 1 * ((p + 1)); omega), hgb, hGN, hmo, hT, hF, hL⟩ (lv_sub hl [0, 1, 2] rfl)
    · refine lv_aload_n hx hb dX7_sendToOthers_24 rfl (lv_at hl 1 rfl) ?_
      refine lv_iload_n hx hb dX7_sendToOthers_25 rfl (lv_at hl 2 rfl) ?_
      refine lv_aload_n hx hb dX7_sendToOthers_26 rfl (lv_at hl 1 rfl) ?_
      refine va_get (D := D) (ci := 7) (v := .ref (cs (420 + i))) (C := RX7) (T := TX7) (N := 16) hx hb hts iX7_sendToOthers_7 hown hN.1 hP 2 rfl rfl 3 (by decide) (hts _ mX7_sendToOthers_2) (fun _ h9 => h9) rfl dX7_sendToOthers_27 ?_
      refine va_getN (D := D) (ci := 4) (v := .int f5076_3) (C := RX4) (T := TX4) (N := 8) hx hb hts iX7_sendToOthers_4 hown hN.1 hP 0 rfl rfl 3 (by decide) (hN.f 9 rfl) (fun _ h9 => h9) rfl dX7_sendToOthers_30 ?_
      refine lv_iload_n hx hb dX7_sendToOthers_33 rfl (lv_at hl 0 rfl) ?_
      refine lv_aload_n hx hb dX7_sendToOthers_34 rfl (lv_at hl 1 rfl) ?_
      refine va_get (D := D) (ci := 7) (v := .int f5073_11) (C := RX7) (T := TX7) (N := 16) hx hb hts iX7_sendToOthers_7 hown hN.1 hP 2 rfl rfl 11 (by decide) (hts _ mX7_sendToOthers_3) (fun _ h9 => h9) rfl dX7_sendToOthers_35 ?_
      refine lv_iconst (v := 1) hx hb dX7_sendToOthers_38 (by decide) ?_
      refine lv_isub hx hb dX7_sendToOthers_39 ?_
      refine gn_i (fun x5078 => ?_)
      refine lv_aload_n hx hb dX7_sendToOthers_40 rfl (lv_at hl 1 rfl) ?_
      refine va_get (D := D) (ci := 7) (v := .ref (cs (420 + i))) (C := RX7) (T := TX7) (N := 16) hx hb hts iX7_sendToOthers_7 hown hN.1 hP 2 rfl rfl 3 (by decide) (hts _ mX7_sendToOthers_2) (fun _ h9 => h9) rfl dX7_sendToOthers_41 ?_
      refine va_getN (D := D) (ci := 4) (v := .int f5076_0) (C := RX4) (T := TX4) (N := 8) hx hb hts iX7_sendToOthers_4 hown hN.1 hP 0 rfl rfl 0 (by decide) (hN.f 5 rfl) (fun _ h9 => h9) rfl dX7_sendToOthers_44 ?_
      refine lv_aload_n hx hb dX7_sendToOthers_47 rfl (lv_at hl 1 rfl) ?_
      refine va_get (D := D) (ci := 7) (v := .ref (cs (420 + i))) (C := RX7) (T := TX7) (N := 16) hx hb hts iX7_sendToOthers_7 hown hN.1 hP 2 rfl rfl 3 (by decide) (hts _ mX7_sendToOthers_2) (fun _ h9 => h9) rfl dX7_sendToOthers_48 ?_
      refine va_getN (D := D) (ci := 4) (v := .int f5076_1) (C := RX4) (T := TX4) (N := 8) hx hb hts iX7_sendToOthers_4 hown hN.1 hP 0 rfl rfl 1 (by decide) (hN.f 7 rfl) (fun _ h9 => h9) rfl dX7_sendToOthers_51 ?_
      have hM9 : ∀ j, j < 16 → 2 * ln9 j + 7 ≤ 2 * sumN ln9 16 + 7 := fun j hj => by have := sumN_at (f := ln9) hj; omega
      have hcn := EE_cb (show EE C dl cn9 rw99 q0 pl ≤ 24 by omega)
      refine W.know (fun hgb => ?_)
      rw [hH0] at hgb
      refine cv_i (As := [.int x, .int f5076_3, .int (nI p), .int x5078, .int f5076_0, .int f5076_1]) (rest := []) (b := w) ⟨hx, hb, hml, hown, hts⟩ (c_X7_send hT (w := w) hw (x := x) (y := f5076_3) (z := (nI p)) (u := x5078) (v := f5076_0) (t := f5076_1) hsu htm hMW hcn hM9) (cwV 6 hts gX7_sendToOthers_X7_send rfl rfl rfl hdX7_send_v ⟨Nat.le_of_ble_eq_true rfl, Nat.le_of_ble_eq_true rfl⟩) hN hE hL (rcv8 hN hT hw.1) rfl rfl hl.1 (Nat.le_of_ble_eq_true rfl) dX7_sendToOthers_54 (show k9 + 1 ≤ ((56 * sumN C 16 + 22407 - 2 * sumN ln 16) / 35) by omega) (show n9 + (2 * sumN ln9 16 + 7) ≤ (56 * sumN C 16 + 22407 - 2 * sumN ln 16) by omega) (fun r5079 H1 locs hL hqr5079 => ?_)
      obtain ⟨κr5079, hxr5079, hT1, hF1, hqr5079⟩ := hqr5079
      have hTo := hT
      have hwo := hw
      have hsuo := hsu
      have hF9 := hF1
      have hF := hF.tr ((hF1.kf hKF).mono (by simp))
      have hT := hT1
      have hKF := hKF.tr hxr5079.f
      have hKX := hKX.tr hxr5079
      have hkw9 : κr5079 w = κ9 w := hxr5079 w (by rw [hw.1]; decide)
      rw [← hkw9] at hsu htm
      have hw := (hxr5079.f.t2 hw (by decide))
      obtain ⟨c5080, l5081, w5082, k5083, n5084, m5085, g5086, s5087⟩ := hqr5079
      have hMW := m5085
      obtain ⟨k5088, n5089, hGP⟩ : ∃ k9 n9, GP H0 _ ln l5081 k9 n9 := ⟨_, _, GP.tr (show GP H0 _ ln ln9 _ _ from ⟨hgb, hGN⟩) g5086⟩
      refine W.tight (k := k5088) (n := n5089) (by rw [hH0]; exact hGP.1) ?_
      have hGN : GN ln l5081 k5088 n5089 := hGP.2
      have hgk5088 := hGN.1
      have hgn5089 := hGN.2
      have hsk5088 := hMW.2.2.1.sum
      have hE1 := s5087.e1 (C := C) (dl := dl) (q0 := q0) (pl := pl) (Nat.mod_lt _ (by decide)) hk9
      have hmo : ∀ q, q < 16 → cn q ≤ c5080 q := fun q hq => Nat.le_trans (hmo q hq) (s5087.mono q hq)
      have hEE : EE C dl c5080 w5082 q0 pl ≤ EE C dl cn rw9 q0 pl + 1 * (p + 1) := by omega
      refine lv_pop hx hb dX7_sendToOthers_57 rfl ?_
      refine lv_iinc (v := (nI (p + 1))) (lv' := [(2, .int (nI (p + 1))), (0, .ref w), (1, .int x)]) hx hb dX7_sendToOthers_58 hl (k := 0) rfl (nI_add _ 1) (by decide) rfl (fun ls hl => ?_)
      refine lv_goto (tgt := 2) hx hb dX7_sendToOthers_61 (by decide) ?_
      refine W.know (fun hgb => ?_)
      rw [hH0] at hgb
      refine W.widen (k := ((56 * sumN C 16 + 22407 - 2 * sumN ln 16) / 35)) (n := (56 * sumN C 16 + 22407 - 2 * sumN ln 16)) (show k5088 ≤ ((56 * sumN C 16 + 22407 - 2 * sumN ln 16) / 35) by omega) (show n5089 ≤ (56 * sumN C 16 + 22407 - 2 * sumN ln 16) by omega) ?_
      exact ih5072 ((p + 1), κr5079, c5080, l5081, w5082, k5088, n5089) _ _ _ (by show 8 - ((p + 1)) < 8 - p; omega) ⟨(by show ((p + 1)) ≤ 8; omega), hKX, hw, hsu, htm, hMW, (by show EE C dl (c5080) (w5082) q0 pl ≤ EE C dl cn rw9 q0 pl + 1 * ((p + 1)); omega), hgb, hGN, hmo, hT, hF, hL⟩ (lv_sub hl [0, 1, 2] rfl)
set_option maxHeartbeats 4000000 in
set_option maxRecDepth 100000 in
theorem c_X7_sendToOthers_d2 {l : Launch} {D : va_G} {cs : Nat → ClassId} {B0 T : Nat} {κ : KM} {H0 : Heap} (hT : WT B0 D cs T κ H0) {w i : Nat} (hw : T2 κ w 8 i) {x : Int32} {C cn ln : Nat → Nat} {rw9 : Nat → Nat → Int32} {dl : Nat → Int32} {su tm : Nat} (hsu : (κ w).2.2.1 = su) (htm : (κ w).2.2.2 = tm) (hMW : MW D cs H0 i su tm C cn ln rw9 dl) {q0 pl : Nat} (hb : EE C dl cn rw9 q0 pl + 16 ≤ 24) : KC l yX7_sendToOthers wsX7_sendToOthers 3 113 ((56 * sumN C 16 + 22407 - 2 * sumN ln 16) / 35) (56 * sumN C 16 + 22407 - 2 * sumN ln 16) D cs B0 H0 [.ref w, .int x] (Qv (fun H => ∃ κ1, KX κ κ1 ∧ WT B0 D cs T κ1 H ∧ Fr B0 [i, i + 20] κ H0 H ∧ ∃ cn1 ln1 rw1 k n, MW D cs H i su tm C cn1 ln1 rw1 dl ∧ GP H0 H ln ln1 k n ∧ EE C dl cn1 rw1 q0 pl ≤ EE C dl cn rw9 q0 pl + 16 ∧ ∀ q, q < 16 → cn q ≤ cn1 q)) := by
  refine KC.of cX7_sendToOthers 3 none (by decide) rfl (Nat.le_of_ble_eq_true rfl) ?_
  intro p e s m below meth c ls hx hb hr hml hown hts hlocks hin hN hE hH0 hl
  have hown : s.vm.findClass RX7 = some m.cls := hown
  have hl : lv_has ls 3 [(0, .ref w), (1, .int x)] := hl
  have hL : OkL B0 [] := OkL.nil
  have hF : Fr B0 [i, i + 20] κ H0 H0 := Fr.rf
  obtain ⟨hml, hpr, hli, -, hi10⟩ := hT.ml hw
  have ht16 := hMW.2.2.2
  have hGN : GN ln ln 0 0 := GN.rf
  have hs0 := hMW.2.2.1.sum
  refine lv_iconst (v := 0) hx hb dX7_sendToOthers_0 (by decide) ?_
  refine lv_istore_n (lv' := [(2, .int 0), (0, .ref w), (1, .int x)]) hx hb dX7_sendToOthers_1 rfl hl (by decide) rfl (fun ls hl => ?_)
  refine W.know (fun hgb => ?_)
  rw [hH0] at hgb
  refine W.widen (k := ((56 * sumN C 16 + 22407 - 2 * sumN ln 16) / 35)) (n := (56 * sumN C 16 + 22407 - 2 * sumN ln 16)) (Nat.zero_le _) (Nat.zero_le _) ?_
  refine lp_m (α := Nat × KM × (Nat → Nat) × (Nat → Nat) × (Nat → Nat → Int32) × Nat × Nat) (nL := 3) (fun a9 => 8 - a9.1) (fun a9 H9 l9 => (a9.1 ≤ 8) ∧ (KX κ a9.2.1) ∧ (T2 a9.2.1 w 8 i) ∧ ((a9.2.1 w).2.2.1 = su) ∧ ((a9.2.1 w).2.2.2 = tm) ∧ (MW D cs H9 i su tm C a9.2.2.1 a9.2.2.2.1 a9.2.2.2.2.1 dl) ∧ (EE C dl a9.2.2.1 a9.2.2.2.2.1 q0 pl ≤ EE C dl cn rw9 q0 pl + 2 * a9.1) ∧ (Gr H0 H9 a9.2.2.2.2.2.1 a9.2.2.2.2.2.2) ∧ (GN ln a9.2.2.2.1 a9.2.2.2.2.2.1 a9.2.2.2.2.2.2) ∧ (∀ q, q < 16 → cn q ≤ a9.2.2.1 q) ∧ (WT B0 D cs T a9.2.1 H9) ∧ (Fr B0 [i, i + 20] κ H0 H9) ∧ (OkL B0 l9)) (fun a9 => [(2, .int (nI a9.1)), (0, .ref w), (1, .int x)]) ?_ (0, κ, cn, ln, rw9, 0, 0) _ _ _ ⟨(by show (0) ≤ 8; omega), KX.rf, hw, hsu, htm, hMW, (by show EE C dl (cn) (rw9) q0 pl ≤ EE C dl cn rw9 q0 pl + 2 * (0); omega), hgb, hGN, (fun _ _ => Nat.le_refl _), hT, hF, hL⟩ (lv_sub hl [0, 1, 2] rfl)
  rintro ⟨p, κ9, cn9, ln9, rw99, k9, n9⟩ H locs ls ih5090 ⟨hp, hKX, hw, hsu, htm, hMW, hEE, hGR, hGN, hmo, hT, hF, hL⟩ hl
  have hl : lv_has ls 3 [(2, .int (nI p)), (0, .ref w), (1, .int x)] := hl
  have hp : p ≤ 8 := hp
  have hKX : KX κ κ9 := hKX
  have hw : T2 κ9 w 8 i := hw
  have hsu : (κ9 w).2.2.1 = su := hsu
  have htm : (κ9 w).2.2.2 = tm := htm
  have hMW : MW D cs H i su tm C cn9 ln9 rw99 dl := hMW
  have hEE : EE C dl cn9 rw99 q0 pl ≤ EE C dl cn rw9 q0 pl + 2 * p := hEE
  have hGR : Gr H0 H k9 n9 := hGR
  have hGN : GN ln ln9 k9 n9 := hGN
  have hmo : ∀ q, q < 16 → cn q ≤ cn9 q := hmo
  have hT : WT B0 D cs T κ9 _ := hT
  have hKF := hKX.f
  refine W.tight (k := k9) (n := n9) (by rw [hH0]; exact hGR) ?_
  obtain ⟨hml, hpr, hli, -, -⟩ := hT.ml hw
  have hg1 := hGN.1
  have hg2 := hGN.2
  have hs9 := hMW.2.2.1.sum
  refine lv_iload_n hx hb dX7_sendToOthers_2 rfl (lv_at hl 0 rfl) ?_
  refine lv_aload_n hx hb dX7_sendToOthers_3 rfl (lv_at hl 1 rfl) ?_
  obtain ⟨hb5091, e5091, hat5091, hk5091⟩ := hT.o8 hw.1
  obtain ⟨f5091_0, f5091_1, f5091_2, f5091_3, f5091_4, f5091_5, f5091_6, f5091_7, f5091_8, f5091_9, f5091_10, f5091_11, f5091_12, f5091_13, f5091_14, f5091_15, rfl, t5091_0, c5091_su, t5091_1, t5091_2, t5091_3, t5091_4, t5091_5, c5091_tm, c5091_lt, c5091_ml, c5091_pr, c5091_li⟩ := hk5091
  rw [hw.2] at t5091_1
  rw [hw.2] at t5091_2
  rw [hw.2] at t5091_3
  rw [hw.2] at t5091_4
  rw [hw.2] at t5091_5
  rw [hw.2] at c5091_lt c5091_ml c5091_pr c5091_li
  subst c5091_ml
  subst c5091_pr
  subst c5091_li
  have esu5091 := (c5091_su.trans hsu).symm
  subst esu5091
  have ctm5091 : f5091_7 &&& 15 = nI tm := by rw [c5091_tm, htm]
  have hP : va_P D vwCl [(w, .inr (7, [.ref su, .ref f5091_1, .ref (cs (400 + i)), .ref (cs (420 + i)), .ref (cs (460 + i)), .ref f5091_5, .long f5091_6, .int f5091_7, .int f5091_8, .int f5091_9, .int f5091_10, .int f5091_11, .int f5091_12, .int f5091_13, .int f5091_14, .int f5091_15]))] _ := va_P.cons hat5091 va_P.nil
  refine va_get (D := D) (ci := 7) (v := .ref su) (C := RX7) (T := TX7) (N := 16) hx hb hts iX7_sendToOthers_7 hown hN.1 hP 0 rfl rfl 0 (by decide) (hts _ mX7_sendToOthers_1) (fun _ h9 => h9) rfl dX7_sendToOthers_4 ?_
  obtain ⟨hb5092, e5092, hat5092, hk5092⟩ := hT.o7 t5091_0.1
  obtain ⟨f5092_0, f5092_1, f5092_2, f5092_3, f5092_4, f5092_5, f5092_6, f5092_7, rfl, c5092_0, c5092_3, c5092_mg, t5092_4, t5092_5, t5092_6, t5092_7⟩ := hk5092
  rw [t5091_0.2] at t5092_4
  rw [t5091_0.2] at t5092_5
  rw [t5091_0.2] at t5092_6
  rw [t5091_0.2] at t5092_7
  have hP : va_P D vwCl [(su, .inr (6, [.int (nI f5092_0), .int f5092_1, .int f5092_2, f5092_3, .ref f5092_4, .ref f5092_5, .ref f5092_6, .ref f5092_7])), (w, .inr (7, [.ref su, .ref f5091_1, .ref (cs (400 + i)), .ref (cs (420 + i)), .ref (cs (460 + i)), .ref f5091_5, .long f5091_6, .int f5091_7, .int f5091_8, .int f5091_9, .int f5091_10, .int f5091_11, .int f5091_12, .int f5091_13, .int f5091_14, .int f5091_15]))] _ := va_P.cons hat5092 hP
  refine va_getN (D := D) (ci := 6) (v := .int (nI f5092_0)) (C := RX6) (T := TX6) (N := 8) hx hb hts iX7_sendToOthers_6 hown hN.1 hP 0 rfl rfl 0 (by decide) (hN.f 39 rfl) (fun _ h9 => h9) rfl dX7_sendToOthers_7 ?_
  refine lv_icmp_ge (tgt := 64) hx hb dX7_sendToOthers_10 (by decide) (fun c5093 => ?_) (fun c5093 => ?_)
  · have c5093 : f5092_0 ≤ p := (nI_leI (a := f5092_0) (b := p) (by omega) (by omega)).mp c5093
    refine W.know (fun hg => ?_)
    rw [hH0] at hg
    exact en_v hx hb hr hlocks hL (show k9 ≤ ((56 * sumN C 16 + 22407 - 2 * sumN ln 16) / 35) by omega) (show n9 ≤ (56 * sumN C 16 + 22407 - 2 * sumN ln 16) by omega) dX7_sendToOthers_64 (⟨_, hKX, hT, hF, _, _, _, _, _, hMW, ⟨hg, hGN⟩, (by omega), hmo⟩)
  · have c5093 : ¬ f5092_0 ≤ p := fun h9 => c5093 ((nI_leI (a := f5092_0) (b := p) (by omega) (by omega)).mpr h9)
    refine lv_iload_n hx hb dX7_sendToOthers_13 rfl (lv_at hl 0 rfl) ?_
    refine lv_aload_n hx hb dX7_sendToOthers_14 rfl (lv_at hl 1 rfl) ?_
    refine va_get (D := D) (ci := 7) (v := .ref (cs (420 + i))) (C := RX7) (T := TX7) (N := 16) hx hb hts iX7_sendToOthers_7 hown hN.1 hP 1 rfl rfl 3 (by decide) (hts _ mX7_sendToOthers_2) (fun _ h9 => h9) rfl dX7_sendToOthers_15 ?_
    obtain ⟨hb5094, e5094, hat5094, hk5094⟩ := hT.o5 t5091_3.1
    obtain ⟨f5094_0, f5094_1, f5094_2, f5094_3, f5094_4, f5094_5, f5094_6, f5094_7, rfl, c5094⟩ := hk5094
    have hP : va_P D vwCl [((cs (420 + i)), .inr (4, [.int f5094_0, .int f5094_1, .int f5094_2, .int f5094_3, .int f5094_4, .int f5094_5, .int f5094_6, .int f5094_7])), (su, .inr (6, [.int (nI f5092_0), .int f5092_1, .int f5092_2, f5092_3, .ref f5092_4, .ref f5092_5, .ref f5092_6, .ref f5092_7])), (w, .inr (7, [.ref su, .ref f5091_1, .ref (cs (400 + i)), .ref (cs (420 + i)), .ref (cs (460 + i)), .ref f5091_5, .long f5091_6, .int f5091_7, .int f5091_8, .int f5091_9, .int f5091_10, .int f5091_11, .int f5091_12, .int f5091_13, .int f5091_14, .int f5091_15]))] _ := va_P.cons hat5094 hP
    refine va_getN (D := D) (ci := 4) (v := .int f5094_3) (C := RX4) (T := TX4) (N := 8) hx hb hts iX7_sendToOthers_4 hown hN.1 hP 0 rfl rfl 3 (by decide) (hN.f 9 rfl) (fun _ h9 => h9) rfl dX7_sendToOthers_18 ?_
    refine lv_icmp_eq (tgt := 58) hx hb dX7_sendToOthers_21 (by decide) (fun c5095 => ?_) (fun c5095 => ?_)
    · refine lv_iinc (v := (nI (p + 1))) (lv' := [(2, .int (nI (p + 1))), (0, .ref w), (1, .int x)]) hx hb dX7_sendToOthers_58 hl (k := 0) rfl (nI_add _ 1) (by decide) rfl (fun ls hl => ?_)
      refine lv_goto (tgt := 2) hx hb dX7_sendToOthers_61 (by decide) ?_
      refine W.know (fun hgb => ?_)
      rw [hH0] at hgb
      refine W.widen (k := ((56 * sumN C 16 + 22407 - 2 * sumN ln 16) / 35)) (n := (56 * sumN C 16 + 22407 - 2 * sumN ln 16)) (show k9 ≤ ((56 * sumN C 16 + 22407 - 2 * sumN ln 16) / 35) by omega) (show n9 ≤ (56 * sumN C 16 + 22407 - 2 * sumN ln 16) by omega) ?_
      exact ih5090 ((p + 1), κ9, cn9, ln9, rw99, k9, n9) _ _ _ (by show 8 - ((p + 1)) < 8 - p; omega) ⟨(by show ((p + 1)) ≤ 8; omega), hKX, hw, hsu, htm, hMW, (by show EE C dl (cn9) (rw99) q0 pl ≤ EE C dl cn rw9 q0 pl + 2 * ((p + 1)); omega), hgb, hGN, hmo, hT, hF, hL⟩ (lv_sub hl [0, 1, 2] rfl)
    · refine lv_aload_n hx hb dX7_sendToOthers_24 rfl (lv_at hl 1 rfl) ?_
      refine lv_iload_n hx hb dX7_sendToOthers_25 rfl (lv_at hl 2 rfl) ?_
      refine lv_aload_n hx hb dX7_sendToOthers_26 rfl (lv_at hl 1 rfl) ?_
      refine va_get (D := D) (ci := 7) (v := .ref (cs (420 + i))) (C := RX7) (T := TX7) (N := 16) hx hb hts iX7_sendToOthers_7 hown hN.1 hP 2 rfl rfl 3 (by decide) (hts _ mX7_sendToOthers_2) (fun _ h9 => h9) rfl dX7_sendToOthers_27 ?_
      refine va_getN (D := D) (ci := 4) (v := .int f5094_3) (C := RX4) (T := TX4) (N := 8) hx hb hts iX7_sendToOthers_4 hown hN.1 hP 0 rfl rfl 3 (by decide) (hN.f 9 rfl) (fun _ h9 => h9) rfl dX7_sendToOthers_30 ?_
      refine lv_iload_n hx hb dX7_sendToOthers_33 rfl (lv_at hl 0 rfl) ?_
      refine lv_aload_n hx hb dX7_sendToOthers_34 rfl (lv_at hl 1 rfl) ?_
      refine va_get (D := D) (ci := 7) (v := .int f5091_11) (C := RX7) (T := TX7) (N := 16) hx hb hts iX7_sendToOthers_7 hown hN.1 hP 2 rfl rfl 11 (by decide) (hts _ mX7_sendToOthers_3) (fun _ h9 => h9) rfl dX7_sendToOthers_35 ?_
      refine lv_iconst (v := 1) hx hb dX7_sendToOthers_38 (by decide) ?_
      refine lv_isub hx hb dX7_sendToOthers_39 ?_
      refine gn_i (fun x5096 => ?_)
      refine lv_aload_n hx hb dX7_sendToOthers_40 rfl (lv_at hl 1 rfl) ?_
      refine va_get (D := D) (ci := 7) (v := .ref (cs (420 + i))) (C := RX7) (T := TX7) (N := 16) hx hb hts iX7_sendToOthers_7 hown hN.1 hP 2 rfl rfl 3 (by decide) (hts _ mX7_sendToOthers_2) (fun _ h9 => h9) rfl dX7_sendToOthers_41 ?_
      refine va_getN (D := D) (ci := 4) (v := .int f5094_0) (C := RX4) (T := TX4) (N := 8) hx hb hts iX7_sendToOthers_4 hown hN.1 hP 0 rfl rfl 0 (by decide) (hN.f 5 rfl) (fun _ h9 => h9) rfl dX7_sendToOthers_44 ?_
      refine lv_aload_n hx hb dX7_sendToOthers_47 rfl (lv_at hl 1 rfl) ?_
      refine va_get (D := D) (ci := 7) (v := .ref (cs (420 + i))) (C := RX7) (T := TX7) (N := 16) hx hb hts iX7_sendToOthers_7 hown hN.1 hP 2 rfl rfl 3 (by decide) (hts _ mX7_sendToOthers_2) (fun _ h9 => h9) rfl dX7_sendToOthers_48 ?_
      refine va_getN (D := D) (ci := 4) (v := .int f5094_1) (C := RX4) (T := TX4) (N := 8) hx hb hts iX7_sendToOthers_4 hown hN.1 hP 0 rfl rfl 1 (by decide) (hN.f 7 rfl) (fun _ h9 => h9) rfl dX7_sendToOthers_51 ?_
      have hM9 : ∀ j, j < 16 → 2 * ln9 j + 7 ≤ 2 * sumN ln9 16 + 7 := fun j hj => by have := sumN_at (f := ln9) hj; omega
      have hcn := EE_cb (show EE C dl cn9 rw99 q0 pl ≤ 24 by omega)
      refine W.know (fun hgb => ?_)
      rw [hH0] at hgb
      refine cv_i (As := [.int x, .int f5094_3, .int (nI p), .int x5096, .int f5094_0, .int f5094_1]) (rest := []) (b := w) ⟨hx, hb, hml, hown, hts⟩ (c_X7_send hT (w := w) hw (x := x) (y := f5094_3) (z := (nI p)) (u := x5096) (v := f5094_0) (t := f5094_1) hsu htm hMW hcn hM9) (cwV 6 hts gX7_sendToOthers_X7_send rfl rfl rfl hdX7_send_v ⟨Nat.le_of_ble_eq_true rfl, Nat.le_of_ble_eq_true rfl⟩) hN hE hL (rcv8 hN hT hw.1) rfl rfl hl.1 (Nat.le_of_ble_eq_true rfl) dX7_sendToOthers_54 (show k9 + 1 ≤ ((56 * sumN C 16 + 22407 - 2 * sumN ln 16) / 35) by omega) (show n9 + (2 * sumN ln9 16 + 7) ≤ (56 * sumN C 16 + 22407 - 2 * sumN ln 16) by omega) (fun r5097 H1 locs hL hqr5097 => ?_)
      obtain ⟨κr5097, hxr5097, hT1, hF1, hqr5097⟩ := hqr5097
      have hTo := hT
      have hwo := hw
      have hsuo := hsu
      have hF9 := hF1
      have hF := hF.tr ((hF1.kf hKF).mono (by simp))
      have hT := hT1
      have hKF := hKF.tr hxr5097.f
      have hKX := hKX.tr hxr5097
      have hkw9 : κr5097 w = κ9 w := hxr5097 w (by rw [hw.1]; decide)
      rw [← hkw9] at hsu htm
      have hw := (hxr5097.f.t2 hw (by decide))
      obtain ⟨c5098, l5099, w5100, k5101, n5102, m5103, g5104, s5105⟩ := hqr5097
      have hMW := m5103
      obtain ⟨k5106, n5107, hGP⟩ : ∃ k9 n9, GP H0 _ ln l5099 k9 n9 := ⟨_, _, GP.tr (show GP H0 _ ln ln9 _ _ from ⟨hgb, hGN⟩) g5104⟩
      refine W.tight (k := k5106) (n := n5107) (by rw [hH0]; exact hGP.1) ?_
      have hGN : GN ln l5099 k5106 n5107 := hGP.2
      have hgk5106 := hGN.1
      have hgn5107 := hGN.2
      have hsk5106 := hMW.2.2.1.sum
      have hE1 := s5105.e2 (C := C) (dl := dl) (q0 := q0) (pl := pl) (Nat.mod_lt _ (by decide))
      have hmo : ∀ q, q < 16 → cn q ≤ c5098 q := fun q hq => Nat.le_trans (hmo q hq) (s5105.mono q hq)
      have hEE : EE C dl c5098 w5100 q0 pl ≤ EE C dl cn rw9 q0 pl + 2 * (p + 1) := by omega
      refine lv_pop hx hb dX7_sendToOthers_57 rfl ?_
      refine lv_iinc (v := (nI (p + 1))) (lv' := [(2, .int (nI (p + 1))), (0, .ref w), (1, .int x)]) hx hb dX7_sendToOthers_58 hl (k := 0) rfl (nI_add _ 1) (by decide) rfl (fun ls hl => ?_)
      refine lv_goto (tgt := 2) hx hb dX7_sendToOthers_61 (by decide) ?_
      refine W.know (fun hgb => ?_)
      rw [hH0] at hgb
      refine W.widen (k := ((56 * sumN C 16 + 22407 - 2 * sumN ln 16) / 35)) (n := (56 * sumN C 16 + 22407 - 2 * sumN ln 16)) (show k5106 ≤ ((56 * sumN C 16 + 22407 - 2 * sumN ln 16) / 35) by omega) (show n5107 ≤ (56 * sumN C 16 + 22407 - 2 * sumN ln 16) by omega) ?_
      exact ih5090 ((p + 1), κr5097, c5098, l5099, w5100, k5106, n5107) _ _ _ (by show 8 - ((p + 1)) < 8 - p; omega) ⟨(by show ((p + 1)) ≤ 8; omega), hKX, hw, hsu, htm, hMW, (by show EE C dl (c5098) (w5100) q0 pl ≤ EE C dl cn rw9 q0 pl + 2 * ((p + 1)); omega), hgb, hGN, hmo, hT, hF, hL⟩ (lv_sub hl [0, 1, 2] rfl)
theorem mX4_begin_1 : (.fieldLink RX4 9 "OneBeat$Proposal" "outcome" "I" : Cond) ∈ wsX4_begin := List.mem_of_getElem? (i := 1) (by decide +kernel)
theorem iX4_begin_4 : ∀ w ∈ wsX40, w ∈ wsX4_begin := fun w h => List.mem_of_mem_drop (List.mem_of_mem_take ((show wsX40 = (wsX4_begin.drop 3).take 8 by decide +kernel) ▸ h))
theorem mX4_begin_2 : (.fieldLink RX4 13 "OneBeat$Proposal" "firstChange" "I" : Cond) ∈ wsX4_begin := List.mem_of_getElem? (i := 2) (by decide +kernel)
set_option maxHeartbeats 4000000 in
set_option maxRecDepth 100000 in
theorem c_X4_begin {l : Launch} {D : va_G} {cs : Nat → ClassId} {B0 T : Nat} {κ : KM} {H0 : Heap} (hT : WT B0 D cs T κ H0) {w i : Nat} (hw : T2 κ w 5 i) : KC l yX4_begin wsX4_begin 0 0 0 0 D cs B0 H0 [.ref w] (Qv (fun H => WT B0 D cs T (kp κ w 1 (κ w).2.2.2) H ∧ Fr B0 [i] κ H0 H)) := by
  refine KC.of cX4_begin 1 none (by decide) rfl (Nat.le_of_ble_eq_true rfl) ?_
  intro p e s m below meth c ls hx hb hr hml hown hts hlocks hin hN hE hH0 hl
  have hown : s.vm.findClass RX4 = some m.cls := hown
  have hl : lv_has ls 1 [(0, .ref w)] := hl
  have hL : OkL B0 [] := OkL.nil
  have hF : Fr B0 [i] κ H0 H0 := Fr.rf
  refine lv_aload_n hx hb dX4_begin_0 rfl (lv_at hl 0 rfl) ?_
  refine lv_iconst (v := 3) hx hb dX4_begin_1 (by decide) ?_
  obtain ⟨hb5108, e5108, hat5108, hk5108⟩ := hT.o5 hw.1
  obtain ⟨f5108_0, f5108_1, f5108_2, f5108_3, f5108_4, f5108_5, f5108_6, f5108_7, rfl, c5108⟩ := hk5108
  have hP : va_P D vwCl [(w, .inr (4, [.int f5108_0, .int f5108_1, .int f5108_2, .int f5108_3, .int f5108_4, .int f5108_5, .int f5108_6, .int f5108_7]))] _ := va_P.cons hat5108 va_P.nil
  have hB : Bx B0 D _ [(w, .inr (4, [.int f5108_0, .int f5108_1, .int f5108_2, .int f5108_3, .int f5108_4, .int f5108_5, .int f5108_6, .int f5108_7]))] [] _ _ := Bx.of (fun a => (κ a).1) hL hP (fa_c hb5108 fa_n) (by simp only [List.map_cons, List.map_nil, hw.1]; decide)
  refine b_put (D := D) (ci := 4) (v := .int 3) (ty := .int) (C := RX4) (T := TX4) (N := 8) hx hb hts iX4_begin_4 tyX4 tyX4_ok nmX4 hown hN hB 0 rfl rfl 5 (by decide) (hts _ mX4_begin_1) (fun _ h9 => h9) rfl (by decide +kernel) rfl rfl (Nat.le_of_ble_eq_true rfl) (.inl rfl) dX4_begin_2 (fun H locs hB => ?_)
  have hB : Bx B0 D _ [(w, .inr (4, [.int f5108_0, .int f5108_1, .int f5108_2, .int f5108_3, .int f5108_4, .int 3, .int f5108_6, .int f5108_7]))] [w] _ _ := hB
  refine lv_aload_n hx hb dX4_begin_5 rfl (lv_at hl 0 rfl) ?_
  refine lv_iconst (v := (-1)) hx hb dX4_begin_6 (by decide) ?_
  refine b_put (D := D) (ci := 4) (v := .int (-1)) (ty := .int) (C := RX4) (T := TX4) (N := 8) hx hb hts iX4_begin_4 tyX4 tyX4_ok nmX4 hown hN hB 0 rfl rfl 6 (by decide) (hts _ mX4_begin_2) (fun _ h9 => h9) rfl (by decide +kernel) rfl rfl (Nat.le_of_ble_eq_true rfl) (.inr ⟨rfl, List.mem_of_getElem? (i := 0) rfl⟩) dX4_begin_7 (fun H locs hB => ?_)
  have hB : Bx B0 D _ [(w, .inr (4, [.int f5108_0, .int f5108_1, .int f5108_2, .int f5108_3, .int f5108_4, .int 3, .int (-1), .int f5108_7]))] [w] _ _ := hB
  have hF : Fr B0 [i] κ H0 _ := hF.close hB (fa_c (by simp [hw.2]) fa_n)
  have hT : WT B0 D cs T (kp κ w 1 (κ w).2.2.2) _ := hT.closeK w 1 (κ w).2.2.2 hB (by rw [hw.1]; decide) (by rw [hw.1]; decide) (List.mem_of_getElem? (i := 0) rfl) ⟨⟨0, _, rfl, kp_ok (ok_5 (k := ((κ w).1, (κ w).2.1, _, _)) hw.1 ⟨_, _, _, _, _, _, _, _, rfl, ⟨fun h9 => absurd h9 (by decide), fun h9 => absurd h9 (by decide)⟩⟩)⟩, trivial⟩
  have hL : OkL B0 _ := hB.2.2.2.2.2
  exact en_v hx hb hr hlocks hL (Nat.zero_le _) (Nat.zero_le _) dX4_begin_10 (⟨hT, hF⟩)
theorem mX4_start_1 : (.fieldLink RX4 16 "OneBeat$Proposal" "song" "I" : Cond) ∈ wsX4_start := List.mem_of_getElem? (i := 1) (by decide +kernel)
theorem iX4_start_4 : ∀ w ∈ wsX40, w ∈ wsX4_start := fun w h => List.mem_of_mem_drop (List.mem_of_mem_take ((show wsX40 = (wsX4_start.drop 8).take 8 by decide +kernel) ▸ h))
theorem mX4_start_2 : (.fieldLink RX4 19 "OneBeat$Proposal" "beat" "I" : Cond) ∈ wsX4_start := List.mem_of_getElem? (i := 2) (by decide +kernel)
theorem mX4_start_3 : (.fieldLink RX4 22 "OneBeat$Proposal" "deadline" "I" : Cond) ∈ wsX4_start := List.mem_of_getElem? (i := 3) (by decide +kernel)
theorem mX4_start_4 : (.fieldLink RX4 25 "OneBeat$Proposal" "sender" "I" : Cond) ∈ wsX4_start := List.mem_of_getElem? (i := 4) (by decide +kernel)
theorem mX4_start_5 : (.fieldLink RX4 28 "OneBeat$Proposal" "votes" "I" : Cond) ∈ wsX4_start := List.mem_of_getElem? (i := 5) (by decide +kernel)
theorem mX4_start_6 : (.fieldLink RX4 9 "OneBeat$Proposal" "outcome" "I" : Cond) ∈ wsX4_start := List.mem_of_getElem? (i := 6) (by decide +kernel)
theorem mX4_start_7 : (.fieldLink RX4 13 "OneBeat$Proposal" "firstChange" "I" : Cond) ∈ wsX4_start := List.mem_of_getElem? (i := 7) (by decide +kernel)
set_option maxHeartbeats 4000000 in
set_option maxRecDepth 100000 in
theorem c_X4_start {l : Launch} {D : va_G} {cs : Nat → ClassId} {B0 T : Nat} {κ : KM} {H0 : Heap} (hT : WT B0 D cs T κ H0) {w i : Nat} (hw : T2 κ w 5 i) {x : Int32} {y : Int32} {z : Int32} {u : Int32} : KC l yX4_start wsX4_start 0 0 0 0 D cs B0 H0 [.ref w, .int x, .int y, .int z, .int u] (Qv (fun H => WT B0 D cs T (kp κ w 0 (κ w).2.2.2) H ∧ Fr B0 [i] κ H0 H)) := by
  refine KC.of cX4_start 5 none (by decide) rfl (Nat.le_of_ble_eq_true rfl) ?_
  intro p e s m below meth c ls hx hb hr hml hown hts hlocks hin hN hE hH0 hl
  have hown : s.vm.findClass RX4 = some m.cls := hown
  have hl : lv_has ls 5 [(0, .ref w), (1, .int x), (2, .int y), (3, .int z), (4, .int u)] := hl
  have hL : OkL B0 [] := OkL.nil
  have hF : Fr B0 [i] κ H0 H0 := Fr.rf
  refine lv_aload_n hx hb dX4_start_0 rfl (lv_at hl 0 rfl) ?_
  refine lv_iload_n hx hb dX4_start_1 rfl (lv_at hl 1 rfl) ?_
  obtain ⟨hb5109, e5109, hat5109, hk5109⟩ := hT.o5 hw.1
  obtain ⟨f5109_0, f5109_1, f5109_2, f5109_3, f5109_4, f5109_5, f5109_6, f5109_7, rfl, c5109⟩ := hk5109
  have hP : va_P D vwCl [(w, .inr (4, [.int f5109_0, .int f5109_1, .int f5109_2, .int f5109_3, .int f5109_4, .int f5109_5, .int f5109_6, .int f5109_7]))] _ := va_P.cons hat5109 va_P.nil
  have hB : Bx B0 D _ [(w, .inr (4, [.int f5109_0, .int f5109_1, .int f5109_2, .int f5109_3, .int f5109_4, .int f5109_5, .int f5109_6, .int f5109_7]))] [] _ _ := Bx.of (fun a => (κ a).1) hL hP (fa_c hb5109 fa_n) (by simp only [List.map_cons, List.map_nil, hw.1]; decide)
  refine b_put (D := D) (ci := 4) (v := .int x) (ty := .int) (C := RX4) (T := TX4) (N := 8) hx hb hts iX4_start_4 tyX4 tyX4_ok nmX4 hown hN hB 0 rfl rfl 0 (by decide) (hts _ mX4_start_1) (fun _ h9 => h9) rfl (by decide +kernel) rfl rfl (Nat.le_of_ble_eq_true rfl) (.inl rfl) dX4_start_2 (fun H locs hB => ?_)
  have hB : Bx B0 D _ [(w, .inr (4, [.int x, .int f5109_1, .int f5109_2, .int f5109_3, .int f5109_4, .int f5109_5, .int f5109_6, .int f5109_7]))] [w] _ _ := hB
  refine lv_aload_n hx hb dX4_start_5 rfl (lv_at hl 0 rfl) ?_
  refine lv_iload_n hx hb dX4_start_6 rfl (lv_at hl 2 rfl) ?_
  refine b_put (D := D) (ci := 4) (v := .int y) (ty := .int) (C := RX4) (T := TX4) (N := 8) hx hb hts iX4_start_4 tyX4 tyX4_ok nmX4 hown hN hB 0 rfl rfl 1 (by decide) (hts _ mX4_start_2) (fun _ h9 => h9) rfl (by decide +kernel) rfl rfl (Nat.le_of_ble_eq_true rfl) (.inr ⟨rfl, List.mem_of_getElem? (i := 0) rfl⟩) dX4_start_7 (fun H locs hB => ?_)
  have hB : Bx B0 D _ [(w, .inr (4, [.int x, .int y, .int f5109_2, .int f5109_3, .int f5109_4, .int f5109_5, .int f5109_6, .int f5109_7]))] [w] _ _ := hB
  refine lv_aload_n hx hb dX4_start_10 rfl (lv_at hl 0 rfl) ?_
  refine lv_iload_n hx hb dX4_start_11 rfl (lv_at hl 3 rfl) ?_
  refine b_put (D := D) (ci := 4) (v := .int z) (ty := .int) (C := RX4) (T := TX4) (N := 8) hx hb hts iX4_start_4 tyX4 tyX4_ok nmX4 hown hN hB 0 rfl rfl 2 (by decide) (hts _ mX4_start_3) (fun _ h9 => h9) rfl (by decide +kernel) rfl rfl (Nat.le_of_ble_eq_true rfl) (.inr ⟨rfl, List.mem_of_getElem? (i := 0) rfl⟩) dX4_start_12 (fun H locs hB => ?_)
  have hB : Bx B0 D _ [(w, .inr (4, [.int x, .int y, .int z, .int f5109_3, .int f5109_4, .int f5109_5, .int f5109_6, .int f5109_7]))] [w] _ _ := hB
  refine lv_aload_n hx hb dX4_start_15 rfl (lv_at hl 0 rfl) ?_
  refine lv_iload hx hb dX4_start_16 (lv_at hl 4 rfl) ?_
  refine b_put (D := D) (ci := 4) (v := .int u) (ty := .int) (C := RX4) (T := TX4) (N := 8) hx hb hts iX4_start_4 tyX4 tyX4_ok nmX4 hown hN hB 0 rfl rfl 3 (by decide) (hts _ mX4_start_4) (fun _ h9 => h9) rfl (by decide +kernel) rfl rfl (Nat.le_of_ble_eq_true rfl) (.inr ⟨rfl, List.mem_of_getElem? (i := 0) rfl⟩) dX4_start_18 (fun H locs hB => ?_)
  have hB : Bx B0 D _ [(w, .inr (4, [.int x, .int y, .int z, .int u, .int f5109_4, .int f5109_5, .int f5109_6, .int f5109_7]))] [w] _ _ := hB
  refine lv_aload_n hx hb dX4_start_21 rfl (lv_at hl 0 rfl) ?_
  refine lv_iconst (v := 1) hx hb dX4_start_22 (by decide) ?_
  refine b_put (D := D) (ci := 4) (v := .int 1) (ty := .int) (C := RX4) (T := TX4) (N := 8) hx hb hts iX4_start_4 tyX4 tyX4_ok nmX4 hown hN hB 0 rfl rfl 4 (by decide) (hts _ mX4_start_5) (fun _ h9 => h9) rfl (by decide +kernel) rfl rfl (Nat.le_of_ble_eq_true rfl) (.inr ⟨rfl, List.mem_of_getElem? (i := 0) rfl⟩) dX4_start_23 (fun H locs hB => ?_)
  have hB : Bx B0 D _ [(w, .inr (4, [.int x, .int y, .int z, .int u, .int 1, .int f5109_5, .int f5109_6, .int f5109_7]))] [w] _ _ := hB
  refine lv_aload_n hx hb dX4_start_26 rfl (lv_at hl 0 rfl) ?_
  refine lv_iconst (v := 0) hx hb dX4_start_27 (by decide) ?_
  refine b_put (D := D) (ci := 4) (v := .int 0) (ty := .int) (C := RX4) (T := TX4) (N := 8) hx hb hts iX4_start_4 tyX4 tyX4_ok nmX4 hown hN hB 0 rfl rfl 5 (by decide) (hts _ mX4_start_6) (fun _ h9 => h9) rfl (by decide +kernel) rfl rfl (Nat.le_of_ble_eq_true rfl) (.inr ⟨rfl, List.mem_of_getElem? (i := 0) rfl⟩) dX4_start_28 (fun H locs hB => ?_)
  have hB : Bx B0 D _ [(w, .inr (4, [.int x, .int y, .int z, .int u, .int 1, .int 0, .int f5109_6, .int f5109_7]))] [w] _ _ := hB
  refine lv_aload_n hx hb dX4_start_31 rfl (lv_at hl 0 rfl) ?_
  refine lv_iconst (v := (-1)) hx hb dX4_start_32 (by decide) ?_
  refine b_put (D := D) (ci := 4) (v := .int (-1)) (ty := .int) (C := RX4) (T := TX4) (N := 8) hx hb hts iX4_start_4 tyX4 tyX4_ok nmX4 hown hN hB 0 rfl rfl 6 (by decide) (hts _ mX4_start_7) (fun _ h9 => h9) rfl (by decide +kernel) rfl rfl (Nat.le_of_ble_eq_true rfl) (.inr ⟨rfl, List.mem_of_getElem? (i := 0) rfl⟩) dX4_start_33 (fun H locs hB => ?_)
  have hB : Bx B0 D _ [(w, .inr (4, [.int x, .int y, .int z, .int u, .int 1, .int 0, .int (-1), .int f5109_7]))] [w] _ _ := hB
  have hF : Fr B0 [i] κ H0 _ := hF.close hB (fa_c (by simp [hw.2]) fa_n)
  have hT : WT B0 D cs T (kp κ w 0 (κ w).2.2.2) _ := hT.closeK w 0 (κ w).2.2.2 hB (by rw [hw.1]; decide) (by rw [hw.1]; decide) (List.mem_of_getElem? (i := 0) rfl) ⟨⟨0, _, rfl, kp_ok (ok_5 (k := ((κ w).1, (κ w).2.1, _, _)) hw.1 ⟨_, _, _, _, _, _, _, _, rfl, ⟨fun _ => rfl, fun _ => rfl⟩⟩)⟩, trivial⟩
  have hL : OkL B0 _ := hB.2.2.2.2.2
  exact en_v hx hb hr hlocks hL (Nat.zero_le _) (Nat.zero_le _) dX4_start_36 (⟨hT, hF⟩)
theorem mX4_copyFrom_1 : (.fieldLink RX4 16 "OneBeat$Proposal" "song" "I" : Cond) ∈ wsX4_copyFrom := List.mem_of_getElem? (i := 1) (by decide +kernel)
theorem iX4_copyFrom_4 : ∀ w ∈ wsX40, w ∈ wsX4_copyFrom := fun w h => List.mem_of_mem_drop (List.mem_of_mem_take ((show wsX40 = (wsX4_copyFrom.drop 9).take 8 by decide +kernel) ▸ h))
theorem mX4_copyFrom_2 : (.fieldLink RX4 19 "OneBeat$Proposal" "beat" "I" : Cond) ∈ wsX4_copyFrom := List.mem_of_getElem? (i := 2) (by decide +kernel)
theorem mX4_copyFrom_3 : (.fieldLink RX4 22 "OneBeat$Proposal" "deadline" "I" : Cond) ∈ wsX4_copyFrom := List.mem_of_getElem? (i := 3) (by decide +kernel)
theorem mX4_copyFrom_4 : (.fieldLink RX4 25 "OneBeat$Proposal" "sender" "I" : Cond) ∈ wsX4_copyFrom := List.mem_of_getElem? (i := 4) (by decide +kernel)
theorem mX4_copyFrom_5 : (.fieldLink RX4 28 "OneBeat$Proposal" "votes" "I" : Cond) ∈ wsX4_copyFrom := List.mem_of_getElem? (i := 5) (by decide +kernel)
theorem mX4_copyFrom_6 : (.fieldLink RX4 9 "OneBeat$Proposal" "outcome" "I" : Cond) ∈ wsX4_copyFrom := List.mem_of_getElem? (i := 6) (by decide +kernel)
theorem mX4_copyFrom_7 : (.fieldLink RX4 13 "OneBeat$Proposal" "firstChange" "I" : Cond) ∈ wsX4_copyFrom := List.mem_of_getElem? (i := 7) (by decide +kernel)
theorem mX4_copyFrom_8 : (.fieldLink RX4 31 "OneBeat$Proposal" "lastChange" "I" : Cond) ∈ wsX4_copyFrom := List.mem_of_getElem? (i := 8) (by decide +kernel)
set_option maxHeartbeats 4000000 in
set_option maxRecDepth 100000 in
theorem c_X4_copyFrom {l : Launch} {D : va_G} {cs : Nat → ClassId} {B0 T : Nat} {κ : KM} {H0 : Heap} (hT : WT B0 D cs T κ H0) {w v i j : Nat} (hw : T2 κ w 5 i) (hv : T2 κ v 5 j) (hij : i ≠ j) : KC l yX4_copyFrom wsX4_copyFrom 0 0 0 0 D cs B0 H0 [.ref w, .ref v] (Qv (fun H => WT B0 D cs T (kp κ w (κ v).2.2.1 (κ w).2.2.2) H ∧ Fr B0 [i] κ H0 H)) := by
  refine KC.of cX4_copyFrom 2 none (by decide) rfl (Nat.le_of_ble_eq_true rfl) ?_
  intro p e s m below meth c ls hx hb hr hml hown hts hlocks hin hN hE hH0 hl
  have hown : s.vm.findClass RX4 = some m.cls := hown
  have hl : lv_has ls 2 [(0, .ref w), (1, .ref v)] := hl
  have hL : OkL B0 [] := OkL.nil
  have hF : Fr B0 [i] κ H0 H0 := Fr.rf
  refine lv_aload_n hx hb dX4_copyFrom_0 rfl (lv_at hl 0 rfl) ?_
  refine lv_aload_n hx hb dX4_copyFrom_1 rfl (lv_at hl 1 rfl) ?_
  obtain ⟨hb5110, e5110, hat5110, hk5110⟩ := hT.o5 hv.1
  obtain ⟨f5110_0, f5110_1, f5110_2, f5110_3, f5110_4, f5110_5, f5110_6, f5110_7, rfl, c5110⟩ := hk5110
  have hP : va_P D vwCl [(v, .inr (4, [.int f5110_0, .int f5110_1, .int f5110_2, .int f5110_3, .int f5110_4, .int f5110_5, .int f5110_6, .int f5110_7]))] _ := va_P.cons hat5110 va_P.nil
  refine va_get (D := D) (ci := 4) (v := .int f5110_0) (C := RX4) (T := TX4) (N := 8) hx hb hts iX4_copyFrom_4 hown hN.1 hP 0 rfl rfl 0 (by decide) (hts _ mX4_copyFrom_1) (fun _ h9 => h9) rfl dX4_copyFrom_2 ?_
  obtain ⟨hb5111, e5111, hat5111, hk5111⟩ := hT.o5 hw.1
  obtain ⟨f5111_0, f5111_1, f5111_2, f5111_3, f5111_4, f5111_5, f5111_6, f5111_7, rfl, c5111⟩ := hk5111
  have hP : va_P D vwCl [(w, .inr (4, [.int f5111_0, .int f5111_1, .int f5111_2, .int f5111_3, .int f5111_4, .int f5111_5, .int f5111_6, .int f5111_7])), (v, .inr (4, [.int f5110_0, .int f5110_1, .int f5110_2, .int f5110_3, .int f5110_4, .int f5110_5, .int f5110_6, .int f5110_7]))] _ := va_P.cons hat5111 hP
  have hB : Bx B0 D _ [(w, .inr (4, [.int f5111_0, .int f5111_1, .int f5111_2, .int f5111_3, .int f5111_4, .int f5111_5, .int f5111_6, .int f5111_7])), (v, .inr (4, [.int f5110_0, .int f5110_1, .int f5110_2, .int f5110_3, .int f5110_4, .int f5110_5, .int f5110_6, .int f5110_7]))] [] _ _ := Bx.of (fun a => (κ a).2.1) hL hP (fa_c hb5111 (fa_c hb5110 fa_n)) (by simp only [List.map_cons, List.map_nil, hw.1, hw.2, hv.1, hv.2]; simp; omega)
  refine b_put (D := D) (ci := 4) (v := .int f5110_0) (ty := .int) (C := RX4) (T := TX4) (N := 8) hx hb hts iX4_copyFrom_4 tyX4 tyX4_ok nmX4 hown hN hB 0 rfl rfl 0 (by decide) (hts _ mX4_copyFrom_1) (fun _ h9 => h9) rfl (by decide +kernel) rfl rfl (Nat.le_of_ble_eq_true rfl) (.inl rfl) dX4_copyFrom_5 (fun H locs hB => ?_)
  have hB : Bx B0 D _ [(w, .inr (4, [.int f5110_0, .int f5111_1, .int f5111_2, .int f5111_3, .int f5111_4, .int f5111_5, .int f5111_6, .int f5111_7])), (v, .inr (4, [.int f5110_0, .int f5110_1, .int f5110_2, .int f5110_3, .int f5110_4, .int f5110_5, .int f5110_6, .int f5110_7]))] [w] _ _ := hB
  refine lv_aload_n hx hb dX4_copyFrom_8 rfl (lv_at hl 0 rfl) ?_
  refine lv_aload_n hx hb dX4_copyFrom_9 rfl (lv_at hl 1 rfl) ?_
  refine va_get (D := D) (ci := 4) (v := .int f5110_1) (C := RX4) (T := TX4) (N := 8) hx hb hts iX4_copyFrom_4 hown hN.1 hB.1 1 rfl rfl 1 (by decide) (hts _ mX4_copyFrom_2) (fun _ h9 => h9) rfl dX4_copyFrom_10 ?_
  refine b_put (D := D) (ci := 4) (v := .int f5110_1) (ty := .int) (C := RX4) (T := TX4) (N := 8) hx hb hts iX4_copyFrom_4 tyX4 tyX4_ok nmX4 hown hN hB 0 rfl rfl 1 (by decide) (hts _ mX4_copyFrom_2) (fun _ h9 => h9) rfl (by decide +kernel) rfl rfl (Nat.le_of_ble_eq_true rfl) (.inr ⟨rfl, List.mem_of_getElem? (i := 0) rfl⟩) dX4_copyFrom_13 (fun H locs hB => ?_)
  have hB : Bx B0 D _ [(w, .inr (4, [.int f5110_0, .int f5110_1, .int f5111_2, .int f5111_3, .int f5111_4, .int f5111_5, .int f5111_6, .int f5111_7])), (v, .inr (4, [.int f5110_0, .int f5110_1, .int f5110_2, .int f5110_3, .int f5110_4, .int f5110_5, .int f5110_6, .int f5110_7]))] [w] _ _ := hB
  refine lv_aload_n hx hb dX4_copyFrom_16 rfl (lv_at hl 0 rfl) ?_
  refine lv_aload_n hx hb dX4_copyFrom_17 rfl (lv_at hl 1 rfl) ?_
  refine va_get (D := D) (ci := 4) (v := .int f5110_2) (C := RX4) (T := TX4) (N := 8) hx hb hts iX4_copyFrom_4 hown hN.1 hB.1 1 rfl rfl 2 (by decide) (hts _ mX4_copyFrom_3) (fun _ h9 => h9) rfl dX4_copyFrom_18 ?_
  refine b_put (D := D) (ci := 4) (v := .int f5110_2) (ty := .int) (C := RX4) (T := TX4) (N := 8) hx hb hts iX4_copyFrom_4 tyX4 tyX4_ok nmX4 hown hN hB 0 rfl rfl 2 (by decide) (hts _ mX4_copyFrom_3) (fun _ h9 => h9) rfl (by decide +kernel) rfl rfl (Nat.le_of_ble_eq_true rfl) (.inr ⟨rfl, List.mem_of_getElem? (i := 0) rfl⟩) dX4_copyFrom_21 (fun H locs hB => ?_)
  have hB : Bx B0 D _ [(w, .inr (4, [.int f5110_0, .int f5110_1, .int f5110_2, .int f5111_3, .int f5111_4, .int f5111_5, .int f5111_6, .int f5111_7])), (v, .inr (4, [.int f5110_0, .int f5110_1, .int f5110_2, .int f5110_3, .int f5110_4, .int f5110_5, .int f5110_6, .int f5110_7]))] [w] _ _ := hB
  refine lv_aload_n hx hb dX4_copyFrom_24 rfl (lv_at hl 0 rfl) ?_
  refine lv_aload_n hx hb dX4_copyFrom_25 rfl (lv_at hl 1 rfl) ?_
  refine va_get (D := D) (ci := 4) (v := .int f5110_3) (C := RX4) (T := TX4) (N := 8) hx hb hts iX4_copyFrom_4 hown hN.1 hB.1 1 rfl rfl 3 (by decide) (hts _ mX4_copyFrom_4) (fun _ h9 => h9) rfl dX4_copyFrom_26 ?_
  refine b_put (D := D) (ci := 4) (v := .int f5110_3) (ty := .int) (C := RX4) (T := TX4) (N := 8) hx hb hts iX4_copyFrom_4 tyX4 tyX4_ok nmX4 hown hN hB 0 rfl rfl 3 (by decide) (hts _ mX4_copyFrom_4) (fun _ h9 => h9) rfl (by decide +kernel) rfl rfl (Nat.le_of_ble_eq_true rfl) (.inr ⟨rfl, List.mem_of_getElem? (i := 0) rfl⟩) dX4_copyFrom_29 (fun H locs hB => ?_)
  have hB : Bx B0 D _ [(w, .inr (4, [.int f5110_0, .int f5110_1, .int f5110_2, .int f5110_3, .int f5111_4, .int f5111_5, .int f5111_6, .int f5111_7])), (v, .inr (4, [.int f5110_0, .int f5110_1, .int f5110_2, .int f5110_3, .int f5110_4, .int f5110_5, .int f5110_6, .int f5110_7]))] [w] _ _ := hB
  refine lv_aload_n hx hb dX4_copyFrom_32 rfl (lv_at hl 0 rfl) ?_
  refine lv_aload_n hx hb dX4_copyFrom_33 rfl (lv_at hl 1 rfl) ?_
  refine va_get (D := D) (ci := 4) (v := .int f5110_4) (C := RX4) (T := TX4) (N := 8) hx hb hts iX4_copyFrom_4 hown hN.1 hB.1 1 rfl rfl 4 (by decide) (hts _ mX4_copyFrom_5) (fun _ h9 => h9) rfl dX4_copyFrom_34 ?_
  refine b_put (D := D) (ci := 4) (v := .int f5110_4) (ty := .int) (C := RX4) (T := TX4) (N := 8) hx hb hts iX4_copyFrom_4 tyX4 tyX4_ok nmX4 hown hN hB 0 rfl rfl 4 (by decide) (hts _ mX4_copyFrom_5) (fun _ h9 => h9) rfl (by decide +kernel) rfl rfl (Nat.le_of_ble_eq_true rfl) (.inr ⟨rfl, List.mem_of_getElem? (i := 0) rfl⟩) dX4_copyFrom_37 (fun H locs hB => ?_)
  have hB : Bx B0 D _ [(w, .inr (4, [.int f5110_0, .int f5110_1, .int f5110_2, .int f5110_3, .int f5110_4, .int f5111_5, .int f5111_6, .int f5111_7])), (v, .inr (4, [.int f5110_0, .int f5110_1, .int f5110_2, .int f5110_3, .int f5110_4, .int f5110_5, .int f5110_6, .int f5110_7]))] [w] _ _ := hB
  refine lv_aload_n hx hb dX4_copyFrom_40 rfl (lv_at hl 0 rfl) ?_
  refine lv_aload_n hx hb dX4_copyFrom_41 rfl (lv_at hl 1 rfl) ?_
  refine va_get (D := D) (ci := 4) (v := .int f5110_5) (C := RX4) (T := TX4) (N := 8) hx hb hts iX4_copyFrom_4 hown hN.1 hB.1 1 rfl rfl 5 (by decide) (hts _ mX4_copyFrom_6) (fun _ h9 => h9) rfl dX4_copyFrom_42 ?_
  refine b_put (D := D) (ci := 4) (v := .int f5110_5) (ty := .int) (C := RX4) (T := TX4) (N := 8) hx hb hts iX4_copyFrom_4 tyX4 tyX4_ok nmX4 hown hN hB 0 rfl rfl 5 (by decide) (hts _ mX4_copyFrom_6) (fun _ h9 => h9) rfl (by decide +kernel) rfl rfl (Nat.le_of_ble_eq_true rfl) (.inr ⟨rfl, List.mem_of_getElem? (i := 0) rfl⟩) dX4_copyFrom_45 (fun H locs hB => ?_)
  have hB : Bx B0 D _ [(w, .inr (4, [.int f5110_0, .int f5110_1, .int f5110_2, .int f5110_3, .int f5110_4, .int f5110_5, .int f5111_6, .int f5111_7])), (v, .inr (4, [.int f5110_0, .int f5110_1, .int f5110_2, .int f5110_3, .int f5110_4, .int f5110_5, .int f5110_6, .int f5110_7]))] [w] _ _ := hB
  refine lv_aload_n hx hb dX4_copyFrom_48 rfl (lv_at hl 0 rfl) ?_
  refine lv_aload_n hx hb dX4_copyFrom_49 rfl (lv_at hl 1 rfl) ?_
  refine va_get (D := D) (ci := 4) (v := .int f5110_6) (C := RX4) (T := TX4) (N := 8) hx hb hts iX4_copyFrom_4 hown hN.1 hB.1 1 rfl rfl 6 (by decide) (hts _ mX4_copyFrom_7) (fun _ h9 => h9) rfl dX4_copyFrom_50 ?_
  refine b_put (D := D) (ci := 4) (v := .int f5110_6) (ty := .int) (C := RX4) (T := TX4) (N := 8) hx hb hts iX4_copyFrom_4 tyX4 tyX4_ok nmX4 hown hN hB 0 rfl rfl 6 (by decide) (hts _ mX4_copyFrom_7) (fun _ h9 => h9) rfl (by decide +kernel) rfl rfl (Nat.le_of_ble_eq_true rfl) (.inr ⟨rfl, List.mem_of_getElem? (i := 0) rfl⟩) dX4_copyFrom_53 (fun H locs hB => ?_)
  have hB : Bx B0 D _ [(w, .inr (4, [.int f5110_0, .int f5110_1, .int f5110_2, .int f5110_3, .int f5110_4, .int f5110_5, .int f5110_6, .int f5111_7])), (v, .inr (4, [.int f5110_0, .int f5110_1, .int f5110_2, .int f5110_3, .int f5110_4, .int f5110_5, .int f5110_6, .int f5110_7]))] [w] _ _ := hB
  refine lv_aload_n hx hb dX4_copyFrom_56 rfl (lv_at hl 0 rfl) ?_
  refine lv_aload_n hx hb dX4_copyFrom_57 rfl (lv_at hl 1 rfl) ?_
  refine va_get (D := D) (ci := 4) (v := .int f5110_7) (C := RX4) (T := TX4) (N := 8) hx hb hts iX4_copyFrom_4 hown hN.1 hB.1 1 rfl rfl 7 (by decide) (hts _ mX4_copyFrom_8) (fun _ h9 => h9) rfl dX4_copyFrom_58 ?_
  refine b_put (D := D) (ci := 4) (v := .int f5110_7) (ty := .int) (C := RX4) (T := TX4) (N := 8) hx hb hts iX4_copyFrom_4 tyX4 tyX4_ok nmX4 hown hN hB 0 rfl rfl 7 (by decide) (hts _ mX4_copyFrom_8) (fun _ h9 => h9) rfl (by decide +kernel) rfl rfl (Nat.le_of_ble_eq_true rfl) (.inr ⟨rfl, List.mem_of_getElem? (i := 0) rfl⟩) dX4_copyFrom_61 (fun H locs hB => ?_)
  have hB : Bx B0 D _ [(w, .inr (4, [.int f5110_0, .int f5110_1, .int f5110_2, .int f5110_3, .int f5110_4, .int f5110_5, .int f5110_6, .int f5110_7])), (v, .inr (4, [.int f5110_0, .int f5110_1, .int f5110_2, .int f5110_3, .int f5110_4, .int f5110_5, .int f5110_6, .int f5110_7]))] [w] _ _ := hB
  have hF : Fr B0 [i] κ H0 _ := hF.close hB (fa_c (by simp [hw.2]) fa_n)
  have hT : WT B0 D cs T (kp κ w (κ v).2.2.1 (κ w).2.2.2) _ := hT.closeK w (κ v).2.2.1 (κ w).2.2.2 hB (by rw [hw.1]; decide) (by rw [hw.1]; decide) (List.mem_of_getElem? (i := 0) rfl) ⟨⟨0, _, rfl, kp_ok (ok_5 (k := ((κ w).1, (κ w).2.1, _, _)) hw.1 ⟨_, _, _, _, _, _, _, _, rfl, c5110⟩)⟩, trivial⟩
  have hL : OkL B0 _ := hB.2.2.2.2.2
  exact en_v hx hb hr hlocks hL (Nat.zero_le _) (Nat.zero_le _) dX4_copyFrom_64 (⟨hT, hF⟩)
theorem mX7_commitIfVoted_1 : (.fieldLink RX7 27 "OneBeat$World" "latest" "LOneBeat$Proposal;" : Cond) ∈ wsX7_commitIfVoted := List.mem_of_getElem? (i := 1) (by decide +kernel)
theorem iX7_commitIfVoted_7 : ∀ w ∈ wsX70, w ∈ wsX7_commitIfVoted := fun w h => List.mem_of_mem_drop (List.mem_of_mem_take ((show wsX70 = (wsX7_commitIfVoted.drop 65).take 16 by decide +kernel) ▸ h))
theorem iX7_commitIfVoted_4 : ∀ w ∈ wsX40, w ∈ wsX7_commitIfVoted := fun w h => List.mem_of_mem_drop (List.mem_of_mem_take ((show wsX40 = (wsX7_commitIfVoted.drop 81).take 8 by decide +kernel) ▸ h))
theorem mX7_commitIfVoted_2 : (.fieldLink RX7 52 "OneBeat$World" "setup" "LOneBeat$Setup;" : Cond) ∈ wsX7_commitIfVoted := List.mem_of_getElem? (i := 2) (by decide +kernel)
theorem iX7_commitIfVoted_6 : ∀ w ∈ wsX60, w ∈ wsX7_commitIfVoted := fun w h => List.mem_of_mem_drop (List.mem_of_mem_take ((show wsX60 = (wsX7_commitIfVoted.drop 89).take 8 by decide +kernel) ▸ h))
theorem mX7_commitIfVoted_3 : (.fieldLink RX7 80 "OneBeat$World" "committed" "I" : Cond) ∈ wsX7_commitIfVoted := List.mem_of_getElem? (i := 3) (by decide +kernel)
theorem mX7_commitIfVoted_4 : (.fieldLink RX7 77 "OneBeat$World" "made" "I" : Cond) ∈ wsX7_commitIfVoted := List.mem_of_getElem? (i := 4) (by decide +kernel)
theorem hdX3_takePlan_v : yX3_takePlan.cls = RX3 ∧ yX3_takePlan.cls ≠ "java/lang/invoke/MethodHandle" ∧ yX3_takePlan.cls ≠ "java/lang/invoke/VarHandle" ∧ (parseMethodDescriptor yX3_takePlan.desc).map (fun d => d.parameters.length) = some 4 := by decide +kernel
theorem hdX7_sendToOthers_v : yX7_sendToOthers.cls = RX7 ∧ yX7_sendToOthers.cls ≠ "java/lang/invoke/MethodHandle" ∧ yX7_sendToOthers.cls ≠ "java/lang/invoke/VarHandle" ∧ (parseMethodDescriptor yX7_sendToOthers.desc).map (fun d => d.parameters.length) = some 1 := by decide +kernel
set_option maxHeartbeats 4000000 in
set_option maxRecDepth 100000 in
theorem c_X7_commitIfVoted {l : Launch} {D : va_G} {cs : Nat → ClassId} {B0 T : Nat} {κ : KM} {H0 : Heap} (hT : WT B0 D cs T κ H0) {w i : Nat} (hw : T2 κ w 8 i) {C cn ln : Nat → Nat} {rw9 : Nat → Nat → Int32} {dl : Nat → Int32} {su tm : Nat} (hsu : (κ w).2.2.1 = su) (htm : (κ w).2.2.2 = tm) (hMW : MW D cs H0 i su tm C cn ln rw9 dl) {q0 pl b : Nat} (hb : EO C dl cn rw9 q0 pl (κ (cs (420 + i))).2.2.1 ≤ b) (hb24 : b ≤ 24) : KC l yX7_commitIfVoted wsX7_commitIfVoted 4 135 ((56 * sumN C 16 + 22407 - 2 * sumN ln 16) / 35) (56 * sumN C 16 + 22407 - 2 * sumN ln 16) D cs B0 H0 [.ref w] (Qv (fun H => ∃ κ1, KU i κ κ1 ∧ WT B0 D cs T κ1 H ∧ Fr B0 [i, i + 20] κ H0 H ∧ ∃ cn1 ln1 rw1 k n, MW D cs H i su tm C cn1 ln1 rw1 dl ∧ GP H0 H ln ln1 k n ∧ κ1 w = κ w ∧ EO C dl cn1 rw1 q0 pl (κ1 (cs (420 + i))).2.2.1 ≤ b ∧ ∀ q, q < 16 → cn q ≤ cn1 q)) := by
  refine KC.of cX7_commitIfVoted 1 none (by decide) rfl (Nat.le_of_ble_eq_true rfl) ?_
  intro p e s m below meth c ls hx hb hr hml hown hts hlocks hin hN hE hH0 hl
  have hown : s.vm.findClass RX7 = some m.cls := hown
  have hl : lv_has ls 1 [(0, .ref w)] := hl
  have hL : OkL B0 [] := OkL.nil
  have hF : Fr B0 [i, i + 20] κ H0 H0 := Fr.rf
  obtain ⟨hml, hpr, hli, -, hi10⟩ := hT.ml hw
  have ht16 := hMW.2.2.2
  have hGN : GN ln ln 0 0 := GN.rf
  have hs0 := hMW.2.2.1.sum
  refine lv_aload_n hx hb dX7_commitIfVoted_0 rfl (lv_at hl 0 rfl) ?_
  obtain ⟨hb5112, e5112, hat5112, hk5112⟩ := hT.o8 hw.1
  obtain ⟨f5112_0, f5112_1, f5112_2, f5112_3, f5112_4, f5112_5, f5112_6, f5112_7, f5112_8, f5112_9, f5112_10, f5112_11, f5112_12, f5112_13, f5112_14, f5112_15, rfl, t5112_0, c5112_su, t5112_1, t5112_2, t5112_3, t5112_4, t5112_5, c5112_tm, c5112_lt, c5112_ml, c5112_pr, c5112_li⟩ := hk5112
  rw [hw.2] at t5112_1
  rw [hw.2] at t5112_2
  rw [hw.2] at t5112_3
  rw [hw.2] at t5112_4
  rw [hw.2] at t5112_5
  rw [hw.2] at c5112_lt c5112_ml c5112_pr c5112_li
  subst c5112_ml
  subst c5112_pr
  subst c5112_li
  have esu5112 := (c5112_su.trans hsu).symm
  subst esu5112
  have ctm5112 : f5112_7 &&& 15 = nI tm := by rw [c5112_tm, htm]
  have hP : va_P D vwCl [(w, .inr (7, [.ref su, .ref f5112_1, .ref (cs (400 + i)), .ref (cs (420 + i)), .ref (cs (460 + i)), .ref f5112_5, .long f5112_6, .int f5112_7, .int f5112_8, .int f5112_9, .int f5112_10, .int f5112_11, .int f5112_12, .int f5112_13, .int f5112_14, .int f5112_15]))] _ := va_P.cons hat5112 va_P.nil
  refine va_get (D := D) (ci := 7) (v := .ref (cs (420 + i))) (C := RX7) (T := TX7) (N := 16) hx hb hts iX7_commitIfVoted_7 hown hN.1 hP 0 rfl rfl 3 (by decide) (hts _ mX7_commitIfVoted_1) (fun _ h9 => h9) rfl dX7_commitIfVoted_1 ?_
  obtain ⟨hb5113, e5113, hat5113, hk5113⟩ := hT.o5 t5112_3.1
  obtain ⟨f5113_0, f5113_1, f5113_2, f5113_3, f5113_4, f5113_5, f5113_6, f5113_7, rfl, c5113⟩ := hk5113
  have hP : va_P D vwCl [((cs (420 + i)), .inr (4, [.int f5113_0, .int f5113_1, .int f5113_2, .int f5113_3, .int f5113_4, .int f5113_5, .int f5113_6, .int f5113_7])), (w, .inr (7, [.ref su, .ref f5112_1, .ref (cs (400 + i)), .ref (cs (420 + i)), .ref (cs (460 + i)), .ref f5112_5, .long f5112_6, .int f5112_7, .int f5112_8, .int f5112_9, .int f5112_10, .int f5112_11, .int f5112_12, .int f5112_13, .int f5112_14, .int f5112_15]))] _ := va_P.cons hat5113 hP
  refine va_getN (D := D) (ci := 4) (v := .int f5113_5) (C := RX4) (T := TX4) (N := 8) hx hb hts iX7_commitIfVoted_4 hown hN.1 hP 0 rfl rfl 5 (by decide) (hN.f 12 rfl) (fun _ h9 => h9) rfl dX7_commitIfVoted_4 ?_
  refine lv_if_ne (tgt := 27) hx hb dX7_commitIfVoted_7 (by decide) (fun c5114 => ?_) (fun c5114 => ?_)
  · refine W.know (fun hg => ?_)
    rw [hH0] at hg
    exact en_v hx hb hr hlocks hL (Nat.zero_le _) (Nat.zero_le _) dX7_commitIfVoted_27 (⟨κ, KU.rf, hT, hF, cn, ln, rw9, 0, 0, hMW, ⟨hg, GN.rf⟩, rfl, hb, fun _ _ => Nat.le_refl _⟩)
  · have hop : (κ (cs (420 + i))).2.2.1 = 0 := c5113.mp c5114
    have hb8 := hb
    rw [EO.op hop] at hb8
    refine lv_aload_n hx hb dX7_commitIfVoted_10 rfl (lv_at hl 0 rfl) ?_
    refine va_get (D := D) (ci := 7) (v := .ref (cs (420 + i))) (C := RX7) (T := TX7) (N := 16) hx hb hts iX7_commitIfVoted_7 hown hN.1 hP 1 rfl rfl 3 (by decide) (hts _ mX7_commitIfVoted_1) (fun _ h9 => h9) rfl dX7_commitIfVoted_11 ?_
    refine va_getN (D := D) (ci := 4) (v := .int f5113_4) (C := RX4) (T := TX4) (N := 8) hx hb hts iX7_commitIfVoted_4 hown hN.1 hP 0 rfl rfl 4 (by decide) (hN.f 10 rfl) (fun _ h9 => h9) rfl dX7_commitIfVoted_14 ?_
    refine lv_aload_n hx hb dX7_commitIfVoted_17 rfl (lv_at hl 0 rfl) ?_
    refine va_get (D := D) (ci := 7) (v := .ref su) (C := RX7) (T := TX7) (N := 16) hx hb hts iX7_commitIfVoted_7 hown hN.1 hP 1 rfl rfl 0 (by decide) (hts _ mX7_commitIfVoted_2) (fun _ h9 => h9) rfl dX7_commitIfVoted_18 ?_
    obtain ⟨hb5115, e5115, hat5115, hk5115⟩ := hT.o7 t5112_0.1
    obtain ⟨f5115_0, f5115_1, f5115_2, f5115_3, f5115_4, f5115_5, f5115_6, f5115_7, rfl, c5115_0, c5115_3, c5115_mg, t5115_4, t5115_5, t5115_6, t5115_7⟩ := hk5115
    rw [t5112_0.2] at t5115_4
    rw [t5112_0.2] at t5115_5
    rw [t5112_0.2] at t5115_6
    rw [t5112_0.2] at t5115_7
    have hP : va_P D vwCl [(su, .inr (6, [.int (nI f5115_0), .int f5115_1, .int f5115_2, f5115_3, .ref f5115_4, .ref f5115_5, .ref f5115_6, .ref f5115_7])), ((cs (420 + i)), .inr (4, [.int f5113_0, .int f5113_1, .int f5113_2, .int f5113_3, .int f5113_4, .int f5113_5, .int f5113_6, .int f5113_7])), (w, .inr (7, [.ref su, .ref f5112_1, .ref (cs (400 + i)), .ref (cs (420 + i)), .ref (cs (460 + i)), .ref f5112_5, .long f5112_6, .int f5112_7, .int f5112_8, .int f5112_9, .int f5112_10, .int f5112_11, .int f5112_12, .int f5112_13, .int f5112_14, .int f5112_15]))] _ := va_P.cons hat5115 hP
    refine va_getN (D := D) (ci := 6) (v := .int f5115_1) (C := RX6) (T := TX6) (N := 8) hx hb hts iX7_commitIfVoted_6 hown hN.1 hP 0 rfl rfl 1 (by decide) (hN.f 41 rfl) (fun _ h9 => h9) rfl dX7_commitIfVoted_21 ?_
    refine lv_icmp_ge (tgt := 28) hx hb dX7_commitIfVoted_24 (by decide) (fun c5116 => ?_) (fun c5116 => ?_)
    · refine lv_aload_n hx hb dX7_commitIfVoted_28 rfl (lv_at hl 0 rfl) ?_
      refine va_get (D := D) (ci := 7) (v := .ref (cs (420 + i))) (C := RX7) (T := TX7) (N := 16) hx hb hts iX7_commitIfVoted_7 hown hN.1 hP 2 rfl rfl 3 (by decide) (hts _ mX7_commitIfVoted_1) (fun _ h9 => h9) rfl dX7_commitIfVoted_29 ?_
      refine lv_iconst (v := 1) hx hb dX7_commitIfVoted_32 (by decide) ?_
      have hB : Bx B0 D _ [(su, .inr (6, [.int (nI f5115_0), .int f5115_1, .int f5115_2, f5115_3, .ref f5115_4, .ref f5115_5, .ref f5115_6, .ref f5115_7])), ((cs (420 + i)), .inr (4, [.int f5113_0, .int f5113_1, .int f5113_2, .int f5113_3, .int f5113_4, .int f5113_5, .int f5113_6, .int f5113_7])), (w, .inr (7, [.ref su, .ref f5112_1, .ref (cs (400 + i)), .ref (cs (420 + i)), .ref (cs (460 + i)), .ref f5112_5, .long f5112_6, .int f5112_7, .int f5112_8, .int f5112_9, .int f5112_10, .int f5112_11, .int f5112_12, .int f5112_13, .int f5112_14, .int f5112_15]))] [] _ _ := Bx.of (fun a => (κ a).1) hL hP (fa_c hb5115 (fa_c hb5113 (fa_c hb5112 fa_n))) (by simp only [List.map_cons, List.map_nil, t5112_0.1, t5112_3.1, hw.1]; decide)
      refine b_putN (D := D) (ci := 4) (v := .int 1) (ty := .int) (C := RX4) (T := TX4) (N := 8) hx hb hts iX7_commitIfVoted_4 tyX4 tyX4_ok nmX4 hown hN hB 1 rfl rfl 5 (by decide) (hN.f 12 rfl) (fun _ h9 => h9) rfl (by decide +kernel) rfl rfl (Nat.le_of_ble_eq_true rfl) (.inl rfl) dX7_commitIfVoted_33 (fun H locs hB => ?_)
      have hB : Bx B0 D _ [(su, .inr (6, [.int (nI f5115_0), .int f5115_1, .int f5115_2, f5115_3, .ref f5115_4, .ref f5115_5, .ref f5115_6, .ref f5115_7])), ((cs (420 + i)), .inr (4, [.int f5113_0, .int f5113_1, .int f5113_2, .int f5113_3, .int f5113_4, .int 1, .int f5113_6, .int f5113_7])), (w, .inr (7, [.ref su, .ref f5112_1, .ref (cs (400 + i)), .ref (cs (420 + i)), .ref (cs (460 + i)), .ref f5112_5, .long f5112_6, .int f5112_7, .int f5112_8, .int f5112_9, .int f5112_10, .int f5112_11, .int f5112_12, .int f5112_13, .int f5112_14, .int f5112_15]))] [(cs (420 + i))] _ _ := hB
      refine lv_aload_n hx hb dX7_commitIfVoted_36 rfl (lv_at hl 0 rfl) ?_
      refine lv_dup hx hb dX7_commitIfVoted_37 rfl ?_
      refine va_get (D := D) (ci := 7) (v := .int f5112_12) (C := RX7) (T := TX7) (N := 16) hx hb hts iX7_commitIfVoted_7 hown hN.1 hB.1 2 rfl rfl 12 (by decide) (hts _ mX7_commitIfVoted_3) (fun _ h9 => h9) rfl dX7_commitIfVoted_38 ?_
      refine lv_iconst (v := 1) hx hb dX7_commitIfVoted_41 (by decide) ?_
      refine lv_iadd hx hb dX7_commitIfVoted_42 ?_
      refine gn_i (fun x5117 => ?_)
      refine b_put (D := D) (ci := 7) (v := .int x5117) (ty := .int) (C := RX7) (T := TX7) (N := 16) hx hb hts iX7_commitIfVoted_7 tyX7 tyX7_ok nmX7 hown hN hB 2 rfl rfl 12 (by decide) (hts _ mX7_commitIfVoted_3) (fun _ h9 => h9) rfl (by decide +kernel) rfl rfl (Nat.le_of_ble_eq_true rfl) (.inl rfl) dX7_commitIfVoted_43 (fun H locs hB => ?_)
      have hB : Bx B0 D _ [(su, .inr (6, [.int (nI f5115_0), .int f5115_1, .int f5115_2, f5115_3, .ref f5115_4, .ref f5115_5, .ref f5115_6, .ref f5115_7])), ((cs (420 + i)), .inr (4, [.int f5113_0, .int f5113_1, .int f5113_2, .int f5113_3, .int f5113_4, .int 1, .int f5113_6, .int f5113_7])), (w, .inr (7, [.ref su, .ref f5112_1, .ref (cs (400 + i)), .ref (cs (420 + i)), .ref (cs (460 + i)), .ref f5112_5, .long f5112_6, .int f5112_7, .int f5112_8, .int f5112_9, .int f5112_10, .int f5112_11, .int x5117, .int f5112_13, .int f5112_14, .int f5112_15]))] [w, (cs (420 + i))] _ _ := hB
      refine lv_aload_n hx hb dX7_commitIfVoted_46 rfl (lv_at hl 0 rfl) ?_
      refine lv_aload_n hx hb dX7_commitIfVoted_47 rfl (lv_at hl 0 rfl) ?_
      refine va_get (D := D) (ci := 7) (v := .ref (cs (420 + i))) (C := RX7) (T := TX7) (N := 16) hx hb hts iX7_commitIfVoted_7 hown hN.1 hB.1 2 rfl rfl 3 (by decide) (hts _ mX7_commitIfVoted_1) (fun _ h9 => h9) rfl dX7_commitIfVoted_48 ?_
      refine va_getN (D := D) (ci := 4) (v := .int f5113_3) (C := RX4) (T := TX4) (N := 8) hx hb hts iX7_commitIfVoted_4 hown hN.1 hB.1 1 rfl rfl 3 (by decide) (hN.f 9 rfl) (fun _ h9 => h9) rfl dX7_commitIfVoted_51 ?_
      have hMW := hMW.fr hT hw hsu (Fr.close (S := [i]) Fr.rf hB (fa_c (by simp [hw.2]) (fa_c (by simp [t5112_3.2]) fa_n))) (by first | (simp; done) | (simp; omega) | omega) (by first | (simp; done) | (simp; omega) | omega)
      have hF : Fr B0 [i, i + 20] κ H0 _ := hF.close hB (fa_c (by simp [hw.2]) (fa_c (by simp [t5112_3.2]) fa_n))
      have hT : WT B0 D cs T (kp κ (cs (420 + i)) 1 (κ (cs (420 + i))).2.2.2) _ := hT.closeK (cs (420 + i)) 1 (κ (cs (420 + i))).2.2.2 hB (by rw [t5112_3.1]; decide) (by rw [t5112_3.1]; decide) (List.mem_of_getElem? (i := 1) rfl) ⟨⟨2, _, rfl, kp_oth (ne_c hw.1 t5112_3.1 (by decide)) (by rw [t5112_3.1]; decide) (by rw [t5112_3.1]; decide) (ok_8 hw.1 ⟨_, _, _, _, _, _, _, _, _, _, _, _, _, _, _, _, rfl, t5112_0, c5112_su, ⟨t5112_1.1, by rw [hw.2]; exact t5112_1.2⟩, ⟨t5112_2.1, by rw [hw.2]; exact t5112_2.2⟩, ⟨t5112_3.1, by rw [hw.2]; exact t5112_3.2⟩, ⟨t5112_4.1, by rw [hw.2]; exact t5112_4.2⟩, ⟨t5112_5.1, by rw [hw.2]; exact t5112_5.2⟩, c5112_tm, (by rw [hw.2]; omega), (by first | rw [hw.2] | (dsimp only; rw [hw.2])), (by first | rw [hw.2] | (dsimp only; rw [hw.2])), (by first | rw [hw.2] | (dsimp only; rw [hw.2]))⟩)⟩, ⟨⟨1, _, rfl, kp_ok (ok_5 (k := ((κ (cs (420 + i))).1, (κ (cs (420 + i))).2.1, _, _)) t5112_3.1 ⟨_, _, _, _, _, _, _, _, rfl, ⟨fun h9 => absurd h9 (by decide), fun h9 => absurd h9 (by decide)⟩⟩)⟩, trivial⟩⟩
      have hL : OkL B0 _ := hB.2.2.2.2.2
      have hP : va_P D vwCl [(su, .inr (6, [.int (nI f5115_0), .int f5115_1, .int f5115_2, f5115_3, .ref f5115_4, .ref f5115_5, .ref f5115_6, .ref f5115_7])), ((cs (420 + i)), .inr (4, [.int f5113_0, .int f5113_1, .int f5113_2, .int f5113_3, .int f5113_4, .int 1, .int f5113_6, .int f5113_7])), (w, .inr (7, [.ref su, .ref f5112_1, .ref (cs (400 + i)), .ref (cs (420 + i)), .ref (cs (460 + i)), .ref f5112_5, .long f5112_6, .int f5112_7, .int f5112_8, .int f5112_9, .int f5112_10, .int f5112_11, .int x5117, .int f5112_13, .int f5112_14, .int f5112_15]))] _ := hB.1
      obtain ⟨κ5118, hκ5118⟩ : ∃ κ9 : KM, κ9 = (kp κ (cs (420 + i)) 1 (κ (cs (420 + i))).2.2.2) := ⟨_, rfl⟩
      have hxf5118 : KF κ κ5118 := by rw [hκ5118]; exact KF.kp
      rw [← hκ5118] at hT
      have hKF : KF κ κ5118 := hxf5118
      have hKU : KU i κ κ5118 := (show KU i κ κ5118 by rw [hκ5118]; exact KU.kp t5112_3)
      have hkw9 : κ5118 w = κ w := by rw [hκ5118]; exact kp_n (ne_c hw.1 t5112_3.1 (by decide))
      rw [← hkw9] at hsu htm
      have hKW : κ5118 w = κ w := hkw9
      have hw := (KF.t2 hxf5118 hw (by decide))
      have hpr := (KF.t2 hxf5118 hpr (by decide))
      have hml := (KF.t2 hxf5118 hml (by decide))
      have hli := (KF.t2 hxf5118 hli (by decide))
      have hop1 : (κ5118 (cs (420 + i))).2.2.1 = 1 := by rw [hκ5118, kp_a]
      refine cv_r (As := [.int f5113_3]) (rest := []) (b := w) ⟨hx, hb, hml, hown, hts⟩ (c_X7_at hT (w := w) hw (x := f5113_3)) (cwV 1 hts gX7_commitIfVoted_X7_at rfl rfl rfl hdX7_at_v ⟨Nat.le_of_ble_eq_true rfl, Nat.le_of_ble_eq_true rfl⟩) hN hE hL (rcv8 hN hT hw.1) rfl rfl hl.1 (Nat.le_of_ble_eq_true rfl) dX7_commitIfVoted_54 (Nat.zero_le _) (Nat.zero_le _) (fun r5119 H1 locs hL hqr5119 => ?_)
      obtain ⟨h9, hqr5119⟩ := hqr5119; replace h9 := h9.symm; subst h9
      refine lv_aload_n hx hb dX7_commitIfVoted_57 rfl (lv_at hl 0 rfl) ?_
      obtain ⟨hb5120, e5120, hat5120, hk5120⟩ := hT.o8 hw.1
      obtain ⟨f5120_0, f5120_1, f5120_2, f5120_3, f5120_4, f5120_5, f5120_6, f5120_7, f5120_8, f5120_9, f5120_10, f5120_11, f5120_12, f5120_13, f5120_14, f5120_15, rfl, t5120_0, c5120_su, t5120_1, t5120_2, t5120_3, t5120_4, t5120_5, c5120_tm, c5120_lt, c5120_ml, c5120_pr, c5120_li⟩ := hk5120
      rw [hw.2] at t5120_1
      rw [hw.2] at t5120_2
      rw [hw.2] at t5120_3
      rw [hw.2] at t5120_4
      rw [hw.2] at t5120_5
      rw [hw.2] at c5120_lt c5120_ml c5120_pr c5120_li
      subst c5120_ml
      subst c5120_pr
      subst c5120_li
      have esu5120 := (c5120_su.trans hsu).symm
      subst esu5120
      have ctm5120 : f5120_7 &&& 15 = nI tm := by rw [c5120_tm, htm]
      have hP : va_P D vwCl [(w, .inr (7, [.ref su, .ref f5120_1, .ref (cs (400 + i)), .ref (cs (420 + i)), .ref (cs (460 + i)), .ref f5120_5, .long f5120_6, .int f5120_7, .int f5120_8, .int f5120_9, .int f5120_10, .int f5120_11, .int f5120_12, .int f5120_13, .int f5120_14, .int f5120_15]))] _ := va_P.cons hat5120 va_P.nil
      refine va_get (D := D) (ci := 7) (v := .int f5120_11) (C := RX7) (T := TX7) (N := 16) hx hb hts iX7_commitIfVoted_7 hown hN.1 hP 0 rfl rfl 11 (by decide) (hts _ mX7_commitIfVoted_4) (fun _ h9 => h9) rfl dX7_commitIfVoted_58 ?_
      refine lv_iconst (v := 1) hx hb dX7_commitIfVoted_61 (by decide) ?_
      refine lv_isub hx hb dX7_commitIfVoted_62 ?_
      refine gn_i (fun x5121 => ?_)
      refine lv_aload_n hx hb dX7_commitIfVoted_63 rfl (lv_at hl 0 rfl) ?_
      refine va_get (D := D) (ci := 7) (v := .ref (cs (420 + i))) (C := RX7) (T := TX7) (N := 16) hx hb hts iX7_commitIfVoted_7 hown hN.1 hP 0 rfl rfl 3 (by decide) (hts _ mX7_commitIfVoted_1) (fun _ h9 => h9) rfl dX7_commitIfVoted_64 ?_
      obtain ⟨hb5122, e5122, hat5122, hk5122⟩ := hT.o5 t5120_3.1
      obtain ⟨f5122_0, f5122_1, f5122_2, f5122_3, f5122_4, f5122_5, f5122_6, f5122_7, rfl, c5122⟩ := hk5122
      have hP : va_P D vwCl [((cs (420 + i)), .inr (4, [.int f5122_0, .int f5122_1, .int f5122_2, .int f5122_3, .int f5122_4, .int f5122_5, .int f5122_6, .int f5122_7])), (w, .inr (7, [.ref su, .ref f5120_1, .ref (cs (400 + i)), .ref (cs (420 + i)), .ref (cs (460 + i)), .ref f5120_5, .long f5120_6, .int f5120_7, .int f5120_8, .int f5120_9, .int f5120_10, .int f5120_11, .int f5120_12, .int f5120_13, .int f5120_14, .int f5120_15]))] _ := va_P.cons hat5122 hP
      refine va_getN (D := D) (ci := 4) (v := .int f5122_0) (C := RX4) (T := TX4) (N := 8) hx hb hts iX7_commitIfVoted_4 hown hN.1 hP 0 rfl rfl 0 (by decide) (hN.f 5 rfl) (fun _ h9 => h9) rfl dX7_commitIfVoted_67 ?_
      refine lv_aload_n hx hb dX7_commitIfVoted_70 rfl (lv_at hl 0 rfl) ?_
      refine va_get (D := D) (ci := 7) (v := .ref (cs (420 + i))) (C := RX7) (T := TX7) (N := 16) hx hb hts iX7_commitIfVoted_7 hown hN.1 hP 1 rfl rfl 3 (by decide) (hts _ mX7_commitIfVoted_1) (fun _ h9 => h9) rfl dX7_commitIfVoted_71 ?_
      refine va_getN (D := D) (ci := 4) (v := .int f5122_1) (C := RX4) (T := TX4) (N := 8) hx hb hts iX7_commitIfVoted_4 hown hN.1 hP 0 rfl rfl 1 (by decide) (hN.f 7 rfl) (fun _ h9 => h9) rfl dX7_commitIfVoted_74 ?_
      refine lv_iconst (v := 2) hx hb dX7_commitIfVoted_77 (by decide) ?_
      refine cv_v (As := [.int x5121, .int f5122_0, .int f5122_1, .int 2]) (rest := []) (b := r5119) ⟨hx, hb, hml, hown, hts⟩ (c_X3_takePlan hT (w := r5119) hqr5119 (x := x5121) (y := f5122_0) (z := f5122_1) (u := 2)) (cwV 4 hts gX7_commitIfVoted_X3_takePlan rfl rfl rfl hdX3_takePlan_v ⟨Nat.le_of_ble_eq_true rfl, Nat.le_of_ble_eq_true rfl⟩) hN hE hL (rcv4 hN hT hqr5119.1) rfl rfl hl.1 (Nat.le_of_ble_eq_true rfl) dX7_commitIfVoted_78 (Nat.zero_le _) (Nat.zero_le _) (fun H1 locs hL hqr5123 => ?_)
      obtain ⟨hT1, hF1⟩ := hqr5123
      have hMW := hMW.fr hT hw hsu hF1 (by first | (simp; done) | (simp; omega) | omega) (by first | (simp; done) | (simp; omega) | omega)
      have hF := hF.tr ((hF1.kf hKF).mono (by simp))
      have hT := hT1
      refine lv_aload_n hx hb dX7_commitIfVoted_81 rfl (lv_at hl 0 rfl) ?_
      refine lv_iconst (v := 4) hx hb dX7_commitIfVoted_82 (by decide) ?_
      refine W.know (fun hgb => ?_)
      rw [hH0] at hgb
      refine cv_v (As := [.int 4]) (rest := []) (b := w) ⟨hx, hb, hml, hown, hts⟩ (c_X7_sendToOthers_d1 hT (w := w) hw (x := 4) hsu htm hMW (by decide) (q0 := q0) (pl := pl) (by omega)) (cwV 1 hts gX7_commitIfVoted_X7_sendToOthers rfl rfl rfl hdX7_sendToOthers_v ⟨Nat.le_of_ble_eq_true rfl, Nat.le_of_ble_eq_true rfl⟩) hN hE hL (rcv8 hN hT hw.1) rfl rfl hl.1 (Nat.le_of_ble_eq_true rfl) dX7_commitIfVoted_83 (show 0 + ((56 * sumN C 16 + 22407 - 2 * sumN ln 16) / 35) ≤ ((56 * sumN C 16 + 22407 - 2 * sumN ln 16) / 35) by omega) (show 0 + (56 * sumN C 16 + 22407 - 2 * sumN ln 16) ≤ (56 * sumN C 16 + 22407 - 2 * sumN ln 16) by omega) (fun H1 locs hL hqr5124 => ?_)
      obtain ⟨κr5124, hxr5124, hT1, hF1, hqr5124⟩ := hqr5124
      have hTo := hT
      have hwo := hw
      have hsuo := hsu
      have hF9 := hF1
      have hF := hF.tr ((hF1.kf hKF).mono (by simp))
      have hT := hT1
      have hKF := hKF.tr hxr5124.f
      have hKU : KU i κ κr5124 := hKU.tr (KX.u (i := i) hxr5124)
      have hkw9 : κr5124 w = κ5118 w := hxr5124 w (by rw [hw.1]; decide)
      rw [← hkw9] at hsu htm
      have hko9 : κr5124 (cs (420 + i)) = κ5118 (cs (420 + i)) := hxr5124 _ (by rw [hpr.1]; decide)
      have hKW : κr5124 w = κ w := hkw9.trans hKW
      rw [← hko9] at hop1
      have hw := (hxr5124.f.t2 hw (by decide))
      have hpr := (hxr5124.f.t2 hpr (by decide))
      have hml := (hxr5124.f.t2 hml (by decide))
      have hli := (hxr5124.f.t2 hli (by decide))
      obtain ⟨c5125, l5126, w5127, k5128, n5129, m5130, g5131, e5132, o5133⟩ := hqr5124
      have hMW := m5130
      obtain ⟨k5134, n5135, hGP⟩ : ∃ k9 n9, GP H0 _ ln l5126 k9 n9 := ⟨_, _, GP.tr (show GP H0 _ ln ln _ _ from ⟨hgb, hGN⟩) g5131⟩
      refine W.tight (k := k5134) (n := n5135) (by rw [hH0]; exact hGP.1) ?_
      have hGN : GN ln l5126 k5134 n5135 := hGP.2
      have hgk5134 := hGN.1
      have hgn5135 := hGN.2
      have hsk5134 := hMW.2.2.1.sum
      refine W.know (fun hg => ?_)
      rw [hH0] at hg
      exact en_v hx hb hr hlocks hL (show k5134 ≤ ((56 * sumN C 16 + 22407 - 2 * sumN ln 16) / 35) by omega) (show n5135 ≤ (56 * sumN C 16 + 22407 - 2 * sumN ln 16) by omega) dX7_commitIfVoted_86 (⟨_, hKU, hT, hF, _, _, _, _, _, hMW, ⟨hg, hGN⟩, hKW, (by rw [EO.cl (by rw [hop1]; decide)]; omega), o5133⟩)
    · refine W.know (fun hg => ?_)
      rw [hH0] at hg
      exact en_v hx hb hr hlocks hL (Nat.zero_le _) (Nat.zero_le _) dX7_commitIfVoted_27 (⟨κ, KU.rf, hT, hF, cn, ln, rw9, 0, 0, hMW, ⟨hg, GN.rf⟩, rfl, hb, fun _ _ => Nat.le_refl _⟩)
theorem mX7_giveUp_1 : (.fieldLink RX7 27 "OneBeat$World" "latest" "LOneBeat$Proposal;" : Cond) ∈ wsX7_giveUp := List.mem_of_getElem? (i := 1) (by decide +kernel)
theorem iX7_giveUp_7 : ∀ w ∈ wsX70, w ∈ wsX7_giveUp := fun w h => List.mem_of_mem_drop (List.mem_of_mem_take ((show wsX70 = (wsX7_giveUp.drop 63).take 16 by decide +kernel) ▸ h))
theorem iX7_giveUp_4 : ∀ w ∈ wsX40, w ∈ wsX7_giveUp := fun w h => List.mem_of_mem_drop (List.mem_of_mem_take ((show wsX40 = (wsX7_giveUp.drop 79).take 8 by decide +kernel) ▸ h))
theorem mX7_giveUp_2 : (.fieldLink RX7 83 "OneBeat$World" "givenUp" "I" : Cond) ∈ wsX7_giveUp := List.mem_of_getElem? (i := 2) (by decide +kernel)
theorem iX7_giveUp_3 : ∀ w ∈ wsX30, w ∈ wsX7_giveUp := fun w h => List.mem_of_mem_drop (List.mem_of_mem_take ((show wsX30 = (wsX7_giveUp.drop 87).take 10 by decide +kernel) ▸ h))
theorem mX7_giveUp_3 : (.fieldLink RX7 77 "OneBeat$World" "made" "I" : Cond) ∈ wsX7_giveUp := List.mem_of_getElem? (i := 3) (by decide +kernel)
set_option maxHeartbeats 4000000 in
set_option maxRecDepth 100000 in
theorem c_X7_giveUp {l : Launch} {D : va_G} {cs : Nat → ClassId} {B0 T : Nat} {κ : KM} {H0 : Heap} (hT : WT B0 D cs T κ H0) {w i : Nat} (hw : T2 κ w 8 i) {C cn ln : Nat → Nat} {rw9 : Nat → Nat → Int32} {dl : Nat → Int32} {su tm : Nat} (hsu : (κ w).2.2.1 = su) (htm : (κ w).2.2.2 = tm) (hMW : MW D cs H0 i su tm C cn ln rw9 dl) {q0 pl b : Nat} (hb : EO C dl cn rw9 q0 pl (κ (cs (420 + i))).2.2.1 ≤ b) (hb24 : b ≤ 24) (hop : (κ (cs (420 + i))).2.2.1 = 0) : KC l yX7_giveUp wsX7_giveUp 4 135 ((56 * sumN C 16 + 22407 - 2 * sumN ln 16) / 35) (56 * sumN C 16 + 22407 - 2 * sumN ln 16) D cs B0 H0 [.ref w] (Qv (fun H => ∃ κ1, KU i κ κ1 ∧ WT B0 D cs T κ1 H ∧ Fr B0 [i, i + 20] κ H0 H ∧ ∃ cn1 ln1 rw1 k n, MW D cs H i su tm C cn1 ln1 rw1 dl ∧ GP H0 H ln ln1 k n ∧ κ1 w = κ w ∧ EO C dl cn1 rw1 q0 pl (κ1 (cs (420 + i))).2.2.1 ≤ b)) := by
  refine KC.of cX7_giveUp 2 none (by decide) rfl (Nat.le_of_ble_eq_true rfl) ?_
  intro p e s m below meth c ls hx hb hr hml hown hts hlocks hin hN hE hH0 hl
  have hown : s.vm.findClass RX7 = some m.cls := hown
  have hl : lv_has ls 2 [(0, .ref w)] := hl
  have hL : OkL B0 [] := OkL.nil
  have hF : Fr B0 [i, i + 20] κ H0 H0 := Fr.rf
  obtain ⟨hml, hpr, hli, -, hi10⟩ := hT.ml hw
  have ht16 := hMW.2.2.2
  have hGN : GN ln ln 0 0 := GN.rf
  have hs0 := hMW.2.2.1.sum
  have hb8 := hb
  rw [EO.op hop] at hb8
  refine lv_aload_n hx hb dX7_giveUp_0 rfl (lv_at hl 0 rfl) ?_
  obtain ⟨hb5136, e5136, hat5136, hk5136⟩ := hT.o8 hw.1
  obtain ⟨f5136_0, f5136_1, f5136_2, f5136_3, f5136_4, f5136_5, f5136_6, f5136_7, f5136_8, f5136_9, f5136_10, f5136_11, f5136_12, f5136_13, f5136_14, f5136_15, rfl, t5136_0, c5136_su, t5136_1, t5136_2, t5136_3, t5136_4, t5136_5, c5136_tm, c5136_lt, c5136_ml, c5136_pr, c5136_li⟩ := hk5136
  rw [hw.2] at t5136_1
  rw [hw.2] at t5136_2
  rw [hw.2] at t5136_3
  rw [hw.2] at t5136_4
  rw [hw.2] at t5136_5
  rw [hw.2] at c5136_lt c5136_ml c5136_pr c5136_li
  subst c5136_ml
  subst c5136_pr
  subst c5136_li
  have esu5136 := (c5136_su.trans hsu).symm
  subst esu5136
  have ctm5136 : f5136_7 &&& 15 = nI tm := by rw [c5136_tm, htm]
  have hP : va_P D vwCl [(w, .inr (7, [.ref su, .ref f5136_1, .ref (cs (400 + i)), .ref (cs (420 + i)), .ref (cs (460 + i)), .ref f5136_5, .long f5136_6, .int f5136_7, .int f5136_8, .int f5136_9, .int f5136_10, .int f5136_11, .int f5136_12, .int f5136_13, .int f5136_14, .int f5136_15]))] _ := va_P.cons hat5136 va_P.nil
  refine va_get (D := D) (ci := 7) (v := .ref (cs (420 + i))) (C := RX7) (T := TX7) (N := 16) hx hb hts iX7_giveUp_7 hown hN.1 hP 0 rfl rfl 3 (by decide) (hts _ mX7_giveUp_1) (fun _ h9 => h9) rfl dX7_giveUp_1 ?_
  refine lv_iconst (v := 2) hx hb dX7_giveUp_4 (by decide) ?_
  obtain ⟨hb5137, e5137, hat5137, hk5137⟩ := hT.o5 t5136_3.1
  obtain ⟨f5137_0, f5137_1, f5137_2, f5137_3, f5137_4, f5137_5, f5137_6, f5137_7, rfl, c5137⟩ := hk5137
  have hP : va_P D vwCl [((cs (420 + i)), .inr (4, [.int f5137_0, .int f5137_1, .int f5137_2, .int f5137_3, .int f5137_4, .int f5137_5, .int f5137_6, .int f5137_7])), (w, .inr (7, [.ref su, .ref f5136_1, .ref (cs (400 + i)), .ref (cs (420 + i)), .ref (cs (460 + i)), .ref f5136_5, .long f5136_6, .int f5136_7, .int f5136_8, .int f5136_9, .int f5136_10, .int f5136_11, .int f5136_12, .int f5136_13, .int f5136_14, .int f5136_15]))] _ := va_P.cons hat5137 hP
  have hB : Bx B0 D _ [((cs (420 + i)), .inr (4, [.int f5137_0, .int f5137_1, .int f5137_2, .int f5137_3, .int f5137_4, .int f5137_5, .int f5137_6, .int f5137_7])), (w, .inr (7, [.ref su, .ref f5136_1, .ref (cs (400 + i)), .ref (cs (420 + i)), .ref (cs (460 + i)), .ref f5136_5, .long f5136_6, .int f5136_7, .int f5136_8, .int f5136_9, .int f5136_10, .int f5136_11, .int f5136_12, .int f5136_13, .int f5136_14, .int f5136_15]))] [] _ _ := Bx.of (fun a => (κ a).1) hL hP (fa_c hb5137 (fa_c hb5136 fa_n)) (by simp only [List.map_cons, List.map_nil, t5136_3.1, hw.1]; decide)
  refine b_putN (D := D) (ci := 4) (v := .int 2) (ty := .int) (C := RX4) (T := TX4) (N := 8) hx hb hts iX7_giveUp_4 tyX4 tyX4_ok nmX4 hown hN hB 0 rfl rfl 5 (by decide) (hN.f 12 rfl) (fun _ h9 => h9) rfl (by decide +kernel) rfl rfl (Nat.le_of_ble_eq_true rfl) (.inl rfl) dX7_giveUp_5 (fun H locs hB => ?_)
  have hB : Bx B0 D _ [((cs (420 + i)), .inr (4, [.int f5137_0, .int f5137_1, .int f5137_2, .int f5137_3, .int f5137_4, .int 2, .int f5137_6, .int f5137_7])), (w, .inr (7, [.ref su, .ref f5136_1, .ref (cs (400 + i)), .ref (cs (420 + i)), .ref (cs (460 + i)), .ref f5136_5, .long f5136_6, .int f5136_7, .int f5136_8, .int f5136_9, .int f5136_10, .int f5136_11, .int f5136_12, .int f5136_13, .int f5136_14, .int f5136_15]))] [(cs (420 + i))] _ _ := hB
  refine lv_aload_n hx hb dX7_giveUp_8 rfl (lv_at hl 0 rfl) ?_
  refine lv_dup hx hb dX7_giveUp_9 rfl ?_
  refine va_get (D := D) (ci := 7) (v := .int f5136_13) (C := RX7) (T := TX7) (N := 16) hx hb hts iX7_giveUp_7 hown hN.1 hB.1 1 rfl rfl 13 (by decide) (hts _ mX7_giveUp_2) (fun _ h9 => h9) rfl dX7_giveUp_10 ?_
  refine lv_iconst (v := 1) hx hb dX7_giveUp_13 (by decide) ?_
  refine lv_iadd hx hb dX7_giveUp_14 ?_
  refine gn_i (fun x5138 => ?_)
  refine b_put (D := D) (ci := 7) (v := .int x5138) (ty := .int) (C := RX7) (T := TX7) (N := 16) hx hb hts iX7_giveUp_7 tyX7 tyX7_ok nmX7 hown hN hB 1 rfl rfl 13 (by decide) (hts _ mX7_giveUp_2) (fun _ h9 => h9) rfl (by decide +kernel) rfl rfl (Nat.le_of_ble_eq_true rfl) (.inl rfl) dX7_giveUp_15 (fun H locs hB => ?_)
  have hB : Bx B0 D _ [((cs (420 + i)), .inr (4, [.int f5137_0, .int f5137_1, .int f5137_2, .int f5137_3, .int f5137_4, .int 2, .int f5137_6, .int f5137_7])), (w, .inr (7, [.ref su, .ref f5136_1, .ref (cs (400 + i)), .ref (cs (420 + i)), .ref (cs (460 + i)), .ref f5136_5, .long f5136_6, .int f5136_7, .int f5136_8, .int f5136_9, .int f5136_10, .int f5136_11, .int f5136_12, .int x5138, .int f5136_14, .int f5136_15]))] [w, (cs (420 + i))] _ _ := hB
  refine lv_aload_n hx hb dX7_giveUp_18 rfl (lv_at hl 0 rfl) ?_
  refine lv_aload_n hx hb dX7_giveUp_19 rfl (lv_at hl 0 rfl) ?_
  refine va_get (D := D) (ci := 7) (v := .ref (cs (420 + i))) (C := RX7) (T := TX7) (N := 16) hx hb hts iX7_giveUp_7 hown hN.1 hB.1 1 rfl rfl 3 (by decide) (hts _ mX7_giveUp_1) (fun _ h9 => h9) rfl dX7_giveUp_20 ?_
  refine va_getN (D := D) (ci := 4) (v := .int f5137_3) (C := RX4) (T := TX4) (N := 8) hx hb hts iX7_giveUp_4 hown hN.1 hB.1 0 rfl rfl 3 (by decide) (hN.f 9 rfl) (fun _ h9 => h9) rfl dX7_giveUp_23 ?_
  have hMW := hMW.fr hT hw hsu (Fr.close (S := [i]) Fr.rf hB (fa_c (by simp [hw.2]) (fa_c (by simp [t5136_3.2]) fa_n))) (by first | (simp; done) | (simp; omega) | omega) (by first | (simp; done) | (simp; omega) | omega)
  have hF : Fr B0 [i, i + 20] κ H0 _ := hF.close hB (fa_c (by simp [hw.2]) (fa_c (by simp [t5136_3.2]) fa_n))
  have hT : WT B0 D cs T (kp κ (cs (420 + i)) 1 (κ (cs (420 + i))).2.2.2) _ := hT.closeK (cs (420 + i)) 1 (κ (cs (420 + i))).2.2.2 hB (by rw [t5136_3.1]; decide) (by rw [t5136_3.1]; decide) (List.mem_of_getElem? (i := 1) rfl) ⟨⟨1, _, rfl, kp_oth (ne_c hw.1 t5136_3.1 (by decide)) (by rw [t5136_3.1]; decide) (by rw [t5136_3.1]; decide) (ok_8 hw.1 ⟨_, _, _, _, _, _, _, _, _, _, _, _, _, _, _, _, rfl, t5136_0, c5136_su, ⟨t5136_1.1, by rw [hw.2]; exact t5136_1.2⟩, ⟨t5136_2.1, by rw [hw.2]; exact t5136_2.2⟩, ⟨t5136_3.1, by rw [hw.2]; exact t5136_3.2⟩, ⟨t5136_4.1, by rw [hw.2]; exact t5136_4.2⟩, ⟨t5136_5.1, by rw [hw.2]; exact t5136_5.2⟩, c5136_tm, (by rw [hw.2]; omega), (by first | rw [hw.2] | (dsimp only; rw [hw.2])), (by first | rw [hw.2] | (dsimp only; rw [hw.2])), (by first | rw [hw.2] | (dsimp only; rw [hw.2]))⟩)⟩, ⟨⟨0, _, rfl, kp_ok (ok_5 (k := ((κ (cs (420 + i))).1, (κ (cs (420 + i))).2.1, _, _)) t5136_3.1 ⟨_, _, _, _, _, _, _, _, rfl, ⟨fun h9 => absurd h9 (by decide), fun h9 => absurd h9 (by decide)⟩⟩)⟩, trivial⟩⟩
  have hL : OkL B0 _ := hB.2.2.2.2.2
  have hP : va_P D vwCl [((cs (420 + i)), .inr (4, [.int f5137_0, .int f5137_1, .int f5137_2, .int f5137_3, .int f5137_4, .int 2, .int f5137_6, .int f5137_7])), (w, .inr (7, [.ref su, .ref f5136_1, .ref (cs (400 + i)), .ref (cs (420 + i)), .ref (cs (460 + i)), .ref f5136_5, .long f5136_6, .int f5136_7, .int f5136_8, .int f5136_9, .int f5136_10, .int f5136_11, .int f5136_12, .int x5138, .int f5136_14, .int f5136_15]))] _ := hB.1
  obtain ⟨κ5139, hκ5139⟩ : ∃ κ9 : KM, κ9 = (kp κ (cs (420 + i)) 1 (κ (cs (420 + i))).2.2.2) := ⟨_, rfl⟩
  have hxf5139 : KF κ κ5139 := by rw [hκ5139]; exact KF.kp
  rw [← hκ5139] at hT
  have hKF : KF κ κ5139 := hxf5139
  have hKU : KU i κ κ5139 := (show KU i κ κ5139 by rw [hκ5139]; exact KU.kp t5136_3)
  have hkw9 : κ5139 w = κ w := by rw [hκ5139]; exact kp_n (ne_c hw.1 t5136_3.1 (by decide))
  rw [← hkw9] at hsu htm
  have hKW : κ5139 w = κ w := hkw9
  have hw := (KF.t2 hxf5139 hw (by decide))
  have hpr := (KF.t2 hxf5139 hpr (by decide))
  have hml := (KF.t2 hxf5139 hml (by decide))
  have hli := (KF.t2 hxf5139 hli (by decide))
  have hop1 : (κ5139 (cs (420 + i))).2.2.1 = 1 := by rw [hκ5139, kp_a]
  refine cv_r (As := [.int f5137_3]) (rest := []) (b := w) ⟨hx, hb, hml, hown, hts⟩ (c_X7_at hT (w := w) hw (x := f5137_3)) (cwV 1 hts gX7_giveUp_X7_at rfl rfl rfl hdX7_at_v ⟨Nat.le_of_ble_eq_true rfl, Nat.le_of_ble_eq_true rfl⟩) hN hE hL (rcv8 hN hT hw.1) rfl rfl hl.1 (Nat.le_of_ble_eq_true rfl) dX7_giveUp_26 (Nat.zero_le _) (Nat.zero_le _) (fun r5140 H1 locs hL hqr5140 => ?_)
  obtain ⟨h9, hqr5140⟩ := hqr5140; replace h9 := h9.symm; subst h9
  refine lv_astore_n (lv' := [(1, .ref r5140), (0, .ref w)]) hx hb dX7_giveUp_29 rfl hl (by decide) rfl (fun ls hl => ?_)
  refine lv_aload_n hx hb dX7_giveUp_30 rfl (lv_at hl 0 rfl) ?_
  obtain ⟨hb5141, e5141, hat5141, hk5141⟩ := hT.o4 hqr5140.1
  obtain ⟨f5141_0, f5141_1, f5141_2, f5141_3, f5141_4, f5141_5, f5141_6, f5141_7, f5141_8, f5141_9, rfl, c5141_up⟩ := hk5141
  have hP : va_P D vwCl [(r5140, .inr (3, [.int f5141_0, .int f5141_1, .int f5141_2, .int f5141_3, .int f5141_4, .int f5141_5, .int f5141_6, .int f5141_7, .int f5141_8, .int f5141_9]))] _ := va_P.cons hat5141 va_P.nil
  refine va_getN (D := D) (ci := 3) (v := .int f5141_0) (C := RX3) (T := TX3) (N := 10) hx hb hts iX7_giveUp_3 hown hN.1 hP 0 rfl rfl 0 (by decide) (hN.f 27 rfl) (fun _ h9 => h9) rfl dX7_giveUp_31 ?_
  refine lv_if_ne (tgt := 38) hx hb dX7_giveUp_34 (by decide) (fun c5142 => ?_) (fun c5142 => ?_)
  · refine lv_aload_n hx hb dX7_giveUp_38 rfl (lv_at hl 0 rfl) ?_
    refine va_getN (D := D) (ci := 3) (v := .int f5141_4) (C := RX3) (T := TX3) (N := 10) hx hb hts iX7_giveUp_3 hown hN.1 hP 0 rfl rfl 4 (by decide) (hN.f 32 rfl) (fun _ h9 => h9) rfl dX7_giveUp_39 ?_
    refine lv_aload_n hx hb dX7_giveUp_42 rfl (lv_at hl 1 rfl) ?_
    obtain ⟨hb5143, e5143, hat5143, hk5143⟩ := hT.o8 hw.1
    obtain ⟨f5143_0, f5143_1, f5143_2, f5143_3, f5143_4, f5143_5, f5143_6, f5143_7, f5143_8, f5143_9, f5143_10, f5143_11, f5143_12, f5143_13, f5143_14, f5143_15, rfl, t5143_0, c5143_su, t5143_1, t5143_2, t5143_3, t5143_4, t5143_5, c5143_tm, c5143_lt, c5143_ml, c5143_pr, c5143_li⟩ := hk5143
    rw [hw.2] at t5143_1
    rw [hw.2] at t5143_2
    rw [hw.2] at t5143_3
    rw [hw.2] at t5143_4
    rw [hw.2] at t5143_5
    rw [hw.2] at c5143_lt c5143_ml c5143_pr c5143_li
    subst c5143_ml
    subst c5143_pr
    subst c5143_li
    have esu5143 := (c5143_su.trans hsu).symm
    subst esu5143
    have ctm5143 : f5143_7 &&& 15 = nI tm := by rw [c5143_tm, htm]
    have hP : va_P D vwCl [(w, .inr (7, [.ref su, .ref f5143_1, .ref (cs (400 + i)), .ref (cs (420 + i)), .ref (cs (460 + i)), .ref f5143_5, .long f5143_6, .int f5143_7, .int f5143_8, .int f5143_9, .int f5143_10, .int f5143_11, .int f5143_12, .int f5143_13, .int f5143_14, .int f5143_15])), (r5140, .inr (3, [.int f5141_0, .int f5141_1, .int f5141_2, .int f5141_3, .int f5141_4, .int f5141_5, .int f5141_6, .int f5141_7, .int f5141_8, .int f5141_9]))] _ := va_P.cons hat5143 hP
    refine va_get (D := D) (ci := 7) (v := .int f5143_11) (C := RX7) (T := TX7) (N := 16) hx hb hts iX7_giveUp_7 hown hN.1 hP 0 rfl rfl 11 (by decide) (hts _ mX7_giveUp_3) (fun _ h9 => h9) rfl dX7_giveUp_43 ?_
    refine lv_iconst (v := 1) hx hb dX7_giveUp_46 (by decide) ?_
    refine lv_isub hx hb dX7_giveUp_47 ?_
    refine gn_i (fun x5144 => ?_)
    refine lv_icmp_ne (tgt := 55) hx hb dX7_giveUp_48 (by decide) (fun c5145 => ?_) (fun c5145 => ?_)
    · refine lv_aload_n hx hb dX7_giveUp_55 rfl (lv_at hl 1 rfl) ?_
      refine lv_iconst (v := 5) hx hb dX7_giveUp_56 (by decide) ?_
      refine W.know (fun hgb => ?_)
      rw [hH0] at hgb
      refine cv_v (As := [.int 5]) (rest := []) (b := w) ⟨hx, hb, hml, hown, hts⟩ (c_X7_sendToOthers_d1 hT (w := w) hw (x := 5) hsu htm hMW (by decide) (q0 := q0) (pl := pl) (by omega)) (cwV 1 hts gX7_giveUp_X7_sendToOthers rfl rfl rfl hdX7_sendToOthers_v ⟨Nat.le_of_ble_eq_true rfl, Nat.le_of_ble_eq_true rfl⟩) hN hE hL (rcv8 hN hT hw.1) rfl rfl hl.1 (Nat.le_of_ble_eq_true rfl) dX7_giveUp_57 (show 0 + ((56 * sumN C 16 + 22407 - 2 * sumN ln 16) / 35) ≤ ((56 * sumN C 16 + 22407 - 2 * sumN ln 16) / 35) by omega) (show 0 + (56 * sumN C 16 + 22407 - 2 * sumN ln 16) ≤ (56 * sumN C 16 + 22407 - 2 * sumN ln 16) by omega) (fun H1 locs hL hqr5146 => ?_)
      obtain ⟨κr5146, hxr5146, hT1, hF1, hqr5146⟩ := hqr5146
      have hTo := hT
      have hwo := hw
      have hsuo := hsu
      have hF9 := hF1
      have hF := hF.tr ((hF1.kf hKF).mono (by simp))
      have hT := hT1
      have hKF := hKF.tr hxr5146.f
      have hKU : KU i κ κr5146 := hKU.tr (KX.u (i := i) hxr5146)
      have hkw9 : κr5146 w = κ5139 w := hxr5146 w (by rw [hw.1]; decide)
      rw [← hkw9] at hsu htm
      have hko9 : κr5146 (cs (420 + i)) = κ5139 (cs (420 + i)) := hxr5146 _ (by rw [hpr.1]; decide)
      have hKW : κr5146 w = κ w := hkw9.trans hKW
      rw [← hko9] at hop1
      have hqr5140 := (hxr5146.f.t2 hqr5140 (by decide))
      have hw := (hxr5146.f.t2 hw (by decide))
      have hpr := (hxr5146.f.t2 hpr (by decide))
      have hml := (hxr5146.f.t2 hml (by decide))
      have hli := (hxr5146.f.t2 hli (by decide))
      obtain ⟨c5147, l5148, w5149, k5150, n5151, m5152, g5153, e5154, o5155⟩ := hqr5146
      have hMW := m5152
      obtain ⟨k5156, n5157, hGP⟩ : ∃ k9 n9, GP H0 _ ln l5148 k9 n9 := ⟨_, _, GP.tr (show GP H0 _ ln ln _ _ from ⟨hgb, hGN⟩) g5153⟩
      refine W.tight (k := k5156) (n := n5157) (by rw [hH0]; exact hGP.1) ?_
      have hGN : GN ln l5148 k5156 n5157 := hGP.2
      have hgk5156 := hGN.1
      have hgn5157 := hGN.2
      have hsk5156 := hMW.2.2.1.sum
      refine W.know (fun hg => ?_)
      rw [hH0] at hg
      exact en_v hx hb hr hlocks hL (show k5156 ≤ ((56 * sumN C 16 + 22407 - 2 * sumN ln 16) / 35) by omega) (show n5157 ≤ (56 * sumN C 16 + 22407 - 2 * sumN ln 16) by omega) dX7_giveUp_60 (⟨_, hKU, hT, hF, _, _, _, _, _, hMW, ⟨hg, hGN⟩, hKW, (by rw [EO.cl (by rw [hop1]; decide)]; omega)⟩)
    · refine lv_aload_n hx hb dX7_giveUp_51 rfl (lv_at hl 0 rfl) ?_
      refine cv_v (As := []) (rest := []) (b := r5140) ⟨hx, hb, hml, hown, hts⟩ (c_X3_dropPlan hT (w := r5140) hqr5140) (cwV 0 hts gX7_giveUp_X3_dropPlan rfl rfl rfl hdX3_dropPlan_v ⟨Nat.le_of_ble_eq_true rfl, Nat.le_of_ble_eq_true rfl⟩) hN hE hL (rcv4 hN hT hqr5140.1) rfl rfl hl.1 (Nat.le_of_ble_eq_true rfl) dX7_giveUp_52 (Nat.zero_le _) (Nat.zero_le _) (fun H1 locs hL hqr5158 => ?_)
      obtain ⟨hT1, hF1⟩ := hqr5158
      have hMW := hMW.fr hT hw hsu hF1 (by first | (simp; done) | (simp; omega) | omega) (by first | (simp; done) | (simp; omega) | omega)
      have hF := hF.tr ((hF1.kf hKF).mono (by simp))
      have hT := hT1
      refine lv_aload_n hx hb dX7_giveUp_55 rfl (lv_at hl 1 rfl) ?_
      refine lv_iconst (v := 5) hx hb dX7_giveUp_56 (by decide) ?_
      refine W.know (fun hgb => ?_)
      rw [hH0] at hgb
      refine cv_v (As := [.int 5]) (rest := []) (b := w) ⟨hx, hb, hml, hown, hts⟩ (c_X7_sendToOthers_d1 hT (w := w) hw (x := 5) hsu htm hMW (by decide) (q0 := q0) (pl := pl) (by omega)) (cwV 1 hts gX7_giveUp_X7_sendToOthers rfl rfl rfl hdX7_sendToOthers_v ⟨Nat.le_of_ble_eq_true rfl, Nat.le_of_ble_eq_true rfl⟩) hN hE hL (rcv8 hN hT hw.1) rfl rfl hl.1 (Nat.le_of_ble_eq_true rfl) dX7_giveUp_57 (show 0 + ((56 * sumN C 16 + 22407 - 2 * sumN ln 16) / 35) ≤ ((56 * sumN C 16 + 22407 - 2 * sumN ln 16) / 35) by omega) (show 0 + (56 * sumN C 16 + 22407 - 2 * sumN ln 16) ≤ (56 * sumN C 16 + 22407 - 2 * sumN ln 16) by omega) (fun H1 locs hL hqr5159 => ?_)
      obtain ⟨κr5159, hxr5159, hT1, hF1, hqr5159⟩ := hqr5159
      have hTo := hT
      have hwo := hw
      have hsuo := hsu
      have hF9 := hF1
      have hF := hF.tr ((hF1.kf hKF).mono (by simp))
      have hT := hT1
      have hKF := hKF.tr hxr5159.f
      have hKU : KU i κ κr5159 := hKU.tr (KX.u (i := i) hxr5159)
      have hkw9 : κr5159 w = κ5139 w := hxr5159 w (by rw [hw.1]; decide)
      rw [← hkw9] at hsu htm
      have hko9 : κr5159 (cs (420 + i)) = κ5139 (cs (420 + i)) := hxr5159 _ (by rw [hpr.1]; decide)
      have hKW : κr5159 w = κ w := hkw9.trans hKW
      rw [← hko9] at hop1
      have hqr5140 := (hxr5159.f.t2 hqr5140 (by decide))
      have hw := (hxr5159.f.t2 hw (by decide))
      have hpr := (hxr5159.f.t2 hpr (by decide))
      have hml := (hxr5159.f.t2 hml (by decide))
      have hli := (hxr5159.f.t2 hli (by decide))
      obtain ⟨c5160, l5161, w5162, k5163, n5164, m5165, g5166, e5167, o5168⟩ := hqr5159
      have hMW := m5165
      obtain ⟨k5169, n5170, hGP⟩ : ∃ k9 n9, GP H0 _ ln l5161 k9 n9 := ⟨_, _, GP.tr (show GP H0 _ ln ln _ _ from ⟨hgb, hGN⟩) g5166⟩
      refine W.tight (k := k5169) (n := n5170) (by rw [hH0]; exact hGP.1) ?_
      have hGN : GN ln l5161 k5169 n5170 := hGP.2
      have hgk5169 := hGN.1
      have hgn5170 := hGN.2
      have hsk5169 := hMW.2.2.1.sum
      refine W.know (fun hg => ?_)
      rw [hH0] at hg
      exact en_v hx hb hr hlocks hL (show k5169 ≤ ((56 * sumN C 16 + 22407 - 2 * sumN ln 16) / 35) by omega) (show n5170 ≤ (56 * sumN C 16 + 22407 - 2 * sumN ln 16) by omega) dX7_giveUp_60 (⟨_, hKU, hT, hF, _, _, _, _, _, hMW, ⟨hg, hGN⟩, hKW, (by rw [EO.cl (by rw [hop1]; decide)]; omega)⟩)
  · refine W.know (fun hg => ?_)
    rw [hH0] at hg
    exact en_v hx hb hr hlocks hL (Nat.zero_le _) (Nat.zero_le _) dX7_giveUp_37 (⟨_, hKU, hT, hF, _, _, _, _, _, hMW, ⟨hg, hGN⟩, hKW, (by rw [EO.cl (by rw [hop1]; decide)]; omega)⟩)
theorem mX7_receive_1 : (.fieldLink RX7 34 "OneBeat$World" "incoming" "LOneBeat$Letter;" : Cond) ∈ wsX7_receive := List.mem_of_getElem? (i := 1) (by decide +kernel)
theorem iX7_receive_7 : ∀ w ∈ wsX70, w ∈ wsX7_receive := fun w h => List.mem_of_mem_drop (List.mem_of_mem_take ((show wsX70 = (wsX7_receive.drop 80).take 16 by decide +kernel) ▸ h))
theorem iX7_receive_1 : ∀ w ∈ wsX10, w ∈ wsX7_receive := fun w h => List.mem_of_mem_drop (List.mem_of_mem_take ((show wsX10 = (wsX7_receive.drop 96).take 7 by decide +kernel) ▸ h))
theorem iX7_receive_3 : ∀ w ∈ wsX30, w ∈ wsX7_receive := fun w h => List.mem_of_mem_drop (List.mem_of_mem_take ((show wsX30 = (wsX7_receive.drop 103).take 10 by decide +kernel) ▸ h))
theorem mX7_receive_3 : (.fieldLink RX7 68 "OneBeat$World" "conductor" "I" : Cond) ∈ wsX7_receive := List.mem_of_getElem? (i := 3) (by decide +kernel)
theorem hdX7_isOpen_v : yX7_isOpen.cls = RX7 ∧ yX7_isOpen.cls ≠ "java/lang/invoke/MethodHandle" ∧ yX7_isOpen.cls ≠ "java/lang/invoke/VarHandle" ∧ (parseMethodDescriptor yX7_isOpen.desc).map (fun d => d.parameters.length) = some 1 := by decide +kernel
theorem mX7_receive_4 : (.fieldLink RX7 27 "OneBeat$World" "latest" "LOneBeat$Proposal;" : Cond) ∈ wsX7_receive := List.mem_of_getElem? (i := 4) (by decide +kernel)
theorem iX7_receive_4 : ∀ w ∈ wsX40, w ∈ wsX7_receive := fun w h => List.mem_of_mem_drop (List.mem_of_mem_take ((show wsX40 = (wsX7_receive.drop 113).take 8 by decide +kernel) ▸ h))
theorem mX7_receive_2 : (.fieldLink RX7 74 "OneBeat$World" "lost" "I" : Cond) ∈ wsX7_receive := List.mem_of_getElem? (i := 2) (by decide +kernel)
set_option maxHeartbeats 4000000 in
set_option maxRecDepth 100000 in
theorem c_X7_receive {l : Launch} {D : va_G} {cs : Nat → ClassId} {B0 T : Nat} {κ : KM} {H0 : Heap} (hT : WT B0 D cs T κ H0) {w i : Nat} (hw : T2 κ w 8 i) {C cn ln : Nat → Nat} {rw9 : Nat → Nat → Int32} {dl : Nat → Int32} {su tm : Nat} (hsu : (κ w).2.2.1 = su) (htm : (κ w).2.2.2 = tm) (hMW : MW D cs H0 i su tm C cn ln rw9 dl) {pl b : Nat} (hpl : pl < cn tm) (hb : EO C dl cn rw9 tm pl (κ (cs (420 + i))).2.2.1 ≤ b) (hb24 : b ≤ 24) {b0 b1 b2 b3 b4 b5 b6 : Int32} (hli9 : va_at D vwCl (cs (460 + i), .inr (1, [.int b0, .int b1, .int b2, .int b3, .int b4, .int b5, .int b6])) H0) (e0 : b0 = rw9 tm (7 * pl)) (e1 : b1 = rw9 tm (7 * pl + 1)) (e2 : b2 = rw9 tm (7 * pl + 2)) : KC l yX7_receive wsX7_receive 3 113 ((56 * sumN C 16 + 22407 - 2 * sumN ln 16) / 35) (56 * sumN C 16 + 22407 - 2 * sumN ln 16) D cs B0 H0 [.ref w] (Qv (fun H => ∃ κ1, KX κ κ1 ∧ WT B0 D cs T κ1 H ∧ Fr B0 [i, i + 20] κ H0 H ∧ ∃ cn1 ln1 rw1 k n, MW D cs H i su tm C cn1 ln1 rw1 dl ∧ GP H0 H ln ln1 k n ∧ EO C dl cn1 rw1 tm (pl + 1) (κ (cs (420 + i))).2.2.1 ≤ b ∧ ∀ q, q < 16 → cn q ≤ cn1 q)) := by
  refine KC.of cX7_receive 4 none (by decide) rfl (Nat.le_of_ble_eq_true rfl) ?_
  intro p e s m below meth c ls hx hb hr hml hown hts hlocks hin hN hE hH0 hl
  have hown : s.vm.findClass RX7 = some m.cls := hown
  have hl : lv_has ls 4 [(0, .ref w)] := hl
  have hL : OkL B0 [] := OkL.nil
  have hF : Fr B0 [i, i + 20] κ H0 H0 := Fr.rf
  obtain ⟨hml, hpr, hli, -, hi10⟩ := hT.ml hw
  have ht16 := hMW.2.2.2
  have hGN : GN ln ln 0 0 := GN.rf
  have hs0 := hMW.2.2.1.sum
  have hbli : B0 ≤ cs (460 + i) := (hT.o2 hli.1).1
  have hEE0 := Nat.le_trans (Nat.le_trans EO.le hb) hb24
  have hP : va_P D vwCl [((cs (460 + i)), .inr (1, [.int b0, .int b1, .int b2, .int b3, .int b4, .int b5, .int b6]))] _ := va_P.cons hli9 va_P.nil
  refine lv_aload_n hx hb dX7_receive_0 rfl (lv_at hl 0 rfl) ?_
  obtain ⟨hb5171, e5171, hat5171, hk5171⟩ := hT.o8 hw.1
  obtain ⟨f5171_0, f5171_1, f5171_2, f5171_3, f5171_4, f5171_5, f5171_6, f5171_7, f5171_8, f5171_9, f5171_10, f5171_11, f5171_12, f5171_13, f5171_14, f5171_15, rfl, t5171_0, c5171_su, t5171_1, t5171_2, t5171_3, t5171_4, t5171_5, c5171_tm, c5171_lt, c5171_ml, c5171_pr, c5171_li⟩ := hk5171
  rw [hw.2] at t5171_1
  rw [hw.2] at t5171_2
  rw [hw.2] at t5171_3
  rw [hw.2] at t5171_4
  rw [hw.2] at t5171_5
  rw [hw.2] at c5171_lt c5171_ml c5171_pr c5171_li
  subst c5171_ml
  subst c5171_pr
  subst c5171_li
  have esu5171 := (c5171_su.trans hsu).symm
  subst esu5171
  have ctm5171 : f5171_7 &&& 15 = nI tm := by rw [c5171_tm, htm]
  have hP : va_P D vwCl [(w, .inr (7, [.ref su, .ref f5171_1, .ref (cs (400 + i)), .ref (cs (420 + i)), .ref (cs (460 + i)), .ref f5171_5, .long f5171_6, .int f5171_7, .int f5171_8, .int f5171_9, .int f5171_10, .int f5171_11, .int f5171_12, .int f5171_13, .int f5171_14, .int f5171_15])), ((cs (460 + i)), .inr (1, [.int b0, .int b1, .int b2, .int b3, .int b4, .int b5, .int b6]))] _ := va_P.cons hat5171 hP
  refine va_get (D := D) (ci := 7) (v := .ref (cs (460 + i))) (C := RX7) (T := TX7) (N := 16) hx hb hts iX7_receive_7 hown hN.1 hP 0 rfl rfl 4 (by decide) (hts _ mX7_receive_1) (fun _ h9 => h9) rfl dX7_receive_1 ?_
  refine lv_astore_n (lv' := [(1, .ref (cs (460 + i))), (0, .ref w)]) hx hb dX7_receive_4 rfl hl (by decide) rfl (fun ls hl => ?_)
  refine lv_aload_n hx hb dX7_receive_5 rfl (lv_at hl 1 rfl) ?_
  refine lv_aload_n hx hb dX7_receive_6 rfl (lv_at hl 0 rfl) ?_
  refine va_getN (D := D) (ci := 1) (v := .int b2) (C := RX1) (T := TX1) (N := 7) hx hb hts iX7_receive_1 hown hN.1 hP 1 rfl rfl 2 (by decide) (hN.f 18 rfl) (fun _ h9 => h9) rfl dX7_receive_7 ?_
  refine cv_r (As := [.int b2]) (rest := []) (b := w) ⟨hx, hb, hml, hown, hts⟩ (c_X7_at hT (w := w) hw (x := b2)) (cwV 1 hts gX7_receive_X7_at rfl rfl rfl hdX7_at_v ⟨Nat.le_of_ble_eq_true rfl, Nat.le_of_ble_eq_true rfl⟩) hN hE hL (rcv8 hN hT hw.1) rfl rfl hl.1 (Nat.le_of_ble_eq_true rfl) dX7_receive_10 (Nat.zero_le _) (Nat.zero_le _) (fun r5172 H1 locs hL hqr5172 => ?_)
  obtain ⟨h9, hqr5172⟩ := hqr5172; replace h9 := h9.symm; subst h9
  refine lv_astore_n (lv' := [(2, .ref r5172), (1, .ref (cs (460 + i))), (0, .ref w)]) hx hb dX7_receive_13 rfl hl (by decide) rfl (fun ls hl => ?_)
  refine lv_aload_n hx hb dX7_receive_14 rfl (lv_at hl 0 rfl) ?_
  obtain ⟨hb5173, e5173, hat5173, hk5173⟩ := hT.o4 hqr5172.1
  obtain ⟨f5173_0, f5173_1, f5173_2, f5173_3, f5173_4, f5173_5, f5173_6, f5173_7, f5173_8, f5173_9, rfl, c5173_up⟩ := hk5173
  have hP : va_P D vwCl [(r5172, .inr (3, [.int f5173_0, .int f5173_1, .int f5173_2, .int f5173_3, .int f5173_4, .int f5173_5, .int f5173_6, .int f5173_7, .int f5173_8, .int f5173_9])), (w, .inr (7, [.ref su, .ref f5171_1, .ref (cs (400 + i)), .ref (cs (420 + i)), .ref (cs (460 + i)), .ref f5171_5, .long f5171_6, .int f5171_7, .int f5171_8, .int f5171_9, .int f5171_10, .int f5171_11, .int f5171_12, .int f5171_13, .int f5171_14, .int f5171_15])), ((cs (460 + i)), .inr (1, [.int b0, .int b1, .int b2, .int b3, .int b4, .int b5, .int b6]))] _ := va_P.cons hat5173 hP
  refine va_getN (D := D) (ci := 3) (v := .int f5173_0) (C := RX3) (T := TX3) (N := 10) hx hb hts iX7_receive_3 hown hN.1 hP 0 rfl rfl 0 (by decide) (hN.f 27 rfl) (fun _ h9 => h9) rfl dX7_receive_15 ?_
  refine lv_if_ne (tgt := 32) hx hb dX7_receive_18 (by decide) (fun c5174 => ?_) (fun c5174 => ?_)
  · refine lv_aload_n hx hb dX7_receive_32 rfl (lv_at hl 1 rfl) ?_
    refine va_getN (D := D) (ci := 1) (v := .int b0) (C := RX1) (T := TX1) (N := 7) hx hb hts iX7_receive_1 hown hN.1 hP 2 rfl rfl 0 (by decide) (hN.f 14 rfl) (fun _ h9 => h9) rfl dX7_receive_33 ?_
    by_cases c5175 : (b0 : Int32).toInt < (0 : Int) ∨ (4 : Int) < (b0 : Int32).toInt
    · refine lv_tableOut (tgt := 245) hx hb dX7_receive_36 c5175 (by decide) ?_
      refine lv_aload_n hx hb dX7_receive_245 rfl (lv_at hl 0 rfl) ?_
      refine va_getN (D := D) (ci := 3) (v := .int f5173_3) (C := RX3) (T := TX3) (N := 10) hx hb hts iX7_receive_3 hown hN.1 hP 0 rfl rfl 3 (by decide) (hN.f 31 rfl) (fun _ h9 => h9) rfl dX7_receive_246 ?_
      refine lv_iconst (v := 1) hx hb dX7_receive_249 (by decide) ?_
      refine lv_icmp_ne (tgt := 268) hx hb dX7_receive_250 (by decide) (fun c5176 => ?_) (fun c5176 => ?_)
      · refine W.know (fun hg => ?_)
        rw [hH0] at hg
        exact en_v hx hb hr hlocks hL (Nat.zero_le _) (Nat.zero_le _) dX7_receive_268 (⟨_, KX.rf, hT, hF, _, _, _, _, _, hMW, ⟨hg, hGN⟩, EO.rd hb ht16 hpl, fun _ _ => Nat.le_refl _⟩)
      · refine lv_aload_n hx hb dX7_receive_253 rfl (lv_at hl 0 rfl) ?_
        refine va_getN (D := D) (ci := 3) (v := .int f5173_4) (C := RX3) (T := TX3) (N := 10) hx hb hts iX7_receive_3 hown hN.1 hP 0 rfl rfl 4 (by decide) (hN.f 32 rfl) (fun _ h9 => h9) rfl dX7_receive_254 ?_
        refine lv_aload_n hx hb dX7_receive_257 rfl (lv_at hl 1 rfl) ?_
        refine va_getN (D := D) (ci := 1) (v := .int b4) (C := RX1) (T := TX1) (N := 7) hx hb hts iX7_receive_1 hown hN.1 hP 2 rfl rfl 4 (by decide) (hN.f 22 rfl) (fun _ h9 => h9) rfl dX7_receive_258 ?_
        refine lv_icmp_ne (tgt := 268) hx hb dX7_receive_261 (by decide) (fun c5177 => ?_) (fun c5177 => ?_)
        · refine W.know (fun hg => ?_)
          rw [hH0] at hg
          exact en_v hx hb hr hlocks hL (Nat.zero_le _) (Nat.zero_le _) dX7_receive_268 (⟨_, KX.rf, hT, hF, _, _, _, _, _, hMW, ⟨hg, hGN⟩, EO.rd hb ht16 hpl, fun _ _ => Nat.le_refl _⟩)
        · refine lv_aload_n hx hb dX7_receive_264 rfl (lv_at hl 0 rfl) ?_
          refine cv_v (As := []) (rest := []) (b := r5172) ⟨hx, hb, hml, hown, hts⟩ (c_X3_dropPlan hT (w := r5172) hqr5172) (cwV 0 hts gX7_receive_X3_dropPlan rfl rfl rfl hdX3_dropPlan_v ⟨Nat.le_of_ble_eq_true rfl, Nat.le_of_ble_eq_true rfl⟩) hN hE hL (rcv4 hN hT hqr5172.1) rfl rfl hl.1 (Nat.le_of_ble_eq_true rfl) dX7_receive_265 (Nat.zero_le _) (Nat.zero_le _) (fun H1 locs hL hqr5178 => ?_)
          obtain ⟨hT1, hF1⟩ := hqr5178
          have hP : va_P D vwCl [((cs (460 + i)), .inr (1, [.int b0, .int b1, .int b2, .int b3, .int b4, .int b5, .int b6]))] _ := hF1.hP (hP.sub [2] rfl) (fa_c ⟨by rw [hli.1]; decide, by rw [hli.2]; first | decide | (simp; done) | (simp; omega)⟩ fa_n)
          have hMW := hMW.fr hT hw hsu hF1 (by first | (simp; done) | (simp; omega) | omega) (by first | (simp; done) | (simp; omega) | omega)
          have hF := hF.tr (hF1.mono (by simp))
          have hT := hT1
          refine W.know (fun hg => ?_)
          rw [hH0] at hg
          exact en_v hx hb hr hlocks hL (Nat.zero_le _) (Nat.zero_le _) dX7_receive_268 (⟨_, KX.rf, hT, hF, _, _, _, _, _, hMW, ⟨hg, hGN⟩, EO.rd hb ht16 hpl, fun _ _ => Nat.le_refl _⟩)
    · rcases sw_0_4 c5175 with rfl | rfl | rfl | rfl | rfl
      · refine lv_tableIn (tgt := 72) (off := 36) hx hb dX7_receive_36 (by decide) (by decide) (by decide) (by decide) ?_
        refine lv_aload_n hx hb dX7_receive_72 rfl (lv_at hl 2 rfl) ?_
        refine lv_iconst (v := 1) hx hb dX7_receive_73 (by decide) ?_
        refine lv_aload_n hx hb dX7_receive_74 rfl (lv_at hl 1 rfl) ?_
        refine va_getN (D := D) (ci := 1) (v := .int b2) (C := RX1) (T := TX1) (N := 7) hx hb hts iX7_receive_1 hown hN.1 hP 2 rfl rfl 2 (by decide) (hN.f 18 rfl) (fun _ h9 => h9) rfl dX7_receive_75 ?_
        refine lv_aload_n hx hb dX7_receive_78 rfl (lv_at hl 1 rfl) ?_
        refine va_getN (D := D) (ci := 1) (v := .int b1) (C := RX1) (T := TX1) (N := 7) hx hb hts iX7_receive_1 hown hN.1 hP 2 rfl rfl 1 (by decide) (hN.f 16 rfl) (fun _ h9 => h9) rfl dX7_receive_79 ?_
        refine lv_iconst (v := (-1)) hx hb dX7_receive_82 (by decide) ?_
        refine lv_aload_n hx hb dX7_receive_83 rfl (lv_at hl 1 rfl) ?_
        refine va_getN (D := D) (ci := 1) (v := .int b5) (C := RX1) (T := TX1) (N := 7) hx hb hts iX7_receive_1 hown hN.1 hP 2 rfl rfl 5 (by decide) (hN.f 24 rfl) (fun _ h9 => h9) rfl dX7_receive_84 ?_
        refine lv_aload_n hx hb dX7_receive_87 rfl (lv_at hl 2 rfl) ?_
        refine lv_aload_n hx hb dX7_receive_88 rfl (lv_at hl 1 rfl) ?_
        refine va_getN (D := D) (ci := 1) (v := .int b2) (C := RX1) (T := TX1) (N := 7) hx hb hts iX7_receive_1 hown hN.1 hP 2 rfl rfl 2 (by decide) (hN.f 18 rfl) (fun _ h9 => h9) rfl dX7_receive_89 ?_
        refine cv_i (As := [.int b2]) (rest := [.int b5, .int (-1), .int b1, .int b2, .int 1, .ref w]) (b := w) ⟨hx, hb, hml, hown, hts⟩ (c_X7_clock hT (w := w) hw (x := b2)) (cwV 1 hts gX7_receive_X7_clock rfl rfl rfl hdX7_clock_v ⟨Nat.le_of_ble_eq_true rfl, Nat.le_of_ble_eq_true rfl⟩) hN hE hL (rcv8 hN hT hw.1) rfl rfl hl.1 (Nat.le_of_ble_eq_true rfl) dX7_receive_92 (Nat.zero_le _) (Nat.zero_le _) (fun r5179 H1 locs hL hqr5179 => ?_)
        obtain rfl := hqr5179.symm
        have hM9 : ∀ j, j < 16 → 2 * ln j + 7 ≤ 2 * sumN ln 16 + 7 := fun j hj => by have := sumN_at (f := ln) hj; omega
        have hcn := EE_cb hEE0
        refine W.know (fun hgb => ?_)
        rw [hH0] at hgb
        refine cv_i (As := [.int 1, .int b2, .int b1, .int (-1), .int b5, .int r5179]) (rest := []) (b := w) ⟨hx, hb, hml, hown, hts⟩ (c_X7_send hT (w := w) hw (x := 1) (y := b2) (z := b1) (u := (-1)) (v := b5) (t := r5179) hsu htm hMW hcn hM9) (cwV 6 hts gX7_receive_X7_send rfl rfl rfl hdX7_send_v ⟨Nat.le_of_ble_eq_true rfl, Nat.le_of_ble_eq_true rfl⟩) hN hE hL (rcv8 hN hT hw.1) rfl rfl hl.1 (Nat.le_of_ble_eq_true rfl) dX7_receive_95 (show 0 + 1 ≤ ((56 * sumN C 16 + 22407 - 2 * sumN ln 16) / 35) by omega) (show 0 + (2 * sumN ln 16 + 7) ≤ (56 * sumN C 16 + 22407 - 2 * sumN ln 16) by omega) (fun r5180 H1 locs hL hqr5180 => ?_)
        obtain ⟨κr5180, hxr5180, hT1, hF1, hqr5180⟩ := hqr5180
        have hTo := hT
        have hwo := hw
        have hsuo := hsu
        have hF9 := hF1
        have hF := hF.tr (hF1.mono (by simp))
        have hT := hT1
        have hKF : KF κ κr5180 := hxr5180.f
        have hKX : KX κ κr5180 := hxr5180
        have hkw9 : κr5180 w = κ w := hxr5180 w (by rw [hw.1]; decide)
        rw [← hkw9] at hsu htm
        have hqr5172 := (hxr5180.f.t2 hqr5172 (by decide))
        have t5171_4 := (hxr5180.f.t2 t5171_4 (by decide))
        have hw := (hxr5180.f.t2 hw (by decide))
        have hpr := (hxr5180.f.t2 hpr (by decide))
        have hml := (hxr5180.f.t2 hml (by decide))
        have hli := (hxr5180.f.t2 hli (by decide))
        obtain ⟨c5181, l5182, w5183, k5184, n5185, m5186, g5187, s5188⟩ := hqr5180
        have hMW := m5186
        obtain ⟨k5189, n5190, hGP⟩ : ∃ k9 n9, GP H0 _ ln l5182 k9 n9 := ⟨_, _, GP.tr (show GP H0 _ ln ln _ _ from ⟨hgb, hGN⟩) g5187⟩
        refine W.tight (k := k5189) (n := n5190) (by rw [hH0]; exact hGP.1) ?_
        have hGN : GN ln l5182 k5189 n5190 := hGP.2
        have hgk5189 := hGN.1
        have hgn5190 := hGN.2
        have hsk5189 := hMW.2.2.1.sum
        have hE1 := s5188.rp (C := C) ht16 hpl (by decide) (by decide) e0 e1 e2
        refine lv_pop hx hb dX7_receive_98 rfl ?_
        refine lv_goto (tgt := 268) hx hb dX7_receive_99 (by decide) ?_
        refine W.know (fun hg => ?_)
        rw [hH0] at hg
        exact en_v hx hb hr hlocks hL (show k5189 ≤ ((56 * sumN C 16 + 22407 - 2 * sumN ln 16) / 35) by omega) (show n5190 ≤ (56 * sumN C 16 + 22407 - 2 * sumN ln 16) by omega) dX7_receive_268 (⟨_, hKX, hT, hF, _, _, _, _, _, hMW, ⟨hg, hGN⟩, EO.rp hb hE1, s5188.mono⟩)
      · refine lv_tableIn (tgt := 102) (off := 66) hx hb dX7_receive_36 (by decide) (by decide) (by decide) (by decide) ?_
        refine lv_aload_n hx hb dX7_receive_102 rfl (lv_at hl 1 rfl) ?_
        refine va_getN (D := D) (ci := 1) (v := .int b2) (C := RX1) (T := TX1) (N := 7) hx hb hts iX7_receive_1 hown hN.1 hP 2 rfl rfl 2 (by decide) (hN.f 18 rfl) (fun _ h9 => h9) rfl dX7_receive_103 ?_
        refine lv_aload_n hx hb dX7_receive_106 rfl (lv_at hl 2 rfl) ?_
        refine va_get (D := D) (ci := 7) (v := .int f5171_8) (C := RX7) (T := TX7) (N := 16) hx hb hts iX7_receive_7 hown hN.1 hP 1 rfl rfl 8 (by decide) (hts _ mX7_receive_3) (fun _ h9 => h9) rfl dX7_receive_107 ?_
        refine lv_icmp_eq (tgt := 268) hx hb dX7_receive_110 (by decide) (fun c5191 => ?_) (fun c5191 => ?_)
        · refine W.know (fun hg => ?_)
          rw [hH0] at hg
          exact en_v hx hb hr hlocks hL (Nat.zero_le _) (Nat.zero_le _) dX7_receive_268 (⟨_, KX.rf, hT, hF, _, _, _, _, _, hMW, ⟨hg, hGN⟩, EO.rd hb ht16 hpl, fun _ _ => Nat.le_refl _⟩)
        · refine lv_aload_n hx hb dX7_receive_113 rfl (lv_at hl 2 rfl) ?_
          refine lv_aload_n hx hb dX7_receive_114 rfl (lv_at hl 1 rfl) ?_
          refine va_getN (D := D) (ci := 1) (v := .int b2) (C := RX1) (T := TX1) (N := 7) hx hb hts iX7_receive_1 hown hN.1 hP 2 rfl rfl 2 (by decide) (hN.f 18 rfl) (fun _ h9 => h9) rfl dX7_receive_115 ?_
          refine cv_i (As := [.int b2]) (rest := []) (b := w) ⟨hx, hb, hml, hown, hts⟩ (c_X7_clock hT (w := w) hw (x := b2)) (cwV 1 hts gX7_receive_X7_clock rfl rfl rfl hdX7_clock_v ⟨Nat.le_of_ble_eq_true rfl, Nat.le_of_ble_eq_true rfl⟩) hN hE hL (rcv8 hN hT hw.1) rfl rfl hl.1 (Nat.le_of_ble_eq_true rfl) dX7_receive_118 (Nat.zero_le _) (Nat.zero_le _) (fun r5192 H1 locs hL hqr5192 => ?_)
          obtain rfl := hqr5192.symm
          refine lv_istore_n (lv' := [(3, .int r5192), (2, .ref r5172), (1, .ref (cs (460 + i))), (0, .ref w)]) hx hb dX7_receive_121 rfl hl (by decide) rfl (fun ls hl => ?_)
          refine lv_aload_n hx hb dX7_receive_122 rfl (lv_at hl 1 rfl) ?_
          refine lv_aload_n hx hb dX7_receive_123 rfl (lv_at hl 2 rfl) ?_
          refine va_getN (D := D) (ci := 1) (v := .int b6) (C := RX1) (T := TX1) (N := 7) hx hb hts iX7_receive_1 hown hN.1 hP 2 rfl rfl 6 (by decide) (hN.f 26 rfl) (fun _ h9 => h9) rfl dX7_receive_124 ?_
          refine lv_iload_n hx hb dX7_receive_127 rfl (lv_at hl 0 rfl) ?_
          refine lv_aload_n hx hb dX7_receive_128 rfl (lv_at hl 2 rfl) ?_
          refine va_getN (D := D) (ci := 1) (v := .int b5) (C := RX1) (T := TX1) (N := 7) hx hb hts iX7_receive_1 hown hN.1 hP 2 rfl rfl 5 (by decide) (hN.f 24 rfl) (fun _ h9 => h9) rfl dX7_receive_129 ?_
          refine lv_isub hx hb dX7_receive_132 ?_
          refine gn_i (fun x5193 => ?_)
          refine lv_iconst (v := 2) hx hb dX7_receive_133 (by decide) ?_
          refine lv_idiv hx hb dX7_receive_134 (by decide) ?_
          refine gn_i (fun x5194 => ?_)
          refine lv_iadd hx hb dX7_receive_135 ?_
          refine gn_i (fun x5195 => ?_)
          refine lv_iload_n hx hb dX7_receive_136 rfl (lv_at hl 0 rfl) ?_
          refine lv_isub hx hb dX7_receive_137 ?_
          refine gn_i (fun x5196 => ?_)
          have hB : Bx B0 D _ [(r5172, .inr (3, [.int f5173_0, .int f5173_1, .int f5173_2, .int f5173_3, .int f5173_4, .int f5173_5, .int f5173_6, .int f5173_7, .int f5173_8, .int f5173_9])), (w, .inr (7, [.ref su, .ref f5171_1, .ref (cs (400 + i)), .ref (cs (420 + i)), .ref (cs (460 + i)), .ref f5171_5, .long f5171_6, .int f5171_7, .int f5171_8, .int f5171_9, .int f5171_10, .int f5171_11, .int f5171_12, .int f5171_13, .int f5171_14, .int f5171_15])), ((cs (460 + i)), .inr (1, [.int 1, .int b1, .int b2, .int b3, .int b4, .int b5, .int b6]))] [] _ _ := Bx.of (fun a => (κ a).1) hL hP (fa_c hb5173 (fa_c hb5171 (fa_c hbli fa_n))) (by simp only [List.map_cons, List.map_nil, hqr5172.1, hw.1, hli.1]; decide)
          refine b_putN (D := D) (ci := 3) (v := .int x5196) (ty := .int) (C := RX3) (T := TX3) (N := 10) hx hb hts iX7_receive_3 tyX3 tyX3_ok nmX3 hown hN hB 0 rfl rfl 1 (by decide) (hN.f 29 rfl) (fun _ h9 => h9) rfl (by decide +kernel) rfl rfl (Nat.le_of_ble_eq_true rfl) (.inl rfl) dX7_receive_138 (fun H locs hB => ?_)
          have hB : Bx B0 D _ [(r5172, .inr (3, [.int f5173_0, .int x5196, .int f5173_2, .int f5173_3, .int f5173_4, .int f5173_5, .int f5173_6, .int f5173_7, .int f5173_8, .int f5173_9])), (w, .inr (7, [.ref su, .ref f5171_1, .ref (cs (400 + i)), .ref (cs (420 + i)), .ref (cs (460 + i)), .ref f5171_5, .long f5171_6, .int f5171_7, .int f5171_8, .int f5171_9, .int f5171_10, .int f5171_11, .int f5171_12, .int f5171_13, .int f5171_14, .int f5171_15])), ((cs (460 + i)), .inr (1, [.int 1, .int b1, .int b2, .int b3, .int b4, .int b5, .int b6]))] [r5172] _ _ := hB
          refine lv_goto (tgt := 268) hx hb dX7_receive_141 (by decide) ?_
          have hMW := hMW.fr hT hw hsu (Fr.close (S := [i]) Fr.rf hB (fa_c (by simp [hqr5172.2]) fa_n)) (by first | (simp; done) | (simp; omega) | omega) (by first | (simp; done) | (simp; omega) | omega)
          have hT : WT B0 D cs T κ _ := hT.close hB ⟨⟨0, _, rfl, ok_4 hqr5172.1 ⟨_, _, _, _, _, _, _, _, _, _, rfl, c5173_up⟩⟩, trivial⟩
          have hF : Fr B0 [i, i + 20] κ H0 _ := hF.close hB (fa_c (by simp [hqr5172.2]) fa_n)
          have hL : OkL B0 _ := hB.2.2.2.2.2
          have hP : va_P D vwCl [(r5172, .inr (3, [.int f5173_0, .int x5196, .int f5173_2, .int f5173_3, .int f5173_4, .int f5173_5, .int f5173_6, .int f5173_7, .int f5173_8, .int f5173_9])), (w, .inr (7, [.ref su, .ref f5171_1, .ref (cs (400 + i)), .ref (cs (420 + i)), .ref (cs (460 + i)), .ref f5171_5, .long f5171_6, .int f5171_7, .int f5171_8, .int f5171_9, .int f5171_10, .int f5171_11, .int f5171_12, .int f5171_13, .int f5171_14, .int f5171_15])), ((cs (460 + i)), .inr (1, [.int 1, .int b1, .int b2, .int b3, .int b4, .int b5, .int b6]))] _ := hB.1
          refine W.know (fun hg => ?_)
          rw [hH0] at hg
          exact en_v hx hb hr hlocks hL (Nat.zero_le _) (Nat.zero_le _) dX7_receive_268 (⟨_, KX.rf, hT, hF, _, _, _, _, _, hMW, ⟨hg, hGN⟩, EO.rd hb ht16 hpl, fun _ _ => Nat.le_refl _⟩)
      · refine lv_tableIn (tgt := 144) (off := 108) hx hb dX7_receive_36 (by decide) (by decide) (by decide) (by decide) ?_
        refine lv_aload_n hx hb dX7_receive_144 rfl (lv_at hl 0 rfl) ?_
        refine lv_aload_n hx hb dX7_receive_145 rfl (lv_at hl 1 rfl) ?_
        refine va_getN (D := D) (ci := 1) (v := .int b4) (C := RX1) (T := TX1) (N := 7) hx hb hts iX7_receive_1 hown hN.1 hP 2 rfl rfl 4 (by decide) (hN.f 22 rfl) (fun _ h9 => h9) rfl dX7_receive_146 ?_
        refine lv_aload_n hx hb dX7_receive_149 rfl (lv_at hl 1 rfl) ?_
        refine va_getN (D := D) (ci := 1) (v := .int b5) (C := RX1) (T := TX1) (N := 7) hx hb hts iX7_receive_1 hown hN.1 hP 2 rfl rfl 5 (by decide) (hN.f 24 rfl) (fun _ h9 => h9) rfl dX7_receive_150 ?_
        refine lv_aload_n hx hb dX7_receive_153 rfl (lv_at hl 1 rfl) ?_
        refine va_getN (D := D) (ci := 1) (v := .int b6) (C := RX1) (T := TX1) (N := 7) hx hb hts iX7_receive_1 hown hN.1 hP 2 rfl rfl 6 (by decide) (hN.f 26 rfl) (fun _ h9 => h9) rfl dX7_receive_154 ?_
        refine lv_iconst (v := 1) hx hb dX7_receive_157 (by decide) ?_
        refine cv_v (As := [.int b4, .int b5, .int b6, .int 1]) (rest := []) (b := r5172) ⟨hx, hb, hml, hown, hts⟩ (c_X3_takePlan hT (w := r5172) hqr5172 (x := b4) (y := b5) (z := b6) (u := 1)) (cwV 4 hts gX7_receive_X3_takePlan rfl rfl rfl hdX3_takePlan_v ⟨Nat.le_of_ble_eq_true rfl, Nat.le_of_ble_eq_true rfl⟩) hN hE hL (rcv4 hN hT hqr5172.1) rfl rfl hl.1 (Nat.le_of_ble_eq_true rfl) dX7_receive_158 (Nat.zero_le _) (Nat.zero_le _) (fun H1 locs hL hqr5197 => ?_)
        obtain ⟨hT1, hF1⟩ := hqr5197
        have hP : va_P D vwCl [((cs (460 + i)), .inr (1, [.int 2, .int b1, .int b2, .int b3, .int b4, .int b5, .int b6]))] _ := hF1.hP (hP.sub [2] rfl) (fa_c ⟨by rw [hli.1]; decide, by rw [hli.2]; first | decide | (simp; done) | (simp; omega)⟩ fa_n)
        have hMW := hMW.fr hT hw hsu hF1 (by first | (simp; done) | (simp; omega) | omega) (by first | (simp; done) | (simp; omega) | omega)
        have hF := hF.tr (hF1.mono (by simp))
        have hT := hT1
        refine lv_aload_n hx hb dX7_receive_161 rfl (lv_at hl 2 rfl) ?_
        refine lv_iconst (v := 3) hx hb dX7_receive_162 (by decide) ?_
        refine lv_aload_n hx hb dX7_receive_163 rfl (lv_at hl 1 rfl) ?_
        refine va_getN (D := D) (ci := 1) (v := .int b2) (C := RX1) (T := TX1) (N := 7) hx hb hts iX7_receive_1 hown hN.1 hP 0 rfl rfl 2 (by decide) (hN.f 18 rfl) (fun _ h9 => h9) rfl dX7_receive_164 ?_
        refine lv_aload_n hx hb dX7_receive_167 rfl (lv_at hl 1 rfl) ?_
        refine va_getN (D := D) (ci := 1) (v := .int b1) (C := RX1) (T := TX1) (N := 7) hx hb hts iX7_receive_1 hown hN.1 hP 0 rfl rfl 1 (by decide) (hN.f 16 rfl) (fun _ h9 => h9) rfl dX7_receive_168 ?_
        refine lv_aload_n hx hb dX7_receive_171 rfl (lv_at hl 1 rfl) ?_
        refine va_getN (D := D) (ci := 1) (v := .int b4) (C := RX1) (T := TX1) (N := 7) hx hb hts iX7_receive_1 hown hN.1 hP 0 rfl rfl 4 (by decide) (hN.f 22 rfl) (fun _ h9 => h9) rfl dX7_receive_172 ?_
        refine lv_iconst (v := 0) hx hb dX7_receive_175 (by decide) ?_
        refine lv_iconst (v := 0) hx hb dX7_receive_176 (by decide) ?_
        have hM9 : ∀ j, j < 16 → 2 * ln j + 7 ≤ 2 * sumN ln 16 + 7 := fun j hj => by have := sumN_at (f := ln) hj; omega
        have hcn := EE_cb hEE0
        refine W.know (fun hgb => ?_)
        rw [hH0] at hgb
        refine cv_i (As := [.int 3, .int b2, .int b1, .int b4, .int 0, .int 0]) (rest := []) (b := w) ⟨hx, hb, hml, hown, hts⟩ (c_X7_send hT (w := w) hw (x := 3) (y := b2) (z := b1) (u := b4) (v := 0) (t := 0) hsu htm hMW hcn hM9) (cwV 6 hts gX7_receive_X7_send rfl rfl rfl hdX7_send_v ⟨Nat.le_of_ble_eq_true rfl, Nat.le_of_ble_eq_true rfl⟩) hN hE hL (rcv8 hN hT hw.1) rfl rfl hl.1 (Nat.le_of_ble_eq_true rfl) dX7_receive_177 (show 0 + 1 ≤ ((56 * sumN C 16 + 22407 - 2 * sumN ln 16) / 35) by omega) (show 0 + (2 * sumN ln 16 + 7) ≤ (56 * sumN C 16 + 22407 - 2 * sumN ln 16) by omega) (fun r5198 H1 locs hL hqr5198 => ?_)
        obtain ⟨κr5198, hxr5198, hT1, hF1, hqr5198⟩ := hqr5198
        have hTo := hT
        have hwo := hw
        have hsuo := hsu
        have hF9 := hF1
        have hF := hF.tr (hF1.mono (by simp))
        have hT := hT1
        have hKF : KF κ κr5198 := hxr5198.f
        have hKX : KX κ κr5198 := hxr5198
        have hkw9 : κr5198 w = κ w := hxr5198 w (by rw [hw.1]; decide)
        rw [← hkw9] at hsu htm
        have hqr5172 := (hxr5198.f.t2 hqr5172 (by decide))
        have t5171_4 := (hxr5198.f.t2 t5171_4 (by decide))
        have hw := (hxr5198.f.t2 hw (by decide))
        have hpr := (hxr5198.f.t2 hpr (by decide))
        have hml := (hxr5198.f.t2 hml (by decide))
        have hli := (hxr5198.f.t2 hli (by decide))
        obtain ⟨c5199, l5200, w5201, k5202, n5203, m5204, g5205, s5206⟩ := hqr5198
        have hMW := m5204
        obtain ⟨k5207, n5208, hGP⟩ : ∃ k9 n9, GP H0 _ ln l5200 k9 n9 := ⟨_, _, GP.tr (show GP H0 _ ln ln _ _ from ⟨hgb, hGN⟩) g5205⟩
        refine W.tight (k := k5207) (n := n5208) (by rw [hH0]; exact hGP.1) ?_
        have hGN : GN ln l5200 k5207 n5208 := hGP.2
        have hgk5207 := hGN.1
        have hgn5208 := hGN.2
        have hsk5207 := hMW.2.2.1.sum
        have hE1 := s5206.rp (C := C) ht16 hpl (by decide) (by decide) e0 e1 e2
        refine lv_pop hx hb dX7_receive_180 rfl ?_
        refine lv_goto (tgt := 268) hx hb dX7_receive_181 (by decide) ?_
        refine W.know (fun hg => ?_)
        rw [hH0] at hg
        exact en_v hx hb hr hlocks hL (show k5207 ≤ ((56 * sumN C 16 + 22407 - 2 * sumN ln 16) / 35) by omega) (show n5208 ≤ (56 * sumN C 16 + 22407 - 2 * sumN ln 16) by omega) dX7_receive_268 (⟨_, hKX, hT, hF, _, _, _, _, _, hMW, ⟨hg, hGN⟩, EO.rp hb hE1, s5206.mono⟩)
      · refine lv_tableIn (tgt := 184) (off := 148) hx hb dX7_receive_36 (by decide) (by decide) (by decide) (by decide) ?_
        refine lv_aload_n hx hb dX7_receive_184 rfl (lv_at hl 2 rfl) ?_
        refine lv_aload_n hx hb dX7_receive_185 rfl (lv_at hl 1 rfl) ?_
        refine va_getN (D := D) (ci := 1) (v := .int b4) (C := RX1) (T := TX1) (N := 7) hx hb hts iX7_receive_1 hown hN.1 hP 2 rfl rfl 4 (by decide) (hN.f 22 rfl) (fun _ h9 => h9) rfl dX7_receive_186 ?_
        refine cv_i (As := [.int b4]) (rest := []) (b := w) ⟨hx, hb, hml, hown, hts⟩ (c_X7_isOpen hT (w := w) hw (x := b4)) (cwV 1 hts gX7_receive_X7_isOpen rfl rfl rfl hdX7_isOpen_v ⟨Nat.le_of_ble_eq_true rfl, Nat.le_of_ble_eq_true rfl⟩) hN hE hL (rcv8 hN hT hw.1) rfl rfl hl.1 (Nat.le_of_ble_eq_true rfl) dX7_receive_189 (Nat.zero_le _) (Nat.zero_le _) (fun r5209 H1 locs hL hqr5209 => ?_)
        obtain ⟨h9, hqr5209⟩ := hqr5209; replace h9 := h9.symm; subst h9
        rcases hqr5209 with rfl | rfl
        · refine lv_if_eq (tgt := 268) hx hb dX7_receive_192 (by decide) (fun _ => ?_) (fun c9 => absurd (by decide) c9)
          refine W.know (fun hg => ?_)
          rw [hH0] at hg
          exact en_v hx hb hr hlocks hL (Nat.zero_le _) (Nat.zero_le _) dX7_receive_268 (⟨_, KX.rf, hT, hF, _, _, _, _, _, hMW, ⟨hg, hGN⟩, EO.rd hb ht16 hpl, fun _ _ => Nat.le_refl _⟩)
        · refine lv_if_eq (tgt := 268) hx hb dX7_receive_192 (by decide) (fun c9 => absurd c9 (by decide)) (fun _ => ?_)
          refine lv_aload_n hx hb dX7_receive_195 rfl (lv_at hl 1 rfl) ?_
          refine va_getN (D := D) (ci := 1) (v := .int b2) (C := RX1) (T := TX1) (N := 7) hx hb hts iX7_receive_1 hown hN.1 hP 2 rfl rfl 2 (by decide) (hN.f 18 rfl) (fun _ h9 => h9) rfl dX7_receive_196 ?_
          refine lv_aload_n hx hb dX7_receive_199 rfl (lv_at hl 2 rfl) ?_
          refine va_get (D := D) (ci := 7) (v := .ref (cs (420 + i))) (C := RX7) (T := TX7) (N := 16) hx hb hts iX7_receive_7 hown hN.1 hP 1 rfl rfl 3 (by decide) (hts _ mX7_receive_4) (fun _ h9 => h9) rfl dX7_receive_200 ?_
          obtain ⟨hb5210, e5210, hat5210, hk5210⟩ := hT.o5 t5171_3.1
          obtain ⟨f5210_0, f5210_1, f5210_2, f5210_3, f5210_4, f5210_5, f5210_6, f5210_7, rfl, c5210⟩ := hk5210
          have hP : va_P D vwCl [((cs (420 + i)), .inr (4, [.int f5210_0, .int f5210_1, .int f5210_2, .int f5210_3, .int f5210_4, .int f5210_5, .int f5210_6, .int f5210_7])), (r5172, .inr (3, [.int f5173_0, .int f5173_1, .int f5173_2, .int f5173_3, .int f5173_4, .int f5173_5, .int f5173_6, .int f5173_7, .int f5173_8, .int f5173_9])), (w, .inr (7, [.ref su, .ref f5171_1, .ref (cs (400 + i)), .ref (cs (420 + i)), .ref (cs (460 + i)), .ref f5171_5, .long f5171_6, .int f5171_7, .int f5171_8, .int f5171_9, .int f5171_10, .int f5171_11, .int f5171_12, .int f5171_13, .int f5171_14, .int f5171_15])), ((cs (460 + i)), .inr (1, [.int 3, .int b1, .int b2, .int b3, .int b4, .int b5, .int b6]))] _ := va_P.cons hat5210 hP
          refine va_getN (D := D) (ci := 4) (v := .int f5210_3) (C := RX4) (T := TX4) (N := 8) hx hb hts iX7_receive_4 hown hN.1 hP 0 rfl rfl 3 (by decide) (hN.f 9 rfl) (fun _ h9 => h9) rfl dX7_receive_203 ?_
          refine lv_icmp_ne (tgt := 268) hx hb dX7_receive_206 (by decide) (fun c5211 => ?_) (fun c5211 => ?_)
          · refine W.know (fun hg => ?_)
            rw [hH0] at hg
            exact en_v hx hb hr hlocks hL (Nat.zero_le _) (Nat.zero_le _) dX7_receive_268 (⟨_, KX.rf, hT, hF, _, _, _, _, _, hMW, ⟨hg, hGN⟩, EO.rd hb ht16 hpl, fun _ _ => Nat.le_refl _⟩)
          · refine lv_aload_n hx hb dX7_receive_209 rfl (lv_at hl 2 rfl) ?_
            refine va_get (D := D) (ci := 7) (v := .ref (cs (420 + i))) (C := RX7) (T := TX7) (N := 16) hx hb hts iX7_receive_7 hown hN.1 hP 2 rfl rfl 3 (by decide) (hts _ mX7_receive_4) (fun _ h9 => h9) rfl dX7_receive_210 ?_
            refine lv_dup hx hb dX7_receive_213 rfl ?_
            refine va_getN (D := D) (ci := 4) (v := .int f5210_4) (C := RX4) (T := TX4) (N := 8) hx hb hts iX7_receive_4 hown hN.1 hP 0 rfl rfl 4 (by decide) (hN.f 10 rfl) (fun _ h9 => h9) rfl dX7_receive_214 ?_
            refine lv_iconst (v := 1) hx hb dX7_receive_217 (by decide) ?_
            refine lv_iadd hx hb dX7_receive_218 ?_
            refine gn_i (fun x5212 => ?_)
            have hB : Bx B0 D _ [((cs (420 + i)), .inr (4, [.int f5210_0, .int f5210_1, .int f5210_2, .int f5210_3, .int f5210_4, .int f5210_5, .int f5210_6, .int f5210_7])), (r5172, .inr (3, [.int f5173_0, .int f5173_1, .int f5173_2, .int f5173_3, .int f5173_4, .int f5173_5, .int f5173_6, .int f5173_7, .int f5173_8, .int f5173_9])), (w, .inr (7, [.ref su, .ref f5171_1, .ref (cs (400 + i)), .ref (cs (420 + i)), .ref (cs (460 + i)), .ref f5171_5, .long f5171_6, .int f5171_7, .int f5171_8, .int f5171_9, .int f5171_10, .int f5171_11, .int f5171_12, .int f5171_13, .int f5171_14, .int f5171_15])), ((cs (460 + i)), .inr (1, [.int 3, .int b1, .int b2, .int b3, .int b4, .int b5, .int b6]))] [] _ _ := Bx.of (fun a => (κ a).1) hL hP (fa_c hb5210 (fa_c hb5173 (fa_c hb5171 (fa_c hbli fa_n)))) (by simp only [List.map_cons, List.map_nil, t5171_3.1, hqr5172.1, hw.1, hli.1]; decide)
            refine b_putN (D := D) (ci := 4) (v := .int x5212) (ty := .int) (C := RX4) (T := TX4) (N := 8) hx hb hts iX7_receive_4 tyX4 tyX4_ok nmX4 hown hN hB 0 rfl rfl 4 (by decide) (hN.f 10 rfl) (fun _ h9 => h9) rfl (by decide +kernel) rfl rfl (Nat.le_of_ble_eq_true rfl) (.inl rfl) dX7_receive_219 (fun H locs hB => ?_)
            have hB : Bx B0 D _ [((cs (420 + i)), .inr (4, [.int f5210_0, .int f5210_1, .int f5210_2, .int f5210_3, .int x5212, .int f5210_5, .int f5210_6, .int f5210_7])), (r5172, .inr (3, [.int f5173_0, .int f5173_1, .int f5173_2, .int f5173_3, .int f5173_4, .int f5173_5, .int f5173_6, .int f5173_7, .int f5173_8, .int f5173_9])), (w, .inr (7, [.ref su, .ref f5171_1, .ref (cs (400 + i)), .ref (cs (420 + i)), .ref (cs (460 + i)), .ref f5171_5, .long f5171_6, .int f5171_7, .int f5171_8, .int f5171_9, .int f5171_10, .int f5171_11, .int f5171_12, .int f5171_13, .int f5171_14, .int f5171_15])), ((cs (460 + i)), .inr (1, [.int 3, .int b1, .int b2, .int b3, .int b4, .int b5, .int b6]))] [(cs (420 + i))] _ _ := hB
            refine lv_goto (tgt := 268) hx hb dX7_receive_222 (by decide) ?_
            have hMW := hMW.fr hT hw hsu (Fr.close (S := [i]) Fr.rf hB (fa_c (by simp [t5171_3.2]) fa_n)) (by first | (simp; done) | (simp; omega) | omega) (by first | (simp; done) | (simp; omega) | omega)
            have hT : WT B0 D cs T κ _ := hT.close hB ⟨⟨0, _, rfl, ok_5 t5171_3.1 ⟨_, _, _, _, _, _, _, _, rfl, c5210⟩⟩, trivial⟩
            have hF : Fr B0 [i, i + 20] κ H0 _ := hF.close hB (fa_c (by simp [t5171_3.2]) fa_n)
            have hL : OkL B0 _ := hB.2.2.2.2.2
            have hP : va_P D vwCl [((cs (420 + i)), .inr (4, [.int f5210_0, .int f5210_1, .int f5210_2, .int f5210_3, .int x5212, .int f5210_5, .int f5210_6, .int f5210_7])), (r5172, .inr (3, [.int f5173_0, .int f5173_1, .int f5173_2, .int f5173_3, .int f5173_4, .int f5173_5, .int f5173_6, .int f5173_7, .int f5173_8, .int f5173_9])), (w, .inr (7, [.ref su, .ref f5171_1, .ref (cs (400 + i)), .ref (cs (420 + i)), .ref (cs (460 + i)), .ref f5171_5, .long f5171_6, .int f5171_7, .int f5171_8, .int f5171_9, .int f5171_10, .int f5171_11, .int f5171_12, .int f5171_13, .int f5171_14, .int f5171_15])), ((cs (460 + i)), .inr (1, [.int 3, .int b1, .int b2, .int b3, .int b4, .int b5, .int b6]))] _ := hB.1
            refine W.know (fun hg => ?_)
            rw [hH0] at hg
            exact en_v hx hb hr hlocks hL (Nat.zero_le _) (Nat.zero_le _) dX7_receive_268 (⟨_, KX.rf, hT, hF, _, _, _, _, _, hMW, ⟨hg, hGN⟩, EO.rd hb ht16 hpl, fun _ _ => Nat.le_refl _⟩)
      · refine lv_tableIn (tgt := 225) (off := 189) hx hb dX7_receive_36 (by decide) (by decide) (by decide) (by decide) ?_
        refine lv_aload_n hx hb dX7_receive_225 rfl (lv_at hl 0 rfl) ?_
        refine lv_aload_n hx hb dX7_receive_226 rfl (lv_at hl 1 rfl) ?_
        refine va_getN (D := D) (ci := 1) (v := .int b4) (C := RX1) (T := TX1) (N := 7) hx hb hts iX7_receive_1 hown hN.1 hP 2 rfl rfl 4 (by decide) (hN.f 22 rfl) (fun _ h9 => h9) rfl dX7_receive_227 ?_
        refine lv_aload_n hx hb dX7_receive_230 rfl (lv_at hl 1 rfl) ?_
        refine va_getN (D := D) (ci := 1) (v := .int b5) (C := RX1) (T := TX1) (N := 7) hx hb hts iX7_receive_1 hown hN.1 hP 2 rfl rfl 5 (by decide) (hN.f 24 rfl) (fun _ h9 => h9) rfl dX7_receive_231 ?_
        refine lv_aload_n hx hb dX7_receive_234 rfl (lv_at hl 1 rfl) ?_
        refine va_getN (D := D) (ci := 1) (v := .int b6) (C := RX1) (T := TX1) (N := 7) hx hb hts iX7_receive_1 hown hN.1 hP 2 rfl rfl 6 (by decide) (hN.f 26 rfl) (fun _ h9 => h9) rfl dX7_receive_235 ?_
        refine lv_iconst (v := 2) hx hb dX7_receive_238 (by decide) ?_
        refine cv_v (As := [.int b4, .int b5, .int b6, .int 2]) (rest := []) (b := r5172) ⟨hx, hb, hml, hown, hts⟩ (c_X3_takePlan hT (w := r5172) hqr5172 (x := b4) (y := b5) (z := b6) (u := 2)) (cwV 4 hts gX7_receive_X3_takePlan rfl rfl rfl hdX3_takePlan_v ⟨Nat.le_of_ble_eq_true rfl, Nat.le_of_ble_eq_true rfl⟩) hN hE hL (rcv4 hN hT hqr5172.1) rfl rfl hl.1 (Nat.le_of_ble_eq_true rfl) dX7_receive_239 (Nat.zero_le _) (Nat.zero_le _) (fun H1 locs hL hqr5213 => ?_)
        obtain ⟨hT1, hF1⟩ := hqr5213
        have hP : va_P D vwCl [((cs (460 + i)), .inr (1, [.int 4, .int b1, .int b2, .int b3, .int b4, .int b5, .int b6]))] _ := hF1.hP (hP.sub [2] rfl) (fa_c ⟨by rw [hli.1]; decide, by rw [hli.2]; first | decide | (simp; done) | (simp; omega)⟩ fa_n)
        have hMW := hMW.fr hT hw hsu hF1 (by first | (simp; done) | (simp; omega) | omega) (by first | (simp; done) | (simp; omega) | omega)
        have hF := hF.tr (hF1.mono (by simp))
        have hT := hT1
        refine lv_goto (tgt := 268) hx hb dX7_receive_242 (by decide) ?_
        refine W.know (fun hg => ?_)
        rw [hH0] at hg
        exact en_v hx hb hr hlocks hL (Nat.zero_le _) (Nat.zero_le _) dX7_receive_268 (⟨_, KX.rf, hT, hF, _, _, _, _, _, hMW, ⟨hg, hGN⟩, EO.rd hb ht16 hpl, fun _ _ => Nat.le_refl _⟩)
  · refine lv_aload_n hx hb dX7_receive_21 rfl (lv_at hl 2 rfl) ?_
    refine lv_dup hx hb dX7_receive_22 rfl ?_
    refine va_get (D := D) (ci := 7) (v := .int f5171_10) (C := RX7) (T := TX7) (N := 16) hx hb hts iX7_receive_7 hown hN.1 hP 1 rfl rfl 10 (by decide) (hts _ mX7_receive_2) (fun _ h9 => h9) rfl dX7_receive_23 ?_
    refine lv_iconst (v := 1) hx hb dX7_receive_26 (by decide) ?_
    refine lv_iadd hx hb dX7_receive_27 ?_
    refine gn_i (fun x5214 => ?_)
    have hB : Bx B0 D _ [(r5172, .inr (3, [.int f5173_0, .int f5173_1, .int f5173_2, .int f5173_3, .int f5173_4, .int f5173_5, .int f5173_6, .int f5173_7, .int f5173_8, .int f5173_9])), (w, .inr (7, [.ref su, .ref f5171_1, .ref (cs (400 + i)), .ref (cs (420 + i)), .ref (cs (460 + i)), .ref f5171_5, .long f5171_6, .int f5171_7, .int f5171_8, .int f5171_9, .int f5171_10, .int f5171_11, .int f5171_12, .int f5171_13, .int f5171_14, .int f5171_15])), ((cs (460 + i)), .inr (1, [.int b0, .int b1, .int b2, .int b3, .int b4, .int b5, .int b6]))] [] _ _ := Bx.of (fun a => (κ a).1) hL hP (fa_c hb5173 (fa_c hb5171 (fa_c hbli fa_n))) (by simp only [List.map_cons, List.map_nil, hqr5172.1, hw.1, hli.1]; decide)
    refine b_put (D := D) (ci := 7) (v := .int x5214) (ty := .int) (C := RX7) (T := TX7) (N := 16) hx hb hts iX7_receive_7 tyX7 tyX7_ok nmX7 hown hN hB 1 rfl rfl 10 (by decide) (hts _ mX7_receive_2) (fun _ h9 => h9) rfl (by decide +kernel) rfl rfl (Nat.le_of_ble_eq_true rfl) (.inl rfl) dX7_receive_28 (fun H locs hB => ?_)
    have hB : Bx B0 D _ [(r5172, .inr (3, [.int f5173_0, .int f5173_1, .int f5173_2, .int f5173_3, .int f5173_4, .int f5173_5, .int f5173_6, .int f5173_7, .int f5173_8, .int f5173_9])), (w, .inr (7, [.ref su, .ref f5171_1, .ref (cs (400 + i)), .ref (cs (420 + i)), .ref (cs (460 + i)), .ref f5171_5, .long f5171_6, .int f5171_7, .int f5171_8, .int f5171_9, .int x5214, .int f5171_11, .int f5171_12, .int f5171_13, .int f5171_14, .int f5171_15])), ((cs (460 + i)), .inr (1, [.int b0, .int b1, .int b2, .int b3, .int b4, .int b5, .int b6]))] [w] _ _ := hB
    have hMW := hMW.fr hT hw hsu (Fr.close (S := [i]) Fr.rf hB (fa_c (by simp [hw.2]) fa_n)) (by first | (simp; done) | (simp; omega) | omega) (by first | (simp; done) | (simp; omega) | omega)
    have hT : WT B0 D cs T κ _ := hT.close hB ⟨⟨1, _, rfl, ok_8 hw.1 ⟨_, _, _, _, _, _, _, _, _, _, _, _, _, _, _, _, rfl, t5171_0, c5171_su, ⟨t5171_1.1, by rw [hw.2]; exact t5171_1.2⟩, ⟨t5171_2.1, by rw [hw.2]; exact t5171_2.2⟩, ⟨t5171_3.1, by rw [hw.2]; exact t5171_3.2⟩, ⟨t5171_4.1, by rw [hw.2]; exact t5171_4.2⟩, ⟨t5171_5.1, by rw [hw.2]; exact t5171_5.2⟩, c5171_tm, (by rw [hw.2]; omega), (by first | rw [hw.2] | (dsimp only; rw [hw.2])), (by first | rw [hw.2] | (dsimp only; rw [hw.2])), (by first | rw [hw.2] | (dsimp only; rw [hw.2]))⟩⟩, trivial⟩
    have hF : Fr B0 [i, i + 20] κ H0 _ := hF.close hB (fa_c (by simp [hw.2]) fa_n)
    have hL : OkL B0 _ := hB.2.2.2.2.2
    have hP : va_P D vwCl [(r5172, .inr (3, [.int f5173_0, .int f5173_1, .int f5173_2, .int f5173_3, .int f5173_4, .int f5173_5, .int f5173_6, .int f5173_7, .int f5173_8, .int f5173_9])), (w, .inr (7, [.ref su, .ref f5171_1, .ref (cs (400 + i)), .ref (cs (420 + i)), .ref (cs (460 + i)), .ref f5171_5, .long f5171_6, .int f5171_7, .int f5171_8, .int f5171_9, .int x5214, .int f5171_11, .int f5171_12, .int f5171_13, .int f5171_14, .int f5171_15])), ((cs (460 + i)), .inr (1, [.int b0, .int b1, .int b2, .int b3, .int b4, .int b5, .int b6]))] _ := hB.1
    refine W.know (fun hg => ?_)
    rw [hH0] at hg
    exact en_v hx hb hr hlocks hL (Nat.zero_le _) (Nat.zero_le _) dX7_receive_31 (⟨_, KX.rf, hT, hF, _, _, _, _, _, hMW, ⟨hg, hGN⟩, EO.rd hb ht16 hpl, fun _ _ => Nat.le_refl _⟩)
theorem mX7_tick_1 : (.fieldLink RX7 64 "OneBeat$World" "time" "I" : Cond) ∈ wsX7_tick := List.mem_of_getElem? (i := 1) (by decide +kernel)
theorem iX7_tick_7 : ∀ w ∈ wsX70, w ∈ wsX7_tick := fun w h => List.mem_of_mem_drop (List.mem_of_mem_take ((show wsX70 = (wsX7_tick.drop 141).take 16 by decide +kernel) ▸ h))
theorem mX7_tick_2 : (.fieldLink RX7 20 "OneBeat$World" "mail" "LOneBeat$Mail;" : Cond) ∈ wsX7_tick := List.mem_of_getElem? (i := 2) (by decide +kernel)
theorem hdX2_clear_v : yX2_clear.cls = RX2 ∧ yX2_clear.cls ≠ "java/lang/invoke/MethodHandle" ∧ yX2_clear.cls ≠ "java/lang/invoke/VarHandle" ∧ (parseMethodDescriptor yX2_clear.desc).map (fun d => d.parameters.length) = some 1 := by decide +kernel
theorem mX7_tick_4 : (.fieldLink RX7 27 "OneBeat$World" "latest" "LOneBeat$Proposal;" : Cond) ∈ wsX7_tick := List.mem_of_getElem? (i := 4) (by decide +kernel)
theorem iX7_tick_4 : ∀ w ∈ wsX40, w ∈ wsX7_tick := fun w h => List.mem_of_mem_drop (List.mem_of_mem_take ((show wsX40 = (wsX7_tick.drop 157).take 8 by decide +kernel) ▸ h))
theorem mX7_tick_5 : (.fieldLink RX7 52 "OneBeat$World" "setup" "LOneBeat$Setup;" : Cond) ∈ wsX7_tick := List.mem_of_getElem? (i := 5) (by decide +kernel)
theorem iX7_tick_6 : ∀ w ∈ wsX60, w ∈ wsX7_tick := fun w h => List.mem_of_mem_drop (List.mem_of_mem_take ((show wsX60 = (wsX7_tick.drop 165).take 8 by decide +kernel) ▸ h))
theorem hdX7_changeIfDue_v : yX7_changeIfDue.cls = RX7 ∧ yX7_changeIfDue.cls ≠ "java/lang/invoke/MethodHandle" ∧ yX7_changeIfDue.cls ≠ "java/lang/invoke/VarHandle" ∧ (parseMethodDescriptor yX7_changeIfDue.desc).map (fun d => d.parameters.length) = some 1 := by decide +kernel
theorem hdX7_giveUp_v : yX7_giveUp.cls = RX7 ∧ yX7_giveUp.cls ≠ "java/lang/invoke/MethodHandle" ∧ yX7_giveUp.cls ≠ "java/lang/invoke/VarHandle" ∧ (parseMethodDescriptor yX7_giveUp.desc).map (fun d => d.parameters.length) = some 0 := by decide +kernel
theorem mX7_tick_3 : (.fieldLink RX7 34 "OneBeat$World" "incoming" "LOneBeat$Letter;" : Cond) ∈ wsX7_tick := List.mem_of_getElem? (i := 3) (by decide +kernel)
theorem hdX7_receive_v : yX7_receive.cls = RX7 ∧ yX7_receive.cls ≠ "java/lang/invoke/MethodHandle" ∧ yX7_receive.cls ≠ "java/lang/invoke/VarHandle" ∧ (parseMethodDescriptor yX7_receive.desc).map (fun d => d.parameters.length) = some 0 := by decide +kernel
theorem hdX7_commitIfVoted_v : yX7_commitIfVoted.cls = RX7 ∧ yX7_commitIfVoted.cls ≠ "java/lang/invoke/MethodHandle" ∧ yX7_commitIfVoted.cls ≠ "java/lang/invoke/VarHandle" ∧ (parseMethodDescriptor yX7_commitIfVoted.desc).map (fun d => d.parameters.length) = some 0 := by decide +kernel
set_option maxHeartbeats 4000000 in
set_option maxRecDepth 100000 in
theorem c_X7_tick {l : Launch} {D : va_G} {cs : Nat → ClassId} {B0 T : Nat} {κ : KM} {H0 : Heap} (hT : WT B0 D cs T κ H0) {w i : Nat} (hw : T2 κ w 8 i) {C cn ln : Nat → Nat} {rw9 : Nat → Nat → Int32} {dl : Nat → Int32} {su tm : Nat} (hsu : (κ w).2.2.1 = su) (htm : (κ w).2.2.2 = tm) (hMW : MW D cs H0 i su tm C cn ln rw9 dl) {b : Nat} (hb : EO C dl cn rw9 0 0 (κ (cs (420 + i))).2.2.1 ≤ b) (hb24 : b ≤ 24) : KC l yX7_tick wsX7_tick 5 156 ((56 * sumN C 16 + 22407 - 2 * sumN ln 16) / 35) (56 * sumN C 16 + 22407 - 2 * sumN ln 16) D cs B0 H0 [.ref w] (Qv (fun H => ∃ κ1, KU i κ κ1 ∧ WT B0 D cs T κ1 H ∧ Fr B0 [i, i + 20, i + 40] κ H0 H ∧ ∃ cn1 ln1 rw1 t1 k n, MW D cs H i su t1 C cn1 ln1 rw1 dl ∧ GP H0 H ln ln1 k n ∧ (κ1 w).2.2.1 = su ∧ (κ1 w).2.2.2 = t1 ∧ EO C dl cn1 rw1 0 0 (κ1 (cs (420 + i))).2.2.1 ≤ b)) := by
  refine KC.of cX7_tick 3 none (by decide) rfl (Nat.le_of_ble_eq_true rfl) ?_
  intro p e s m below meth c ls hx hb hr hml hown hts hlocks hin hN hE hH0 hl
  have hown : s.vm.findClass RX7 = some m.cls := hown
  have hl : lv_has ls 3 [(0, .ref w)] := hl
  have hL : OkL B0 [] := OkL.nil
  have hF : Fr B0 [i, i + 20, i + 40] κ H0 H0 := Fr.rf
  obtain ⟨hml, hpr, hli, -, hi10⟩ := hT.ml hw
  have ht16 := hMW.2.2.2
  have hGN : GN ln ln 0 0 := GN.rf
  have hs0 := hMW.2.2.1.sum
  have hEO := hb
  obtain ⟨t1, ht1⟩ : ∃ t1, (tm + 1) % 16 = t1 := ⟨_, rfl⟩
  have ht9 : t1 < 16 := by omega
  refine lv_aload_n hx hb dX7_tick_0 rfl (lv_at hl 0 rfl) ?_
  refine lv_dup hx hb dX7_tick_1 rfl ?_
  obtain ⟨hb5215, e5215, hat5215, hk5215⟩ := hT.o8 hw.1
  obtain ⟨f5215_0, f5215_1, f5215_2, f5215_3, f5215_4, f5215_5, f5215_6, f5215_7, f5215_8, f5215_9, f5215_10, f5215_11, f5215_12, f5215_13, f5215_14, f5215_15, rfl, t5215_0, c5215_su, t5215_1, t5215_2, t5215_3, t5215_4, t5215_5, c5215_tm, c5215_lt, c5215_ml, c5215_pr, c5215_li⟩ := hk5215
  rw [hw.2] at t5215_1
  rw [hw.2] at t5215_2
  rw [hw.2] at t5215_3
  rw [hw.2] at t5215_4
  rw [hw.2] at t5215_5
  rw [hw.2] at c5215_lt c5215_ml c5215_pr c5215_li
  subst c5215_ml
  subst c5215_pr
  subst c5215_li
  have esu5215 := (c5215_su.trans hsu).symm
  subst esu5215
  have ctm5215 : f5215_7 &&& 15 = nI tm := by rw [c5215_tm, htm]
  have hP : va_P D vwCl [(w, .inr (7, [.ref su, .ref f5215_1, .ref (cs (400 + i)), .ref (cs (420 + i)), .ref (cs (460 + i)), .ref f5215_5, .long f5215_6, .int f5215_7, .int f5215_8, .int f5215_9, .int f5215_10, .int f5215_11, .int f5215_12, .int f5215_13, .int f5215_14, .int f5215_15]))] _ := va_P.cons hat5215 va_P.nil
  refine va_get (D := D) (ci := 7) (v := .int f5215_7) (C := RX7) (T := TX7) (N := 16) hx hb hts iX7_tick_7 hown hN.1 hP 0 rfl rfl 7 (by decide) (hts _ mX7_tick_1) (fun _ h9 => h9) rfl dX7_tick_2 ?_
  refine lv_iconst (v := 1) hx hb dX7_tick_5 (by decide) ?_
  refine lv_iadd hx hb dX7_tick_6 ?_
  have hB : Bx B0 D _ [(w, .inr (7, [.ref su, .ref f5215_1, .ref (cs (400 + i)), .ref (cs (420 + i)), .ref (cs (460 + i)), .ref f5215_5, .long f5215_6, .int f5215_7, .int f5215_8, .int f5215_9, .int f5215_10, .int f5215_11, .int f5215_12, .int f5215_13, .int f5215_14, .int f5215_15]))] [] _ _ := Bx.of (fun a => (κ a).1) hL hP (fa_c hb5215 fa_n) (by simp only [List.map_cons, List.map_nil, hw.1]; decide)
  refine b_put (D := D) (ci := 7) (v := .int (f5215_7 + 1)) (ty := .int) (C := RX7) (T := TX7) (N := 16) hx hb hts iX7_tick_7 tyX7 tyX7_ok nmX7 hown hN hB 0 rfl rfl 7 (by decide) (hts _ mX7_tick_1) (fun _ h9 => h9) rfl (by decide +kernel) rfl rfl (Nat.le_of_ble_eq_true rfl) (.inl rfl) dX7_tick_7 (fun H locs hB => ?_)
  have hct9 : (f5215_7 + 1) &&& 15 = nI t1 := by rw [← ht1]; exact and15_1 ctm5215 ht16
  have hB : Bx B0 D _ [(w, .inr (7, [.ref su, .ref f5215_1, .ref (cs (400 + i)), .ref (cs (420 + i)), .ref (cs (460 + i)), .ref f5215_5, .long f5215_6, .int (f5215_7 + 1), .int f5215_8, .int f5215_9, .int f5215_10, .int f5215_11, .int f5215_12, .int f5215_13, .int f5215_14, .int f5215_15]))] [w] _ _ := hB
  refine lv_aload_n hx hb dX7_tick_10 rfl (lv_at hl 0 rfl) ?_
  refine va_get (D := D) (ci := 7) (v := .ref (cs (400 + i))) (C := RX7) (T := TX7) (N := 16) hx hb hts iX7_tick_7 hown hN.1 hB.1 0 rfl rfl 2 (by decide) (hts _ mX7_tick_2) (fun _ h9 => h9) rfl dX7_tick_11 ?_
  refine lv_aload_n hx hb dX7_tick_14 rfl (lv_at hl 0 rfl) ?_
  refine va_get (D := D) (ci := 7) (v := .int (f5215_7 + 1)) (C := RX7) (T := TX7) (N := 16) hx hb hts iX7_tick_7 hown hN.1 hB.1 0 rfl rfl 7 (by decide) (hts _ mX7_tick_1) (fun _ h9 => h9) rfl dX7_tick_15 ?_
  have hMW := hMW.fr hT hw hsu (Fr.close (S := [i]) Fr.rf hB (fa_c (by simp [hw.2]) fa_n)) (by first | (simp; done) | (simp; omega) | omega) (by first | (simp; done) | (simp; omega) | omega)
  have hF : Fr B0 [i, i + 20, i + 40] κ H0 _ := hF.close hB (fa_c (by simp [hw.2]) fa_n)
  have hT : WT B0 D cs T (kp κ w su t1) _ := hT.closeK w su t1 hB (by rw [hw.1]; decide) (by rw [hw.1]; decide) (List.mem_of_getElem? (i := 0) rfl) ⟨⟨0, _, rfl, kp_ok (ok_8 (k := ((κ w).1, (κ w).2.1, _, _)) hw.1 ⟨_, _, _, _, _, _, _, _, _, _, _, _, _, _, _, _, rfl, (t2kp t5215_0), c5215_su, ⟨(t2kp t5215_1).1, by rw [hw.2]; exact (t2kp t5215_1).2⟩, ⟨(t2kp t5215_2).1, by rw [hw.2]; exact (t2kp t5215_2).2⟩, ⟨(t2kp t5215_3).1, by rw [hw.2]; exact (t2kp t5215_3).2⟩, ⟨(t2kp t5215_4).1, by rw [hw.2]; exact (t2kp t5215_4).2⟩, ⟨(t2kp t5215_5).1, by rw [hw.2]; exact (t2kp t5215_5).2⟩, hct9, (by rw [hw.2]; omega), (by first | rw [hw.2] | (dsimp only; rw [hw.2])), (by first | rw [hw.2] | (dsimp only; rw [hw.2])), (by first | rw [hw.2] | (dsimp only; rw [hw.2]))⟩)⟩, trivial⟩
  have hL : OkL B0 _ := hB.2.2.2.2.2
  have hP : va_P D vwCl [(w, .inr (7, [.ref su, .ref f5215_1, .ref (cs (400 + i)), .ref (cs (420 + i)), .ref (cs (460 + i)), .ref f5215_5, .long f5215_6, .int (f5215_7 + 1), .int f5215_8, .int f5215_9, .int f5215_10, .int f5215_11, .int f5215_12, .int f5215_13, .int f5215_14, .int f5215_15]))] _ := hB.1
  obtain ⟨κ5216, hκ5216⟩ : ∃ κ9 : KM, κ9 = (kp κ w su t1) := ⟨_, rfl⟩
  have hxf5216 : KF κ κ5216 := by rw [hκ5216]; exact KF.kp
  rw [← hκ5216] at hT
  have hKF : KF κ κ5216 := hxf5216
  have hKU : KU i κ κ5216 := (show KU i κ κ5216 by rw [hκ5216]; exact KU.kp hw)
  have hsu : (κ5216 w).2.2.1 = su := by rw [hκ5216, kp_a]
  have htm : (κ5216 w).2.2.2 = t1 := by rw [hκ5216, kp_a]
  have hw := (KF.t2 hxf5216 hw (by decide))
  have t5215_2 := (KF.t2 hxf5216 t5215_2 (by decide))
  have hpr := (KF.t2 hxf5216 hpr (by decide))
  have hml := (KF.t2 hxf5216 hml (by decide))
  have hli := (KF.t2 hxf5216 hli (by decide))
  have hMW := hMW.tm ht9
  have hcn := EE_cb (Nat.le_trans (Nat.le_trans EO.le hEO) hb24)
  have hmm : m15 (f5215_7 + 1) = t1 := m15_of hct9 ht9
  refine cv_i (As := [.int (f5215_7 + 1)]) (rest := []) (b := (cs (400 + i))) ⟨hx, hb, hml, hown, hts⟩ (c_X2_countAt_dc hT (w := (cs (400 + i))) t5215_2 (x := (f5215_7 + 1)) hMW.1 hMW.2.2.1 hcn) (cwV 1 hts gX7_tick_X2_countAt rfl rfl rfl hdX2_countAt_v ⟨Nat.le_of_ble_eq_true rfl, Nat.le_of_ble_eq_true rfl⟩) hN hE hL (rcv3 hN hT t5215_2.1) rfl rfl hl.1 (Nat.le_of_ble_eq_true rfl) dX7_tick_18 (Nat.zero_le _) (Nat.zero_le _) (fun r5217 H1 locs hL hqr5217 => ?_)
  obtain ⟨h9, hqr5217⟩ := hqr5217; replace h9 := h9.symm; subst h9
  obtain rfl := hqr5217
  refine tp_i (nI (cn t1)) (by rw [hmm]) ?_
  have hc9 := hcn t1 ht9
  have hc8 := (hMW.2.2.1 t1 ht9).2.2.2
  refine lv_istore_n (lv' := [(1, .int (nI (cn t1))), (0, .ref w)]) hx hb dX7_tick_21 rfl hl (by decide) rfl (fun ls hl => ?_)
  refine lv_iconst (v := 0) hx hb dX7_tick_22 (by decide) ?_
  refine lv_istore_n (lv' := [(2, .int 0), (1, .int (nI (cn t1))), (0, .ref w)]) hx hb dX7_tick_23 rfl hl (by decide) rfl (fun ls hl => ?_)
  have hpo9 : κ5216 (cs (420 + i)) = κ (cs (420 + i)) := by rw [hκ5216]; exact kp_n (ne_c hpr.1 hw.1 (by decide))
  refine W.know (fun hgb => ?_)
  rw [hH0] at hgb
  refine W.widen (k := ((56 * sumN C 16 + 22407 - 2 * sumN ln 16) / 35)) (n := (56 * sumN C 16 + 22407 - 2 * sumN ln 16)) (Nat.zero_le _) (Nat.zero_le _) ?_
  refine lp_m (α := Nat × KM × (Nat → Nat) × (Nat → Nat) × (Nat → Nat → Int32) × Nat × Nat) (nL := 3) (fun a9 => cn t1 - a9.1) (fun a9 H9 l9 => (a9.1 ≤ cn t1) ∧ (KU i κ a9.2.1) ∧ (T2 a9.2.1 w 8 i) ∧ ((a9.2.1 w).2.2.1 = su) ∧ ((a9.2.1 w).2.2.2 = t1) ∧ (MW D cs H9 i su t1 C a9.2.2.1 a9.2.2.2.1 a9.2.2.2.2.1 dl) ∧ (EO C dl a9.2.2.1 a9.2.2.2.2.1 t1 a9.1 (a9.2.1 (cs (420 + i))).2.2.1 ≤ b) ∧ (Gr H0 H9 a9.2.2.2.2.2.1 a9.2.2.2.2.2.2) ∧ (GN ln a9.2.2.2.1 a9.2.2.2.2.2.1 a9.2.2.2.2.2.2) ∧ (∀ q, q < 16 → cn q ≤ a9.2.2.1 q) ∧ (WT B0 D cs T a9.2.1 H9) ∧ (Fr B0 [i, i + 20, i + 40] κ H0 H9) ∧ (OkL B0 l9)) (fun a9 => [(2, .int (nI a9.1)), (0, .ref w), (1, .int (nI (cn t1)))]) ?_ (0, κ5216, cn, ln, rw9, 0, 0) _ _ _ ⟨(Nat.zero_le _), hKU, hw, hsu, htm, hMW, (by rw [EO.st (q1 := 0)]; rw [← hpo9] at hEO; exact hEO), hgb, hGN, (fun _ _ => Nat.le_refl _), hT, hF, hL⟩ (lv_sub hl [0, 2, 1] rfl)
  rintro ⟨p, κ9, cn9, ln9, rw99, k9, n9⟩ H locs ls ih5218 ⟨hp, hKU, hw, hsu, htm, hMW, hEO, hGR, hGN, hmo, hT, hF, hL⟩ hl
  have hl : lv_has ls 3 [(2, .int (nI p)), (0, .ref w), (1, .int (nI (cn t1)))] := hl
  have hp : p ≤ cn t1 := hp
  have hKU : KU i κ κ9 := hKU
  have hw : T2 κ9 w 8 i := hw
  have hsu : (κ9 w).2.2.1 = su := hsu
  have htm : (κ9 w).2.2.2 = t1 := htm
  have hMW : MW D cs H i su t1 C cn9 ln9 rw99 dl := hMW
  have hEO : EO C dl cn9 rw99 t1 p (κ9 (cs (420 + i))).2.2.1 ≤ b := hEO
  have hGR : Gr H0 H k9 n9 := hGR
  have hGN : GN ln ln9 k9 n9 := hGN
  have hmo : ∀ q, q < 16 → cn q ≤ cn9 q := hmo
  have hT : WT B0 D cs T κ9 _ := hT
  have hKF := hKU.1
  refine W.tight (k := k9) (n := n9) (by rw [hH0]; exact hGR) ?_
  obtain ⟨hml, hpr, hli, -, -⟩ := hT.ml hw
  have hg1 := hGN.1
  have hg2 := hGN.2
  have hs9 := hMW.2.2.1.sum
  have hcn := EE_cb (Nat.le_trans (Nat.le_trans EO.le hEO) hb24)
  have hc9 := hcn t1 ht9
  have hc8 := (hMW.2.2.1 t1 ht9).2.2.2
  have hc7 := hmo t1 ht9
  refine lv_iload_n hx hb dX7_tick_24 rfl (lv_at hl 0 rfl) ?_
  refine lv_iload_n hx hb dX7_tick_25 rfl (lv_at hl 2 rfl) ?_
  refine lv_icmp_ge (tgt := 62) hx hb dX7_tick_26 (by decide) (fun c5219 => ?_) (fun c5219 => ?_)
  · have c5219 : (cn t1) ≤ p := (nI_leI (a := (cn t1)) (b := p) (by omega) (by omega)).mp c5219
    refine lv_aload_n hx hb dX7_tick_62 rfl (lv_at hl 1 rfl) ?_
    obtain ⟨hb5220, e5220, hat5220, hk5220⟩ := hT.o8 hw.1
    obtain ⟨f5220_0, f5220_1, f5220_2, f5220_3, f5220_4, f5220_5, f5220_6, f5220_7, f5220_8, f5220_9, f5220_10, f5220_11, f5220_12, f5220_13, f5220_14, f5220_15, rfl, t5220_0, c5220_su, t5220_1, t5220_2, t5220_3, t5220_4, t5220_5, c5220_tm, c5220_lt, c5220_ml, c5220_pr, c5220_li⟩ := hk5220
    rw [hw.2] at t5220_1
    rw [hw.2] at t5220_2
    rw [hw.2] at t5220_3
    rw [hw.2] at t5220_4
    rw [hw.2] at t5220_5
    rw [hw.2] at c5220_lt c5220_ml c5220_pr c5220_li
    subst c5220_ml
    subst c5220_pr
    subst c5220_li
    have esu5220 := (c5220_su.trans hsu).symm
    subst esu5220
    have ctm5220 : f5220_7 &&& 15 = nI t1 := by rw [c5220_tm, htm]
    have hP : va_P D vwCl [(w, .inr (7, [.ref su, .ref f5220_1, .ref (cs (400 + i)), .ref (cs (420 + i)), .ref (cs (460 + i)), .ref f5220_5, .long f5220_6, .int f5220_7, .int f5220_8, .int f5220_9, .int f5220_10, .int f5220_11, .int f5220_12, .int f5220_13, .int f5220_14, .int f5220_15]))] _ := va_P.cons hat5220 va_P.nil
    refine va_get (D := D) (ci := 7) (v := .ref (cs (400 + i))) (C := RX7) (T := TX7) (N := 16) hx hb hts iX7_tick_7 hown hN.1 hP 0 rfl rfl 2 (by decide) (hts _ mX7_tick_2) (fun _ h9 => h9) rfl dX7_tick_63 ?_
    refine lv_aload_n hx hb dX7_tick_66 rfl (lv_at hl 1 rfl) ?_
    refine va_get (D := D) (ci := 7) (v := .int f5220_7) (C := RX7) (T := TX7) (N := 16) hx hb hts iX7_tick_7 hown hN.1 hP 0 rfl rfl 7 (by decide) (hts _ mX7_tick_1) (fun _ h9 => h9) rfl dX7_tick_67 ?_
    have hcn := EE_cb (Nat.le_trans (Nat.le_trans EO.le hEO) hb24)
    have hmm : m15 f5220_7 = t1 := m15_of ctm5220 ht9
    refine cv_v (As := [.int f5220_7]) (rest := []) (b := (cs (400 + i))) ⟨hx, hb, hml, hown, hts⟩ (c_X2_clear_dc hT (w := (cs (400 + i))) t5220_2 (x := f5220_7) hMW.1 hMW.2.2.1 hcn) (cwV 1 hts gX7_tick_X2_clear rfl rfl rfl hdX2_clear_v ⟨Nat.le_of_ble_eq_true rfl, Nat.le_of_ble_eq_true rfl⟩) hN hE hL (rcv3 hN hT t5220_2.1) rfl rfl hl.1 (Nat.le_of_ble_eq_true rfl) dX7_tick_70 (show k9 + 0 ≤ ((56 * sumN C 16 + 22407 - 2 * sumN ln 16) / 35) by omega) (show n9 + 0 ≤ (56 * sumN C 16 + 22407 - 2 * sumN ln 16) by omega) (fun H1 locs hL hqr5221 => ?_)
    obtain ⟨hT1, hF1, hqr5221⟩ := hqr5221
    have hP : va_P D vwCl [(w, .inr (7, [.ref su, .ref f5220_1, .ref (cs (400 + i)), .ref (cs (420 + i)), .ref (cs (460 + i)), .ref f5220_5, .long f5220_6, .int f5220_7, .int f5220_8, .int f5220_9, .int f5220_10, .int f5220_11, .int f5220_12, .int f5220_13, .int f5220_14, .int f5220_15]))] _ := hF1.hP (hP.sub [0] rfl) (fa_c ⟨by rw [hw.1]; decide, by rw [hw.2]; first | decide | (simp; done) | (simp; omega)⟩ fa_n)
    have hTo := hT
    have hwo := hw
    have hsuo := hsu
    have hF9 := hF1
    have hF := hF.tr ((hF1.kf hKF).mono (by simp))
    have hT := hT1
    have m5222 := hqr5221
    rw [hmm] at m5222
    have hMW := hMW.mb hTo hwo hsuo hF9 (by first | (simp; done) | (simp; omega) | omega) m5222 hMW.2.2.1.clear
    have hEO := EO.clear (q0 := t1) hEO
    refine lv_aload_n hx hb dX7_tick_73 rfl (lv_at hl 1 rfl) ?_
    refine va_get (D := D) (ci := 7) (v := .ref (cs (420 + i))) (C := RX7) (T := TX7) (N := 16) hx hb hts iX7_tick_7 hown hN.1 hP 0 rfl rfl 3 (by decide) (hts _ mX7_tick_4) (fun _ h9 => h9) rfl dX7_tick_74 ?_
    obtain ⟨hb5223, e5223, hat5223, hk5223⟩ := hT.o5 t5220_3.1
    obtain ⟨f5223_0, f5223_1, f5223_2, f5223_3, f5223_4, f5223_5, f5223_6, f5223_7, rfl, c5223⟩ := hk5223
    have hP : va_P D vwCl [((cs (420 + i)), .inr (4, [.int f5223_0, .int f5223_1, .int f5223_2, .int f5223_3, .int f5223_4, .int f5223_5, .int f5223_6, .int f5223_7])), (w, .inr (7, [.ref su, .ref f5220_1, .ref (cs (400 + i)), .ref (cs (420 + i)), .ref (cs (460 + i)), .ref f5220_5, .long f5220_6, .int f5220_7, .int f5220_8, .int f5220_9, .int f5220_10, .int f5220_11, .int f5220_12, .int f5220_13, .int f5220_14, .int f5220_15]))] _ := va_P.cons hat5223 hP
    refine va_getN (D := D) (ci := 4) (v := .int f5223_5) (C := RX4) (T := TX4) (N := 8) hx hb hts iX7_tick_4 hown hN.1 hP 0 rfl rfl 5 (by decide) (hN.f 12 rfl) (fun _ h9 => h9) rfl dX7_tick_77 ?_
    refine lv_if_ne (tgt := 101) hx hb dX7_tick_80 (by decide) (fun c5224 => ?_) (fun c5224 => ?_)
    · refine lv_iconst (v := 0) hx hb dX7_tick_101 (by decide) ?_
      refine lv_istore_n (lv' := [(2, .int 0), (0, .ref w), (1, .int (nI (cn t1)))]) hx hb dX7_tick_102 rfl hl (by decide) rfl (fun ls hl => ?_)
      refine lp_m (α := Nat) (nL := 3) (fun a9 => 8 - a9) (fun a9 H9 l9 => (a9 ≤ 8) ∧ (MW D cs H9 i su t1 C (up9 cn9 t1 0) ln9 rw99 dl) ∧ (WT B0 D cs T κ9 H9) ∧ (Fr B0 [i, i + 20, i + 40] κ H0 H9) ∧ (OkL B0 l9)) (fun a9 => [(2, .int (nI a9)), (0, .ref w)]) ?_ 0 _ _ _ ⟨(by show (0) ≤ 8; omega), hMW, hT, hF, hL⟩ (lv_sub hl [0, 1] rfl)
      rintro p2 H locs ls ih5225 ⟨hp2, hMW, hT, hF, hL⟩ hl
      have hl : lv_has ls 3 [(2, .int (nI p2)), (0, .ref w)] := hl
      have hp2 : p2 ≤ 8 := hp2
      have hMW : MW D cs H i su t1 C (up9 cn9 t1 0) ln9 rw99 dl := hMW
      refine lv_iload_n hx hb dX7_tick_103 rfl (lv_at hl 0 rfl) ?_
      refine lv_aload_n hx hb dX7_tick_104 rfl (lv_at hl 1 rfl) ?_
      obtain ⟨hb5226, e5226, hat5226, hk5226⟩ := hT.o8 hw.1
      obtain ⟨f5226_0, f5226_1, f5226_2, f5226_3, f5226_4, f5226_5, f5226_6, f5226_7, f5226_8, f5226_9, f5226_10, f5226_11, f5226_12, f5226_13, f5226_14, f5226_15, rfl, t5226_0, c5226_su, t5226_1, t5226_2, t5226_3, t5226_4, t5226_5, c5226_tm, c5226_lt, c5226_ml, c5226_pr, c5226_li⟩ := hk5226
      rw [hw.2] at t5226_1
      rw [hw.2] at t5226_2
      rw [hw.2] at t5226_3
      rw [hw.2] at t5226_4
      rw [hw.2] at t5226_5
      rw [hw.2] at c5226_lt c5226_ml c5226_pr c5226_li
      subst c5226_ml
      subst c5226_pr
      subst c5226_li
      have esu5226 := (c5226_su.trans hsu).symm
      subst esu5226
      have ctm5226 : f5226_7 &&& 15 = nI t1 := by rw [c5226_tm, htm]
      have hP : va_P D vwCl [(w, .inr (7, [.ref su, .ref f5226_1, .ref (cs (400 + i)), .ref (cs (420 + i)), .ref (cs (460 + i)), .ref f5226_5, .long f5226_6, .int f5226_7, .int f5226_8, .int f5226_9, .int f5226_10, .int f5226_11, .int f5226_12, .int f5226_13, .int f5226_14, .int f5226_15]))] _ := va_P.cons hat5226 va_P.nil
      refine va_get (D := D) (ci := 7) (v := .ref su) (C := RX7) (T := TX7) (N := 16) hx hb hts iX7_tick_7 hown hN.1 hP 0 rfl rfl 0 (by decide) (hts _ mX7_tick_5) (fun _ h9 => h9) rfl dX7_tick_105 ?_
      obtain ⟨hb5227, e5227, hat5227, hk5227⟩ := hT.o7 t5226_0.1
      obtain ⟨f5227_0, f5227_1, f5227_2, f5227_3, f5227_4, f5227_5, f5227_6, f5227_7, rfl, c5227_0, c5227_3, c5227_mg, t5227_4, t5227_5, t5227_6, t5227_7⟩ := hk5227
      rw [t5226_0.2] at t5227_4
      rw [t5226_0.2] at t5227_5
      rw [t5226_0.2] at t5227_6
      rw [t5226_0.2] at t5227_7
      have hP : va_P D vwCl [(su, .inr (6, [.int (nI f5227_0), .int f5227_1, .int f5227_2, f5227_3, .ref f5227_4, .ref f5227_5, .ref f5227_6, .ref f5227_7])), (w, .inr (7, [.ref su, .ref f5226_1, .ref (cs (400 + i)), .ref (cs (420 + i)), .ref (cs (460 + i)), .ref f5226_5, .long f5226_6, .int f5226_7, .int f5226_8, .int f5226_9, .int f5226_10, .int f5226_11, .int f5226_12, .int f5226_13, .int f5226_14, .int f5226_15]))] _ := va_P.cons hat5227 hP
      refine va_getN (D := D) (ci := 6) (v := .int (nI f5227_0)) (C := RX6) (T := TX6) (N := 8) hx hb hts iX7_tick_6 hown hN.1 hP 0 rfl rfl 0 (by decide) (hN.f 39 rfl) (fun _ h9 => h9) rfl dX7_tick_108 ?_
      refine lv_icmp_ge (tgt := 125) hx hb dX7_tick_111 (by decide) (fun c5228 => ?_) (fun c5228 => ?_)
      · have c5228 : f5227_0 ≤ p2 := (nI_leI (a := f5227_0) (b := p2) (by omega) (by omega)).mp c5228
        refine W.know (fun hg => ?_)
        rw [hH0] at hg
        exact en_v hx hb hr hlocks hL (show k9 ≤ ((56 * sumN C 16 + 22407 - 2 * sumN ln 16) / 35) by omega) (show n9 ≤ (56 * sumN C 16 + 22407 - 2 * sumN ln 16) by omega) dX7_tick_125 (⟨_, hKU, hT, hF, _, _, _, _, _, _, hMW, ⟨hg, hGN⟩, hsu, htm, (by rw [EO.st (q1 := 0)]; exact hEO)⟩)
      · have c5228 : ¬ f5227_0 ≤ p2 := fun h9 => c5228 ((nI_leI (a := f5227_0) (b := p2) (by omega) (by omega)).mpr h9)
        refine lv_aload_n hx hb dX7_tick_114 rfl (lv_at hl 1 rfl) ?_
        refine lv_iload_n hx hb dX7_tick_115 rfl (lv_at hl 0 rfl) ?_
        refine cv_v (As := [.int (nI p2)]) (rest := []) (b := w) ⟨hx, hb, hml, hown, hts⟩ (c_X7_changeIfDue hT (w := w) hw (x := (nI p2))) (cwV 1 hts gX7_tick_X7_changeIfDue rfl rfl rfl hdX7_changeIfDue_v ⟨Nat.le_of_ble_eq_true rfl, Nat.le_of_ble_eq_true rfl⟩) hN hE hL (rcv8 hN hT hw.1) rfl rfl hl.1 (Nat.le_of_ble_eq_true rfl) dX7_tick_116 (show k9 + 0 ≤ ((56 * sumN C 16 + 22407 - 2 * sumN ln 16) / 35) by omega) (show n9 + 0 ≤ (56 * sumN C 16 + 22407 - 2 * sumN ln 16) by omega) (fun H1 locs hL hqr5229 => ?_)
        obtain ⟨hT1, hF1⟩ := hqr5229
        have hP : va_P D vwCl [(su, .inr (6, [.int (nI f5227_0), .int f5227_1, .int f5227_2, f5227_3, .ref f5227_4, .ref f5227_5, .ref f5227_6, .ref f5227_7]))] _ := hF1.hP (hP.sub [0] rfl) (fa_c ⟨by rw [t5226_0.1]; decide, by rw [t5226_0.2]; first | decide | (simp; done) | (simp; omega)⟩ fa_n)
        have hMW := hMW.fr hT hw hsu hF1 (by first | (simp; done) | (simp; omega) | omega) (by first | (simp; done) | (simp; omega) | omega)
        have hF := hF.tr ((hF1.kf hKF).mono (by simp))
        have hT := hT1
        refine lv_iinc (v := (nI (p2 + 1))) (lv' := [(2, .int (nI (p2 + 1))), (0, .ref w)]) hx hb dX7_tick_119 hl (k := 0) rfl (nI_add _ 1) (by decide) rfl (fun ls hl => ?_)
        refine lv_goto (tgt := 103) hx hb dX7_tick_122 (by decide) ?_
        exact ih5225 (p2 + 1) _ _ _ (by show 8 - ((p2 + 1)) < 8 - p2; omega) ⟨(by show ((p2 + 1)) ≤ 8; omega), hMW, hT, hF, hL⟩ (lv_sub hl [0, 1] rfl)
    · have hop : (κ9 (cs (420 + i))).2.2.1 = 0 := c5223.mp c5224
      refine lv_aload_n hx hb dX7_tick_83 rfl (lv_at hl 1 rfl) ?_
      refine va_get (D := D) (ci := 7) (v := .ref (cs (420 + i))) (C := RX7) (T := TX7) (N := 16) hx hb hts iX7_tick_7 hown hN.1 hP 1 rfl rfl 3 (by decide) (hts _ mX7_tick_4) (fun _ h9 => h9) rfl dX7_tick_84 ?_
      refine va_getN (D := D) (ci := 4) (v := .int f5223_2) (C := RX4) (T := TX4) (N := 8) hx hb hts iX7_tick_4 hown hN.1 hP 0 rfl rfl 2 (by decide) (hN.f 8 rfl) (fun _ h9 => h9) rfl dX7_tick_87 ?_
      refine lv_aload_n hx hb dX7_tick_90 rfl (lv_at hl 1 rfl) ?_
      refine va_get (D := D) (ci := 7) (v := .int f5220_7) (C := RX7) (T := TX7) (N := 16) hx hb hts iX7_tick_7 hown hN.1 hP 1 rfl rfl 7 (by decide) (hts _ mX7_tick_1) (fun _ h9 => h9) rfl dX7_tick_91 ?_
      refine lv_icmp_ne (tgt := 101) hx hb dX7_tick_94 (by decide) (fun c5230 => ?_) (fun c5230 => ?_)
      · refine lv_iconst (v := 0) hx hb dX7_tick_101 (by decide) ?_
        refine lv_istore_n (lv' := [(2, .int 0), (0, .ref w), (1, .int (nI (cn t1)))]) hx hb dX7_tick_102 rfl hl (by decide) rfl (fun ls hl => ?_)
        refine lp_m (α := Nat) (nL := 3) (fun a9 => 8 - a9) (fun a9 H9 l9 => (a9 ≤ 8) ∧ (MW D cs H9 i su t1 C (up9 cn9 t1 0) ln9 rw99 dl) ∧ (WT B0 D cs T κ9 H9) ∧ (Fr B0 [i, i + 20, i + 40] κ H0 H9) ∧ (OkL B0 l9)) (fun a9 => [(2, .int (nI a9)), (0, .ref w)]) ?_ 0 _ _ _ ⟨(by show (0) ≤ 8; omega), hMW, hT, hF, hL⟩ (lv_sub hl [0, 1] rfl)
        rintro p2 H locs ls ih5231 ⟨hp2, hMW, hT, hF, hL⟩ hl
        have hl : lv_has ls 3 [(2, .int (nI p2)), (0, .ref w)] := hl
        have hp2 : p2 ≤ 8 := hp2
        have hMW : MW D cs H i su t1 C (up9 cn9 t1 0) ln9 rw99 dl := hMW
        refine lv_iload_n hx hb dX7_tick_103 rfl (lv_at hl 0 rfl) ?_
        refine lv_aload_n hx hb dX7_tick_104 rfl (lv_at hl 1 rfl) ?_
        obtain ⟨hb5232, e5232, hat5232, hk5232⟩ := hT.o8 hw.1
        obtain ⟨f5232_0, f5232_1, f5232_2, f5232_3, f5232_4, f5232_5, f5232_6, f5232_7, f5232_8, f5232_9, f5232_10, f5232_11, f5232_12, f5232_13, f5232_14, f5232_15, rfl, t5232_0, c5232_su, t5232_1, t5232_2, t5232_3, t5232_4, t5232_5, c5232_tm, c5232_lt, c5232_ml, c5232_pr, c5232_li⟩ := hk5232
        rw [hw.2] at t5232_1
        rw [hw.2] at t5232_2
        rw [hw.2] at t5232_3
        rw [hw.2] at t5232_4
        rw [hw.2] at t5232_5
        rw [hw.2] at c5232_lt c5232_ml c5232_pr c5232_li
        subst c5232_ml
        subst c5232_pr
        subst c5232_li
        have esu5232 := (c5232_su.trans hsu).symm
        subst esu5232
        have ctm5232 : f5232_7 &&& 15 = nI t1 := by rw [c5232_tm, htm]
        have hP : va_P D vwCl [(w, .inr (7, [.ref su, .ref f5232_1, .ref (cs (400 + i)), .ref (cs (420 + i)), .ref (cs (460 + i)), .ref f5232_5, .long f5232_6, .int f5232_7, .int f5232_8, .int f5232_9, .int f5232_10, .int f5232_11, .int f5232_12, .int f5232_13, .int f5232_14, .int f5232_15]))] _ := va_P.cons hat5232 va_P.nil
        refine va_get (D := D) (ci := 7) (v := .ref su) (C := RX7) (T := TX7) (N := 16) hx hb hts iX7_tick_7 hown hN.1 hP 0 rfl rfl 0 (by decide) (hts _ mX7_tick_5) (fun _ h9 => h9) rfl dX7_tick_105 ?_
        obtain ⟨hb5233, e5233, hat5233, hk5233⟩ := hT.o7 t5232_0.1
        obtain ⟨f5233_0, f5233_1, f5233_2, f5233_3, f5233_4, f5233_5, f5233_6, f5233_7, rfl, c5233_0, c5233_3, c5233_mg, t5233_4, t5233_5, t5233_6, t5233_7⟩ := hk5233
        rw [t5232_0.2] at t5233_4
        rw [t5232_0.2] at t5233_5
        rw [t5232_0.2] at t5233_6
        rw [t5232_0.2] at t5233_7
        have hP : va_P D vwCl [(su, .inr (6, [.int (nI f5233_0), .int f5233_1, .int f5233_2, f5233_3, .ref f5233_4, .ref f5233_5, .ref f5233_6, .ref f5233_7])), (w, .inr (7, [.ref su, .ref f5232_1, .ref (cs (400 + i)), .ref (cs (420 + i)), .ref (cs (460 + i)), .ref f5232_5, .long f5232_6, .int f5232_7, .int f5232_8, .int f5232_9, .int f5232_10, .int f5232_11, .int f5232_12, .int f5232_13, .int f5232_14, .int f5232_15]))] _ := va_P.cons hat5233 hP
        refine va_getN (D := D) (ci := 6) (v := .int (nI f5233_0)) (C := RX6) (T := TX6) (N := 8) hx hb hts iX7_tick_6 hown hN.1 hP 0 rfl rfl 0 (by decide) (hN.f 39 rfl) (fun _ h9 => h9) rfl dX7_tick_108 ?_
        refine lv_icmp_ge (tgt := 125) hx hb dX7_tick_111 (by decide) (fun c5234 => ?_) (fun c5234 => ?_)
        · have c5234 : f5233_0 ≤ p2 := (nI_leI (a := f5233_0) (b := p2) (by omega) (by omega)).mp c5234
          refine W.know (fun hg => ?_)
          rw [hH0] at hg
          exact en_v hx hb hr hlocks hL (show k9 ≤ ((56 * sumN C 16 + 22407 - 2 * sumN ln 16) / 35) by omega) (show n9 ≤ (56 * sumN C 16 + 22407 - 2 * sumN ln 16) by omega) dX7_tick_125 (⟨_, hKU, hT, hF, _, _, _, _, _, _, hMW, ⟨hg, hGN⟩, hsu, htm, (by rw [EO.st (q1 := 0)]; exact hEO)⟩)
        · have c5234 : ¬ f5233_0 ≤ p2 := fun h9 => c5234 ((nI_leI (a := f5233_0) (b := p2) (by omega) (by omega)).mpr h9)
          refine lv_aload_n hx hb dX7_tick_114 rfl (lv_at hl 1 rfl) ?_
          refine lv_iload_n hx hb dX7_tick_115 rfl (lv_at hl 0 rfl) ?_
          refine cv_v (As := [.int (nI p2)]) (rest := []) (b := w) ⟨hx, hb, hml, hown, hts⟩ (c_X7_changeIfDue hT (w := w) hw (x := (nI p2))) (cwV 1 hts gX7_tick_X7_changeIfDue rfl rfl rfl hdX7_changeIfDue_v ⟨Nat.le_of_ble_eq_true rfl, Nat.le_of_ble_eq_true rfl⟩) hN hE hL (rcv8 hN hT hw.1) rfl rfl hl.1 (Nat.le_of_ble_eq_true rfl) dX7_tick_116 (show k9 + 0 ≤ ((56 * sumN C 16 + 22407 - 2 * sumN ln 16) / 35) by omega) (show n9 + 0 ≤ (56 * sumN C 16 + 22407 - 2 * sumN ln 16) by omega) (fun H1 locs hL hqr5235 => ?_)
          obtain ⟨hT1, hF1⟩ := hqr5235
          have hP : va_P D vwCl [(su, .inr (6, [.int (nI f5233_0), .int f5233_1, .int f5233_2, f5233_3, .ref f5233_4, .ref f5233_5, .ref f5233_6, .ref f5233_7]))] _ := hF1.hP (hP.sub [0] rfl) (fa_c ⟨by rw [t5232_0.1]; decide, by rw [t5232_0.2]; first | decide | (simp; done) | (simp; omega)⟩ fa_n)
          have hMW := hMW.fr hT hw hsu hF1 (by first | (simp; done) | (simp; omega) | omega) (by first | (simp; done) | (simp; omega) | omega)
          have hF := hF.tr ((hF1.kf hKF).mono (by simp))
          have hT := hT1
          refine lv_iinc (v := (nI (p2 + 1))) (lv' := [(2, .int (nI (p2 + 1))), (0, .ref w)]) hx hb dX7_tick_119 hl (k := 0) rfl (nI_add _ 1) (by decide) rfl (fun ls hl => ?_)
          refine lv_goto (tgt := 103) hx hb dX7_tick_122 (by decide) ?_
          exact ih5231 (p2 + 1) _ _ _ (by show 8 - ((p2 + 1)) < 8 - p2; omega) ⟨(by show ((p2 + 1)) ≤ 8; omega), hMW, hT, hF, hL⟩ (lv_sub hl [0, 1] rfl)
      · refine lv_aload_n hx hb dX7_tick_97 rfl (lv_at hl 1 rfl) ?_
        refine W.know (fun hgb => ?_)
        rw [hH0] at hgb
        refine cv_v (As := []) (rest := []) (b := w) ⟨hx, hb, hml, hown, hts⟩ (c_X7_giveUp hT (w := w) hw hsu htm hMW hEO hb24 hop) (cwV 0 hts gX7_tick_X7_giveUp rfl rfl rfl hdX7_giveUp_v ⟨Nat.le_of_ble_eq_true rfl, Nat.le_of_ble_eq_true rfl⟩) hN hE hL (rcv8 hN hT hw.1) rfl rfl hl.1 (Nat.le_of_ble_eq_true rfl) dX7_tick_98 (show k9 + ((56 * sumN C 16 + 22407 - 2 * sumN ln9 16) / 35) ≤ ((56 * sumN C 16 + 22407 - 2 * sumN ln 16) / 35) by omega) (show n9 + (56 * sumN C 16 + 22407 - 2 * sumN ln9 16) ≤ (56 * sumN C 16 + 22407 - 2 * sumN ln 16) by omega) (fun H1 locs hL hqr5236 => ?_)
        obtain ⟨κr5236, hxr5236, hT1, hF1, hqr5236⟩ := hqr5236
        have hxfr5236 := hxr5236.1
        have hTo := hT
        have hwo := hw
        have hsuo := hsu
        have hF9 := hF1
        have hF := hF.tr ((hF1.kf hKF).mono (by simp))
        have hT := hT1
        have hKF := hKF.tr hxfr5236
        have hKU : KU i κ κr5236 := hKU.tr hxr5236
        have hw := (KF.t2 hxfr5236 hw (by decide))
        have hpr := (KF.t2 hxfr5236 hpr (by decide))
        have hml := (KF.t2 hxfr5236 hml (by decide))
        have hli := (KF.t2 hxfr5236 hli (by decide))
        obtain ⟨c5237, l5238, w5239, k5240, n5241, m5242, g5243, q5244, e5245⟩ := hqr5236
        have hMW := m5242
        obtain ⟨k5246, n5247, hGP⟩ : ∃ k9 n9, GP H0 _ ln l5238 k9 n9 := ⟨_, _, GP.tr (show GP H0 _ ln ln9 _ _ from ⟨hgb, hGN⟩) g5243⟩
        refine W.tight (k := k5246) (n := n5247) (by rw [hH0]; exact hGP.1) ?_
        have hGN : GN ln l5238 k5246 n5247 := hGP.2
        have hgk5246 := hGN.1
        have hgn5247 := hGN.2
        have hsk5246 := hMW.2.2.1.sum
        rw [← q5244] at hsu htm
        have hEO := e5245
        refine lv_iconst (v := 0) hx hb dX7_tick_101 (by decide) ?_
        refine lv_istore_n (lv' := [(2, .int 0), (0, .ref w), (1, .int (nI (cn t1)))]) hx hb dX7_tick_102 rfl hl (by decide) rfl (fun ls hl => ?_)
        refine lp_m (α := Nat) (nL := 3) (fun a9 => 8 - a9) (fun a9 H9 l9 => (a9 ≤ 8) ∧ (MW D cs H9 i su t1 C c5237 l5238 w5239 dl) ∧ (WT B0 D cs T κr5236 H9) ∧ (Fr B0 [i, i + 20, i + 40] κ H0 H9) ∧ (OkL B0 l9)) (fun a9 => [(2, .int (nI a9)), (0, .ref w)]) ?_ 0 _ _ _ ⟨(by show (0) ≤ 8; omega), hMW, hT, hF, hL⟩ (lv_sub hl [0, 1] rfl)
        rintro p2 H locs ls ih5248 ⟨hp2, hMW, hT, hF, hL⟩ hl
        have hl : lv_has ls 3 [(2, .int (nI p2)), (0, .ref w)] := hl
        have hp2 : p2 ≤ 8 := hp2
        have hMW : MW D cs H i su t1 C c5237 l5238 w5239 dl := hMW
        refine lv_iload_n hx hb dX7_tick_103 rfl (lv_at hl 0 rfl) ?_
        refine lv_aload_n hx hb dX7_tick_104 rfl (lv_at hl 1 rfl) ?_
        obtain ⟨hb5249, e5249, hat5249, hk5249⟩ := hT.o8 hw.1
        obtain ⟨f5249_0, f5249_1, f5249_2, f5249_3, f5249_4, f5249_5, f5249_6, f5249_7, f5249_8, f5249_9, f5249_10, f5249_11, f5249_12, f5249_13, f5249_14, f5249_15, rfl, t5249_0, c5249_su, t5249_1, t5249_2, t5249_3, t5249_4, t5249_5, c5249_tm, c5249_lt, c5249_ml, c5249_pr, c5249_li⟩ := hk5249
        rw [hw.2] at t5249_1
        rw [hw.2] at t5249_2
        rw [hw.2] at t5249_3
        rw [hw.2] at t5249_4
        rw [hw.2] at t5249_5
        rw [hw.2] at c5249_lt c5249_ml c5249_pr c5249_li
        subst c5249_ml
        subst c5249_pr
        subst c5249_li
        have esu5249 := (c5249_su.trans hsu).symm
        subst esu5249
        have ctm5249 : f5249_7 &&& 15 = nI t1 := by rw [c5249_tm, htm]
        have hP : va_P D vwCl [(w, .inr (7, [.ref su, .ref f5249_1, .ref (cs (400 + i)), .ref (cs (420 + i)), .ref (cs (460 + i)), .ref f5249_5, .long f5249_6, .int f5249_7, .int f5249_8, .int f5249_9, .int f5249_10, .int f5249_11, .int f5249_12, .int f5249_13, .int f5249_14, .int f5249_15]))] _ := va_P.cons hat5249 va_P.nil
        refine va_get (D := D) (ci := 7) (v := .ref su) (C := RX7) (T := TX7) (N := 16) hx hb hts iX7_tick_7 hown hN.1 hP 0 rfl rfl 0 (by decide) (hts _ mX7_tick_5) (fun _ h9 => h9) rfl dX7_tick_105 ?_
        obtain ⟨hb5250, e5250, hat5250, hk5250⟩ := hT.o7 t5249_0.1
        obtain ⟨f5250_0, f5250_1, f5250_2, f5250_3, f5250_4, f5250_5, f5250_6, f5250_7, rfl, c5250_0, c5250_3, c5250_mg, t5250_4, t5250_5, t5250_6, t5250_7⟩ := hk5250
        rw [t5249_0.2] at t5250_4
        rw [t5249_0.2] at t5250_5
        rw [t5249_0.2] at t5250_6
        rw [t5249_0.2] at t5250_7
        have hP : va_P D vwCl [(su, .inr (6, [.int (nI f5250_0), .int f5250_1, .int f5250_2, f5250_3, .ref f5250_4, .ref f5250_5, .ref f5250_6, .ref f5250_7])), (w, .inr (7, [.ref su, .ref f5249_1, .ref (cs (400 + i)), .ref (cs (420 + i)), .ref (cs (460 + i)), .ref f5249_5, .long f5249_6, .int f5249_7, .int f5249_8, .int f5249_9, .int f5249_10, .int f5249_11, .int f5249_12, .int f5249_13, .int f5249_14, .int f5249_15]))] _ := va_P.cons hat5250 hP
        refine va_getN (D := D) (ci := 6) (v := .int (nI f5250_0)) (C := RX6) (T := TX6) (N := 8) hx hb hts iX7_tick_6 hown hN.1 hP 0 rfl rfl 0 (by decide) (hN.f 39 rfl) (fun _ h9 => h9) rfl dX7_tick_108 ?_
        refine lv_icmp_ge (tgt := 125) hx hb dX7_tick_111 (by decide) (fun c5251 => ?_) (fun c5251 => ?_)
        · have c5251 : f5250_0 ≤ p2 := (nI_leI (a := f5250_0) (b := p2) (by omega) (by omega)).mp c5251
          refine W.know (fun hg => ?_)
          rw [hH0] at hg
          exact en_v hx hb hr hlocks hL (show k5246 ≤ ((56 * sumN C 16 + 22407 - 2 * sumN ln 16) / 35) by omega) (show n5247 ≤ (56 * sumN C 16 + 22407 - 2 * sumN ln 16) by omega) dX7_tick_125 (⟨_, hKU, hT, hF, _, _, _, _, _, _, hMW, ⟨hg, hGN⟩, hsu, htm, (by rw [EO.st (q1 := 0)]; exact hEO)⟩)
        · have c5251 : ¬ f5250_0 ≤ p2 := fun h9 => c5251 ((nI_leI (a := f5250_0) (b := p2) (by omega) (by omega)).mpr h9)
          refine lv_aload_n hx hb dX7_tick_114 rfl (lv_at hl 1 rfl) ?_
          refine lv_iload_n hx hb dX7_tick_115 rfl (lv_at hl 0 rfl) ?_
          refine cv_v (As := [.int (nI p2)]) (rest := []) (b := w) ⟨hx, hb, hml, hown, hts⟩ (c_X7_changeIfDue hT (w := w) hw (x := (nI p2))) (cwV 1 hts gX7_tick_X7_changeIfDue rfl rfl rfl hdX7_changeIfDue_v ⟨Nat.le_of_ble_eq_true rfl, Nat.le_of_ble_eq_true rfl⟩) hN hE hL (rcv8 hN hT hw.1) rfl rfl hl.1 (Nat.le_of_ble_eq_true rfl) dX7_tick_116 (show k5246 + 0 ≤ ((56 * sumN C 16 + 22407 - 2 * sumN ln 16) / 35) by omega) (show n5247 + 0 ≤ (56 * sumN C 16 + 22407 - 2 * sumN ln 16) by omega) (fun H1 locs hL hqr5252 => ?_)
          obtain ⟨hT1, hF1⟩ := hqr5252
          have hP : va_P D vwCl [(su, .inr (6, [.int (nI f5250_0), .int f5250_1, .int f5250_2, f5250_3, .ref f5250_4, .ref f5250_5, .ref f5250_6, .ref f5250_7]))] _ := hF1.hP (hP.sub [0] rfl) (fa_c ⟨by rw [t5249_0.1]; decide, by rw [t5249_0.2]; first | decide | (simp; done) | (simp; omega)⟩ fa_n)
          have hMW := hMW.fr hT hw hsu hF1 (by first | (simp; done) | (simp; omega) | omega) (by first | (simp; done) | (simp; omega) | omega)
          have hF := hF.tr ((hF1.kf hKF).mono (by simp))
          have hT := hT1
          refine lv_iinc (v := (nI (p2 + 1))) (lv' := [(2, .int (nI (p2 + 1))), (0, .ref w)]) hx hb dX7_tick_119 hl (k := 0) rfl (nI_add _ 1) (by decide) rfl (fun ls hl => ?_)
          refine lv_goto (tgt := 103) hx hb dX7_tick_122 (by decide) ?_
          exact ih5248 (p2 + 1) _ _ _ (by show 8 - ((p2 + 1)) < 8 - p2; omega) ⟨(by show ((p2 + 1)) ≤ 8; omega), hMW, hT, hF, hL⟩ (lv_sub hl [0, 1] rfl)
  · have c5219 : ¬ (cn t1) ≤ p := fun h9 => c5219 ((nI_leI (a := (cn t1)) (b := p) (by omega) (by omega)).mpr h9)
    refine lv_aload_n hx hb dX7_tick_29 rfl (lv_at hl 1 rfl) ?_
    obtain ⟨hb5253, e5253, hat5253, hk5253⟩ := hT.o8 hw.1
    obtain ⟨f5253_0, f5253_1, f5253_2, f5253_3, f5253_4, f5253_5, f5253_6, f5253_7, f5253_8, f5253_9, f5253_10, f5253_11, f5253_12, f5253_13, f5253_14, f5253_15, rfl, t5253_0, c5253_su, t5253_1, t5253_2, t5253_3, t5253_4, t5253_5, c5253_tm, c5253_lt, c5253_ml, c5253_pr, c5253_li⟩ := hk5253
    rw [hw.2] at t5253_1
    rw [hw.2] at t5253_2
    rw [hw.2] at t5253_3
    rw [hw.2] at t5253_4
    rw [hw.2] at t5253_5
    rw [hw.2] at c5253_lt c5253_ml c5253_pr c5253_li
    subst c5253_ml
    subst c5253_pr
    subst c5253_li
    have esu5253 := (c5253_su.trans hsu).symm
    subst esu5253
    have ctm5253 : f5253_7 &&& 15 = nI t1 := by rw [c5253_tm, htm]
    have hP : va_P D vwCl [(w, .inr (7, [.ref su, .ref f5253_1, .ref (cs (400 + i)), .ref (cs (420 + i)), .ref (cs (460 + i)), .ref f5253_5, .long f5253_6, .int f5253_7, .int f5253_8, .int f5253_9, .int f5253_10, .int f5253_11, .int f5253_12, .int f5253_13, .int f5253_14, .int f5253_15]))] _ := va_P.cons hat5253 va_P.nil
    refine va_get (D := D) (ci := 7) (v := .ref (cs (400 + i))) (C := RX7) (T := TX7) (N := 16) hx hb hts iX7_tick_7 hown hN.1 hP 0 rfl rfl 2 (by decide) (hts _ mX7_tick_2) (fun _ h9 => h9) rfl dX7_tick_30 ?_
    refine lv_aload_n hx hb dX7_tick_33 rfl (lv_at hl 1 rfl) ?_
    refine va_get (D := D) (ci := 7) (v := .int f5253_7) (C := RX7) (T := TX7) (N := 16) hx hb hts iX7_tick_7 hown hN.1 hP 0 rfl rfl 7 (by decide) (hts _ mX7_tick_1) (fun _ h9 => h9) rfl dX7_tick_34 ?_
    refine lv_iload_n hx hb dX7_tick_37 rfl (lv_at hl 0 rfl) ?_
    refine lv_aload_n hx hb dX7_tick_38 rfl (lv_at hl 1 rfl) ?_
    refine va_get (D := D) (ci := 7) (v := .ref (cs (460 + i))) (C := RX7) (T := TX7) (N := 16) hx hb hts iX7_tick_7 hown hN.1 hP 0 rfl rfl 4 (by decide) (hts _ mX7_tick_3) (fun _ h9 => h9) rfl dX7_tick_39 ?_
    have hcn := EE_cb (Nat.le_trans (Nat.le_trans EO.le hEO) hb24)
    have hmm : m15 f5253_7 = t1 := m15_of ctm5253 ht9
    refine cv_i (As := [.int f5253_7, .int (nI p), .ref (cs (460 + i))]) (rest := []) (b := (cs (400 + i))) ⟨hx, hb, hml, hown, hts⟩ (c_X2_read_dc hT (w := (cs (400 + i))) t5253_2 (x := f5253_7) (n := p) (v := (cs (460 + i))) t5253_4 hMW.1 hMW.2.2.1 hcn (by rw [hmm]; have := hmo t1 ht9; omega)) (cwV 3 hts gX7_tick_X2_read rfl rfl rfl hdX2_read_v ⟨Nat.le_of_ble_eq_true rfl, Nat.le_of_ble_eq_true rfl⟩) hN hE hL (rcv3 hN hT t5253_2.1) rfl rfl hl.1 (Nat.le_of_ble_eq_true rfl) dX7_tick_42 (show k9 + 0 ≤ ((56 * sumN C 16 + 22407 - 2 * sumN ln 16) / 35) by omega) (show n9 + 0 ≤ (56 * sumN C 16 + 22407 - 2 * sumN ln 16) by omega) (fun r5254 H1 locs hL hqr5254 => ?_)
    obtain ⟨hT1, hF1, hqr5254⟩ := hqr5254
    have hP : va_P D vwCl [(w, .inr (7, [.ref su, .ref f5253_1, .ref (cs (400 + i)), .ref (cs (420 + i)), .ref (cs (460 + i)), .ref f5253_5, .long f5253_6, .int f5253_7, .int f5253_8, .int f5253_9, .int f5253_10, .int f5253_11, .int f5253_12, .int f5253_13, .int f5253_14, .int f5253_15]))] _ := hF1.hP (hP.sub [0] rfl) (fa_c ⟨by rw [hw.1]; decide, by rw [hw.2]; first | decide | (simp; done) | (simp; omega)⟩ fa_n)
    have hMW := hMW.fr hT hw hsu hF1 (by first | (simp; done) | (simp; omega) | omega) (by first | (simp; done) | (simp; omega) | omega)
    have hF := hF.tr ((hF1.kf hKF).mono (by simp))
    have hT := hT1
    obtain ⟨rfl, v5255⟩ := hqr5254
    rw [hmm] at v5255
    have hbli : B0 ≤ cs (460 + i) := (hT.o2 hli.1).1
    have hP : va_P D vwCl [((cs (460 + i)), .inr (1, [.int (rw99 t1 (7 * p)), .int (rw99 t1 (7 * p + 1)), .int (rw99 t1 (7 * p + 2)), .int (rw99 t1 (7 * p + 3)), .int (rw99 t1 (7 * p + 4)), .int (rw99 t1 (7 * p + 5)), .int (rw99 t1 (7 * p + 6))])), (w, .inr (7, [.ref su, .ref f5253_1, .ref (cs (400 + i)), .ref (cs (420 + i)), .ref (cs (460 + i)), .ref f5253_5, .long f5253_6, .int f5253_7, .int f5253_8, .int f5253_9, .int f5253_10, .int f5253_11, .int f5253_12, .int f5253_13, .int f5253_14, .int f5253_15]))] _ := va_P.cons v5255 hP
    refine lv_if_eq (tgt := 56) hx hb dX7_tick_45 (by decide) (fun c9 => absurd c9 (by decide)) (fun _ => ?_)
    refine lv_aload_n hx hb dX7_tick_48 rfl (lv_at hl 1 rfl) ?_
    refine W.know (fun hgb => ?_)
    rw [hH0] at hgb
    refine cv_v (As := []) (rest := []) (b := w) ⟨hx, hb, hml, hown, hts⟩ (c_X7_receive hT (w := w) hw hsu htm hMW (pl := p) (by have := hmo t1 ht9; omega) hEO hb24 (hP 0 _ rfl) rfl rfl rfl) (cwV 0 hts gX7_tick_X7_receive rfl rfl rfl hdX7_receive_v ⟨Nat.le_of_ble_eq_true rfl, Nat.le_of_ble_eq_true rfl⟩) hN hE hL (rcv8 hN hT hw.1) rfl rfl hl.1 (Nat.le_of_ble_eq_true rfl) dX7_tick_49 (show k9 + ((56 * sumN C 16 + 22407 - 2 * sumN ln9 16) / 35) ≤ ((56 * sumN C 16 + 22407 - 2 * sumN ln 16) / 35) by omega) (show n9 + (56 * sumN C 16 + 22407 - 2 * sumN ln9 16) ≤ (56 * sumN C 16 + 22407 - 2 * sumN ln 16) by omega) (fun H1 locs hL hqr5256 => ?_)
    obtain ⟨κr5256, hxr5256, hT1, hF1, hqr5256⟩ := hqr5256
    have hTo := hT
    have hwo := hw
    have hsuo := hsu
    have hF9 := hF1
    have hF := hF.tr ((hF1.kf hKF).mono (by simp))
    have hT := hT1
    have hKF := hKF.tr hxr5256.f
    have hKU : KU i κ κr5256 := hKU.tr (KX.u (i := i) hxr5256)
    have hkw9 : κr5256 w = κ9 w := hxr5256 w (by rw [hw.1]; decide)
    rw [← hkw9] at hsu htm
    have hko9 : κr5256 (cs (420 + i)) = κ9 (cs (420 + i)) := hxr5256 _ (by rw [hpr.1]; decide)
    have hw := (hxr5256.f.t2 hw (by decide))
    have hpr := (hxr5256.f.t2 hpr (by decide))
    have hml := (hxr5256.f.t2 hml (by decide))
    have hli := (hxr5256.f.t2 hli (by decide))
    obtain ⟨c5257, l5258, w5259, k5260, n5261, m5262, g5263, e5264, o5265⟩ := hqr5256
    have hMW := m5262
    obtain ⟨k5266, n5267, hGP⟩ : ∃ k9 n9, GP H0 _ ln l5258 k9 n9 := ⟨_, _, GP.tr (show GP H0 _ ln ln9 _ _ from ⟨hgb, hGN⟩) g5263⟩
    refine W.tight (k := k5266) (n := n5267) (by rw [hH0]; exact hGP.1) ?_
    have hGN : GN ln l5258 k5266 n5267 := hGP.2
    have hgk5266 := hGN.1
    have hgn5267 := hGN.2
    have hsk5266 := hMW.2.2.1.sum
    have hEO := e5264
    rw [← hko9] at hEO
    have hmo : ∀ q, q < 16 → cn q ≤ c5257 q := fun q hq => Nat.le_trans (hmo q hq) (o5265 q hq)
    refine lv_aload_n hx hb dX7_tick_52 rfl (lv_at hl 1 rfl) ?_
    refine W.know (fun hgb => ?_)
    rw [hH0] at hgb
    refine cv_v (As := []) (rest := []) (b := w) ⟨hx, hb, hml, hown, hts⟩ (c_X7_commitIfVoted hT (w := w) hw hsu htm hMW hEO hb24) (cwV 0 hts gX7_tick_X7_commitIfVoted rfl rfl rfl hdX7_commitIfVoted_v ⟨Nat.le_of_ble_eq_true rfl, Nat.le_of_ble_eq_true rfl⟩) hN hE hL (rcv8 hN hT hw.1) rfl rfl hl.1 (Nat.le_of_ble_eq_true rfl) dX7_tick_53 (show k5266 + ((56 * sumN C 16 + 22407 - 2 * sumN l5258 16) / 35) ≤ ((56 * sumN C 16 + 22407 - 2 * sumN ln 16) / 35) by omega) (show n5267 + (56 * sumN C 16 + 22407 - 2 * sumN l5258 16) ≤ (56 * sumN C 16 + 22407 - 2 * sumN ln 16) by omega) (fun H1 locs hL hqr5268 => ?_)
    obtain ⟨κr5268, hxr5268, hT1, hF1, hqr5268⟩ := hqr5268
    have hxfr5268 := hxr5268.1
    have hTo := hT
    have hwo := hw
    have hsuo := hsu
    have hF9 := hF1
    have hF := hF.tr ((hF1.kf hKF).mono (by simp))
    have hT := hT1
    have hKF := hKF.tr hxfr5268
    have hKU : KU i κ κr5268 := hKU.tr hxr5268
    have hw := (KF.t2 hxfr5268 hw (by decide))
    have hpr := (KF.t2 hxfr5268 hpr (by decide))
    have hml := (KF.t2 hxfr5268 hml (by decide))
    have hli := (KF.t2 hxfr5268 hli (by decide))
    obtain ⟨c5269, l5270, w5271, k5272, n5273, m5274, g5275, q5276, e5277, o5278⟩ := hqr5268
    have hMW := m5274
    obtain ⟨k5279, n5280, hGP⟩ : ∃ k9 n9, GP H0 _ ln l5270 k9 n9 := ⟨_, _, GP.tr (show GP H0 _ ln l5258 _ _ from ⟨hgb, hGN⟩) g5275⟩
    refine W.tight (k := k5279) (n := n5280) (by rw [hH0]; exact hGP.1) ?_
    have hGN : GN ln l5270 k5279 n5280 := hGP.2
    have hgk5279 := hGN.1
    have hgn5280 := hGN.2
    have hsk5279 := hMW.2.2.1.sum
    rw [← q5276] at hsu htm
    have hEO := e5277
    have hmo : ∀ q, q < 16 → cn q ≤ c5269 q := fun q hq => Nat.le_trans (hmo q hq) (o5278 q hq)
    refine lv_iinc (v := (nI (p + 1))) (lv' := [(2, .int (nI (p + 1))), (0, .ref w), (1, .int (nI (cn t1)))]) hx hb dX7_tick_56 hl (k := 0) rfl (nI_add _ 1) (by decide) rfl (fun ls hl => ?_)
    refine lv_goto (tgt := 24) hx hb dX7_tick_59 (by decide) ?_
    refine W.know (fun hgb => ?_)
    rw [hH0] at hgb
    refine W.widen (k := ((56 * sumN C 16 + 22407 - 2 * sumN ln 16) / 35)) (n := (56 * sumN C 16 + 22407 - 2 * sumN ln 16)) (show k5279 ≤ ((56 * sumN C 16 + 22407 - 2 * sumN ln 16) / 35) by omega) (show n5280 ≤ (56 * sumN C 16 + 22407 - 2 * sumN ln 16) by omega) ?_
    have hEO : EO C dl c5269 w5271 t1 (p + 1) (κr5268 (cs (420 + i))).2.2.1 ≤ b := hEO
    exact ih5218 ((p + 1), κr5268, c5269, l5270, w5271, k5279, n5280) _ _ _ (by show cn t1 - ((p + 1)) < cn t1 - p; omega) ⟨(by show ((p + 1)) ≤ cn t1; omega), hKU, hw, hsu, htm, hMW, hEO, hgb, hGN, hmo, hT, hF, hL⟩ (lv_sub hl [0, 1, 2] rfl)
