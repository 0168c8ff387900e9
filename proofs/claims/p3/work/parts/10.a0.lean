theorem mX3_dropPlan_1 : (.fieldLink RX3 32 "OneBeat$Player" "plan" "I" : Cond) ∈ wsX3_dropPlan := List.mem_of_getElem? (i := 1) (by decide +kernel)
theorem iX3_dropPlan_3 : ∀ w ∈ wsX30, w ∈ wsX3_dropPlan := fun w h => List.mem_of_mem_drop (List.mem_of_mem_take ((show wsX30 = (wsX3_dropPlan.drop 3).take 10 by decide +kernel) ▸ h))
theorem mX3_dropPlan_2 : (.fieldLink RX3 35 "OneBeat$Player" "planNumber" "I" : Cond) ∈ wsX3_dropPlan := List.mem_of_getElem? (i := 2) (by decide +kernel)
set_option maxHeartbeats 4000000 in
set_option maxRecDepth 100000 in
theorem c_X3_dropPlan {l : Launch} {D : va_G} {cs : Nat → ClassId} {B0 T : Nat} {κ : KM} {H0 : Heap} (hT : WT B0 D cs T κ H0) {w i : Nat} (hw : T2 κ w 4 i) : KC l yX3_dropPlan wsX3_dropPlan 0 0 0 0 D cs B0 H0 [.ref w] (Qv (fun H => WT B0 D cs T κ H ∧ Fr B0 [i] κ H0 H)) := by
  refine KC.of cX3_dropPlan 1 none (by decide) rfl (Nat.le_of_ble_eq_true rfl) ?_
  intro p e s m below meth c ls hx hb hr hml hown hts hlocks hin hN hE hH0 hl
  have hown : s.vm.findClass RX3 = some m.cls := hown
  have hl : lv_has ls 1 [(0, .ref w)] := hl
  have hL : OkL B0 [] := OkL.nil
  have hF : Fr B0 [i] κ H0 H0 := Fr.rf
  refine lv_aload_n hx hb dX3_dropPlan_0 rfl (lv_at hl 0 rfl) ?_
  refine lv_iconst (v := 0) hx hb dX3_dropPlan_1 (by decide) ?_
  obtain ⟨hb1, e1, hat1, hk1⟩ := hT.o4 hw.1
  obtain ⟨f1_0, f1_1, f1_2, f1_3, f1_4, f1_5, f1_6, f1_7, f1_8, f1_9, rfl, c1_up⟩ := hk1
  have hP : va_P D vwCl [(w, .inr (3, [.int f1_0, .int f1_1, .int f1_2, .int f1_3, .int f1_4, .int f1_5, .int f1_6, .int f1_7, .int f1_8, .int f1_9]))] _ := va_P.cons hat1 va_P.nil
  have hB : Bx B0 D _ [(w, .inr (3, [.int f1_0, .int f1_1, .int f1_2, .int f1_3, .int f1_4, .int f1_5, .int f1_6, .int f1_7, .int f1_8, .int f1_9]))] [] _ _ := Bx.of (fun a => (κ a).1) hL hP (fa_c hb1 fa_n) (by simp only [List.map_cons, List.map_nil, hw.1]; decide)
  refine b_put (D := D) (ci := 3) (v := .int 0) (ty := .int) (C := RX3) (T := TX3) (N := 10) hx hb hts iX3_dropPlan_3 tyX3 tyX3_ok nmX3 hown hN hB 0 rfl rfl 3 (by decide) (hts _ mX3_dropPlan_1) (fun _ h9 => h9) rfl (by decide +kernel) rfl rfl (Nat.le_of_ble_eq_true rfl) (.inl rfl) dX3_dropPlan_2 (fun H locs hB => ?_)
  have hB : Bx B0 D _ [(w, .inr (3, [.int f1_0, .int f1_1, .int f1_2, .int 0, .int f1_4, .int f1_5, .int f1_6, .int f1_7, .int f1_8, .int f1_9]))] [w] _ _ := hB
  refine lv_aload_n hx hb dX3_dropPlan_5 rfl (lv_at hl 0 rfl) ?_
  refine lv_iconst (v := (-1)) hx hb dX3_dropPlan_6 (by decide) ?_
  refine b_put (D := D) (ci := 3) (v := .int (-1)) (ty := .int) (C := RX3) (T := TX3) (N := 10) hx hb hts iX3_dropPlan_3 tyX3 tyX3_ok nmX3 hown hN hB 0 rfl rfl 4 (by decide) (hts _ mX3_dropPlan_2) (fun _ h9 => h9) rfl (by decide +kernel) rfl rfl (Nat.le_of_ble_eq_true rfl) (.inr ⟨rfl, List.mem_of_getElem? (i := 0) rfl⟩) dX3_dropPlan_7 (fun H locs hB => ?_)
  have hB : Bx B0 D _ [(w, .inr (3, [.int f1_0, .int f1_1, .int f1_2, .int 0, .int (-1), .int f1_5, .int f1_6, .int f1_7, .int f1_8, .int f1_9]))] [w] _ _ := hB
  have hT : WT B0 D cs T κ _ := hT.close hB ⟨⟨0, _, rfl, ok_4 hw.1 ⟨_, _, _, _, _, _, _, _, _, _, rfl, c1_up⟩⟩, trivial⟩
  have hF : Fr B0 [i] κ H0 _ := hF.close hB (fa_c (by simp [hw.2]) fa_n)
  have hL : OkL B0 _ := hB.2.2.2.2.2
  have hP : va_P D vwCl [(w, .inr (3, [.int f1_0, .int f1_1, .int f1_2, .int 0, .int (-1), .int f1_5, .int f1_6, .int f1_7, .int f1_8, .int f1_9]))] _ := hB.1
  exact en_v hx hb hr hlocks hL (Nat.zero_le _) (Nat.zero_le _) dX3_dropPlan_10 (⟨hT, hF⟩)
theorem mX3_begin_1 : (.fieldLink RX3 7 "OneBeat$Player" "isUp" "Z" : Cond) ∈ wsX3_begin := List.mem_of_getElem? (i := 1) (by decide +kernel)
theorem iX3_begin_3 : ∀ w ∈ wsX30, w ∈ wsX3_begin := fun w h => List.mem_of_mem_drop (List.mem_of_mem_take ((show wsX30 = (wsX3_begin.drop 14).take 10 by decide +kernel) ▸ h))
theorem mX3_begin_2 : (.fieldLink RX3 13 "OneBeat$Player" "guess" "I" : Cond) ∈ wsX3_begin := List.mem_of_getElem? (i := 2) (by decide +kernel)
theorem mX3_begin_3 : (.fieldLink RX3 17 "OneBeat$Player" "song" "I" : Cond) ∈ wsX3_begin := List.mem_of_getElem? (i := 3) (by decide +kernel)
theorem hdX3_dropPlan_v : yX3_dropPlan.cls = RX3 ∧ yX3_dropPlan.cls ≠ "java/lang/invoke/MethodHandle" ∧ yX3_dropPlan.cls ≠ "java/lang/invoke/VarHandle" ∧ (parseMethodDescriptor yX3_dropPlan.desc).map (fun d => d.parameters.length) = some 0 := by decide +kernel
theorem mX3_begin_4 : (.fieldLink RX3 23 "OneBeat$Player" "changes" "I" : Cond) ∈ wsX3_begin := List.mem_of_getElem? (i := 4) (by decide +kernel)
theorem mX3_begin_5 : (.fieldLink RX3 26 "OneBeat$Player" "late" "I" : Cond) ∈ wsX3_begin := List.mem_of_getElem? (i := 5) (by decide +kernel)
theorem mX3_begin_6 : (.fieldLink RX3 29 "OneBeat$Player" "changedAt" "I" : Cond) ∈ wsX3_begin := List.mem_of_getElem? (i := 6) (by decide +kernel)
set_option maxHeartbeats 4000000 in
set_option maxRecDepth 100000 in
theorem c_X3_begin {l : Launch} {D : va_G} {cs : Nat → ClassId} {B0 T : Nat} {κ : KM} {H0 : Heap} (hT : WT B0 D cs T κ H0) {w i : Nat} (hw : T2 κ w 4 i) : KC l yX3_begin wsX3_begin 1 20 0 0 D cs B0 H0 [.ref w] (Qv (fun H => WT B0 D cs T κ H ∧ Fr B0 [i] κ H0 H)) := by
  refine KC.of cX3_begin 1 none (by decide) rfl (Nat.le_of_ble_eq_true rfl) ?_
  intro p e s m below meth c ls hx hb hr hml hown hts hlocks hin hN hE hH0 hl
  have hown : s.vm.findClass RX3 = some m.cls := hown
  have hl : lv_has ls 1 [(0, .ref w)] := hl
  have hL : OkL B0 [] := OkL.nil
  have hF : Fr B0 [i] κ H0 H0 := Fr.rf
  refine lv_aload_n hx hb dX3_begin_0 rfl (lv_at hl 0 rfl) ?_
  refine lv_iconst (v := 1) hx hb dX3_begin_1 (by decide) ?_
  obtain ⟨hb2, e2, hat2, hk2⟩ := hT.o4 hw.1
  obtain ⟨f2_0, f2_1, f2_2, f2_3, f2_4, f2_5, f2_6, f2_7, f2_8, f2_9, rfl, c2_up⟩ := hk2
  have hP : va_P D vwCl [(w, .inr (3, [.int f2_0, .int f2_1, .int f2_2, .int f2_3, .int f2_4, .int f2_5, .int f2_6, .int f2_7, .int f2_8, .int f2_9]))] _ := va_P.cons hat2 va_P.nil
  have hB : Bx B0 D _ [(w, .inr (3, [.int f2_0, .int f2_1, .int f2_2, .int f2_3, .int f2_4, .int f2_5, .int f2_6, .int f2_7, .int f2_8, .int f2_9]))] [] _ _ := Bx.of (fun a => (κ a).1) hL hP (fa_c hb2 fa_n) (by simp only [List.map_cons, List.map_nil, hw.1]; decide)
  refine b_put (D := D) (ci := 3) (v := .int 1) (ty := .boolean) (C := RX3) (T := TX3) (N := 10) hx hb hts iX3_begin_3 tyX3 tyX3_ok nmX3 hown hN hB 0 rfl rfl 0 (by decide) (hts _ mX3_begin_1) (fun _ h9 => h9) rfl (by decide +kernel) rfl rfl (Nat.le_of_ble_eq_true rfl) (.inl rfl) dX3_begin_2 (fun H locs hB => ?_)
  have hB : Bx B0 D _ [(w, .inr (3, [.int 1, .int f2_1, .int f2_2, .int f2_3, .int f2_4, .int f2_5, .int f2_6, .int f2_7, .int f2_8, .int f2_9]))] [w] _ _ := hB
  refine lv_aload_n hx hb dX3_begin_5 rfl (lv_at hl 0 rfl) ?_
  refine lv_iconst (v := 0) hx hb dX3_begin_6 (by decide) ?_
  refine b_put (D := D) (ci := 3) (v := .int 0) (ty := .int) (C := RX3) (T := TX3) (N := 10) hx hb hts iX3_begin_3 tyX3 tyX3_ok nmX3 hown hN hB 0 rfl rfl 1 (by decide) (hts _ mX3_begin_2) (fun _ h9 => h9) rfl (by decide +kernel) rfl rfl (Nat.le_of_ble_eq_true rfl) (.inr ⟨rfl, List.mem_of_getElem? (i := 0) rfl⟩) dX3_begin_7 (fun H locs hB => ?_)
  have hB : Bx B0 D _ [(w, .inr (3, [.int 1, .int 0, .int f2_2, .int f2_3, .int f2_4, .int f2_5, .int f2_6, .int f2_7, .int f2_8, .int f2_9]))] [w] _ _ := hB
  refine lv_aload_n hx hb dX3_begin_10 rfl (lv_at hl 0 rfl) ?_
  refine lv_iconst (v := 0) hx hb dX3_begin_11 (by decide) ?_
  refine b_put (D := D) (ci := 3) (v := .int 0) (ty := .int) (C := RX3) (T := TX3) (N := 10) hx hb hts iX3_begin_3 tyX3 tyX3_ok nmX3 hown hN hB 0 rfl rfl 2 (by decide) (hts _ mX3_begin_3) (fun _ h9 => h9) rfl (by decide +kernel) rfl rfl (Nat.le_of_ble_eq_true rfl) (.inr ⟨rfl, List.mem_of_getElem? (i := 0) rfl⟩) dX3_begin_12 (fun H locs hB => ?_)
  have hB : Bx B0 D _ [(w, .inr (3, [.int 1, .int 0, .int 0, .int f2_3, .int f2_4, .int f2_5, .int f2_6, .int f2_7, .int f2_8, .int f2_9]))] [w] _ _ := hB
  refine lv_aload_n hx hb dX3_begin_15 rfl (lv_at hl 0 rfl) ?_
  have hT : WT B0 D cs T κ _ := hT.close hB ⟨⟨0, _, rfl, ok_4 hw.1 ⟨_, _, _, _, _, _, _, _, _, _, rfl, (Or.inr rfl)⟩⟩, trivial⟩
  have hF : Fr B0 [i] κ H0 _ := hF.close hB (fa_c (by simp [hw.2]) fa_n)
  have hL : OkL B0 _ := hB.2.2.2.2.2
  have hP : va_P D vwCl [(w, .inr (3, [.int 1, .int 0, .int 0, .int f2_3, .int f2_4, .int f2_5, .int f2_6, .int f2_7, .int f2_8, .int f2_9]))] _ := hB.1
  refine cv_v (As := []) (rest := []) (b := w) ⟨hx, hb, hml, hown, hts⟩ (c_X3_dropPlan hT (w := w) hw) (cwV 0 hts gX3_begin_X3_dropPlan rfl rfl rfl hdX3_dropPlan_v ⟨Nat.le_of_ble_eq_true rfl, Nat.le_of_ble_eq_true rfl⟩) hN hE hL (rcv4 hN hT hw.1) rfl rfl hl.1 (Nat.le_of_ble_eq_true rfl) dX3_begin_16 (Nat.zero_le _) (Nat.zero_le _) (fun H1 locs hL hqr3 => ?_)
  obtain ⟨hT1, hF1⟩ := hqr3
  have hF := hF.tr (hF1.mono (by simp))
  have hT := hT1
  refine lv_aload_n hx hb dX3_begin_19 rfl (lv_at hl 0 rfl) ?_
  refine lv_iconst (v := 0) hx hb dX3_begin_20 (by decide) ?_
  obtain ⟨hb4, e4, hat4, hk4⟩ := hT.o4 hw.1
  obtain ⟨f4_0, f4_1, f4_2, f4_3, f4_4, f4_5, f4_6, f4_7, f4_8, f4_9, rfl, c4_up⟩ := hk4
  have hP : va_P D vwCl [(w, .inr (3, [.int f4_0, .int f4_1, .int f4_2, .int f4_3, .int f4_4, .int f4_5, .int f4_6, .int f4_7, .int f4_8, .int f4_9]))] _ := va_P.cons hat4 va_P.nil
  have hB : Bx B0 D _ [(w, .inr (3, [.int f4_0, .int f4_1, .int f4_2, .int f4_3, .int f4_4, .int f4_5, .int f4_6, .int f4_7, .int f4_8, .int f4_9]))] [] _ _ := Bx.of (fun a => (κ a).1) hL hP (fa_c hb4 fa_n) (by simp only [List.map_cons, List.map_nil, hw.1]; decide)
  refine b_put (D := D) (ci := 3) (v := .int 0) (ty := .int) (C := RX3) (T := TX3) (N := 10) hx hb hts iX3_begin_3 tyX3 tyX3_ok nmX3 hown hN hB 0 rfl rfl 7 (by decide) (hts _ mX3_begin_4) (fun _ h9 => h9) rfl (by decide +kernel) rfl rfl (Nat.le_of_ble_eq_true rfl) (.inl rfl) dX3_begin_21 (fun H locs hB => ?_)
  have hB : Bx B0 D _ [(w, .inr (3, [.int f4_0, .int f4_1, .int f4_2, .int f4_3, .int f4_4, .int f4_5, .int f4_6, .int 0, .int f4_8, .int f4_9]))] [w] _ _ := hB
  refine lv_aload_n hx hb dX3_begin_24 rfl (lv_at hl 0 rfl) ?_
  refine lv_iconst (v := 0) hx hb dX3_begin_25 (by decide) ?_
  refine b_put (D := D) (ci := 3) (v := .int 0) (ty := .int) (C := RX3) (T := TX3) (N := 10) hx hb hts iX3_begin_3 tyX3 tyX3_ok nmX3 hown hN hB 0 rfl rfl 8 (by decide) (hts _ mX3_begin_5) (fun _ h9 => h9) rfl (by decide +kernel) rfl rfl (Nat.le_of_ble_eq_true rfl) (.inr ⟨rfl, List.mem_of_getElem? (i := 0) rfl⟩) dX3_begin_26 (fun H locs hB => ?_)
  have hB : Bx B0 D _ [(w, .inr (3, [.int f4_0, .int f4_1, .int f4_2, .int f4_3, .int f4_4, .int f4_5, .int f4_6, .int 0, .int 0, .int f4_9]))] [w] _ _ := hB
  refine lv_aload_n hx hb dX3_begin_29 rfl (lv_at hl 0 rfl) ?_
  refine lv_iconst (v := (-1)) hx hb dX3_begin_30 (by decide) ?_
  refine b_put (D := D) (ci := 3) (v := .int (-1)) (ty := .int) (C := RX3) (T := TX3) (N := 10) hx hb hts iX3_begin_3 tyX3 tyX3_ok nmX3 hown hN hB 0 rfl rfl 9 (by decide) (hts _ mX3_begin_6) (fun _ h9 => h9) rfl (by decide +kernel) rfl rfl (Nat.le_of_ble_eq_true rfl) (.inr ⟨rfl, List.mem_of_getElem? (i := 0) rfl⟩) dX3_begin_31 (fun H locs hB => ?_)
  have hB : Bx B0 D _ [(w, .inr (3, [.int f4_0, .int f4_1, .int f4_2, .int f4_3, .int f4_4, .int f4_5, .int f4_6, .int 0, .int 0, .int (-1)]))] [w] _ _ := hB
  have hT : WT B0 D cs T κ _ := hT.close hB ⟨⟨0, _, rfl, ok_4 hw.1 ⟨_, _, _, _, _, _, _, _, _, _, rfl, c4_up⟩⟩, trivial⟩
  have hF : Fr B0 [i] κ H0 _ := hF.close hB (fa_c (by simp [hw.2]) fa_n)
  have hL : OkL B0 _ := hB.2.2.2.2.2
  have hP : va_P D vwCl [(w, .inr (3, [.int f4_0, .int f4_1, .int f4_2, .int f4_3, .int f4_4, .int f4_5, .int f4_6, .int 0, .int 0, .int (-1)]))] _ := hB.1
  exact en_v hx hb hr hlocks hL (Nat.zero_le _) (Nat.zero_le _) dX3_begin_34 (⟨hT, hF⟩)
theorem mX3_copyFrom_1 : (.fieldLink RX3 7 "OneBeat$Player" "isUp" "Z" : Cond) ∈ wsX3_copyFrom := List.mem_of_getElem? (i := 1) (by decide +kernel)
theorem iX3_copyFrom_3 : ∀ w ∈ wsX30, w ∈ wsX3_copyFrom := fun w h => List.mem_of_mem_drop (List.mem_of_mem_take ((show wsX30 = (wsX3_copyFrom.drop 11).take 10 by decide +kernel) ▸ h))
theorem mX3_copyFrom_2 : (.fieldLink RX3 13 "OneBeat$Player" "guess" "I" : Cond) ∈ wsX3_copyFrom := List.mem_of_getElem? (i := 2) (by decide +kernel)
theorem mX3_copyFrom_3 : (.fieldLink RX3 17 "OneBeat$Player" "song" "I" : Cond) ∈ wsX3_copyFrom := List.mem_of_getElem? (i := 3) (by decide +kernel)
theorem mX3_copyFrom_4 : (.fieldLink RX3 32 "OneBeat$Player" "plan" "I" : Cond) ∈ wsX3_copyFrom := List.mem_of_getElem? (i := 4) (by decide +kernel)
theorem mX3_copyFrom_5 : (.fieldLink RX3 35 "OneBeat$Player" "planNumber" "I" : Cond) ∈ wsX3_copyFrom := List.mem_of_getElem? (i := 5) (by decide +kernel)
theorem mX3_copyFrom_6 : (.fieldLink RX3 38 "OneBeat$Player" "planSong" "I" : Cond) ∈ wsX3_copyFrom := List.mem_of_getElem? (i := 6) (by decide +kernel)
theorem mX3_copyFrom_7 : (.fieldLink RX3 41 "OneBeat$Player" "planBeat" "I" : Cond) ∈ wsX3_copyFrom := List.mem_of_getElem? (i := 7) (by decide +kernel)
theorem mX3_copyFrom_8 : (.fieldLink RX3 23 "OneBeat$Player" "changes" "I" : Cond) ∈ wsX3_copyFrom := List.mem_of_getElem? (i := 8) (by decide +kernel)
theorem mX3_copyFrom_9 : (.fieldLink RX3 26 "OneBeat$Player" "late" "I" : Cond) ∈ wsX3_copyFrom := List.mem_of_getElem? (i := 9) (by decide +kernel)
theorem mX3_copyFrom_10 : (.fieldLink RX3 29 "OneBeat$Player" "changedAt" "I" : Cond) ∈ wsX3_copyFrom := List.mem_of_getElem? (i := 10) (by decide +kernel)
set_option maxHeartbeats 4000000 in
set_option maxRecDepth 100000 in
theorem c_X3_copyFrom {l : Launch} {D : va_G} {cs : Nat → ClassId} {B0 T : Nat} {κ : KM} {H0 : Heap} (hT : WT B0 D cs T κ H0) {w v i j : Nat} (hw : T2 κ w 4 i) (hv : T2 κ v 4 j) (hij : i ≠ j) : KC l yX3_copyFrom wsX3_copyFrom 0 0 0 0 D cs B0 H0 [.ref w, .ref v] (Qv (fun H => WT B0 D cs T κ H ∧ Fr B0 [i] κ H0 H)) := by
  refine KC.of cX3_copyFrom 2 none (by decide) rfl (Nat.le_of_ble_eq_true rfl) ?_
  intro p e s m below meth c ls hx hb hr hml hown hts hlocks hin hN hE hH0 hl
  have hown : s.vm.findClass RX3 = some m.cls := hown
  have hl : lv_has ls 2 [(0, .ref w), (1, .ref v)] := hl
  have hL : OkL B0 [] := OkL.nil
  have hF : Fr B0 [i] κ H0 H0 := Fr.rf
  refine lv_aload_n hx hb dX3_copyFrom_0 rfl (lv_at hl 0 rfl) ?_
  refine lv_aload_n hx hb dX3_copyFrom_1 rfl (lv_at hl 1 rfl) ?_
  obtain ⟨hb5, e5, hat5, hk5⟩ := hT.o4 hv.1
  obtain ⟨f5_0, f5_1, f5_2, f5_3, f5_4, f5_5, f5_6, f5_7, f5_8, f5_9, rfl, c5_up⟩ := hk5
  have hP : va_P D vwCl [(v, .inr (3, [.int f5_0, .int f5_1, .int f5_2, .int f5_3, .int f5_4, .int f5_5, .int f5_6, .int f5_7, .int f5_8, .int f5_9]))] _ := va_P.cons hat5 va_P.nil
  refine va_get (D := D) (ci := 3) (v := .int f5_0) (C := RX3) (T := TX3) (N := 10) hx hb hts iX3_copyFrom_3 hown hN.1 hP 0 rfl rfl 0 (by decide) (hts _ mX3_copyFrom_1) (fun _ h9 => h9) rfl dX3_copyFrom_2 ?_
  obtain ⟨hb6, e6, hat6, hk6⟩ := hT.o4 hw.1
  obtain ⟨f6_0, f6_1, f6_2, f6_3, f6_4, f6_5, f6_6, f6_7, f6_8, f6_9, rfl, c6_up⟩ := hk6
  have hP : va_P D vwCl [(w, .inr (3, [.int f6_0, .int f6_1, .int f6_2, .int f6_3, .int f6_4, .int f6_5, .int f6_6, .int f6_7, .int f6_8, .int f6_9])), (v, .inr (3, [.int f5_0, .int f5_1, .int f5_2, .int f5_3, .int f5_4, .int f5_5, .int f5_6, .int f5_7, .int f5_8, .int f5_9]))] _ := va_P.cons hat6 hP
  have hB : Bx B0 D _ [(w, .inr (3, [.int f6_0, .int f6_1, .int f6_2, .int f6_3, .int f6_4, .int f6_5, .int f6_6, .int f6_7, .int f6_8, .int f6_9])), (v, .inr (3, [.int f5_0, .int f5_1, .int f5_2, .int f5_3, .int f5_4, .int f5_5, .int f5_6, .int f5_7, .int f5_8, .int f5_9]))] [] _ _ := Bx.of (fun a => (κ a).2.1) hL hP (fa_c hb6 (fa_c hb5 fa_n)) (by simp only [List.map_cons, List.map_nil, hw.1, hw.2, hv.1, hv.2]; simp; omega)
  refine b_put (D := D) (ci := 3) (v := .int f5_0) (ty := .boolean) (C := RX3) (T := TX3) (N := 10) hx hb hts iX3_copyFrom_3 tyX3 tyX3_ok nmX3 hown hN hB 0 rfl rfl 0 (by decide) (hts _ mX3_copyFrom_1) (fun _ h9 => h9) rfl (by decide +kernel) (nb c5_up) (fb c5_up) (Nat.le_of_ble_eq_true rfl) (.inl rfl) dX3_copyFrom_5 (fun H locs hB => ?_)
  have hB : Bx B0 D _ [(w, .inr (3, [.int f5_0, .int f6_1, .int f6_2, .int f6_3, .int f6_4, .int f6_5, .int f6_6, .int f6_7, .int f6_8, .int f6_9])), (v, .inr (3, [.int f5_0, .int f5_1, .int f5_2, .int f5_3, .int f5_4, .int f5_5, .int f5_6, .int f5_7, .int f5_8, .int f5_9]))] [w] _ _ := hB
  refine lv_aload_n hx hb dX3_copyFrom_8 rfl (lv_at hl 0 rfl) ?_
  refine lv_aload_n hx hb dX3_copyFrom_9 rfl (lv_at hl 1 rfl) ?_
  refine va_get (D := D) (ci := 3) (v := .int f5_1) (C := RX3) (T := TX3) (N := 10) hx hb hts iX3_copyFrom_3 hown hN.1 hB.1 1 rfl rfl 1 (by decide) (hts _ mX3_copyFrom_2) (fun _ h9 => h9) rfl dX3_copyFrom_10 ?_
  refine b_put (D := D) (ci := 3) (v := .int f5_1) (ty := .int) (C := RX3) (T := TX3) (N := 10) hx hb hts iX3_copyFrom_3 tyX3 tyX3_ok nmX3 hown hN hB 0 rfl rfl 1 (by decide) (hts _ mX3_copyFrom_2) (fun _ h9 => h9) rfl (by decide +kernel) rfl rfl (Nat.le_of_ble_eq_true rfl) (.inr ⟨rfl, List.mem_of_getElem? (i := 0) rfl⟩) dX3_copyFrom_13 (fun H locs hB => ?_)
  have hB : Bx B0 D _ [(w, .inr (3, [.int f5_0, .int f5_1, .int f6_2, .int f6_3, .int f6_4, .int f6_5, .int f6_6, .int f6_7, .int f6_8, .int f6_9])), (v, .inr (3, [.int f5_0, .int f5_1, .int f5_2, .int f5_3, .int f5_4, .int f5_5, .int f5_6, .int f5_7, .int f5_8, .int f5_9]))] [w] _ _ := hB
  refine lv_aload_n hx hb dX3_copyFrom_16 rfl (lv_at hl 0 rfl) ?_
  refine lv_aload_n hx hb dX3_copyFrom_17 rfl (lv_at hl 1 rfl) ?_
  refine va_get (D := D) (ci := 3) (v := .int f5_2) (C := RX3) (T := TX3) (N := 10) hx hb hts iX3_copyFrom_3 hown hN.1 hB.1 1 rfl rfl 2 (by decide) (hts _ mX3_copyFrom_3) (fun _ h9 => h9) rfl dX3_copyFrom_18 ?_
  refine b_put (D := D) (ci := 3) (v := .int f5_2) (ty := .int) (C := RX3) (T := TX3) (N := 10) hx hb hts iX3_copyFrom_3 tyX3 tyX3_ok nmX3 hown hN hB 0 rfl rfl 2 (by decide) (hts _ mX3_copyFrom_3) (fun _ h9 => h9) rfl (by decide +kernel) rfl rfl (Nat.le_of_ble_eq_true rfl) (.inr ⟨rfl, List.mem_of_getElem? (i := 0) rfl⟩) dX3_copyFrom_21 (fun H locs hB => ?_)
  have hB : Bx B0 D _ [(w, .inr (3, [.int f5_0, .int f5_1, .int f5_2, .int f6_3, .int f6_4, .int f6_5, .int f6_6, .int f6_7, .int f6_8, .int f6_9])), (v, .inr (3, [.int f5_0, .int f5_1, .int f5_2, .int f5_3, .int f5_4, .int f5_5, .int f5_6, .int f5_7, .int f5_8, .int f5_9]))] [w] _ _ := hB
  refine lv_aload_n hx hb dX3_copyFrom_24 rfl (lv_at hl 0 rfl) ?_
  refine lv_aload_n hx hb dX3_copyFrom_25 rfl (lv_at hl 1 rfl) ?_
  refine va_get (D := D) (ci := 3) (v := .int f5_3) (C := RX3) (T := TX3) (N := 10) hx hb hts iX3_copyFrom_3 hown hN.1 hB.1 1 rfl rfl 3 (by decide) (hts _ mX3_copyFrom_4) (fun _ h9 => h9) rfl dX3_copyFrom_26 ?_
  refine b_put (D := D) (ci := 3) (v := .int f5_3) (ty := .int) (C := RX3) (T := TX3) (N := 10) hx hb hts iX3_copyFrom_3 tyX3 tyX3_ok nmX3 hown hN hB 0 rfl rfl 3 (by decide) (hts _ mX3_copyFrom_4) (fun _ h9 => h9) rfl (by decide +kernel) rfl rfl (Nat.le_of_ble_eq_true rfl) (.inr ⟨rfl, List.mem_of_getElem? (i := 0) rfl⟩) dX3_copyFrom_29 (fun H locs hB => ?_)
  have hB : Bx B0 D _ [(w, .inr (3, [.int f5_0, .int f5_1, .int f5_2, .int f5_3, .int f6_4, .int f6_5, .int f6_6, .int f6_7, .int f6_8, .int f6_9])), (v, .inr (3, [.int f5_0, .int f5_1, .int f5_2, .int f5_3, .int f5_4, .int f5_5, .int f5_6, .int f5_7, .int f5_8, .int f5_9]))] [w] _ _ := hB
  refine lv_aload_n hx hb dX3_copyFrom_32 rfl (lv_at hl 0 rfl) ?_
  refine lv_aload_n hx hb dX3_copyFrom_33 rfl (lv_at hl 1 rfl) ?_
  refine va_get (D := D) (ci := 3) (v := .int f5_4) (C := RX3) (T := TX3) (N := 10) hx hb hts iX3_copyFrom_3 hown hN.1 hB.1 1 rfl rfl 4 (by decide) (hts _ mX3_copyFrom_5) (fun _ h9 => h9) rfl dX3_copyFrom_34 ?_
  refine b_put (D := D) (ci := 3) (v := .int f5_4) (ty := .int) (C := RX3) (T := TX3) (N := 10) hx hb hts iX3_copyFrom_3 tyX3 tyX3_ok nmX3 hown hN hB 0 rfl rfl 4 (by decide) (hts _ mX3_copyFrom_5) (fun _ h9 => h9) rfl (by decide +kernel) rfl rfl (Nat.le_of_ble_eq_true rfl) (.inr ⟨rfl, List.mem_of_getElem? (i := 0) rfl⟩) dX3_copyFrom_37 (fun H locs hB => ?_)
  have hB : Bx B0 D _ [(w, .inr (3, [.int f5_0, .int f5_1, .int f5_2, .int f5_3, .int f5_4, .int f6_5, .int f6_6, .int f6_7, .int f6_8, .int f6_9])), (v, .inr (3, [.int f5_0, .int f5_1, .int f5_2, .int f5_3, .int f5_4, .int f5_5, .int f5_6, .int f5_7, .int f5_8, .int f5_9]))] [w] _ _ := hB
  refine lv_aload_n hx hb dX3_copyFrom_40 rfl (lv_at hl 0 rfl) ?_
  refine lv_aload_n hx hb dX3_copyFrom_41 rfl (lv_at hl 1 rfl) ?_
  refine va_get (D := D) (ci := 3) (v := .int f5_5) (C := RX3) (T := TX3) (N := 10) hx hb hts iX3_copyFrom_3 hown hN.1 hB.1 1 rfl rfl 5 (by decide) (hts _ mX3_copyFrom_6) (fun _ h9 => h9) rfl dX3_copyFrom_42 ?_
  refine b_put (D := D) (ci := 3) (v := .int f5_5) (ty := .int) (C := RX3) (T := TX3) (N := 10) hx hb hts iX3_copyFrom_3 tyX3 tyX3_ok nmX3 hown hN hB 0 rfl rfl 5 (by decide) (hts _ mX3_copyFrom_6) (fun _ h9 => h9) rfl (by decide +kernel) rfl rfl (Nat.le_of_ble_eq_true rfl) (.inr ⟨rfl, List.mem_of_getElem? (i := 0) rfl⟩) dX3_copyFrom_45 (fun H locs hB => ?_)
  have hB : Bx B0 D _ [(w, .inr (3, [.int f5_0, .int f5_1, .int f5_2, .int f5_3, .int f5_4, .int f5_5, .int f6_6, .int f6_7, .int f6_8, .int f6_9])), (v, .inr (3, [.int f5_0, .int f5_1, .int f5_2, .int f5_3, .int f5_4, .int f5_5, .int f5_6, .int f5_7, .int f5_8, .int f5_9]))] [w] _ _ := hB
  refine lv_aload_n hx hb dX3_copyFrom_48 rfl (lv_at hl 0 rfl) ?_
  refine lv_aload_n hx hb dX3_copyFrom_49 rfl (lv_at hl 1 rfl) ?_
  refine va_get (D := D) (ci := 3) (v := .int f5_6) (C := RX3) (T := TX3) (N := 10) hx hb hts iX3_copyFrom_3 hown hN.1 hB.1 1 rfl rfl 6 (by decide) (hts _ mX3_copyFrom_7) (fun _ h9 => h9) rfl dX3_copyFrom_50 ?_
  refine b_put (D := D) (ci := 3) (v := .int f5_6) (ty := .int) (C := RX3) (T := TX3) (N := 10) hx hb hts iX3_copyFrom_3 tyX3 tyX3_ok nmX3 hown hN hB 0 rfl rfl 6 (by decide) (hts _ mX3_copyFrom_7) (fun _ h9 => h9) rfl (by decide +kernel) rfl rfl (Nat.le_of_ble_eq_true rfl) (.inr ⟨rfl, List.mem_of_getElem? (i := 0) rfl⟩) dX3_copyFrom_53 (fun H locs hB => ?_)
  have hB : Bx B0 D _ [(w, .inr (3, [.int f5_0, .int f5_1, .int f5_2, .int f5_3, .int f5_4, .int f5_5, .int f5_6, .int f6_7, .int f6_8, .int f6_9])), (v, .inr (3, [.int f5_0, .int f5_1, .int f5_2, .int f5_3, .int f5_4, .int f5_5, .int f5_6, .int f5_7, .int f5_8, .int f5_9]))] [w] _ _ := hB
  refine lv_aload_n hx hb dX3_copyFrom_56 rfl (lv_at hl 0 rfl) ?_
  refine lv_aload_n hx hb dX3_copyFrom_57 rfl (lv_at hl 1 rfl) ?_
  refine va_get (D := D) (ci := 3) (v := .int f5_7) (C := RX3) (T := TX3) (N := 10) hx hb hts iX3_copyFrom_3 hown hN.1 hB.1 1 rfl rfl 7 (by decide) (hts _ mX3_copyFrom_8) (fun _ h9 => h9) rfl dX3_copyFrom_58 ?_
  refine b_put (D := D) (ci := 3) (v := .int f5_7) (ty := .int) (C := RX3) (T := TX3) (N := 10) hx hb hts iX3_copyFrom_3 tyX3 tyX3_ok nmX3 hown hN hB 0 rfl rfl 7 (by decide) (hts _ mX3_copyFrom_8) (fun _ h9 => h9) rfl (by decide +kernel) rfl rfl (Nat.le_of_ble_eq_true rfl) (.inr ⟨rfl, List.mem_of_getElem? (i := 0) rfl⟩) dX3_copyFrom_61 (fun H locs hB => ?_)
  have hB : Bx B0 D _ [(w, .inr (3, [.int f5_0, .int f5_1, .int f5_2, .int f5_3, .int f5_4, .int f5_5, .int f5_6, .int f5_7, .int f6_8, .int f6_9])), (v, .inr (3, [.int f5_0, .int f5_1, .int f5_2, .int f5_3, .int f5_4, .int f5_5, .int f5_6, .int f5_7, .int f5_8, .int f5_9]))] [w] _ _ := hB
  refine lv_aload_n hx hb dX3_copyFrom_64 rfl (lv_at hl 0 rfl) ?_
  refine lv_aload_n hx hb dX3_copyFrom_65 rfl (lv_at hl 1 rfl) ?_
  refine va_get (D := D) (ci := 3) (v := .int f5_8) (C := RX3) (T := TX3) (N := 10) hx hb hts iX3_copyFrom_3 hown hN.1 hB.1 1 rfl rfl 8 (by decide) (hts _ mX3_copyFrom_9) (fun _ h9 => h9) rfl dX3_copyFrom_66 ?_
  refine b_put (D := D) (ci := 3) (v := .int f5_8) (ty := .int) (C := RX3) (T := TX3) (N := 10) hx hb hts iX3_copyFrom_3 tyX3 tyX3_ok nmX3 hown hN hB 0 rfl rfl 8 (by decide) (hts _ mX3_copyFrom_9) (fun _ h9 => h9) rfl (by decide +kernel) rfl rfl (Nat.le_of_ble_eq_true rfl) (.inr ⟨rfl, List.mem_of_getElem? (i := 0) rfl⟩) dX3_copyFrom_69 (fun H locs hB => ?_)
  have hB : Bx B0 D _ [(w, .inr (3, [.int f5_0, .int f5_1, .int f5_2, .int f5_3, .int f5_4, .int f5_5, .int f5_6, .int f5_7, .int f5_8, .int f6_9])), (v, .inr (3, [.int f5_0, .int f5_1, .int f5_2, .int f5_3, .int f5_4, .int f5_5, .int f5_6, .int f5_7, .int f5_8, .int f5_9]))] [w] _ _ := hB
  refine lv_aload_n hx hb dX3_copyFrom_72 rfl (lv_at hl 0 rfl) ?_
  refine lv_aload_n hx hb dX3_copyFrom_73 rfl (lv_at hl 1 rfl) ?_
  refine va_get (D := D) (ci := 3) (v := .int f5_9) (C := RX3) (T := TX3) (N := 10) hx hb hts iX3_copyFrom_3 hown hN.1 hB.1 1 rfl rfl 9 (by decide) (hts _ mX3_copyFrom_10) (fun _ h9 => h9) rfl dX3_copyFrom_74 ?_
  refine b_put (D := D) (ci := 3) (v := .int f5_9) (ty := .int) (C := RX3) (T := TX3) (N := 10) hx hb hts iX3_copyFrom_3 tyX3 tyX3_ok nmX3 hown hN hB 0 rfl rfl 9 (by decide) (hts _ mX3_copyFrom_10) (fun _ h9 => h9) rfl (by decide +kernel) rfl rfl (Nat.le_of_ble_eq_true rfl) (.inr ⟨rfl, List.mem_of_getElem? (i := 0) rfl⟩) dX3_copyFrom_77 (fun H locs hB => ?_)
  have hB : Bx B0 D _ [(w, .inr (3, [.int f5_0, .int f5_1, .int f5_2, .int f5_3, .int f5_4, .int f5_5, .int f5_6, .int f5_7, .int f5_8, .int f5_9])), (v, .inr (3, [.int f5_0, .int f5_1, .int f5_2, .int f5_3, .int f5_4, .int f5_5, .int f5_6, .int f5_7, .int f5_8, .int f5_9]))] [w] _ _ := hB
  have hT : WT B0 D cs T κ _ := hT.close hB ⟨⟨0, _, rfl, ok_4 hw.1 ⟨_, _, _, _, _, _, _, _, _, _, rfl, c5_up⟩⟩, trivial⟩
  have hF : Fr B0 [i] κ H0 _ := hF.close hB (fa_c (by simp [hw.2]) fa_n)
  have hL : OkL B0 _ := hB.2.2.2.2.2
  have hP : va_P D vwCl [(w, .inr (3, [.int f5_0, .int f5_1, .int f5_2, .int f5_3, .int f5_4, .int f5_5, .int f5_6, .int f5_7, .int f5_8, .int f5_9])), (v, .inr (3, [.int f5_0, .int f5_1, .int f5_2, .int f5_3, .int f5_4, .int f5_5, .int f5_6, .int f5_7, .int f5_8, .int f5_9]))] _ := hB.1
  exact en_v hx hb hr hlocks hL (Nat.zero_le _) (Nat.zero_le _) dX3_copyFrom_80 (⟨hT, hF⟩)
theorem mX3_turn_1 : (.fieldLink RX3 7 "OneBeat$Player" "isUp" "Z" : Cond) ∈ wsX3_turn := List.mem_of_getElem? (i := 1) (by decide +kernel)
theorem iX3_turn_3 : ∀ w ∈ wsX30, w ∈ wsX3_turn := fun w h => List.mem_of_mem_drop (List.mem_of_mem_take ((show wsX30 = (wsX3_turn.drop 9).take 10 by decide +kernel) ▸ h))
set_option maxHeartbeats 4000000 in
set_option maxRecDepth 100000 in
theorem c_X3_turn {l : Launch} {D : va_G} {cs : Nat → ClassId} {B0 T : Nat} {κ : KM} {H0 : Heap} (hT : WT B0 D cs T κ H0) {w i : Nat} (hw : T2 κ w 4 i) {x : Int32} (qx : x = 0 ∨ x = 1) : KC l yX3_turn wsX3_turn 1 20 0 0 D cs B0 H0 [.ref w, .int x] (Qi (fun r H => WT B0 D cs T κ H ∧ Fr B0 [i] κ H0 H ∧ (r = 0 ∨ r = 1))) := by
  refine KC.of cX3_turn 3 (some .boolean) (by decide) rfl (Nat.le_of_ble_eq_true rfl) ?_
  intro p e s m below meth c ls hx hb hr hml hown hts hlocks hin hN hE hH0 hl
  have hown : s.vm.findClass RX3 = some m.cls := hown
  have hl : lv_has ls 3 [(0, .ref w), (1, .int x)] := hl
  have hL : OkL B0 [] := OkL.nil
  have hF : Fr B0 [i] κ H0 H0 := Fr.rf
  refine lv_aload_n hx hb dX3_turn_0 rfl (lv_at hl 0 rfl) ?_
  obtain ⟨hb7, e7, hat7, hk7⟩ := hT.o4 hw.1
  obtain ⟨f7_0, f7_1, f7_2, f7_3, f7_4, f7_5, f7_6, f7_7, f7_8, f7_9, rfl, c7_up⟩ := hk7
  have hP : va_P D vwCl [(w, .inr (3, [.int f7_0, .int f7_1, .int f7_2, .int f7_3, .int f7_4, .int f7_5, .int f7_6, .int f7_7, .int f7_8, .int f7_9]))] _ := va_P.cons hat7 va_P.nil
  refine va_get (D := D) (ci := 3) (v := .int f7_0) (C := RX3) (T := TX3) (N := 10) hx hb hts iX3_turn_3 hown hN.1 hP 0 rfl rfl 0 (by decide) (hts _ mX3_turn_1) (fun _ h9 => h9) rfl dX3_turn_1 ?_
  refine lv_istore_n (lv' := [(2, .int f7_0), (0, .ref w), (1, .int x)]) hx hb dX3_turn_4 rfl hl (by decide) rfl (fun ls hl => ?_)
  refine lv_aload_n hx hb dX3_turn_5 rfl (lv_at hl 1 rfl) ?_
  refine lv_iload_n hx hb dX3_turn_6 rfl (lv_at hl 2 rfl) ?_
  have hB : Bx B0 D _ [(w, .inr (3, [.int f7_0, .int f7_1, .int f7_2, .int f7_3, .int f7_4, .int f7_5, .int f7_6, .int f7_7, .int f7_8, .int f7_9]))] [] _ _ := Bx.of (fun a => (κ a).1) hL hP (fa_c hb7 fa_n) (by simp only [List.map_cons, List.map_nil, hw.1]; decide)
  refine b_put (D := D) (ci := 3) (v := .int x) (ty := .boolean) (C := RX3) (T := TX3) (N := 10) hx hb hts iX3_turn_3 tyX3 tyX3_ok nmX3 hown hN hB 0 rfl rfl 0 (by decide) (hts _ mX3_turn_1) (fun _ h9 => h9) rfl (by decide +kernel) (nb qx) (fb qx) (Nat.le_of_ble_eq_true rfl) (.inl rfl) dX3_turn_7 (fun H locs hB => ?_)
  have hB : Bx B0 D _ [(w, .inr (3, [.int x, .int f7_1, .int f7_2, .int f7_3, .int f7_4, .int f7_5, .int f7_6, .int f7_7, .int f7_8, .int f7_9]))] [w] _ _ := hB
  refine lv_iload_n hx hb dX3_turn_10 rfl (lv_at hl 2 rfl) ?_
  refine lv_if_ne (tgt := 18) hx hb dX3_turn_11 (by decide) (fun c8 => ?_) (fun c8 => ?_)
  · refine lv_iload_n hx hb dX3_turn_18 rfl (lv_at hl 0 rfl) ?_
    have hT : WT B0 D cs T κ _ := hT.close hB ⟨⟨0, _, rfl, ok_4 hw.1 ⟨_, _, _, _, _, _, _, _, _, _, rfl, qx⟩⟩, trivial⟩
    have hF : Fr B0 [i] κ H0 _ := hF.close hB (fa_c (by simp [hw.2]) fa_n)
    have hL : OkL B0 _ := hB.2.2.2.2.2
    have hP : va_P D vwCl [(w, .inr (3, [.int x, .int f7_1, .int f7_2, .int f7_3, .int f7_4, .int f7_5, .int f7_6, .int f7_7, .int f7_8, .int f7_9]))] _ := hB.1
    exact en_i hx hb hr hlocks hL (nb c7_up) (Nat.zero_le _) (Nat.zero_le _) dX3_turn_19 (⟨hT, hF, c7_up⟩)
  · refine lv_aload_n hx hb dX3_turn_14 rfl (lv_at hl 1 rfl) ?_
    have hT : WT B0 D cs T κ _ := hT.close hB ⟨⟨0, _, rfl, ok_4 hw.1 ⟨_, _, _, _, _, _, _, _, _, _, rfl, qx⟩⟩, trivial⟩
    have hF : Fr B0 [i] κ H0 _ := hF.close hB (fa_c (by simp [hw.2]) fa_n)
    have hL : OkL B0 _ := hB.2.2.2.2.2
    have hP : va_P D vwCl [(w, .inr (3, [.int x, .int f7_1, .int f7_2, .int f7_3, .int f7_4, .int f7_5, .int f7_6, .int f7_7, .int f7_8, .int f7_9]))] _ := hB.1
    refine cv_v (As := []) (rest := []) (b := w) ⟨hx, hb, hml, hown, hts⟩ (c_X3_dropPlan hT (w := w) hw) (cwV 0 hts gX3_turn_X3_dropPlan rfl rfl rfl hdX3_dropPlan_v ⟨Nat.le_of_ble_eq_true rfl, Nat.le_of_ble_eq_true rfl⟩) hN hE hL (rcv4 hN hT hw.1) rfl rfl hl.1 (Nat.le_of_ble_eq_true rfl) dX3_turn_15 (Nat.zero_le _) (Nat.zero_le _) (fun H1 locs hL hqr9 => ?_)
    obtain ⟨hT1, hF1⟩ := hqr9
    have hF := hF.tr (hF1.mono (by simp))
    have hT := hT1
    refine lv_iload_n hx hb dX3_turn_18 rfl (lv_at hl 0 rfl) ?_
    exact en_i hx hb hr hlocks hL (nb c7_up) (Nat.zero_le _) (Nat.zero_le _) dX3_turn_19 (⟨hT, hF, c7_up⟩)
theorem mX3_takePlan_1 : (.fieldLink RX3 35 "OneBeat$Player" "planNumber" "I" : Cond) ∈ wsX3_takePlan := List.mem_of_getElem? (i := 1) (by decide +kernel)
theorem iX3_takePlan_3 : ∀ w ∈ wsX30, w ∈ wsX3_takePlan := fun w h => List.mem_of_mem_drop (List.mem_of_mem_take ((show wsX30 = (wsX3_takePlan.drop 5).take 10 by decide +kernel) ▸ h))
theorem mX3_takePlan_2 : (.fieldLink RX3 32 "OneBeat$Player" "plan" "I" : Cond) ∈ wsX3_takePlan := List.mem_of_getElem? (i := 2) (by decide +kernel)
theorem mX3_takePlan_3 : (.fieldLink RX3 38 "OneBeat$Player" "planSong" "I" : Cond) ∈ wsX3_takePlan := List.mem_of_getElem? (i := 3) (by decide +kernel)
theorem mX3_takePlan_4 : (.fieldLink RX3 41 "OneBeat$Player" "planBeat" "I" : Cond) ∈ wsX3_takePlan := List.mem_of_getElem? (i := 4) (by decide +kernel)
set_option maxHeartbeats 4000000 in
set_option maxRecDepth 100000 in
theorem c_X3_takePlan {l : Launch} {D : va_G} {cs : Nat → ClassId} {B0 T : Nat} {κ : KM} {H0 : Heap} (hT : WT B0 D cs T κ H0) {w i : Nat} (hw : T2 κ w 4 i) {x : Int32} {y : Int32} {z : Int32} {u : Int32} : KC l yX3_takePlan wsX3_takePlan 0 0 0 0 D cs B0 H0 [.ref w, .int x, .int y, .int z, .int u] (Qv (fun H => WT B0 D cs T κ H ∧ Fr B0 [i] κ H0 H)) := by
  refine KC.of cX3_takePlan 5 none (by decide) rfl (Nat.le_of_ble_eq_true rfl) ?_
  intro p e s m below meth c ls hx hb hr hml hown hts hlocks hin hN hE hH0 hl
  have hown : s.vm.findClass RX3 = some m.cls := hown
  have hl : lv_has ls 5 [(0, .ref w), (1, .int x), (2, .int y), (3, .int z), (4, .int u)] := hl
  have hL : OkL B0 [] := OkL.nil
  have hF : Fr B0 [i] κ H0 H0 := Fr.rf
  refine lv_aload_n hx hb dX3_takePlan_0 rfl (lv_at hl 0 rfl) ?_
  obtain ⟨hb10, e10, hat10, hk10⟩ := hT.o4 hw.1
  obtain ⟨f10_0, f10_1, f10_2, f10_3, f10_4, f10_5, f10_6, f10_7, f10_8, f10_9, rfl, c10_up⟩ := hk10
  have hP : va_P D vwCl [(w, .inr (3, [.int f10_0, .int f10_1, .int f10_2, .int f10_3, .int f10_4, .int f10_5, .int f10_6, .int f10_7, .int f10_8, .int f10_9]))] _ := va_P.cons hat10 va_P.nil
  refine va_get (D := D) (ci := 3) (v := .int f10_4) (C := RX3) (T := TX3) (N := 10) hx hb hts iX3_takePlan_3 hown hN.1 hP 0 rfl rfl 4 (by decide) (hts _ mX3_takePlan_1) (fun _ h9 => h9) rfl dX3_takePlan_1 ?_
  refine lv_iload_n hx hb dX3_takePlan_4 rfl (lv_at hl 1 rfl) ?_
  refine lv_icmp_le (tgt := 9) hx hb dX3_takePlan_5 (by decide) (fun c11 => ?_) (fun c11 => ?_)
  · refine lv_aload_n hx hb dX3_takePlan_9 rfl (lv_at hl 0 rfl) ?_
    refine lv_iload hx hb dX3_takePlan_10 (lv_at hl 4 rfl) ?_
    have hB : Bx B0 D _ [(w, .inr (3, [.int f10_0, .int f10_1, .int f10_2, .int f10_3, .int f10_4, .int f10_5, .int f10_6, .int f10_7, .int f10_8, .int f10_9]))] [] _ _ := Bx.of (fun a => (κ a).1) hL hP (fa_c hb10 fa_n) (by simp only [List.map_cons, List.map_nil, hw.1]; decide)
    refine b_put (D := D) (ci := 3) (v := .int u) (ty := .int) (C := RX3) (T := TX3) (N := 10) hx hb hts iX3_takePlan_3 tyX3 tyX3_ok nmX3 hown hN hB 0 rfl rfl 3 (by decide) (hts _ mX3_takePlan_2) (fun _ h9 => h9) rfl (by decide +kernel) rfl rfl (Nat.le_of_ble_eq_true rfl) (.inl rfl) dX3_takePlan_12 (fun H locs hB => ?_)
    have hB : Bx B0 D _ [(w, .inr (3, [.int f10_0, .int f10_1, .int f10_2, .int u, .int f10_4, .int f10_5, .int f10_6, .int f10_7, .int f10_8, .int f10_9]))] [w] _ _ := hB
    refine lv_aload_n hx hb dX3_takePlan_15 rfl (lv_at hl 0 rfl) ?_
    refine lv_iload_n hx hb dX3_takePlan_16 rfl (lv_at hl 1 rfl) ?_
    refine b_put (D := D) (ci := 3) (v := .int x) (ty := .int) (C := RX3) (T := TX3) (N := 10) hx hb hts iX3_takePlan_3 tyX3 tyX3_ok nmX3 hown hN hB 0 rfl rfl 4 (by decide) (hts _ mX3_takePlan_1) (fun _ h9 => h9) rfl (by decide +kernel) rfl rfl (Nat.le_of_ble_eq_true rfl) (.inr ⟨rfl, List.mem_of_getElem? (i := 0) rfl⟩) dX3_takePlan_17 (fun H locs hB => ?_)
    have hB : Bx B0 D _ [(w, .inr (3, [.int f10_0, .int f10_1, .int f10_2, .int u, .int x, .int f10_5, .int f10_6, .int f10_7, .int f10_8, .int f10_9]))] [w] _ _ := hB
    refine lv_aload_n hx hb dX3_takePlan_20 rfl (lv_at hl 0 rfl) ?_
    refine lv_iload_n hx hb dX3_takePlan_21 rfl (lv_at hl 2 rfl) ?_
    refine b_put (D := D) (ci := 3) (v := .int y) (ty := .int) (C := RX3) (T := TX3) (N := 10) hx hb hts iX3_takePlan_3 tyX3 tyX3_ok nmX3 hown hN hB 0 rfl rfl 5 (by decide) (hts _ mX3_takePlan_3) (fun _ h9 => h9) rfl (by decide +kernel) rfl rfl (Nat.le_of_ble_eq_true rfl) (.inr ⟨rfl, List.mem_of_getElem? (i := 0) rfl⟩) dX3_takePlan_22 (fun H locs hB => ?_)
    have hB : Bx B0 D _ [(w, .inr (3, [.int f10_0, .int f10_1, .int f10_2, .int u, .int x, .int y, .int f10_6, .int f10_7, .int f10_8, .int f10_9]))] [w] _ _ := hB
    refine lv_aload_n hx hb dX3_takePlan_25 rfl (lv_at hl 0 rfl) ?_
    refine lv_iload_n hx hb dX3_takePlan_26 rfl (lv_at hl 3 rfl) ?_
    refine b_put (D := D) (ci := 3) (v := .int z) (ty := .int) (C := RX3) (T := TX3) (N := 10) hx hb hts iX3_takePlan_3 tyX3 tyX3_ok nmX3 hown hN hB 0 rfl rfl 6 (by decide) (hts _ mX3_takePlan_4) (fun _ h9 => h9) rfl (by decide +kernel) rfl rfl (Nat.le_of_ble_eq_true rfl) (.inr ⟨rfl, List.mem_of_getElem? (i := 0) rfl⟩) dX3_takePlan_27 (fun H locs hB => ?_)
    have hB : Bx B0 D _ [(w, .inr (3, [.int f10_0, .int f10_1, .int f10_2, .int u, .int x, .int y, .int z, .int f10_7, .int f10_8, .int f10_9]))] [w] _ _ := hB
    have hT : WT B0 D cs T κ _ := hT.close hB ⟨⟨0, _, rfl, ok_4 hw.1 ⟨_, _, _, _, _, _, _, _, _, _, rfl, c10_up⟩⟩, trivial⟩
    have hF : Fr B0 [i] κ H0 _ := hF.close hB (fa_c (by simp [hw.2]) fa_n)
    have hL : OkL B0 _ := hB.2.2.2.2.2
    have hP : va_P D vwCl [(w, .inr (3, [.int f10_0, .int f10_1, .int f10_2, .int u, .int x, .int y, .int z, .int f10_7, .int f10_8, .int f10_9]))] _ := hB.1
    exact en_v hx hb hr hlocks hL (Nat.zero_le _) (Nat.zero_le _) dX3_takePlan_30 (⟨hT, hF⟩)
  · exact en_v hx hb hr hlocks hL (Nat.zero_le _) (Nat.zero_le _) dX3_takePlan_8 (⟨hT, hF⟩)
theorem mX3_canChange_1 : (.fieldLink RX3 7 "OneBeat$Player" "isUp" "Z" : Cond) ∈ wsX3_canChange := List.mem_of_getElem? (i := 1) (by decide +kernel)
theorem iX3_canChange_3 : ∀ w ∈ wsX30, w ∈ wsX3_canChange := fun w h => List.mem_of_mem_drop (List.mem_of_mem_take ((show wsX30 = (wsX3_canChange.drop 4).take 10 by decide +kernel) ▸ h))
theorem mX3_canChange_2 : (.fieldLink RX3 32 "OneBeat$Player" "plan" "I" : Cond) ∈ wsX3_canChange := List.mem_of_getElem? (i := 2) (by decide +kernel)
theorem mX3_canChange_3 : (.fieldLink RX3 41 "OneBeat$Player" "planBeat" "I" : Cond) ∈ wsX3_canChange := List.mem_of_getElem? (i := 3) (by decide +kernel)
set_option maxHeartbeats 4000000 in
set_option maxRecDepth 100000 in
theorem c_X3_canChange {l : Launch} {D : va_G} {cs : Nat → ClassId} {B0 T : Nat} {κ : KM} {H0 : Heap} (hT : WT B0 D cs T κ H0) {w i : Nat} (hw : T2 κ w 4 i) {x : Int32} : KC l yX3_canChange wsX3_canChange 0 0 0 0 D cs B0 H0 [.ref w, .int x] (Qi (fun r H => H = H0 ∧ (r = 0 ∨ r = 1))) := by
  refine KC.of cX3_canChange 2 (some .boolean) (by decide) rfl (Nat.le_of_ble_eq_true rfl) ?_
  intro p e s m below meth c ls hx hb hr hml hown hts hlocks hin hN hE hH0 hl
  have hown : s.vm.findClass RX3 = some m.cls := hown
  have hl : lv_has ls 2 [(0, .ref w), (1, .int x)] := hl
  have hL : OkL B0 [] := OkL.nil
  refine lv_aload_n hx hb dX3_canChange_0 rfl (lv_at hl 0 rfl) ?_
  obtain ⟨hb12, e12, hat12, hk12⟩ := hT.o4 hw.1
  obtain ⟨f12_0, f12_1, f12_2, f12_3, f12_4, f12_5, f12_6, f12_7, f12_8, f12_9, rfl, c12_up⟩ := hk12
  have hP : va_P D vwCl [(w, .inr (3, [.int f12_0, .int f12_1, .int f12_2, .int f12_3, .int f12_4, .int f12_5, .int f12_6, .int f12_7, .int f12_8, .int f12_9]))] _ := va_P.cons hat12 va_P.nil
  refine va_get (D := D) (ci := 3) (v := .int f12_0) (C := RX3) (T := TX3) (N := 10) hx hb hts iX3_canChange_3 hown hN.1 hP 0 rfl rfl 0 (by decide) (hts _ mX3_canChange_1) (fun _ h9 => h9) rfl dX3_canChange_1 ?_
  refine lv_if_eq (tgt := 27) hx hb dX3_canChange_4 (by decide) (fun c13 => ?_) (fun c13 => ?_)
  · refine lv_iconst (v := 0) hx hb dX3_canChange_27 (by decide) ?_
    exact en_i hx hb hr hlocks hL rfl (Nat.zero_le _) (Nat.zero_le _) dX3_canChange_28 (⟨rfl, Or.inl rfl⟩)
  · refine lv_aload_n hx hb dX3_canChange_7 rfl (lv_at hl 0 rfl) ?_
    refine va_get (D := D) (ci := 3) (v := .int f12_3) (C := RX3) (T := TX3) (N := 10) hx hb hts iX3_canChange_3 hown hN.1 hP 0 rfl rfl 3 (by decide) (hts _ mX3_canChange_2) (fun _ h9 => h9) rfl dX3_canChange_8 ?_
    refine lv_iconst (v := 2) hx hb dX3_canChange_11 (by decide) ?_
    refine lv_icmp_ne (tgt := 27) hx hb dX3_canChange_12 (by decide) (fun c14 => ?_) (fun c14 => ?_)
    · refine lv_iconst (v := 0) hx hb dX3_canChange_27 (by decide) ?_
      exact en_i hx hb hr hlocks hL rfl (Nat.zero_le _) (Nat.zero_le _) dX3_canChange_28 (⟨rfl, Or.inl rfl⟩)
    · refine lv_iload_n hx hb dX3_canChange_15 rfl (lv_at hl 1 rfl) ?_
      refine lv_aload_n hx hb dX3_canChange_16 rfl (lv_at hl 0 rfl) ?_
      refine va_get (D := D) (ci := 3) (v := .int f12_6) (C := RX3) (T := TX3) (N := 10) hx hb hts iX3_canChange_3 hown hN.1 hP 0 rfl rfl 6 (by decide) (hts _ mX3_canChange_3) (fun _ h9 => h9) rfl dX3_canChange_17 ?_
      refine lv_icmp_lt (tgt := 27) hx hb dX3_canChange_20 (by decide) (fun c15 => ?_) (fun c15 => ?_)
      · refine lv_iconst (v := 0) hx hb dX3_canChange_27 (by decide) ?_
        exact en_i hx hb hr hlocks hL rfl (Nat.zero_le _) (Nat.zero_le _) dX3_canChange_28 (⟨rfl, Or.inl rfl⟩)
      · refine lv_iconst (v := 1) hx hb dX3_canChange_23 (by decide) ?_
        refine lv_goto (tgt := 28) hx hb dX3_canChange_24 (by decide) ?_
        exact en_i hx hb hr hlocks hL rfl (Nat.zero_le _) (Nat.zero_le _) dX3_canChange_28 (⟨rfl, Or.inr rfl⟩)
theorem mX3_change_1 : (.fieldLink RX3 38 "OneBeat$Player" "planSong" "I" : Cond) ∈ wsX3_change := List.mem_of_getElem? (i := 1) (by decide +kernel)
theorem iX3_change_3 : ∀ w ∈ wsX30, w ∈ wsX3_change := fun w h => List.mem_of_mem_drop (List.mem_of_mem_take ((show wsX30 = (wsX3_change.drop 13).take 10 by decide +kernel) ▸ h))
theorem mX3_change_2 : (.fieldLink RX3 17 "OneBeat$Player" "song" "I" : Cond) ∈ wsX3_change := List.mem_of_getElem? (i := 2) (by decide +kernel)
theorem mX3_change_3 : (.fieldLink RX3 23 "OneBeat$Player" "changes" "I" : Cond) ∈ wsX3_change := List.mem_of_getElem? (i := 3) (by decide +kernel)
theorem mX3_change_5 : (.fieldLink RX3 29 "OneBeat$Player" "changedAt" "I" : Cond) ∈ wsX3_change := List.mem_of_getElem? (i := 5) (by decide +kernel)
theorem mX3_change_4 : (.fieldLink RX3 26 "OneBeat$Player" "late" "I" : Cond) ∈ wsX3_change := List.mem_of_getElem? (i := 4) (by decide +kernel)
set_option maxHeartbeats 4000000 in
set_option maxRecDepth 100000 in
theorem c_X3_change {l : Launch} {D : va_G} {cs : Nat → ClassId} {B0 T : Nat} {κ : KM} {H0 : Heap} (hT : WT B0 D cs T κ H0) {w i : Nat} (hw : T2 κ w 4 i) {x : Int32} {y : Int32} : KC l yX3_change wsX3_change 1 20 0 0 D cs B0 H0 [.ref w, .int x, .int y] (Qv (fun H => WT B0 D cs T κ H ∧ Fr B0 [i] κ H0 H)) := by
  refine KC.of cX3_change 3 none (by decide) rfl (Nat.le_of_ble_eq_true rfl) ?_
  intro p e s m below meth c ls hx hb hr hml hown hts hlocks hin hN hE hH0 hl
  have hown : s.vm.findClass RX3 = some m.cls := hown
  have hl : lv_has ls 3 [(0, .ref w), (1, .int x), (2, .int y)] := hl
  have hL : OkL B0 [] := OkL.nil
  have hF : Fr B0 [i] κ H0 H0 := Fr.rf
  refine lv_aload_n hx hb dX3_change_0 rfl (lv_at hl 0 rfl) ?_
  refine lv_aload_n hx hb dX3_change_1 rfl (lv_at hl 0 rfl) ?_
  obtain ⟨hb16, e16, hat16, hk16⟩ := hT.o4 hw.1
  obtain ⟨f16_0, f16_1, f16_2, f16_3, f16_4, f16_5, f16_6, f16_7, f16_8, f16_9, rfl, c16_up⟩ := hk16
  have hP : va_P D vwCl [(w, .inr (3, [.int f16_0, .int f16_1, .int f16_2, .int f16_3, .int f16_4, .int f16_5, .int f16_6, .int f16_7, .int f16_8, .int f16_9]))] _ := va_P.cons hat16 va_P.nil
  refine va_get (D := D) (ci := 3) (v := .int f16_5) (C := RX3) (T := TX3) (N := 10) hx hb hts iX3_change_3 hown hN.1 hP 0 rfl rfl 5 (by decide) (hts _ mX3_change_1) (fun _ h9 => h9) rfl dX3_change_2 ?_
  have hB : Bx B0 D _ [(w, .inr (3, [.int f16_0, .int f16_1, .int f16_2, .int f16_3, .int f16_4, .int f16_5, .int f16_6, .int f16_7, .int f16_8, .int f16_9]))] [] _ _ := Bx.of (fun a => (κ a).1) hL hP (fa_c hb16 fa_n) (by simp only [List.map_cons, List.map_nil, hw.1]; decide)
  refine b_put (D := D) (ci := 3) (v := .int f16_5) (ty := .int) (C := RX3) (T := TX3) (N := 10) hx hb hts iX3_change_3 tyX3 tyX3_ok nmX3 hown hN hB 0 rfl rfl 2 (by decide) (hts _ mX3_change_2) (fun _ h9 => h9) rfl (by decide +kernel) rfl rfl (Nat.le_of_ble_eq_true rfl) (.inl rfl) dX3_change_5 (fun H locs hB => ?_)
  have hB : Bx B0 D _ [(w, .inr (3, [.int f16_0, .int f16_1, .int f16_5, .int f16_3, .int f16_4, .int f16_5, .int f16_6, .int f16_7, .int f16_8, .int f16_9]))] [w] _ _ := hB
  refine lv_aload_n hx hb dX3_change_8 rfl (lv_at hl 0 rfl) ?_
  refine lv_dup hx hb dX3_change_9 rfl ?_
  refine va_get (D := D) (ci := 3) (v := .int f16_7) (C := RX3) (T := TX3) (N := 10) hx hb hts iX3_change_3 hown hN.1 hB.1 0 rfl rfl 7 (by decide) (hts _ mX3_change_3) (fun _ h9 => h9) rfl dX3_change_10 ?_
  refine lv_iconst (v := 1) hx hb dX3_change_13 (by decide) ?_
  refine lv_iadd hx hb dX3_change_14 ?_
  refine gn_i (fun x17 => ?_)
  refine b_put (D := D) (ci := 3) (v := .int x17) (ty := .int) (C := RX3) (T := TX3) (N := 10) hx hb hts iX3_change_3 tyX3 tyX3_ok nmX3 hown hN hB 0 rfl rfl 7 (by decide) (hts _ mX3_change_3) (fun _ h9 => h9) rfl (by decide +kernel) rfl rfl (Nat.le_of_ble_eq_true rfl) (.inr ⟨rfl, List.mem_of_getElem? (i := 0) rfl⟩) dX3_change_15 (fun H locs hB => ?_)
  have hB : Bx B0 D _ [(w, .inr (3, [.int f16_0, .int f16_1, .int f16_5, .int f16_3, .int f16_4, .int f16_5, .int f16_6, .int x17, .int f16_8, .int f16_9]))] [w] _ _ := hB
  refine lv_iload_n hx hb dX3_change_18 rfl (lv_at hl 2 rfl) ?_
  refine lv_if_eq (tgt := 32) hx hb dX3_change_19 (by decide) (fun c18 => ?_) (fun c18 => ?_)
  · refine lv_aload_n hx hb dX3_change_32 rfl (lv_at hl 0 rfl) ?_
    refine lv_iload_n hx hb dX3_change_33 rfl (lv_at hl 1 rfl) ?_
    refine b_put (D := D) (ci := 3) (v := .int x) (ty := .int) (C := RX3) (T := TX3) (N := 10) hx hb hts iX3_change_3 tyX3 tyX3_ok nmX3 hown hN hB 0 rfl rfl 9 (by decide) (hts _ mX3_change_5) (fun _ h9 => h9) rfl (by decide +kernel) rfl rfl (Nat.le_of_ble_eq_true rfl) (.inr ⟨rfl, List.mem_of_getElem? (i := 0) rfl⟩) dX3_change_34 (fun H locs hB => ?_)
    have hB : Bx B0 D _ [(w, .inr (3, [.int f16_0, .int f16_1, .int f16_5, .int f16_3, .int f16_4, .int f16_5, .int f16_6, .int x17, .int f16_8, .int x]))] [w] _ _ := hB
    refine lv_aload_n hx hb dX3_change_37 rfl (lv_at hl 0 rfl) ?_
    have hT : WT B0 D cs T κ _ := hT.close hB ⟨⟨0, _, rfl, ok_4 hw.1 ⟨_, _, _, _, _, _, _, _, _, _, rfl, c16_up⟩⟩, trivial⟩
    have hF : Fr B0 [i] κ H0 _ := hF.close hB (fa_c (by simp [hw.2]) fa_n)
    have hL : OkL B0 _ := hB.2.2.2.2.2
    have hP : va_P D vwCl [(w, .inr (3, [.int f16_0, .int f16_1, .int f16_5, .int f16_3, .int f16_4, .int f16_5, .int f16_6, .int x17, .int f16_8, .int x]))] _ := hB.1
    refine cv_v (As := []) (rest := []) (b := w) ⟨hx, hb, hml, hown, hts⟩ (c_X3_dropPlan hT (w := w) hw) (cwV 0 hts gX3_change_X3_dropPlan rfl rfl rfl hdX3_dropPlan_v ⟨Nat.le_of_ble_eq_true rfl, Nat.le_of_ble_eq_true rfl⟩) hN hE hL (rcv4 hN hT hw.1) rfl rfl hl.1 (Nat.le_of_ble_eq_true rfl) dX3_change_38 (Nat.zero_le _) (Nat.zero_le _) (fun H1 locs hL hqr19 => ?_)
    obtain ⟨hT1, hF1⟩ := hqr19
    have hF := hF.tr (hF1.mono (by simp))
    have hT := hT1
    exact en_v hx hb hr hlocks hL (Nat.zero_le _) (Nat.zero_le _) dX3_change_41 (⟨hT, hF⟩)
  · refine lv_aload_n hx hb dX3_change_22 rfl (lv_at hl 0 rfl) ?_
    refine lv_dup hx hb dX3_change_23 rfl ?_
    refine va_get (D := D) (ci := 3) (v := .int f16_8) (C := RX3) (T := TX3) (N := 10) hx hb hts iX3_change_3 hown hN.1 hB.1 0 rfl rfl 8 (by decide) (hts _ mX3_change_4) (fun _ h9 => h9) rfl dX3_change_24 ?_
    refine lv_iconst (v := 1) hx hb dX3_change_27 (by decide) ?_
    refine lv_iadd hx hb dX3_change_28 ?_
    refine gn_i (fun x20 => ?_)
    refine b_put (D := D) (ci := 3) (v := .int x20) (ty := .int) (C := RX3) (T := TX3) (N := 10) hx hb hts iX3_change_3 tyX3 tyX3_ok nmX3 hown hN hB 0 rfl rfl 8 (by decide) (hts _ mX3_change_4) (fun _ h9 => h9) rfl (by decide +kernel) rfl rfl (Nat.le_of_ble_eq_true rfl) (.inr ⟨rfl, List.mem_of_getElem? (i := 0) rfl⟩) dX3_change_29 (fun H locs hB => ?_)
    have hB : Bx B0 D _ [(w, .inr (3, [.int f16_0, .int f16_1, .int f16_5, .int f16_3, .int f16_4, .int f16_5, .int f16_6, .int x17, .int x20, .int f16_9]))] [w] _ _ := hB
    refine lv_aload_n hx hb dX3_change_32 rfl (lv_at hl 0 rfl) ?_
    refine lv_iload_n hx hb dX3_change_33 rfl (lv_at hl 1 rfl) ?_
    refine b_put (D := D) (ci := 3) (v := .int x) (ty := .int) (C := RX3) (T := TX3) (N := 10) hx hb hts iX3_change_3 tyX3 tyX3_ok nmX3 hown hN hB 0 rfl rfl 9 (by decide) (hts _ mX3_change_5) (fun _ h9 => h9) rfl (by decide +kernel) rfl rfl (Nat.le_of_ble_eq_true rfl) (.inr ⟨rfl, List.mem_of_getElem? (i := 0) rfl⟩) dX3_change_34 (fun H locs hB => ?_)
    have hB : Bx B0 D _ [(w, .inr (3, [.int f16_0, .int f16_1, .int f16_5, .int f16_3, .int f16_4, .int f16_5, .int f16_6, .int x17, .int x20, .int x]))] [w] _ _ := hB
    refine lv_aload_n hx hb dX3_change_37 rfl (lv_at hl 0 rfl) ?_
    have hT : WT B0 D cs T κ _ := hT.close hB ⟨⟨0, _, rfl, ok_4 hw.1 ⟨_, _, _, _, _, _, _, _, _, _, rfl, c16_up⟩⟩, trivial⟩
    have hF : Fr B0 [i] κ H0 _ := hF.close hB (fa_c (by simp [hw.2]) fa_n)
    have hL : OkL B0 _ := hB.2.2.2.2.2
    have hP : va_P D vwCl [(w, .inr (3, [.int f16_0, .int f16_1, .int f16_5, .int f16_3, .int f16_4, .int f16_5, .int f16_6, .int x17, .int x20, .int x]))] _ := hB.1
    refine cv_v (As := []) (rest := []) (b := w) ⟨hx, hb, hml, hown, hts⟩ (c_X3_dropPlan hT (w := w) hw) (cwV 0 hts gX3_change_X3_dropPlan rfl rfl rfl hdX3_dropPlan_v ⟨Nat.le_of_ble_eq_true rfl, Nat.le_of_ble_eq_true rfl⟩) hN hE hL (rcv4 hN hT hw.1) rfl rfl hl.1 (Nat.le_of_ble_eq_true rfl) dX3_change_38 (Nat.zero_le _) (Nat.zero_le _) (fun H1 locs hL hqr21 => ?_)
    obtain ⟨hT1, hF1⟩ := hqr21
    have hF := hF.tr (hF1.mono (by simp))
    have hT := hT1
    exact en_v hx hb hr hlocks hL (Nat.zero_le _) (Nat.zero_le _) dX3_change_41 (⟨hT, hF⟩)
theorem mX1_tell_5 : (.fieldLink RX1 22 "OneBeat$Letter" "proposal" "I" : Cond) ∈ wsX1_tell := List.mem_of_getElem? (i := 5) (by decide +kernel)
theorem iX1_tell_1 : ∀ w ∈ wsX10, w ∈ wsX1_tell := fun w h => List.mem_of_mem_drop (List.mem_of_mem_take ((show wsX10 = (wsX1_tell.drop 6).take 7 by decide +kernel) ▸ h))
theorem sw_0_4 {x : Int32} (h : ¬ (x.toInt < (0 : Int) ∨ (4 : Int) < x.toInt)) : x = 0 ∨ x = 1 ∨ x = 2 ∨ x = 3 ∨ x = 4 := by
  have h2 : x.toInt = (0 : Int) ∨ x.toInt = (1 : Int) ∨ x.toInt = (2 : Int) ∨ x.toInt = (3 : Int) ∨ x.toInt = (4 : Int) := by omega
  rcases h2 with h2 | h2 | h2 | h2 | h2
  · exact Or.inl (Int32.toInt_inj.mp (h2.trans (by decide)))
  · exact Or.inr (Or.inl (Int32.toInt_inj.mp (h2.trans (by decide))))
  · exact Or.inr (Or.inr (Or.inl (Int32.toInt_inj.mp (h2.trans (by decide)))))
  · exact Or.inr (Or.inr (Or.inr (Or.inl (Int32.toInt_inj.mp (h2.trans (by decide))))))
  · exact Or.inr (Or.inr (Or.inr (Or.inr ((Int32.toInt_inj.mp (h2.trans (by decide)))))))
theorem mX1_tell_1 : (.fieldLink RX1 7 "OneBeat$Letter" "kind" "I" : Cond) ∈ wsX1_tell := List.mem_of_getElem? (i := 1) (by decide +kernel)
theorem mX1_tell_2 : (.fieldLink RX1 13 "OneBeat$Letter" "from" "I" : Cond) ∈ wsX1_tell := List.mem_of_getElem? (i := 2) (by decide +kernel)
theorem mX1_tell_3 : (.fieldLink RX1 16 "OneBeat$Letter" "to" "I" : Cond) ∈ wsX1_tell := List.mem_of_getElem? (i := 3) (by decide +kernel)
theorem mX1_tell_4 : (.fieldLink RX1 19 "OneBeat$Letter" "number" "I" : Cond) ∈ wsX1_tell := List.mem_of_getElem? (i := 4) (by decide +kernel)
set_option maxHeartbeats 4000000 in
set_option maxRecDepth 100000 in
theorem c_X1_tell {l : Launch} {D : va_G} {cs : Nat → ClassId} {B0 T : Nat} {κ : KM} {H0 : Heap} (hT : WT B0 D cs T κ H0) {w i : Nat} (hw : T2 κ w 2 i) {x : Int32} {y : Int32} : KC l yX1_tell wsX1_tell 0 0 0 0 D cs B0 H0 [.ref w, .int x, .int y] (Qi (fun _ H => H = H0)) := by
  refine KC.of cX1_tell 3 (some .int) (by decide) rfl (Nat.le_of_ble_eq_true rfl) ?_
  intro p e s m below meth c ls hx hb hr hml hown hts hlocks hin hN hE hH0 hl
  have hown : s.vm.findClass RX1 = some m.cls := hown
  have hl : lv_has ls 3 [(0, .ref w), (1, .int x), (2, .int y)] := hl
  have hL : OkL B0 [] := OkL.nil
  refine lv_iload_n hx hb dX1_tell_0 rfl (lv_at hl 1 rfl) ?_
  by_cases c22 : (x : Int32).toInt < (0 : Int) ∨ (4 : Int) < (x : Int32).toInt
  · refine lv_tableOut (tgt := 58) hx hb dX1_tell_1 c22 (by decide) ?_
    refine lv_aload_n hx hb dX1_tell_58 rfl (lv_at hl 0 rfl) ?_
    obtain ⟨hb23, e23, hat23, hk23⟩ := hT.o2 hw.1
    obtain ⟨f23_0, f23_1, f23_2, f23_3, f23_4, f23_5, f23_6, rfl⟩ := hk23
    have hP : va_P D vwCl [(w, .inr (1, [.int f23_0, .int f23_1, .int f23_2, .int f23_3, .int f23_4, .int f23_5, .int f23_6]))] _ := va_P.cons hat23 va_P.nil
    refine va_get (D := D) (ci := 1) (v := .int f23_4) (C := RX1) (T := TX1) (N := 7) hx hb hts iX1_tell_1 hown hN.1 hP 0 rfl rfl 4 (by decide) (hts _ mX1_tell_5) (fun _ h9 => h9) rfl dX1_tell_59 ?_
    exact en_i hx hb hr hlocks hL rfl (Nat.zero_le _) (Nat.zero_le _) dX1_tell_62 (rfl)
  · rcases sw_0_4 c22 with rfl | rfl | rfl | rfl | rfl
    · refine lv_tableIn (tgt := 36) (off := 35) hx hb dX1_tell_1 (by decide) (by decide) (by decide) (by decide) ?_
      refine lv_aload_n hx hb dX1_tell_36 rfl (lv_at hl 0 rfl) ?_
      obtain ⟨hb24, e24, hat24, hk24⟩ := hT.o2 hw.1
      obtain ⟨f24_0, f24_1, f24_2, f24_3, f24_4, f24_5, f24_6, rfl⟩ := hk24
      have hP : va_P D vwCl [(w, .inr (1, [.int f24_0, .int f24_1, .int f24_2, .int f24_3, .int f24_4, .int f24_5, .int f24_6]))] _ := va_P.cons hat24 va_P.nil
      refine va_get (D := D) (ci := 1) (v := .int f24_0) (C := RX1) (T := TX1) (N := 7) hx hb hts iX1_tell_1 hown hN.1 hP 0 rfl rfl 0 (by decide) (hts _ mX1_tell_1) (fun _ h9 => h9) rfl dX1_tell_37 ?_
      exact en_i hx hb hr hlocks hL rfl (Nat.zero_le _) (Nat.zero_le _) dX1_tell_40 (rfl)
    · refine lv_tableIn (tgt := 41) (off := 40) hx hb dX1_tell_1 (by decide) (by decide) (by decide) (by decide) ?_
      refine lv_aload_n hx hb dX1_tell_41 rfl (lv_at hl 0 rfl) ?_
      obtain ⟨hb25, e25, hat25, hk25⟩ := hT.o2 hw.1
      obtain ⟨f25_0, f25_1, f25_2, f25_3, f25_4, f25_5, f25_6, rfl⟩ := hk25
      have hP : va_P D vwCl [(w, .inr (1, [.int f25_0, .int f25_1, .int f25_2, .int f25_3, .int f25_4, .int f25_5, .int f25_6]))] _ := va_P.cons hat25 va_P.nil
      refine va_get (D := D) (ci := 1) (v := .int f25_1) (C := RX1) (T := TX1) (N := 7) hx hb hts iX1_tell_1 hown hN.1 hP 0 rfl rfl 1 (by decide) (hts _ mX1_tell_2) (fun _ h9 => h9) rfl dX1_tell_42 ?_
      exact en_i hx hb hr hlocks hL rfl (Nat.zero_le _) (Nat.zero_le _) dX1_tell_45 (rfl)
    · refine lv_tableIn (tgt := 46) (off := 45) hx hb dX1_tell_1 (by decide) (by decide) (by decide) (by decide) ?_
      refine lv_aload_n hx hb dX1_tell_46 rfl (lv_at hl 0 rfl) ?_
      obtain ⟨hb26, e26, hat26, hk26⟩ := hT.o2 hw.1
      obtain ⟨f26_0, f26_1, f26_2, f26_3, f26_4, f26_5, f26_6, rfl⟩ := hk26
      have hP : va_P D vwCl [(w, .inr (1, [.int f26_0, .int f26_1, .int f26_2, .int f26_3, .int f26_4, .int f26_5, .int f26_6]))] _ := va_P.cons hat26 va_P.nil
      refine va_get (D := D) (ci := 1) (v := .int f26_2) (C := RX1) (T := TX1) (N := 7) hx hb hts iX1_tell_1 hown hN.1 hP 0 rfl rfl 2 (by decide) (hts _ mX1_tell_3) (fun _ h9 => h9) rfl dX1_tell_47 ?_
      exact en_i hx hb hr hlocks hL rfl (Nat.zero_le _) (Nat.zero_le _) dX1_tell_50 (rfl)
    · refine lv_tableIn (tgt := 51) (off := 50) hx hb dX1_tell_1 (by decide) (by decide) (by decide) (by decide) ?_
      refine lv_iload_n hx hb dX1_tell_51 rfl (lv_at hl 2 rfl) ?_
      exact en_i hx hb hr hlocks hL rfl (Nat.zero_le _) (Nat.zero_le _) dX1_tell_52 (rfl)
    · refine lv_tableIn (tgt := 53) (off := 52) hx hb dX1_tell_1 (by decide) (by decide) (by decide) (by decide) ?_
      refine lv_aload_n hx hb dX1_tell_53 rfl (lv_at hl 0 rfl) ?_
      obtain ⟨hb27, e27, hat27, hk27⟩ := hT.o2 hw.1
      obtain ⟨f27_0, f27_1, f27_2, f27_3, f27_4, f27_5, f27_6, rfl⟩ := hk27
      have hP : va_P D vwCl [(w, .inr (1, [.int f27_0, .int f27_1, .int f27_2, .int f27_3, .int f27_4, .int f27_5, .int f27_6]))] _ := va_P.cons hat27 va_P.nil
      refine va_get (D := D) (ci := 1) (v := .int f27_3) (C := RX1) (T := TX1) (N := 7) hx hb hts iX1_tell_1 hown hN.1 hP 0 rfl rfl 3 (by decide) (hts _ mX1_tell_4) (fun _ h9 => h9) rfl dX1_tell_54 ?_
      exact en_i hx hb hr hlocks hL rfl (Nat.zero_le _) (Nat.zero_le _) dX1_tell_57 (rfl)
theorem mX4_tell_6 : (.fieldLink RX4 9 "OneBeat$Proposal" "outcome" "I" : Cond) ∈ wsX4_tell := List.mem_of_getElem? (i := 6) (by decide +kernel)
theorem iX4_tell_4 : ∀ w ∈ wsX40, w ∈ wsX4_tell := fun w h => List.mem_of_mem_drop (List.mem_of_mem_take ((show wsX40 = (wsX4_tell.drop 7).take 8 by decide +kernel) ▸ h))
theorem mX4_tell_1 : (.fieldLink RX4 16 "OneBeat$Proposal" "song" "I" : Cond) ∈ wsX4_tell := List.mem_of_getElem? (i := 1) (by decide +kernel)
theorem mX4_tell_2 : (.fieldLink RX4 19 "OneBeat$Proposal" "beat" "I" : Cond) ∈ wsX4_tell := List.mem_of_getElem? (i := 2) (by decide +kernel)
theorem mX4_tell_3 : (.fieldLink RX4 22 "OneBeat$Proposal" "deadline" "I" : Cond) ∈ wsX4_tell := List.mem_of_getElem? (i := 3) (by decide +kernel)
theorem mX4_tell_4 : (.fieldLink RX4 25 "OneBeat$Proposal" "sender" "I" : Cond) ∈ wsX4_tell := List.mem_of_getElem? (i := 4) (by decide +kernel)
theorem mX4_tell_5 : (.fieldLink RX4 28 "OneBeat$Proposal" "votes" "I" : Cond) ∈ wsX4_tell := List.mem_of_getElem? (i := 5) (by decide +kernel)
set_option maxHeartbeats 4000000 in
set_option maxRecDepth 100000 in
theorem c_X4_tell {l : Launch} {D : va_G} {cs : Nat → ClassId} {B0 T : Nat} {κ : KM} {H0 : Heap} (hT : WT B0 D cs T κ H0) {w i : Nat} (hw : T2 κ w 5 i) {x : Int32} : KC l yX4_tell wsX4_tell 0 0 0 0 D cs B0 H0 [.ref w, .int x] (Qi (fun _ H => H = H0)) := by
  refine KC.of cX4_tell 2 (some .int) (by decide) rfl (Nat.le_of_ble_eq_true rfl) ?_
  intro p e s m below meth c ls hx hb hr hml hown hts hlocks hin hN hE hH0 hl
  have hown : s.vm.findClass RX4 = some m.cls := hown
  have hl : lv_has ls 2 [(0, .ref w), (1, .int x)] := hl
  have hL : OkL B0 [] := OkL.nil
  refine lv_iload_n hx hb dX4_tell_0 rfl (lv_at hl 1 rfl) ?_
  by_cases c28 : (x : Int32).toInt < (0 : Int) ∨ (4 : Int) < (x : Int32).toInt
  · refine lv_tableOut (tgt := 61) hx hb dX4_tell_1 c28 (by decide) ?_
    refine lv_aload_n hx hb dX4_tell_61 rfl (lv_at hl 0 rfl) ?_
    obtain ⟨hb29, e29, hat29, hk29⟩ := hT.o5 hw.1
    obtain ⟨f29_0, f29_1, f29_2, f29_3, f29_4, f29_5, f29_6, f29_7, rfl, c29⟩ := hk29
    have hP : va_P D vwCl [(w, .inr (4, [.int f29_0, .int f29_1, .int f29_2, .int f29_3, .int f29_4, .int f29_5, .int f29_6, .int f29_7]))] _ := va_P.cons hat29 va_P.nil
    refine va_get (D := D) (ci := 4) (v := .int f29_5) (C := RX4) (T := TX4) (N := 8) hx hb hts iX4_tell_4 hown hN.1 hP 0 rfl rfl 5 (by decide) (hts _ mX4_tell_6) (fun _ h9 => h9) rfl dX4_tell_62 ?_
    exact en_i hx hb hr hlocks hL rfl (Nat.zero_le _) (Nat.zero_le _) dX4_tell_65 (rfl)
  · rcases sw_0_4 c28 with rfl | rfl | rfl | rfl | rfl
    · refine lv_tableIn (tgt := 36) (off := 35) hx hb dX4_tell_1 (by decide) (by decide) (by decide) (by decide) ?_
      refine lv_aload_n hx hb dX4_tell_36 rfl (lv_at hl 0 rfl) ?_
      obtain ⟨hb30, e30, hat30, hk30⟩ := hT.o5 hw.1
      obtain ⟨f30_0, f30_1, f30_2, f30_3, f30_4, f30_5, f30_6, f30_7, rfl, c30⟩ := hk30
      have hP : va_P D vwCl [(w, .inr (4, [.int f30_0, .int f30_1, .int f30_2, .int f30_3, .int f30_4, .int f30_5, .int f30_6, .int f30_7]))] _ := va_P.cons hat30 va_P.nil
      refine va_get (D := D) (ci := 4) (v := .int f30_0) (C := RX4) (T := TX4) (N := 8) hx hb hts iX4_tell_4 hown hN.1 hP 0 rfl rfl 0 (by decide) (hts _ mX4_tell_1) (fun _ h9 => h9) rfl dX4_tell_37 ?_
      exact en_i hx hb hr hlocks hL rfl (Nat.zero_le _) (Nat.zero_le _) dX4_tell_40 (rfl)
    · refine lv_tableIn (tgt := 41) (off := 40) hx hb dX4_tell_1 (by decide) (by decide) (by decide) (by decide) ?_
      refine lv_aload_n hx hb dX4_tell_41 rfl (lv_at hl 0 rfl) ?_
      obtain ⟨hb31, e31, hat31, hk31⟩ := hT.o5 hw.1
      obtain ⟨f31_0, f31_1, f31_2, f31_3, f31_4, f31_5, f31_6, f31_7, rfl, c31⟩ := hk31
      have hP : va_P D vwCl [(w, .inr (4, [.int f31_0, .int f31_1, .int f31_2, .int f31_3, .int f31_4, .int f31_5, .int f31_6, .int f31_7]))] _ := va_P.cons hat31 va_P.nil
      refine va_get (D := D) (ci := 4) (v := .int f31_1) (C := RX4) (T := TX4) (N := 8) hx hb hts iX4_tell_4 hown hN.1 hP 0 rfl rfl 1 (by decide) (hts _ mX4_tell_2) (fun _ h9 => h9) rfl dX4_tell_42 ?_
      exact en_i hx hb hr hlocks hL rfl (Nat.zero_le _) (Nat.zero_le _) dX4_tell_45 (rfl)
    · refine lv_tableIn (tgt := 46) (off := 45) hx hb dX4_tell_1 (by decide) (by decide) (by decide) (by decide) ?_
      refine lv_aload_n hx hb dX4_tell_46 rfl (lv_at hl 0 rfl) ?_
      obtain ⟨hb32, e32, hat32, hk32⟩ := hT.o5 hw.1
      obtain ⟨f32_0, f32_1, f32_2, f32_3, f32_4, f32_5, f32_6, f32_7, rfl, c32⟩ := hk32
      have hP : va_P D vwCl [(w, .inr (4, [.int f32_0, .int f32_1, .int f32_2, .int f32_3, .int f32_4, .int f32_5, .int f32_6, .int f32_7]))] _ := va_P.cons hat32 va_P.nil
      refine va_get (D := D) (ci := 4) (v := .int f32_2) (C := RX4) (T := TX4) (N := 8) hx hb hts iX4_tell_4 hown hN.1 hP 0 rfl rfl 2 (by decide) (hts _ mX4_tell_3) (fun _ h9 => h9) rfl dX4_tell_47 ?_
      exact en_i hx hb hr hlocks hL rfl (Nat.zero_le _) (Nat.zero_le _) dX4_tell_50 (rfl)
    · refine lv_tableIn (tgt := 51) (off := 50) hx hb dX4_tell_1 (by decide) (by decide) (by decide) (by decide) ?_
      refine lv_aload_n hx hb dX4_tell_51 rfl (lv_at hl 0 rfl) ?_
      obtain ⟨hb33, e33, hat33, hk33⟩ := hT.o5 hw.1
      obtain ⟨f33_0, f33_1, f33_2, f33_3, f33_4, f33_5, f33_6, f33_7, rfl, c33⟩ := hk33
      have hP : va_P D vwCl [(w, .inr (4, [.int f33_0, .int f33_1, .int f33_2, .int f33_3, .int f33_4, .int f33_5, .int f33_6, .int f33_7]))] _ := va_P.cons hat33 va_P.nil
      refine va_get (D := D) (ci := 4) (v := .int f33_3) (C := RX4) (T := TX4) (N := 8) hx hb hts iX4_tell_4 hown hN.1 hP 0 rfl rfl 3 (by decide) (hts _ mX4_tell_4) (fun _ h9 => h9) rfl dX4_tell_52 ?_
      exact en_i hx hb hr hlocks hL rfl (Nat.zero_le _) (Nat.zero_le _) dX4_tell_55 (rfl)
    · refine lv_tableIn (tgt := 56) (off := 55) hx hb dX4_tell_1 (by decide) (by decide) (by decide) (by decide) ?_
      refine lv_aload_n hx hb dX4_tell_56 rfl (lv_at hl 0 rfl) ?_
      obtain ⟨hb34, e34, hat34, hk34⟩ := hT.o5 hw.1
      obtain ⟨f34_0, f34_1, f34_2, f34_3, f34_4, f34_5, f34_6, f34_7, rfl, c34⟩ := hk34
      have hP : va_P D vwCl [(w, .inr (4, [.int f34_0, .int f34_1, .int f34_2, .int f34_3, .int f34_4, .int f34_5, .int f34_6, .int f34_7]))] _ := va_P.cons hat34 va_P.nil
      refine va_get (D := D) (ci := 4) (v := .int f34_4) (C := RX4) (T := TX4) (N := 8) hx hb hts iX4_tell_4 hown hN.1 hP 0 rfl rfl 4 (by decide) (hts _ mX4_tell_5) (fun _ h9 => h9) rfl dX4_tell_57 ?_
      exact en_i hx hb hr hlocks hL rfl (Nat.zero_le _) (Nat.zero_le _) dX4_tell_60 (rfl)
theorem mX4_spreadOfChanges_1 : (.fieldLink RX4 13 "OneBeat$Proposal" "firstChange" "I" : Cond) ∈ wsX4_spreadOfChanges := List.mem_of_getElem? (i := 1) (by decide +kernel)
theorem iX4_spreadOfChanges_4 : ∀ w ∈ wsX40, w ∈ wsX4_spreadOfChanges := fun w h => List.mem_of_mem_drop (List.mem_of_mem_take ((show wsX40 = (wsX4_spreadOfChanges.drop 3).take 8 by decide +kernel) ▸ h))
theorem mX4_spreadOfChanges_2 : (.fieldLink RX4 31 "OneBeat$Proposal" "lastChange" "I" : Cond) ∈ wsX4_spreadOfChanges := List.mem_of_getElem? (i := 2) (by decide +kernel)
set_option maxHeartbeats 4000000 in
set_option maxRecDepth 100000 in
theorem c_X4_spreadOfChanges {l : Launch} {D : va_G} {cs : Nat → ClassId} {B0 T : Nat} {κ : KM} {H0 : Heap} (hT : WT B0 D cs T κ H0) {w i : Nat} (hw : T2 κ w 5 i) : KC l yX4_spreadOfChanges wsX4_spreadOfChanges 0 0 0 0 D cs B0 H0 [.ref w] (Qi (fun _ H => H = H0)) := by
  refine KC.of cX4_spreadOfChanges 1 (some .int) (by decide) rfl (Nat.le_of_ble_eq_true rfl) ?_
  intro p e s m below meth c ls hx hb hr hml hown hts hlocks hin hN hE hH0 hl
  have hown : s.vm.findClass RX4 = some m.cls := hown
  have hl : lv_has ls 1 [(0, .ref w)] := hl
  have hL : OkL B0 [] := OkL.nil
  refine lv_aload_n hx hb dX4_spreadOfChanges_0 rfl (lv_at hl 0 rfl) ?_
  obtain ⟨hb35, e35, hat35, hk35⟩ := hT.o5 hw.1
  obtain ⟨f35_0, f35_1, f35_2, f35_3, f35_4, f35_5, f35_6, f35_7, rfl, c35⟩ := hk35
  have hP : va_P D vwCl [(w, .inr (4, [.int f35_0, .int f35_1, .int f35_2, .int f35_3, .int f35_4, .int f35_5, .int f35_6, .int f35_7]))] _ := va_P.cons hat35 va_P.nil
  refine va_get (D := D) (ci := 4) (v := .int f35_6) (C := RX4) (T := TX4) (N := 8) hx hb hts iX4_spreadOfChanges_4 hown hN.1 hP 0 rfl rfl 6 (by decide) (hts _ mX4_spreadOfChanges_1) (fun _ h9 => h9) rfl dX4_spreadOfChanges_1 ?_
  refine lv_if_ge (tgt := 11) hx hb dX4_spreadOfChanges_4 (by decide) (fun c36 => ?_) (fun c36 => ?_)
  · refine lv_aload_n hx hb dX4_spreadOfChanges_11 rfl (lv_at hl 0 rfl) ?_
    refine va_get (D := D) (ci := 4) (v := .int f35_7) (C := RX4) (T := TX4) (N := 8) hx hb hts iX4_spreadOfChanges_4 hown hN.1 hP 0 rfl rfl 7 (by decide) (hts _ mX4_spreadOfChanges_2) (fun _ h9 => h9) rfl dX4_spreadOfChanges_12 ?_
    refine lv_aload_n hx hb dX4_spreadOfChanges_15 rfl (lv_at hl 0 rfl) ?_
    refine va_get (D := D) (ci := 4) (v := .int f35_6) (C := RX4) (T := TX4) (N := 8) hx hb hts iX4_spreadOfChanges_4 hown hN.1 hP 0 rfl rfl 6 (by decide) (hts _ mX4_spreadOfChanges_1) (fun _ h9 => h9) rfl dX4_spreadOfChanges_16 ?_
    refine lv_isub hx hb dX4_spreadOfChanges_19 ?_
    refine gn_i (fun x37 => ?_)
    exact en_i hx hb hr hlocks hL rfl (Nat.zero_le _) (Nat.zero_le _) dX4_spreadOfChanges_20 (rfl)
  · refine lv_iconst (v := (-1)) hx hb dX4_spreadOfChanges_7 (by decide) ?_
    refine lv_goto (tgt := 20) hx hb dX4_spreadOfChanges_8 (by decide) ?_
    exact en_i hx hb hr hlocks hL rfl (Nat.zero_le _) (Nat.zero_le _) dX4_spreadOfChanges_20 (rfl)
theorem mX4_noteChange_1 : (.fieldLink RX4 13 "OneBeat$Proposal" "firstChange" "I" : Cond) ∈ wsX4_noteChange := List.mem_of_getElem? (i := 1) (by decide +kernel)
theorem iX4_noteChange_4 : ∀ w ∈ wsX40, w ∈ wsX4_noteChange := fun w h => List.mem_of_mem_drop (List.mem_of_mem_take ((show wsX40 = (wsX4_noteChange.drop 3).take 8 by decide +kernel) ▸ h))
theorem mX4_noteChange_2 : (.fieldLink RX4 31 "OneBeat$Proposal" "lastChange" "I" : Cond) ∈ wsX4_noteChange := List.mem_of_getElem? (i := 2) (by decide +kernel)
set_option maxHeartbeats 4000000 in
set_option maxRecDepth 100000 in
theorem c_X4_noteChange {l : Launch} {D : va_G} {cs : Nat → ClassId} {B0 T : Nat} {κ : KM} {H0 : Heap} (hT : WT B0 D cs T κ H0) {w i : Nat} (hw : T2 κ w 5 i) {x : Int32} : KC l yX4_noteChange wsX4_noteChange 0 0 0 0 D cs B0 H0 [.ref w, .int x] (Qv (fun H => WT B0 D cs T κ H ∧ Fr B0 [i] κ H0 H)) := by
  refine KC.of cX4_noteChange 2 none (by decide) rfl (Nat.le_of_ble_eq_true rfl) ?_
  intro p e s m below meth c ls hx hb hr hml hown hts hlocks hin hN hE hH0 hl
  have hown : s.vm.findClass RX4 = some m.cls := hown
  have hl : lv_has ls 2 [(0, .ref w), (1, .int x)] := hl
  have hL : OkL B0 [] := OkL.nil
  have hF : Fr B0 [i] κ H0 H0 := Fr.rf
  refine lv_aload_n hx hb dX4_noteChange_0 rfl (lv_at hl 0 rfl) ?_
  obtain ⟨hb38, e38, hat38, hk38⟩ := hT.o5 hw.1
  obtain ⟨f38_0, f38_1, f38_2, f38_3, f38_4, f38_5, f38_6, f38_7, rfl, c38⟩ := hk38
  have hP : va_P D vwCl [(w, .inr (4, [.int f38_0, .int f38_1, .int f38_2, .int f38_3, .int f38_4, .int f38_5, .int f38_6, .int f38_7]))] _ := va_P.cons hat38 va_P.nil
  refine va_get (D := D) (ci := 4) (v := .int f38_6) (C := RX4) (T := TX4) (N := 8) hx hb hts iX4_noteChange_4 hown hN.1 hP 0 rfl rfl 6 (by decide) (hts _ mX4_noteChange_1) (fun _ h9 => h9) rfl dX4_noteChange_1 ?_
  refine lv_if_ge (tgt := 12) hx hb dX4_noteChange_4 (by decide) (fun c39 => ?_) (fun c39 => ?_)
  · refine lv_aload_n hx hb dX4_noteChange_12 rfl (lv_at hl 0 rfl) ?_
    refine lv_iload_n hx hb dX4_noteChange_13 rfl (lv_at hl 1 rfl) ?_
    have hB : Bx B0 D _ [(w, .inr (4, [.int f38_0, .int f38_1, .int f38_2, .int f38_3, .int f38_4, .int f38_5, .int f38_6, .int f38_7]))] [] _ _ := Bx.of (fun a => (κ a).1) hL hP (fa_c hb38 fa_n) (by simp only [List.map_cons, List.map_nil, hw.1]; decide)
    refine b_put (D := D) (ci := 4) (v := .int x) (ty := .int) (C := RX4) (T := TX4) (N := 8) hx hb hts iX4_noteChange_4 tyX4 tyX4_ok nmX4 hown hN hB 0 rfl rfl 7 (by decide) (hts _ mX4_noteChange_2) (fun _ h9 => h9) rfl (by decide +kernel) rfl rfl (Nat.le_of_ble_eq_true rfl) (.inl rfl) dX4_noteChange_14 (fun H locs hB => ?_)
    have hB : Bx B0 D _ [(w, .inr (4, [.int f38_0, .int f38_1, .int f38_2, .int f38_3, .int f38_4, .int f38_5, .int f38_6, .int x]))] [w] _ _ := hB
    have hT : WT B0 D cs T κ _ := hT.close hB ⟨⟨0, _, rfl, ok_5 hw.1 ⟨_, _, _, _, _, _, _, _, rfl, c38⟩⟩, trivial⟩
    have hF : Fr B0 [i] κ H0 _ := hF.close hB (fa_c (by simp [hw.2]) fa_n)
    have hL : OkL B0 _ := hB.2.2.2.2.2
    have hP : va_P D vwCl [(w, .inr (4, [.int f38_0, .int f38_1, .int f38_2, .int f38_3, .int f38_4, .int f38_5, .int f38_6, .int x]))] _ := hB.1
    exact en_v hx hb hr hlocks hL (Nat.zero_le _) (Nat.zero_le _) dX4_noteChange_17 (⟨hT, hF⟩)
  · refine lv_aload_n hx hb dX4_noteChange_7 rfl (lv_at hl 0 rfl) ?_
    refine lv_iload_n hx hb dX4_noteChange_8 rfl (lv_at hl 1 rfl) ?_
    have hB : Bx B0 D _ [(w, .inr (4, [.int f38_0, .int f38_1, .int f38_2, .int f38_3, .int f38_4, .int f38_5, .int f38_6, .int f38_7]))] [] _ _ := Bx.of (fun a => (κ a).1) hL hP (fa_c hb38 fa_n) (by simp only [List.map_cons, List.map_nil, hw.1]; decide)
    refine b_put (D := D) (ci := 4) (v := .int x) (ty := .int) (C := RX4) (T := TX4) (N := 8) hx hb hts iX4_noteChange_4 tyX4 tyX4_ok nmX4 hown hN hB 0 rfl rfl 6 (by decide) (hts _ mX4_noteChange_1) (fun _ h9 => h9) rfl (by decide +kernel) rfl rfl (Nat.le_of_ble_eq_true rfl) (.inl rfl) dX4_noteChange_9 (fun H locs hB => ?_)
    have hB : Bx B0 D _ [(w, .inr (4, [.int f38_0, .int f38_1, .int f38_2, .int f38_3, .int f38_4, .int f38_5, .int x, .int f38_7]))] [w] _ _ := hB
    refine lv_aload_n hx hb dX4_noteChange_12 rfl (lv_at hl 0 rfl) ?_
    refine lv_iload_n hx hb dX4_noteChange_13 rfl (lv_at hl 1 rfl) ?_
    refine b_put (D := D) (ci := 4) (v := .int x) (ty := .int) (C := RX4) (T := TX4) (N := 8) hx hb hts iX4_noteChange_4 tyX4 tyX4_ok nmX4 hown hN hB 0 rfl rfl 7 (by decide) (hts _ mX4_noteChange_2) (fun _ h9 => h9) rfl (by decide +kernel) rfl rfl (Nat.le_of_ble_eq_true rfl) (.inr ⟨rfl, List.mem_of_getElem? (i := 0) rfl⟩) dX4_noteChange_14 (fun H locs hB => ?_)
    have hB : Bx B0 D _ [(w, .inr (4, [.int f38_0, .int f38_1, .int f38_2, .int f38_3, .int f38_4, .int f38_5, .int x, .int x]))] [w] _ _ := hB
    have hT : WT B0 D cs T κ _ := hT.close hB ⟨⟨0, _, rfl, ok_5 hw.1 ⟨_, _, _, _, _, _, _, _, rfl, c38⟩⟩, trivial⟩
    have hF : Fr B0 [i] κ H0 _ := hF.close hB (fa_c (by simp [hw.2]) fa_n)
    have hL : OkL B0 _ := hB.2.2.2.2.2
    have hP : va_P D vwCl [(w, .inr (4, [.int f38_0, .int f38_1, .int f38_2, .int f38_3, .int f38_4, .int f38_5, .int x, .int x]))] _ := hB.1
    exact en_v hx hb hr hlocks hL (Nat.zero_le _) (Nat.zero_le _) dX4_noteChange_17 (⟨hT, hF⟩)
set_option maxHeartbeats 4000000 in
set_option maxRecDepth 100000 in
theorem c_X6_place {l : Launch} {D : va_G} {cs : Nat → ClassId} {B0 T : Nat} {κ : KM} {H0 : Heap} (hT : WT B0 D cs T κ H0) {x y : Int32} : KC l yX6_place wsX6_place 0 0 0 0 D cs B0 H0 [.int x, .int y] (Qi (fun r H => H = H0 ∧ r = nI (plc x y))) := by
  refine KC.of cX6_place 2 (some .int) (by decide) rfl (Nat.le_of_ble_eq_true rfl) ?_
  intro p e s m below meth c ls hx hb hr hml hown hts hlocks hin hN hE hH0 hl
  have hown : s.vm.findClass RX6 = some m.cls := hown
  have hl : lv_has ls 2 [(0, .int x), (1, .int y)] := hl
  have hL : OkL B0 [] := OkL.nil
  refine lv_iload_n hx hb dX6_place_0 rfl (lv_at hl 0 rfl) ?_
  refine lv_bipush (v := 7) hx hb dX6_place_1 (by decide) ?_
  refine lv_iand hx hb dX6_place_3 ?_
  have hj40 := m7_lt x
  refine tp_i (nI (m7 x)) (and7 x) ?_
  refine lv_bipush (v := 8) hx hb dX6_place_4 (by decide) ?_
  refine lv_imul hx hb dX6_place_6 ?_
  refine tp_i (nI ((m7 x) * 8)) (nI_mul (m7 x) 8) ?_
  refine lv_iload_n hx hb dX6_place_7 rfl (lv_at hl 1 rfl) ?_
  refine lv_bipush (v := 7) hx hb dX6_place_8 (by decide) ?_
  refine lv_iand hx hb dX6_place_10 ?_
  have hj41 := m7_lt y
  refine tp_i (nI (m7 y)) (and7 y) ?_
  refine lv_iadd hx hb dX6_place_11 ?_
  refine tp_i (nI (((m7 x) * 8) + (m7 y))) (nI_add ((m7 x) * 8) (m7 y)) ?_
  exact en_i hx hb hr hlocks hL rfl (Nat.zero_le _) (Nat.zero_le _) dX6_place_12 (⟨rfl, rfl⟩)
theorem mX6_delayOf_1 : (.fieldLink RX6 20 "OneBeat$Setup" "delay" "[I" : Cond) ∈ wsX6_delayOf := List.mem_of_getElem? (i := 1) (by decide +kernel)
theorem iX6_delayOf_6 : ∀ w ∈ wsX60, w ∈ wsX6_delayOf := fun w h => List.mem_of_mem_drop (List.mem_of_mem_take ((show wsX60 = (wsX6_delayOf.drop 6).take 8 by decide +kernel) ▸ h))
theorem hdX6_place_o : yX6_place.cls ≠ "java/lang/invoke/MethodHandle" ∧ yX6_place.cls ≠ "java/lang/invoke/VarHandle" ∧ (parseMethodDescriptor yX6_place.desc).map (fun d => d.parameters.length) = some 2 := by decide +kernel
set_option maxHeartbeats 4000000 in
set_option maxRecDepth 100000 in
theorem c_X6_delayOf {l : Launch} {D : va_G} {cs : Nat → ClassId} {B0 T : Nat} {κ : KM} {H0 : Heap} (hT : WT B0 D cs T κ H0) {w i : Nat} (hw : T2 κ w 7 i) {x : Int32} {y : Int32} : KC l yX6_delayOf wsX6_delayOf 1 21 0 0 D cs B0 H0 [.ref w, .int x, .int y] (Qi (fun r H => H = H0 ∧ ∃ f, Dly D cs H0 w f ∧ ∃ n, n ≤ 9 ∧ r = nI n ∧ f (plc x y) = nI n)) := by
  refine KC.of cX6_delayOf 3 (some .int) (by decide) rfl (Nat.le_of_ble_eq_true rfl) ?_
  intro p e s m below meth c ls hx hb hr hml hown hts hlocks hin hN hE hH0 hl
  have hown : s.vm.findClass RX6 = some m.cls := hown
  have hl : lv_has ls 3 [(0, .ref w), (1, .int x), (2, .int y)] := hl
  have hL : OkL B0 [] := OkL.nil
  refine lv_aload_n hx hb dX6_delayOf_0 rfl (lv_at hl 0 rfl) ?_
  obtain ⟨hb42, e42, hat42, hk42⟩ := hT.o7 hw.1
  obtain ⟨f42_0, f42_1, f42_2, f42_3, f42_4, f42_5, f42_6, f42_7, rfl, c42_0, c42_3, c42_mg, t42_4, t42_5, t42_6, t42_7⟩ := hk42
  rw [hw.2] at t42_4
  rw [hw.2] at t42_5
  rw [hw.2] at t42_6
  rw [hw.2] at t42_7
  have hP : va_P D vwCl [(w, .inr (6, [.int (nI f42_0), .int f42_1, .int f42_2, f42_3, .ref f42_4, .ref f42_5, .ref f42_6, .ref f42_7]))] _ := va_P.cons hat42 va_P.nil
  refine va_get (D := D) (ci := 6) (v := .ref f42_7) (C := RX6) (T := TX6) (N := 8) hx hb hts iX6_delayOf_6 hown hN.1 hP 0 rfl rfl 7 (by decide) (hts _ mX6_delayOf_1) (fun _ h9 => h9) rfl dX6_delayOf_1 ?_
  refine lv_iload_n hx hb dX6_delayOf_4 rfl (lv_at hl 1 rfl) ?_
  refine lv_iload_n hx hb dX6_delayOf_5 rfl (lv_at hl 2 rfl) ?_
  refine cs_i (As := [.int x, .int y]) (rest := [.ref f42_7]) ⟨hx, hb, hml, hown, hts⟩ (c_X6_place hT (x := x) (y := y)) (va_cwS 2 hts gX6_delayOf_X6_place rfl rfl rfl hdX6_place_o ⟨Nat.le_of_ble_eq_true rfl, Nat.le_of_ble_eq_true rfl⟩) hN hE hL rfl rfl hl.1 (Nat.le_of_ble_eq_true rfl) dX6_delayOf_6 (Nat.zero_le _) (Nat.zero_le _) (fun r43 H1 locs hL hqr43 => ?_)
  obtain ⟨h9, hqr43⟩ := hqr43; replace h9 := h9.symm; subst h9
  obtain rfl := hqr43
  have hp44 := plc_lt x y
  obtain ⟨hb45, e45, hat45, hk45⟩ := hT.o20 t42_7.1
  obtain ⟨g45, rfl, q45⟩ := hk45
  have hP : va_P D vwCl [(f42_7, .inl (cs 0, 64, .inl g45)), (w, .inr (6, [.int (nI f42_0), .int f42_1, .int f42_2, f42_3, .ref f42_4, .ref f42_5, .ref f42_6, .ref f42_7]))] _ := va_P.cons hat45 hP
  refine ld_i (v := (g45 (plc x y))) hx hb hN hP 0 rfl (vp_in_nI (n := (plc x y)) (N := 64) (by omega) (by omega)) (by rw [(show ((nI (plc x y)) : Int32).toNatClampNeg = (plc x y) from nI_clamp (n := (plc x y)) (by omega))]) dX6_delayOf_9 ?_
  obtain ⟨n46, hn46, en46⟩ := q45 (plc x y) (by omega)
  refine tp_i (nI n46) en46 ?_
  exact en_i hx hb hr hlocks hL rfl (Nat.zero_le _) (Nat.zero_le _) dX6_delayOf_10 (⟨rfl, g45, ⟨_, _, _, _, _, _, _, _, hP 1 _ rfl, hP 0 _ rfl⟩, _, hn46, rfl, en46⟩)
theorem mX6_clock_1 : (.fieldLink RX6 13 "OneBeat$Setup" "offset" "[I" : Cond) ∈ wsX6_clock := List.mem_of_getElem? (i := 1) (by decide +kernel)
theorem iX6_clock_6 : ∀ w ∈ wsX60, w ∈ wsX6_clock := fun w h => List.mem_of_mem_drop (List.mem_of_mem_take ((show wsX60 = (wsX6_clock.drop 3).take 8 by decide +kernel) ▸ h))
theorem mX6_clock_2 : (.fieldLink RX6 17 "OneBeat$Setup" "drift" "[I" : Cond) ∈ wsX6_clock := List.mem_of_getElem? (i := 2) (by decide +kernel)
set_option maxHeartbeats 4000000 in
set_option maxRecDepth 100000 in
theorem c_X6_clock {l : Launch} {D : va_G} {cs : Nat → ClassId} {B0 T : Nat} {κ : KM} {H0 : Heap} (hT : WT B0 D cs T κ H0) {w i : Nat} (hw : T2 κ w 7 i) {x : Int32} {y : Int32} : KC l yX6_clock wsX6_clock 0 0 0 0 D cs B0 H0 [.ref w, .int x, .int y] (Qi (fun _ H => H = H0)) := by
  refine KC.of cX6_clock 3 (some .int) (by decide) rfl (Nat.le_of_ble_eq_true rfl) ?_
  intro p e s m below meth c ls hx hb hr hml hown hts hlocks hin hN hE hH0 hl
  have hown : s.vm.findClass RX6 = some m.cls := hown
  have hl : lv_has ls 3 [(0, .ref w), (1, .int x), (2, .int y)] := hl
  have hL : OkL B0 [] := OkL.nil
  refine lv_iload_n hx hb dX6_clock_0 rfl (lv_at hl 2 rfl) ?_
  refine lv_aload_n hx hb dX6_clock_1 rfl (lv_at hl 0 rfl) ?_
  obtain ⟨hb47, e47, hat47, hk47⟩ := hT.o7 hw.1
  obtain ⟨f47_0, f47_1, f47_2, f47_3, f47_4, f47_5, f47_6, f47_7, rfl, c47_0, c47_3, c47_mg, t47_4, t47_5, t47_6, t47_7⟩ := hk47
  rw [hw.2] at t47_4
  rw [hw.2] at t47_5
  rw [hw.2] at t47_6
  rw [hw.2] at t47_7
  have hP : va_P D vwCl [(w, .inr (6, [.int (nI f47_0), .int f47_1, .int f47_2, f47_3, .ref f47_4, .ref f47_5, .ref f47_6, .ref f47_7]))] _ := va_P.cons hat47 va_P.nil
  refine va_get (D := D) (ci := 6) (v := .ref f47_5) (C := RX6) (T := TX6) (N := 8) hx hb hts iX6_clock_6 hown hN.1 hP 0 rfl rfl 5 (by decide) (hts _ mX6_clock_1) (fun _ h9 => h9) rfl dX6_clock_2 ?_
  refine lv_iload_n hx hb dX6_clock_5 rfl (lv_at hl 1 rfl) ?_
  refine lv_bipush (v := 7) hx hb dX6_clock_6 (by decide) ?_
  refine lv_iand hx hb dX6_clock_8 ?_
  have hj48 := m7_lt x
  refine tp_i (nI (m7 x)) (and7 x) ?_
  obtain ⟨hb49, e49, hat49, hk49⟩ := hT.o19 t47_5.1
  obtain ⟨g49, rfl⟩ := hk49
  have hP : va_P D vwCl [(f47_5, .inl (cs 0, 8, .inl g49)), (w, .inr (6, [.int (nI f47_0), .int f47_1, .int f47_2, f47_3, .ref f47_4, .ref f47_5, .ref f47_6, .ref f47_7]))] _ := va_P.cons hat49 hP
  refine ld_i (v := (g49 (m7 x))) hx hb hN hP 0 rfl (vp_in_nI (n := (m7 x)) (N := 8) (by omega) (by omega)) (by rw [(show ((nI (m7 x)) : Int32).toNatClampNeg = (m7 x) from nI_clamp (n := (m7 x)) (by omega))]) dX6_clock_9 ?_
  refine gn_i (fun x50 => ?_)
  refine lv_iadd hx hb dX6_clock_10 ?_
  refine gn_i (fun x51 => ?_)
  refine lv_iload_n hx hb dX6_clock_11 rfl (lv_at hl 2 rfl) ?_
  refine lv_aload_n hx hb dX6_clock_12 rfl (lv_at hl 0 rfl) ?_
  refine va_get (D := D) (ci := 6) (v := .ref f47_6) (C := RX6) (T := TX6) (N := 8) hx hb hts iX6_clock_6 hown hN.1 hP 1 rfl rfl 6 (by decide) (hts _ mX6_clock_2) (fun _ h9 => h9) rfl dX6_clock_13 ?_
  refine lv_iload_n hx hb dX6_clock_16 rfl (lv_at hl 1 rfl) ?_
  refine lv_bipush (v := 7) hx hb dX6_clock_17 (by decide) ?_
  refine lv_iand hx hb dX6_clock_19 ?_
  have hj52 := m7_lt x
  refine tp_i (nI (m7 x)) (and7 x) ?_
  obtain ⟨hb53, e53, hat53, hk53⟩ := hT.o19 t47_6.1
  obtain ⟨g53, rfl⟩ := hk53
  have hP : va_P D vwCl [(f47_6, .inl (cs 0, 8, .inl g53)), (f47_5, .inl (cs 0, 8, .inl g49)), (w, .inr (6, [.int (nI f47_0), .int f47_1, .int f47_2, f47_3, .ref f47_4, .ref f47_5, .ref f47_6, .ref f47_7]))] _ := va_P.cons hat53 hP
  refine ld_i (v := (g53 (m7 x))) hx hb hN hP 0 rfl (vp_in_nI (n := (m7 x)) (N := 8) (by omega) (by omega)) (by rw [(show ((nI (m7 x)) : Int32).toNatClampNeg = (m7 x) from nI_clamp (n := (m7 x)) (by omega))]) dX6_clock_20 ?_
  refine gn_i (fun x54 => ?_)
  refine lv_imul hx hb dX6_clock_21 ?_
  refine gn_i (fun x55 => ?_)
  refine lv_sipush (v := 1000) hx hb dX6_clock_22 (by decide) ?_
  refine lv_idiv hx hb dX6_clock_25 (by decide) ?_
  refine gn_i (fun x56 => ?_)
  refine lv_iadd hx hb dX6_clock_26 ?_
  refine gn_i (fun x57 => ?_)
  exact en_i hx hb hr hlocks hL rfl (Nat.zero_le _) (Nat.zero_le _) dX6_clock_27 (rfl)
theorem mX6_hasClock_1 : (.fieldLink RX6 9 "OneBeat$Setup" "isClockTold" "[Z" : Cond) ∈ wsX6_hasClock := List.mem_of_getElem? (i := 1) (by decide +kernel)
theorem iX6_hasClock_6 : ∀ w ∈ wsX60, w ∈ wsX6_hasClock := fun w h => List.mem_of_mem_drop (List.mem_of_mem_take ((show wsX60 = (wsX6_hasClock.drop 2).take 8 by decide +kernel) ▸ h))
set_option maxHeartbeats 4000000 in
set_option maxRecDepth 100000 in
theorem c_X6_hasClock {l : Launch} {D : va_G} {cs : Nat → ClassId} {B0 T : Nat} {κ : KM} {H0 : Heap} (hT : WT B0 D cs T κ H0) {w i : Nat} (hw : T2 κ w 7 i) {x : Int32} : KC l yX6_hasClock wsX6_hasClock 0 0 0 0 D cs B0 H0 [.ref w, .int x] (Qi (fun r H => H = H0 ∧ (r = 0 ∨ r = 1))) := by
  refine KC.of cX6_hasClock 2 (some .boolean) (by decide) rfl (Nat.le_of_ble_eq_true rfl) ?_
  intro p e s m below meth c ls hx hb hr hml hown hts hlocks hin hN hE hH0 hl
  have hown : s.vm.findClass RX6 = some m.cls := hown
  have hl : lv_has ls 2 [(0, .ref w), (1, .int x)] := hl
  have hL : OkL B0 [] := OkL.nil
  refine lv_aload_n hx hb dX6_hasClock_0 rfl (lv_at hl 0 rfl) ?_
  obtain ⟨hb58, e58, hat58, hk58⟩ := hT.o7 hw.1
  obtain ⟨f58_0, f58_1, f58_2, f58_3, f58_4, f58_5, f58_6, f58_7, rfl, c58_0, c58_3, c58_mg, t58_4, t58_5, t58_6, t58_7⟩ := hk58
  rw [hw.2] at t58_4
  rw [hw.2] at t58_5
  rw [hw.2] at t58_6
  rw [hw.2] at t58_7
  have hP : va_P D vwCl [(w, .inr (6, [.int (nI f58_0), .int f58_1, .int f58_2, f58_3, .ref f58_4, .ref f58_5, .ref f58_6, .ref f58_7]))] _ := va_P.cons hat58 va_P.nil
  refine va_get (D := D) (ci := 6) (v := .ref f58_4) (C := RX6) (T := TX6) (N := 8) hx hb hts iX6_hasClock_6 hown hN.1 hP 0 rfl rfl 4 (by decide) (hts _ mX6_hasClock_1) (fun _ h9 => h9) rfl dX6_hasClock_1 ?_
  refine lv_iload_n hx hb dX6_hasClock_4 rfl (lv_at hl 1 rfl) ?_
  refine lv_bipush (v := 7) hx hb dX6_hasClock_5 (by decide) ?_
  refine lv_iand hx hb dX6_hasClock_7 ?_
  have hj59 := m7_lt x
  refine tp_i (nI (m7 x)) (and7 x) ?_
  obtain ⟨hb60, e60, hat60, hk60⟩ := hT.o18 t58_4.1
  obtain ⟨g60, rfl, q60⟩ := hk60
  have hP : va_P D vwCl [(f58_4, .inl (cs 2, 8, .inl g60)), (w, .inr (6, [.int (nI f58_0), .int f58_1, .int f58_2, f58_3, .ref f58_4, .ref f58_5, .ref f58_6, .ref f58_7]))] _ := va_P.cons hat60 hP
  refine ld_z (v := (g60 (m7 x))) hx hb hN hP 0 rfl (vp_in_nI (n := (m7 x)) (N := 8) (by omega) (by omega)) (by rw [(show ((nI (m7 x)) : Int32).toNatClampNeg = (m7 x) from nI_clamp (n := (m7 x)) (by omega))]) dX6_hasClock_8 ?_
  exact en_i hx hb hr hlocks hL (nb (q60 (m7 x) (by omega))) (Nat.zero_le _) (Nat.zero_le _) dX6_hasClock_9 (⟨rfl, (q60 (m7 x) (by omega))⟩)
theorem mX6_setClock_1 : (.fieldLink RX6 9 "OneBeat$Setup" "isClockTold" "[Z" : Cond) ∈ wsX6_setClock := List.mem_of_getElem? (i := 1) (by decide +kernel)
theorem iX6_setClock_6 : ∀ w ∈ wsX60, w ∈ wsX6_setClock := fun w h => List.mem_of_mem_drop (List.mem_of_mem_take ((show wsX60 = (wsX6_setClock.drop 4).take 8 by decide +kernel) ▸ h))
theorem mX6_setClock_2 : (.fieldLink RX6 13 "OneBeat$Setup" "offset" "[I" : Cond) ∈ wsX6_setClock := List.mem_of_getElem? (i := 2) (by decide +kernel)
theorem mX6_setClock_3 : (.fieldLink RX6 17 "OneBeat$Setup" "drift" "[I" : Cond) ∈ wsX6_setClock := List.mem_of_getElem? (i := 3) (by decide +kernel)
set_option maxHeartbeats 4000000 in
set_option maxRecDepth 100000 in
theorem c_X6_setClock {l : Launch} {D : va_G} {cs : Nat → ClassId} {B0 T : Nat} {κ : KM} {H0 : Heap} (hT : WT B0 D cs T κ H0) {w i : Nat} (hw : T2 κ w 7 i) {x : Int32} {y : Int32} {z : Int32} : KC l yX6_setClock wsX6_setClock 0 0 0 0 D cs B0 H0 [.ref w, .int x, .int y, .int z] (Qv (fun H => WT B0 D cs T κ H ∧ Fr B0 [i] κ H0 H)) := by
  refine KC.of cX6_setClock 4 none (by decide) rfl (Nat.le_of_ble_eq_true rfl) ?_
  intro p e s m below meth c ls hx hb hr hml hown hts hlocks hin hN hE hH0 hl
  have hown : s.vm.findClass RX6 = some m.cls := hown
  have hl : lv_has ls 4 [(0, .ref w), (1, .int x), (2, .int y), (3, .int z)] := hl
  have hL : OkL B0 [] := OkL.nil
  have hF : Fr B0 [i] κ H0 H0 := Fr.rf
  refine lv_aload_n hx hb dX6_setClock_0 rfl (lv_at hl 0 rfl) ?_
  obtain ⟨hb61, e61, hat61, hk61⟩ := hT.o7 hw.1
  obtain ⟨f61_0, f61_1, f61_2, f61_3, f61_4, f61_5, f61_6, f61_7, rfl, c61_0, c61_3, c61_mg, t61_4, t61_5, t61_6, t61_7⟩ := hk61
  rw [hw.2] at t61_4
  rw [hw.2] at t61_5
  rw [hw.2] at t61_6
  rw [hw.2] at t61_7
  have hP : va_P D vwCl [(w, .inr (6, [.int (nI f61_0), .int f61_1, .int f61_2, f61_3, .ref f61_4, .ref f61_5, .ref f61_6, .ref f61_7]))] _ := va_P.cons hat61 va_P.nil
  refine va_get (D := D) (ci := 6) (v := .ref f61_4) (C := RX6) (T := TX6) (N := 8) hx hb hts iX6_setClock_6 hown hN.1 hP 0 rfl rfl 4 (by decide) (hts _ mX6_setClock_1) (fun _ h9 => h9) rfl dX6_setClock_1 ?_
  refine lv_iload_n hx hb dX6_setClock_4 rfl (lv_at hl 1 rfl) ?_
  refine lv_bipush (v := 7) hx hb dX6_setClock_5 (by decide) ?_
  refine lv_iand hx hb dX6_setClock_7 ?_
  have hj62 := m7_lt x
  refine tp_i (nI (m7 x)) (and7 x) ?_
  refine lv_iconst (v := 1) hx hb dX6_setClock_8 (by decide) ?_
  obtain ⟨hb63, e63, hat63, hk63⟩ := hT.o18 t61_4.1
  obtain ⟨g63, rfl, q63⟩ := hk63
  have hP : va_P D vwCl [(f61_4, .inl (cs 2, 8, .inl g63)), (w, .inr (6, [.int (nI f61_0), .int f61_1, .int f61_2, f61_3, .ref f61_4, .ref f61_5, .ref f61_6, .ref f61_7]))] _ := va_P.cons hat63 hP
  have hB : Bx B0 D _ [(f61_4, .inl (cs 2, 8, .inl g63)), (w, .inr (6, [.int (nI f61_0), .int f61_1, .int f61_2, f61_3, .ref f61_4, .ref f61_5, .ref f61_6, .ref f61_7]))] [] _ _ := Bx.of (fun a => (κ a).1) hL hP (fa_c hb63 (fa_c hb61 fa_n)) (by simp only [List.map_cons, List.map_nil, t61_4.1, hw.1]; decide)
  refine b_z hx hb hN hB 0 rfl (vp_in_nI (n := (m7 x)) (N := 8) (by omega) (by omega)) (.inl rfl) dX6_setClock_9 (fun H locs hB => ?_)
  rw [(show ((nI (m7 x)) : Int32).toNatClampNeg = (m7 x) from nI_clamp (n := (m7 x)) (by omega))] at hB
  have hB : Bx B0 D _ [(f61_4, .inl (cs 2, 8, .inl (upd g63 (m7 x) (vp_nar .boolean 1)))), (w, .inr (6, [.int (nI f61_0), .int f61_1, .int f61_2, f61_3, .ref f61_4, .ref f61_5, .ref f61_6, .ref f61_7]))] [f61_4] _ _ := hB
  have hzg64 := up01 q63 ((m7 x)) (y := (vp_nar .boolean 1)) (by decide)
  refine lv_aload_n hx hb dX6_setClock_10 rfl (lv_at hl 0 rfl) ?_
  refine va_get (D := D) (ci := 6) (v := .ref f61_5) (C := RX6) (T := TX6) (N := 8) hx hb hts iX6_setClock_6 hown hN.1 hB.1 1 rfl rfl 5 (by decide) (hts _ mX6_setClock_2) (fun _ h9 => h9) rfl dX6_setClock_11 ?_
  refine lv_iload_n hx hb dX6_setClock_14 rfl (lv_at hl 1 rfl) ?_
  refine lv_bipush (v := 7) hx hb dX6_setClock_15 (by decide) ?_
  refine lv_iand hx hb dX6_setClock_17 ?_
  have hj65 := m7_lt x
  refine tp_i (nI (m7 x)) (and7 x) ?_
  refine lv_iload_n hx hb dX6_setClock_18 rfl (lv_at hl 2 rfl) ?_
  obtain ⟨hb66, e66, hat66, hk66⟩ := hT.o19 t61_5.1
  obtain ⟨g66, rfl⟩ := hk66
  have hB : Bx B0 D _ [(f61_4, .inl (cs 2, 8, .inl (upd g63 (m7 x) (vp_nar .boolean 1)))), (w, .inr (6, [.int (nI f61_0), .int f61_1, .int f61_2, f61_3, .ref f61_4, .ref f61_5, .ref f61_6, .ref f61_7])), (f61_5, .inl (cs 0, 8, .inl g66))] [f61_4] _ _ := hB.more hat66 hb66 (fa_c (ne_c t61_4.1 t61_5.1 (by decide))  (fa_c (ne_c hw.1 t61_5.1 (by decide)) fa_n)) (fa_c (ne_c t61_4.1 t61_5.1 (by decide)) fa_n)
  refine b_i hx hb hN hB 2 rfl (vp_in_nI (n := (m7 x)) (N := 8) (by omega) (by omega)) (.inl rfl) dX6_setClock_19 (fun H locs hB => ?_)
  rw [(show ((nI (m7 x)) : Int32).toNatClampNeg = (m7 x) from nI_clamp (n := (m7 x)) (by omega))] at hB
  have hB : Bx B0 D _ [(f61_4, .inl (cs 2, 8, .inl (upd g63 (m7 x) (vp_nar .boolean 1)))), (w, .inr (6, [.int (nI f61_0), .int f61_1, .int f61_2, f61_3, .ref f61_4, .ref f61_5, .ref f61_6, .ref f61_7])), (f61_5, .inl (cs 0, 8, .inl (upd g66 (m7 x) y)))] [f61_5, f61_4] _ _ := hB
  generalize (upd g66 (m7 x) y) = g67 at hB
  refine lv_aload_n hx hb dX6_setClock_20 rfl (lv_at hl 0 rfl) ?_
  refine va_get (D := D) (ci := 6) (v := .ref f61_6) (C := RX6) (T := TX6) (N := 8) hx hb hts iX6_setClock_6 hown hN.1 hB.1 1 rfl rfl 6 (by decide) (hts _ mX6_setClock_3) (fun _ h9 => h9) rfl dX6_setClock_21 ?_
  refine lv_iload_n hx hb dX6_setClock_24 rfl (lv_at hl 1 rfl) ?_
  refine lv_bipush (v := 7) hx hb dX6_setClock_25 (by decide) ?_
  refine lv_iand hx hb dX6_setClock_27 ?_
  have hj68 := m7_lt x
  refine tp_i (nI (m7 x)) (and7 x) ?_
  refine lv_iload_n hx hb dX6_setClock_28 rfl (lv_at hl 3 rfl) ?_
  have hT : WT B0 D cs T κ _ := hT.close hB ⟨⟨2, _, rfl, ok_19 t61_5.1 ⟨_, rfl⟩⟩, ⟨⟨0, _, rfl, ok_18 t61_4.1 ⟨_, rfl, hzg64⟩⟩, trivial⟩⟩
  have hF : Fr B0 [i] κ H0 _ := hF.close hB (fa_c (by simp [t61_5.2]) (fa_c (by simp [t61_4.2]) fa_n))
  have hL : OkL B0 _ := hB.2.2.2.2.2
  have hP : va_P D vwCl [(f61_4, .inl (cs 2, 8, .inl (upd g63 (m7 x) (vp_nar .boolean 1)))), (w, .inr (6, [.int (nI f61_0), .int f61_1, .int f61_2, f61_3, .ref f61_4, .ref f61_5, .ref f61_6, .ref f61_7])), (f61_5, .inl (cs 0, 8, .inl g67))] _ := hB.1
  obtain ⟨hb69, e69, hat69, hk69⟩ := hT.o19 t61_6.1
  obtain ⟨g69, rfl⟩ := hk69
  have hP : va_P D vwCl [(f61_6, .inl (cs 0, 8, .inl g69))] _ := va_P.cons hat69 va_P.nil
  have hB : Bx B0 D _ [(f61_6, .inl (cs 0, 8, .inl g69))] [] _ _ := Bx.of (fun a => (κ a).1) hL hP (fa_c hb69 fa_n) (by simp only [List.map_cons, List.map_nil, t61_6.1]; decide)
  refine b_i hx hb hN hB 0 rfl (vp_in_nI (n := (m7 x)) (N := 8) (by omega) (by omega)) (.inl rfl) dX6_setClock_29 (fun H locs hB => ?_)
  rw [(show ((nI (m7 x)) : Int32).toNatClampNeg = (m7 x) from nI_clamp (n := (m7 x)) (by omega))] at hB
  have hB : Bx B0 D _ [(f61_6, .inl (cs 0, 8, .inl (upd g69 (m7 x) z)))] [f61_6] _ _ := hB
  generalize (upd g69 (m7 x) z) = g70 at hB
  have hT : WT B0 D cs T κ _ := hT.close hB ⟨⟨0, _, rfl, ok_19 t61_6.1 ⟨_, rfl⟩⟩, trivial⟩
  have hF : Fr B0 [i] κ H0 _ := hF.close hB (fa_c (by simp [t61_6.2]) fa_n)
  have hL : OkL B0 _ := hB.2.2.2.2.2
  have hP : va_P D vwCl [(f61_6, .inl (cs 0, 8, .inl g70))] _ := hB.1
  exact en_v hx hb hr hlocks hL (Nat.zero_le _) (Nat.zero_le _) dX6_setClock_30 (⟨hT, hF⟩)
theorem mX6_fillIn_1 : (.fieldLink RX6 27 "OneBeat$Setup" "need" "I" : Cond) ∈ wsX6_fillIn := List.mem_of_getElem? (i := 1) (by decide +kernel)
theorem iX6_fillIn_6 : ∀ w ∈ wsX60, w ∈ wsX6_fillIn := fun w h => List.mem_of_mem_drop (List.mem_of_mem_take ((show wsX60 = (wsX6_fillIn.drop 4).take 8 by decide +kernel) ▸ h))
theorem mX6_fillIn_3 : (.fieldLink RX6 30 "OneBeat$Setup" "patience" "I" : Cond) ∈ wsX6_fillIn := List.mem_of_getElem? (i := 3) (by decide +kernel)
theorem mX6_fillIn_2 : (.fieldLink RX6 23 "OneBeat$Setup" "players" "I" : Cond) ∈ wsX6_fillIn := List.mem_of_getElem? (i := 2) (by decide +kernel)
set_option maxHeartbeats 4000000 in
set_option maxRecDepth 100000 in
theorem c_X6_fillIn {l : Launch} {D : va_G} {cs : Nat → ClassId} {B0 T : Nat} {κ : KM} {H0 : Heap} (hT : WT B0 D cs T κ H0) {w i : Nat} (hw : T2 κ w 7 i) : KC l yX6_fillIn wsX6_fillIn 0 0 0 0 D cs B0 H0 [.ref w] (Qv (fun H => WT B0 D cs T κ H ∧ Fr B0 [i] κ H0 H)) := by
  refine KC.of cX6_fillIn 1 none (by decide) rfl (Nat.le_of_ble_eq_true rfl) ?_
  intro p e s m below meth c ls hx hb hr hml hown hts hlocks hin hN hE hH0 hl
  have hown : s.vm.findClass RX6 = some m.cls := hown
  have hl : lv_has ls 1 [(0, .ref w)] := hl
  have hL : OkL B0 [] := OkL.nil
  have hF : Fr B0 [i] κ H0 H0 := Fr.rf
  refine lv_aload_n hx hb dX6_fillIn_0 rfl (lv_at hl 0 rfl) ?_
  obtain ⟨hb71, e71, hat71, hk71⟩ := hT.o7 hw.1
  obtain ⟨f71_0, f71_1, f71_2, f71_3, f71_4, f71_5, f71_6, f71_7, rfl, c71_0, c71_3, c71_mg, t71_4, t71_5, t71_6, t71_7⟩ := hk71
  rw [hw.2] at t71_4
  rw [hw.2] at t71_5
  rw [hw.2] at t71_6
  rw [hw.2] at t71_7
  have hP : va_P D vwCl [(w, .inr (6, [.int (nI f71_0), .int f71_1, .int f71_2, f71_3, .ref f71_4, .ref f71_5, .ref f71_6, .ref f71_7]))] _ := va_P.cons hat71 va_P.nil
  refine va_get (D := D) (ci := 6) (v := .int f71_1) (C := RX6) (T := TX6) (N := 8) hx hb hts iX6_fillIn_6 hown hN.1 hP 0 rfl rfl 1 (by decide) (hts _ mX6_fillIn_1) (fun _ h9 => h9) rfl dX6_fillIn_1 ?_
  refine lv_if_ne (tgt := 15) hx hb dX6_fillIn_4 (by decide) (fun c72 => ?_) (fun c72 => ?_)
  · refine lv_aload_n hx hb dX6_fillIn_15 rfl (lv_at hl 0 rfl) ?_
    refine va_get (D := D) (ci := 6) (v := .int f71_2) (C := RX6) (T := TX6) (N := 8) hx hb hts iX6_fillIn_6 hown hN.1 hP 0 rfl rfl 2 (by decide) (hts _ mX6_fillIn_3) (fun _ h9 => h9) rfl dX6_fillIn_16 ?_
    refine lv_if_ne (tgt := 28) hx hb dX6_fillIn_19 (by decide) (fun c73 => ?_) (fun c73 => ?_)
    · exact en_v hx hb hr hlocks hL (Nat.zero_le _) (Nat.zero_le _) dX6_fillIn_28 (⟨hT, hF⟩)
    · refine lv_aload_n hx hb dX6_fillIn_22 rfl (lv_at hl 0 rfl) ?_
      refine lv_bipush (v := 50) hx hb dX6_fillIn_23 (by decide) ?_
      have hB : Bx B0 D _ [(w, .inr (6, [.int (nI f71_0), .int f71_1, .int f71_2, f71_3, .ref f71_4, .ref f71_5, .ref f71_6, .ref f71_7]))] [] _ _ := Bx.of (fun a => (κ a).1) hL hP (fa_c hb71 fa_n) (by simp only [List.map_cons, List.map_nil, hw.1]; decide)
      refine b_put (D := D) (ci := 6) (v := .int 50) (ty := .int) (C := RX6) (T := TX6) (N := 8) hx hb hts iX6_fillIn_6 tyX6 tyX6_ok nmX6 hown hN hB 0 rfl rfl 2 (by decide) (hts _ mX6_fillIn_3) (fun _ h9 => h9) rfl (by decide +kernel) rfl rfl (Nat.le_of_ble_eq_true rfl) (.inl rfl) dX6_fillIn_25 (fun H locs hB => ?_)
      have hB : Bx B0 D _ [(w, .inr (6, [.int (nI f71_0), .int f71_1, .int 50, f71_3, .ref f71_4, .ref f71_5, .ref f71_6, .ref f71_7]))] [w] _ _ := hB
      have hT : WT B0 D cs T κ _ := hT.close hB ⟨⟨0, _, rfl, ok_7 hw.1 ⟨_, _, _, _, _, _, _, _, rfl, (by omega), c71_3, c71_mg, ⟨t71_4.1, by rw [hw.2]; exact t71_4.2⟩, ⟨t71_5.1, by rw [hw.2]; exact t71_5.2⟩, ⟨t71_6.1, by rw [hw.2]; exact t71_6.2⟩, ⟨t71_7.1, by rw [hw.2]; exact t71_7.2⟩⟩⟩, trivial⟩
      have hF : Fr B0 [i] κ H0 _ := hF.close hB (fa_c (by simp [hw.2]) fa_n)
      have hL : OkL B0 _ := hB.2.2.2.2.2
      have hP : va_P D vwCl [(w, .inr (6, [.int (nI f71_0), .int f71_1, .int 50, f71_3, .ref f71_4, .ref f71_5, .ref f71_6, .ref f71_7]))] _ := hB.1
      exact en_v hx hb hr hlocks hL (Nat.zero_le _) (Nat.zero_le _) dX6_fillIn_28 (⟨hT, hF⟩)
  · refine lv_aload_n hx hb dX6_fillIn_7 rfl (lv_at hl 0 rfl) ?_
    refine lv_aload_n hx hb dX6_fillIn_8 rfl (lv_at hl 0 rfl) ?_
    refine va_get (D := D) (ci := 6) (v := .int (nI f71_0)) (C := RX6) (T := TX6) (N := 8) hx hb hts iX6_fillIn_6 hown hN.1 hP 0 rfl rfl 0 (by decide) (hts _ mX6_fillIn_2) (fun _ h9 => h9) rfl dX6_fillIn_9 ?_
    have hB : Bx B0 D _ [(w, .inr (6, [.int (nI f71_0), .int f71_1, .int f71_2, f71_3, .ref f71_4, .ref f71_5, .ref f71_6, .ref f71_7]))] [] _ _ := Bx.of (fun a => (κ a).1) hL hP (fa_c hb71 fa_n) (by simp only [List.map_cons, List.map_nil, hw.1]; decide)
    refine b_put (D := D) (ci := 6) (v := .int (nI f71_0)) (ty := .int) (C := RX6) (T := TX6) (N := 8) hx hb hts iX6_fillIn_6 tyX6 tyX6_ok nmX6 hown hN hB 0 rfl rfl 1 (by decide) (hts _ mX6_fillIn_1) (fun _ h9 => h9) rfl (by decide +kernel) rfl rfl (Nat.le_of_ble_eq_true rfl) (.inl rfl) dX6_fillIn_12 (fun H locs hB => ?_)
    have hB : Bx B0 D _ [(w, .inr (6, [.int (nI f71_0), .int (nI f71_0), .int f71_2, f71_3, .ref f71_4, .ref f71_5, .ref f71_6, .ref f71_7]))] [w] _ _ := hB
    refine lv_aload_n hx hb dX6_fillIn_15 rfl (lv_at hl 0 rfl) ?_
    refine va_get (D := D) (ci := 6) (v := .int f71_2) (C := RX6) (T := TX6) (N := 8) hx hb hts iX6_fillIn_6 hown hN.1 hB.1 0 rfl rfl 2 (by decide) (hts _ mX6_fillIn_3) (fun _ h9 => h9) rfl dX6_fillIn_16 ?_
    refine lv_if_ne (tgt := 28) hx hb dX6_fillIn_19 (by decide) (fun c74 => ?_) (fun c74 => ?_)
    · have hT : WT B0 D cs T κ _ := hT.close hB ⟨⟨0, _, rfl, ok_7 hw.1 ⟨_, _, _, _, _, _, _, _, rfl, (by omega), c71_3, c71_mg, ⟨t71_4.1, by rw [hw.2]; exact t71_4.2⟩, ⟨t71_5.1, by rw [hw.2]; exact t71_5.2⟩, ⟨t71_6.1, by rw [hw.2]; exact t71_6.2⟩, ⟨t71_7.1, by rw [hw.2]; exact t71_7.2⟩⟩⟩, trivial⟩
      have hF : Fr B0 [i] κ H0 _ := hF.close hB (fa_c (by simp [hw.2]) fa_n)
      have hL : OkL B0 _ := hB.2.2.2.2.2
      have hP : va_P D vwCl [(w, .inr (6, [.int (nI f71_0), .int (nI f71_0), .int f71_2, f71_3, .ref f71_4, .ref f71_5, .ref f71_6, .ref f71_7]))] _ := hB.1
      exact en_v hx hb hr hlocks hL (Nat.zero_le _) (Nat.zero_le _) dX6_fillIn_28 (⟨hT, hF⟩)
    · refine lv_aload_n hx hb dX6_fillIn_22 rfl (lv_at hl 0 rfl) ?_
      refine lv_bipush (v := 50) hx hb dX6_fillIn_23 (by decide) ?_
      refine b_put (D := D) (ci := 6) (v := .int 50) (ty := .int) (C := RX6) (T := TX6) (N := 8) hx hb hts iX6_fillIn_6 tyX6 tyX6_ok nmX6 hown hN hB 0 rfl rfl 2 (by decide) (hts _ mX6_fillIn_3) (fun _ h9 => h9) rfl (by decide +kernel) rfl rfl (Nat.le_of_ble_eq_true rfl) (.inr ⟨rfl, List.mem_of_getElem? (i := 0) rfl⟩) dX6_fillIn_25 (fun H locs hB => ?_)
      have hB : Bx B0 D _ [(w, .inr (6, [.int (nI f71_0), .int (nI f71_0), .int 50, f71_3, .ref f71_4, .ref f71_5, .ref f71_6, .ref f71_7]))] [w] _ _ := hB
      have hT : WT B0 D cs T κ _ := hT.close hB ⟨⟨0, _, rfl, ok_7 hw.1 ⟨_, _, _, _, _, _, _, _, rfl, (by omega), c71_3, c71_mg, ⟨t71_4.1, by rw [hw.2]; exact t71_4.2⟩, ⟨t71_5.1, by rw [hw.2]; exact t71_5.2⟩, ⟨t71_6.1, by rw [hw.2]; exact t71_6.2⟩, ⟨t71_7.1, by rw [hw.2]; exact t71_7.2⟩⟩⟩, trivial⟩
      have hF : Fr B0 [i] κ H0 _ := hF.close hB (fa_c (by simp [hw.2]) fa_n)
      have hL : OkL B0 _ := hB.2.2.2.2.2
      have hP : va_P D vwCl [(w, .inr (6, [.int (nI f71_0), .int (nI f71_0), .int 50, f71_3, .ref f71_4, .ref f71_5, .ref f71_6, .ref f71_7]))] _ := hB.1
      exact en_v hx hb hr hlocks hL (Nat.zero_le _) (Nat.zero_le _) dX6_fillIn_28 (⟨hT, hF⟩)
theorem mX6_setDelay_1 : (.fieldLink RX6 20 "OneBeat$Setup" "delay" "[I" : Cond) ∈ wsX6_setDelay := List.mem_of_getElem? (i := 1) (by decide +kernel)
theorem iX6_setDelay_6 : ∀ w ∈ wsX60, w ∈ wsX6_setDelay := fun w h => List.mem_of_mem_drop (List.mem_of_mem_take ((show wsX60 = (wsX6_setDelay.drop 6).take 8 by decide +kernel) ▸ h))
set_option maxHeartbeats 4000000 in
set_option maxRecDepth 100000 in
theorem c_X6_setDelay {l : Launch} {D : va_G} {cs : Nat → ClassId} {B0 T : Nat} {κ : KM} {H0 : Heap} (hT : WT B0 D cs T κ H0) {w i : Nat} (hw : T2 κ w 7 i) {x : Int32} {y : Int32} {n : Nat} (hn : n ≤ 9) : KC l yX6_setDelay wsX6_setDelay 1 21 0 0 D cs B0 H0 [.ref w, .int x, .int y, .int (nI n)] (Qv (fun H => WT B0 D cs T κ H ∧ Fr B0 [i] κ H0 H)) := by
  refine KC.of cX6_setDelay 4 none (by decide) rfl (Nat.le_of_ble_eq_true rfl) ?_
  intro p e s m below meth c ls hx hb hr hml hown hts hlocks hin hN hE hH0 hl
  have hown : s.vm.findClass RX6 = some m.cls := hown
  have hl : lv_has ls 4 [(0, .ref w), (1, .int x), (2, .int y), (3, .int (nI n))] := hl
  have hL : OkL B0 [] := OkL.nil
  have hF : Fr B0 [i] κ H0 H0 := Fr.rf
  refine lv_aload_n hx hb dX6_setDelay_0 rfl (lv_at hl 0 rfl) ?_
  obtain ⟨hb75, e75, hat75, hk75⟩ := hT.o7 hw.1
  obtain ⟨f75_0, f75_1, f75_2, f75_3, f75_4, f75_5, f75_6, f75_7, rfl, c75_0, c75_3, c75_mg, t75_4, t75_5, t75_6, t75_7⟩ := hk75
  rw [hw.2] at t75_4
  rw [hw.2] at t75_5
  rw [hw.2] at t75_6
  rw [hw.2] at t75_7
  have hP : va_P D vwCl [(w, .inr (6, [.int (nI f75_0), .int f75_1, .int f75_2, f75_3, .ref f75_4, .ref f75_5, .ref f75_6, .ref f75_7]))] _ := va_P.cons hat75 va_P.nil
  refine va_get (D := D) (ci := 6) (v := .ref f75_7) (C := RX6) (T := TX6) (N := 8) hx hb hts iX6_setDelay_6 hown hN.1 hP 0 rfl rfl 7 (by decide) (hts _ mX6_setDelay_1) (fun _ h9 => h9) rfl dX6_setDelay_1 ?_
  refine lv_iload_n hx hb dX6_setDelay_4 rfl (lv_at hl 1 rfl) ?_
  refine lv_iload_n hx hb dX6_setDelay_5 rfl (lv_at hl 2 rfl) ?_
  refine cs_i (As := [.int x, .int y]) (rest := [.ref f75_7]) ⟨hx, hb, hml, hown, hts⟩ (c_X6_place hT (x := x) (y := y)) (va_cwS 2 hts gX6_setDelay_X6_place rfl rfl rfl hdX6_place_o ⟨Nat.le_of_ble_eq_true rfl, Nat.le_of_ble_eq_true rfl⟩) hN hE hL rfl rfl hl.1 (Nat.le_of_ble_eq_true rfl) dX6_setDelay_6 (Nat.zero_le _) (Nat.zero_le _) (fun r76 H1 locs hL hqr76 => ?_)
  obtain ⟨h9, hqr76⟩ := hqr76; replace h9 := h9.symm; subst h9
  obtain rfl := hqr76
  have hp77 := plc_lt x y
  refine lv_iload_n hx hb dX6_setDelay_9 rfl (lv_at hl 3 rfl) ?_
  obtain ⟨hb78, e78, hat78, hk78⟩ := hT.o20 t75_7.1
  obtain ⟨g78, rfl, q78⟩ := hk78
  have hP : va_P D vwCl [(f75_7, .inl (cs 0, 64, .inl g78)), (w, .inr (6, [.int (nI f75_0), .int f75_1, .int f75_2, f75_3, .ref f75_4, .ref f75_5, .ref f75_6, .ref f75_7]))] _ := va_P.cons hat78 hP
  have hB : Bx B0 D _ [(f75_7, .inl (cs 0, 64, .inl g78)), (w, .inr (6, [.int (nI f75_0), .int f75_1, .int f75_2, f75_3, .ref f75_4, .ref f75_5, .ref f75_6, .ref f75_7]))] [] _ _ := Bx.of (fun a => (κ a).1) hL hP (fa_c hb78 (fa_c hb75 fa_n)) (by simp only [List.map_cons, List.map_nil, t75_7.1, hw.1]; decide)
  refine b_i hx hb hN hB 0 rfl (vp_in_nI (n := (plc x y)) (N := 64) (by omega) (by omega)) (.inl rfl) dX6_setDelay_10 (fun H locs hB => ?_)
  rw [(show ((nI (plc x y)) : Int32).toNatClampNeg = (plc x y) from nI_clamp (n := (plc x y)) (by omega))] at hB
  have hB : Bx B0 D _ [(f75_7, .inl (cs 0, 64, .inl (upd g78 (plc x y) (nI n)))), (w, .inr (6, [.int (nI f75_0), .int f75_1, .int f75_2, f75_3, .ref f75_4, .ref f75_5, .ref f75_6, .ref f75_7]))] [f75_7] _ _ := hB
  have z79 := upR q78 ((plc x y)) (y := n) (by omega)
  have hT : WT B0 D cs T κ _ := hT.close hB ⟨⟨0, _, rfl, ok_20 t75_7.1 ⟨_, rfl, z79⟩⟩, trivial⟩
  have hF : Fr B0 [i] κ H0 _ := hF.close hB (fa_c (by simp [t75_7.2]) fa_n)
  have hL : OkL B0 _ := hB.2.2.2.2.2
  have hP : va_P D vwCl [(f75_7, .inl (cs 0, 64, .inl (upd g78 (plc x y) (nI n)))), (w, .inr (6, [.int (nI f75_0), .int f75_1, .int f75_2, f75_3, .ref f75_4, .ref f75_5, .ref f75_6, .ref f75_7]))] _ := hB.1
  exact en_v hx hb hr hlocks hL (Nat.zero_le _) (Nat.zero_le _) dX6_setDelay_11 (⟨hT, hF⟩)
theorem sw_m4_9001 {x : Int32} (h : ¬ (x.toInt < (-4 : Int) ∨ (-1 : Int) < x.toInt)) : x = (-4) ∨ x = (-3) ∨ x = (-2) ∨ x = (-1) := by
  have h2 : x.toInt = (-4 : Int) ∨ x.toInt = (-3 : Int) ∨ x.toInt = (-2 : Int) ∨ x.toInt = (-1 : Int) := by omega
  rcases h2 with h2 | h2 | h2 | h2
  · exact Or.inl (Int32.toInt_inj.mp (h2.trans (by decide)))
  · exact Or.inr (Or.inl (Int32.toInt_inj.mp (h2.trans (by decide))))
  · exact Or.inr (Or.inr (Or.inl (Int32.toInt_inj.mp (h2.trans (by decide)))))
  · exact Or.inr (Or.inr (Or.inr ((Int32.toInt_inj.mp (h2.trans (by decide))))))
set_option maxHeartbeats 4000000 in
set_option maxRecDepth 100000 in
theorem c_X0_operand {l : Launch} {D : va_G} {cs : Nat → ClassId} {B0 T : Nat} {κ : KM} {H0 : Heap} (hT : WT B0 D cs T κ H0) {x : Int32} {y : Int32} {z : Int32} {u : Int32} {v : Int32} : KC l yX0_operand wsX0_operand 0 0 0 0 D cs B0 H0 [.int x, .int y, .int z, .int u, .int v] (Qi (fun _ H => H = H0)) := by
  refine KC.of cX0_operand 5 (some .int) (by decide) rfl (Nat.le_of_ble_eq_true rfl) ?_
  intro p e s m below meth c ls hx hb hr hml hown hts hlocks hin hN hE hH0 hl
  have hown : s.vm.findClass RX0 = some m.cls := hown
  have hl : lv_has ls 5 [(0, .int x), (1, .int y), (2, .int z), (3, .int u), (4, .int v)] := hl
  have hL : OkL B0 [] := OkL.nil
  refine lv_iload_n hx hb dX0_operand_0 rfl (lv_at hl 0 rfl) ?_
  by_cases c80 : (x : Int32).toInt < (-4 : Int) ∨ (-1 : Int) < (x : Int32).toInt
  · refine lv_tableOut (tgt := 41) hx hb dX0_operand_1 c80 (by decide) ?_
    refine lv_iload_n hx hb dX0_operand_41 rfl (lv_at hl 0 rfl) ?_
    exact en_i hx hb hr hlocks hL rfl (Nat.zero_le _) (Nat.zero_le _) dX0_operand_42 (rfl)
  · rcases sw_m4_9001 c80 with rfl | rfl | rfl | rfl
    · refine lv_tableIn (tgt := 38) (off := 37) hx hb dX0_operand_1 (by decide) (by decide) (by decide) (by decide) ?_
      refine lv_iload hx hb dX0_operand_38 (lv_at hl 4 rfl) ?_
      exact en_i hx hb hr hlocks hL rfl (Nat.zero_le _) (Nat.zero_le _) dX0_operand_40 (rfl)
    · refine lv_tableIn (tgt := 36) (off := 35) hx hb dX0_operand_1 (by decide) (by decide) (by decide) (by decide) ?_
      refine lv_iload_n hx hb dX0_operand_36 rfl (lv_at hl 3 rfl) ?_
      exact en_i hx hb hr hlocks hL rfl (Nat.zero_le _) (Nat.zero_le _) dX0_operand_37 (rfl)
    · refine lv_tableIn (tgt := 34) (off := 33) hx hb dX0_operand_1 (by decide) (by decide) (by decide) (by decide) ?_
      refine lv_iload_n hx hb dX0_operand_34 rfl (lv_at hl 2 rfl) ?_
      exact en_i hx hb hr hlocks hL rfl (Nat.zero_le _) (Nat.zero_le _) dX0_operand_35 (rfl)
    · refine lv_tableIn (tgt := 32) (off := 31) hx hb dX0_operand_1 (by decide) (by decide) (by decide) (by decide) ?_
      refine lv_iload_n hx hb dX0_operand_32 rfl (lv_at hl 1 rfl) ?_
      exact en_i hx hb hr hlocks hL rfl (Nat.zero_le _) (Nat.zero_le _) dX0_operand_33 (rfl)
theorem mX0_limited_1 : (.constantLong RX0 30 (-1000000) : Cond) ∈ wsX0_limited := List.mem_of_getElem? (i := 1) (by decide +kernel)
theorem mX0_limited_2 : (.constantLong RX0 32 (1000000) : Cond) ∈ wsX0_limited := List.mem_of_getElem? (i := 2) (by decide +kernel)
theorem mX0_limited_3 : (.methodLink RX0 34 Lib.MathLoose.min_long.x : Cond) ∈ wsX0_limited := List.mem_of_getElem? (i := 3) (by decide +kernel)
theorem mX0_limited_4 : (.static Lib.MathLoose.min_long.x : Cond) ∈ wsX0_limited := List.mem_of_getElem? (i := 4) (by decide +kernel)
theorem mX0_limited_5 : (.initialized "java/lang/Math" : Cond) ∈ wsX0_limited := List.mem_of_getElem? (i := 5) (by decide +kernel)
theorem mX0_limited_6 : (.code Lib.MathLoose.min_long.x Lib.MathLoose.min_long.code 4 (some .long) : Cond) ∈ wsX0_limited := List.mem_of_getElem? (i := 6) (by decide +kernel)
theorem mX0_limited_7 : (.methodLink RX0 40 Lib.MathLoose.max_long.x : Cond) ∈ wsX0_limited := List.mem_of_getElem? (i := 7) (by decide +kernel)
theorem mX0_limited_8 : (.static Lib.MathLoose.max_long.x : Cond) ∈ wsX0_limited := List.mem_of_getElem? (i := 8) (by decide +kernel)
theorem mX0_limited_9 : (.code Lib.MathLoose.max_long.x Lib.MathLoose.max_long.code 4 (some .long) : Cond) ∈ wsX0_limited := List.mem_of_getElem? (i := 9) (by decide +kernel)
set_option maxHeartbeats 4000000 in
set_option maxRecDepth 100000 in
theorem c_X0_limited {l : Launch} {D : va_G} {cs : Nat → ClassId} {B0 T : Nat} {κ : KM} {H0 : Heap} (hT : WT B0 D cs T κ H0) {x : Int32} {y : Int32} {z : Int32} : KC l yX0_limited wsX0_limited 1 40 0 0 D cs B0 H0 [.int x, .int y, .int z] (Qi (fun _ H => H = H0)) := by
  refine KC.of cX0_limited 5 (some .int) (by decide) rfl (Nat.le_of_ble_eq_true rfl) ?_
  intro p e s m below meth c ls hx hb hr hml hown hts hlocks hin hN hE hH0 hl
  have hown : s.vm.findClass RX0 = some m.cls := hown
  have hl : lv_has ls 5 [(0, .int x), (1, .int y), (2, .int z)] := hl
  have hL : OkL B0 [] := OkL.nil
  refine lv_iload_n hx hb dX0_limited_0 rfl (lv_at hl 0 rfl) ?_
  refine lv_bipush (v := (-5)) hx hb dX0_limited_1 (by decide) ?_
  refine lv_icmp_ne (tgt := 15) hx hb dX0_limited_3 (by decide) (fun c81 => ?_) (fun c81 => ?_)
  · refine lv_iload_n hx hb dX0_limited_15 rfl (lv_at hl 0 rfl) ?_
    refine lv_bipush (v := (-6)) hx hb dX0_limited_16 (by decide) ?_
    refine lv_icmp_ne (tgt := 30) hx hb dX0_limited_18 (by decide) (fun c82 => ?_) (fun c82 => ?_)
    · refine lv_iload_n hx hb dX0_limited_30 rfl (lv_at hl 0 rfl) ?_
      refine lv_bipush (v := (-7)) hx hb dX0_limited_31 (by decide) ?_
      refine lv_icmp_ne (tgt := 45) hx hb dX0_limited_33 (by decide) (fun c83 => ?_) (fun c83 => ?_)
      · refine lv_iload_n hx hb dX0_limited_45 rfl (lv_at hl 2 rfl) ?_
        refine lv_if_ne (tgt := 53) hx hb dX0_limited_46 (by decide) (fun c84 => ?_) (fun c84 => ?_)
        · refine lv_iload_n hx hb dX0_limited_53 rfl (lv_at hl 1 rfl) ?_
          refine lv_iload_n hx hb dX0_limited_54 rfl (lv_at hl 2 rfl) ?_
          refine lv_idiv hx hb dX0_limited_55 (by assumption) ?_
          refine gn_i (fun x85 => ?_)
          refine lv_i2l hx hb dX0_limited_56 rfl ?_
          refine gn_l (fun y86 => ?_)
          refine lv_lstore_n (lv' := [(3, .long y86), (0, .int x), (1, .int y), (2, .int z)]) hx hb dX0_limited_57 rfl hl (by decide) rfl (fun ls hl => ?_)
          refine lv_ldc2 (v := (-1000000)) hx hb hown (hts _ mX0_limited_1) dX0_limited_58 ?_
          refine lv_ldc2 (v := 1000000) hx hb hown (hts _ mX0_limited_2) dX0_limited_61 ?_
          refine lv_lload_n hx hb dX0_limited_64 rfl (lv_at hl 0 rfl) ?_
          refine va_mmin_long hx hb (hml.trans hl.1.symm) hown (hts _ mX0_limited_3) (hts _ mX0_limited_4) (hts _ mX0_limited_5) (hts _ mX0_limited_6) (Nat.le_of_ble_eq_true rfl) (Nat.le_of_ble_eq_true rfl) (Nat.zero_le _) (Nat.zero_le _) dX0_limited_65 ?_
          refine gn_l (fun y87 => ?_)
          refine va_mmax_long hx hb (hml.trans hl.1.symm) hown (hts _ mX0_limited_7) (hts _ mX0_limited_8) (hts _ mX0_limited_5) (hts _ mX0_limited_9) (Nat.le_of_ble_eq_true rfl) (Nat.le_of_ble_eq_true rfl) (Nat.zero_le _) (Nat.zero_le _) dX0_limited_68 ?_
          refine gn_l (fun y88 => ?_)
          refine lv_l2i hx hb dX0_limited_71 rfl ?_
          refine gn_i (fun x89 => ?_)
          exact en_i hx hb hr hlocks hL rfl (Nat.zero_le _) (Nat.zero_le _) dX0_limited_72 (rfl)
        · refine lv_lconst (v := 0) hx hb dX0_limited_49 (by decide) ?_
          refine lv_goto (tgt := 57) hx hb dX0_limited_50 (by decide) ?_
          refine lv_lstore_n (lv' := [(3, .long 0), (0, .int x), (1, .int y), (2, .int z)]) hx hb dX0_limited_57 rfl hl (by decide) rfl (fun ls hl => ?_)
          refine lv_ldc2 (v := (-1000000)) hx hb hown (hts _ mX0_limited_1) dX0_limited_58 ?_
          refine lv_ldc2 (v := 1000000) hx hb hown (hts _ mX0_limited_2) dX0_limited_61 ?_
          refine lv_lload_n hx hb dX0_limited_64 rfl (lv_at hl 0 rfl) ?_
          refine va_mmin_long hx hb (hml.trans hl.1.symm) hown (hts _ mX0_limited_3) (hts _ mX0_limited_4) (hts _ mX0_limited_5) (hts _ mX0_limited_6) (Nat.le_of_ble_eq_true rfl) (Nat.le_of_ble_eq_true rfl) (Nat.zero_le _) (Nat.zero_le _) dX0_limited_65 ?_
          refine gn_l (fun y90 => ?_)
          refine va_mmax_long hx hb (hml.trans hl.1.symm) hown (hts _ mX0_limited_7) (hts _ mX0_limited_8) (hts _ mX0_limited_5) (hts _ mX0_limited_9) (Nat.le_of_ble_eq_true rfl) (Nat.le_of_ble_eq_true rfl) (Nat.zero_le _) (Nat.zero_le _) dX0_limited_68 ?_
          refine gn_l (fun y91 => ?_)
          refine lv_l2i hx hb dX0_limited_71 rfl ?_
          refine gn_i (fun x92 => ?_)
          exact en_i hx hb hr hlocks hL rfl (Nat.zero_le _) (Nat.zero_le _) dX0_limited_72 (rfl)
      · refine lv_iload_n hx hb dX0_limited_36 rfl (lv_at hl 1 rfl) ?_
        refine lv_i2l hx hb dX0_limited_37 rfl ?_
        refine gn_l (fun y93 => ?_)
        refine lv_iload_n hx hb dX0_limited_38 rfl (lv_at hl 2 rfl) ?_
        refine lv_i2l hx hb dX0_limited_39 rfl ?_
        refine gn_l (fun y94 => ?_)
        refine lv_lmul hx hb dX0_limited_40 ?_
        refine gn_l (fun y95 => ?_)
        refine lv_lstore_n (lv' := [(3, .long y95), (0, .int x), (1, .int y), (2, .int z)]) hx hb dX0_limited_41 rfl hl (by decide) rfl (fun ls hl => ?_)
        refine lv_goto (tgt := 58) hx hb dX0_limited_42 (by decide) ?_
        refine lv_ldc2 (v := (-1000000)) hx hb hown (hts _ mX0_limited_1) dX0_limited_58 ?_
        refine lv_ldc2 (v := 1000000) hx hb hown (hts _ mX0_limited_2) dX0_limited_61 ?_
        refine lv_lload_n hx hb dX0_limited_64 rfl (lv_at hl 0 rfl) ?_
        refine va_mmin_long hx hb (hml.trans hl.1.symm) hown (hts _ mX0_limited_3) (hts _ mX0_limited_4) (hts _ mX0_limited_5) (hts _ mX0_limited_6) (Nat.le_of_ble_eq_true rfl) (Nat.le_of_ble_eq_true rfl) (Nat.zero_le _) (Nat.zero_le _) dX0_limited_65 ?_
        refine gn_l (fun y96 => ?_)
        refine va_mmax_long hx hb (hml.trans hl.1.symm) hown (hts _ mX0_limited_7) (hts _ mX0_limited_8) (hts _ mX0_limited_5) (hts _ mX0_limited_9) (Nat.le_of_ble_eq_true rfl) (Nat.le_of_ble_eq_true rfl) (Nat.zero_le _) (Nat.zero_le _) dX0_limited_68 ?_
        refine gn_l (fun y97 => ?_)
        refine lv_l2i hx hb dX0_limited_71 rfl ?_
        refine gn_i (fun x98 => ?_)
        exact en_i hx hb hr hlocks hL rfl (Nat.zero_le _) (Nat.zero_le _) dX0_limited_72 (rfl)
    · refine lv_iload_n hx hb dX0_limited_21 rfl (lv_at hl 1 rfl) ?_
      refine lv_i2l hx hb dX0_limited_22 rfl ?_
      refine gn_l (fun y99 => ?_)
      refine lv_iload_n hx hb dX0_limited_23 rfl (lv_at hl 2 rfl) ?_
      refine lv_i2l hx hb dX0_limited_24 rfl ?_
      refine gn_l (fun y100 => ?_)
      refine lv_lsub hx hb dX0_limited_25 ?_
      refine gn_l (fun y101 => ?_)
      refine lv_lstore_n (lv' := [(3, .long y101), (0, .int x), (1, .int y), (2, .int z)]) hx hb dX0_limited_26 rfl hl (by decide) rfl (fun ls hl => ?_)
      refine lv_goto (tgt := 58) hx hb dX0_limited_27 (by decide) ?_
      refine lv_ldc2 (v := (-1000000)) hx hb hown (hts _ mX0_limited_1) dX0_limited_58 ?_
      refine lv_ldc2 (v := 1000000) hx hb hown (hts _ mX0_limited_2) dX0_limited_61 ?_
      refine lv_lload_n hx hb dX0_limited_64 rfl (lv_at hl 0 rfl) ?_
      refine va_mmin_long hx hb (hml.trans hl.1.symm) hown (hts _ mX0_limited_3) (hts _ mX0_limited_4) (hts _ mX0_limited_5) (hts _ mX0_limited_6) (Nat.le_of_ble_eq_true rfl) (Nat.le_of_ble_eq_true rfl) (Nat.zero_le _) (Nat.zero_le _) dX0_limited_65 ?_
      refine gn_l (fun y102 => ?_)
      refine va_mmax_long hx hb (hml.trans hl.1.symm) hown (hts _ mX0_limited_7) (hts _ mX0_limited_8) (hts _ mX0_limited_5) (hts _ mX0_limited_9) (Nat.le_of_ble_eq_true rfl) (Nat.le_of_ble_eq_true rfl) (Nat.zero_le _) (Nat.zero_le _) dX0_limited_68 ?_
      refine gn_l (fun y103 => ?_)
      refine lv_l2i hx hb dX0_limited_71 rfl ?_
      refine gn_i (fun x104 => ?_)
      exact en_i hx hb hr hlocks hL rfl (Nat.zero_le _) (Nat.zero_le _) dX0_limited_72 (rfl)
  · refine lv_iload_n hx hb dX0_limited_6 rfl (lv_at hl 1 rfl) ?_
    refine lv_i2l hx hb dX0_limited_7 rfl ?_
    refine gn_l (fun y105 => ?_)
    refine lv_iload_n hx hb dX0_limited_8 rfl (lv_at hl 2 rfl) ?_
    refine lv_i2l hx hb dX0_limited_9 rfl ?_
    refine gn_l (fun y106 => ?_)
    refine lv_ladd hx hb dX0_limited_10 ?_
    refine gn_l (fun y107 => ?_)
    refine lv_lstore_n (lv' := [(3, .long y107), (0, .int x), (1, .int y), (2, .int z)]) hx hb dX0_limited_11 rfl hl (by decide) rfl (fun ls hl => ?_)
    refine lv_goto (tgt := 58) hx hb dX0_limited_12 (by decide) ?_
    refine lv_ldc2 (v := (-1000000)) hx hb hown (hts _ mX0_limited_1) dX0_limited_58 ?_
    refine lv_ldc2 (v := 1000000) hx hb hown (hts _ mX0_limited_2) dX0_limited_61 ?_
    refine lv_lload_n hx hb dX0_limited_64 rfl (lv_at hl 0 rfl) ?_
    refine va_mmin_long hx hb (hml.trans hl.1.symm) hown (hts _ mX0_limited_3) (hts _ mX0_limited_4) (hts _ mX0_limited_5) (hts _ mX0_limited_6) (Nat.le_of_ble_eq_true rfl) (Nat.le_of_ble_eq_true rfl) (Nat.zero_le _) (Nat.zero_le _) dX0_limited_65 ?_
    refine gn_l (fun y108 => ?_)
    refine va_mmax_long hx hb (hml.trans hl.1.symm) hown (hts _ mX0_limited_7) (hts _ mX0_limited_8) (hts _ mX0_limited_5) (hts _ mX0_limited_9) (Nat.le_of_ble_eq_true rfl) (Nat.le_of_ble_eq_true rfl) (Nat.zero_le _) (Nat.zero_le _) dX0_limited_68 ?_
    refine gn_l (fun y109 => ?_)
    refine lv_l2i hx hb dX0_limited_71 rfl ?_
    refine gn_i (fun x110 => ?_)
    exact en_i hx hb hr hlocks hL rfl (Nat.zero_le _) (Nat.zero_le _) dX0_limited_72 (rfl)
theorem mX0_value_1 : (.fieldLink RX0 19 "OneBeat$Formula" "codes" "[I" : Cond) ∈ wsX0_value := List.mem_of_getElem? (i := 1) (by decide +kernel)
theorem iX0_value_0 : ∀ w ∈ wsX00, w ∈ wsX0_value := fun w h => List.mem_of_mem_drop (List.mem_of_mem_take ((show wsX00 = (wsX0_value.drop 19).take 2 by decide +kernel) ▸ h))
theorem mX0_value_2 : (.fieldLink RX0 9 "OneBeat$Formula" "stack" "[I" : Cond) ∈ wsX0_value := List.mem_of_getElem? (i := 2) (by decide +kernel)
theorem hdX0_operand_o : yX0_operand.cls ≠ "java/lang/invoke/MethodHandle" ∧ yX0_operand.cls ≠ "java/lang/invoke/VarHandle" ∧ (parseMethodDescriptor yX0_operand.desc).map (fun d => d.parameters.length) = some 5 := by decide +kernel
theorem hdX0_limited_o : yX0_limited.cls ≠ "java/lang/invoke/MethodHandle" ∧ yX0_limited.cls ≠ "java/lang/invoke/VarHandle" ∧ (parseMethodDescriptor yX0_limited.desc).map (fun d => d.parameters.length) = some 3 := by decide +kernel
set_option maxHeartbeats 4000000 in
set_option maxRecDepth 100000 in
theorem c_X0_value {l : Launch} {D : va_G} {cs : Nat → ClassId} {B0 T : Nat} {κ : KM} {H0 : Heap} (hT : WT B0 D cs T κ H0) {w : Nat} (hw : T2 κ w 1 15) {x : Int32} {y : Int32} {z : Int32} {u : Int32} : KC l yX0_value wsX0_value 2 64 0 0 D cs B0 H0 [.ref w, .int x, .int y, .int z, .int u] (Qi (fun _ H => WT B0 D cs T κ H ∧ Fr B0 [16] κ H0 H)) := by
  refine KC.of cX0_value 8 (some .int) (by decide) rfl (Nat.le_of_ble_eq_true rfl) ?_
  intro p e s m below meth c ls hx hb hr hml hown hts hlocks hin hN hE hH0 hl
  have hown : s.vm.findClass RX0 = some m.cls := hown
  have hl : lv_has ls 8 [(0, .ref w), (1, .int x), (2, .int y), (3, .int z), (4, .int u)] := hl
  have hL : OkL B0 [] := OkL.nil
  have hF : Fr B0 [16] κ H0 H0 := Fr.rf
  refine lv_iconst (v := 0) hx hb dX0_value_0 (by decide) ?_
  refine lv_istore (lv' := [(5, .int 0), (0, .ref w), (1, .int x), (2, .int y), (3, .int z), (4, .int u)]) hx hb dX0_value_1 hl (by decide) rfl (fun ls hl => ?_)
  refine lv_iconst (v := 0) hx hb dX0_value_3 (by decide) ?_
  refine lv_istore (lv' := [(6, .int 0), (5, .int 0), (0, .ref w), (1, .int x), (2, .int y), (3, .int z), (4, .int u)]) hx hb dX0_value_4 hl (by decide) rfl (fun ls hl => ?_)
  refine lp_m (α := Nat × Nat) (nL := 8) (fun a9 => 600 - a9.1) (fun a9 H9 l9 => (a9.1 ≤ 600) ∧ (a9.2 ≤ 16) ∧ (WT B0 D cs T κ H9) ∧ (Fr B0 [16] κ H0 H9) ∧ (OkL B0 l9)) (fun a9 => [(6, .int (nI a9.1)), (5, .int (nI a9.2)), (0, .ref w), (1, .int x), (2, .int y), (3, .int z), (4, .int u)]) ?_ (0, 0) _ _ _ ⟨(by show (0) ≤ 600; omega), (by show (0) ≤ 16; omega), hT, hF, hL⟩ (lv_sub hl [0, 1, 2, 3, 4, 5, 6] rfl)
  rintro ⟨i, h⟩ H locs ls ih111 ⟨hi, hh, hT, hF, hL⟩ hl
  have hl : lv_has ls 8 [(6, .int (nI i)), (5, .int (nI h)), (0, .ref w), (1, .int x), (2, .int y), (3, .int z), (4, .int u)] := hl
  have hi : i ≤ 600 := hi
  have hh : h ≤ 16 := hh
  refine lv_iload hx hb dX0_value_6 (lv_at hl 0 rfl) ?_
  refine lv_aload_n hx hb dX0_value_8 rfl (lv_at hl 2 rfl) ?_
  obtain ⟨hb112, e112, hat112, hk112⟩ := hT.o1 hw.1
  obtain ⟨f112_0, f112_1, rfl, t112_0, t112_1⟩ := hk112
  have hP : va_P D vwCl [(w, .inr (0, [.ref f112_0, .ref f112_1]))] _ := va_P.cons hat112 va_P.nil
  refine va_get (D := D) (ci := 0) (v := .ref f112_0) (C := RX0) (T := TX0) (N := 2) hx hb hts iX0_value_0 hown hN.1 hP 0 rfl rfl 0 (by decide) (hts _ mX0_value_1) (fun _ h9 => h9) rfl dX0_value_9 ?_
  obtain ⟨hb113, e113, hat113, hk113⟩ := hT.o21 t112_0.1
  obtain ⟨n113, g113, rfl, q113⟩ := hk113
  have hP : va_P D vwCl [(f112_0, .inl (cs 0, n113, .inl g113)), (w, .inr (0, [.ref f112_0, .ref f112_1]))] _ := va_P.cons hat113 hP
  refine va_alen (v := (nI n113)) hx hb hN.1 hP 0 0 rfl rfl rfl dX0_value_12 ?_
  refine lv_icmp_ge (tgt := 122) hx hb dX0_value_13 (by decide) (fun c114 => ?_) (fun c114 => ?_)
  · have c114 : n113 ≤ i := (nI_leI (a := n113) (b := i) (by omega) (by omega)).mp c114
    refine lv_iload hx hb dX0_value_122 (lv_at hl 1 rfl) ?_
    refine lv_if_ne (tgt := 131) hx hb dX0_value_124 (by decide) (fun c115 => ?_) (fun c115 => ?_)
    · have c115 : ¬ h = 0 := fun h9 => c115 ((nI_eq (a := h) (b := 0) (by omega) (by omega)).mpr h9)
      refine lv_aload_n hx hb dX0_value_131 rfl (lv_at hl 2 rfl) ?_
      refine va_get (D := D) (ci := 0) (v := .ref f112_1) (C := RX0) (T := TX0) (N := 2) hx hb hts iX0_value_0 hown hN.1 hP 1 rfl rfl 1 (by decide) (hts _ mX0_value_2) (fun _ h9 => h9) rfl dX0_value_132 ?_
      refine lv_iconst (v := 0) hx hb dX0_value_135 (by decide) ?_
      obtain ⟨hb116, e116, hat116, hk116⟩ := hT.o22 t112_1.1
      obtain ⟨g116, rfl⟩ := hk116
      have hP : va_P D vwCl [(f112_1, .inl (cs 0, 16, .inl g116)), (f112_0, .inl (cs 0, n113, .inl g113)), (w, .inr (0, [.ref f112_0, .ref f112_1]))] _ := va_P.cons hat116 hP
      refine ld_i (v := (g116 0)) hx hb hN hP 0 rfl (vp_in_nI (n := 0) (N := 16) (by omega) (by omega)) (by rw [(show (0 : Int32).toNatClampNeg = 0 from nI_clamp (n := 0) (by omega))]) dX0_value_136 ?_
      refine gn_i (fun x117 => ?_)
      exact en_i hx hb hr hlocks hL rfl (Nat.zero_le _) (Nat.zero_le _) dX0_value_137 (⟨hT, hF⟩)
    · have c115 : h = 0 := (nI_eq (a := h) (b := 0) (by omega) (by omega)).mp c115
      refine lv_iconst (v := 0) hx hb dX0_value_127 (by decide) ?_
      refine lv_goto (tgt := 137) hx hb dX0_value_128 (by decide) ?_
      exact en_i hx hb hr hlocks hL rfl (Nat.zero_le _) (Nat.zero_le _) dX0_value_137 (⟨hT, hF⟩)
  · have c114 : ¬ n113 ≤ i := fun h9 => c114 ((nI_leI (a := n113) (b := i) (by omega) (by omega)).mpr h9)
    refine lv_aload_n hx hb dX0_value_16 rfl (lv_at hl 2 rfl) ?_
    refine va_get (D := D) (ci := 0) (v := .ref f112_0) (C := RX0) (T := TX0) (N := 2) hx hb hts iX0_value_0 hown hN.1 hP 1 rfl rfl 0 (by decide) (hts _ mX0_value_1) (fun _ h9 => h9) rfl dX0_value_17 ?_
    refine lv_iload hx hb dX0_value_20 (lv_at hl 0 rfl) ?_
    refine ld_i (v := (g113 i)) hx hb hN hP 0 rfl (vp_in_nI (n := i) (N := n113) (by omega) (by omega)) (by rw [(show ((nI i) : Int32).toNatClampNeg = i from nI_clamp (n := i) (by omega))]) dX0_value_22 ?_
    refine gn_i (fun x118 => ?_)
    refine lv_istore (lv' := [(7, .int x118), (6, .int (nI i)), (5, .int (nI h)), (0, .ref w), (1, .int x), (2, .int y), (3, .int z), (4, .int u)]) hx hb dX0_value_23 hl (by decide) rfl (fun ls hl => ?_)
    refine lv_iload hx hb dX0_value_25 (lv_at hl 0 rfl) ?_
    refine lv_bipush (v := (-5)) hx hb dX0_value_27 (by decide) ?_
    refine lv_icmp_gt (tgt := 86) hx hb dX0_value_29 (by decide) (fun c119 => ?_) (fun c119 => ?_)
    · refine lv_iload hx hb dX0_value_86 (lv_at hl 2 rfl) ?_
      refine lv_aload_n hx hb dX0_value_88 rfl (lv_at hl 3 rfl) ?_
      refine va_get (D := D) (ci := 0) (v := .ref f112_1) (C := RX0) (T := TX0) (N := 2) hx hb hts iX0_value_0 hown hN.1 hP 1 rfl rfl 1 (by decide) (hts _ mX0_value_2) (fun _ h9 => h9) rfl dX0_value_89 ?_
      obtain ⟨hb120, e120, hat120, hk120⟩ := hT.o22 t112_1.1
      obtain ⟨g120, rfl⟩ := hk120
      have hP : va_P D vwCl [(f112_1, .inl (cs 0, 16, .inl g120)), (f112_0, .inl (cs 0, n113, .inl g113)), (w, .inr (0, [.ref f112_0, .ref f112_1]))] _ := va_P.cons hat120 hP
      refine va_alen (v := 16) hx hb hN.1 hP 0 0 rfl rfl rfl dX0_value_92 ?_
      refine lv_icmp_ge (tgt := 116) hx hb dX0_value_93 (by decide) (fun c121 => ?_) (fun c121 => ?_)
      · have c121 : 16 ≤ h := (nI_leI (a := 16) (b := h) (by omega) (by omega)).mp c121
        refine lv_iinc (v := (nI (i + 1))) (lv' := [(6, .int (nI (i + 1))), (7, .int x118), (5, .int (nI h)), (0, .ref w), (1, .int x), (2, .int y), (3, .int z), (4, .int u)]) hx hb dX0_value_116 hl (k := 1) rfl (nI_add _ 1) (by decide) rfl (fun ls hl => ?_)
        refine lv_goto (tgt := 6) hx hb dX0_value_119 (by decide) ?_
        exact ih111 ((i + 1), h) _ _ _ (by show 600 - ((i + 1)) < 600 - i; omega) ⟨(by show ((i + 1)) ≤ 600; omega), (by show (h) ≤ 16; omega), hT, hF, hL⟩ (lv_sub hl [0, 2, 3, 4, 5, 6, 7] rfl)
      · have c121 : ¬ 16 ≤ h := fun h9 => c121 ((nI_leI (a := 16) (b := h) (by omega) (by omega)).mpr h9)
        refine lv_aload_n hx hb dX0_value_96 rfl (lv_at hl 3 rfl) ?_
        refine va_get (D := D) (ci := 0) (v := .ref f112_1) (C := RX0) (T := TX0) (N := 2) hx hb hts iX0_value_0 hown hN.1 hP 2 rfl rfl 1 (by decide) (hts _ mX0_value_2) (fun _ h9 => h9) rfl dX0_value_97 ?_
        refine lv_iload hx hb dX0_value_100 (lv_at hl 2 rfl) ?_
        refine lv_iload hx hb dX0_value_102 (lv_at hl 0 rfl) ?_
        refine lv_iload_n hx hb dX0_value_104 rfl (lv_at hl 4 rfl) ?_
        refine lv_iload_n hx hb dX0_value_105 rfl (lv_at hl 5 rfl) ?_
        refine lv_iload_n hx hb dX0_value_106 rfl (lv_at hl 6 rfl) ?_
        refine lv_iload hx hb dX0_value_107 (lv_at hl 7 rfl) ?_
        refine cs_i (As := [.int x118, .int x, .int y, .int z, .int u]) (rest := [.int (nI h), .ref f112_1]) ⟨hx, hb, hml, hown, hts⟩ (c_X0_operand hT (x := x118) (y := x) (z := y) (u := z) (v := u)) (va_cwS 5 hts gX0_value_X0_operand rfl rfl rfl hdX0_operand_o ⟨Nat.le_of_ble_eq_true rfl, Nat.le_of_ble_eq_true rfl⟩) hN hE hL rfl rfl hl.1 (Nat.le_of_ble_eq_true rfl) dX0_value_109 (Nat.zero_le _) (Nat.zero_le _) (fun r122 H1 locs hL hqr122 => ?_)
        obtain rfl := hqr122.symm
        have hB : Bx B0 D _ [(f112_1, .inl (cs 0, 16, .inl g120)), (f112_0, .inl (cs 0, n113, .inl g113)), (w, .inr (0, [.ref f112_0, .ref f112_1]))] [] _ _ := Bx.of (fun a => (κ a).1) hL hP (fa_c hb120 (fa_c hb113 (fa_c hb112 fa_n))) (by simp only [List.map_cons, List.map_nil, t112_1.1, t112_0.1, hw.1]; decide)
        refine b_i hx hb hN hB 0 rfl (vp_in_nI (n := h) (N := 16) (by omega) (by omega)) (.inl rfl) dX0_value_112 (fun H locs hB => ?_)
        rw [(show ((nI h) : Int32).toNatClampNeg = h from nI_clamp (n := h) (by omega))] at hB
        have hB : Bx B0 D _ [(f112_1, .inl (cs 0, 16, .inl (upd g120 h r122))), (f112_0, .inl (cs 0, n113, .inl g113)), (w, .inr (0, [.ref f112_0, .ref f112_1]))] [f112_1] _ _ := hB
        generalize (upd g120 h r122) = g123 at hB
        refine lv_iinc (v := (nI (h + 1))) (lv' := [(5, .int (nI (h + 1))), (7, .int x118), (6, .int (nI i)), (0, .ref w), (1, .int x), (2, .int y), (3, .int z), (4, .int u)]) hx hb dX0_value_113 hl (k := 2) rfl (nI_add _ 1) (by decide) rfl (fun ls hl => ?_)
        refine lv_iinc (v := (nI (i + 1))) (lv' := [(6, .int (nI (i + 1))), (5, .int (nI (h + 1))), (7, .int x118), (0, .ref w), (1, .int x), (2, .int y), (3, .int z), (4, .int u)]) hx hb dX0_value_116 hl (k := 2) rfl (nI_add _ 1) (by decide) rfl (fun ls hl => ?_)
        refine lv_goto (tgt := 6) hx hb dX0_value_119 (by decide) ?_
        have hT : WT B0 D cs T κ _ := hT.close hB ⟨⟨0, _, rfl, ok_22 t112_1.1 ⟨_, rfl⟩⟩, trivial⟩
        have hF : Fr B0 [16] κ H0 _ := hF.close hB (fa_c (by simp [t112_1.2]) fa_n)
        have hL : OkL B0 _ := hB.2.2.2.2.2
        have hP : va_P D vwCl [(f112_1, .inl (cs 0, 16, .inl g123)), (f112_0, .inl (cs 0, n113, .inl g113)), (w, .inr (0, [.ref f112_0, .ref f112_1]))] _ := hB.1
        exact ih111 ((i + 1), (h + 1)) _ _ _ (by show 600 - ((i + 1)) < 600 - i; omega) ⟨(by show ((i + 1)) ≤ 600; omega), (by show ((h + 1)) ≤ 16; omega), hT, hF, hL⟩ (lv_sub hl [0, 1, 3, 4, 5, 6, 7] rfl)
    · refine lv_iload hx hb dX0_value_32 (lv_at hl 2 rfl) ?_
      refine lv_iconst (v := 2) hx hb dX0_value_34 (by decide) ?_
      refine lv_icmp_lt (tgt := 116) hx hb dX0_value_35 (by decide) (fun c124 => ?_) (fun c124 => ?_)
      · have c124 : h < 2 := (nI_ltI (a := h) (b := 2) (by omega) (by omega)).mp c124
        refine lv_iinc (v := (nI (i + 1))) (lv' := [(6, .int (nI (i + 1))), (7, .int x118), (5, .int (nI h)), (0, .ref w), (1, .int x), (2, .int y), (3, .int z), (4, .int u)]) hx hb dX0_value_116 hl (k := 1) rfl (nI_add _ 1) (by decide) rfl (fun ls hl => ?_)
        refine lv_goto (tgt := 6) hx hb dX0_value_119 (by decide) ?_
        exact ih111 ((i + 1), h) _ _ _ (by show 600 - ((i + 1)) < 600 - i; omega) ⟨(by show ((i + 1)) ≤ 600; omega), (by show (h) ≤ 16; omega), hT, hF, hL⟩ (lv_sub hl [0, 2, 3, 4, 5, 6, 7] rfl)
      · have c124 : ¬ h < 2 := fun h9 => c124 ((nI_ltI (a := h) (b := 2) (by omega) (by omega)).mpr h9)
        refine lv_iload hx hb dX0_value_38 (lv_at hl 2 rfl) ?_
        refine lv_aload_n hx hb dX0_value_40 rfl (lv_at hl 3 rfl) ?_
        refine va_get (D := D) (ci := 0) (v := .ref f112_1) (C := RX0) (T := TX0) (N := 2) hx hb hts iX0_value_0 hown hN.1 hP 1 rfl rfl 1 (by decide) (hts _ mX0_value_2) (fun _ h9 => h9) rfl dX0_value_41 ?_
        obtain ⟨hb125, e125, hat125, hk125⟩ := hT.o22 t112_1.1
        obtain ⟨g125, rfl⟩ := hk125
        have hP : va_P D vwCl [(f112_1, .inl (cs 0, 16, .inl g125)), (f112_0, .inl (cs 0, n113, .inl g113)), (w, .inr (0, [.ref f112_0, .ref f112_1]))] _ := va_P.cons hat125 hP
        refine va_alen (v := 16) hx hb hN.1 hP 0 0 rfl rfl rfl dX0_value_44 ?_
        refine lv_icmp_gt (tgt := 116) hx hb dX0_value_45 (by decide) (fun c126 => ?_) (fun c126 => ?_)
        · have c126 : 16 < h := (nI_ltI (a := 16) (b := h) (by omega) (by omega)).mp c126
          refine lv_iinc (v := (nI (i + 1))) (lv' := [(6, .int (nI (i + 1))), (7, .int x118), (5, .int (nI h)), (0, .ref w), (1, .int x), (2, .int y), (3, .int z), (4, .int u)]) hx hb dX0_value_116 hl (k := 1) rfl (nI_add _ 1) (by decide) rfl (fun ls hl => ?_)
          refine lv_goto (tgt := 6) hx hb dX0_value_119 (by decide) ?_
          exact ih111 ((i + 1), h) _ _ _ (by show 600 - ((i + 1)) < 600 - i; omega) ⟨(by show ((i + 1)) ≤ 600; omega), (by show (h) ≤ 16; omega), hT, hF, hL⟩ (lv_sub hl [0, 2, 3, 4, 5, 6, 7] rfl)
        · have c126 : ¬ 16 < h := fun h9 => c126 ((nI_ltI (a := 16) (b := h) (by omega) (by omega)).mpr h9)
          refine lv_aload_n hx hb dX0_value_48 rfl (lv_at hl 3 rfl) ?_
          refine va_get (D := D) (ci := 0) (v := .ref f112_1) (C := RX0) (T := TX0) (N := 2) hx hb hts iX0_value_0 hown hN.1 hP 2 rfl rfl 1 (by decide) (hts _ mX0_value_2) (fun _ h9 => h9) rfl dX0_value_49 ?_
          refine lv_iload hx hb dX0_value_52 (lv_at hl 2 rfl) ?_
          refine lv_iconst (v := 2) hx hb dX0_value_54 (by decide) ?_
          refine lv_isub hx hb dX0_value_55 ?_
          refine tp_i (nI (h - 2)) (nI_subN (a := h) (b := 2) (by omega)) ?_
          refine lv_iload hx hb dX0_value_56 (lv_at hl 0 rfl) ?_
          refine lv_aload_n hx hb dX0_value_58 rfl (lv_at hl 3 rfl) ?_
          refine va_get (D := D) (ci := 0) (v := .ref f112_1) (C := RX0) (T := TX0) (N := 2) hx hb hts iX0_value_0 hown hN.1 hP 2 rfl rfl 1 (by decide) (hts _ mX0_value_2) (fun _ h9 => h9) rfl dX0_value_59 ?_
          refine lv_iload hx hb dX0_value_62 (lv_at hl 2 rfl) ?_
          refine lv_iconst (v := 2) hx hb dX0_value_64 (by decide) ?_
          refine lv_isub hx hb dX0_value_65 ?_
          refine tp_i (nI (h - 2)) (nI_subN (a := h) (b := 2) (by omega)) ?_
          refine ld_i (v := (g125 (h - 2))) hx hb hN hP 0 rfl (vp_in_nI (n := (h - 2)) (N := 16) (by omega) (by omega)) (by rw [(show ((nI (h - 2)) : Int32).toNatClampNeg = (h - 2) from nI_clamp (n := (h - 2)) (by omega))]) dX0_value_66 ?_
          refine gn_i (fun x127 => ?_)
          refine lv_aload_n hx hb dX0_value_67 rfl (lv_at hl 3 rfl) ?_
          refine va_get (D := D) (ci := 0) (v := .ref f112_1) (C := RX0) (T := TX0) (N := 2) hx hb hts iX0_value_0 hown hN.1 hP 2 rfl rfl 1 (by decide) (hts _ mX0_value_2) (fun _ h9 => h9) rfl dX0_value_68 ?_
          refine lv_iload hx hb dX0_value_71 (lv_at hl 2 rfl) ?_
          refine lv_iconst (v := 1) hx hb dX0_value_73 (by decide) ?_
          refine lv_isub hx hb dX0_value_74 ?_
          refine tp_i (nI (h - 1)) (nI_subN (a := h) (b := 1) (by omega)) ?_
          refine ld_i (v := (g125 (h - 1))) hx hb hN hP 0 rfl (vp_in_nI (n := (h - 1)) (N := 16) (by omega) (by omega)) (by rw [(show ((nI (h - 1)) : Int32).toNatClampNeg = (h - 1) from nI_clamp (n := (h - 1)) (by omega))]) dX0_value_75 ?_
          refine gn_i (fun x128 => ?_)
          refine cs_i (As := [.int x118, .int x127, .int x128]) (rest := [.int (nI (h - 2)), .ref f112_1]) ⟨hx, hb, hml, hown, hts⟩ (c_X0_limited hT (x := x118) (y := x127) (z := x128)) (va_cwS 3 hts gX0_value_X0_limited rfl rfl rfl hdX0_limited_o ⟨Nat.le_of_ble_eq_true rfl, Nat.le_of_ble_eq_true rfl⟩) hN hE hL rfl rfl hl.1 (Nat.le_of_ble_eq_true rfl) dX0_value_76 (Nat.zero_le _) (Nat.zero_le _) (fun r129 H1 locs hL hqr129 => ?_)
          obtain rfl := hqr129.symm
          have hB : Bx B0 D _ [(f112_1, .inl (cs 0, 16, .inl g125)), (f112_0, .inl (cs 0, n113, .inl g113)), (w, .inr (0, [.ref f112_0, .ref f112_1]))] [] _ _ := Bx.of (fun a => (κ a).1) hL hP (fa_c hb125 (fa_c hb113 (fa_c hb112 fa_n))) (by simp only [List.map_cons, List.map_nil, t112_1.1, t112_0.1, hw.1]; decide)
          refine b_i hx hb hN hB 0 rfl (vp_in_nI (n := (h - 2)) (N := 16) (by omega) (by omega)) (.inl rfl) dX0_value_79 (fun H locs hB => ?_)
          rw [(show ((nI (h - 2)) : Int32).toNatClampNeg = (h - 2) from nI_clamp (n := (h - 2)) (by omega))] at hB
          have hB : Bx B0 D _ [(f112_1, .inl (cs 0, 16, .inl (upd g125 (h - 2) r129))), (f112_0, .inl (cs 0, n113, .inl g113)), (w, .inr (0, [.ref f112_0, .ref f112_1]))] [f112_1] _ _ := hB
          generalize (upd g125 (h - 2) r129) = g130 at hB
          refine lv_iinc (v := (nI (h - 1))) (lv' := [(5, .int (nI (h - 1))), (7, .int x118), (6, .int (nI i)), (0, .ref w), (1, .int x), (2, .int y), (3, .int z), (4, .int u)]) hx hb dX0_value_80 hl (k := 2) rfl (nI_dec1 (by omega)) (by decide) rfl (fun ls hl => ?_)
          refine lv_goto (tgt := 116) hx hb dX0_value_83 (by decide) ?_
          refine lv_iinc (v := (nI (i + 1))) (lv' := [(6, .int (nI (i + 1))), (5, .int (nI (h - 1))), (7, .int x118), (0, .ref w), (1, .int x), (2, .int y), (3, .int z), (4, .int u)]) hx hb dX0_value_116 hl (k := 2) rfl (nI_add _ 1) (by decide) rfl (fun ls hl => ?_)
          refine lv_goto (tgt := 6) hx hb dX0_value_119 (by decide) ?_
          have hT : WT B0 D cs T κ _ := hT.close hB ⟨⟨0, _, rfl, ok_22 t112_1.1 ⟨_, rfl⟩⟩, trivial⟩
          have hF : Fr B0 [16] κ H0 _ := hF.close hB (fa_c (by simp [t112_1.2]) fa_n)
          have hL : OkL B0 _ := hB.2.2.2.2.2
          have hP : va_P D vwCl [(f112_1, .inl (cs 0, 16, .inl g130)), (f112_0, .inl (cs 0, n113, .inl g113)), (w, .inr (0, [.ref f112_0, .ref f112_1]))] _ := hB.1
          exact ih111 ((i + 1), (h - 1)) _ _ _ (by show 600 - ((i + 1)) < 600 - i; omega) ⟨(by show ((i + 1)) ≤ 600; omega), (by show ((h - 1)) ≤ 16; omega), hT, hF, hL⟩ (lv_sub hl [0, 1, 3, 4, 5, 6, 7] rfl)
