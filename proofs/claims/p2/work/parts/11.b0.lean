theorem mX7_at_1 : (.fieldLink RX7 11 "OneBeat$World" "players" "[LOneBeat$Player;" : Cond) ∈ wsX7_at := List.mem_of_getElem? (i := 1) (by decide +kernel)
theorem iX7_at_7 : ∀ w ∈ wsX70, w ∈ wsX7_at := fun w h => List.mem_of_mem_drop (List.mem_of_mem_take ((show wsX70 = (wsX7_at.drop 2).take 16 by decide +kernel) ▸ h))
set_option maxHeartbeats 4000000 in
set_option maxRecDepth 100000 in
theorem c_X7_at {l : Launch} {D : va_G} {cs : Nat → ClassId} {B0 T : Nat} {κ : KM} {H0 : Heap} (hT : WT B0 D cs T κ H0) {w i : Nat} (hw : T2 κ w 8 i) {x : Int32} : KC l yX7_at wsX7_at 0 0 0 0 D cs B0 H0 [.ref w, .int x] (Qr (fun r H => H = H0 ∧ T2 κ r 4 i)) := by
  refine KC.of cX7_at 2 (some (.object "OneBeat$Player")) (by decide) rfl (Nat.le_of_ble_eq_true rfl) ?_
  intro p e s m below meth c ls hx hb hr hml hown hts hlocks hin hN hH0 hl
  have hown : s.vm.findClass RX7 = some m.cls := hown
  have hl : lv_has ls 2 [(0, .ref w), (1, .int x)] := hl
  have hL : OkL B0 [] := OkL.nil
  refine lv_aload_n hx hb dX7_at_0 rfl (lv_at hl 0 rfl) ?_
  obtain ⟨hb133, e133, hat133, hk133⟩ := hT.o8 hw.1
  obtain ⟨f133_0, f133_1, f133_2, f133_3, f133_4, f133_5, f133_6, f133_7, f133_8, f133_9, f133_10, f133_11, f133_12, f133_13, f133_14, f133_15, rfl, t133_0, c133_su, t133_1, t133_2, t133_3, t133_4, t133_5, c133_tm⟩ := hk133
  rw [hw.2] at t133_1
  rw [hw.2] at t133_2
  rw [hw.2] at t133_3
  rw [hw.2] at t133_4
  rw [hw.2] at t133_5
  have hP : va_P D vwCl [(w, .inr (7, [.ref f133_0, .ref f133_1, .ref f133_2, .ref f133_3, .ref f133_4, .ref f133_5, .long f133_6, .int f133_7, .int f133_8, .int f133_9, .int f133_10, .int f133_11, .int f133_12, .int f133_13, .int f133_14, .int f133_15]))] _ := va_P.cons hat133 va_P.nil
  refine va_get (D := D) (ci := 7) (v := .ref f133_1) (C := RX7) (T := TX7) (N := 16) hx hb hts iX7_at_7 hown hN.1 hP 0 rfl rfl 1 (by decide) (hts _ mX7_at_1) (fun _ h9 => h9) rfl dX7_at_1 ?_
  refine lv_iload_n hx hb dX7_at_4 rfl (lv_at hl 1 rfl) ?_
  refine lv_bipush (v := 7) hx hb dX7_at_5 (by decide) ?_
  refine lv_iand hx hb dX7_at_7 ?_
  have hj134 := m7_lt x
  refine tp_i (nI (m7 x)) (and7 x) ?_
  obtain ⟨hb135, e135, hat135, hk135⟩ := hT.o11 t133_1.1
  obtain ⟨g135, rfl, q135⟩ := hk135
  rw [t133_1.2] at q135
  have hP : va_P D vwCl [(f133_1, .inl (cs 4, 8, .inr (.inr (.inr (.inr g135))))), (w, .inr (7, [.ref f133_0, .ref f133_1, .ref f133_2, .ref f133_3, .ref f133_4, .ref f133_5, .long f133_6, .int f133_7, .int f133_8, .int f133_9, .int f133_10, .int f133_11, .int f133_12, .int f133_13, .int f133_14, .int f133_15]))] _ := va_P.cons hat135 hP
  obtain ⟨a136, ea136, ta136⟩ := q135 (m7 x) (by omega)
  refine ld_p (v := .ref a136) hx hb hN hP 0 rfl (vp_in_nI (n := (m7 x)) (N := 8) (by omega) (by omega)) (by rw [(show ((nI (m7 x)) : Int32).toNatClampNeg = (m7 x) from nI_clamp (n := (m7 x)) (by omega)), ea136]; rfl) dX7_at_8 ?_
  exact en_r hx hb hr hlocks (by first | exact Or.inl ⟨_, rfl⟩ | exact Or.inr ⟨_, rfl⟩) hL (Nat.zero_le _) (Nat.zero_le _) dX7_at_9 (⟨rfl, ta136⟩)
theorem mX7_clock_1 : (.fieldLink RX7 52 "OneBeat$World" "setup" "LOneBeat$Setup;" : Cond) ∈ wsX7_clock := List.mem_of_getElem? (i := 1) (by decide +kernel)
theorem iX7_clock_7 : ∀ w ∈ wsX70, w ∈ wsX7_clock := fun w h => List.mem_of_mem_drop (List.mem_of_mem_take ((show wsX70 = (wsX7_clock.drop 10).take 16 by decide +kernel) ▸ h))
theorem mX7_clock_2 : (.fieldLink RX7 64 "OneBeat$World" "time" "I" : Cond) ∈ wsX7_clock := List.mem_of_getElem? (i := 2) (by decide +kernel)
theorem hdX6_clock_v : yX6_clock.cls = RX6 ∧ yX6_clock.cls ≠ "java/lang/invoke/MethodHandle" ∧ yX6_clock.cls ≠ "java/lang/invoke/VarHandle" ∧ (parseMethodDescriptor yX6_clock.desc).map (fun d => d.parameters.length) = some 2 := by decide +kernel
set_option maxHeartbeats 4000000 in
set_option maxRecDepth 100000 in
theorem c_X7_clock {l : Launch} {D : va_G} {cs : Nat → ClassId} {B0 T : Nat} {κ : KM} {H0 : Heap} (hT : WT B0 D cs T κ H0) {w i : Nat} (hw : T2 κ w 8 i) {x : Int32} : KC l yX7_clock wsX7_clock 1 22 0 0 D cs B0 H0 [.ref w, .int x] (Qi (fun _ H => H = H0)) := by
  refine KC.of cX7_clock 2 (some .int) (by decide) rfl (Nat.le_of_ble_eq_true rfl) ?_
  intro p e s m below meth c ls hx hb hr hml hown hts hlocks hin hN hH0 hl
  have hown : s.vm.findClass RX7 = some m.cls := hown
  have hl : lv_has ls 2 [(0, .ref w), (1, .int x)] := hl
  have hL : OkL B0 [] := OkL.nil
  refine lv_aload_n hx hb dX7_clock_0 rfl (lv_at hl 0 rfl) ?_
  obtain ⟨hb137, e137, hat137, hk137⟩ := hT.o8 hw.1
  obtain ⟨f137_0, f137_1, f137_2, f137_3, f137_4, f137_5, f137_6, f137_7, f137_8, f137_9, f137_10, f137_11, f137_12, f137_13, f137_14, f137_15, rfl, t137_0, c137_su, t137_1, t137_2, t137_3, t137_4, t137_5, c137_tm⟩ := hk137
  rw [hw.2] at t137_1
  rw [hw.2] at t137_2
  rw [hw.2] at t137_3
  rw [hw.2] at t137_4
  rw [hw.2] at t137_5
  have hP : va_P D vwCl [(w, .inr (7, [.ref f137_0, .ref f137_1, .ref f137_2, .ref f137_3, .ref f137_4, .ref f137_5, .long f137_6, .int f137_7, .int f137_8, .int f137_9, .int f137_10, .int f137_11, .int f137_12, .int f137_13, .int f137_14, .int f137_15]))] _ := va_P.cons hat137 va_P.nil
  refine va_get (D := D) (ci := 7) (v := .ref f137_0) (C := RX7) (T := TX7) (N := 16) hx hb hts iX7_clock_7 hown hN.1 hP 0 rfl rfl 0 (by decide) (hts _ mX7_clock_1) (fun _ h9 => h9) rfl dX7_clock_1 ?_
  refine lv_iload_n hx hb dX7_clock_4 rfl (lv_at hl 1 rfl) ?_
  refine lv_aload_n hx hb dX7_clock_5 rfl (lv_at hl 0 rfl) ?_
  refine va_get (D := D) (ci := 7) (v := .int f137_7) (C := RX7) (T := TX7) (N := 16) hx hb hts iX7_clock_7 hown hN.1 hP 0 rfl rfl 7 (by decide) (hts _ mX7_clock_2) (fun _ h9 => h9) rfl dX7_clock_6 ?_
  refine cv_i (As := [.int x, .int f137_7]) (rest := []) (b := f137_0) ⟨hx, hb, hml, hown, hts⟩ (c_X6_clock hT (w := f137_0) t137_0 (x := x) (y := f137_7)) (cwV 2 hts gX7_clock_X6_clock rfl rfl rfl hdX6_clock_v ⟨Nat.le_of_ble_eq_true rfl, Nat.le_of_ble_eq_true rfl⟩) hN hL (rcv7 hN hT t137_0.1) rfl rfl hl.1 (Nat.le_of_ble_eq_true rfl) dX7_clock_9 (Nat.zero_le _) (Nat.zero_le _) (fun r138 H1 locs hL hqr138 => ?_)
  obtain rfl := hqr138
  exact en_i hx hb hr hlocks hL rfl (Nat.zero_le _) (Nat.zero_le _) dX7_clock_12 (rfl)
theorem hdX7_clock_v : yX7_clock.cls = RX7 ∧ yX7_clock.cls ≠ "java/lang/invoke/MethodHandle" ∧ yX7_clock.cls ≠ "java/lang/invoke/VarHandle" ∧ (parseMethodDescriptor yX7_clock.desc).map (fun d => d.parameters.length) = some 1 := by decide +kernel
theorem hdX7_at_v : yX7_at.cls = RX7 ∧ yX7_at.cls ≠ "java/lang/invoke/MethodHandle" ∧ yX7_at.cls ≠ "java/lang/invoke/VarHandle" ∧ (parseMethodDescriptor yX7_at.desc).map (fun d => d.parameters.length) = some 1 := by decide +kernel
theorem iX7_estimate_3 : ∀ w ∈ wsX30, w ∈ wsX7_estimate := fun w h => List.mem_of_mem_drop (List.mem_of_mem_take ((show wsX30 = (wsX7_estimate.drop 20).take 10 by decide +kernel) ▸ h))
set_option maxHeartbeats 4000000 in
set_option maxRecDepth 100000 in
theorem c_X7_estimate {l : Launch} {D : va_G} {cs : Nat → ClassId} {B0 T : Nat} {κ : KM} {H0 : Heap} (hT : WT B0 D cs T κ H0) {w i : Nat} (hw : T2 κ w 8 i) {x : Int32} : KC l yX7_estimate wsX7_estimate 2 43 0 0 D cs B0 H0 [.ref w, .int x] (Qi (fun _ H => H = H0)) := by
  refine KC.of cX7_estimate 2 (some .int) (by decide) rfl (Nat.le_of_ble_eq_true rfl) ?_
  intro p e s m below meth c ls hx hb hr hml hown hts hlocks hin hN hH0 hl
  have hown : s.vm.findClass RX7 = some m.cls := hown
  have hl : lv_has ls 2 [(0, .ref w), (1, .int x)] := hl
  have hL : OkL B0 [] := OkL.nil
  refine lv_aload_n hx hb dX7_estimate_0 rfl (lv_at hl 0 rfl) ?_
  refine lv_iload_n hx hb dX7_estimate_1 rfl (lv_at hl 1 rfl) ?_
  refine cv_i (As := [.int x]) (rest := []) (b := w) ⟨hx, hb, hml, hown, hts⟩ (c_X7_clock hT (w := w) hw (x := x)) (cwV 1 hts gX7_estimate_X7_clock rfl rfl rfl hdX7_clock_v ⟨Nat.le_of_ble_eq_true rfl, Nat.le_of_ble_eq_true rfl⟩) hN hL (rcv8 hN hT hw.1) rfl rfl hl.1 (Nat.le_of_ble_eq_true rfl) dX7_estimate_2 (Nat.zero_le _) (Nat.zero_le _) (fun r139 H1 locs hL hqr139 => ?_)
  obtain rfl := hqr139
  refine lv_aload_n hx hb dX7_estimate_5 rfl (lv_at hl 0 rfl) ?_
  refine lv_iload_n hx hb dX7_estimate_6 rfl (lv_at hl 1 rfl) ?_
  refine cv_r (As := [.int x]) (rest := [.int r139]) (b := w) ⟨hx, hb, hml, hown, hts⟩ (c_X7_at hT (w := w) hw (x := x)) (cwV 1 hts gX7_estimate_X7_at rfl rfl rfl hdX7_at_v ⟨Nat.le_of_ble_eq_true rfl, Nat.le_of_ble_eq_true rfl⟩) hN hL (rcv8 hN hT hw.1) rfl rfl hl.1 (Nat.le_of_ble_eq_true rfl) dX7_estimate_7 (Nat.zero_le _) (Nat.zero_le _) (fun r140 H1 locs hL hqr140 => ?_)
  obtain ⟨rfl, hqr140⟩ := hqr140
  obtain ⟨hb141, e141, hat141, hk141⟩ := hT.o4 hqr140.1
  obtain ⟨f141_0, f141_1, f141_2, f141_3, f141_4, f141_5, f141_6, f141_7, f141_8, f141_9, rfl, c141_up⟩ := hk141
  have hP : va_P D vwCl [(r140, .inr (3, [.int f141_0, .int f141_1, .int f141_2, .int f141_3, .int f141_4, .int f141_5, .int f141_6, .int f141_7, .int f141_8, .int f141_9]))] _ := va_P.cons hat141 va_P.nil
  refine va_getN (D := D) (ci := 3) (v := .int f141_1) (C := RX3) (T := TX3) (N := 10) hx hb hts iX7_estimate_3 hown hN.1 hP 0 rfl rfl 1 (by decide) (hN.f 29 rfl) (fun _ h9 => h9) rfl dX7_estimate_10 ?_
  refine lv_iadd hx hb dX7_estimate_13 ?_
  refine gn_i (fun x142 => ?_)
  exact en_i hx hb hr hlocks hL rfl (Nat.zero_le _) (Nat.zero_le _) dX7_estimate_14 (rfl)
theorem hdX7_estimate_v : yX7_estimate.cls = RX7 ∧ yX7_estimate.cls ≠ "java/lang/invoke/MethodHandle" ∧ yX7_estimate.cls ≠ "java/lang/invoke/VarHandle" ∧ (parseMethodDescriptor yX7_estimate.desc).map (fun d => d.parameters.length) = some 1 := by decide +kernel
theorem mX7_error_1 : (.fieldLink RX7 68 "OneBeat$World" "conductor" "I" : Cond) ∈ wsX7_error := List.mem_of_getElem? (i := 1) (by decide +kernel)
theorem iX7_error_7 : ∀ w ∈ wsX70, w ∈ wsX7_error := fun w h => List.mem_of_mem_drop (List.mem_of_mem_take ((show wsX70 = (wsX7_error.drop 25).take 16 by decide +kernel) ▸ h))
set_option maxHeartbeats 4000000 in
set_option maxRecDepth 100000 in
theorem c_X7_error {l : Launch} {D : va_G} {cs : Nat → ClassId} {B0 T : Nat} {κ : KM} {H0 : Heap} (hT : WT B0 D cs T κ H0) {w i : Nat} (hw : T2 κ w 8 i) {x : Int32} : KC l yX7_error wsX7_error 3 64 0 0 D cs B0 H0 [.ref w, .int x] (Qi (fun _ H => H = H0)) := by
  refine KC.of cX7_error 2 (some .int) (by decide) rfl (Nat.le_of_ble_eq_true rfl) ?_
  intro p e s m below meth c ls hx hb hr hml hown hts hlocks hin hN hH0 hl
  have hown : s.vm.findClass RX7 = some m.cls := hown
  have hl : lv_has ls 2 [(0, .ref w), (1, .int x)] := hl
  have hL : OkL B0 [] := OkL.nil
  refine lv_aload_n hx hb dX7_error_0 rfl (lv_at hl 0 rfl) ?_
  refine lv_iload_n hx hb dX7_error_1 rfl (lv_at hl 1 rfl) ?_
  refine cv_i (As := [.int x]) (rest := []) (b := w) ⟨hx, hb, hml, hown, hts⟩ (c_X7_estimate hT (w := w) hw (x := x)) (cwV 1 hts gX7_error_X7_estimate rfl rfl rfl hdX7_estimate_v ⟨Nat.le_of_ble_eq_true rfl, Nat.le_of_ble_eq_true rfl⟩) hN hL (rcv8 hN hT hw.1) rfl rfl hl.1 (Nat.le_of_ble_eq_true rfl) dX7_error_2 (Nat.zero_le _) (Nat.zero_le _) (fun r143 H1 locs hL hqr143 => ?_)
  obtain rfl := hqr143
  refine lv_aload_n hx hb dX7_error_5 rfl (lv_at hl 0 rfl) ?_
  refine lv_aload_n hx hb dX7_error_6 rfl (lv_at hl 0 rfl) ?_
  obtain ⟨hb144, e144, hat144, hk144⟩ := hT.o8 hw.1
  obtain ⟨f144_0, f144_1, f144_2, f144_3, f144_4, f144_5, f144_6, f144_7, f144_8, f144_9, f144_10, f144_11, f144_12, f144_13, f144_14, f144_15, rfl, t144_0, c144_su, t144_1, t144_2, t144_3, t144_4, t144_5, c144_tm⟩ := hk144
  rw [hw.2] at t144_1
  rw [hw.2] at t144_2
  rw [hw.2] at t144_3
  rw [hw.2] at t144_4
  rw [hw.2] at t144_5
  have hP : va_P D vwCl [(w, .inr (7, [.ref f144_0, .ref f144_1, .ref f144_2, .ref f144_3, .ref f144_4, .ref f144_5, .long f144_6, .int f144_7, .int f144_8, .int f144_9, .int f144_10, .int f144_11, .int f144_12, .int f144_13, .int f144_14, .int f144_15]))] _ := va_P.cons hat144 va_P.nil
  refine va_get (D := D) (ci := 7) (v := .int f144_8) (C := RX7) (T := TX7) (N := 16) hx hb hts iX7_error_7 hown hN.1 hP 0 rfl rfl 8 (by decide) (hts _ mX7_error_1) (fun _ h9 => h9) rfl dX7_error_7 ?_
  refine cv_i (As := [.int f144_8]) (rest := [.int r143]) (b := w) ⟨hx, hb, hml, hown, hts⟩ (c_X7_clock hT (w := w) hw (x := f144_8)) (cwV 1 hts gX7_error_X7_clock rfl rfl rfl hdX7_clock_v ⟨Nat.le_of_ble_eq_true rfl, Nat.le_of_ble_eq_true rfl⟩) hN hL (rcv8 hN hT hw.1) rfl rfl hl.1 (Nat.le_of_ble_eq_true rfl) dX7_error_10 (Nat.zero_le _) (Nat.zero_le _) (fun r145 H1 locs hL hqr145 => ?_)
  obtain rfl := hqr145
  refine lv_isub hx hb dX7_error_13 ?_
  refine gn_i (fun x146 => ?_)
  exact en_i hx hb hr hlocks hL rfl (Nat.zero_le _) (Nat.zero_le _) dX7_error_14 (rfl)
theorem mX7_delay_1 : (.fieldLink RX7 52 "OneBeat$World" "setup" "LOneBeat$Setup;" : Cond) ∈ wsX7_delay := List.mem_of_getElem? (i := 1) (by decide +kernel)
theorem iX7_delay_7 : ∀ w ∈ wsX70, w ∈ wsX7_delay := fun w h => List.mem_of_mem_drop (List.mem_of_mem_take ((show wsX70 = (wsX7_delay.drop 11).take 16 by decide +kernel) ▸ h))
theorem hdX6_delayOf_v : yX6_delayOf.cls = RX6 ∧ yX6_delayOf.cls ≠ "java/lang/invoke/MethodHandle" ∧ yX6_delayOf.cls ≠ "java/lang/invoke/VarHandle" ∧ (parseMethodDescriptor yX6_delayOf.desc).map (fun d => d.parameters.length) = some 2 := by decide +kernel
set_option maxHeartbeats 4000000 in
set_option maxRecDepth 100000 in
theorem c_X7_delay {l : Launch} {D : va_G} {cs : Nat → ClassId} {B0 T : Nat} {κ : KM} {H0 : Heap} (hT : WT B0 D cs T κ H0) {w i : Nat} (hw : T2 κ w 8 i) {x : Int32} {y : Int32} : KC l yX7_delay wsX7_delay 2 43 0 0 D cs B0 H0 [.ref w, .int x, .int y] (Qi (fun r H => H = H0 ∧ ∃ n, n ≤ 9 ∧ r = nI n)) := by
  refine KC.of cX7_delay 3 (some .int) (by decide) rfl (Nat.le_of_ble_eq_true rfl) ?_
  intro p e s m below meth c ls hx hb hr hml hown hts hlocks hin hN hH0 hl
  have hown : s.vm.findClass RX7 = some m.cls := hown
  have hl : lv_has ls 3 [(0, .ref w), (1, .int x), (2, .int y)] := hl
  have hL : OkL B0 [] := OkL.nil
  refine lv_aload_n hx hb dX7_delay_0 rfl (lv_at hl 0 rfl) ?_
  obtain ⟨hb147, e147, hat147, hk147⟩ := hT.o8 hw.1
  obtain ⟨f147_0, f147_1, f147_2, f147_3, f147_4, f147_5, f147_6, f147_7, f147_8, f147_9, f147_10, f147_11, f147_12, f147_13, f147_14, f147_15, rfl, t147_0, c147_su, t147_1, t147_2, t147_3, t147_4, t147_5, c147_tm⟩ := hk147
  rw [hw.2] at t147_1
  rw [hw.2] at t147_2
  rw [hw.2] at t147_3
  rw [hw.2] at t147_4
  rw [hw.2] at t147_5
  have hP : va_P D vwCl [(w, .inr (7, [.ref f147_0, .ref f147_1, .ref f147_2, .ref f147_3, .ref f147_4, .ref f147_5, .long f147_6, .int f147_7, .int f147_8, .int f147_9, .int f147_10, .int f147_11, .int f147_12, .int f147_13, .int f147_14, .int f147_15]))] _ := va_P.cons hat147 va_P.nil
  refine va_get (D := D) (ci := 7) (v := .ref f147_0) (C := RX7) (T := TX7) (N := 16) hx hb hts iX7_delay_7 hown hN.1 hP 0 rfl rfl 0 (by decide) (hts _ mX7_delay_1) (fun _ h9 => h9) rfl dX7_delay_1 ?_
  refine lv_iload_n hx hb dX7_delay_4 rfl (lv_at hl 1 rfl) ?_
  refine lv_iload_n hx hb dX7_delay_5 rfl (lv_at hl 2 rfl) ?_
  refine cv_i (As := [.int x, .int y]) (rest := []) (b := f147_0) ⟨hx, hb, hml, hown, hts⟩ (c_X6_delayOf hT (w := f147_0) t147_0 (x := x) (y := y)) (cwV 2 hts gX7_delay_X6_delayOf rfl rfl rfl hdX6_delayOf_v ⟨Nat.le_of_ble_eq_true rfl, Nat.le_of_ble_eq_true rfl⟩) hN hL (rcv7 hN hT t147_0.1) rfl rfl hl.1 (Nat.le_of_ble_eq_true rfl) dX7_delay_6 (Nat.zero_le _) (Nat.zero_le _) (fun r148 H1 locs hL hqr148 => ?_)
  obtain ⟨rfl, hqr148⟩ := hqr148
  obtain ⟨f149, d150, n151, h152, rfl, e153⟩ := hqr148
  exact en_i hx hb hr hlocks hL rfl (Nat.zero_le _) (Nat.zero_le _) dX7_delay_9 (⟨rfl, _, (by omega), rfl⟩)
theorem mX7_isCut_1 : (.fieldLink RX7 60 "OneBeat$World" "cuts" "J" : Cond) ∈ wsX7_isCut := List.mem_of_getElem? (i := 1) (by decide +kernel)
theorem iX7_isCut_7 : ∀ w ∈ wsX70, w ∈ wsX7_isCut := fun w h => List.mem_of_mem_drop (List.mem_of_mem_take ((show wsX70 = (wsX7_isCut.drop 6).take 16 by decide +kernel) ▸ h))
set_option maxHeartbeats 4000000 in
set_option maxRecDepth 100000 in
theorem c_X7_isCut {l : Launch} {D : va_G} {cs : Nat → ClassId} {B0 T : Nat} {κ : KM} {H0 : Heap} (hT : WT B0 D cs T κ H0) {w i : Nat} (hw : T2 κ w 8 i) {x : Int32} {y : Int32} : KC l yX7_isCut wsX7_isCut 1 21 0 0 D cs B0 H0 [.ref w, .int x, .int y] (Qi (fun r H => H = H0 ∧ (r = 0 ∨ r = 1))) := by
  refine KC.of cX7_isCut 3 (some .boolean) (by decide) rfl (Nat.le_of_ble_eq_true rfl) ?_
  intro p e s m below meth c ls hx hb hr hml hown hts hlocks hin hN hH0 hl
  have hown : s.vm.findClass RX7 = some m.cls := hown
  have hl : lv_has ls 3 [(0, .ref w), (1, .int x), (2, .int y)] := hl
  have hL : OkL B0 [] := OkL.nil
  refine lv_aload_n hx hb dX7_isCut_0 rfl (lv_at hl 0 rfl) ?_
  obtain ⟨hb154, e154, hat154, hk154⟩ := hT.o8 hw.1
  obtain ⟨f154_0, f154_1, f154_2, f154_3, f154_4, f154_5, f154_6, f154_7, f154_8, f154_9, f154_10, f154_11, f154_12, f154_13, f154_14, f154_15, rfl, t154_0, c154_su, t154_1, t154_2, t154_3, t154_4, t154_5, c154_tm⟩ := hk154
  rw [hw.2] at t154_1
  rw [hw.2] at t154_2
  rw [hw.2] at t154_3
  rw [hw.2] at t154_4
  rw [hw.2] at t154_5
  have hP : va_P D vwCl [(w, .inr (7, [.ref f154_0, .ref f154_1, .ref f154_2, .ref f154_3, .ref f154_4, .ref f154_5, .long f154_6, .int f154_7, .int f154_8, .int f154_9, .int f154_10, .int f154_11, .int f154_12, .int f154_13, .int f154_14, .int f154_15]))] _ := va_P.cons hat154 va_P.nil
  refine va_get (D := D) (ci := 7) (v := .long f154_6) (C := RX7) (T := TX7) (N := 16) hx hb hts iX7_isCut_7 hown hN.1 hP 0 rfl rfl 6 (by decide) (hts _ mX7_isCut_1) (fun _ h9 => h9) rfl dX7_isCut_1 ?_
  refine lv_iload_n hx hb dX7_isCut_4 rfl (lv_at hl 1 rfl) ?_
  refine lv_iload_n hx hb dX7_isCut_5 rfl (lv_at hl 2 rfl) ?_
  refine cs_i (As := [.int x, .int y]) (rest := [.long f154_6]) ⟨hx, hb, hml, hown, hts⟩ (c_X6_place hT (x := x) (y := y)) (va_cwS 2 hts gX7_isCut_X6_place rfl rfl rfl hdX6_place_o ⟨Nat.le_of_ble_eq_true rfl, Nat.le_of_ble_eq_true rfl⟩) hN hL rfl rfl hl.1 (Nat.le_of_ble_eq_true rfl) dX7_isCut_6 (Nat.zero_le _) (Nat.zero_le _) (fun r155 H1 locs hL hqr155 => ?_)
  obtain ⟨rfl, hqr155⟩ := hqr155
  obtain rfl := hqr155
  have hp156 := plc_lt x y
  refine lv_lshr hx hb dX7_isCut_9 rfl ?_
  refine gn_l (fun y157 => ?_)
  refine lv_lconst (v := 1) hx hb dX7_isCut_10 (by decide) ?_
  refine lv_land hx hb dX7_isCut_11 ?_
  refine gn_l (fun y158 => ?_)
  refine lv_lconst (v := 1) hx hb dX7_isCut_12 (by decide) ?_
  refine W.lcmp hx hb dX7_isCut_13 ?_
  refine gn_i (fun x159 => ?_)
  refine lv_if_ne (tgt := 21) hx hb dX7_isCut_14 (by decide) (fun c160 => ?_) (fun c160 => ?_)
  · refine lv_iconst (v := 0) hx hb dX7_isCut_21 (by decide) ?_
    exact en_i hx hb hr hlocks hL rfl (Nat.zero_le _) (Nat.zero_le _) dX7_isCut_22 (⟨rfl, Or.inl rfl⟩)
  · refine lv_iconst (v := 1) hx hb dX7_isCut_17 (by decide) ?_
    refine lv_goto (tgt := 22) hx hb dX7_isCut_18 (by decide) ?_
    exact en_i hx hb hr hlocks hL rfl (Nat.zero_le _) (Nat.zero_le _) dX7_isCut_22 (⟨rfl, Or.inr rfl⟩)
theorem mX7_setCut_1 : (.fieldLink RX7 60 "OneBeat$World" "cuts" "J" : Cond) ∈ wsX7_setCut := List.mem_of_getElem? (i := 1) (by decide +kernel)
theorem iX7_setCut_7 : ∀ w ∈ wsX70, w ∈ wsX7_setCut := fun w h => List.mem_of_mem_drop (List.mem_of_mem_take ((show wsX70 = (wsX7_setCut.drop 7).take 16 by decide +kernel) ▸ h))
theorem mX7_setCut_2 : (.constantLong RX7 125 (-1) : Cond) ∈ wsX7_setCut := List.mem_of_getElem? (i := 2) (by decide +kernel)
set_option maxHeartbeats 4000000 in
set_option maxRecDepth 100000 in
theorem c_X7_setCut {l : Launch} {D : va_G} {cs : Nat → ClassId} {B0 T : Nat} {κ : KM} {H0 : Heap} (hT : WT B0 D cs T κ H0) {w i : Nat} (hw : T2 κ w 8 i) {x : Int32} {y : Int32} {z : Int32} : KC l yX7_setCut wsX7_setCut 1 21 0 0 D cs B0 H0 [.ref w, .int x, .int y, .int z] (Qv (fun H => WT B0 D cs T κ H ∧ Fr B0 [i] κ H0 H)) := by
  refine KC.of cX7_setCut 6 none (by decide) rfl (Nat.le_of_ble_eq_true rfl) ?_
  intro p e s m below meth c ls hx hb hr hml hown hts hlocks hin hN hH0 hl
  have hown : s.vm.findClass RX7 = some m.cls := hown
  have hl : lv_has ls 6 [(0, .ref w), (1, .int x), (2, .int y), (3, .int z)] := hl
  have hL : OkL B0 [] := OkL.nil
  have hF : Fr B0 [i] κ H0 H0 := Fr.rf
  refine lv_lconst (v := 1) hx hb dX7_setCut_0 (by decide) ?_
  refine lv_iload_n hx hb dX7_setCut_1 rfl (lv_at hl 1 rfl) ?_
  refine lv_iload_n hx hb dX7_setCut_2 rfl (lv_at hl 2 rfl) ?_
  refine cs_i (As := [.int x, .int y]) (rest := [.long 1]) ⟨hx, hb, hml, hown, hts⟩ (c_X6_place hT (x := x) (y := y)) (va_cwS 2 hts gX7_setCut_X6_place rfl rfl rfl hdX6_place_o ⟨Nat.le_of_ble_eq_true rfl, Nat.le_of_ble_eq_true rfl⟩) hN hL rfl rfl hl.1 (Nat.le_of_ble_eq_true rfl) dX7_setCut_3 (Nat.zero_le _) (Nat.zero_le _) (fun r161 H1 locs hL hqr161 => ?_)
  obtain ⟨rfl, hqr161⟩ := hqr161
  obtain rfl := hqr161
  have hp162 := plc_lt x y
  refine lv_lshl hx hb dX7_setCut_6 rfl ?_
  refine gn_l (fun y163 => ?_)
  refine lv_lstore (lv' := [(4, .long y163), (0, .ref w), (1, .int x), (2, .int y), (3, .int z)]) hx hb dX7_setCut_7 hl (by decide) rfl (fun ls hl => ?_)
  refine lv_aload_n hx hb dX7_setCut_9 rfl (lv_at hl 1 rfl) ?_
  refine lv_iload_n hx hb dX7_setCut_10 rfl (lv_at hl 4 rfl) ?_
  refine lv_if_eq (tgt := 24) hx hb dX7_setCut_11 (by decide) (fun c164 => ?_) (fun c164 => ?_)
  · refine lv_aload_n hx hb dX7_setCut_24 rfl (lv_at hl 1 rfl) ?_
    obtain ⟨hb165, e165, hat165, hk165⟩ := hT.o8 hw.1
    obtain ⟨f165_0, f165_1, f165_2, f165_3, f165_4, f165_5, f165_6, f165_7, f165_8, f165_9, f165_10, f165_11, f165_12, f165_13, f165_14, f165_15, rfl, t165_0, c165_su, t165_1, t165_2, t165_3, t165_4, t165_5, c165_tm⟩ := hk165
    rw [hw.2] at t165_1
    rw [hw.2] at t165_2
    rw [hw.2] at t165_3
    rw [hw.2] at t165_4
    rw [hw.2] at t165_5
    have hP : va_P D vwCl [(w, .inr (7, [.ref f165_0, .ref f165_1, .ref f165_2, .ref f165_3, .ref f165_4, .ref f165_5, .long f165_6, .int f165_7, .int f165_8, .int f165_9, .int f165_10, .int f165_11, .int f165_12, .int f165_13, .int f165_14, .int f165_15]))] _ := va_P.cons hat165 va_P.nil
    refine va_get (D := D) (ci := 7) (v := .long f165_6) (C := RX7) (T := TX7) (N := 16) hx hb hts iX7_setCut_7 hown hN.1 hP 0 rfl rfl 6 (by decide) (hts _ mX7_setCut_1) (fun _ h9 => h9) rfl dX7_setCut_25 ?_
    refine lv_lload hx hb dX7_setCut_28 (lv_at hl 0 rfl) ?_
    refine lv_ldc2 (v := (-1)) hx hb hown (hts _ mX7_setCut_2) dX7_setCut_30 ?_
    refine lv_lxor hx hb dX7_setCut_33 ?_
    refine gn_l (fun y166 => ?_)
    refine lv_land hx hb dX7_setCut_34 ?_
    refine gn_l (fun y167 => ?_)
    have hB : Bx B0 D _ [(w, .inr (7, [.ref f165_0, .ref f165_1, .ref f165_2, .ref f165_3, .ref f165_4, .ref f165_5, .long f165_6, .int f165_7, .int f165_8, .int f165_9, .int f165_10, .int f165_11, .int f165_12, .int f165_13, .int f165_14, .int f165_15]))] [] _ _ := Bx.of (fun a => (κ a).1) hL hP (fa_c hb165 fa_n) (by simp only [List.map_cons, List.map_nil, hw.1]; decide)
    refine b_put (D := D) (ci := 7) (v := .long y167) (ty := .long) (C := RX7) (T := TX7) (N := 16) hx hb hts iX7_setCut_7 tyX7 tyX7_ok nmX7 hown hN hB 0 rfl rfl 6 (by decide) (hts _ mX7_setCut_1) (fun _ h9 => h9) rfl (by decide +kernel) rfl rfl (Nat.le_of_ble_eq_true rfl) (.inl rfl) dX7_setCut_35 (fun H locs hB => ?_)
    have hB : Bx B0 D _ [(w, .inr (7, [.ref f165_0, .ref f165_1, .ref f165_2, .ref f165_3, .ref f165_4, .ref f165_5, .long y167, .int f165_7, .int f165_8, .int f165_9, .int f165_10, .int f165_11, .int f165_12, .int f165_13, .int f165_14, .int f165_15]))] [w] _ _ := hB
    have hT : WT B0 D cs T κ _ := hT.close hB ⟨⟨0, _, rfl, ok_8 hw.1 ⟨_, _, _, _, _, _, _, _, _, _, _, _, _, _, _, _, rfl, t165_0, c165_su, ⟨t165_1.1, by rw [hw.2]; exact t165_1.2⟩, ⟨t165_2.1, by rw [hw.2]; exact t165_2.2⟩, ⟨t165_3.1, by rw [hw.2]; exact t165_3.2⟩, ⟨t165_4.1, by rw [hw.2]; exact t165_4.2⟩, ⟨t165_5.1, by rw [hw.2]; exact t165_5.2⟩, c165_tm⟩⟩, trivial⟩
    have hF : Fr B0 [i] κ H0 _ := hF.close hB (fa_c (by simp [hw.2]) fa_n)
    have hL : OkL B0 _ := hB.2.2.2.2.2
    have hP : va_P D vwCl [(w, .inr (7, [.ref f165_0, .ref f165_1, .ref f165_2, .ref f165_3, .ref f165_4, .ref f165_5, .long y167, .int f165_7, .int f165_8, .int f165_9, .int f165_10, .int f165_11, .int f165_12, .int f165_13, .int f165_14, .int f165_15]))] _ := hB.1
    exact en_v hx hb hr hlocks hL (Nat.zero_le _) (Nat.zero_le _) dX7_setCut_38 (⟨hT, hF⟩)
  · refine lv_aload_n hx hb dX7_setCut_14 rfl (lv_at hl 1 rfl) ?_
    obtain ⟨hb168, e168, hat168, hk168⟩ := hT.o8 hw.1
    obtain ⟨f168_0, f168_1, f168_2, f168_3, f168_4, f168_5, f168_6, f168_7, f168_8, f168_9, f168_10, f168_11, f168_12, f168_13, f168_14, f168_15, rfl, t168_0, c168_su, t168_1, t168_2, t168_3, t168_4, t168_5, c168_tm⟩ := hk168
    rw [hw.2] at t168_1
    rw [hw.2] at t168_2
    rw [hw.2] at t168_3
    rw [hw.2] at t168_4
    rw [hw.2] at t168_5
    have hP : va_P D vwCl [(w, .inr (7, [.ref f168_0, .ref f168_1, .ref f168_2, .ref f168_3, .ref f168_4, .ref f168_5, .long f168_6, .int f168_7, .int f168_8, .int f168_9, .int f168_10, .int f168_11, .int f168_12, .int f168_13, .int f168_14, .int f168_15]))] _ := va_P.cons hat168 va_P.nil
    refine va_get (D := D) (ci := 7) (v := .long f168_6) (C := RX7) (T := TX7) (N := 16) hx hb hts iX7_setCut_7 hown hN.1 hP 0 rfl rfl 6 (by decide) (hts _ mX7_setCut_1) (fun _ h9 => h9) rfl dX7_setCut_15 ?_
    refine lv_lload hx hb dX7_setCut_18 (lv_at hl 0 rfl) ?_
    refine lv_lor hx hb dX7_setCut_20 ?_
    refine gn_l (fun y169 => ?_)
    refine lv_goto (tgt := 35) hx hb dX7_setCut_21 (by decide) ?_
    have hB : Bx B0 D _ [(w, .inr (7, [.ref f168_0, .ref f168_1, .ref f168_2, .ref f168_3, .ref f168_4, .ref f168_5, .long f168_6, .int f168_7, .int f168_8, .int f168_9, .int f168_10, .int f168_11, .int f168_12, .int f168_13, .int f168_14, .int f168_15]))] [] _ _ := Bx.of (fun a => (κ a).1) hL hP (fa_c hb168 fa_n) (by simp only [List.map_cons, List.map_nil, hw.1]; decide)
    refine b_put (D := D) (ci := 7) (v := .long y169) (ty := .long) (C := RX7) (T := TX7) (N := 16) hx hb hts iX7_setCut_7 tyX7 tyX7_ok nmX7 hown hN hB 0 rfl rfl 6 (by decide) (hts _ mX7_setCut_1) (fun _ h9 => h9) rfl (by decide +kernel) rfl rfl (Nat.le_of_ble_eq_true rfl) (.inl rfl) dX7_setCut_35 (fun H locs hB => ?_)
    have hB : Bx B0 D _ [(w, .inr (7, [.ref f168_0, .ref f168_1, .ref f168_2, .ref f168_3, .ref f168_4, .ref f168_5, .long y169, .int f168_7, .int f168_8, .int f168_9, .int f168_10, .int f168_11, .int f168_12, .int f168_13, .int f168_14, .int f168_15]))] [w] _ _ := hB
    have hT : WT B0 D cs T κ _ := hT.close hB ⟨⟨0, _, rfl, ok_8 hw.1 ⟨_, _, _, _, _, _, _, _, _, _, _, _, _, _, _, _, rfl, t168_0, c168_su, ⟨t168_1.1, by rw [hw.2]; exact t168_1.2⟩, ⟨t168_2.1, by rw [hw.2]; exact t168_2.2⟩, ⟨t168_3.1, by rw [hw.2]; exact t168_3.2⟩, ⟨t168_4.1, by rw [hw.2]; exact t168_4.2⟩, ⟨t168_5.1, by rw [hw.2]; exact t168_5.2⟩, c168_tm⟩⟩, trivial⟩
    have hF : Fr B0 [i] κ H0 _ := hF.close hB (fa_c (by simp [hw.2]) fa_n)
    have hL : OkL B0 _ := hB.2.2.2.2.2
    have hP : va_P D vwCl [(w, .inr (7, [.ref f168_0, .ref f168_1, .ref f168_2, .ref f168_3, .ref f168_4, .ref f168_5, .long y169, .int f168_7, .int f168_8, .int f168_9, .int f168_10, .int f168_11, .int f168_12, .int f168_13, .int f168_14, .int f168_15]))] _ := hB.1
    exact en_v hx hb hr hlocks hL (Nat.zero_le _) (Nat.zero_le _) dX7_setCut_38 (⟨hT, hF⟩)
theorem mX7_countUp_1 : (.fieldLink RX7 52 "OneBeat$World" "setup" "LOneBeat$Setup;" : Cond) ∈ wsX7_countUp := List.mem_of_getElem? (i := 1) (by decide +kernel)
theorem iX7_countUp_7 : ∀ w ∈ wsX70, w ∈ wsX7_countUp := fun w h => List.mem_of_mem_drop (List.mem_of_mem_take ((show wsX70 = (wsX7_countUp.drop 8).take 16 by decide +kernel) ▸ h))
theorem iX7_countUp_6 : ∀ w ∈ wsX60, w ∈ wsX7_countUp := fun w h => List.mem_of_mem_drop (List.mem_of_mem_take ((show wsX60 = (wsX7_countUp.drop 24).take 8 by decide +kernel) ▸ h))
theorem iX7_countUp_3 : ∀ w ∈ wsX30, w ∈ wsX7_countUp := fun w h => List.mem_of_mem_drop (List.mem_of_mem_take ((show wsX30 = (wsX7_countUp.drop 32).take 10 by decide +kernel) ▸ h))
set_option maxHeartbeats 4000000 in
set_option maxRecDepth 100000 in
theorem c_X7_countUp {l : Launch} {D : va_G} {cs : Nat → ClassId} {B0 T : Nat} {κ : KM} {H0 : Heap} (hT : WT B0 D cs T κ H0) {w i : Nat} (hw : T2 κ w 8 i) : KC l yX7_countUp wsX7_countUp 1 21 0 0 D cs B0 H0 [.ref w] (Qi (fun _ H => H = H0)) := by
  refine KC.of cX7_countUp 3 (some .int) (by decide) rfl (Nat.le_of_ble_eq_true rfl) ?_
  intro p e s m below meth c ls hx hb hr hml hown hts hlocks hin hN hH0 hl
  have hown : s.vm.findClass RX7 = some m.cls := hown
  have hl : lv_has ls 3 [(0, .ref w)] := hl
  have hL : OkL B0 [] := OkL.nil
  refine lv_iconst (v := 0) hx hb dX7_countUp_0 (by decide) ?_
  refine lv_istore_n (lv' := [(1, .int 0), (0, .ref w)]) hx hb dX7_countUp_1 rfl hl (by decide) rfl (fun ls hl => ?_)
  refine lv_iconst (v := 0) hx hb dX7_countUp_2 (by decide) ?_
  refine lv_istore_n (lv' := [(2, .int 0), (1, .int 0), (0, .ref w)]) hx hb dX7_countUp_3 rfl hl (by decide) rfl (fun ls hl => ?_)
  refine lp_r (α := Nat × Int32) (nL := 3) (fun a9 => 8 - a9.1) (fun a9 => (a9.1 ≤ 8)) (fun a9 => [(2, .int (nI a9.1)), (1, .int a9.2), (0, .ref w)]) ?_ (0, 0) _ (by omega) (lv_sub hl [0, 1, 2] rfl)
  rintro ⟨p, x⟩ ls ih170 hp hl
  have hl : lv_has ls 3 [(2, .int (nI p)), (1, .int x), (0, .ref w)] := hl
  have hp : p ≤ 8 := hp
  refine lv_iload_n hx hb dX7_countUp_4 rfl (lv_at hl 0 rfl) ?_
  refine lv_aload_n hx hb dX7_countUp_5 rfl (lv_at hl 2 rfl) ?_
  obtain ⟨hb171, e171, hat171, hk171⟩ := hT.o8 hw.1
  obtain ⟨f171_0, f171_1, f171_2, f171_3, f171_4, f171_5, f171_6, f171_7, f171_8, f171_9, f171_10, f171_11, f171_12, f171_13, f171_14, f171_15, rfl, t171_0, c171_su, t171_1, t171_2, t171_3, t171_4, t171_5, c171_tm⟩ := hk171
  rw [hw.2] at t171_1
  rw [hw.2] at t171_2
  rw [hw.2] at t171_3
  rw [hw.2] at t171_4
  rw [hw.2] at t171_5
  have hP : va_P D vwCl [(w, .inr (7, [.ref f171_0, .ref f171_1, .ref f171_2, .ref f171_3, .ref f171_4, .ref f171_5, .long f171_6, .int f171_7, .int f171_8, .int f171_9, .int f171_10, .int f171_11, .int f171_12, .int f171_13, .int f171_14, .int f171_15]))] _ := va_P.cons hat171 va_P.nil
  refine va_get (D := D) (ci := 7) (v := .ref f171_0) (C := RX7) (T := TX7) (N := 16) hx hb hts iX7_countUp_7 hown hN.1 hP 0 rfl rfl 0 (by decide) (hts _ mX7_countUp_1) (fun _ h9 => h9) rfl dX7_countUp_6 ?_
  obtain ⟨hb172, e172, hat172, hk172⟩ := hT.o7 t171_0.1
  obtain ⟨f172_0, f172_1, f172_2, f172_3, f172_4, f172_5, f172_6, f172_7, rfl, c172_0, c172_3, t172_4, t172_5, t172_6, t172_7⟩ := hk172
  rw [t171_0.2] at t172_4
  rw [t171_0.2] at t172_5
  rw [t171_0.2] at t172_6
  rw [t171_0.2] at t172_7
  have hP : va_P D vwCl [(f171_0, .inr (6, [.int (nI f172_0), .int f172_1, .int f172_2, f172_3, .ref f172_4, .ref f172_5, .ref f172_6, .ref f172_7])), (w, .inr (7, [.ref f171_0, .ref f171_1, .ref f171_2, .ref f171_3, .ref f171_4, .ref f171_5, .long f171_6, .int f171_7, .int f171_8, .int f171_9, .int f171_10, .int f171_11, .int f171_12, .int f171_13, .int f171_14, .int f171_15]))] _ := va_P.cons hat172 hP
  refine va_getN (D := D) (ci := 6) (v := .int (nI f172_0)) (C := RX6) (T := TX6) (N := 8) hx hb hts iX7_countUp_6 hown hN.1 hP 0 rfl rfl 0 (by decide) (hN.f 39 rfl) (fun _ h9 => h9) rfl dX7_countUp_9 ?_
  refine lv_icmp_ge (tgt := 35) hx hb dX7_countUp_12 (by decide) (fun c173 => ?_) (fun c173 => ?_)
  · have c173 : f172_0 ≤ p := (nI_leI (a := f172_0) (b := p) (by omega) (by omega)).mp c173
    refine lv_iload_n hx hb dX7_countUp_35 rfl (lv_at hl 1 rfl) ?_
    exact en_i hx hb hr hlocks hL rfl (Nat.zero_le _) (Nat.zero_le _) dX7_countUp_36 (rfl)
  · have c173 : ¬ f172_0 ≤ p := fun h9 => c173 ((nI_leI (a := f172_0) (b := p) (by omega) (by omega)).mpr h9)
    refine lv_aload_n hx hb dX7_countUp_15 rfl (lv_at hl 2 rfl) ?_
    refine lv_iload_n hx hb dX7_countUp_16 rfl (lv_at hl 0 rfl) ?_
    refine cv_r (As := [.int (nI p)]) (rest := []) (b := w) ⟨hx, hb, hml, hown, hts⟩ (c_X7_at hT (w := w) hw (x := (nI p))) (cwV 1 hts gX7_countUp_X7_at rfl rfl rfl hdX7_at_v ⟨Nat.le_of_ble_eq_true rfl, Nat.le_of_ble_eq_true rfl⟩) hN hL (rcv8 hN hT hw.1) rfl rfl hl.1 (Nat.le_of_ble_eq_true rfl) dX7_countUp_17 (Nat.zero_le _) (Nat.zero_le _) (fun r174 H1 locs hL hqr174 => ?_)
    obtain ⟨rfl, hqr174⟩ := hqr174
    obtain ⟨hb175, e175, hat175, hk175⟩ := hT.o4 hqr174.1
    obtain ⟨f175_0, f175_1, f175_2, f175_3, f175_4, f175_5, f175_6, f175_7, f175_8, f175_9, rfl, c175_up⟩ := hk175
    have hP : va_P D vwCl [(r174, .inr (3, [.int f175_0, .int f175_1, .int f175_2, .int f175_3, .int f175_4, .int f175_5, .int f175_6, .int f175_7, .int f175_8, .int f175_9])), (f171_0, .inr (6, [.int (nI f172_0), .int f172_1, .int f172_2, f172_3, .ref f172_4, .ref f172_5, .ref f172_6, .ref f172_7])), (w, .inr (7, [.ref f171_0, .ref f171_1, .ref f171_2, .ref f171_3, .ref f171_4, .ref f171_5, .long f171_6, .int f171_7, .int f171_8, .int f171_9, .int f171_10, .int f171_11, .int f171_12, .int f171_13, .int f171_14, .int f171_15]))] _ := va_P.cons hat175 hP
    refine va_getN (D := D) (ci := 3) (v := .int f175_0) (C := RX3) (T := TX3) (N := 10) hx hb hts iX7_countUp_3 hown hN.1 hP 0 rfl rfl 0 (by decide) (hN.f 27 rfl) (fun _ h9 => h9) rfl dX7_countUp_20 ?_
    refine lv_if_eq (tgt := 29) hx hb dX7_countUp_23 (by decide) (fun c176 => ?_) (fun c176 => ?_)
    · refine lv_iinc (v := (nI (p + 1))) (lv' := [(2, .int (nI (p + 1))), (1, .int x), (0, .ref w)]) hx hb dX7_countUp_29 hl (k := 0) rfl (nI_add _ 1) (by decide) rfl (fun ls hl => ?_)
      refine lv_goto (tgt := 4) hx hb dX7_countUp_32 (by decide) ?_
      exact ih170 ((p + 1), x) _ (by show 8 - ((p + 1)) < 8 - p; omega) (by omega) (lv_sub hl [0, 1, 2] rfl)
    · refine lv_iinc (v := (x + 1)) (lv' := [(1, .int (x + 1)), (2, .int (nI p)), (0, .ref w)]) hx hb dX7_countUp_26 hl (k := 1) rfl (rfl) (by decide) rfl (fun ls hl => ?_)
      refine lv_iinc (v := (nI (p + 1))) (lv' := [(2, .int (nI (p + 1))), (1, .int (x + 1)), (0, .ref w)]) hx hb dX7_countUp_29 hl (k := 1) rfl (nI_add _ 1) (by decide) rfl (fun ls hl => ?_)
      refine lv_goto (tgt := 4) hx hb dX7_countUp_32 (by decide) ?_
      exact ih170 ((p + 1), (x + 1)) _ (by show 8 - ((p + 1)) < 8 - p; omega) (by omega) (lv_sub hl [0, 1, 2] rfl)
theorem iX7_isFirstWithItsSong_3 : ∀ w ∈ wsX30, w ∈ wsX7_isFirstWithItsSong := fun w h => List.mem_of_mem_drop (List.mem_of_mem_take ((show wsX30 = (wsX7_isFirstWithItsSong.drop 7).take 10 by decide +kernel) ▸ h))
set_option maxHeartbeats 4000000 in
set_option maxRecDepth 100000 in
theorem c_X7_isFirstWithItsSong {l : Launch} {D : va_G} {cs : Nat → ClassId} {B0 T : Nat} {κ : KM} {H0 : Heap} (hT : WT B0 D cs T κ H0) {w i : Nat} (hw : T2 κ w 8 i) {n : Nat} (hn : n ≤ 8) : KC l yX7_isFirstWithItsSong wsX7_isFirstWithItsSong 1 21 0 0 D cs B0 H0 [.ref w, .int (nI n)] (Qi (fun r H => H = H0 ∧ (r = 0 ∨ r = 1))) := by
  refine KC.of cX7_isFirstWithItsSong 3 (some .boolean) (by decide) rfl (Nat.le_of_ble_eq_true rfl) ?_
  intro p e s m below meth c ls hx hb hr hml hown hts hlocks hin hN hH0 hl
  have hown : s.vm.findClass RX7 = some m.cls := hown
  have hl : lv_has ls 3 [(0, .ref w), (1, .int (nI n))] := hl
  have hL : OkL B0 [] := OkL.nil
  refine lv_iconst (v := 0) hx hb dX7_isFirstWithItsSong_0 (by decide) ?_
  refine lv_istore_n (lv' := [(2, .int 0), (0, .ref w), (1, .int (nI n))]) hx hb dX7_isFirstWithItsSong_1 rfl hl (by decide) rfl (fun ls hl => ?_)
  refine lp_r (α := Nat) (nL := 3) (fun a9 => 8 - a9) (fun a9 => (a9 ≤ 8)) (fun a9 => [(2, .int (nI a9)), (0, .ref w), (1, .int (nI n))]) ?_ 0 _ (by omega) (lv_sub hl [0, 1, 2] rfl)
  rintro q ls ih177 hq hl
  have hl : lv_has ls 3 [(2, .int (nI q)), (0, .ref w), (1, .int (nI n))] := hl
  have hq : q ≤ 8 := hq
  refine lv_iload_n hx hb dX7_isFirstWithItsSong_2 rfl (lv_at hl 0 rfl) ?_
  refine lv_iload_n hx hb dX7_isFirstWithItsSong_3 rfl (lv_at hl 2 rfl) ?_
  refine lv_icmp_ge (tgt := 45) hx hb dX7_isFirstWithItsSong_4 (by decide) (fun c178 => ?_) (fun c178 => ?_)
  · have c178 : n ≤ q := (nI_leI (a := n) (b := q) (by omega) (by omega)).mp c178
    refine lv_iconst (v := 1) hx hb dX7_isFirstWithItsSong_45 (by decide) ?_
    exact en_i hx hb hr hlocks hL rfl (Nat.zero_le _) (Nat.zero_le _) dX7_isFirstWithItsSong_46 (⟨rfl, Or.inr rfl⟩)
  · have c178 : ¬ n ≤ q := fun h9 => c178 ((nI_leI (a := n) (b := q) (by omega) (by omega)).mpr h9)
    refine lv_aload_n hx hb dX7_isFirstWithItsSong_7 rfl (lv_at hl 1 rfl) ?_
    refine lv_iload_n hx hb dX7_isFirstWithItsSong_8 rfl (lv_at hl 0 rfl) ?_
    refine cv_r (As := [.int (nI q)]) (rest := []) (b := w) ⟨hx, hb, hml, hown, hts⟩ (c_X7_at hT (w := w) hw (x := (nI q))) (cwV 1 hts gX7_isFirstWithItsSong_X7_at rfl rfl rfl hdX7_at_v ⟨Nat.le_of_ble_eq_true rfl, Nat.le_of_ble_eq_true rfl⟩) hN hL (rcv8 hN hT hw.1) rfl rfl hl.1 (Nat.le_of_ble_eq_true rfl) dX7_isFirstWithItsSong_9 (Nat.zero_le _) (Nat.zero_le _) (fun r179 H1 locs hL hqr179 => ?_)
    obtain ⟨rfl, hqr179⟩ := hqr179
    obtain ⟨hb180, e180, hat180, hk180⟩ := hT.o4 hqr179.1
    obtain ⟨f180_0, f180_1, f180_2, f180_3, f180_4, f180_5, f180_6, f180_7, f180_8, f180_9, rfl, c180_up⟩ := hk180
    have hP : va_P D vwCl [(r179, .inr (3, [.int f180_0, .int f180_1, .int f180_2, .int f180_3, .int f180_4, .int f180_5, .int f180_6, .int f180_7, .int f180_8, .int f180_9]))] _ := va_P.cons hat180 va_P.nil
    refine va_getN (D := D) (ci := 3) (v := .int f180_0) (C := RX3) (T := TX3) (N := 10) hx hb hts iX7_isFirstWithItsSong_3 hown hN.1 hP 0 rfl rfl 0 (by decide) (hN.f 27 rfl) (fun _ h9 => h9) rfl dX7_isFirstWithItsSong_12 ?_
    refine lv_if_eq (tgt := 39) hx hb dX7_isFirstWithItsSong_15 (by decide) (fun c181 => ?_) (fun c181 => ?_)
    · refine lv_iinc (v := (nI (q + 1))) (lv' := [(2, .int (nI (q + 1))), (0, .ref w), (1, .int (nI n))]) hx hb dX7_isFirstWithItsSong_39 hl (k := 0) rfl (nI_add _ 1) (by decide) rfl (fun ls hl => ?_)
      refine lv_goto (tgt := 2) hx hb dX7_isFirstWithItsSong_42 (by decide) ?_
      exact ih177 (q + 1) _ (by show 8 - ((q + 1)) < 8 - q; omega) (by omega) (lv_sub hl [0, 1, 2] rfl)
    · refine lv_aload_n hx hb dX7_isFirstWithItsSong_18 rfl (lv_at hl 1 rfl) ?_
      refine lv_iload_n hx hb dX7_isFirstWithItsSong_19 rfl (lv_at hl 0 rfl) ?_
      refine cv_r (As := [.int (nI q)]) (rest := []) (b := w) ⟨hx, hb, hml, hown, hts⟩ (c_X7_at hT (w := w) hw (x := (nI q))) (cwV 1 hts gX7_isFirstWithItsSong_X7_at rfl rfl rfl hdX7_at_v ⟨Nat.le_of_ble_eq_true rfl, Nat.le_of_ble_eq_true rfl⟩) hN hL (rcv8 hN hT hw.1) rfl rfl hl.1 (Nat.le_of_ble_eq_true rfl) dX7_isFirstWithItsSong_20 (Nat.zero_le _) (Nat.zero_le _) (fun r182 H1 locs hL hqr182 => ?_)
      obtain ⟨rfl, hqr182⟩ := hqr182
      obtain ⟨hb183, e183, hat183, hk183⟩ := hT.o4 hqr182.1
      obtain ⟨f183_0, f183_1, f183_2, f183_3, f183_4, f183_5, f183_6, f183_7, f183_8, f183_9, rfl, c183_up⟩ := hk183
      have hP : va_P D vwCl [(r182, .inr (3, [.int f183_0, .int f183_1, .int f183_2, .int f183_3, .int f183_4, .int f183_5, .int f183_6, .int f183_7, .int f183_8, .int f183_9])), (r179, .inr (3, [.int f180_0, .int f180_1, .int f180_2, .int f180_3, .int f180_4, .int f180_5, .int f180_6, .int f180_7, .int f180_8, .int f180_9]))] _ := va_P.cons hat183 hP
      refine va_getN (D := D) (ci := 3) (v := .int f183_2) (C := RX3) (T := TX3) (N := 10) hx hb hts iX7_isFirstWithItsSong_3 hown hN.1 hP 0 rfl rfl 2 (by decide) (hN.f 30 rfl) (fun _ h9 => h9) rfl dX7_isFirstWithItsSong_23 ?_
      refine lv_aload_n hx hb dX7_isFirstWithItsSong_26 rfl (lv_at hl 1 rfl) ?_
      refine lv_iload_n hx hb dX7_isFirstWithItsSong_27 rfl (lv_at hl 2 rfl) ?_
      refine cv_r (As := [.int (nI n)]) (rest := [.int f183_2]) (b := w) ⟨hx, hb, hml, hown, hts⟩ (c_X7_at hT (w := w) hw (x := (nI n))) (cwV 1 hts gX7_isFirstWithItsSong_X7_at rfl rfl rfl hdX7_at_v ⟨Nat.le_of_ble_eq_true rfl, Nat.le_of_ble_eq_true rfl⟩) hN hL (rcv8 hN hT hw.1) rfl rfl hl.1 (Nat.le_of_ble_eq_true rfl) dX7_isFirstWithItsSong_28 (Nat.zero_le _) (Nat.zero_le _) (fun r184 H1 locs hL hqr184 => ?_)
      obtain ⟨rfl, hqr184⟩ := hqr184
      obtain ⟨hb185, e185, hat185, hk185⟩ := hT.o4 hqr184.1
      obtain ⟨f185_0, f185_1, f185_2, f185_3, f185_4, f185_5, f185_6, f185_7, f185_8, f185_9, rfl, c185_up⟩ := hk185
      have hP : va_P D vwCl [(r184, .inr (3, [.int f185_0, .int f185_1, .int f185_2, .int f185_3, .int f185_4, .int f185_5, .int f185_6, .int f185_7, .int f185_8, .int f185_9])), (r182, .inr (3, [.int f183_0, .int f183_1, .int f183_2, .int f183_3, .int f183_4, .int f183_5, .int f183_6, .int f183_7, .int f183_8, .int f183_9])), (r179, .inr (3, [.int f180_0, .int f180_1, .int f180_2, .int f180_3, .int f180_4, .int f180_5, .int f180_6, .int f180_7, .int f180_8, .int f180_9]))] _ := va_P.cons hat185 hP
      refine va_getN (D := D) (ci := 3) (v := .int f185_2) (C := RX3) (T := TX3) (N := 10) hx hb hts iX7_isFirstWithItsSong_3 hown hN.1 hP 0 rfl rfl 2 (by decide) (hN.f 30 rfl) (fun _ h9 => h9) rfl dX7_isFirstWithItsSong_31 ?_
      refine lv_icmp_ne (tgt := 39) hx hb dX7_isFirstWithItsSong_34 (by decide) (fun c186 => ?_) (fun c186 => ?_)
      · refine lv_iinc (v := (nI (q + 1))) (lv' := [(2, .int (nI (q + 1))), (0, .ref w), (1, .int (nI n))]) hx hb dX7_isFirstWithItsSong_39 hl (k := 0) rfl (nI_add _ 1) (by decide) rfl (fun ls hl => ?_)
        refine lv_goto (tgt := 2) hx hb dX7_isFirstWithItsSong_42 (by decide) ?_
        exact ih177 (q + 1) _ (by show 8 - ((q + 1)) < 8 - q; omega) (by omega) (lv_sub hl [0, 1, 2] rfl)
      · refine lv_iconst (v := 0) hx hb dX7_isFirstWithItsSong_37 (by decide) ?_
        exact en_i hx hb hr hlocks hL rfl (Nat.zero_le _) (Nat.zero_le _) dX7_isFirstWithItsSong_38 (⟨rfl, Or.inl rfl⟩)
theorem mX7_countSongs_1 : (.fieldLink RX7 52 "OneBeat$World" "setup" "LOneBeat$Setup;" : Cond) ∈ wsX7_countSongs := List.mem_of_getElem? (i := 1) (by decide +kernel)
theorem iX7_countSongs_7 : ∀ w ∈ wsX70, w ∈ wsX7_countSongs := fun w h => List.mem_of_mem_drop (List.mem_of_mem_take ((show wsX70 = (wsX7_countSongs.drop 12).take 16 by decide +kernel) ▸ h))
theorem iX7_countSongs_6 : ∀ w ∈ wsX60, w ∈ wsX7_countSongs := fun w h => List.mem_of_mem_drop (List.mem_of_mem_take ((show wsX60 = (wsX7_countSongs.drop 28).take 8 by decide +kernel) ▸ h))
theorem iX7_countSongs_3 : ∀ w ∈ wsX30, w ∈ wsX7_countSongs := fun w h => List.mem_of_mem_drop (List.mem_of_mem_take ((show wsX30 = (wsX7_countSongs.drop 36).take 10 by decide +kernel) ▸ h))
theorem hdX7_isFirstWithItsSong_v : yX7_isFirstWithItsSong.cls = RX7 ∧ yX7_isFirstWithItsSong.cls ≠ "java/lang/invoke/MethodHandle" ∧ yX7_isFirstWithItsSong.cls ≠ "java/lang/invoke/VarHandle" ∧ (parseMethodDescriptor yX7_isFirstWithItsSong.desc).map (fun d => d.parameters.length) = some 1 := by decide +kernel
set_option maxHeartbeats 4000000 in
set_option maxRecDepth 100000 in
theorem c_X7_countSongs {l : Launch} {D : va_G} {cs : Nat → ClassId} {B0 T : Nat} {κ : KM} {H0 : Heap} (hT : WT B0 D cs T κ H0) {w i : Nat} (hw : T2 κ w 8 i) : KC l yX7_countSongs wsX7_countSongs 2 43 0 0 D cs B0 H0 [.ref w] (Qi (fun _ H => H = H0)) := by
  refine KC.of cX7_countSongs 3 (some .int) (by decide) rfl (Nat.le_of_ble_eq_true rfl) ?_
  intro p e s m below meth c ls hx hb hr hml hown hts hlocks hin hN hH0 hl
  have hown : s.vm.findClass RX7 = some m.cls := hown
  have hl : lv_has ls 3 [(0, .ref w)] := hl
  have hL : OkL B0 [] := OkL.nil
  refine lv_iconst (v := 0) hx hb dX7_countSongs_0 (by decide) ?_
  refine lv_istore_n (lv' := [(1, .int 0), (0, .ref w)]) hx hb dX7_countSongs_1 rfl hl (by decide) rfl (fun ls hl => ?_)
  refine lv_iconst (v := 0) hx hb dX7_countSongs_2 (by decide) ?_
  refine lv_istore_n (lv' := [(2, .int 0), (1, .int 0), (0, .ref w)]) hx hb dX7_countSongs_3 rfl hl (by decide) rfl (fun ls hl => ?_)
  refine lp_r (α := Nat × Int32) (nL := 3) (fun a9 => 8 - a9.1) (fun a9 => (a9.1 ≤ 8)) (fun a9 => [(2, .int (nI a9.1)), (1, .int a9.2), (0, .ref w)]) ?_ (0, 0) _ (by omega) (lv_sub hl [0, 1, 2] rfl)
  rintro ⟨p, x⟩ ls ih187 hp hl
  have hl : lv_has ls 3 [(2, .int (nI p)), (1, .int x), (0, .ref w)] := hl
  have hp : p ≤ 8 := hp
  refine lv_iload_n hx hb dX7_countSongs_4 rfl (lv_at hl 0 rfl) ?_
  refine lv_aload_n hx hb dX7_countSongs_5 rfl (lv_at hl 2 rfl) ?_
  obtain ⟨hb188, e188, hat188, hk188⟩ := hT.o8 hw.1
  obtain ⟨f188_0, f188_1, f188_2, f188_3, f188_4, f188_5, f188_6, f188_7, f188_8, f188_9, f188_10, f188_11, f188_12, f188_13, f188_14, f188_15, rfl, t188_0, c188_su, t188_1, t188_2, t188_3, t188_4, t188_5, c188_tm⟩ := hk188
  rw [hw.2] at t188_1
  rw [hw.2] at t188_2
  rw [hw.2] at t188_3
  rw [hw.2] at t188_4
  rw [hw.2] at t188_5
  have hP : va_P D vwCl [(w, .inr (7, [.ref f188_0, .ref f188_1, .ref f188_2, .ref f188_3, .ref f188_4, .ref f188_5, .long f188_6, .int f188_7, .int f188_8, .int f188_9, .int f188_10, .int f188_11, .int f188_12, .int f188_13, .int f188_14, .int f188_15]))] _ := va_P.cons hat188 va_P.nil
  refine va_get (D := D) (ci := 7) (v := .ref f188_0) (C := RX7) (T := TX7) (N := 16) hx hb hts iX7_countSongs_7 hown hN.1 hP 0 rfl rfl 0 (by decide) (hts _ mX7_countSongs_1) (fun _ h9 => h9) rfl dX7_countSongs_6 ?_
  obtain ⟨hb189, e189, hat189, hk189⟩ := hT.o7 t188_0.1
  obtain ⟨f189_0, f189_1, f189_2, f189_3, f189_4, f189_5, f189_6, f189_7, rfl, c189_0, c189_3, t189_4, t189_5, t189_6, t189_7⟩ := hk189
  rw [t188_0.2] at t189_4
  rw [t188_0.2] at t189_5
  rw [t188_0.2] at t189_6
  rw [t188_0.2] at t189_7
  have hP : va_P D vwCl [(f188_0, .inr (6, [.int (nI f189_0), .int f189_1, .int f189_2, f189_3, .ref f189_4, .ref f189_5, .ref f189_6, .ref f189_7])), (w, .inr (7, [.ref f188_0, .ref f188_1, .ref f188_2, .ref f188_3, .ref f188_4, .ref f188_5, .long f188_6, .int f188_7, .int f188_8, .int f188_9, .int f188_10, .int f188_11, .int f188_12, .int f188_13, .int f188_14, .int f188_15]))] _ := va_P.cons hat189 hP
  refine va_getN (D := D) (ci := 6) (v := .int (nI f189_0)) (C := RX6) (T := TX6) (N := 8) hx hb hts iX7_countSongs_6 hown hN.1 hP 0 rfl rfl 0 (by decide) (hN.f 39 rfl) (fun _ h9 => h9) rfl dX7_countSongs_9 ?_
  refine lv_icmp_ge (tgt := 43) hx hb dX7_countSongs_12 (by decide) (fun c190 => ?_) (fun c190 => ?_)
  · have c190 : f189_0 ≤ p := (nI_leI (a := f189_0) (b := p) (by omega) (by omega)).mp c190
    refine lv_iload_n hx hb dX7_countSongs_43 rfl (lv_at hl 1 rfl) ?_
    exact en_i hx hb hr hlocks hL rfl (Nat.zero_le _) (Nat.zero_le _) dX7_countSongs_44 (rfl)
  · have c190 : ¬ f189_0 ≤ p := fun h9 => c190 ((nI_leI (a := f189_0) (b := p) (by omega) (by omega)).mpr h9)
    refine lv_aload_n hx hb dX7_countSongs_15 rfl (lv_at hl 2 rfl) ?_
    refine lv_iload_n hx hb dX7_countSongs_16 rfl (lv_at hl 0 rfl) ?_
    refine cv_r (As := [.int (nI p)]) (rest := []) (b := w) ⟨hx, hb, hml, hown, hts⟩ (c_X7_at hT (w := w) hw (x := (nI p))) (cwV 1 hts gX7_countSongs_X7_at rfl rfl rfl hdX7_at_v ⟨Nat.le_of_ble_eq_true rfl, Nat.le_of_ble_eq_true rfl⟩) hN hL (rcv8 hN hT hw.1) rfl rfl hl.1 (Nat.le_of_ble_eq_true rfl) dX7_countSongs_17 (Nat.zero_le _) (Nat.zero_le _) (fun r191 H1 locs hL hqr191 => ?_)
    obtain ⟨rfl, hqr191⟩ := hqr191
    obtain ⟨hb192, e192, hat192, hk192⟩ := hT.o4 hqr191.1
    obtain ⟨f192_0, f192_1, f192_2, f192_3, f192_4, f192_5, f192_6, f192_7, f192_8, f192_9, rfl, c192_up⟩ := hk192
    have hP : va_P D vwCl [(r191, .inr (3, [.int f192_0, .int f192_1, .int f192_2, .int f192_3, .int f192_4, .int f192_5, .int f192_6, .int f192_7, .int f192_8, .int f192_9])), (f188_0, .inr (6, [.int (nI f189_0), .int f189_1, .int f189_2, f189_3, .ref f189_4, .ref f189_5, .ref f189_6, .ref f189_7])), (w, .inr (7, [.ref f188_0, .ref f188_1, .ref f188_2, .ref f188_3, .ref f188_4, .ref f188_5, .long f188_6, .int f188_7, .int f188_8, .int f188_9, .int f188_10, .int f188_11, .int f188_12, .int f188_13, .int f188_14, .int f188_15]))] _ := va_P.cons hat192 hP
    refine va_getN (D := D) (ci := 3) (v := .int f192_0) (C := RX3) (T := TX3) (N := 10) hx hb hts iX7_countSongs_3 hown hN.1 hP 0 rfl rfl 0 (by decide) (hN.f 27 rfl) (fun _ h9 => h9) rfl dX7_countSongs_20 ?_
    refine lv_if_eq (tgt := 37) hx hb dX7_countSongs_23 (by decide) (fun c193 => ?_) (fun c193 => ?_)
    · refine lv_iinc (v := (nI (p + 1))) (lv' := [(2, .int (nI (p + 1))), (1, .int x), (0, .ref w)]) hx hb dX7_countSongs_37 hl (k := 0) rfl (nI_add _ 1) (by decide) rfl (fun ls hl => ?_)
      refine lv_goto (tgt := 4) hx hb dX7_countSongs_40 (by decide) ?_
      exact ih187 ((p + 1), x) _ (by show 8 - ((p + 1)) < 8 - p; omega) (by omega) (lv_sub hl [0, 1, 2] rfl)
    · refine lv_aload_n hx hb dX7_countSongs_26 rfl (lv_at hl 2 rfl) ?_
      refine lv_iload_n hx hb dX7_countSongs_27 rfl (lv_at hl 0 rfl) ?_
      refine cv_i (As := [.int (nI p)]) (rest := []) (b := w) ⟨hx, hb, hml, hown, hts⟩ (c_X7_isFirstWithItsSong hT (w := w) hw (n := p) (by first | omega | decide | assumption)) (cwV 1 hts gX7_countSongs_X7_isFirstWithItsSong rfl rfl rfl hdX7_isFirstWithItsSong_v ⟨Nat.le_of_ble_eq_true rfl, Nat.le_of_ble_eq_true rfl⟩) hN hL (rcv8 hN hT hw.1) rfl rfl hl.1 (Nat.le_of_ble_eq_true rfl) dX7_countSongs_28 (Nat.zero_le _) (Nat.zero_le _) (fun r194 H1 locs hL hqr194 => ?_)
      obtain ⟨rfl, hqr194⟩ := hqr194
      rcases hqr194 with rfl | rfl
      · refine lv_if_eq (tgt := 37) hx hb dX7_countSongs_31 (by decide) (fun _ => ?_) (fun c9 => absurd (by decide) c9)
        refine lv_iinc (v := (nI (p + 1))) (lv' := [(2, .int (nI (p + 1))), (1, .int x), (0, .ref w)]) hx hb dX7_countSongs_37 hl (k := 0) rfl (nI_add _ 1) (by decide) rfl (fun ls hl => ?_)
        refine lv_goto (tgt := 4) hx hb dX7_countSongs_40 (by decide) ?_
        exact ih187 ((p + 1), x) _ (by show 8 - ((p + 1)) < 8 - p; omega) (by omega) (lv_sub hl [0, 1, 2] rfl)
      · refine lv_if_eq (tgt := 37) hx hb dX7_countSongs_31 (by decide) (fun c9 => absurd c9 (by decide)) (fun _ => ?_)
        refine lv_iinc (v := (x + 1)) (lv' := [(1, .int (x + 1)), (2, .int (nI p)), (0, .ref w)]) hx hb dX7_countSongs_34 hl (k := 1) rfl (rfl) (by decide) rfl (fun ls hl => ?_)
        refine lv_iinc (v := (nI (p + 1))) (lv' := [(2, .int (nI (p + 1))), (1, .int (x + 1)), (0, .ref w)]) hx hb dX7_countSongs_37 hl (k := 1) rfl (nI_add _ 1) (by decide) rfl (fun ls hl => ?_)
        refine lv_goto (tgt := 4) hx hb dX7_countSongs_40 (by decide) ?_
        exact ih187 ((p + 1), (x + 1)) _ (by show 8 - ((p + 1)) < 8 - p; omega) (by omega) (lv_sub hl [0, 1, 2] rfl)
theorem mX7_greatestOpenDelay_1 : (.fieldLink RX7 52 "OneBeat$World" "setup" "LOneBeat$Setup;" : Cond) ∈ wsX7_greatestOpenDelay := List.mem_of_getElem? (i := 1) (by decide +kernel)
theorem iX7_greatestOpenDelay_7 : ∀ w ∈ wsX70, w ∈ wsX7_greatestOpenDelay := fun w h => List.mem_of_mem_drop (List.mem_of_mem_take ((show wsX70 = (wsX7_greatestOpenDelay.drop 26).take 16 by decide +kernel) ▸ h))
theorem iX7_greatestOpenDelay_6 : ∀ w ∈ wsX60, w ∈ wsX7_greatestOpenDelay := fun w h => List.mem_of_mem_drop (List.mem_of_mem_take ((show wsX60 = (wsX7_greatestOpenDelay.drop 42).take 8 by decide +kernel) ▸ h))
theorem hdX7_isCut_v : yX7_isCut.cls = RX7 ∧ yX7_isCut.cls ≠ "java/lang/invoke/MethodHandle" ∧ yX7_isCut.cls ≠ "java/lang/invoke/VarHandle" ∧ (parseMethodDescriptor yX7_isCut.desc).map (fun d => d.parameters.length) = some 2 := by decide +kernel
theorem hdX7_delay_v : yX7_delay.cls = RX7 ∧ yX7_delay.cls ≠ "java/lang/invoke/MethodHandle" ∧ yX7_delay.cls ≠ "java/lang/invoke/VarHandle" ∧ (parseMethodDescriptor yX7_delay.desc).map (fun d => d.parameters.length) = some 2 := by decide +kernel
theorem mX7_greatestOpenDelay_2 : (.methodLink RX7 147 Lib.Math.max.name : Cond) ∈ wsX7_greatestOpenDelay := List.mem_of_getElem? (i := 2) (by decide +kernel)
theorem mX7_greatestOpenDelay_3 : (.static Lib.Math.max.name : Cond) ∈ wsX7_greatestOpenDelay := List.mem_of_getElem? (i := 3) (by decide +kernel)
theorem mX7_greatestOpenDelay_4 : (.initialized "java/lang/Math" : Cond) ∈ wsX7_greatestOpenDelay := List.mem_of_getElem? (i := 4) (by decide +kernel)
theorem mX7_greatestOpenDelay_5 : (.code Lib.Math.max.name Lib.Math.max.code 2 (some .int) : Cond) ∈ wsX7_greatestOpenDelay := List.mem_of_getElem? (i := 5) (by decide +kernel)
set_option maxHeartbeats 4000000 in
set_option maxRecDepth 100000 in
theorem c_X7_greatestOpenDelay {l : Launch} {D : va_G} {cs : Nat → ClassId} {B0 T : Nat} {κ : KM} {H0 : Heap} (hT : WT B0 D cs T κ H0) {w i : Nat} (hw : T2 κ w 8 i) : KC l yX7_greatestOpenDelay wsX7_greatestOpenDelay 3 65 0 0 D cs B0 H0 [.ref w] (Qi (fun _ H => H = H0)) := by
  refine KC.of cX7_greatestOpenDelay 4 (some .int) (by decide) rfl (Nat.le_of_ble_eq_true rfl) ?_
  intro p e s m below meth c ls hx hb hr hml hown hts hlocks hin hN hH0 hl
  have hown : s.vm.findClass RX7 = some m.cls := hown
  have hl : lv_has ls 4 [(0, .ref w)] := hl
  have hL : OkL B0 [] := OkL.nil
  refine lv_iconst (v := 0) hx hb dX7_greatestOpenDelay_0 (by decide) ?_
  refine lv_istore_n (lv' := [(1, .int 0), (0, .ref w)]) hx hb dX7_greatestOpenDelay_1 rfl hl (by decide) rfl (fun ls hl => ?_)
  refine lv_iconst (v := 0) hx hb dX7_greatestOpenDelay_2 (by decide) ?_
  refine lv_istore_n (lv' := [(2, .int 0), (1, .int 0), (0, .ref w)]) hx hb dX7_greatestOpenDelay_3 rfl hl (by decide) rfl (fun ls hl => ?_)
  refine lp_r (α := Nat × Int32) (nL := 4) (fun a9 => 8 - a9.1) (fun a9 => (a9.1 ≤ 8)) (fun a9 => [(2, .int (nI a9.1)), (1, .int a9.2), (0, .ref w)]) ?_ (0, 0) _ (by omega) (lv_sub hl [0, 1, 2] rfl)
  rintro ⟨p, x⟩ ls ih195 hp hl
  have hl : lv_has ls 4 [(2, .int (nI p)), (1, .int x), (0, .ref w)] := hl
  have hp : p ≤ 8 := hp
  refine lv_iload_n hx hb dX7_greatestOpenDelay_4 rfl (lv_at hl 0 rfl) ?_
  refine lv_aload_n hx hb dX7_greatestOpenDelay_5 rfl (lv_at hl 2 rfl) ?_
  obtain ⟨hb196, e196, hat196, hk196⟩ := hT.o8 hw.1
  obtain ⟨f196_0, f196_1, f196_2, f196_3, f196_4, f196_5, f196_6, f196_7, f196_8, f196_9, f196_10, f196_11, f196_12, f196_13, f196_14, f196_15, rfl, t196_0, c196_su, t196_1, t196_2, t196_3, t196_4, t196_5, c196_tm⟩ := hk196
  rw [hw.2] at t196_1
  rw [hw.2] at t196_2
  rw [hw.2] at t196_3
  rw [hw.2] at t196_4
  rw [hw.2] at t196_5
  have hP : va_P D vwCl [(w, .inr (7, [.ref f196_0, .ref f196_1, .ref f196_2, .ref f196_3, .ref f196_4, .ref f196_5, .long f196_6, .int f196_7, .int f196_8, .int f196_9, .int f196_10, .int f196_11, .int f196_12, .int f196_13, .int f196_14, .int f196_15]))] _ := va_P.cons hat196 va_P.nil
  refine va_get (D := D) (ci := 7) (v := .ref f196_0) (C := RX7) (T := TX7) (N := 16) hx hb hts iX7_greatestOpenDelay_7 hown hN.1 hP 0 rfl rfl 0 (by decide) (hts _ mX7_greatestOpenDelay_1) (fun _ h9 => h9) rfl dX7_greatestOpenDelay_6 ?_
  obtain ⟨hb197, e197, hat197, hk197⟩ := hT.o7 t196_0.1
  obtain ⟨f197_0, f197_1, f197_2, f197_3, f197_4, f197_5, f197_6, f197_7, rfl, c197_0, c197_3, t197_4, t197_5, t197_6, t197_7⟩ := hk197
  rw [t196_0.2] at t197_4
  rw [t196_0.2] at t197_5
  rw [t196_0.2] at t197_6
  rw [t196_0.2] at t197_7
  have hP : va_P D vwCl [(f196_0, .inr (6, [.int (nI f197_0), .int f197_1, .int f197_2, f197_3, .ref f197_4, .ref f197_5, .ref f197_6, .ref f197_7])), (w, .inr (7, [.ref f196_0, .ref f196_1, .ref f196_2, .ref f196_3, .ref f196_4, .ref f196_5, .long f196_6, .int f196_7, .int f196_8, .int f196_9, .int f196_10, .int f196_11, .int f196_12, .int f196_13, .int f196_14, .int f196_15]))] _ := va_P.cons hat197 hP
  refine va_getN (D := D) (ci := 6) (v := .int (nI f197_0)) (C := RX6) (T := TX6) (N := 8) hx hb hts iX7_greatestOpenDelay_6 hown hN.1 hP 0 rfl rfl 0 (by decide) (hN.f 39 rfl) (fun _ h9 => h9) rfl dX7_greatestOpenDelay_9 ?_
  refine lv_icmp_ge (tgt := 60) hx hb dX7_greatestOpenDelay_12 (by decide) (fun c198 => ?_) (fun c198 => ?_)
  · have c198 : f197_0 ≤ p := (nI_leI (a := f197_0) (b := p) (by omega) (by omega)).mp c198
    refine lv_iload_n hx hb dX7_greatestOpenDelay_60 rfl (lv_at hl 1 rfl) ?_
    exact en_i hx hb hr hlocks hL rfl (Nat.zero_le _) (Nat.zero_le _) dX7_greatestOpenDelay_61 (rfl)
  · have c198 : ¬ f197_0 ≤ p := fun h9 => c198 ((nI_leI (a := f197_0) (b := p) (by omega) (by omega)).mpr h9)
    refine lv_iconst (v := 0) hx hb dX7_greatestOpenDelay_15 (by decide) ?_
    refine lv_istore_n (lv' := [(3, .int 0), (2, .int (nI p)), (1, .int x), (0, .ref w)]) hx hb dX7_greatestOpenDelay_16 rfl hl (by decide) rfl (fun ls hl => ?_)
    refine lp_r (α := Nat × Int32) (nL := 4) (fun a9 => 8 - a9.1) (fun a9 => (a9.1 ≤ 8)) (fun a9 => [(3, .int (nI a9.1)), (1, .int a9.2), (0, .ref w), (2, .int (nI p))]) ?_ (0, x) _ (by omega) (lv_sub hl [0, 2, 3, 1] rfl)
    rintro ⟨q, y⟩ ls ih199 hq hl
    have hl : lv_has ls 4 [(3, .int (nI q)), (1, .int y), (0, .ref w), (2, .int (nI p))] := hl
    have hq : q ≤ 8 := hq
    refine lv_iload_n hx hb dX7_greatestOpenDelay_17 rfl (lv_at hl 0 rfl) ?_
    refine lv_aload_n hx hb dX7_greatestOpenDelay_18 rfl (lv_at hl 2 rfl) ?_
    refine va_get (D := D) (ci := 7) (v := .ref f196_0) (C := RX7) (T := TX7) (N := 16) hx hb hts iX7_greatestOpenDelay_7 hown hN.1 hP 1 rfl rfl 0 (by decide) (hts _ mX7_greatestOpenDelay_1) (fun _ h9 => h9) rfl dX7_greatestOpenDelay_19 ?_
    refine va_getN (D := D) (ci := 6) (v := .int (nI f197_0)) (C := RX6) (T := TX6) (N := 8) hx hb hts iX7_greatestOpenDelay_6 hown hN.1 hP 0 rfl rfl 0 (by decide) (hN.f 39 rfl) (fun _ h9 => h9) rfl dX7_greatestOpenDelay_22 ?_
    refine lv_icmp_ge (tgt := 54) hx hb dX7_greatestOpenDelay_25 (by decide) (fun c200 => ?_) (fun c200 => ?_)
    · have c200 : f197_0 ≤ q := (nI_leI (a := f197_0) (b := q) (by omega) (by omega)).mp c200
      refine lv_iinc (v := (nI (p + 1))) (lv' := [(2, .int (nI (p + 1))), (3, .int (nI q)), (1, .int y), (0, .ref w)]) hx hb dX7_greatestOpenDelay_54 hl (k := 3) rfl (nI_add _ 1) (by decide) rfl (fun ls hl => ?_)
      refine lv_goto (tgt := 4) hx hb dX7_greatestOpenDelay_57 (by decide) ?_
      exact ih195 ((p + 1), y) _ (by show 8 - ((p + 1)) < 8 - p; omega) (by omega) (lv_sub hl [0, 2, 3] rfl)
    · have c200 : ¬ f197_0 ≤ q := fun h9 => c200 ((nI_leI (a := f197_0) (b := q) (by omega) (by omega)).mpr h9)
      refine lv_aload_n hx hb dX7_greatestOpenDelay_28 rfl (lv_at hl 2 rfl) ?_
      refine lv_iload_n hx hb dX7_greatestOpenDelay_29 rfl (lv_at hl 3 rfl) ?_
      refine lv_iload_n hx hb dX7_greatestOpenDelay_30 rfl (lv_at hl 0 rfl) ?_
      refine cv_i (As := [.int (nI p), .int (nI q)]) (rest := []) (b := w) ⟨hx, hb, hml, hown, hts⟩ (c_X7_isCut hT (w := w) hw (x := (nI p)) (y := (nI q))) (cwV 2 hts gX7_greatestOpenDelay_X7_isCut rfl rfl rfl hdX7_isCut_v ⟨Nat.le_of_ble_eq_true rfl, Nat.le_of_ble_eq_true rfl⟩) hN hL (rcv8 hN hT hw.1) rfl rfl hl.1 (Nat.le_of_ble_eq_true rfl) dX7_greatestOpenDelay_31 (Nat.zero_le _) (Nat.zero_le _) (fun r201 H1 locs hL hqr201 => ?_)
      obtain ⟨rfl, hqr201⟩ := hqr201
      rcases hqr201 with rfl | rfl
      · refine lv_if_ne (tgt := 48) hx hb dX7_greatestOpenDelay_34 (by decide) (fun c9 => absurd (by decide) c9) (fun _ => ?_)
        refine lv_iload_n hx hb dX7_greatestOpenDelay_37 rfl (lv_at hl 1 rfl) ?_
        refine lv_aload_n hx hb dX7_greatestOpenDelay_38 rfl (lv_at hl 2 rfl) ?_
        refine lv_iload_n hx hb dX7_greatestOpenDelay_39 rfl (lv_at hl 3 rfl) ?_
        refine lv_iload_n hx hb dX7_greatestOpenDelay_40 rfl (lv_at hl 0 rfl) ?_
        refine cv_i (As := [.int (nI p), .int (nI q)]) (rest := [.int y]) (b := w) ⟨hx, hb, hml, hown, hts⟩ (c_X7_delay hT (w := w) hw (x := (nI p)) (y := (nI q))) (cwV 2 hts gX7_greatestOpenDelay_X7_delay rfl rfl rfl hdX7_delay_v ⟨Nat.le_of_ble_eq_true rfl, Nat.le_of_ble_eq_true rfl⟩) hN hL (rcv8 hN hT hw.1) rfl rfl hl.1 (Nat.le_of_ble_eq_true rfl) dX7_greatestOpenDelay_41 (Nat.zero_le _) (Nat.zero_le _) (fun r202 H1 locs hL hqr202 => ?_)
        obtain ⟨rfl, hqr202⟩ := hqr202
        obtain ⟨n203, h204, rfl⟩ := hqr202
        refine va_mmax hx hb (hml.trans hl.1.symm) hown (hts _ mX7_greatestOpenDelay_2) (hts _ mX7_greatestOpenDelay_3) (hts _ mX7_greatestOpenDelay_4) (hts _ mX7_greatestOpenDelay_5) (Nat.le_of_ble_eq_true rfl) (Nat.le_of_ble_eq_true rfl) (Nat.zero_le _) (Nat.zero_le _) dX7_greatestOpenDelay_44 ?_
        refine gn_i (fun x205 => ?_)
        refine lv_istore_n (lv' := [(1, .int x205), (3, .int (nI q)), (0, .ref w), (2, .int (nI p))]) hx hb dX7_greatestOpenDelay_47 rfl hl (by decide) rfl (fun ls hl => ?_)
        refine lv_iinc (v := (nI (q + 1))) (lv' := [(3, .int (nI (q + 1))), (1, .int x205), (0, .ref w), (2, .int (nI p))]) hx hb dX7_greatestOpenDelay_48 hl (k := 1) rfl (nI_add _ 1) (by decide) rfl (fun ls hl => ?_)
        refine lv_goto (tgt := 17) hx hb dX7_greatestOpenDelay_51 (by decide) ?_
        exact ih199 ((q + 1), x205) _ (by show 8 - ((q + 1)) < 8 - q; omega) (by omega) (lv_sub hl [0, 1, 2, 3] rfl)
      · refine lv_if_ne (tgt := 48) hx hb dX7_greatestOpenDelay_34 (by decide) (fun _ => ?_) (fun c9 => absurd c9 (by decide))
        refine lv_iinc (v := (nI (q + 1))) (lv' := [(3, .int (nI (q + 1))), (1, .int y), (0, .ref w), (2, .int (nI p))]) hx hb dX7_greatestOpenDelay_48 hl (k := 0) rfl (nI_add _ 1) (by decide) rfl (fun ls hl => ?_)
        refine lv_goto (tgt := 17) hx hb dX7_greatestOpenDelay_51 (by decide) ?_
        exact ih199 ((q + 1), y) _ (by show 8 - ((q + 1)) < 8 - q; omega) (by omega) (lv_sub hl [0, 1, 2, 3] rfl)
theorem mX7_margin_1 : (.fieldLink RX7 52 "OneBeat$World" "setup" "LOneBeat$Setup;" : Cond) ∈ wsX7_margin := List.mem_of_getElem? (i := 1) (by decide +kernel)
theorem iX7_margin_7 : ∀ w ∈ wsX70, w ∈ wsX7_margin := fun w h => List.mem_of_mem_drop (List.mem_of_mem_take ((show wsX70 = (wsX7_margin.drop 63).take 16 by decide +kernel) ▸ h))
theorem iX7_margin_6 : ∀ w ∈ wsX60, w ∈ wsX7_margin := fun w h => List.mem_of_mem_drop (List.mem_of_mem_take ((show wsX60 = (wsX7_margin.drop 79).take 8 by decide +kernel) ▸ h))
theorem hdX7_greatestOpenDelay_v : yX7_greatestOpenDelay.cls = RX7 ∧ yX7_greatestOpenDelay.cls ≠ "java/lang/invoke/MethodHandle" ∧ yX7_greatestOpenDelay.cls ≠ "java/lang/invoke/VarHandle" ∧ (parseMethodDescriptor yX7_greatestOpenDelay.desc).map (fun d => d.parameters.length) = some 0 := by decide +kernel
theorem hdX7_countUp_v : yX7_countUp.cls = RX7 ∧ yX7_countUp.cls ≠ "java/lang/invoke/MethodHandle" ∧ yX7_countUp.cls ≠ "java/lang/invoke/VarHandle" ∧ (parseMethodDescriptor yX7_countUp.desc).map (fun d => d.parameters.length) = some 0 := by decide +kernel
theorem hdX0_value_v : yX0_value.cls = RX0 ∧ yX0_value.cls ≠ "java/lang/invoke/MethodHandle" ∧ yX0_value.cls ≠ "java/lang/invoke/VarHandle" ∧ (parseMethodDescriptor yX0_value.desc).map (fun d => d.parameters.length) = some 4 := by decide +kernel
theorem mX7_margin_2 : (.methodLink RX7 169 Lib.Math.min.name : Cond) ∈ wsX7_margin := List.mem_of_getElem? (i := 2) (by decide +kernel)
theorem mX7_margin_3 : (.static Lib.Math.min.name : Cond) ∈ wsX7_margin := List.mem_of_getElem? (i := 3) (by decide +kernel)
theorem mX7_margin_4 : (.initialized "java/lang/Math" : Cond) ∈ wsX7_margin := List.mem_of_getElem? (i := 4) (by decide +kernel)
theorem mX7_margin_5 : (.code Lib.Math.min.name Lib.Math.min.code 2 (some .int) : Cond) ∈ wsX7_margin := List.mem_of_getElem? (i := 5) (by decide +kernel)
theorem mX7_margin_6 : (.methodLink RX7 147 Lib.Math.max.name : Cond) ∈ wsX7_margin := List.mem_of_getElem? (i := 6) (by decide +kernel)
theorem mX7_margin_7 : (.static Lib.Math.max.name : Cond) ∈ wsX7_margin := List.mem_of_getElem? (i := 7) (by decide +kernel)
theorem mX7_margin_8 : (.code Lib.Math.max.name Lib.Math.max.code 2 (some .int) : Cond) ∈ wsX7_margin := List.mem_of_getElem? (i := 8) (by decide +kernel)
set_option maxHeartbeats 4000000 in
set_option maxRecDepth 100000 in
theorem c_X7_margin {l : Launch} {D : va_G} {cs : Nat → ClassId} {B0 T : Nat} {κ : KM} {H0 : Heap} (hT : WT B0 D cs T κ H0) {w i : Nat} (hw : T2 κ w 8 i) {x : Int32} : KC l yX7_margin wsX7_margin 4 91 0 0 D cs B0 H0 [.ref w, .int x] (Qi (fun _ H => WT B0 D cs T κ H ∧ Fr B0 [16] κ H0 H)) := by
  refine KC.of cX7_margin 5 (some .int) (by decide) rfl (Nat.le_of_ble_eq_true rfl) ?_
  intro p e s m below meth c ls hx hb hr hml hown hts hlocks hin hN hH0 hl
  have hown : s.vm.findClass RX7 = some m.cls := hown
  have hl : lv_has ls 5 [(0, .ref w), (1, .int x)] := hl
  have hL : OkL B0 [] := OkL.nil
  have hF : Fr B0 [16] κ H0 H0 := Fr.rf
  refine lv_aload_n hx hb dX7_margin_0 rfl (lv_at hl 0 rfl) ?_
  obtain ⟨hb206, e206, hat206, hk206⟩ := hT.o8 hw.1
  obtain ⟨f206_0, f206_1, f206_2, f206_3, f206_4, f206_5, f206_6, f206_7, f206_8, f206_9, f206_10, f206_11, f206_12, f206_13, f206_14, f206_15, rfl, t206_0, c206_su, t206_1, t206_2, t206_3, t206_4, t206_5, c206_tm⟩ := hk206
  rw [hw.2] at t206_1
  rw [hw.2] at t206_2
  rw [hw.2] at t206_3
  rw [hw.2] at t206_4
  rw [hw.2] at t206_5
  have hP : va_P D vwCl [(w, .inr (7, [.ref f206_0, .ref f206_1, .ref f206_2, .ref f206_3, .ref f206_4, .ref f206_5, .long f206_6, .int f206_7, .int f206_8, .int f206_9, .int f206_10, .int f206_11, .int f206_12, .int f206_13, .int f206_14, .int f206_15]))] _ := va_P.cons hat206 va_P.nil
  refine va_get (D := D) (ci := 7) (v := .ref f206_0) (C := RX7) (T := TX7) (N := 16) hx hb hts iX7_margin_7 hown hN.1 hP 0 rfl rfl 0 (by decide) (hts _ mX7_margin_1) (fun _ h9 => h9) rfl dX7_margin_1 ?_
  obtain ⟨hb207, e207, hat207, hk207⟩ := hT.o7 t206_0.1
  obtain ⟨f207_0, f207_1, f207_2, f207_3, f207_4, f207_5, f207_6, f207_7, rfl, c207_0, c207_3, t207_4, t207_5, t207_6, t207_7⟩ := hk207
  rw [t206_0.2] at t207_4
  rw [t206_0.2] at t207_5
  rw [t206_0.2] at t207_6
  rw [t206_0.2] at t207_7
  have hP : va_P D vwCl [(f206_0, .inr (6, [.int (nI f207_0), .int f207_1, .int f207_2, f207_3, .ref f207_4, .ref f207_5, .ref f207_6, .ref f207_7])), (w, .inr (7, [.ref f206_0, .ref f206_1, .ref f206_2, .ref f206_3, .ref f206_4, .ref f206_5, .long f206_6, .int f206_7, .int f206_8, .int f206_9, .int f206_10, .int f206_11, .int f206_12, .int f206_13, .int f206_14, .int f206_15]))] _ := va_P.cons hat207 hP
  rcases c207_3 with rfl | ⟨a208, rfl, ta208⟩
  · refine va_getN (D := D) (ci := 6) (v := .null) (C := RX6) (T := TX6) (N := 8) hx hb hts iX7_margin_6 hown hN.1 hP 0 rfl rfl 3 (by decide) (hN.f 45 rfl) (fun _ h9 => h9) rfl dX7_margin_4 ?_
    refine lv_astore_nN (lv' := [(2, .null), (0, .ref w), (1, .int x)]) hx hb dX7_margin_7 rfl hl (by decide) rfl (fun ls hl => ?_)
    refine lv_aload_n hx hb dX7_margin_8 rfl (lv_at hl 1 rfl) ?_
    refine cv_i (As := []) (rest := []) (b := w) ⟨hx, hb, hml, hown, hts⟩ (c_X7_greatestOpenDelay hT (w := w) hw) (cwV 0 hts gX7_margin_X7_greatestOpenDelay rfl rfl rfl hdX7_greatestOpenDelay_v ⟨Nat.le_of_ble_eq_true rfl, Nat.le_of_ble_eq_true rfl⟩) hN hL (rcv8 hN hT hw.1) rfl rfl hl.1 (Nat.le_of_ble_eq_true rfl) dX7_margin_9 (Nat.zero_le _) (Nat.zero_le _) (fun r209 H1 locs hL hqr209 => ?_)
    obtain rfl := hqr209
    refine lv_istore_n (lv' := [(3, .int r209), (2, .null), (0, .ref w), (1, .int x)]) hx hb dX7_margin_12 rfl hl (by decide) rfl (fun ls hl => ?_)
    refine lv_aload_nN hx hb dX7_margin_13 rfl (lv_at hl 1 rfl) ?_
    refine lv_ifnonnullN hx hb dX7_margin_14 ?_
    refine lv_iconst (v := 2) hx hb dX7_margin_17 (by decide) ?_
    refine lv_iload_n hx hb dX7_margin_18 rfl (lv_at hl 0 rfl) ?_
    refine lv_imul hx hb dX7_margin_19 ?_
    refine gn_i (fun x210 => ?_)
    refine lv_iconst (v := 1) hx hb dX7_margin_20 (by decide) ?_
    refine lv_iadd hx hb dX7_margin_21 ?_
    refine gn_i (fun x211 => ?_)
    exact en_i hx hb hr hlocks hL rfl (Nat.zero_le _) (Nat.zero_le _) dX7_margin_22 (⟨hT, hF⟩)
  · refine va_getN (D := D) (ci := 6) (v := .ref a208) (C := RX6) (T := TX6) (N := 8) hx hb hts iX7_margin_6 hown hN.1 hP 0 rfl rfl 3 (by decide) (hN.f 45 rfl) (fun _ h9 => h9) rfl dX7_margin_4 ?_
    refine lv_astore_n (lv' := [(2, .ref a208), (0, .ref w), (1, .int x)]) hx hb dX7_margin_7 rfl hl (by decide) rfl (fun ls hl => ?_)
    refine lv_aload_n hx hb dX7_margin_8 rfl (lv_at hl 1 rfl) ?_
    refine cv_i (As := []) (rest := []) (b := w) ⟨hx, hb, hml, hown, hts⟩ (c_X7_greatestOpenDelay hT (w := w) hw) (cwV 0 hts gX7_margin_X7_greatestOpenDelay rfl rfl rfl hdX7_greatestOpenDelay_v ⟨Nat.le_of_ble_eq_true rfl, Nat.le_of_ble_eq_true rfl⟩) hN hL (rcv8 hN hT hw.1) rfl rfl hl.1 (Nat.le_of_ble_eq_true rfl) dX7_margin_9 (Nat.zero_le _) (Nat.zero_le _) (fun r212 H1 locs hL hqr212 => ?_)
    obtain rfl := hqr212
    refine lv_istore_n (lv' := [(3, .int r212), (2, .ref a208), (0, .ref w), (1, .int x)]) hx hb dX7_margin_12 rfl hl (by decide) rfl (fun ls hl => ?_)
    refine lv_aload_n hx hb dX7_margin_13 rfl (lv_at hl 1 rfl) ?_
    refine lv_ifnonnull (tgt := 23) hx hb dX7_margin_14 (by decide) ?_
    refine lv_aload_n hx hb dX7_margin_23 rfl (lv_at hl 1 rfl) ?_
    refine lv_aload_n hx hb dX7_margin_24 rfl (lv_at hl 2 rfl) ?_
    refine va_get (D := D) (ci := 7) (v := .ref f206_0) (C := RX7) (T := TX7) (N := 16) hx hb hts iX7_margin_7 hown hN.1 hP 1 rfl rfl 0 (by decide) (hts _ mX7_margin_1) (fun _ h9 => h9) rfl dX7_margin_25 ?_
    refine va_getN (D := D) (ci := 6) (v := .int (nI f207_0)) (C := RX6) (T := TX6) (N := 8) hx hb hts iX7_margin_6 hown hN.1 hP 0 rfl rfl 0 (by decide) (hN.f 39 rfl) (fun _ h9 => h9) rfl dX7_margin_28 ?_
    refine lv_iload_n hx hb dX7_margin_31 rfl (lv_at hl 0 rfl) ?_
    refine lv_aload_n hx hb dX7_margin_32 rfl (lv_at hl 2 rfl) ?_
    refine cv_i (As := []) (rest := [.int r212, .int (nI f207_0), .ref a208]) (b := w) ⟨hx, hb, hml, hown, hts⟩ (c_X7_countUp hT (w := w) hw) (cwV 0 hts gX7_margin_X7_countUp rfl rfl rfl hdX7_countUp_v ⟨Nat.le_of_ble_eq_true rfl, Nat.le_of_ble_eq_true rfl⟩) hN hL (rcv8 hN hT hw.1) rfl rfl hl.1 (Nat.le_of_ble_eq_true rfl) dX7_margin_33 (Nat.zero_le _) (Nat.zero_le _) (fun r213 H1 locs hL hqr213 => ?_)
    obtain rfl := hqr213
    refine lv_iload_n hx hb dX7_margin_36 rfl (lv_at hl 3 rfl) ?_
    refine cv_i (As := [.int (nI f207_0), .int r212, .int r213, .int x]) (rest := []) (b := a208) ⟨hx, hb, hml, hown, hts⟩ (c_X0_value hT (w := a208) ta208 (x := (nI f207_0)) (y := r212) (z := r213) (u := x)) (cwV 4 hts gX7_margin_X0_value rfl rfl rfl hdX0_value_v ⟨Nat.le_of_ble_eq_true rfl, Nat.le_of_ble_eq_true rfl⟩) hN hL (rcv1 hN hT ta208.1) rfl rfl hl.1 (Nat.le_of_ble_eq_true rfl) dX7_margin_37 (Nat.zero_le _) (Nat.zero_le _) (fun r214 H1 locs hL hqr214 => ?_)
    obtain ⟨hT1, hF1⟩ := hqr214
    have hF := hF.tr (hF1.mono (by simp))
    have hT := hT1
    refine lv_istore (lv' := [(4, .int r214), (3, .int r212), (2, .ref a208), (0, .ref w), (1, .int x)]) hx hb dX7_margin_40 hl (by decide) rfl (fun ls hl => ?_)
    refine lv_iconst (v := 1) hx hb dX7_margin_42 (by decide) ?_
    refine lv_sipush (v := 1000) hx hb dX7_margin_43 (by decide) ?_
    refine lv_iload hx hb dX7_margin_46 (lv_at hl 0 rfl) ?_
    refine va_mmin hx hb (hml.trans hl.1.symm) hown (hts _ mX7_margin_2) (hts _ mX7_margin_3) (hts _ mX7_margin_4) (hts _ mX7_margin_5) (Nat.le_of_ble_eq_true rfl) (Nat.le_of_ble_eq_true rfl) (Nat.zero_le _) (Nat.zero_le _) dX7_margin_48 ?_
    refine gn_i (fun x215 => ?_)
    refine va_mmax hx hb (hml.trans hl.1.symm) hown (hts _ mX7_margin_6) (hts _ mX7_margin_7) (hts _ mX7_margin_4) (hts _ mX7_margin_8) (Nat.le_of_ble_eq_true rfl) (Nat.le_of_ble_eq_true rfl) (Nat.zero_le _) (Nat.zero_le _) dX7_margin_51 ?_
    refine gn_i (fun x216 => ?_)
    exact en_i hx hb hr hlocks hL rfl (Nat.zero_le _) (Nat.zero_le _) dX7_margin_54 (⟨hT, hF⟩)
theorem hdX7_margin_v : yX7_margin.cls = RX7 ∧ yX7_margin.cls ≠ "java/lang/invoke/MethodHandle" ∧ yX7_margin.cls ≠ "java/lang/invoke/VarHandle" ∧ (parseMethodDescriptor yX7_margin.desc).map (fun d => d.parameters.length) = some 1 := by decide +kernel
theorem sw_0_11 {x : Int32} (h : ¬ (x.toInt < (0 : Int) ∨ (11 : Int) < x.toInt)) : x = 0 ∨ x = 1 ∨ x = 2 ∨ x = 3 ∨ x = 4 ∨ x = 5 ∨ x = 6 ∨ x = 7 ∨ x = 8 ∨ x = 9 ∨ x = 10 ∨ x = 11 := by
  have h2 : x.toInt = (0 : Int) ∨ x.toInt = (1 : Int) ∨ x.toInt = (2 : Int) ∨ x.toInt = (3 : Int) ∨ x.toInt = (4 : Int) ∨ x.toInt = (5 : Int) ∨ x.toInt = (6 : Int) ∨ x.toInt = (7 : Int) ∨ x.toInt = (8 : Int) ∨ x.toInt = (9 : Int) ∨ x.toInt = (10 : Int) ∨ x.toInt = (11 : Int) := by omega
  rcases h2 with h2 | h2 | h2 | h2 | h2 | h2 | h2 | h2 | h2 | h2 | h2 | h2
  · exact Or.inl (Int32.toInt_inj.mp (h2.trans (by decide)))
  · exact Or.inr (Or.inl (Int32.toInt_inj.mp (h2.trans (by decide))))
  · exact Or.inr (Or.inr (Or.inl (Int32.toInt_inj.mp (h2.trans (by decide)))))
  · exact Or.inr (Or.inr (Or.inr (Or.inl (Int32.toInt_inj.mp (h2.trans (by decide))))))
  · exact Or.inr (Or.inr (Or.inr (Or.inr (Or.inl (Int32.toInt_inj.mp (h2.trans (by decide)))))))
  · exact Or.inr (Or.inr (Or.inr (Or.inr (Or.inr (Or.inl (Int32.toInt_inj.mp (h2.trans (by decide))))))))
  · exact Or.inr (Or.inr (Or.inr (Or.inr (Or.inr (Or.inr (Or.inl (Int32.toInt_inj.mp (h2.trans (by decide)))))))))
  · exact Or.inr (Or.inr (Or.inr (Or.inr (Or.inr (Or.inr (Or.inr (Or.inl (Int32.toInt_inj.mp (h2.trans (by decide))))))))))
  · exact Or.inr (Or.inr (Or.inr (Or.inr (Or.inr (Or.inr (Or.inr (Or.inr (Or.inl (Int32.toInt_inj.mp (h2.trans (by decide)))))))))))
  · exact Or.inr (Or.inr (Or.inr (Or.inr (Or.inr (Or.inr (Or.inr (Or.inr (Or.inr (Or.inl (Int32.toInt_inj.mp (h2.trans (by decide))))))))))))
  · exact Or.inr (Or.inr (Or.inr (Or.inr (Or.inr (Or.inr (Or.inr (Or.inr (Or.inr (Or.inr (Or.inl (Int32.toInt_inj.mp (h2.trans (by decide)))))))))))))
  · exact Or.inr (Or.inr (Or.inr (Or.inr (Or.inr (Or.inr (Or.inr (Or.inr (Or.inr (Or.inr (Or.inr ((Int32.toInt_inj.mp (h2.trans (by decide))))))))))))))
theorem mX7_count_1 : (.fieldLink RX7 52 "OneBeat$World" "setup" "LOneBeat$Setup;" : Cond) ∈ wsX7_count := List.mem_of_getElem? (i := 1) (by decide +kernel)
theorem iX7_count_7 : ∀ w ∈ wsX70, w ∈ wsX7_count := fun w h => List.mem_of_mem_drop (List.mem_of_mem_take ((show wsX70 = (wsX7_count.drop 85).take 16 by decide +kernel) ▸ h))
theorem iX7_count_6 : ∀ w ∈ wsX60, w ∈ wsX7_count := fun w h => List.mem_of_mem_drop (List.mem_of_mem_take ((show wsX60 = (wsX7_count.drop 101).take 8 by decide +kernel) ▸ h))
theorem mX7_count_2 : (.fieldLink RX7 64 "OneBeat$World" "time" "I" : Cond) ∈ wsX7_count := List.mem_of_getElem? (i := 2) (by decide +kernel)
theorem mX7_count_3 : (.fieldLink RX7 68 "OneBeat$World" "conductor" "I" : Cond) ∈ wsX7_count := List.mem_of_getElem? (i := 3) (by decide +kernel)
theorem mX7_count_4 : (.fieldLink RX7 20 "OneBeat$World" "mail" "LOneBeat$Mail;" : Cond) ∈ wsX7_count := List.mem_of_getElem? (i := 4) (by decide +kernel)
theorem iX7_count_2 : ∀ w ∈ wsX20, w ∈ wsX7_count := fun w h => List.mem_of_mem_drop (List.mem_of_mem_take ((show wsX20 = (wsX7_count.drop 109).take 3 by decide +kernel) ▸ h))
theorem mX7_count_5 : (.fieldLink RX7 71 "OneBeat$World" "sent" "I" : Cond) ∈ wsX7_count := List.mem_of_getElem? (i := 5) (by decide +kernel)
theorem mX7_count_6 : (.fieldLink RX7 74 "OneBeat$World" "lost" "I" : Cond) ∈ wsX7_count := List.mem_of_getElem? (i := 6) (by decide +kernel)
theorem mX7_count_7 : (.fieldLink RX7 77 "OneBeat$World" "made" "I" : Cond) ∈ wsX7_count := List.mem_of_getElem? (i := 7) (by decide +kernel)
theorem mX7_count_8 : (.fieldLink RX7 80 "OneBeat$World" "committed" "I" : Cond) ∈ wsX7_count := List.mem_of_getElem? (i := 8) (by decide +kernel)
theorem mX7_count_9 : (.fieldLink RX7 83 "OneBeat$World" "givenUp" "I" : Cond) ∈ wsX7_count := List.mem_of_getElem? (i := 9) (by decide +kernel)
theorem hdX7_countSongs_v : yX7_countSongs.cls = RX7 ∧ yX7_countSongs.cls ≠ "java/lang/invoke/MethodHandle" ∧ yX7_countSongs.cls ≠ "java/lang/invoke/VarHandle" ∧ (parseMethodDescriptor yX7_countSongs.desc).map (fun d => d.parameters.length) = some 0 := by decide +kernel
theorem mX7_count_10 : (.fieldLink RX7 86 "OneBeat$World" "changes" "I" : Cond) ∈ wsX7_count := List.mem_of_getElem? (i := 10) (by decide +kernel)
theorem mX7_count_11 : (.fieldLink RX7 89 "OneBeat$World" "late" "I" : Cond) ∈ wsX7_count := List.mem_of_getElem? (i := 11) (by decide +kernel)
set_option maxHeartbeats 4000000 in
set_option maxRecDepth 100000 in
theorem c_X7_count {l : Launch} {D : va_G} {cs : Nat → ClassId} {B0 T : Nat} {κ : KM} {H0 : Heap} (hT : WT B0 D cs T κ H0) {w i : Nat} (hw : T2 κ w 8 i) {x : Int32} : KC l yX7_count wsX7_count 5 115 0 0 D cs B0 H0 [.ref w, .int x] (Qi (fun _ H => WT B0 D cs T κ H ∧ Fr B0 [16] κ H0 H)) := by
  refine KC.of cX7_count 2 (some .int) (by decide) rfl (Nat.le_of_ble_eq_true rfl) ?_
  intro p e s m below meth c ls hx hb hr hml hown hts hlocks hin hN hH0 hl
  have hown : s.vm.findClass RX7 = some m.cls := hown
  have hl : lv_has ls 2 [(0, .ref w), (1, .int x)] := hl
  have hL : OkL B0 [] := OkL.nil
  have hF : Fr B0 [16] κ H0 H0 := Fr.rf
  refine lv_iload_n hx hb dX7_count_0 rfl (lv_at hl 1 rfl) ?_
  by_cases c217 : (x : Int32).toInt < (0 : Int) ∨ (11 : Int) < (x : Int32).toInt
  · refine lv_tableOut (tgt := 130) hx hb dX7_count_1 c217 (by decide) ?_
    refine lv_aload_n hx hb dX7_count_130 rfl (lv_at hl 0 rfl) ?_
    refine lv_iconst (v := 1) hx hb dX7_count_131 (by decide) ?_
    refine cv_i (As := [.int 1]) (rest := []) (b := w) ⟨hx, hb, hml, hown, hts⟩ (c_X7_margin hT (w := w) hw (x := 1)) (cwV 1 hts gX7_count_X7_margin rfl rfl rfl hdX7_margin_v ⟨Nat.le_of_ble_eq_true rfl, Nat.le_of_ble_eq_true rfl⟩) hN hL (rcv8 hN hT hw.1) rfl rfl hl.1 (Nat.le_of_ble_eq_true rfl) dX7_count_132 (Nat.zero_le _) (Nat.zero_le _) (fun r218 H1 locs hL hqr218 => ?_)
    obtain ⟨hT1, hF1⟩ := hqr218
    have hF := hF.tr (hF1.mono (by simp))
    have hT := hT1
    exact en_i hx hb hr hlocks hL rfl (Nat.zero_le _) (Nat.zero_le _) dX7_count_135 (⟨hT, hF⟩)
  · rcases sw_0_11 c217 with rfl | rfl | rfl | rfl | rfl | rfl | rfl | rfl | rfl | rfl | rfl | rfl
    · refine lv_tableIn (tgt := 64) (off := 63) hx hb dX7_count_1 (by decide) (by decide) (by decide) (by decide) ?_
      refine lv_aload_n hx hb dX7_count_64 rfl (lv_at hl 0 rfl) ?_
      obtain ⟨hb219, e219, hat219, hk219⟩ := hT.o8 hw.1
      obtain ⟨f219_0, f219_1, f219_2, f219_3, f219_4, f219_5, f219_6, f219_7, f219_8, f219_9, f219_10, f219_11, f219_12, f219_13, f219_14, f219_15, rfl, t219_0, c219_su, t219_1, t219_2, t219_3, t219_4, t219_5, c219_tm⟩ := hk219
      rw [hw.2] at t219_1
      rw [hw.2] at t219_2
      rw [hw.2] at t219_3
      rw [hw.2] at t219_4
      rw [hw.2] at t219_5
      have hP : va_P D vwCl [(w, .inr (7, [.ref f219_0, .ref f219_1, .ref f219_2, .ref f219_3, .ref f219_4, .ref f219_5, .long f219_6, .int f219_7, .int f219_8, .int f219_9, .int f219_10, .int f219_11, .int f219_12, .int f219_13, .int f219_14, .int f219_15]))] _ := va_P.cons hat219 va_P.nil
      refine va_get (D := D) (ci := 7) (v := .ref f219_0) (C := RX7) (T := TX7) (N := 16) hx hb hts iX7_count_7 hown hN.1 hP 0 rfl rfl 0 (by decide) (hts _ mX7_count_1) (fun _ h9 => h9) rfl dX7_count_65 ?_
      obtain ⟨hb220, e220, hat220, hk220⟩ := hT.o7 t219_0.1
      obtain ⟨f220_0, f220_1, f220_2, f220_3, f220_4, f220_5, f220_6, f220_7, rfl, c220_0, c220_3, t220_4, t220_5, t220_6, t220_7⟩ := hk220
      rw [t219_0.2] at t220_4
      rw [t219_0.2] at t220_5
      rw [t219_0.2] at t220_6
      rw [t219_0.2] at t220_7
      have hP : va_P D vwCl [(f219_0, .inr (6, [.int (nI f220_0), .int f220_1, .int f220_2, f220_3, .ref f220_4, .ref f220_5, .ref f220_6, .ref f220_7])), (w, .inr (7, [.ref f219_0, .ref f219_1, .ref f219_2, .ref f219_3, .ref f219_4, .ref f219_5, .long f219_6, .int f219_7, .int f219_8, .int f219_9, .int f219_10, .int f219_11, .int f219_12, .int f219_13, .int f219_14, .int f219_15]))] _ := va_P.cons hat220 hP
      refine va_getN (D := D) (ci := 6) (v := .int (nI f220_0)) (C := RX6) (T := TX6) (N := 8) hx hb hts iX7_count_6 hown hN.1 hP 0 rfl rfl 0 (by decide) (hN.f 39 rfl) (fun _ h9 => h9) rfl dX7_count_68 ?_
      exact en_i hx hb hr hlocks hL rfl (Nat.zero_le _) (Nat.zero_le _) dX7_count_71 (⟨hT, hF⟩)
    · refine lv_tableIn (tgt := 72) (off := 71) hx hb dX7_count_1 (by decide) (by decide) (by decide) (by decide) ?_
      refine lv_aload_n hx hb dX7_count_72 rfl (lv_at hl 0 rfl) ?_
      obtain ⟨hb221, e221, hat221, hk221⟩ := hT.o8 hw.1
      obtain ⟨f221_0, f221_1, f221_2, f221_3, f221_4, f221_5, f221_6, f221_7, f221_8, f221_9, f221_10, f221_11, f221_12, f221_13, f221_14, f221_15, rfl, t221_0, c221_su, t221_1, t221_2, t221_3, t221_4, t221_5, c221_tm⟩ := hk221
      rw [hw.2] at t221_1
      rw [hw.2] at t221_2
      rw [hw.2] at t221_3
      rw [hw.2] at t221_4
      rw [hw.2] at t221_5
      have hP : va_P D vwCl [(w, .inr (7, [.ref f221_0, .ref f221_1, .ref f221_2, .ref f221_3, .ref f221_4, .ref f221_5, .long f221_6, .int f221_7, .int f221_8, .int f221_9, .int f221_10, .int f221_11, .int f221_12, .int f221_13, .int f221_14, .int f221_15]))] _ := va_P.cons hat221 va_P.nil
      refine va_get (D := D) (ci := 7) (v := .int f221_7) (C := RX7) (T := TX7) (N := 16) hx hb hts iX7_count_7 hown hN.1 hP 0 rfl rfl 7 (by decide) (hts _ mX7_count_2) (fun _ h9 => h9) rfl dX7_count_73 ?_
      exact en_i hx hb hr hlocks hL rfl (Nat.zero_le _) (Nat.zero_le _) dX7_count_76 (⟨hT, hF⟩)
    · refine lv_tableIn (tgt := 77) (off := 76) hx hb dX7_count_1 (by decide) (by decide) (by decide) (by decide) ?_
      refine lv_aload_n hx hb dX7_count_77 rfl (lv_at hl 0 rfl) ?_
      obtain ⟨hb222, e222, hat222, hk222⟩ := hT.o8 hw.1
      obtain ⟨f222_0, f222_1, f222_2, f222_3, f222_4, f222_5, f222_6, f222_7, f222_8, f222_9, f222_10, f222_11, f222_12, f222_13, f222_14, f222_15, rfl, t222_0, c222_su, t222_1, t222_2, t222_3, t222_4, t222_5, c222_tm⟩ := hk222
      rw [hw.2] at t222_1
      rw [hw.2] at t222_2
      rw [hw.2] at t222_3
      rw [hw.2] at t222_4
      rw [hw.2] at t222_5
      have hP : va_P D vwCl [(w, .inr (7, [.ref f222_0, .ref f222_1, .ref f222_2, .ref f222_3, .ref f222_4, .ref f222_5, .long f222_6, .int f222_7, .int f222_8, .int f222_9, .int f222_10, .int f222_11, .int f222_12, .int f222_13, .int f222_14, .int f222_15]))] _ := va_P.cons hat222 va_P.nil
      refine va_get (D := D) (ci := 7) (v := .int f222_8) (C := RX7) (T := TX7) (N := 16) hx hb hts iX7_count_7 hown hN.1 hP 0 rfl rfl 8 (by decide) (hts _ mX7_count_3) (fun _ h9 => h9) rfl dX7_count_78 ?_
      exact en_i hx hb hr hlocks hL rfl (Nat.zero_le _) (Nat.zero_le _) dX7_count_81 (⟨hT, hF⟩)
    · refine lv_tableIn (tgt := 82) (off := 81) hx hb dX7_count_1 (by decide) (by decide) (by decide) (by decide) ?_
      refine lv_aload_n hx hb dX7_count_82 rfl (lv_at hl 0 rfl) ?_
      obtain ⟨hb223, e223, hat223, hk223⟩ := hT.o8 hw.1
      obtain ⟨f223_0, f223_1, f223_2, f223_3, f223_4, f223_5, f223_6, f223_7, f223_8, f223_9, f223_10, f223_11, f223_12, f223_13, f223_14, f223_15, rfl, t223_0, c223_su, t223_1, t223_2, t223_3, t223_4, t223_5, c223_tm⟩ := hk223
      rw [hw.2] at t223_1
      rw [hw.2] at t223_2
      rw [hw.2] at t223_3
      rw [hw.2] at t223_4
      rw [hw.2] at t223_5
      have hP : va_P D vwCl [(w, .inr (7, [.ref f223_0, .ref f223_1, .ref f223_2, .ref f223_3, .ref f223_4, .ref f223_5, .long f223_6, .int f223_7, .int f223_8, .int f223_9, .int f223_10, .int f223_11, .int f223_12, .int f223_13, .int f223_14, .int f223_15]))] _ := va_P.cons hat223 va_P.nil
      refine va_get (D := D) (ci := 7) (v := .ref f223_2) (C := RX7) (T := TX7) (N := 16) hx hb hts iX7_count_7 hown hN.1 hP 0 rfl rfl 2 (by decide) (hts _ mX7_count_4) (fun _ h9 => h9) rfl dX7_count_83 ?_
      obtain ⟨hb224, e224, hat224, hk224⟩ := hT.o3 t223_2.1
      obtain ⟨f224_0, f224_1, f224_2, rfl, t224_0, t224_1⟩ := hk224
      rw [t223_2.2] at t224_0
      rw [t223_2.2] at t224_1
      have hP : va_P D vwCl [(f223_2, .inr (2, [.ref f224_0, .ref f224_1, .int f224_2])), (w, .inr (7, [.ref f223_0, .ref f223_1, .ref f223_2, .ref f223_3, .ref f223_4, .ref f223_5, .long f223_6, .int f223_7, .int f223_8, .int f223_9, .int f223_10, .int f223_11, .int f223_12, .int f223_13, .int f223_14, .int f223_15]))] _ := va_P.cons hat224 hP
      refine va_getN (D := D) (ci := 2) (v := .int f224_2) (C := RX2) (T := TX2) (N := 3) hx hb hts iX7_count_2 hown hN.1 hP 0 rfl rfl 2 (by decide) (hN.f 4 rfl) (fun _ h9 => h9) rfl dX7_count_86 ?_
      exact en_i hx hb hr hlocks hL rfl (Nat.zero_le _) (Nat.zero_le _) dX7_count_89 (⟨hT, hF⟩)
    · refine lv_tableIn (tgt := 90) (off := 89) hx hb dX7_count_1 (by decide) (by decide) (by decide) (by decide) ?_
      refine lv_aload_n hx hb dX7_count_90 rfl (lv_at hl 0 rfl) ?_
      obtain ⟨hb225, e225, hat225, hk225⟩ := hT.o8 hw.1
      obtain ⟨f225_0, f225_1, f225_2, f225_3, f225_4, f225_5, f225_6, f225_7, f225_8, f225_9, f225_10, f225_11, f225_12, f225_13, f225_14, f225_15, rfl, t225_0, c225_su, t225_1, t225_2, t225_3, t225_4, t225_5, c225_tm⟩ := hk225
      rw [hw.2] at t225_1
      rw [hw.2] at t225_2
      rw [hw.2] at t225_3
      rw [hw.2] at t225_4
      rw [hw.2] at t225_5
      have hP : va_P D vwCl [(w, .inr (7, [.ref f225_0, .ref f225_1, .ref f225_2, .ref f225_3, .ref f225_4, .ref f225_5, .long f225_6, .int f225_7, .int f225_8, .int f225_9, .int f225_10, .int f225_11, .int f225_12, .int f225_13, .int f225_14, .int f225_15]))] _ := va_P.cons hat225 va_P.nil
      refine va_get (D := D) (ci := 7) (v := .int f225_9) (C := RX7) (T := TX7) (N := 16) hx hb hts iX7_count_7 hown hN.1 hP 0 rfl rfl 9 (by decide) (hts _ mX7_count_5) (fun _ h9 => h9) rfl dX7_count_91 ?_
      exact en_i hx hb hr hlocks hL rfl (Nat.zero_le _) (Nat.zero_le _) dX7_count_94 (⟨hT, hF⟩)
    · refine lv_tableIn (tgt := 95) (off := 94) hx hb dX7_count_1 (by decide) (by decide) (by decide) (by decide) ?_
      refine lv_aload_n hx hb dX7_count_95 rfl (lv_at hl 0 rfl) ?_
      obtain ⟨hb226, e226, hat226, hk226⟩ := hT.o8 hw.1
      obtain ⟨f226_0, f226_1, f226_2, f226_3, f226_4, f226_5, f226_6, f226_7, f226_8, f226_9, f226_10, f226_11, f226_12, f226_13, f226_14, f226_15, rfl, t226_0, c226_su, t226_1, t226_2, t226_3, t226_4, t226_5, c226_tm⟩ := hk226
      rw [hw.2] at t226_1
      rw [hw.2] at t226_2
      rw [hw.2] at t226_3
      rw [hw.2] at t226_4
      rw [hw.2] at t226_5
      have hP : va_P D vwCl [(w, .inr (7, [.ref f226_0, .ref f226_1, .ref f226_2, .ref f226_3, .ref f226_4, .ref f226_5, .long f226_6, .int f226_7, .int f226_8, .int f226_9, .int f226_10, .int f226_11, .int f226_12, .int f226_13, .int f226_14, .int f226_15]))] _ := va_P.cons hat226 va_P.nil
      refine va_get (D := D) (ci := 7) (v := .int f226_10) (C := RX7) (T := TX7) (N := 16) hx hb hts iX7_count_7 hown hN.1 hP 0 rfl rfl 10 (by decide) (hts _ mX7_count_6) (fun _ h9 => h9) rfl dX7_count_96 ?_
      exact en_i hx hb hr hlocks hL rfl (Nat.zero_le _) (Nat.zero_le _) dX7_count_99 (⟨hT, hF⟩)
    · refine lv_tableIn (tgt := 100) (off := 99) hx hb dX7_count_1 (by decide) (by decide) (by decide) (by decide) ?_
      refine lv_aload_n hx hb dX7_count_100 rfl (lv_at hl 0 rfl) ?_
      obtain ⟨hb227, e227, hat227, hk227⟩ := hT.o8 hw.1
      obtain ⟨f227_0, f227_1, f227_2, f227_3, f227_4, f227_5, f227_6, f227_7, f227_8, f227_9, f227_10, f227_11, f227_12, f227_13, f227_14, f227_15, rfl, t227_0, c227_su, t227_1, t227_2, t227_3, t227_4, t227_5, c227_tm⟩ := hk227
      rw [hw.2] at t227_1
      rw [hw.2] at t227_2
      rw [hw.2] at t227_3
      rw [hw.2] at t227_4
      rw [hw.2] at t227_5
      have hP : va_P D vwCl [(w, .inr (7, [.ref f227_0, .ref f227_1, .ref f227_2, .ref f227_3, .ref f227_4, .ref f227_5, .long f227_6, .int f227_7, .int f227_8, .int f227_9, .int f227_10, .int f227_11, .int f227_12, .int f227_13, .int f227_14, .int f227_15]))] _ := va_P.cons hat227 va_P.nil
      refine va_get (D := D) (ci := 7) (v := .int f227_11) (C := RX7) (T := TX7) (N := 16) hx hb hts iX7_count_7 hown hN.1 hP 0 rfl rfl 11 (by decide) (hts _ mX7_count_7) (fun _ h9 => h9) rfl dX7_count_101 ?_
      exact en_i hx hb hr hlocks hL rfl (Nat.zero_le _) (Nat.zero_le _) dX7_count_104 (⟨hT, hF⟩)
    · refine lv_tableIn (tgt := 105) (off := 104) hx hb dX7_count_1 (by decide) (by decide) (by decide) (by decide) ?_
      refine lv_aload_n hx hb dX7_count_105 rfl (lv_at hl 0 rfl) ?_
      obtain ⟨hb228, e228, hat228, hk228⟩ := hT.o8 hw.1
      obtain ⟨f228_0, f228_1, f228_2, f228_3, f228_4, f228_5, f228_6, f228_7, f228_8, f228_9, f228_10, f228_11, f228_12, f228_13, f228_14, f228_15, rfl, t228_0, c228_su, t228_1, t228_2, t228_3, t228_4, t228_5, c228_tm⟩ := hk228
      rw [hw.2] at t228_1
      rw [hw.2] at t228_2
      rw [hw.2] at t228_3
      rw [hw.2] at t228_4
      rw [hw.2] at t228_5
      have hP : va_P D vwCl [(w, .inr (7, [.ref f228_0, .ref f228_1, .ref f228_2, .ref f228_3, .ref f228_4, .ref f228_5, .long f228_6, .int f228_7, .int f228_8, .int f228_9, .int f228_10, .int f228_11, .int f228_12, .int f228_13, .int f228_14, .int f228_15]))] _ := va_P.cons hat228 va_P.nil
      refine va_get (D := D) (ci := 7) (v := .int f228_12) (C := RX7) (T := TX7) (N := 16) hx hb hts iX7_count_7 hown hN.1 hP 0 rfl rfl 12 (by decide) (hts _ mX7_count_8) (fun _ h9 => h9) rfl dX7_count_106 ?_
      exact en_i hx hb hr hlocks hL rfl (Nat.zero_le _) (Nat.zero_le _) dX7_count_109 (⟨hT, hF⟩)
    · refine lv_tableIn (tgt := 110) (off := 109) hx hb dX7_count_1 (by decide) (by decide) (by decide) (by decide) ?_
      refine lv_aload_n hx hb dX7_count_110 rfl (lv_at hl 0 rfl) ?_
      obtain ⟨hb229, e229, hat229, hk229⟩ := hT.o8 hw.1
      obtain ⟨f229_0, f229_1, f229_2, f229_3, f229_4, f229_5, f229_6, f229_7, f229_8, f229_9, f229_10, f229_11, f229_12, f229_13, f229_14, f229_15, rfl, t229_0, c229_su, t229_1, t229_2, t229_3, t229_4, t229_5, c229_tm⟩ := hk229
      rw [hw.2] at t229_1
      rw [hw.2] at t229_2
      rw [hw.2] at t229_3
      rw [hw.2] at t229_4
      rw [hw.2] at t229_5
      have hP : va_P D vwCl [(w, .inr (7, [.ref f229_0, .ref f229_1, .ref f229_2, .ref f229_3, .ref f229_4, .ref f229_5, .long f229_6, .int f229_7, .int f229_8, .int f229_9, .int f229_10, .int f229_11, .int f229_12, .int f229_13, .int f229_14, .int f229_15]))] _ := va_P.cons hat229 va_P.nil
      refine va_get (D := D) (ci := 7) (v := .int f229_13) (C := RX7) (T := TX7) (N := 16) hx hb hts iX7_count_7 hown hN.1 hP 0 rfl rfl 13 (by decide) (hts _ mX7_count_9) (fun _ h9 => h9) rfl dX7_count_111 ?_
      exact en_i hx hb hr hlocks hL rfl (Nat.zero_le _) (Nat.zero_le _) dX7_count_114 (⟨hT, hF⟩)
    · refine lv_tableIn (tgt := 115) (off := 114) hx hb dX7_count_1 (by decide) (by decide) (by decide) (by decide) ?_
      refine lv_aload_n hx hb dX7_count_115 rfl (lv_at hl 0 rfl) ?_
      refine cv_i (As := []) (rest := []) (b := w) ⟨hx, hb, hml, hown, hts⟩ (c_X7_countSongs hT (w := w) hw) (cwV 0 hts gX7_count_X7_countSongs rfl rfl rfl hdX7_countSongs_v ⟨Nat.le_of_ble_eq_true rfl, Nat.le_of_ble_eq_true rfl⟩) hN hL (rcv8 hN hT hw.1) rfl rfl hl.1 (Nat.le_of_ble_eq_true rfl) dX7_count_116 (Nat.zero_le _) (Nat.zero_le _) (fun r230 H1 locs hL hqr230 => ?_)
      obtain rfl := hqr230
      exact en_i hx hb hr hlocks hL rfl (Nat.zero_le _) (Nat.zero_le _) dX7_count_119 (⟨hT, hF⟩)
    · refine lv_tableIn (tgt := 120) (off := 119) hx hb dX7_count_1 (by decide) (by decide) (by decide) (by decide) ?_
      refine lv_aload_n hx hb dX7_count_120 rfl (lv_at hl 0 rfl) ?_
      obtain ⟨hb231, e231, hat231, hk231⟩ := hT.o8 hw.1
      obtain ⟨f231_0, f231_1, f231_2, f231_3, f231_4, f231_5, f231_6, f231_7, f231_8, f231_9, f231_10, f231_11, f231_12, f231_13, f231_14, f231_15, rfl, t231_0, c231_su, t231_1, t231_2, t231_3, t231_4, t231_5, c231_tm⟩ := hk231
      rw [hw.2] at t231_1
      rw [hw.2] at t231_2
      rw [hw.2] at t231_3
      rw [hw.2] at t231_4
      rw [hw.2] at t231_5
      have hP : va_P D vwCl [(w, .inr (7, [.ref f231_0, .ref f231_1, .ref f231_2, .ref f231_3, .ref f231_4, .ref f231_5, .long f231_6, .int f231_7, .int f231_8, .int f231_9, .int f231_10, .int f231_11, .int f231_12, .int f231_13, .int f231_14, .int f231_15]))] _ := va_P.cons hat231 va_P.nil
      refine va_get (D := D) (ci := 7) (v := .int f231_14) (C := RX7) (T := TX7) (N := 16) hx hb hts iX7_count_7 hown hN.1 hP 0 rfl rfl 14 (by decide) (hts _ mX7_count_10) (fun _ h9 => h9) rfl dX7_count_121 ?_
      exact en_i hx hb hr hlocks hL rfl (Nat.zero_le _) (Nat.zero_le _) dX7_count_124 (⟨hT, hF⟩)
    · refine lv_tableIn (tgt := 125) (off := 124) hx hb dX7_count_1 (by decide) (by decide) (by decide) (by decide) ?_
      refine lv_aload_n hx hb dX7_count_125 rfl (lv_at hl 0 rfl) ?_
      obtain ⟨hb232, e232, hat232, hk232⟩ := hT.o8 hw.1
      obtain ⟨f232_0, f232_1, f232_2, f232_3, f232_4, f232_5, f232_6, f232_7, f232_8, f232_9, f232_10, f232_11, f232_12, f232_13, f232_14, f232_15, rfl, t232_0, c232_su, t232_1, t232_2, t232_3, t232_4, t232_5, c232_tm⟩ := hk232
      rw [hw.2] at t232_1
      rw [hw.2] at t232_2
      rw [hw.2] at t232_3
      rw [hw.2] at t232_4
      rw [hw.2] at t232_5
      have hP : va_P D vwCl [(w, .inr (7, [.ref f232_0, .ref f232_1, .ref f232_2, .ref f232_3, .ref f232_4, .ref f232_5, .long f232_6, .int f232_7, .int f232_8, .int f232_9, .int f232_10, .int f232_11, .int f232_12, .int f232_13, .int f232_14, .int f232_15]))] _ := va_P.cons hat232 va_P.nil
      refine va_get (D := D) (ci := 7) (v := .int f232_15) (C := RX7) (T := TX7) (N := 16) hx hb hts iX7_count_7 hown hN.1 hP 0 rfl rfl 15 (by decide) (hts _ mX7_count_11) (fun _ h9 => h9) rfl dX7_count_126 ?_
      exact en_i hx hb hr hlocks hL rfl (Nat.zero_le _) (Nat.zero_le _) dX7_count_129 (⟨hT, hF⟩)
theorem hdX7_error_v : yX7_error.cls = RX7 ∧ yX7_error.cls ≠ "java/lang/invoke/MethodHandle" ∧ yX7_error.cls ≠ "java/lang/invoke/VarHandle" ∧ (parseMethodDescriptor yX7_error.desc).map (fun d => d.parameters.length) = some 1 := by decide +kernel
theorem sw_0_8 {x : Int32} (h : ¬ (x.toInt < (0 : Int) ∨ (8 : Int) < x.toInt)) : x = 0 ∨ x = 1 ∨ x = 2 ∨ x = 3 ∨ x = 4 ∨ x = 5 ∨ x = 6 ∨ x = 7 ∨ x = 8 := by
  have h2 : x.toInt = (0 : Int) ∨ x.toInt = (1 : Int) ∨ x.toInt = (2 : Int) ∨ x.toInt = (3 : Int) ∨ x.toInt = (4 : Int) ∨ x.toInt = (5 : Int) ∨ x.toInt = (6 : Int) ∨ x.toInt = (7 : Int) ∨ x.toInt = (8 : Int) := by omega
  rcases h2 with h2 | h2 | h2 | h2 | h2 | h2 | h2 | h2 | h2
  · exact Or.inl (Int32.toInt_inj.mp (h2.trans (by decide)))
  · exact Or.inr (Or.inl (Int32.toInt_inj.mp (h2.trans (by decide))))
  · exact Or.inr (Or.inr (Or.inl (Int32.toInt_inj.mp (h2.trans (by decide)))))
  · exact Or.inr (Or.inr (Or.inr (Or.inl (Int32.toInt_inj.mp (h2.trans (by decide))))))
  · exact Or.inr (Or.inr (Or.inr (Or.inr (Or.inl (Int32.toInt_inj.mp (h2.trans (by decide)))))))
  · exact Or.inr (Or.inr (Or.inr (Or.inr (Or.inr (Or.inl (Int32.toInt_inj.mp (h2.trans (by decide))))))))
  · exact Or.inr (Or.inr (Or.inr (Or.inr (Or.inr (Or.inr (Or.inl (Int32.toInt_inj.mp (h2.trans (by decide)))))))))
  · exact Or.inr (Or.inr (Or.inr (Or.inr (Or.inr (Or.inr (Or.inr (Or.inl (Int32.toInt_inj.mp (h2.trans (by decide))))))))))
  · exact Or.inr (Or.inr (Or.inr (Or.inr (Or.inr (Or.inr (Or.inr (Or.inr ((Int32.toInt_inj.mp (h2.trans (by decide)))))))))))
theorem iX7_tellPlayer_3 : ∀ w ∈ wsX30, w ∈ wsX7_tellPlayer := fun w h => List.mem_of_mem_drop (List.mem_of_mem_take ((show wsX30 = (wsX7_tellPlayer.drop 29).take 10 by decide +kernel) ▸ h))
set_option maxHeartbeats 4000000 in
set_option maxRecDepth 100000 in
theorem c_X7_tellPlayer {l : Launch} {D : va_G} {cs : Nat → ClassId} {B0 T : Nat} {κ : KM} {H0 : Heap} (hT : WT B0 D cs T κ H0) {w i : Nat} (hw : T2 κ w 8 i) {x : Int32} {y : Int32} : KC l yX7_tellPlayer wsX7_tellPlayer 4 85 0 0 D cs B0 H0 [.ref w, .int x, .int y] (Qi (fun _ H => H = H0)) := by
  refine KC.of cX7_tellPlayer 4 (some .int) (by decide) rfl (Nat.le_of_ble_eq_true rfl) ?_
  intro p e s m below meth c ls hx hb hr hml hown hts hlocks hin hN hH0 hl
  have hown : s.vm.findClass RX7 = some m.cls := hown
  have hl : lv_has ls 4 [(0, .ref w), (1, .int x), (2, .int y)] := hl
  have hL : OkL B0 [] := OkL.nil
  refine lv_aload_n hx hb dX7_tellPlayer_0 rfl (lv_at hl 0 rfl) ?_
  refine lv_iload_n hx hb dX7_tellPlayer_1 rfl (lv_at hl 1 rfl) ?_
  refine cv_r (As := [.int x]) (rest := []) (b := w) ⟨hx, hb, hml, hown, hts⟩ (c_X7_at hT (w := w) hw (x := x)) (cwV 1 hts gX7_tellPlayer_X7_at rfl rfl rfl hdX7_at_v ⟨Nat.le_of_ble_eq_true rfl, Nat.le_of_ble_eq_true rfl⟩) hN hL (rcv8 hN hT hw.1) rfl rfl hl.1 (Nat.le_of_ble_eq_true rfl) dX7_tellPlayer_2 (Nat.zero_le _) (Nat.zero_le _) (fun r233 H1 locs hL hqr233 => ?_)
  obtain ⟨rfl, hqr233⟩ := hqr233
  refine lv_astore_n (lv' := [(3, .ref r233), (0, .ref w), (1, .int x), (2, .int y)]) hx hb dX7_tellPlayer_5 rfl hl (by decide) rfl (fun ls hl => ?_)
  refine lv_iload_n hx hb dX7_tellPlayer_6 rfl (lv_at hl 3 rfl) ?_
  by_cases c234 : (y : Int32).toInt < (0 : Int) ∨ (8 : Int) < (y : Int32).toInt
  · refine lv_tableOut (tgt := 110) hx hb dX7_tellPlayer_7 c234 (by decide) ?_
    refine lv_aload_n hx hb dX7_tellPlayer_110 rfl (lv_at hl 1 rfl) ?_
    refine lv_iload_n hx hb dX7_tellPlayer_111 rfl (lv_at hl 2 rfl) ?_
    refine cv_i (As := [.int x]) (rest := []) (b := w) ⟨hx, hb, hml, hown, hts⟩ (c_X7_error hT (w := w) hw (x := x)) (cwV 1 hts gX7_tellPlayer_X7_error rfl rfl rfl hdX7_error_v ⟨Nat.le_of_ble_eq_true rfl, Nat.le_of_ble_eq_true rfl⟩) hN hL (rcv8 hN hT hw.1) rfl rfl hl.1 (Nat.le_of_ble_eq_true rfl) dX7_tellPlayer_112 (Nat.zero_le _) (Nat.zero_le _) (fun r235 H1 locs hL hqr235 => ?_)
    obtain rfl := hqr235
    exact en_i hx hb hr hlocks hL rfl (Nat.zero_le _) (Nat.zero_le _) dX7_tellPlayer_115 (rfl)
  · rcases sw_0_8 c234 with rfl | rfl | rfl | rfl | rfl | rfl | rfl | rfl | rfl
    · refine lv_tableIn (tgt := 56) (off := 49) hx hb dX7_tellPlayer_7 (by decide) (by decide) (by decide) (by decide) ?_
      refine lv_aload_n hx hb dX7_tellPlayer_56 rfl (lv_at hl 0 rfl) ?_
      obtain ⟨hb236, e236, hat236, hk236⟩ := hT.o4 hqr233.1
      obtain ⟨f236_0, f236_1, f236_2, f236_3, f236_4, f236_5, f236_6, f236_7, f236_8, f236_9, rfl, c236_up⟩ := hk236
      have hP : va_P D vwCl [(r233, .inr (3, [.int f236_0, .int f236_1, .int f236_2, .int f236_3, .int f236_4, .int f236_5, .int f236_6, .int f236_7, .int f236_8, .int f236_9]))] _ := va_P.cons hat236 va_P.nil
      refine va_getN (D := D) (ci := 3) (v := .int f236_0) (C := RX3) (T := TX3) (N := 10) hx hb hts iX7_tellPlayer_3 hown hN.1 hP 0 rfl rfl 0 (by decide) (hN.f 27 rfl) (fun _ h9 => h9) rfl dX7_tellPlayer_57 ?_
      refine lv_if_eq (tgt := 67) hx hb dX7_tellPlayer_60 (by decide) (fun c237 => ?_) (fun c237 => ?_)
      · refine lv_iconst (v := 0) hx hb dX7_tellPlayer_67 (by decide) ?_
        exact en_i hx hb hr hlocks hL rfl (Nat.zero_le _) (Nat.zero_le _) dX7_tellPlayer_68 (rfl)
      · refine lv_iconst (v := 1) hx hb dX7_tellPlayer_63 (by decide) ?_
        refine lv_goto (tgt := 68) hx hb dX7_tellPlayer_64 (by decide) ?_
        exact en_i hx hb hr hlocks hL rfl (Nat.zero_le _) (Nat.zero_le _) dX7_tellPlayer_68 (rfl)
    · refine lv_tableIn (tgt := 69) (off := 62) hx hb dX7_tellPlayer_7 (by decide) (by decide) (by decide) (by decide) ?_
      refine lv_aload_n hx hb dX7_tellPlayer_69 rfl (lv_at hl 1 rfl) ?_
      refine lv_iload_n hx hb dX7_tellPlayer_70 rfl (lv_at hl 2 rfl) ?_
      refine cv_i (As := [.int x]) (rest := []) (b := w) ⟨hx, hb, hml, hown, hts⟩ (c_X7_clock hT (w := w) hw (x := x)) (cwV 1 hts gX7_tellPlayer_X7_clock rfl rfl rfl hdX7_clock_v ⟨Nat.le_of_ble_eq_true rfl, Nat.le_of_ble_eq_true rfl⟩) hN hL (rcv8 hN hT hw.1) rfl rfl hl.1 (Nat.le_of_ble_eq_true rfl) dX7_tellPlayer_71 (Nat.zero_le _) (Nat.zero_le _) (fun r238 H1 locs hL hqr238 => ?_)
      obtain rfl := hqr238
      exact en_i hx hb hr hlocks hL rfl (Nat.zero_le _) (Nat.zero_le _) dX7_tellPlayer_74 (rfl)
    · refine lv_tableIn (tgt := 75) (off := 68) hx hb dX7_tellPlayer_7 (by decide) (by decide) (by decide) (by decide) ?_
      refine lv_aload_n hx hb dX7_tellPlayer_75 rfl (lv_at hl 0 rfl) ?_
      obtain ⟨hb239, e239, hat239, hk239⟩ := hT.o4 hqr233.1
      obtain ⟨f239_0, f239_1, f239_2, f239_3, f239_4, f239_5, f239_6, f239_7, f239_8, f239_9, rfl, c239_up⟩ := hk239
      have hP : va_P D vwCl [(r233, .inr (3, [.int f239_0, .int f239_1, .int f239_2, .int f239_3, .int f239_4, .int f239_5, .int f239_6, .int f239_7, .int f239_8, .int f239_9]))] _ := va_P.cons hat239 va_P.nil
      refine va_getN (D := D) (ci := 3) (v := .int f239_1) (C := RX3) (T := TX3) (N := 10) hx hb hts iX7_tellPlayer_3 hown hN.1 hP 0 rfl rfl 1 (by decide) (hN.f 29 rfl) (fun _ h9 => h9) rfl dX7_tellPlayer_76 ?_
      exact en_i hx hb hr hlocks hL rfl (Nat.zero_le _) (Nat.zero_le _) dX7_tellPlayer_79 (rfl)
    · refine lv_tableIn (tgt := 80) (off := 73) hx hb dX7_tellPlayer_7 (by decide) (by decide) (by decide) (by decide) ?_
      refine lv_aload_n hx hb dX7_tellPlayer_80 rfl (lv_at hl 0 rfl) ?_
      obtain ⟨hb240, e240, hat240, hk240⟩ := hT.o4 hqr233.1
      obtain ⟨f240_0, f240_1, f240_2, f240_3, f240_4, f240_5, f240_6, f240_7, f240_8, f240_9, rfl, c240_up⟩ := hk240
      have hP : va_P D vwCl [(r233, .inr (3, [.int f240_0, .int f240_1, .int f240_2, .int f240_3, .int f240_4, .int f240_5, .int f240_6, .int f240_7, .int f240_8, .int f240_9]))] _ := va_P.cons hat240 va_P.nil
      refine va_getN (D := D) (ci := 3) (v := .int f240_2) (C := RX3) (T := TX3) (N := 10) hx hb hts iX7_tellPlayer_3 hown hN.1 hP 0 rfl rfl 2 (by decide) (hN.f 30 rfl) (fun _ h9 => h9) rfl dX7_tellPlayer_81 ?_
      exact en_i hx hb hr hlocks hL rfl (Nat.zero_le _) (Nat.zero_le _) dX7_tellPlayer_84 (rfl)
    · refine lv_tableIn (tgt := 85) (off := 78) hx hb dX7_tellPlayer_7 (by decide) (by decide) (by decide) (by decide) ?_
      refine lv_aload_n hx hb dX7_tellPlayer_85 rfl (lv_at hl 0 rfl) ?_
      obtain ⟨hb241, e241, hat241, hk241⟩ := hT.o4 hqr233.1
      obtain ⟨f241_0, f241_1, f241_2, f241_3, f241_4, f241_5, f241_6, f241_7, f241_8, f241_9, rfl, c241_up⟩ := hk241
      have hP : va_P D vwCl [(r233, .inr (3, [.int f241_0, .int f241_1, .int f241_2, .int f241_3, .int f241_4, .int f241_5, .int f241_6, .int f241_7, .int f241_8, .int f241_9]))] _ := va_P.cons hat241 va_P.nil
      refine va_getN (D := D) (ci := 3) (v := .int f241_3) (C := RX3) (T := TX3) (N := 10) hx hb hts iX7_tellPlayer_3 hown hN.1 hP 0 rfl rfl 3 (by decide) (hN.f 31 rfl) (fun _ h9 => h9) rfl dX7_tellPlayer_86 ?_
      exact en_i hx hb hr hlocks hL rfl (Nat.zero_le _) (Nat.zero_le _) dX7_tellPlayer_89 (rfl)
    · refine lv_tableIn (tgt := 90) (off := 83) hx hb dX7_tellPlayer_7 (by decide) (by decide) (by decide) (by decide) ?_
      refine lv_aload_n hx hb dX7_tellPlayer_90 rfl (lv_at hl 0 rfl) ?_
      obtain ⟨hb242, e242, hat242, hk242⟩ := hT.o4 hqr233.1
      obtain ⟨f242_0, f242_1, f242_2, f242_3, f242_4, f242_5, f242_6, f242_7, f242_8, f242_9, rfl, c242_up⟩ := hk242
      have hP : va_P D vwCl [(r233, .inr (3, [.int f242_0, .int f242_1, .int f242_2, .int f242_3, .int f242_4, .int f242_5, .int f242_6, .int f242_7, .int f242_8, .int f242_9]))] _ := va_P.cons hat242 va_P.nil
      refine va_getN (D := D) (ci := 3) (v := .int f242_4) (C := RX3) (T := TX3) (N := 10) hx hb hts iX7_tellPlayer_3 hown hN.1 hP 0 rfl rfl 4 (by decide) (hN.f 32 rfl) (fun _ h9 => h9) rfl dX7_tellPlayer_91 ?_
      exact en_i hx hb hr hlocks hL rfl (Nat.zero_le _) (Nat.zero_le _) dX7_tellPlayer_94 (rfl)
    · refine lv_tableIn (tgt := 95) (off := 88) hx hb dX7_tellPlayer_7 (by decide) (by decide) (by decide) (by decide) ?_
      refine lv_aload_n hx hb dX7_tellPlayer_95 rfl (lv_at hl 0 rfl) ?_
      obtain ⟨hb243, e243, hat243, hk243⟩ := hT.o4 hqr233.1
      obtain ⟨f243_0, f243_1, f243_2, f243_3, f243_4, f243_5, f243_6, f243_7, f243_8, f243_9, rfl, c243_up⟩ := hk243
      have hP : va_P D vwCl [(r233, .inr (3, [.int f243_0, .int f243_1, .int f243_2, .int f243_3, .int f243_4, .int f243_5, .int f243_6, .int f243_7, .int f243_8, .int f243_9]))] _ := va_P.cons hat243 va_P.nil
      refine va_getN (D := D) (ci := 3) (v := .int f243_7) (C := RX3) (T := TX3) (N := 10) hx hb hts iX7_tellPlayer_3 hown hN.1 hP 0 rfl rfl 7 (by decide) (hN.f 34 rfl) (fun _ h9 => h9) rfl dX7_tellPlayer_96 ?_
      exact en_i hx hb hr hlocks hL rfl (Nat.zero_le _) (Nat.zero_le _) dX7_tellPlayer_99 (rfl)
    · refine lv_tableIn (tgt := 100) (off := 93) hx hb dX7_tellPlayer_7 (by decide) (by decide) (by decide) (by decide) ?_
      refine lv_aload_n hx hb dX7_tellPlayer_100 rfl (lv_at hl 0 rfl) ?_
      obtain ⟨hb244, e244, hat244, hk244⟩ := hT.o4 hqr233.1
      obtain ⟨f244_0, f244_1, f244_2, f244_3, f244_4, f244_5, f244_6, f244_7, f244_8, f244_9, rfl, c244_up⟩ := hk244
      have hP : va_P D vwCl [(r233, .inr (3, [.int f244_0, .int f244_1, .int f244_2, .int f244_3, .int f244_4, .int f244_5, .int f244_6, .int f244_7, .int f244_8, .int f244_9]))] _ := va_P.cons hat244 va_P.nil
      refine va_getN (D := D) (ci := 3) (v := .int f244_8) (C := RX3) (T := TX3) (N := 10) hx hb hts iX7_tellPlayer_3 hown hN.1 hP 0 rfl rfl 8 (by decide) (hN.f 35 rfl) (fun _ h9 => h9) rfl dX7_tellPlayer_101 ?_
      exact en_i hx hb hr hlocks hL rfl (Nat.zero_le _) (Nat.zero_le _) dX7_tellPlayer_104 (rfl)
    · refine lv_tableIn (tgt := 105) (off := 98) hx hb dX7_tellPlayer_7 (by decide) (by decide) (by decide) (by decide) ?_
      refine lv_aload_n hx hb dX7_tellPlayer_105 rfl (lv_at hl 0 rfl) ?_
      obtain ⟨hb245, e245, hat245, hk245⟩ := hT.o4 hqr233.1
      obtain ⟨f245_0, f245_1, f245_2, f245_3, f245_4, f245_5, f245_6, f245_7, f245_8, f245_9, rfl, c245_up⟩ := hk245
      have hP : va_P D vwCl [(r233, .inr (3, [.int f245_0, .int f245_1, .int f245_2, .int f245_3, .int f245_4, .int f245_5, .int f245_6, .int f245_7, .int f245_8, .int f245_9]))] _ := va_P.cons hat245 va_P.nil
      refine va_getN (D := D) (ci := 3) (v := .int f245_9) (C := RX3) (T := TX3) (N := 10) hx hb hts iX7_tellPlayer_3 hown hN.1 hP 0 rfl rfl 9 (by decide) (hN.f 36 rfl) (fun _ h9 => h9) rfl dX7_tellPlayer_106 ?_
      exact en_i hx hb hr hlocks hL rfl (Nat.zero_le _) (Nat.zero_le _) dX7_tellPlayer_109 (rfl)
theorem mX2_read_1 : (.fieldLink RX2 14 "OneBeat$Mail" "counts" "[I" : Cond) ∈ wsX2_read := List.mem_of_getElem? (i := 1) (by decide +kernel)
theorem iX2_read_2 : ∀ w ∈ wsX20, w ∈ wsX2_read := fun w h => List.mem_of_mem_drop (List.mem_of_mem_take ((show wsX20 = (wsX2_read.drop 3).take 3 by decide +kernel) ▸ h))
theorem mX2_read_2 : (.fieldLink RX2 11 "OneBeat$Mail" "rows" "[[I" : Cond) ∈ wsX2_read := List.mem_of_getElem? (i := 2) (by decide +kernel)
theorem iX2_read_1 : ∀ w ∈ wsX10, w ∈ wsX2_read := fun w h => List.mem_of_mem_drop (List.mem_of_mem_take ((show wsX10 = (wsX2_read.drop 6).take 7 by decide +kernel) ▸ h))
set_option maxHeartbeats 4000000 in
set_option maxRecDepth 100000 in
theorem c_X2_read {l : Launch} {D : va_G} {cs : Nat → ClassId} {B0 T : Nat} {κ : KM} {H0 : Heap} (hT : WT B0 D cs T κ H0) {w v o i : Nat} (hw : T2 κ w 3 o) {x y : Int32} (hv : T2 κ v 2 i) : KC l yX2_read wsX2_read 0 0 0 0 D cs B0 H0 [.ref w, .int x, .int y, .ref v] (Qi (fun r H => WT B0 D cs T κ H ∧ Fr B0 [i] κ H0 H ∧ (r = 0 ∨ r = 1))) := by
  refine KC.of cX2_read 7 (some .boolean) (by decide) rfl (Nat.le_of_ble_eq_true rfl) ?_
  intro p e s m below meth c ls hx hb hr hml hown hts hlocks hin hN hH0 hl
  have hown : s.vm.findClass RX2 = some m.cls := hown
  have hl : lv_has ls 7 [(0, .ref w), (1, .int x), (2, .int y), (3, .ref v)] := hl
  have hL : OkL B0 [] := OkL.nil
  have hF : Fr B0 [i] κ H0 H0 := Fr.rf
  refine lv_iload_n hx hb dX2_read_0 rfl (lv_at hl 1 rfl) ?_
  refine lv_bipush (v := 15) hx hb dX2_read_1 (by decide) ?_
  refine lv_iand hx hb dX2_read_3 ?_
  have hj246 := m15_lt x
  refine tp_i (nI (m15 x)) (and15 x) ?_
  refine lv_istore (lv' := [(4, .int (nI (m15 x))), (0, .ref w), (1, .int x), (2, .int y), (3, .ref v)]) hx hb dX2_read_4 hl (by decide) rfl (fun ls hl => ?_)
  refine lv_iload_n hx hb dX2_read_6 rfl (lv_at hl 3 rfl) ?_
  refine lv_if_lt (tgt := 38) hx hb dX2_read_7 (by decide) (fun c247 => ?_) (fun c247 => ?_)
  · refine lv_iconst (v := 0) hx hb dX2_read_38 (by decide) ?_
    exact en_i hx hb hr hlocks hL rfl (Nat.zero_le _) (Nat.zero_le _) dX2_read_39 (⟨hT, hF, Or.inl rfl⟩)
  · refine lv_iload_n hx hb dX2_read_10 rfl (lv_at hl 3 rfl) ?_
    refine lv_aload_n hx hb dX2_read_11 rfl (lv_at hl 1 rfl) ?_
    obtain ⟨hb248, e248, hat248, hk248⟩ := hT.o3 hw.1
    obtain ⟨f248_0, f248_1, f248_2, rfl, t248_0, t248_1⟩ := hk248
    rw [hw.2] at t248_0
    rw [hw.2] at t248_1
    have hP : va_P D vwCl [(w, .inr (2, [.ref f248_0, .ref f248_1, .int f248_2]))] _ := va_P.cons hat248 va_P.nil
    refine va_get (D := D) (ci := 2) (v := .ref f248_1) (C := RX2) (T := TX2) (N := 3) hx hb hts iX2_read_2 hown hN.1 hP 0 rfl rfl 1 (by decide) (hts _ mX2_read_1) (fun _ h9 => h9) rfl dX2_read_12 ?_
    refine lv_iload hx hb dX2_read_15 (lv_at hl 0 rfl) ?_
    obtain ⟨hb249, e249, hat249, hk249⟩ := hT.o15 t248_1.1
    obtain ⟨g249, rfl, q249⟩ := hk249
    have hP : va_P D vwCl [(f248_1, .inl (cs 0, 16, .inl g249)), (w, .inr (2, [.ref f248_0, .ref f248_1, .int f248_2]))] _ := va_P.cons hat249 hP
    refine ld_i (v := (g249 (m15 x))) hx hb hN hP 0 rfl (vp_in_nI (n := (m15 x)) (N := 16) (by omega) (by omega)) (by rw [(show ((nI (m15 x)) : Int32).toNatClampNeg = (m15 x) from nI_clamp (n := (m15 x)) (by omega))]) dX2_read_17 ?_
    obtain ⟨n250, hn250, en250⟩ := q249 (m15 x) (by omega)
    refine tp_i (nI n250) en250 ?_
    refine lv_icmp_ge (tgt := 38) hx hb dX2_read_18 (by decide) (fun c251 => ?_) (fun c251 => ?_)
    · refine lv_iconst (v := 0) hx hb dX2_read_38 (by decide) ?_
      exact en_i hx hb hr hlocks hL rfl (Nat.zero_le _) (Nat.zero_le _) dX2_read_39 (⟨hT, hF, Or.inl rfl⟩)
    · obtain ⟨k252, hk252, rfl⟩ := small_lt c247 c251
      refine lv_iload_n hx hb dX2_read_21 rfl (lv_at hl 3 rfl) ?_
      refine lv_iconst (v := 1) hx hb dX2_read_22 (by decide) ?_
      refine lv_iadd hx hb dX2_read_23 ?_
      refine tp_i (nI (k252 + 1)) (nI_add k252 1) ?_
      refine lv_bipush (v := 7) hx hb dX2_read_24 (by decide) ?_
      refine lv_imul hx hb dX2_read_26 ?_
      refine tp_i (nI ((k252 + 1) * 7)) (nI_mul (k252 + 1) 7) ?_
      refine lv_aload_n hx hb dX2_read_27 rfl (lv_at hl 1 rfl) ?_
      refine va_get (D := D) (ci := 2) (v := .ref f248_0) (C := RX2) (T := TX2) (N := 3) hx hb hts iX2_read_2 hown hN.1 hP 1 rfl rfl 0 (by decide) (hts _ mX2_read_2) (fun _ h9 => h9) rfl dX2_read_28 ?_
      refine lv_iload hx hb dX2_read_31 (lv_at hl 0 rfl) ?_
      obtain ⟨hb253, e253, hat253, hk253⟩ := hT.o13 t248_0.1
      obtain ⟨g253, rfl, q253⟩ := hk253
      rw [t248_0.2] at q253
      have hP : va_P D vwCl [(f248_0, .inl (cs 6, 16, .inr (.inr (.inr (.inr g253))))), (f248_1, .inl (cs 0, 16, .inl g249)), (w, .inr (2, [.ref f248_0, .ref f248_1, .int f248_2]))] _ := va_P.cons hat253 hP
      obtain ⟨a254, ea254, ta254, ua254⟩ := q253 (m15 x) (by omega)
      refine ld_a (v := .ref a254) hx hb hN hP 0 rfl (vp_in_nI (n := (m15 x)) (N := 16) (by omega) (by omega)) (by rw [(show ((nI (m15 x)) : Int32).toNatClampNeg = (m15 x) from nI_clamp (n := (m15 x)) (by omega)), ea254]; rfl) dX2_read_33 ?_
      obtain ⟨hb255, e255, hat255, hk255⟩ := hT.o14 ta254.1
      obtain ⟨n255, g255, rfl, q255⟩ := hk255
      have hP : va_P D vwCl [(a254, .inl (cs 0, n255, .inl g255)), (f248_0, .inl (cs 6, 16, .inr (.inr (.inr (.inr g253))))), (f248_1, .inl (cs 0, 16, .inl g249)), (w, .inr (2, [.ref f248_0, .ref f248_1, .int f248_2]))] _ := va_P.cons hat255 hP
      refine va_alen (v := (nI n255)) hx hb hN.1 hP 0 0 rfl rfl rfl dX2_read_34 ?_
      refine lv_icmp_le (tgt := 40) hx hb dX2_read_35 (by decide) (fun c256 => ?_) (fun c256 => ?_)
      · have c256 : ((k252 + 1) * 7) ≤ n255 := (nI_leI (a := ((k252 + 1) * 7)) (b := n255) (by omega) (by omega)).mp c256
        refine lv_aload_n hx hb dX2_read_40 rfl (lv_at hl 1 rfl) ?_
        refine va_get (D := D) (ci := 2) (v := .ref f248_0) (C := RX2) (T := TX2) (N := 3) hx hb hts iX2_read_2 hown hN.1 hP 3 rfl rfl 0 (by decide) (hts _ mX2_read_2) (fun _ h9 => h9) rfl dX2_read_41 ?_
        refine lv_iload hx hb dX2_read_44 (lv_at hl 0 rfl) ?_
        obtain ⟨a257, ea257, ta257, ua257⟩ := q253 (m15 x) (by omega)
        refine ld_a (v := .ref a257) hx hb hN hP 1 rfl (vp_in_nI (n := (m15 x)) (N := 16) (by omega) (by omega)) (by rw [(show ((nI (m15 x)) : Int32).toNatClampNeg = (m15 x) from nI_clamp (n := (m15 x)) (by omega)), ea257]; rfl) dX2_read_46 ?_
        refine lv_astore (lv' := [(5, .ref a257), (4, .int (nI (m15 x))), (0, .ref w), (1, .int x), (2, .int (nI k252)), (3, .ref v)]) hx hb dX2_read_47 hl (by decide) rfl (fun ls hl => ?_)
        refine lv_iload_n hx hb dX2_read_49 rfl (lv_at hl 4 rfl) ?_
        refine lv_bipush (v := 7) hx hb dX2_read_50 (by decide) ?_
        refine lv_imul hx hb dX2_read_52 ?_
        refine tp_i (nI (k252 * 7)) (nI_mul k252 7) ?_
        refine lv_istore (lv' := [(6, .int (nI (k252 * 7))), (5, .ref a257), (4, .int (nI (m15 x))), (0, .ref w), (1, .int x), (2, .int (nI k252)), (3, .ref v)]) hx hb dX2_read_53 hl (by decide) rfl (fun ls hl => ?_)
        refine lv_aload_n hx hb dX2_read_55 rfl (lv_at hl 6 rfl) ?_
        refine lv_aload hx hb dX2_read_56 (lv_at hl 1 rfl) ?_
        refine lv_iload hx hb dX2_read_58 (lv_at hl 0 rfl) ?_
        obtain ⟨hb258, e258, hat258, hk258⟩ := hT.o14 ta257.1
        obtain ⟨n258, g258, rfl, q258⟩ := hk258
        have hP : va_P D vwCl [(a257, .inl (cs 0, n258, .inl g258)), (a254, .inl (cs 0, n255, .inl g255)), (f248_0, .inl (cs 6, 16, .inr (.inr (.inr (.inr g253))))), (f248_1, .inl (cs 0, 16, .inl g249)), (w, .inr (2, [.ref f248_0, .ref f248_1, .int f248_2]))] _ := va_P.cons hat258 hP
        refine ld_i (v := (g258 (k252 * 7))) hx hb hN hP 0 rfl (vp_in_nI (n := (k252 * 7)) (N := n258) (by omega) (by omega)) (by rw [(show ((nI (k252 * 7)) : Int32).toNatClampNeg = (k252 * 7) from nI_clamp (n := (k252 * 7)) (by omega))]) dX2_read_60 ?_
        refine gn_i (fun x259 => ?_)
        obtain ⟨hb260, e260, hat260, hk260⟩ := hT.o2 hv.1
        obtain ⟨f260_0, f260_1, f260_2, f260_3, f260_4, f260_5, f260_6, rfl⟩ := hk260
        have hP : va_P D vwCl [(v, .inr (1, [.int f260_0, .int f260_1, .int f260_2, .int f260_3, .int f260_4, .int f260_5, .int f260_6])), (a257, .inl (cs 0, n258, .inl g258)), (a254, .inl (cs 0, n255, .inl g255)), (f248_0, .inl (cs 6, 16, .inr (.inr (.inr (.inr g253))))), (f248_1, .inl (cs 0, 16, .inl g249)), (w, .inr (2, [.ref f248_0, .ref f248_1, .int f248_2]))] _ := va_P.cons hat260 hP
        have hP : va_P D vwCl [(v, .inr (1, [.int f260_0, .int f260_1, .int f260_2, .int f260_3, .int f260_4, .int f260_5, .int f260_6]))] _ := hP.sub [0] rfl
        have hB : Bx B0 D _ [(v, .inr (1, [.int f260_0, .int f260_1, .int f260_2, .int f260_3, .int f260_4, .int f260_5, .int f260_6]))] [] _ _ := Bx.of (fun a => (κ a).1) hL hP (fa_c hb260 fa_n) (by simp only [List.map_cons, List.map_nil, hv.1]; decide)
        refine b_putN (D := D) (ci := 1) (v := .int x259) (ty := .int) (C := RX1) (T := TX1) (N := 7) hx hb hts iX2_read_1 tyX1 tyX1_ok nmX1 hown hN hB 0 rfl rfl 0 (by decide) (hN.f 13 rfl) (fun _ h9 => h9) rfl (by decide +kernel) rfl rfl (Nat.le_of_ble_eq_true rfl) (.inl rfl) dX2_read_61 (fun H locs hB => ?_)
        have hB : Bx B0 D _ [(v, .inr (1, [.int x259, .int f260_1, .int f260_2, .int f260_3, .int f260_4, .int f260_5, .int f260_6]))] [v] _ _ := hB
        refine lv_aload_n hx hb dX2_read_64 rfl (lv_at hl 6 rfl) ?_
        refine lv_aload hx hb dX2_read_65 (lv_at hl 1 rfl) ?_
        refine lv_iload hx hb dX2_read_67 (lv_at hl 0 rfl) ?_
        refine lv_iconst (v := 1) hx hb dX2_read_69 (by decide) ?_
        refine lv_iadd hx hb dX2_read_70 ?_
        refine tp_i (nI ((k252 * 7) + 1)) (nI_add (k252 * 7) 1) ?_
        obtain ⟨hb261, e261, hat261, hk261⟩ := hT.o14 ta257.1
        obtain ⟨n261, g261, rfl, q261⟩ := hk261
        have hB : Bx B0 D _ [(v, .inr (1, [.int x259, .int f260_1, .int f260_2, .int f260_3, .int f260_4, .int f260_5, .int f260_6])), (a257, .inl (cs 0, n261, .inl g261))] [v] _ _ := hB.more hat261 hb261 (fa_c (ne_c hv.1 ta257.1 (by decide)) fa_n) (fa_c (ne_c hv.1 ta257.1 (by decide)) fa_n)
        refine ld_i (v := (g261 ((k252 * 7) + 1))) hx hb hN hB.1 1 rfl (vp_in_nI (n := ((k252 * 7) + 1)) (N := n261) (by omega) (by omega)) (by rw [(show ((nI ((k252 * 7) + 1)) : Int32).toNatClampNeg = ((k252 * 7) + 1) from nI_clamp (n := ((k252 * 7) + 1)) (by omega))]) dX2_read_71 ?_
        refine gn_i (fun x262 => ?_)
        refine b_putN (D := D) (ci := 1) (v := .int x262) (ty := .int) (C := RX1) (T := TX1) (N := 7) hx hb hts iX2_read_1 tyX1 tyX1_ok nmX1 hown hN hB 0 rfl rfl 1 (by decide) (hN.f 15 rfl) (fun _ h9 => h9) rfl (by decide +kernel) rfl rfl (Nat.le_of_ble_eq_true rfl) (.inr ⟨rfl, List.mem_of_getElem? (i := 0) rfl⟩) dX2_read_72 (fun H locs hB => ?_)
        have hB : Bx B0 D _ [(v, .inr (1, [.int x259, .int x262, .int f260_2, .int f260_3, .int f260_4, .int f260_5, .int f260_6])), (a257, .inl (cs 0, n261, .inl g261))] [v] _ _ := hB
        refine lv_aload_n hx hb dX2_read_75 rfl (lv_at hl 6 rfl) ?_
        refine lv_aload hx hb dX2_read_76 (lv_at hl 1 rfl) ?_
        refine lv_iload hx hb dX2_read_78 (lv_at hl 0 rfl) ?_
        refine lv_iconst (v := 2) hx hb dX2_read_80 (by decide) ?_
        refine lv_iadd hx hb dX2_read_81 ?_
        refine tp_i (nI ((k252 * 7) + 2)) (nI_add (k252 * 7) 2) ?_
        refine ld_i (v := (g261 ((k252 * 7) + 2))) hx hb hN hB.1 1 rfl (vp_in_nI (n := ((k252 * 7) + 2)) (N := n261) (by omega) (by omega)) (by rw [(show ((nI ((k252 * 7) + 2)) : Int32).toNatClampNeg = ((k252 * 7) + 2) from nI_clamp (n := ((k252 * 7) + 2)) (by omega))]) dX2_read_82 ?_
        refine gn_i (fun x263 => ?_)
        refine b_putN (D := D) (ci := 1) (v := .int x263) (ty := .int) (C := RX1) (T := TX1) (N := 7) hx hb hts iX2_read_1 tyX1 tyX1_ok nmX1 hown hN hB 0 rfl rfl 2 (by decide) (hN.f 17 rfl) (fun _ h9 => h9) rfl (by decide +kernel) rfl rfl (Nat.le_of_ble_eq_true rfl) (.inr ⟨rfl, List.mem_of_getElem? (i := 0) rfl⟩) dX2_read_83 (fun H locs hB => ?_)
        have hB : Bx B0 D _ [(v, .inr (1, [.int x259, .int x262, .int x263, .int f260_3, .int f260_4, .int f260_5, .int f260_6])), (a257, .inl (cs 0, n261, .inl g261))] [v] _ _ := hB
        refine lv_aload_n hx hb dX2_read_86 rfl (lv_at hl 6 rfl) ?_
        refine lv_aload hx hb dX2_read_87 (lv_at hl 1 rfl) ?_
        refine lv_iload hx hb dX2_read_89 (lv_at hl 0 rfl) ?_
        refine lv_iconst (v := 3) hx hb dX2_read_91 (by decide) ?_
        refine lv_iadd hx hb dX2_read_92 ?_
        refine tp_i (nI ((k252 * 7) + 3)) (nI_add (k252 * 7) 3) ?_
        refine ld_i (v := (g261 ((k252 * 7) + 3))) hx hb hN hB.1 1 rfl (vp_in_nI (n := ((k252 * 7) + 3)) (N := n261) (by omega) (by omega)) (by rw [(show ((nI ((k252 * 7) + 3)) : Int32).toNatClampNeg = ((k252 * 7) + 3) from nI_clamp (n := ((k252 * 7) + 3)) (by omega))]) dX2_read_93 ?_
        refine gn_i (fun x264 => ?_)
        refine b_putN (D := D) (ci := 1) (v := .int x264) (ty := .int) (C := RX1) (T := TX1) (N := 7) hx hb hts iX2_read_1 tyX1 tyX1_ok nmX1 hown hN hB 0 rfl rfl 3 (by decide) (hN.f 19 rfl) (fun _ h9 => h9) rfl (by decide +kernel) rfl rfl (Nat.le_of_ble_eq_true rfl) (.inr ⟨rfl, List.mem_of_getElem? (i := 0) rfl⟩) dX2_read_94 (fun H locs hB => ?_)
        have hB : Bx B0 D _ [(v, .inr (1, [.int x259, .int x262, .int x263, .int x264, .int f260_4, .int f260_5, .int f260_6])), (a257, .inl (cs 0, n261, .inl g261))] [v] _ _ := hB
        refine lv_aload_n hx hb dX2_read_97 rfl (lv_at hl 6 rfl) ?_
        refine lv_aload hx hb dX2_read_98 (lv_at hl 1 rfl) ?_
        refine lv_iload hx hb dX2_read_100 (lv_at hl 0 rfl) ?_
        refine lv_iconst (v := 4) hx hb dX2_read_102 (by decide) ?_
        refine lv_iadd hx hb dX2_read_103 ?_
        refine tp_i (nI ((k252 * 7) + 4)) (nI_add (k252 * 7) 4) ?_
        refine ld_i (v := (g261 ((k252 * 7) + 4))) hx hb hN hB.1 1 rfl (vp_in_nI (n := ((k252 * 7) + 4)) (N := n261) (by omega) (by omega)) (by rw [(show ((nI ((k252 * 7) + 4)) : Int32).toNatClampNeg = ((k252 * 7) + 4) from nI_clamp (n := ((k252 * 7) + 4)) (by omega))]) dX2_read_104 ?_
        refine gn_i (fun x265 => ?_)
        refine b_putN (D := D) (ci := 1) (v := .int x265) (ty := .int) (C := RX1) (T := TX1) (N := 7) hx hb hts iX2_read_1 tyX1 tyX1_ok nmX1 hown hN hB 0 rfl rfl 4 (by decide) (hN.f 21 rfl) (fun _ h9 => h9) rfl (by decide +kernel) rfl rfl (Nat.le_of_ble_eq_true rfl) (.inr ⟨rfl, List.mem_of_getElem? (i := 0) rfl⟩) dX2_read_105 (fun H locs hB => ?_)
        have hB : Bx B0 D _ [(v, .inr (1, [.int x259, .int x262, .int x263, .int x264, .int x265, .int f260_5, .int f260_6])), (a257, .inl (cs 0, n261, .inl g261))] [v] _ _ := hB
        refine lv_aload_n hx hb dX2_read_108 rfl (lv_at hl 6 rfl) ?_
        refine lv_aload hx hb dX2_read_109 (lv_at hl 1 rfl) ?_
        refine lv_iload hx hb dX2_read_111 (lv_at hl 0 rfl) ?_
        refine lv_iconst (v := 5) hx hb dX2_read_113 (by decide) ?_
        refine lv_iadd hx hb dX2_read_114 ?_
        refine tp_i (nI ((k252 * 7) + 5)) (nI_add (k252 * 7) 5) ?_
        refine ld_i (v := (g261 ((k252 * 7) + 5))) hx hb hN hB.1 1 rfl (vp_in_nI (n := ((k252 * 7) + 5)) (N := n261) (by omega) (by omega)) (by rw [(show ((nI ((k252 * 7) + 5)) : Int32).toNatClampNeg = ((k252 * 7) + 5) from nI_clamp (n := ((k252 * 7) + 5)) (by omega))]) dX2_read_115 ?_
        refine gn_i (fun x266 => ?_)
        refine b_putN (D := D) (ci := 1) (v := .int x266) (ty := .int) (C := RX1) (T := TX1) (N := 7) hx hb hts iX2_read_1 tyX1 tyX1_ok nmX1 hown hN hB 0 rfl rfl 5 (by decide) (hN.f 23 rfl) (fun _ h9 => h9) rfl (by decide +kernel) rfl rfl (Nat.le_of_ble_eq_true rfl) (.inr ⟨rfl, List.mem_of_getElem? (i := 0) rfl⟩) dX2_read_116 (fun H locs hB => ?_)
        have hB : Bx B0 D _ [(v, .inr (1, [.int x259, .int x262, .int x263, .int x264, .int x265, .int x266, .int f260_6])), (a257, .inl (cs 0, n261, .inl g261))] [v] _ _ := hB
        refine lv_aload_n hx hb dX2_read_119 rfl (lv_at hl 6 rfl) ?_
        refine lv_aload hx hb dX2_read_120 (lv_at hl 1 rfl) ?_
        refine lv_iload hx hb dX2_read_122 (lv_at hl 0 rfl) ?_
        refine lv_bipush (v := 6) hx hb dX2_read_124 (by decide) ?_
        refine lv_iadd hx hb dX2_read_126 ?_
        refine tp_i (nI ((k252 * 7) + 6)) (nI_add (k252 * 7) 6) ?_
        refine ld_i (v := (g261 ((k252 * 7) + 6))) hx hb hN hB.1 1 rfl (vp_in_nI (n := ((k252 * 7) + 6)) (N := n261) (by omega) (by omega)) (by rw [(show ((nI ((k252 * 7) + 6)) : Int32).toNatClampNeg = ((k252 * 7) + 6) from nI_clamp (n := ((k252 * 7) + 6)) (by omega))]) dX2_read_127 ?_
        refine gn_i (fun x267 => ?_)
        refine b_putN (D := D) (ci := 1) (v := .int x267) (ty := .int) (C := RX1) (T := TX1) (N := 7) hx hb hts iX2_read_1 tyX1 tyX1_ok nmX1 hown hN hB 0 rfl rfl 6 (by decide) (hN.f 25 rfl) (fun _ h9 => h9) rfl (by decide +kernel) rfl rfl (Nat.le_of_ble_eq_true rfl) (.inr ⟨rfl, List.mem_of_getElem? (i := 0) rfl⟩) dX2_read_128 (fun H locs hB => ?_)
        have hB : Bx B0 D _ [(v, .inr (1, [.int x259, .int x262, .int x263, .int x264, .int x265, .int x266, .int x267])), (a257, .inl (cs 0, n261, .inl g261))] [v] _ _ := hB
        refine lv_iconst (v := 1) hx hb dX2_read_131 (by decide) ?_
        have hT : WT B0 D cs T κ _ := hT.close hB ⟨⟨0, _, rfl, ok_2 hv.1 ⟨_, _, _, _, _, _, _, rfl⟩⟩, trivial⟩
        have hF : Fr B0 [i] κ H0 _ := hF.close hB (fa_c (by simp [hv.2]) fa_n)
        have hL : OkL B0 _ := hB.2.2.2.2.2
        have hP : va_P D vwCl [(v, .inr (1, [.int x259, .int x262, .int x263, .int x264, .int x265, .int x266, .int x267])), (a257, .inl (cs 0, n261, .inl g261))] _ := hB.1
        exact en_i hx hb hr hlocks hL rfl (Nat.zero_le _) (Nat.zero_le _) dX2_read_132 (⟨hT, hF, Or.inr rfl⟩)
      · have c256 : ¬ ((k252 + 1) * 7) ≤ n255 := fun h9 => c256 ((nI_leI (a := ((k252 + 1) * 7)) (b := n255) (by omega) (by omega)).mpr h9)
        refine lv_iconst (v := 0) hx hb dX2_read_38 (by decide) ?_
        exact en_i hx hb hr hlocks hL rfl (Nat.zero_le _) (Nat.zero_le _) dX2_read_39 (⟨hT, hF, Or.inl rfl⟩)
theorem mX2_countAt_1 : (.fieldLink RX2 14 "OneBeat$Mail" "counts" "[I" : Cond) ∈ wsX2_countAt := List.mem_of_getElem? (i := 1) (by decide +kernel)
theorem iX2_countAt_2 : ∀ w ∈ wsX20, w ∈ wsX2_countAt := fun w h => List.mem_of_mem_drop (List.mem_of_mem_take ((show wsX20 = (wsX2_countAt.drop 2).take 3 by decide +kernel) ▸ h))
set_option maxHeartbeats 4000000 in
set_option maxRecDepth 100000 in
theorem c_X2_countAt {l : Launch} {D : va_G} {cs : Nat → ClassId} {B0 T : Nat} {κ : KM} {H0 : Heap} (hT : WT B0 D cs T κ H0) {w i : Nat} (hw : T2 κ w 3 i) {x : Int32} : KC l yX2_countAt wsX2_countAt 0 0 0 0 D cs B0 H0 [.ref w, .int x] (Qi (fun r H => H = H0 ∧ ∃ n, n ≤ 20000 ∧ r = nI n)) := by
  refine KC.of cX2_countAt 2 (some .int) (by decide) rfl (Nat.le_of_ble_eq_true rfl) ?_
  intro p e s m below meth c ls hx hb hr hml hown hts hlocks hin hN hH0 hl
  have hown : s.vm.findClass RX2 = some m.cls := hown
  have hl : lv_has ls 2 [(0, .ref w), (1, .int x)] := hl
  have hL : OkL B0 [] := OkL.nil
  refine lv_aload_n hx hb dX2_countAt_0 rfl (lv_at hl 0 rfl) ?_
  obtain ⟨hb268, e268, hat268, hk268⟩ := hT.o3 hw.1
  obtain ⟨f268_0, f268_1, f268_2, rfl, t268_0, t268_1⟩ := hk268
  rw [hw.2] at t268_0
  rw [hw.2] at t268_1
  have hP : va_P D vwCl [(w, .inr (2, [.ref f268_0, .ref f268_1, .int f268_2]))] _ := va_P.cons hat268 va_P.nil
  refine va_get (D := D) (ci := 2) (v := .ref f268_1) (C := RX2) (T := TX2) (N := 3) hx hb hts iX2_countAt_2 hown hN.1 hP 0 rfl rfl 1 (by decide) (hts _ mX2_countAt_1) (fun _ h9 => h9) rfl dX2_countAt_1 ?_
  refine lv_iload_n hx hb dX2_countAt_4 rfl (lv_at hl 1 rfl) ?_
  refine lv_bipush (v := 15) hx hb dX2_countAt_5 (by decide) ?_
  refine lv_iand hx hb dX2_countAt_7 ?_
  have hj269 := m15_lt x
  refine tp_i (nI (m15 x)) (and15 x) ?_
  obtain ⟨hb270, e270, hat270, hk270⟩ := hT.o15 t268_1.1
  obtain ⟨g270, rfl, q270⟩ := hk270
  have hP : va_P D vwCl [(f268_1, .inl (cs 0, 16, .inl g270)), (w, .inr (2, [.ref f268_0, .ref f268_1, .int f268_2]))] _ := va_P.cons hat270 hP
  refine ld_i (v := (g270 (m15 x))) hx hb hN hP 0 rfl (vp_in_nI (n := (m15 x)) (N := 16) (by omega) (by omega)) (by rw [(show ((nI (m15 x)) : Int32).toNatClampNeg = (m15 x) from nI_clamp (n := (m15 x)) (by omega))]) dX2_countAt_8 ?_
  obtain ⟨n271, hn271, en271⟩ := q270 (m15 x) (by omega)
  refine tp_i (nI n271) en271 ?_
  exact en_i hx hb hr hlocks hL rfl (Nat.zero_le _) (Nat.zero_le _) dX2_countAt_9 (⟨rfl, _, (by omega), rfl⟩)
theorem mX7_tellMessage_1 : (.fieldLink RX7 20 "OneBeat$World" "mail" "LOneBeat$Mail;" : Cond) ∈ wsX7_tellMessage := List.mem_of_getElem? (i := 1) (by decide +kernel)
theorem iX7_tellMessage_7 : ∀ w ∈ wsX70, w ∈ wsX7_tellMessage := fun w h => List.mem_of_mem_drop (List.mem_of_mem_take ((show wsX70 = (wsX7_tellMessage.drop 25).take 16 by decide +kernel) ▸ h))
theorem mX7_tellMessage_2 : (.fieldLink RX7 64 "OneBeat$World" "time" "I" : Cond) ∈ wsX7_tellMessage := List.mem_of_getElem? (i := 2) (by decide +kernel)
theorem mX7_tellMessage_3 : (.fieldLink RX7 34 "OneBeat$World" "incoming" "LOneBeat$Letter;" : Cond) ∈ wsX7_tellMessage := List.mem_of_getElem? (i := 3) (by decide +kernel)
theorem hdX2_read_v : yX2_read.cls = RX2 ∧ yX2_read.cls ≠ "java/lang/invoke/MethodHandle" ∧ yX2_read.cls ≠ "java/lang/invoke/VarHandle" ∧ (parseMethodDescriptor yX2_read.desc).map (fun d => d.parameters.length) = some 3 := by decide +kernel
theorem hdX2_countAt_v : yX2_countAt.cls = RX2 ∧ yX2_countAt.cls ≠ "java/lang/invoke/MethodHandle" ∧ yX2_countAt.cls ≠ "java/lang/invoke/VarHandle" ∧ (parseMethodDescriptor yX2_countAt.desc).map (fun d => d.parameters.length) = some 1 := by decide +kernel
theorem hdX1_tell_v : yX1_tell.cls = RX1 ∧ yX1_tell.cls ≠ "java/lang/invoke/MethodHandle" ∧ yX1_tell.cls ≠ "java/lang/invoke/VarHandle" ∧ (parseMethodDescriptor yX1_tell.desc).map (fun d => d.parameters.length) = some 2 := by decide +kernel
set_option maxHeartbeats 4000000 in
set_option maxRecDepth 100000 in
theorem c_X7_tellMessage {l : Launch} {D : va_G} {cs : Nat → ClassId} {B0 T : Nat} {κ : KM} {H0 : Heap} (hT : WT B0 D cs T κ H0) {w i : Nat} (hw : T2 κ w 8 i) {x : Int32} {y : Int32} : KC l yX7_tellMessage wsX7_tellMessage 1 26 0 0 D cs B0 H0 [.ref w, .int x, .int y] (Qi (fun _ H => WT B0 D cs T κ H ∧ Fr B0 [i] κ H0 H)) := by
  refine KC.of cX7_tellMessage 5 (some .int) (by decide) rfl (Nat.le_of_ble_eq_true rfl) ?_
  intro p e s m below meth c ls hx hb hr hml hown hts hlocks hin hN hH0 hl
  have hown : s.vm.findClass RX7 = some m.cls := hown
  have hl : lv_has ls 5 [(0, .ref w), (1, .int x), (2, .int y)] := hl
  have hL : OkL B0 [] := OkL.nil
  have hF : Fr B0 [i] κ H0 H0 := Fr.rf
  refine lv_iload_n hx hb dX7_tellMessage_0 rfl (lv_at hl 1 rfl) ?_
  refine lv_istore_n (lv' := [(3, .int x), (0, .ref w), (1, .int x), (2, .int y)]) hx hb dX7_tellMessage_1 rfl hl (by decide) rfl (fun ls hl => ?_)
  refine lv_iconst (v := 1) hx hb dX7_tellMessage_2 (by decide) ?_
  refine lv_istore (lv' := [(4, .int 1), (3, .int x), (0, .ref w), (1, .int x), (2, .int y)]) hx hb dX7_tellMessage_3 hl (by decide) rfl (fun ls hl => ?_)
  refine lp_m (α := Nat × Int32) (nL := 5) (fun a9 => 10 - a9.1) (fun a9 H9 l9 => (a9.1 ≤ 10) ∧ (WT B0 D cs T κ H9) ∧ (Fr B0 [i] κ H0 H9) ∧ (OkL B0 l9)) (fun a9 => [(4, .int (nI a9.1)), (3, .int a9.2), (0, .ref w), (2, .int y)]) ?_ (1, x) _ _ _ ⟨(by omega), hT, hF, hL⟩ (lv_sub hl [0, 1, 2, 4] rfl)
  rintro ⟨d, z⟩ H locs ls ih272 ⟨hd, hT, hF, hL⟩ hl
  have hl : lv_has ls 5 [(4, .int (nI d)), (3, .int z), (0, .ref w), (2, .int y)] := hl
  have hd : d ≤ 10 := hd
  refine lv_iload hx hb dX7_tellMessage_5 (lv_at hl 0 rfl) ?_
  refine lv_bipush (v := 9) hx hb dX7_tellMessage_7 (by decide) ?_
  refine lv_icmp_gt (tgt := 73) hx hb dX7_tellMessage_9 (by decide) (fun c273 => ?_) (fun c273 => ?_)
  · have c273 : 9 < d := (nI_ltI (a := 9) (b := d) (by omega) (by omega)).mp c273
    refine lv_iconst (v := 0) hx hb dX7_tellMessage_73 (by decide) ?_
    exact en_i hx hb hr hlocks hL rfl (Nat.zero_le _) (Nat.zero_le _) dX7_tellMessage_74 (⟨hT, hF⟩)
  · have c273 : ¬ 9 < d := fun h9 => c273 ((nI_ltI (a := 9) (b := d) (by omega) (by omega)).mpr h9)
    refine lv_aload_n hx hb dX7_tellMessage_12 rfl (lv_at hl 2 rfl) ?_
    obtain ⟨hb274, e274, hat274, hk274⟩ := hT.o8 hw.1
    obtain ⟨f274_0, f274_1, f274_2, f274_3, f274_4, f274_5, f274_6, f274_7, f274_8, f274_9, f274_10, f274_11, f274_12, f274_13, f274_14, f274_15, rfl, t274_0, c274_su, t274_1, t274_2, t274_3, t274_4, t274_5, c274_tm⟩ := hk274
    rw [hw.2] at t274_1
    rw [hw.2] at t274_2
    rw [hw.2] at t274_3
    rw [hw.2] at t274_4
    rw [hw.2] at t274_5
    have hP : va_P D vwCl [(w, .inr (7, [.ref f274_0, .ref f274_1, .ref f274_2, .ref f274_3, .ref f274_4, .ref f274_5, .long f274_6, .int f274_7, .int f274_8, .int f274_9, .int f274_10, .int f274_11, .int f274_12, .int f274_13, .int f274_14, .int f274_15]))] _ := va_P.cons hat274 va_P.nil
    refine va_get (D := D) (ci := 7) (v := .ref f274_2) (C := RX7) (T := TX7) (N := 16) hx hb hts iX7_tellMessage_7 hown hN.1 hP 0 rfl rfl 2 (by decide) (hts _ mX7_tellMessage_1) (fun _ h9 => h9) rfl dX7_tellMessage_13 ?_
    refine lv_aload_n hx hb dX7_tellMessage_16 rfl (lv_at hl 2 rfl) ?_
    refine va_get (D := D) (ci := 7) (v := .int f274_7) (C := RX7) (T := TX7) (N := 16) hx hb hts iX7_tellMessage_7 hown hN.1 hP 0 rfl rfl 7 (by decide) (hts _ mX7_tellMessage_2) (fun _ h9 => h9) rfl dX7_tellMessage_17 ?_
    refine lv_iload hx hb dX7_tellMessage_20 (lv_at hl 0 rfl) ?_
    refine lv_iadd hx hb dX7_tellMessage_22 ?_
    refine gn_i (fun x275 => ?_)
    refine lv_iload_n hx hb dX7_tellMessage_23 rfl (lv_at hl 1 rfl) ?_
    refine lv_aload_n hx hb dX7_tellMessage_24 rfl (lv_at hl 2 rfl) ?_
    refine va_get (D := D) (ci := 7) (v := .ref f274_4) (C := RX7) (T := TX7) (N := 16) hx hb hts iX7_tellMessage_7 hown hN.1 hP 0 rfl rfl 4 (by decide) (hts _ mX7_tellMessage_3) (fun _ h9 => h9) rfl dX7_tellMessage_25 ?_
    refine cv_i (As := [.int x275, .int z, .ref f274_4]) (rest := []) (b := f274_2) ⟨hx, hb, hml, hown, hts⟩ (c_X2_read hT (w := f274_2) t274_2 (x := x275) (y := z) (v := f274_4) t274_4) (cwV 3 hts gX7_tellMessage_X2_read rfl rfl rfl hdX2_read_v ⟨Nat.le_of_ble_eq_true rfl, Nat.le_of_ble_eq_true rfl⟩) hN hL (rcv3 hN hT t274_2.1) rfl rfl hl.1 (Nat.le_of_ble_eq_true rfl) dX7_tellMessage_28 (Nat.zero_le _) (Nat.zero_le _) (fun r276 H1 locs hL hqr276 => ?_)
    obtain ⟨hT1, hF1, hqr276⟩ := hqr276
    have hF := hF.tr (hF1.mono (by simp))
    have hT := hT1
    rcases hqr276 with rfl | rfl
    · refine lv_if_eq (tgt := 50) hx hb dX7_tellMessage_31 (by decide) (fun _ => ?_) (fun c9 => absurd (by decide) c9)
      refine lv_iload_n hx hb dX7_tellMessage_50 rfl (lv_at hl 1 rfl) ?_
      refine lv_aload_n hx hb dX7_tellMessage_51 rfl (lv_at hl 2 rfl) ?_
      obtain ⟨hb277, e277, hat277, hk277⟩ := hT.o8 hw.1
      obtain ⟨f277_0, f277_1, f277_2, f277_3, f277_4, f277_5, f277_6, f277_7, f277_8, f277_9, f277_10, f277_11, f277_12, f277_13, f277_14, f277_15, rfl, t277_0, c277_su, t277_1, t277_2, t277_3, t277_4, t277_5, c277_tm⟩ := hk277
      rw [hw.2] at t277_1
      rw [hw.2] at t277_2
      rw [hw.2] at t277_3
      rw [hw.2] at t277_4
      rw [hw.2] at t277_5
      have hP : va_P D vwCl [(w, .inr (7, [.ref f277_0, .ref f277_1, .ref f277_2, .ref f277_3, .ref f277_4, .ref f277_5, .long f277_6, .int f277_7, .int f277_8, .int f277_9, .int f277_10, .int f277_11, .int f277_12, .int f277_13, .int f277_14, .int f277_15]))] _ := va_P.cons hat277 va_P.nil
      refine va_get (D := D) (ci := 7) (v := .ref f277_2) (C := RX7) (T := TX7) (N := 16) hx hb hts iX7_tellMessage_7 hown hN.1 hP 0 rfl rfl 2 (by decide) (hts _ mX7_tellMessage_1) (fun _ h9 => h9) rfl dX7_tellMessage_52 ?_
      refine lv_aload_n hx hb dX7_tellMessage_55 rfl (lv_at hl 2 rfl) ?_
      refine va_get (D := D) (ci := 7) (v := .int f277_7) (C := RX7) (T := TX7) (N := 16) hx hb hts iX7_tellMessage_7 hown hN.1 hP 0 rfl rfl 7 (by decide) (hts _ mX7_tellMessage_2) (fun _ h9 => h9) rfl dX7_tellMessage_56 ?_
      refine lv_iload hx hb dX7_tellMessage_59 (lv_at hl 0 rfl) ?_
      refine lv_iadd hx hb dX7_tellMessage_61 ?_
      refine gn_i (fun x278 => ?_)
      refine cv_i (As := [.int x278]) (rest := [.int z]) (b := f277_2) ⟨hx, hb, hml, hown, hts⟩ (c_X2_countAt hT (w := f277_2) t277_2 (x := x278)) (cwV 1 hts gX7_tellMessage_X2_countAt rfl rfl rfl hdX2_countAt_v ⟨Nat.le_of_ble_eq_true rfl, Nat.le_of_ble_eq_true rfl⟩) hN hL (rcv3 hN hT t277_2.1) rfl rfl hl.1 (Nat.le_of_ble_eq_true rfl) dX7_tellMessage_62 (Nat.zero_le _) (Nat.zero_le _) (fun r279 H1 locs hL hqr279 => ?_)
      obtain ⟨rfl, hqr279⟩ := hqr279
      obtain ⟨n280, h281, rfl⟩ := hqr279
      refine lv_isub hx hb dX7_tellMessage_65 ?_
      refine gn_i (fun x282 => ?_)
      refine lv_istore_n (lv' := [(3, .int x282), (4, .int (nI d)), (0, .ref w), (2, .int y)]) hx hb dX7_tellMessage_66 rfl hl (by decide) rfl (fun ls hl => ?_)
      refine lv_iinc (v := (nI (d + 1))) (lv' := [(4, .int (nI (d + 1))), (3, .int x282), (0, .ref w), (2, .int y)]) hx hb dX7_tellMessage_67 hl (k := 1) rfl (nI_add _ 1) (by decide) rfl (fun ls hl => ?_)
      refine lv_goto (tgt := 5) hx hb dX7_tellMessage_70 (by decide) ?_
      exact ih272 ((d + 1), x282) _ _ _ (by show 10 - ((d + 1)) < 10 - d; omega) ⟨(by omega), hT, hF, hL⟩ (lv_sub hl [0, 1, 2, 3] rfl)
    · refine lv_if_eq (tgt := 50) hx hb dX7_tellMessage_31 (by decide) (fun c9 => absurd c9 (by decide)) (fun _ => ?_)
      refine lv_aload_n hx hb dX7_tellMessage_34 rfl (lv_at hl 2 rfl) ?_
      obtain ⟨hb283, e283, hat283, hk283⟩ := hT.o8 hw.1
      obtain ⟨f283_0, f283_1, f283_2, f283_3, f283_4, f283_5, f283_6, f283_7, f283_8, f283_9, f283_10, f283_11, f283_12, f283_13, f283_14, f283_15, rfl, t283_0, c283_su, t283_1, t283_2, t283_3, t283_4, t283_5, c283_tm⟩ := hk283
      rw [hw.2] at t283_1
      rw [hw.2] at t283_2
      rw [hw.2] at t283_3
      rw [hw.2] at t283_4
      rw [hw.2] at t283_5
      have hP : va_P D vwCl [(w, .inr (7, [.ref f283_0, .ref f283_1, .ref f283_2, .ref f283_3, .ref f283_4, .ref f283_5, .long f283_6, .int f283_7, .int f283_8, .int f283_9, .int f283_10, .int f283_11, .int f283_12, .int f283_13, .int f283_14, .int f283_15]))] _ := va_P.cons hat283 va_P.nil
      refine va_get (D := D) (ci := 7) (v := .ref f283_4) (C := RX7) (T := TX7) (N := 16) hx hb hts iX7_tellMessage_7 hown hN.1 hP 0 rfl rfl 4 (by decide) (hts _ mX7_tellMessage_3) (fun _ h9 => h9) rfl dX7_tellMessage_35 ?_
      refine lv_iload_n hx hb dX7_tellMessage_38 rfl (lv_at hl 3 rfl) ?_
      refine lv_aload_n hx hb dX7_tellMessage_39 rfl (lv_at hl 2 rfl) ?_
      refine va_get (D := D) (ci := 7) (v := .int f283_7) (C := RX7) (T := TX7) (N := 16) hx hb hts iX7_tellMessage_7 hown hN.1 hP 0 rfl rfl 7 (by decide) (hts _ mX7_tellMessage_2) (fun _ h9 => h9) rfl dX7_tellMessage_40 ?_
      refine lv_iload hx hb dX7_tellMessage_43 (lv_at hl 0 rfl) ?_
      refine lv_iadd hx hb dX7_tellMessage_45 ?_
      refine gn_i (fun x284 => ?_)
      refine cv_i (As := [.int y, .int x284]) (rest := []) (b := f283_4) ⟨hx, hb, hml, hown, hts⟩ (c_X1_tell hT (w := f283_4) t283_4 (x := y) (y := x284)) (cwV 2 hts gX7_tellMessage_X1_tell rfl rfl rfl hdX1_tell_v ⟨Nat.le_of_ble_eq_true rfl, Nat.le_of_ble_eq_true rfl⟩) hN hL (rcv2 hN hT t283_4.1) rfl rfl hl.1 (Nat.le_of_ble_eq_true rfl) dX7_tellMessage_46 (Nat.zero_le _) (Nat.zero_le _) (fun r285 H1 locs hL hqr285 => ?_)
      obtain rfl := hqr285
      exact en_i hx hb hr hlocks hL rfl (Nat.zero_le _) (Nat.zero_le _) dX7_tellMessage_49 (⟨hT, hF⟩)
theorem mX7_canPropose_1 : (.fieldLink RX7 68 "OneBeat$World" "conductor" "I" : Cond) ∈ wsX7_canPropose := List.mem_of_getElem? (i := 1) (by decide +kernel)
theorem iX7_canPropose_7 : ∀ w ∈ wsX70, w ∈ wsX7_canPropose := fun w h => List.mem_of_mem_drop (List.mem_of_mem_take ((show wsX70 = (wsX7_canPropose.drop 9).take 16 by decide +kernel) ▸ h))
theorem iX7_canPropose_3 : ∀ w ∈ wsX30, w ∈ wsX7_canPropose := fun w h => List.mem_of_mem_drop (List.mem_of_mem_take ((show wsX30 = (wsX7_canPropose.drop 25).take 10 by decide +kernel) ▸ h))
theorem mX7_canPropose_2 : (.fieldLink RX7 27 "OneBeat$World" "latest" "LOneBeat$Proposal;" : Cond) ∈ wsX7_canPropose := List.mem_of_getElem? (i := 2) (by decide +kernel)
theorem iX7_canPropose_4 : ∀ w ∈ wsX40, w ∈ wsX7_canPropose := fun w h => List.mem_of_mem_drop (List.mem_of_mem_take ((show wsX40 = (wsX7_canPropose.drop 35).take 8 by decide +kernel) ▸ h))
set_option maxHeartbeats 4000000 in
set_option maxRecDepth 100000 in
theorem c_X7_canPropose {l : Launch} {D : va_G} {cs : Nat → ClassId} {B0 T : Nat} {κ : KM} {H0 : Heap} (hT : WT B0 D cs T κ H0) {w i : Nat} (hw : T2 κ w 8 i) : KC l yX7_canPropose wsX7_canPropose 1 21 0 0 D cs B0 H0 [.ref w] (Qi (fun r H => H = H0 ∧ (r = 0 ∨ r = 1))) := by
  refine KC.of cX7_canPropose 1 (some .boolean) (by decide) rfl (Nat.le_of_ble_eq_true rfl) ?_
  intro p e s m below meth c ls hx hb hr hml hown hts hlocks hin hN hH0 hl
  have hown : s.vm.findClass RX7 = some m.cls := hown
  have hl : lv_has ls 1 [(0, .ref w)] := hl
  have hL : OkL B0 [] := OkL.nil
  refine lv_aload_n hx hb dX7_canPropose_0 rfl (lv_at hl 0 rfl) ?_
  refine lv_aload_n hx hb dX7_canPropose_1 rfl (lv_at hl 0 rfl) ?_
  obtain ⟨hb286, e286, hat286, hk286⟩ := hT.o8 hw.1
  obtain ⟨f286_0, f286_1, f286_2, f286_3, f286_4, f286_5, f286_6, f286_7, f286_8, f286_9, f286_10, f286_11, f286_12, f286_13, f286_14, f286_15, rfl, t286_0, c286_su, t286_1, t286_2, t286_3, t286_4, t286_5, c286_tm⟩ := hk286
  rw [hw.2] at t286_1
  rw [hw.2] at t286_2
  rw [hw.2] at t286_3
  rw [hw.2] at t286_4
  rw [hw.2] at t286_5
  have hP : va_P D vwCl [(w, .inr (7, [.ref f286_0, .ref f286_1, .ref f286_2, .ref f286_3, .ref f286_4, .ref f286_5, .long f286_6, .int f286_7, .int f286_8, .int f286_9, .int f286_10, .int f286_11, .int f286_12, .int f286_13, .int f286_14, .int f286_15]))] _ := va_P.cons hat286 va_P.nil
  refine va_get (D := D) (ci := 7) (v := .int f286_8) (C := RX7) (T := TX7) (N := 16) hx hb hts iX7_canPropose_7 hown hN.1 hP 0 rfl rfl 8 (by decide) (hts _ mX7_canPropose_1) (fun _ h9 => h9) rfl dX7_canPropose_2 ?_
  refine cv_r (As := [.int f286_8]) (rest := []) (b := w) ⟨hx, hb, hml, hown, hts⟩ (c_X7_at hT (w := w) hw (x := f286_8)) (cwV 1 hts gX7_canPropose_X7_at rfl rfl rfl hdX7_at_v ⟨Nat.le_of_ble_eq_true rfl, Nat.le_of_ble_eq_true rfl⟩) hN hL (rcv8 hN hT hw.1) rfl rfl hl.1 (Nat.le_of_ble_eq_true rfl) dX7_canPropose_5 (Nat.zero_le _) (Nat.zero_le _) (fun r287 H1 locs hL hqr287 => ?_)
  obtain ⟨rfl, hqr287⟩ := hqr287
  obtain ⟨hb288, e288, hat288, hk288⟩ := hT.o4 hqr287.1
  obtain ⟨f288_0, f288_1, f288_2, f288_3, f288_4, f288_5, f288_6, f288_7, f288_8, f288_9, rfl, c288_up⟩ := hk288
  have hP : va_P D vwCl [(r287, .inr (3, [.int f288_0, .int f288_1, .int f288_2, .int f288_3, .int f288_4, .int f288_5, .int f288_6, .int f288_7, .int f288_8, .int f288_9])), (w, .inr (7, [.ref f286_0, .ref f286_1, .ref f286_2, .ref f286_3, .ref f286_4, .ref f286_5, .long f286_6, .int f286_7, .int f286_8, .int f286_9, .int f286_10, .int f286_11, .int f286_12, .int f286_13, .int f286_14, .int f286_15]))] _ := va_P.cons hat288 hP
  refine va_getN (D := D) (ci := 3) (v := .int f288_0) (C := RX3) (T := TX3) (N := 10) hx hb hts iX7_canPropose_3 hown hN.1 hP 0 rfl rfl 0 (by decide) (hN.f 27 rfl) (fun _ h9 => h9) rfl dX7_canPropose_8 ?_
  refine lv_if_eq (tgt := 28) hx hb dX7_canPropose_11 (by decide) (fun c289 => ?_) (fun c289 => ?_)
  · refine lv_iconst (v := 0) hx hb dX7_canPropose_28 (by decide) ?_
    exact en_i hx hb hr hlocks hL rfl (Nat.zero_le _) (Nat.zero_le _) dX7_canPropose_29 (⟨rfl, Or.inl rfl⟩)
  · refine lv_aload_n hx hb dX7_canPropose_14 rfl (lv_at hl 0 rfl) ?_
    refine va_get (D := D) (ci := 7) (v := .ref f286_3) (C := RX7) (T := TX7) (N := 16) hx hb hts iX7_canPropose_7 hown hN.1 hP 1 rfl rfl 3 (by decide) (hts _ mX7_canPropose_2) (fun _ h9 => h9) rfl dX7_canPropose_15 ?_
    obtain ⟨hb290, e290, hat290, hk290⟩ := hT.o5 t286_3.1
    obtain ⟨f290_0, f290_1, f290_2, f290_3, f290_4, f290_5, f290_6, f290_7, rfl, c290⟩ := hk290
    have hP : va_P D vwCl [(f286_3, .inr (4, [.int f290_0, .int f290_1, .int f290_2, .int f290_3, .int f290_4, .int f290_5, .int f290_6, .int f290_7])), (r287, .inr (3, [.int f288_0, .int f288_1, .int f288_2, .int f288_3, .int f288_4, .int f288_5, .int f288_6, .int f288_7, .int f288_8, .int f288_9])), (w, .inr (7, [.ref f286_0, .ref f286_1, .ref f286_2, .ref f286_3, .ref f286_4, .ref f286_5, .long f286_6, .int f286_7, .int f286_8, .int f286_9, .int f286_10, .int f286_11, .int f286_12, .int f286_13, .int f286_14, .int f286_15]))] _ := va_P.cons hat290 hP
    refine va_getN (D := D) (ci := 4) (v := .int f290_5) (C := RX4) (T := TX4) (N := 8) hx hb hts iX7_canPropose_4 hown hN.1 hP 0 rfl rfl 5 (by decide) (hN.f 12 rfl) (fun _ h9 => h9) rfl dX7_canPropose_18 ?_
    refine lv_if_eq (tgt := 28) hx hb dX7_canPropose_21 (by decide) (fun c291 => ?_) (fun c291 => ?_)
    · refine lv_iconst (v := 0) hx hb dX7_canPropose_28 (by decide) ?_
      exact en_i hx hb hr hlocks hL rfl (Nat.zero_le _) (Nat.zero_le _) dX7_canPropose_29 (⟨rfl, Or.inl rfl⟩)
    · refine lv_iconst (v := 1) hx hb dX7_canPropose_24 (by decide) ?_
      refine lv_goto (tgt := 29) hx hb dX7_canPropose_25 (by decide) ?_
      exact en_i hx hb hr hlocks hL rfl (Nat.zero_le _) (Nat.zero_le _) dX7_canPropose_29 (⟨rfl, Or.inr rfl⟩)
theorem mX7_isOpen_1 : (.fieldLink RX7 27 "OneBeat$World" "latest" "LOneBeat$Proposal;" : Cond) ∈ wsX7_isOpen := List.mem_of_getElem? (i := 1) (by decide +kernel)
theorem iX7_isOpen_7 : ∀ w ∈ wsX70, w ∈ wsX7_isOpen := fun w h => List.mem_of_mem_drop (List.mem_of_mem_take ((show wsX70 = (wsX7_isOpen.drop 3).take 16 by decide +kernel) ▸ h))
theorem iX7_isOpen_4 : ∀ w ∈ wsX40, w ∈ wsX7_isOpen := fun w h => List.mem_of_mem_drop (List.mem_of_mem_take ((show wsX40 = (wsX7_isOpen.drop 19).take 8 by decide +kernel) ▸ h))
theorem mX7_isOpen_2 : (.fieldLink RX7 77 "OneBeat$World" "made" "I" : Cond) ∈ wsX7_isOpen := List.mem_of_getElem? (i := 2) (by decide +kernel)
set_option maxHeartbeats 4000000 in
set_option maxRecDepth 100000 in
theorem c_X7_isOpen {l : Launch} {D : va_G} {cs : Nat → ClassId} {B0 T : Nat} {κ : KM} {H0 : Heap} (hT : WT B0 D cs T κ H0) {w i : Nat} (hw : T2 κ w 8 i) {x : Int32} : KC l yX7_isOpen wsX7_isOpen 0 0 0 0 D cs B0 H0 [.ref w, .int x] (Qi (fun r H => H = H0 ∧ (r = 0 ∨ r = 1))) := by
  refine KC.of cX7_isOpen 2 (some .boolean) (by decide) rfl (Nat.le_of_ble_eq_true rfl) ?_
  intro p e s m below meth c ls hx hb hr hml hown hts hlocks hin hN hH0 hl
  have hown : s.vm.findClass RX7 = some m.cls := hown
  have hl : lv_has ls 2 [(0, .ref w), (1, .int x)] := hl
  have hL : OkL B0 [] := OkL.nil
  refine lv_aload_n hx hb dX7_isOpen_0 rfl (lv_at hl 0 rfl) ?_
  obtain ⟨hb292, e292, hat292, hk292⟩ := hT.o8 hw.1
  obtain ⟨f292_0, f292_1, f292_2, f292_3, f292_4, f292_5, f292_6, f292_7, f292_8, f292_9, f292_10, f292_11, f292_12, f292_13, f292_14, f292_15, rfl, t292_0, c292_su, t292_1, t292_2, t292_3, t292_4, t292_5, c292_tm⟩ := hk292
  rw [hw.2] at t292_1
  rw [hw.2] at t292_2
  rw [hw.2] at t292_3
  rw [hw.2] at t292_4
  rw [hw.2] at t292_5
  have hP : va_P D vwCl [(w, .inr (7, [.ref f292_0, .ref f292_1, .ref f292_2, .ref f292_3, .ref f292_4, .ref f292_5, .long f292_6, .int f292_7, .int f292_8, .int f292_9, .int f292_10, .int f292_11, .int f292_12, .int f292_13, .int f292_14, .int f292_15]))] _ := va_P.cons hat292 va_P.nil
  refine va_get (D := D) (ci := 7) (v := .ref f292_3) (C := RX7) (T := TX7) (N := 16) hx hb hts iX7_isOpen_7 hown hN.1 hP 0 rfl rfl 3 (by decide) (hts _ mX7_isOpen_1) (fun _ h9 => h9) rfl dX7_isOpen_1 ?_
  obtain ⟨hb293, e293, hat293, hk293⟩ := hT.o5 t292_3.1
  obtain ⟨f293_0, f293_1, f293_2, f293_3, f293_4, f293_5, f293_6, f293_7, rfl, c293⟩ := hk293
  have hP : va_P D vwCl [(f292_3, .inr (4, [.int f293_0, .int f293_1, .int f293_2, .int f293_3, .int f293_4, .int f293_5, .int f293_6, .int f293_7])), (w, .inr (7, [.ref f292_0, .ref f292_1, .ref f292_2, .ref f292_3, .ref f292_4, .ref f292_5, .long f292_6, .int f292_7, .int f292_8, .int f292_9, .int f292_10, .int f292_11, .int f292_12, .int f292_13, .int f292_14, .int f292_15]))] _ := va_P.cons hat293 hP
  refine va_getN (D := D) (ci := 4) (v := .int f293_5) (C := RX4) (T := TX4) (N := 8) hx hb hts iX7_isOpen_4 hown hN.1 hP 0 rfl rfl 5 (by decide) (hN.f 12 rfl) (fun _ h9 => h9) rfl dX7_isOpen_4 ?_
  refine lv_if_ne (tgt := 24) hx hb dX7_isOpen_7 (by decide) (fun c294 => ?_) (fun c294 => ?_)
  · refine lv_iconst (v := 0) hx hb dX7_isOpen_24 (by decide) ?_
    exact en_i hx hb hr hlocks hL rfl (Nat.zero_le _) (Nat.zero_le _) dX7_isOpen_25 (⟨rfl, Or.inl rfl⟩)
  · refine lv_iload_n hx hb dX7_isOpen_10 rfl (lv_at hl 1 rfl) ?_
    refine lv_aload_n hx hb dX7_isOpen_11 rfl (lv_at hl 0 rfl) ?_
    refine va_get (D := D) (ci := 7) (v := .int f292_11) (C := RX7) (T := TX7) (N := 16) hx hb hts iX7_isOpen_7 hown hN.1 hP 1 rfl rfl 11 (by decide) (hts _ mX7_isOpen_2) (fun _ h9 => h9) rfl dX7_isOpen_12 ?_
    refine lv_iconst (v := 1) hx hb dX7_isOpen_15 (by decide) ?_
    refine lv_isub hx hb dX7_isOpen_16 ?_
    refine gn_i (fun x295 => ?_)
    refine lv_icmp_ne (tgt := 24) hx hb dX7_isOpen_17 (by decide) (fun c296 => ?_) (fun c296 => ?_)
    · refine lv_iconst (v := 0) hx hb dX7_isOpen_24 (by decide) ?_
      exact en_i hx hb hr hlocks hL rfl (Nat.zero_le _) (Nat.zero_le _) dX7_isOpen_25 (⟨rfl, Or.inl rfl⟩)
    · refine lv_iconst (v := 1) hx hb dX7_isOpen_20 (by decide) ?_
      refine lv_goto (tgt := 25) hx hb dX7_isOpen_21 (by decide) ?_
      exact en_i hx hb hr hlocks hL rfl (Nat.zero_le _) (Nat.zero_le _) dX7_isOpen_25 (⟨rfl, Or.inr rfl⟩)
theorem mX7_isBusy_1 : (.fieldLink RX7 20 "OneBeat$World" "mail" "LOneBeat$Mail;" : Cond) ∈ wsX7_isBusy := List.mem_of_getElem? (i := 1) (by decide +kernel)
theorem iX7_isBusy_7 : ∀ w ∈ wsX70, w ∈ wsX7_isBusy := fun w h => List.mem_of_mem_drop (List.mem_of_mem_take ((show wsX70 = (wsX7_isBusy.drop 10).take 16 by decide +kernel) ▸ h))
theorem iX7_isBusy_2 : ∀ w ∈ wsX20, w ∈ wsX7_isBusy := fun w h => List.mem_of_mem_drop (List.mem_of_mem_take ((show wsX20 = (wsX7_isBusy.drop 26).take 3 by decide +kernel) ▸ h))
theorem mX7_isBusy_2 : (.fieldLink RX7 27 "OneBeat$World" "latest" "LOneBeat$Proposal;" : Cond) ∈ wsX7_isBusy := List.mem_of_getElem? (i := 2) (by decide +kernel)
theorem iX7_isBusy_4 : ∀ w ∈ wsX40, w ∈ wsX7_isBusy := fun w h => List.mem_of_mem_drop (List.mem_of_mem_take ((show wsX40 = (wsX7_isBusy.drop 29).take 8 by decide +kernel) ▸ h))
theorem mX7_isBusy_3 : (.fieldLink RX7 52 "OneBeat$World" "setup" "LOneBeat$Setup;" : Cond) ∈ wsX7_isBusy := List.mem_of_getElem? (i := 3) (by decide +kernel)
theorem iX7_isBusy_6 : ∀ w ∈ wsX60, w ∈ wsX7_isBusy := fun w h => List.mem_of_mem_drop (List.mem_of_mem_take ((show wsX60 = (wsX7_isBusy.drop 37).take 8 by decide +kernel) ▸ h))
theorem iX7_isBusy_3 : ∀ w ∈ wsX30, w ∈ wsX7_isBusy := fun w h => List.mem_of_mem_drop (List.mem_of_mem_take ((show wsX30 = (wsX7_isBusy.drop 45).take 10 by decide +kernel) ▸ h))
set_option maxHeartbeats 4000000 in
set_option maxRecDepth 100000 in
theorem c_X7_isBusy {l : Launch} {D : va_G} {cs : Nat → ClassId} {B0 T : Nat} {κ : KM} {H0 : Heap} (hT : WT B0 D cs T κ H0) {w i : Nat} (hw : T2 κ w 8 i) : KC l yX7_isBusy wsX7_isBusy 1 21 0 0 D cs B0 H0 [.ref w] (Qi (fun r H => H = H0 ∧ (r = 0 ∨ r = 1))) := by
  refine KC.of cX7_isBusy 2 (some .boolean) (by decide) rfl (Nat.le_of_ble_eq_true rfl) ?_
  intro p e s m below meth c ls hx hb hr hml hown hts hlocks hin hN hH0 hl
  have hown : s.vm.findClass RX7 = some m.cls := hown
  have hl : lv_has ls 2 [(0, .ref w)] := hl
  have hL : OkL B0 [] := OkL.nil
  refine lv_aload_n hx hb dX7_isBusy_0 rfl (lv_at hl 0 rfl) ?_
  obtain ⟨hb297, e297, hat297, hk297⟩ := hT.o8 hw.1
  obtain ⟨f297_0, f297_1, f297_2, f297_3, f297_4, f297_5, f297_6, f297_7, f297_8, f297_9, f297_10, f297_11, f297_12, f297_13, f297_14, f297_15, rfl, t297_0, c297_su, t297_1, t297_2, t297_3, t297_4, t297_5, c297_tm⟩ := hk297
  rw [hw.2] at t297_1
  rw [hw.2] at t297_2
  rw [hw.2] at t297_3
  rw [hw.2] at t297_4
  rw [hw.2] at t297_5
  have hP : va_P D vwCl [(w, .inr (7, [.ref f297_0, .ref f297_1, .ref f297_2, .ref f297_3, .ref f297_4, .ref f297_5, .long f297_6, .int f297_7, .int f297_8, .int f297_9, .int f297_10, .int f297_11, .int f297_12, .int f297_13, .int f297_14, .int f297_15]))] _ := va_P.cons hat297 va_P.nil
  refine va_get (D := D) (ci := 7) (v := .ref f297_2) (C := RX7) (T := TX7) (N := 16) hx hb hts iX7_isBusy_7 hown hN.1 hP 0 rfl rfl 2 (by decide) (hts _ mX7_isBusy_1) (fun _ h9 => h9) rfl dX7_isBusy_1 ?_
  obtain ⟨hb298, e298, hat298, hk298⟩ := hT.o3 t297_2.1
  obtain ⟨f298_0, f298_1, f298_2, rfl, t298_0, t298_1⟩ := hk298
  rw [t297_2.2] at t298_0
  rw [t297_2.2] at t298_1
  have hP : va_P D vwCl [(f297_2, .inr (2, [.ref f298_0, .ref f298_1, .int f298_2])), (w, .inr (7, [.ref f297_0, .ref f297_1, .ref f297_2, .ref f297_3, .ref f297_4, .ref f297_5, .long f297_6, .int f297_7, .int f297_8, .int f297_9, .int f297_10, .int f297_11, .int f297_12, .int f297_13, .int f297_14, .int f297_15]))] _ := va_P.cons hat298 hP
  refine va_getN (D := D) (ci := 2) (v := .int f298_2) (C := RX2) (T := TX2) (N := 3) hx hb hts iX7_isBusy_2 hown hN.1 hP 0 rfl rfl 2 (by decide) (hN.f 4 rfl) (fun _ h9 => h9) rfl dX7_isBusy_4 ?_
  refine lv_if_gt (tgt := 20) hx hb dX7_isBusy_7 (by decide) (fun c299 => ?_) (fun c299 => ?_)
  · refine lv_iconst (v := 1) hx hb dX7_isBusy_20 (by decide) ?_
    exact en_i hx hb hr hlocks hL rfl (Nat.zero_le _) (Nat.zero_le _) dX7_isBusy_21 (⟨rfl, Or.inr rfl⟩)
  · refine lv_aload_n hx hb dX7_isBusy_10 rfl (lv_at hl 0 rfl) ?_
    refine va_get (D := D) (ci := 7) (v := .ref f297_3) (C := RX7) (T := TX7) (N := 16) hx hb hts iX7_isBusy_7 hown hN.1 hP 1 rfl rfl 3 (by decide) (hts _ mX7_isBusy_2) (fun _ h9 => h9) rfl dX7_isBusy_11 ?_
    obtain ⟨hb300, e300, hat300, hk300⟩ := hT.o5 t297_3.1
    obtain ⟨f300_0, f300_1, f300_2, f300_3, f300_4, f300_5, f300_6, f300_7, rfl, c300⟩ := hk300
    have hP : va_P D vwCl [(f297_3, .inr (4, [.int f300_0, .int f300_1, .int f300_2, .int f300_3, .int f300_4, .int f300_5, .int f300_6, .int f300_7])), (f297_2, .inr (2, [.ref f298_0, .ref f298_1, .int f298_2])), (w, .inr (7, [.ref f297_0, .ref f297_1, .ref f297_2, .ref f297_3, .ref f297_4, .ref f297_5, .long f297_6, .int f297_7, .int f297_8, .int f297_9, .int f297_10, .int f297_11, .int f297_12, .int f297_13, .int f297_14, .int f297_15]))] _ := va_P.cons hat300 hP
    refine va_getN (D := D) (ci := 4) (v := .int f300_5) (C := RX4) (T := TX4) (N := 8) hx hb hts iX7_isBusy_4 hown hN.1 hP 0 rfl rfl 5 (by decide) (hN.f 12 rfl) (fun _ h9 => h9) rfl dX7_isBusy_14 ?_
    refine lv_if_ne (tgt := 22) hx hb dX7_isBusy_17 (by decide) (fun c301 => ?_) (fun c301 => ?_)
    · refine lv_iconst (v := 0) hx hb dX7_isBusy_22 (by decide) ?_
      refine lv_istore_n (lv' := [(1, .int 0), (0, .ref w)]) hx hb dX7_isBusy_23 rfl hl (by decide) rfl (fun ls hl => ?_)
      refine lp_r (α := Nat) (nL := 2) (fun a9 => 8 - a9) (fun a9 => (a9 ≤ 8)) (fun a9 => [(1, .int (nI a9)), (0, .ref w)]) ?_ 0 _ (by omega) (lv_sub hl [0, 1] rfl)
      rintro p ls ih302 hp hl
      have hl : lv_has ls 2 [(1, .int (nI p)), (0, .ref w)] := hl
      have hp : p ≤ 8 := hp
      refine lv_iload_n hx hb dX7_isBusy_24 rfl (lv_at hl 0 rfl) ?_
      refine lv_aload_n hx hb dX7_isBusy_25 rfl (lv_at hl 1 rfl) ?_
      refine va_get (D := D) (ci := 7) (v := .ref f297_0) (C := RX7) (T := TX7) (N := 16) hx hb hts iX7_isBusy_7 hown hN.1 hP 2 rfl rfl 0 (by decide) (hts _ mX7_isBusy_3) (fun _ h9 => h9) rfl dX7_isBusy_26 ?_
      obtain ⟨hb303, e303, hat303, hk303⟩ := hT.o7 t297_0.1
      obtain ⟨f303_0, f303_1, f303_2, f303_3, f303_4, f303_5, f303_6, f303_7, rfl, c303_0, c303_3, t303_4, t303_5, t303_6, t303_7⟩ := hk303
      rw [t297_0.2] at t303_4
      rw [t297_0.2] at t303_5
      rw [t297_0.2] at t303_6
      rw [t297_0.2] at t303_7
      have hP : va_P D vwCl [(f297_0, .inr (6, [.int (nI f303_0), .int f303_1, .int f303_2, f303_3, .ref f303_4, .ref f303_5, .ref f303_6, .ref f303_7])), (f297_3, .inr (4, [.int f300_0, .int f300_1, .int f300_2, .int f300_3, .int f300_4, .int f300_5, .int f300_6, .int f300_7])), (f297_2, .inr (2, [.ref f298_0, .ref f298_1, .int f298_2])), (w, .inr (7, [.ref f297_0, .ref f297_1, .ref f297_2, .ref f297_3, .ref f297_4, .ref f297_5, .long f297_6, .int f297_7, .int f297_8, .int f297_9, .int f297_10, .int f297_11, .int f297_12, .int f297_13, .int f297_14, .int f297_15]))] _ := va_P.cons hat303 hP
      refine va_getN (D := D) (ci := 6) (v := .int (nI f303_0)) (C := RX6) (T := TX6) (N := 8) hx hb hts iX7_isBusy_6 hown hN.1 hP 0 rfl rfl 0 (by decide) (hN.f 39 rfl) (fun _ h9 => h9) rfl dX7_isBusy_29 ?_
      refine lv_icmp_ge (tgt := 66) hx hb dX7_isBusy_32 (by decide) (fun c304 => ?_) (fun c304 => ?_)
      · have c304 : f303_0 ≤ p := (nI_leI (a := f303_0) (b := p) (by omega) (by omega)).mp c304
        refine lv_iconst (v := 0) hx hb dX7_isBusy_66 (by decide) ?_
        exact en_i hx hb hr hlocks hL rfl (Nat.zero_le _) (Nat.zero_le _) dX7_isBusy_67 (⟨rfl, Or.inl rfl⟩)
      · have c304 : ¬ f303_0 ≤ p := fun h9 => c304 ((nI_leI (a := f303_0) (b := p) (by omega) (by omega)).mpr h9)
        refine lv_aload_n hx hb dX7_isBusy_35 rfl (lv_at hl 1 rfl) ?_
        refine lv_iload_n hx hb dX7_isBusy_36 rfl (lv_at hl 0 rfl) ?_
        refine cv_r (As := [.int (nI p)]) (rest := []) (b := w) ⟨hx, hb, hml, hown, hts⟩ (c_X7_at hT (w := w) hw (x := (nI p))) (cwV 1 hts gX7_isBusy_X7_at rfl rfl rfl hdX7_at_v ⟨Nat.le_of_ble_eq_true rfl, Nat.le_of_ble_eq_true rfl⟩) hN hL (rcv8 hN hT hw.1) rfl rfl hl.1 (Nat.le_of_ble_eq_true rfl) dX7_isBusy_37 (Nat.zero_le _) (Nat.zero_le _) (fun r305 H1 locs hL hqr305 => ?_)
        obtain ⟨rfl, hqr305⟩ := hqr305
        obtain ⟨hb306, e306, hat306, hk306⟩ := hT.o4 hqr305.1
        obtain ⟨f306_0, f306_1, f306_2, f306_3, f306_4, f306_5, f306_6, f306_7, f306_8, f306_9, rfl, c306_up⟩ := hk306
        have hP : va_P D vwCl [(r305, .inr (3, [.int f306_0, .int f306_1, .int f306_2, .int f306_3, .int f306_4, .int f306_5, .int f306_6, .int f306_7, .int f306_8, .int f306_9])), (f297_0, .inr (6, [.int (nI f303_0), .int f303_1, .int f303_2, f303_3, .ref f303_4, .ref f303_5, .ref f303_6, .ref f303_7])), (f297_3, .inr (4, [.int f300_0, .int f300_1, .int f300_2, .int f300_3, .int f300_4, .int f300_5, .int f300_6, .int f300_7])), (f297_2, .inr (2, [.ref f298_0, .ref f298_1, .int f298_2])), (w, .inr (7, [.ref f297_0, .ref f297_1, .ref f297_2, .ref f297_3, .ref f297_4, .ref f297_5, .long f297_6, .int f297_7, .int f297_8, .int f297_9, .int f297_10, .int f297_11, .int f297_12, .int f297_13, .int f297_14, .int f297_15]))] _ := va_P.cons hat306 hP
        refine va_getN (D := D) (ci := 3) (v := .int f306_0) (C := RX3) (T := TX3) (N := 10) hx hb hts iX7_isBusy_3 hown hN.1 hP 0 rfl rfl 0 (by decide) (hN.f 27 rfl) (fun _ h9 => h9) rfl dX7_isBusy_40 ?_
        refine lv_if_eq (tgt := 60) hx hb dX7_isBusy_43 (by decide) (fun c307 => ?_) (fun c307 => ?_)
        · refine lv_iinc (v := (nI (p + 1))) (lv' := [(1, .int (nI (p + 1))), (0, .ref w)]) hx hb dX7_isBusy_60 hl (k := 0) rfl (nI_add _ 1) (by decide) rfl (fun ls hl => ?_)
          refine lv_goto (tgt := 24) hx hb dX7_isBusy_63 (by decide) ?_
          exact ih302 (p + 1) _ (by show 8 - ((p + 1)) < 8 - p; omega) (by omega) (lv_sub hl [0, 1] rfl)
        · refine lv_aload_n hx hb dX7_isBusy_46 rfl (lv_at hl 1 rfl) ?_
          refine lv_iload_n hx hb dX7_isBusy_47 rfl (lv_at hl 0 rfl) ?_
          refine cv_r (As := [.int (nI p)]) (rest := []) (b := w) ⟨hx, hb, hml, hown, hts⟩ (c_X7_at hT (w := w) hw (x := (nI p))) (cwV 1 hts gX7_isBusy_X7_at rfl rfl rfl hdX7_at_v ⟨Nat.le_of_ble_eq_true rfl, Nat.le_of_ble_eq_true rfl⟩) hN hL (rcv8 hN hT hw.1) rfl rfl hl.1 (Nat.le_of_ble_eq_true rfl) dX7_isBusy_48 (Nat.zero_le _) (Nat.zero_le _) (fun r308 H1 locs hL hqr308 => ?_)
          obtain ⟨rfl, hqr308⟩ := hqr308
          obtain ⟨hb309, e309, hat309, hk309⟩ := hT.o4 hqr308.1
          obtain ⟨f309_0, f309_1, f309_2, f309_3, f309_4, f309_5, f309_6, f309_7, f309_8, f309_9, rfl, c309_up⟩ := hk309
          have hP : va_P D vwCl [(r308, .inr (3, [.int f309_0, .int f309_1, .int f309_2, .int f309_3, .int f309_4, .int f309_5, .int f309_6, .int f309_7, .int f309_8, .int f309_9])), (r305, .inr (3, [.int f306_0, .int f306_1, .int f306_2, .int f306_3, .int f306_4, .int f306_5, .int f306_6, .int f306_7, .int f306_8, .int f306_9])), (f297_0, .inr (6, [.int (nI f303_0), .int f303_1, .int f303_2, f303_3, .ref f303_4, .ref f303_5, .ref f303_6, .ref f303_7])), (f297_3, .inr (4, [.int f300_0, .int f300_1, .int f300_2, .int f300_3, .int f300_4, .int f300_5, .int f300_6, .int f300_7])), (f297_2, .inr (2, [.ref f298_0, .ref f298_1, .int f298_2])), (w, .inr (7, [.ref f297_0, .ref f297_1, .ref f297_2, .ref f297_3, .ref f297_4, .ref f297_5, .long f297_6, .int f297_7, .int f297_8, .int f297_9, .int f297_10, .int f297_11, .int f297_12, .int f297_13, .int f297_14, .int f297_15]))] _ := va_P.cons hat309 hP
          refine va_getN (D := D) (ci := 3) (v := .int f309_3) (C := RX3) (T := TX3) (N := 10) hx hb hts iX7_isBusy_3 hown hN.1 hP 0 rfl rfl 3 (by decide) (hN.f 31 rfl) (fun _ h9 => h9) rfl dX7_isBusy_51 ?_
          refine lv_iconst (v := 2) hx hb dX7_isBusy_54 (by decide) ?_
          refine lv_icmp_ne (tgt := 60) hx hb dX7_isBusy_55 (by decide) (fun c310 => ?_) (fun c310 => ?_)
          · refine lv_iinc (v := (nI (p + 1))) (lv' := [(1, .int (nI (p + 1))), (0, .ref w)]) hx hb dX7_isBusy_60 hl (k := 0) rfl (nI_add _ 1) (by decide) rfl (fun ls hl => ?_)
            refine lv_goto (tgt := 24) hx hb dX7_isBusy_63 (by decide) ?_
            exact ih302 (p + 1) _ (by show 8 - ((p + 1)) < 8 - p; omega) (by omega) (lv_sub hl [0, 1] rfl)
          · refine lv_iconst (v := 1) hx hb dX7_isBusy_58 (by decide) ?_
            exact en_i hx hb hr hlocks hL rfl (Nat.zero_le _) (Nat.zero_le _) dX7_isBusy_59 (⟨rfl, Or.inr rfl⟩)
    · refine lv_iconst (v := 1) hx hb dX7_isBusy_20 (by decide) ?_
      exact en_i hx hb hr hlocks hL rfl (Nat.zero_le _) (Nat.zero_le _) dX7_isBusy_21 (⟨rfl, Or.inr rfl⟩)
theorem mX7_makeConductor_1 : (.fieldLink RX7 68 "OneBeat$World" "conductor" "I" : Cond) ∈ wsX7_makeConductor := List.mem_of_getElem? (i := 1) (by decide +kernel)
theorem iX7_makeConductor_7 : ∀ w ∈ wsX70, w ∈ wsX7_makeConductor := fun w h => List.mem_of_mem_drop (List.mem_of_mem_take ((show wsX70 = (wsX7_makeConductor.drop 8).take 16 by decide +kernel) ▸ h))
theorem mX7_makeConductor_2 : (.fieldLink RX7 11 "OneBeat$World" "players" "[LOneBeat$Player;" : Cond) ∈ wsX7_makeConductor := List.mem_of_getElem? (i := 2) (by decide +kernel)
theorem iX7_makeConductor_3 : ∀ w ∈ wsX30, w ∈ wsX7_makeConductor := fun w h => List.mem_of_mem_drop (List.mem_of_mem_take ((show wsX30 = (wsX7_makeConductor.drop 24).take 10 by decide +kernel) ▸ h))
set_option maxHeartbeats 4000000 in
set_option maxRecDepth 100000 in
theorem c_X7_makeConductor {l : Launch} {D : va_G} {cs : Nat → ClassId} {B0 T : Nat} {κ : KM} {H0 : Heap} (hT : WT B0 D cs T κ H0) {w i : Nat} (hw : T2 κ w 8 i) {x : Int32} : KC l yX7_makeConductor wsX7_makeConductor 1 21 0 0 D cs B0 H0 [.ref w, .int x] (Qv (fun H => WT B0 D cs T κ H ∧ Fr B0 [i] κ H0 H)) := by
  refine KC.of cX7_makeConductor 3 none (by decide) rfl (Nat.le_of_ble_eq_true rfl) ?_
  intro p e s m below meth c ls hx hb hr hml hown hts hlocks hin hN hH0 hl
  have hown : s.vm.findClass RX7 = some m.cls := hown
  have hl : lv_has ls 3 [(0, .ref w), (1, .int x)] := hl
  have hL : OkL B0 [] := OkL.nil
  have hF : Fr B0 [i] κ H0 H0 := Fr.rf
  refine lv_aload_n hx hb dX7_makeConductor_0 rfl (lv_at hl 0 rfl) ?_
  refine lv_iload_n hx hb dX7_makeConductor_1 rfl (lv_at hl 1 rfl) ?_
  obtain ⟨hb311, e311, hat311, hk311⟩ := hT.o8 hw.1
  obtain ⟨f311_0, f311_1, f311_2, f311_3, f311_4, f311_5, f311_6, f311_7, f311_8, f311_9, f311_10, f311_11, f311_12, f311_13, f311_14, f311_15, rfl, t311_0, c311_su, t311_1, t311_2, t311_3, t311_4, t311_5, c311_tm⟩ := hk311
  rw [hw.2] at t311_1
  rw [hw.2] at t311_2
  rw [hw.2] at t311_3
  rw [hw.2] at t311_4
  rw [hw.2] at t311_5
  have hP : va_P D vwCl [(w, .inr (7, [.ref f311_0, .ref f311_1, .ref f311_2, .ref f311_3, .ref f311_4, .ref f311_5, .long f311_6, .int f311_7, .int f311_8, .int f311_9, .int f311_10, .int f311_11, .int f311_12, .int f311_13, .int f311_14, .int f311_15]))] _ := va_P.cons hat311 va_P.nil
  have hB : Bx B0 D _ [(w, .inr (7, [.ref f311_0, .ref f311_1, .ref f311_2, .ref f311_3, .ref f311_4, .ref f311_5, .long f311_6, .int f311_7, .int f311_8, .int f311_9, .int f311_10, .int f311_11, .int f311_12, .int f311_13, .int f311_14, .int f311_15]))] [] _ _ := Bx.of (fun a => (κ a).1) hL hP (fa_c hb311 fa_n) (by simp only [List.map_cons, List.map_nil, hw.1]; decide)
  refine b_put (D := D) (ci := 7) (v := .int x) (ty := .int) (C := RX7) (T := TX7) (N := 16) hx hb hts iX7_makeConductor_7 tyX7 tyX7_ok nmX7 hown hN hB 0 rfl rfl 8 (by decide) (hts _ mX7_makeConductor_1) (fun _ h9 => h9) rfl (by decide +kernel) rfl rfl (Nat.le_of_ble_eq_true rfl) (.inl rfl) dX7_makeConductor_2 (fun H locs hB => ?_)
  have hB : Bx B0 D _ [(w, .inr (7, [.ref f311_0, .ref f311_1, .ref f311_2, .ref f311_3, .ref f311_4, .ref f311_5, .long f311_6, .int f311_7, .int x, .int f311_9, .int f311_10, .int f311_11, .int f311_12, .int f311_13, .int f311_14, .int f311_15]))] [w] _ _ := hB
  refine lv_iconst (v := 0) hx hb dX7_makeConductor_5 (by decide) ?_
  refine lv_istore_n (lv' := [(2, .int 0), (0, .ref w), (1, .int x)]) hx hb dX7_makeConductor_6 rfl hl (by decide) rfl (fun ls hl => ?_)
  have hT : WT B0 D cs T κ _ := hT.close hB ⟨⟨0, _, rfl, ok_8 hw.1 ⟨_, _, _, _, _, _, _, _, _, _, _, _, _, _, _, _, rfl, t311_0, c311_su, ⟨t311_1.1, by rw [hw.2]; exact t311_1.2⟩, ⟨t311_2.1, by rw [hw.2]; exact t311_2.2⟩, ⟨t311_3.1, by rw [hw.2]; exact t311_3.2⟩, ⟨t311_4.1, by rw [hw.2]; exact t311_4.2⟩, ⟨t311_5.1, by rw [hw.2]; exact t311_5.2⟩, c311_tm⟩⟩, trivial⟩
  have hF : Fr B0 [i] κ H0 _ := hF.close hB (fa_c (by simp [hw.2]) fa_n)
  have hL : OkL B0 _ := hB.2.2.2.2.2
  have hP : va_P D vwCl [(w, .inr (7, [.ref f311_0, .ref f311_1, .ref f311_2, .ref f311_3, .ref f311_4, .ref f311_5, .long f311_6, .int f311_7, .int x, .int f311_9, .int f311_10, .int f311_11, .int f311_12, .int f311_13, .int f311_14, .int f311_15]))] _ := hB.1
  refine lp_m (α := Nat) (nL := 3) (fun a9 => 8 - a9) (fun a9 H9 l9 => (a9 ≤ 8) ∧ (WT B0 D cs T κ H9) ∧ (Fr B0 [i] κ H0 H9) ∧ (OkL B0 l9)) (fun a9 => [(2, .int (nI a9)), (0, .ref w)]) ?_ 0 _ _ _ ⟨(by omega), hT, hF, hL⟩ (lv_sub hl [0, 1] rfl)
  rintro p H locs ls ih312 ⟨hp, hT, hF, hL⟩ hl
  have hl : lv_has ls 3 [(2, .int (nI p)), (0, .ref w)] := hl
  have hp : p ≤ 8 := hp
  refine lv_iload_n hx hb dX7_makeConductor_7 rfl (lv_at hl 0 rfl) ?_
  refine lv_aload_n hx hb dX7_makeConductor_8 rfl (lv_at hl 1 rfl) ?_
  obtain ⟨hb313, e313, hat313, hk313⟩ := hT.o8 hw.1
  obtain ⟨f313_0, f313_1, f313_2, f313_3, f313_4, f313_5, f313_6, f313_7, f313_8, f313_9, f313_10, f313_11, f313_12, f313_13, f313_14, f313_15, rfl, t313_0, c313_su, t313_1, t313_2, t313_3, t313_4, t313_5, c313_tm⟩ := hk313
  rw [hw.2] at t313_1
  rw [hw.2] at t313_2
  rw [hw.2] at t313_3
  rw [hw.2] at t313_4
  rw [hw.2] at t313_5
  have hP : va_P D vwCl [(w, .inr (7, [.ref f313_0, .ref f313_1, .ref f313_2, .ref f313_3, .ref f313_4, .ref f313_5, .long f313_6, .int f313_7, .int f313_8, .int f313_9, .int f313_10, .int f313_11, .int f313_12, .int f313_13, .int f313_14, .int f313_15]))] _ := va_P.cons hat313 va_P.nil
  refine va_get (D := D) (ci := 7) (v := .ref f313_1) (C := RX7) (T := TX7) (N := 16) hx hb hts iX7_makeConductor_7 hown hN.1 hP 0 rfl rfl 1 (by decide) (hts _ mX7_makeConductor_2) (fun _ h9 => h9) rfl dX7_makeConductor_9 ?_
  obtain ⟨hb314, e314, hat314, hk314⟩ := hT.o11 t313_1.1
  obtain ⟨g314, rfl, q314⟩ := hk314
  rw [t313_1.2] at q314
  have hP : va_P D vwCl [(f313_1, .inl (cs 4, 8, .inr (.inr (.inr (.inr g314))))), (w, .inr (7, [.ref f313_0, .ref f313_1, .ref f313_2, .ref f313_3, .ref f313_4, .ref f313_5, .long f313_6, .int f313_7, .int f313_8, .int f313_9, .int f313_10, .int f313_11, .int f313_12, .int f313_13, .int f313_14, .int f313_15]))] _ := va_P.cons hat314 hP
  refine va_alen (v := 8) hx hb hN.1 hP 0 4 rfl rfl rfl dX7_makeConductor_12 ?_
  refine lv_icmp_ge (tgt := 31) hx hb dX7_makeConductor_13 (by decide) (fun c315 => ?_) (fun c315 => ?_)
  · have c315 : 8 ≤ p := (nI_leI (a := 8) (b := p) (by omega) (by omega)).mp c315
    exact en_v hx hb hr hlocks hL (Nat.zero_le _) (Nat.zero_le _) dX7_makeConductor_31 (⟨hT, hF⟩)
  · have c315 : ¬ 8 ≤ p := fun h9 => c315 ((nI_leI (a := 8) (b := p) (by omega) (by omega)).mpr h9)
    refine lv_aload_n hx hb dX7_makeConductor_16 rfl (lv_at hl 1 rfl) ?_
    refine lv_iload_n hx hb dX7_makeConductor_17 rfl (lv_at hl 0 rfl) ?_
    refine cv_r (As := [.int (nI p)]) (rest := []) (b := w) ⟨hx, hb, hml, hown, hts⟩ (c_X7_at hT (w := w) hw (x := (nI p))) (cwV 1 hts gX7_makeConductor_X7_at rfl rfl rfl hdX7_at_v ⟨Nat.le_of_ble_eq_true rfl, Nat.le_of_ble_eq_true rfl⟩) hN hL (rcv8 hN hT hw.1) rfl rfl hl.1 (Nat.le_of_ble_eq_true rfl) dX7_makeConductor_18 (Nat.zero_le _) (Nat.zero_le _) (fun r316 H1 locs hL hqr316 => ?_)
    obtain ⟨rfl, hqr316⟩ := hqr316
    refine lv_iconst (v := 0) hx hb dX7_makeConductor_21 (by decide) ?_
    obtain ⟨hb317, e317, hat317, hk317⟩ := hT.o4 hqr316.1
    obtain ⟨f317_0, f317_1, f317_2, f317_3, f317_4, f317_5, f317_6, f317_7, f317_8, f317_9, rfl, c317_up⟩ := hk317
    have hP : va_P D vwCl [(r316, .inr (3, [.int f317_0, .int f317_1, .int f317_2, .int f317_3, .int f317_4, .int f317_5, .int f317_6, .int f317_7, .int f317_8, .int f317_9])), (f313_1, .inl (cs 4, 8, .inr (.inr (.inr (.inr g314))))), (w, .inr (7, [.ref f313_0, .ref f313_1, .ref f313_2, .ref f313_3, .ref f313_4, .ref f313_5, .long f313_6, .int f313_7, .int f313_8, .int f313_9, .int f313_10, .int f313_11, .int f313_12, .int f313_13, .int f313_14, .int f313_15]))] _ := va_P.cons hat317 hP
    have hB : Bx B0 D _ [(r316, .inr (3, [.int f317_0, .int f317_1, .int f317_2, .int f317_3, .int f317_4, .int f317_5, .int f317_6, .int f317_7, .int f317_8, .int f317_9])), (f313_1, .inl (cs 4, 8, .inr (.inr (.inr (.inr g314))))), (w, .inr (7, [.ref f313_0, .ref f313_1, .ref f313_2, .ref f313_3, .ref f313_4, .ref f313_5, .long f313_6, .int f313_7, .int f313_8, .int f313_9, .int f313_10, .int f313_11, .int f313_12, .int f313_13, .int f313_14, .int f313_15]))] [] _ _ := Bx.of (fun a => (κ a).1) hL hP (fa_c hb317 (fa_c hb314 (fa_c hb313 fa_n))) (by simp only [List.map_cons, List.map_nil, hqr316.1, t313_1.1, hw.1]; decide)
    refine b_putN (D := D) (ci := 3) (v := .int 0) (ty := .int) (C := RX3) (T := TX3) (N := 10) hx hb hts iX7_makeConductor_3 tyX3 tyX3_ok nmX3 hown hN hB 0 rfl rfl 1 (by decide) (hN.f 29 rfl) (fun _ h9 => h9) rfl (by decide +kernel) rfl rfl (Nat.le_of_ble_eq_true rfl) (.inl rfl) dX7_makeConductor_22 (fun H locs hB => ?_)
    have hB : Bx B0 D _ [(r316, .inr (3, [.int f317_0, .int 0, .int f317_2, .int f317_3, .int f317_4, .int f317_5, .int f317_6, .int f317_7, .int f317_8, .int f317_9])), (f313_1, .inl (cs 4, 8, .inr (.inr (.inr (.inr g314))))), (w, .inr (7, [.ref f313_0, .ref f313_1, .ref f313_2, .ref f313_3, .ref f313_4, .ref f313_5, .long f313_6, .int f313_7, .int f313_8, .int f313_9, .int f313_10, .int f313_11, .int f313_12, .int f313_13, .int f313_14, .int f313_15]))] [r316] _ _ := hB
    refine lv_iinc (v := (nI (p + 1))) (lv' := [(2, .int (nI (p + 1))), (0, .ref w)]) hx hb dX7_makeConductor_25 hl (k := 0) rfl (nI_add _ 1) (by decide) rfl (fun ls hl => ?_)
    refine lv_goto (tgt := 7) hx hb dX7_makeConductor_28 (by decide) ?_
    have hT : WT B0 D cs T κ _ := hT.close hB ⟨⟨0, _, rfl, ok_4 hqr316.1 ⟨_, _, _, _, _, _, _, _, _, _, rfl, c317_up⟩⟩, trivial⟩
    have hF : Fr B0 [i] κ H0 _ := hF.close hB (fa_c (by simp [hqr316.2]) fa_n)
    have hL : OkL B0 _ := hB.2.2.2.2.2
    have hP : va_P D vwCl [(r316, .inr (3, [.int f317_0, .int 0, .int f317_2, .int f317_3, .int f317_4, .int f317_5, .int f317_6, .int f317_7, .int f317_8, .int f317_9])), (f313_1, .inl (cs 4, 8, .inr (.inr (.inr (.inr g314))))), (w, .inr (7, [.ref f313_0, .ref f313_1, .ref f313_2, .ref f313_3, .ref f313_4, .ref f313_5, .long f313_6, .int f313_7, .int f313_8, .int f313_9, .int f313_10, .int f313_11, .int f313_12, .int f313_13, .int f313_14, .int f313_15]))] _ := hB.1
    exact ih312 (p + 1) _ _ _ (by show 8 - ((p + 1)) < 8 - p; omega) ⟨(by omega), hT, hF, hL⟩ (lv_sub hl [0, 1] rfl)
theorem hdX3_canChange_v : yX3_canChange.cls = RX3 ∧ yX3_canChange.cls ≠ "java/lang/invoke/MethodHandle" ∧ yX3_canChange.cls ≠ "java/lang/invoke/VarHandle" ∧ (parseMethodDescriptor yX3_canChange.desc).map (fun d => d.parameters.length) = some 1 := by decide +kernel
theorem iX7_changeIfDue_3 : ∀ w ∈ wsX30, w ∈ wsX7_changeIfDue := fun w h => List.mem_of_mem_drop (List.mem_of_mem_take ((show wsX30 = (wsX7_changeIfDue.drop 57).take 10 by decide +kernel) ▸ h))
theorem mX7_changeIfDue_1 : (.fieldLink RX7 77 "OneBeat$World" "made" "I" : Cond) ∈ wsX7_changeIfDue := List.mem_of_getElem? (i := 1) (by decide +kernel)
theorem iX7_changeIfDue_7 : ∀ w ∈ wsX70, w ∈ wsX7_changeIfDue := fun w h => List.mem_of_mem_drop (List.mem_of_mem_take ((show wsX70 = (wsX7_changeIfDue.drop 67).take 16 by decide +kernel) ▸ h))
theorem mX7_changeIfDue_3 : (.fieldLink RX7 64 "OneBeat$World" "time" "I" : Cond) ∈ wsX7_changeIfDue := List.mem_of_getElem? (i := 3) (by decide +kernel)
theorem hdX3_change_v : yX3_change.cls = RX3 ∧ yX3_change.cls ≠ "java/lang/invoke/MethodHandle" ∧ yX3_change.cls ≠ "java/lang/invoke/VarHandle" ∧ (parseMethodDescriptor yX3_change.desc).map (fun d => d.parameters.length) = some 2 := by decide +kernel
theorem mX7_changeIfDue_4 : (.fieldLink RX7 86 "OneBeat$World" "changes" "I" : Cond) ∈ wsX7_changeIfDue := List.mem_of_getElem? (i := 4) (by decide +kernel)
theorem mX7_changeIfDue_2 : (.fieldLink RX7 27 "OneBeat$World" "latest" "LOneBeat$Proposal;" : Cond) ∈ wsX7_changeIfDue := List.mem_of_getElem? (i := 2) (by decide +kernel)
theorem hdX4_noteChange_v : yX4_noteChange.cls = RX4 ∧ yX4_noteChange.cls ≠ "java/lang/invoke/MethodHandle" ∧ yX4_noteChange.cls ≠ "java/lang/invoke/VarHandle" ∧ (parseMethodDescriptor yX4_noteChange.desc).map (fun d => d.parameters.length) = some 1 := by decide +kernel
theorem mX7_changeIfDue_5 : (.fieldLink RX7 89 "OneBeat$World" "late" "I" : Cond) ∈ wsX7_changeIfDue := List.mem_of_getElem? (i := 5) (by decide +kernel)
set_option maxHeartbeats 4000000 in
set_option maxRecDepth 100000 in
theorem c_X7_changeIfDue {l : Launch} {D : va_G} {cs : Nat → ClassId} {B0 T : Nat} {κ : KM} {H0 : Heap} (hT : WT B0 D cs T κ H0) {w i : Nat} (hw : T2 κ w 8 i) {x : Int32} : KC l yX7_changeIfDue wsX7_changeIfDue 3 64 0 0 D cs B0 H0 [.ref w, .int x] (Qv (fun H => WT B0 D cs T κ H ∧ Fr B0 [i] κ H0 H)) := by
  refine KC.of cX7_changeIfDue 5 none (by decide) rfl (Nat.le_of_ble_eq_true rfl) ?_
  intro p e s m below meth c ls hx hb hr hml hown hts hlocks hin hN hH0 hl
  have hown : s.vm.findClass RX7 = some m.cls := hown
  have hl : lv_has ls 5 [(0, .ref w), (1, .int x)] := hl
  have hL : OkL B0 [] := OkL.nil
  have hF : Fr B0 [i] κ H0 H0 := Fr.rf
  refine lv_aload_n hx hb dX7_changeIfDue_0 rfl (lv_at hl 0 rfl) ?_
  refine lv_iload_n hx hb dX7_changeIfDue_1 rfl (lv_at hl 1 rfl) ?_
  refine cv_r (As := [.int x]) (rest := []) (b := w) ⟨hx, hb, hml, hown, hts⟩ (c_X7_at hT (w := w) hw (x := x)) (cwV 1 hts gX7_changeIfDue_X7_at rfl rfl rfl hdX7_at_v ⟨Nat.le_of_ble_eq_true rfl, Nat.le_of_ble_eq_true rfl⟩) hN hL (rcv8 hN hT hw.1) rfl rfl hl.1 (Nat.le_of_ble_eq_true rfl) dX7_changeIfDue_2 (Nat.zero_le _) (Nat.zero_le _) (fun r318 H1 locs hL hqr318 => ?_)
  obtain ⟨rfl, hqr318⟩ := hqr318
  refine lv_astore_n (lv' := [(2, .ref r318), (0, .ref w), (1, .int x)]) hx hb dX7_changeIfDue_5 rfl hl (by decide) rfl (fun ls hl => ?_)
  refine lv_aload_n hx hb dX7_changeIfDue_6 rfl (lv_at hl 1 rfl) ?_
  refine lv_iload_n hx hb dX7_changeIfDue_7 rfl (lv_at hl 2 rfl) ?_
  refine cv_i (As := [.int x]) (rest := []) (b := w) ⟨hx, hb, hml, hown, hts⟩ (c_X7_estimate hT (w := w) hw (x := x)) (cwV 1 hts gX7_changeIfDue_X7_estimate rfl rfl rfl hdX7_estimate_v ⟨Nat.le_of_ble_eq_true rfl, Nat.le_of_ble_eq_true rfl⟩) hN hL (rcv8 hN hT hw.1) rfl rfl hl.1 (Nat.le_of_ble_eq_true rfl) dX7_changeIfDue_8 (Nat.zero_le _) (Nat.zero_le _) (fun r319 H1 locs hL hqr319 => ?_)
  obtain rfl := hqr319
  refine lv_istore_n (lv' := [(3, .int r319), (2, .ref r318), (0, .ref w), (1, .int x)]) hx hb dX7_changeIfDue_11 rfl hl (by decide) rfl (fun ls hl => ?_)
  refine lv_aload_n hx hb dX7_changeIfDue_12 rfl (lv_at hl 1 rfl) ?_
  refine lv_iload_n hx hb dX7_changeIfDue_13 rfl (lv_at hl 0 rfl) ?_
  refine cv_i (As := [.int r319]) (rest := []) (b := r318) ⟨hx, hb, hml, hown, hts⟩ (c_X3_canChange hT (w := r318) hqr318 (x := r319)) (cwV 1 hts gX7_changeIfDue_X3_canChange rfl rfl rfl hdX3_canChange_v ⟨Nat.le_of_ble_eq_true rfl, Nat.le_of_ble_eq_true rfl⟩) hN hL (rcv4 hN hT hqr318.1) rfl rfl hl.1 (Nat.le_of_ble_eq_true rfl) dX7_changeIfDue_14 (Nat.zero_le _) (Nat.zero_le _) (fun r320 H1 locs hL hqr320 => ?_)
  obtain ⟨rfl, hqr320⟩ := hqr320
  rcases hqr320 with rfl | rfl
  · refine lv_if_ne (tgt := 21) hx hb dX7_changeIfDue_17 (by decide) (fun c9 => absurd (by decide) c9) (fun _ => ?_)
    exact en_v hx hb hr hlocks hL (Nat.zero_le _) (Nat.zero_le _) dX7_changeIfDue_20 (⟨hT, hF⟩)
  · refine lv_if_ne (tgt := 21) hx hb dX7_changeIfDue_17 (by decide) (fun _ => ?_) (fun c9 => absurd c9 (by decide))
    refine lv_iload_n hx hb dX7_changeIfDue_21 rfl (lv_at hl 0 rfl) ?_
    refine lv_aload_n hx hb dX7_changeIfDue_22 rfl (lv_at hl 1 rfl) ?_
    obtain ⟨hb321, e321, hat321, hk321⟩ := hT.o4 hqr318.1
    obtain ⟨f321_0, f321_1, f321_2, f321_3, f321_4, f321_5, f321_6, f321_7, f321_8, f321_9, rfl, c321_up⟩ := hk321
    have hP : va_P D vwCl [(r318, .inr (3, [.int f321_0, .int f321_1, .int f321_2, .int f321_3, .int f321_4, .int f321_5, .int f321_6, .int f321_7, .int f321_8, .int f321_9]))] _ := va_P.cons hat321 va_P.nil
    refine va_getN (D := D) (ci := 3) (v := .int f321_6) (C := RX3) (T := TX3) (N := 10) hx hb hts iX7_changeIfDue_3 hown hN.1 hP 0 rfl rfl 6 (by decide) (hN.f 33 rfl) (fun _ h9 => h9) rfl dX7_changeIfDue_23 ?_
    refine lv_icmp_le (tgt := 33) hx hb dX7_changeIfDue_26 (by decide) (fun c322 => ?_) (fun c322 => ?_)
    · refine lv_iconst (v := 0) hx hb dX7_changeIfDue_33 (by decide) ?_
      refine lv_istore (lv' := [(4, .int 0), (3, .int r319), (2, .ref r318), (0, .ref w), (1, .int x)]) hx hb dX7_changeIfDue_34 hl (by decide) rfl (fun ls hl => ?_)
      refine lv_aload_n hx hb dX7_changeIfDue_36 rfl (lv_at hl 2 rfl) ?_
      refine va_getN (D := D) (ci := 3) (v := .int f321_4) (C := RX3) (T := TX3) (N := 10) hx hb hts iX7_changeIfDue_3 hown hN.1 hP 0 rfl rfl 4 (by decide) (hN.f 32 rfl) (fun _ h9 => h9) rfl dX7_changeIfDue_37 ?_
      refine lv_aload_n hx hb dX7_changeIfDue_40 rfl (lv_at hl 3 rfl) ?_
      obtain ⟨hb323, e323, hat323, hk323⟩ := hT.o8 hw.1
      obtain ⟨f323_0, f323_1, f323_2, f323_3, f323_4, f323_5, f323_6, f323_7, f323_8, f323_9, f323_10, f323_11, f323_12, f323_13, f323_14, f323_15, rfl, t323_0, c323_su, t323_1, t323_2, t323_3, t323_4, t323_5, c323_tm⟩ := hk323
      rw [hw.2] at t323_1
      rw [hw.2] at t323_2
      rw [hw.2] at t323_3
      rw [hw.2] at t323_4
      rw [hw.2] at t323_5
      have hP : va_P D vwCl [(w, .inr (7, [.ref f323_0, .ref f323_1, .ref f323_2, .ref f323_3, .ref f323_4, .ref f323_5, .long f323_6, .int f323_7, .int f323_8, .int f323_9, .int f323_10, .int f323_11, .int f323_12, .int f323_13, .int f323_14, .int f323_15])), (r318, .inr (3, [.int f321_0, .int f321_1, .int f321_2, .int f321_3, .int f321_4, .int f321_5, .int f321_6, .int f321_7, .int f321_8, .int f321_9]))] _ := va_P.cons hat323 hP
      refine va_get (D := D) (ci := 7) (v := .int f323_11) (C := RX7) (T := TX7) (N := 16) hx hb hts iX7_changeIfDue_7 hown hN.1 hP 0 rfl rfl 11 (by decide) (hts _ mX7_changeIfDue_1) (fun _ h9 => h9) rfl dX7_changeIfDue_41 ?_
      refine lv_iconst (v := 1) hx hb dX7_changeIfDue_44 (by decide) ?_
      refine lv_isub hx hb dX7_changeIfDue_45 ?_
      refine gn_i (fun x324 => ?_)
      refine lv_icmp_ne (tgt := 60) hx hb dX7_changeIfDue_46 (by decide) (fun c325 => ?_) (fun c325 => ?_)
      · refine lv_aload_n hx hb dX7_changeIfDue_60 rfl (lv_at hl 2 rfl) ?_
        refine lv_aload_n hx hb dX7_changeIfDue_61 rfl (lv_at hl 3 rfl) ?_
        refine va_get (D := D) (ci := 7) (v := .int f323_7) (C := RX7) (T := TX7) (N := 16) hx hb hts iX7_changeIfDue_7 hown hN.1 hP 0 rfl rfl 7 (by decide) (hts _ mX7_changeIfDue_3) (fun _ h9 => h9) rfl dX7_changeIfDue_62 ?_
        refine lv_iload hx hb dX7_changeIfDue_65 (lv_at hl 0 rfl) ?_
        refine cv_v (As := [.int f323_7, .int 0]) (rest := []) (b := r318) ⟨hx, hb, hml, hown, hts⟩ (c_X3_change hT (w := r318) hqr318 (x := f323_7) (y := 0)) (cwV 2 hts gX7_changeIfDue_X3_change rfl rfl rfl hdX3_change_v ⟨Nat.le_of_ble_eq_true rfl, Nat.le_of_ble_eq_true rfl⟩) hN hL (rcv4 hN hT hqr318.1) rfl rfl hl.1 (Nat.le_of_ble_eq_true rfl) dX7_changeIfDue_67 (Nat.zero_le _) (Nat.zero_le _) (fun H1 locs hL hqr326 => ?_)
        obtain ⟨hT1, hF1⟩ := hqr326
        have hF := hF.tr (hF1.mono (by simp))
        have hT := hT1
        refine lv_aload_n hx hb dX7_changeIfDue_70 rfl (lv_at hl 3 rfl) ?_
        refine lv_dup hx hb dX7_changeIfDue_71 rfl ?_
        obtain ⟨hb327, e327, hat327, hk327⟩ := hT.o8 hw.1
        obtain ⟨f327_0, f327_1, f327_2, f327_3, f327_4, f327_5, f327_6, f327_7, f327_8, f327_9, f327_10, f327_11, f327_12, f327_13, f327_14, f327_15, rfl, t327_0, c327_su, t327_1, t327_2, t327_3, t327_4, t327_5, c327_tm⟩ := hk327
        rw [hw.2] at t327_1
        rw [hw.2] at t327_2
        rw [hw.2] at t327_3
        rw [hw.2] at t327_4
        rw [hw.2] at t327_5
        have hP : va_P D vwCl [(w, .inr (7, [.ref f327_0, .ref f327_1, .ref f327_2, .ref f327_3, .ref f327_4, .ref f327_5, .long f327_6, .int f327_7, .int f327_8, .int f327_9, .int f327_10, .int f327_11, .int f327_12, .int f327_13, .int f327_14, .int f327_15]))] _ := va_P.cons hat327 va_P.nil
        refine va_get (D := D) (ci := 7) (v := .int f327_14) (C := RX7) (T := TX7) (N := 16) hx hb hts iX7_changeIfDue_7 hown hN.1 hP 0 rfl rfl 14 (by decide) (hts _ mX7_changeIfDue_4) (fun _ h9 => h9) rfl dX7_changeIfDue_72 ?_
        refine lv_iconst (v := 1) hx hb dX7_changeIfDue_75 (by decide) ?_
        refine lv_iadd hx hb dX7_changeIfDue_76 ?_
        refine gn_i (fun x328 => ?_)
        have hB : Bx B0 D _ [(w, .inr (7, [.ref f327_0, .ref f327_1, .ref f327_2, .ref f327_3, .ref f327_4, .ref f327_5, .long f327_6, .int f327_7, .int f327_8, .int f327_9, .int f327_10, .int f327_11, .int f327_12, .int f327_13, .int f327_14, .int f327_15]))] [] _ _ := Bx.of (fun a => (κ a).1) hL hP (fa_c hb327 fa_n) (by simp only [List.map_cons, List.map_nil, hw.1]; decide)
        refine b_put (D := D) (ci := 7) (v := .int x328) (ty := .int) (C := RX7) (T := TX7) (N := 16) hx hb hts iX7_changeIfDue_7 tyX7 tyX7_ok nmX7 hown hN hB 0 rfl rfl 14 (by decide) (hts _ mX7_changeIfDue_4) (fun _ h9 => h9) rfl (by decide +kernel) rfl rfl (Nat.le_of_ble_eq_true rfl) (.inl rfl) dX7_changeIfDue_77 (fun H locs hB => ?_)
        have hB : Bx B0 D _ [(w, .inr (7, [.ref f327_0, .ref f327_1, .ref f327_2, .ref f327_3, .ref f327_4, .ref f327_5, .long f327_6, .int f327_7, .int f327_8, .int f327_9, .int f327_10, .int f327_11, .int f327_12, .int f327_13, .int x328, .int f327_15]))] [w] _ _ := hB
        refine lv_iload hx hb dX7_changeIfDue_80 (lv_at hl 0 rfl) ?_
        refine lv_if_eq (tgt := 95) hx hb dX7_changeIfDue_82 (by decide) (fun _ => ?_) (fun c9 => absurd (by decide) c9)
        have hT : WT B0 D cs T κ _ := hT.close hB ⟨⟨0, _, rfl, ok_8 hw.1 ⟨_, _, _, _, _, _, _, _, _, _, _, _, _, _, _, _, rfl, t327_0, c327_su, ⟨t327_1.1, by rw [hw.2]; exact t327_1.2⟩, ⟨t327_2.1, by rw [hw.2]; exact t327_2.2⟩, ⟨t327_3.1, by rw [hw.2]; exact t327_3.2⟩, ⟨t327_4.1, by rw [hw.2]; exact t327_4.2⟩, ⟨t327_5.1, by rw [hw.2]; exact t327_5.2⟩, c327_tm⟩⟩, trivial⟩
        have hF : Fr B0 [i] κ H0 _ := hF.close hB (fa_c (by simp [hw.2]) fa_n)
        have hL : OkL B0 _ := hB.2.2.2.2.2
        have hP : va_P D vwCl [(w, .inr (7, [.ref f327_0, .ref f327_1, .ref f327_2, .ref f327_3, .ref f327_4, .ref f327_5, .long f327_6, .int f327_7, .int f327_8, .int f327_9, .int f327_10, .int f327_11, .int f327_12, .int f327_13, .int x328, .int f327_15]))] _ := hB.1
        exact en_v hx hb hr hlocks hL (Nat.zero_le _) (Nat.zero_le _) dX7_changeIfDue_95 (⟨hT, hF⟩)
      · refine lv_aload_n hx hb dX7_changeIfDue_49 rfl (lv_at hl 3 rfl) ?_
        refine va_get (D := D) (ci := 7) (v := .ref f323_3) (C := RX7) (T := TX7) (N := 16) hx hb hts iX7_changeIfDue_7 hown hN.1 hP 0 rfl rfl 3 (by decide) (hts _ mX7_changeIfDue_2) (fun _ h9 => h9) rfl dX7_changeIfDue_50 ?_
        refine lv_aload_n hx hb dX7_changeIfDue_53 rfl (lv_at hl 3 rfl) ?_
        refine va_get (D := D) (ci := 7) (v := .int f323_7) (C := RX7) (T := TX7) (N := 16) hx hb hts iX7_changeIfDue_7 hown hN.1 hP 0 rfl rfl 7 (by decide) (hts _ mX7_changeIfDue_3) (fun _ h9 => h9) rfl dX7_changeIfDue_54 ?_
        refine cv_v (As := [.int f323_7]) (rest := []) (b := f323_3) ⟨hx, hb, hml, hown, hts⟩ (c_X4_noteChange hT (w := f323_3) t323_3 (x := f323_7)) (cwV 1 hts gX7_changeIfDue_X4_noteChange rfl rfl rfl hdX4_noteChange_v ⟨Nat.le_of_ble_eq_true rfl, Nat.le_of_ble_eq_true rfl⟩) hN hL (rcv5 hN hT t323_3.1) rfl rfl hl.1 (Nat.le_of_ble_eq_true rfl) dX7_changeIfDue_57 (Nat.zero_le _) (Nat.zero_le _) (fun H1 locs hL hqr329 => ?_)
        obtain ⟨hT1, hF1⟩ := hqr329
        have hF := hF.tr (hF1.mono (by simp))
        have hT := hT1
        refine lv_aload_n hx hb dX7_changeIfDue_60 rfl (lv_at hl 2 rfl) ?_
        refine lv_aload_n hx hb dX7_changeIfDue_61 rfl (lv_at hl 3 rfl) ?_
        obtain ⟨hb330, e330, hat330, hk330⟩ := hT.o8 hw.1
        obtain ⟨f330_0, f330_1, f330_2, f330_3, f330_4, f330_5, f330_6, f330_7, f330_8, f330_9, f330_10, f330_11, f330_12, f330_13, f330_14, f330_15, rfl, t330_0, c330_su, t330_1, t330_2, t330_3, t330_4, t330_5, c330_tm⟩ := hk330
        rw [hw.2] at t330_1
        rw [hw.2] at t330_2
        rw [hw.2] at t330_3
        rw [hw.2] at t330_4
        rw [hw.2] at t330_5
        have hP : va_P D vwCl [(w, .inr (7, [.ref f330_0, .ref f330_1, .ref f330_2, .ref f330_3, .ref f330_4, .ref f330_5, .long f330_6, .int f330_7, .int f330_8, .int f330_9, .int f330_10, .int f330_11, .int f330_12, .int f330_13, .int f330_14, .int f330_15]))] _ := va_P.cons hat330 va_P.nil
        refine va_get (D := D) (ci := 7) (v := .int f330_7) (C := RX7) (T := TX7) (N := 16) hx hb hts iX7_changeIfDue_7 hown hN.1 hP 0 rfl rfl 7 (by decide) (hts _ mX7_changeIfDue_3) (fun _ h9 => h9) rfl dX7_changeIfDue_62 ?_
        refine lv_iload hx hb dX7_changeIfDue_65 (lv_at hl 0 rfl) ?_
        refine cv_v (As := [.int f330_7, .int 0]) (rest := []) (b := r318) ⟨hx, hb, hml, hown, hts⟩ (c_X3_change hT (w := r318) hqr318 (x := f330_7) (y := 0)) (cwV 2 hts gX7_changeIfDue_X3_change rfl rfl rfl hdX3_change_v ⟨Nat.le_of_ble_eq_true rfl, Nat.le_of_ble_eq_true rfl⟩) hN hL (rcv4 hN hT hqr318.1) rfl rfl hl.1 (Nat.le_of_ble_eq_true rfl) dX7_changeIfDue_67 (Nat.zero_le _) (Nat.zero_le _) (fun H1 locs hL hqr331 => ?_)
        obtain ⟨hT1, hF1⟩ := hqr331
        have hF := hF.tr (hF1.mono (by simp))
        have hT := hT1
        refine lv_aload_n hx hb dX7_changeIfDue_70 rfl (lv_at hl 3 rfl) ?_
        refine lv_dup hx hb dX7_changeIfDue_71 rfl ?_
        obtain ⟨hb332, e332, hat332, hk332⟩ := hT.o8 hw.1
        obtain ⟨f332_0, f332_1, f332_2, f332_3, f332_4, f332_5, f332_6, f332_7, f332_8, f332_9, f332_10, f332_11, f332_12, f332_13, f332_14, f332_15, rfl, t332_0, c332_su, t332_1, t332_2, t332_3, t332_4, t332_5, c332_tm⟩ := hk332
        rw [hw.2] at t332_1
        rw [hw.2] at t332_2
        rw [hw.2] at t332_3
        rw [hw.2] at t332_4
        rw [hw.2] at t332_5
        have hP : va_P D vwCl [(w, .inr (7, [.ref f332_0, .ref f332_1, .ref f332_2, .ref f332_3, .ref f332_4, .ref f332_5, .long f332_6, .int f332_7, .int f332_8, .int f332_9, .int f332_10, .int f332_11, .int f332_12, .int f332_13, .int f332_14, .int f332_15]))] _ := va_P.cons hat332 va_P.nil
        refine va_get (D := D) (ci := 7) (v := .int f332_14) (C := RX7) (T := TX7) (N := 16) hx hb hts iX7_changeIfDue_7 hown hN.1 hP 0 rfl rfl 14 (by decide) (hts _ mX7_changeIfDue_4) (fun _ h9 => h9) rfl dX7_changeIfDue_72 ?_
        refine lv_iconst (v := 1) hx hb dX7_changeIfDue_75 (by decide) ?_
        refine lv_iadd hx hb dX7_changeIfDue_76 ?_
        refine gn_i (fun x333 => ?_)
        have hB : Bx B0 D _ [(w, .inr (7, [.ref f332_0, .ref f332_1, .ref f332_2, .ref f332_3, .ref f332_4, .ref f332_5, .long f332_6, .int f332_7, .int f332_8, .int f332_9, .int f332_10, .int f332_11, .int f332_12, .int f332_13, .int f332_14, .int f332_15]))] [] _ _ := Bx.of (fun a => (κ a).1) hL hP (fa_c hb332 fa_n) (by simp only [List.map_cons, List.map_nil, hw.1]; decide)
        refine b_put (D := D) (ci := 7) (v := .int x333) (ty := .int) (C := RX7) (T := TX7) (N := 16) hx hb hts iX7_changeIfDue_7 tyX7 tyX7_ok nmX7 hown hN hB 0 rfl rfl 14 (by decide) (hts _ mX7_changeIfDue_4) (fun _ h9 => h9) rfl (by decide +kernel) rfl rfl (Nat.le_of_ble_eq_true rfl) (.inl rfl) dX7_changeIfDue_77 (fun H locs hB => ?_)
        have hB : Bx B0 D _ [(w, .inr (7, [.ref f332_0, .ref f332_1, .ref f332_2, .ref f332_3, .ref f332_4, .ref f332_5, .long f332_6, .int f332_7, .int f332_8, .int f332_9, .int f332_10, .int f332_11, .int f332_12, .int f332_13, .int x333, .int f332_15]))] [w] _ _ := hB
        refine lv_iload hx hb dX7_changeIfDue_80 (lv_at hl 0 rfl) ?_
        refine lv_if_eq (tgt := 95) hx hb dX7_changeIfDue_82 (by decide) (fun _ => ?_) (fun c9 => absurd (by decide) c9)
        have hT : WT B0 D cs T κ _ := hT.close hB ⟨⟨0, _, rfl, ok_8 hw.1 ⟨_, _, _, _, _, _, _, _, _, _, _, _, _, _, _, _, rfl, t332_0, c332_su, ⟨t332_1.1, by rw [hw.2]; exact t332_1.2⟩, ⟨t332_2.1, by rw [hw.2]; exact t332_2.2⟩, ⟨t332_3.1, by rw [hw.2]; exact t332_3.2⟩, ⟨t332_4.1, by rw [hw.2]; exact t332_4.2⟩, ⟨t332_5.1, by rw [hw.2]; exact t332_5.2⟩, c332_tm⟩⟩, trivial⟩
        have hF : Fr B0 [i] κ H0 _ := hF.close hB (fa_c (by simp [hw.2]) fa_n)
        have hL : OkL B0 _ := hB.2.2.2.2.2
        have hP : va_P D vwCl [(w, .inr (7, [.ref f332_0, .ref f332_1, .ref f332_2, .ref f332_3, .ref f332_4, .ref f332_5, .long f332_6, .int f332_7, .int f332_8, .int f332_9, .int f332_10, .int f332_11, .int f332_12, .int f332_13, .int x333, .int f332_15]))] _ := hB.1
        exact en_v hx hb hr hlocks hL (Nat.zero_le _) (Nat.zero_le _) dX7_changeIfDue_95 (⟨hT, hF⟩)
    · refine lv_iconst (v := 1) hx hb dX7_changeIfDue_29 (by decide) ?_
      refine lv_goto (tgt := 34) hx hb dX7_changeIfDue_30 (by decide) ?_
      refine lv_istore (lv' := [(4, .int 1), (3, .int r319), (2, .ref r318), (0, .ref w), (1, .int x)]) hx hb dX7_changeIfDue_34 hl (by decide) rfl (fun ls hl => ?_)
      refine lv_aload_n hx hb dX7_changeIfDue_36 rfl (lv_at hl 2 rfl) ?_
      refine va_getN (D := D) (ci := 3) (v := .int f321_4) (C := RX3) (T := TX3) (N := 10) hx hb hts iX7_changeIfDue_3 hown hN.1 hP 0 rfl rfl 4 (by decide) (hN.f 32 rfl) (fun _ h9 => h9) rfl dX7_changeIfDue_37 ?_
      refine lv_aload_n hx hb dX7_changeIfDue_40 rfl (lv_at hl 3 rfl) ?_
      obtain ⟨hb334, e334, hat334, hk334⟩ := hT.o8 hw.1
      obtain ⟨f334_0, f334_1, f334_2, f334_3, f334_4, f334_5, f334_6, f334_7, f334_8, f334_9, f334_10, f334_11, f334_12, f334_13, f334_14, f334_15, rfl, t334_0, c334_su, t334_1, t334_2, t334_3, t334_4, t334_5, c334_tm⟩ := hk334
      rw [hw.2] at t334_1
      rw [hw.2] at t334_2
      rw [hw.2] at t334_3
      rw [hw.2] at t334_4
      rw [hw.2] at t334_5
      have hP : va_P D vwCl [(w, .inr (7, [.ref f334_0, .ref f334_1, .ref f334_2, .ref f334_3, .ref f334_4, .ref f334_5, .long f334_6, .int f334_7, .int f334_8, .int f334_9, .int f334_10, .int f334_11, .int f334_12, .int f334_13, .int f334_14, .int f334_15])), (r318, .inr (3, [.int f321_0, .int f321_1, .int f321_2, .int f321_3, .int f321_4, .int f321_5, .int f321_6, .int f321_7, .int f321_8, .int f321_9]))] _ := va_P.cons hat334 hP
      refine va_get (D := D) (ci := 7) (v := .int f334_11) (C := RX7) (T := TX7) (N := 16) hx hb hts iX7_changeIfDue_7 hown hN.1 hP 0 rfl rfl 11 (by decide) (hts _ mX7_changeIfDue_1) (fun _ h9 => h9) rfl dX7_changeIfDue_41 ?_
      refine lv_iconst (v := 1) hx hb dX7_changeIfDue_44 (by decide) ?_
      refine lv_isub hx hb dX7_changeIfDue_45 ?_
      refine gn_i (fun x335 => ?_)
      refine lv_icmp_ne (tgt := 60) hx hb dX7_changeIfDue_46 (by decide) (fun c336 => ?_) (fun c336 => ?_)
      · refine lv_aload_n hx hb dX7_changeIfDue_60 rfl (lv_at hl 2 rfl) ?_
        refine lv_aload_n hx hb dX7_changeIfDue_61 rfl (lv_at hl 3 rfl) ?_
        refine va_get (D := D) (ci := 7) (v := .int f334_7) (C := RX7) (T := TX7) (N := 16) hx hb hts iX7_changeIfDue_7 hown hN.1 hP 0 rfl rfl 7 (by decide) (hts _ mX7_changeIfDue_3) (fun _ h9 => h9) rfl dX7_changeIfDue_62 ?_
        refine lv_iload hx hb dX7_changeIfDue_65 (lv_at hl 0 rfl) ?_
        refine cv_v (As := [.int f334_7, .int 1]) (rest := []) (b := r318) ⟨hx, hb, hml, hown, hts⟩ (c_X3_change hT (w := r318) hqr318 (x := f334_7) (y := 1)) (cwV 2 hts gX7_changeIfDue_X3_change rfl rfl rfl hdX3_change_v ⟨Nat.le_of_ble_eq_true rfl, Nat.le_of_ble_eq_true rfl⟩) hN hL (rcv4 hN hT hqr318.1) rfl rfl hl.1 (Nat.le_of_ble_eq_true rfl) dX7_changeIfDue_67 (Nat.zero_le _) (Nat.zero_le _) (fun H1 locs hL hqr337 => ?_)
        obtain ⟨hT1, hF1⟩ := hqr337
        have hF := hF.tr (hF1.mono (by simp))
        have hT := hT1
        refine lv_aload_n hx hb dX7_changeIfDue_70 rfl (lv_at hl 3 rfl) ?_
        refine lv_dup hx hb dX7_changeIfDue_71 rfl ?_
        obtain ⟨hb338, e338, hat338, hk338⟩ := hT.o8 hw.1
        obtain ⟨f338_0, f338_1, f338_2, f338_3, f338_4, f338_5, f338_6, f338_7, f338_8, f338_9, f338_10, f338_11, f338_12, f338_13, f338_14, f338_15, rfl, t338_0, c338_su, t338_1, t338_2, t338_3, t338_4, t338_5, c338_tm⟩ := hk338
        rw [hw.2] at t338_1
        rw [hw.2] at t338_2
        rw [hw.2] at t338_3
        rw [hw.2] at t338_4
        rw [hw.2] at t338_5
        have hP : va_P D vwCl [(w, .inr (7, [.ref f338_0, .ref f338_1, .ref f338_2, .ref f338_3, .ref f338_4, .ref f338_5, .long f338_6, .int f338_7, .int f338_8, .int f338_9, .int f338_10, .int f338_11, .int f338_12, .int f338_13, .int f338_14, .int f338_15]))] _ := va_P.cons hat338 va_P.nil
        refine va_get (D := D) (ci := 7) (v := .int f338_14) (C := RX7) (T := TX7) (N := 16) hx hb hts iX7_changeIfDue_7 hown hN.1 hP 0 rfl rfl 14 (by decide) (hts _ mX7_changeIfDue_4) (fun _ h9 => h9) rfl dX7_changeIfDue_72 ?_
        refine lv_iconst (v := 1) hx hb dX7_changeIfDue_75 (by decide) ?_
        refine lv_iadd hx hb dX7_changeIfDue_76 ?_
        refine gn_i (fun x339 => ?_)
        have hB : Bx B0 D _ [(w, .inr (7, [.ref f338_0, .ref f338_1, .ref f338_2, .ref f338_3, .ref f338_4, .ref f338_5, .long f338_6, .int f338_7, .int f338_8, .int f338_9, .int f338_10, .int f338_11, .int f338_12, .int f338_13, .int f338_14, .int f338_15]))] [] _ _ := Bx.of (fun a => (κ a).1) hL hP (fa_c hb338 fa_n) (by simp only [List.map_cons, List.map_nil, hw.1]; decide)
        refine b_put (D := D) (ci := 7) (v := .int x339) (ty := .int) (C := RX7) (T := TX7) (N := 16) hx hb hts iX7_changeIfDue_7 tyX7 tyX7_ok nmX7 hown hN hB 0 rfl rfl 14 (by decide) (hts _ mX7_changeIfDue_4) (fun _ h9 => h9) rfl (by decide +kernel) rfl rfl (Nat.le_of_ble_eq_true rfl) (.inl rfl) dX7_changeIfDue_77 (fun H locs hB => ?_)
        have hB : Bx B0 D _ [(w, .inr (7, [.ref f338_0, .ref f338_1, .ref f338_2, .ref f338_3, .ref f338_4, .ref f338_5, .long f338_6, .int f338_7, .int f338_8, .int f338_9, .int f338_10, .int f338_11, .int f338_12, .int f338_13, .int x339, .int f338_15]))] [w] _ _ := hB
        refine lv_iload hx hb dX7_changeIfDue_80 (lv_at hl 0 rfl) ?_
        refine lv_if_eq (tgt := 95) hx hb dX7_changeIfDue_82 (by decide) (fun c9 => absurd c9 (by decide)) (fun _ => ?_)
        refine lv_aload_n hx hb dX7_changeIfDue_85 rfl (lv_at hl 3 rfl) ?_
        refine lv_dup hx hb dX7_changeIfDue_86 rfl ?_
        refine va_get (D := D) (ci := 7) (v := .int f338_15) (C := RX7) (T := TX7) (N := 16) hx hb hts iX7_changeIfDue_7 hown hN.1 hB.1 0 rfl rfl 15 (by decide) (hts _ mX7_changeIfDue_5) (fun _ h9 => h9) rfl dX7_changeIfDue_87 ?_
        refine lv_iconst (v := 1) hx hb dX7_changeIfDue_90 (by decide) ?_
        refine lv_iadd hx hb dX7_changeIfDue_91 ?_
        refine gn_i (fun x340 => ?_)
        refine b_put (D := D) (ci := 7) (v := .int x340) (ty := .int) (C := RX7) (T := TX7) (N := 16) hx hb hts iX7_changeIfDue_7 tyX7 tyX7_ok nmX7 hown hN hB 0 rfl rfl 15 (by decide) (hts _ mX7_changeIfDue_5) (fun _ h9 => h9) rfl (by decide +kernel) rfl rfl (Nat.le_of_ble_eq_true rfl) (.inr ⟨rfl, List.mem_of_getElem? (i := 0) rfl⟩) dX7_changeIfDue_92 (fun H locs hB => ?_)
        have hB : Bx B0 D _ [(w, .inr (7, [.ref f338_0, .ref f338_1, .ref f338_2, .ref f338_3, .ref f338_4, .ref f338_5, .long f338_6, .int f338_7, .int f338_8, .int f338_9, .int f338_10, .int f338_11, .int f338_12, .int f338_13, .int x339, .int x340]))] [w] _ _ := hB
        have hT : WT B0 D cs T κ _ := hT.close hB ⟨⟨0, _, rfl, ok_8 hw.1 ⟨_, _, _, _, _, _, _, _, _, _, _, _, _, _, _, _, rfl, t338_0, c338_su, ⟨t338_1.1, by rw [hw.2]; exact t338_1.2⟩, ⟨t338_2.1, by rw [hw.2]; exact t338_2.2⟩, ⟨t338_3.1, by rw [hw.2]; exact t338_3.2⟩, ⟨t338_4.1, by rw [hw.2]; exact t338_4.2⟩, ⟨t338_5.1, by rw [hw.2]; exact t338_5.2⟩, c338_tm⟩⟩, trivial⟩
        have hF : Fr B0 [i] κ H0 _ := hF.close hB (fa_c (by simp [hw.2]) fa_n)
        have hL : OkL B0 _ := hB.2.2.2.2.2
        have hP : va_P D vwCl [(w, .inr (7, [.ref f338_0, .ref f338_1, .ref f338_2, .ref f338_3, .ref f338_4, .ref f338_5, .long f338_6, .int f338_7, .int f338_8, .int f338_9, .int f338_10, .int f338_11, .int f338_12, .int f338_13, .int x339, .int x340]))] _ := hB.1
        exact en_v hx hb hr hlocks hL (Nat.zero_le _) (Nat.zero_le _) dX7_changeIfDue_95 (⟨hT, hF⟩)
      · refine lv_aload_n hx hb dX7_changeIfDue_49 rfl (lv_at hl 3 rfl) ?_
        refine va_get (D := D) (ci := 7) (v := .ref f334_3) (C := RX7) (T := TX7) (N := 16) hx hb hts iX7_changeIfDue_7 hown hN.1 hP 0 rfl rfl 3 (by decide) (hts _ mX7_changeIfDue_2) (fun _ h9 => h9) rfl dX7_changeIfDue_50 ?_
        refine lv_aload_n hx hb dX7_changeIfDue_53 rfl (lv_at hl 3 rfl) ?_
        refine va_get (D := D) (ci := 7) (v := .int f334_7) (C := RX7) (T := TX7) (N := 16) hx hb hts iX7_changeIfDue_7 hown hN.1 hP 0 rfl rfl 7 (by decide) (hts _ mX7_changeIfDue_3) (fun _ h9 => h9) rfl dX7_changeIfDue_54 ?_
        refine cv_v (As := [.int f334_7]) (rest := []) (b := f334_3) ⟨hx, hb, hml, hown, hts⟩ (c_X4_noteChange hT (w := f334_3) t334_3 (x := f334_7)) (cwV 1 hts gX7_changeIfDue_X4_noteChange rfl rfl rfl hdX4_noteChange_v ⟨Nat.le_of_ble_eq_true rfl, Nat.le_of_ble_eq_true rfl⟩) hN hL (rcv5 hN hT t334_3.1) rfl rfl hl.1 (Nat.le_of_ble_eq_true rfl) dX7_changeIfDue_57 (Nat.zero_le _) (Nat.zero_le _) (fun H1 locs hL hqr341 => ?_)
        obtain ⟨hT1, hF1⟩ := hqr341
        have hF := hF.tr (hF1.mono (by simp))
        have hT := hT1
        refine lv_aload_n hx hb dX7_changeIfDue_60 rfl (lv_at hl 2 rfl) ?_
        refine lv_aload_n hx hb dX7_changeIfDue_61 rfl (lv_at hl 3 rfl) ?_
        obtain ⟨hb342, e342, hat342, hk342⟩ := hT.o8 hw.1
        obtain ⟨f342_0, f342_1, f342_2, f342_3, f342_4, f342_5, f342_6, f342_7, f342_8, f342_9, f342_10, f342_11, f342_12, f342_13, f342_14, f342_15, rfl, t342_0, c342_su, t342_1, t342_2, t342_3, t342_4, t342_5, c342_tm⟩ := hk342
        rw [hw.2] at t342_1
        rw [hw.2] at t342_2
        rw [hw.2] at t342_3
        rw [hw.2] at t342_4
        rw [hw.2] at t342_5
        have hP : va_P D vwCl [(w, .inr (7, [.ref f342_0, .ref f342_1, .ref f342_2, .ref f342_3, .ref f342_4, .ref f342_5, .long f342_6, .int f342_7, .int f342_8, .int f342_9, .int f342_10, .int f342_11, .int f342_12, .int f342_13, .int f342_14, .int f342_15]))] _ := va_P.cons hat342 va_P.nil
        refine va_get (D := D) (ci := 7) (v := .int f342_7) (C := RX7) (T := TX7) (N := 16) hx hb hts iX7_changeIfDue_7 hown hN.1 hP 0 rfl rfl 7 (by decide) (hts _ mX7_changeIfDue_3) (fun _ h9 => h9) rfl dX7_changeIfDue_62 ?_
        refine lv_iload hx hb dX7_changeIfDue_65 (lv_at hl 0 rfl) ?_
        refine cv_v (As := [.int f342_7, .int 1]) (rest := []) (b := r318) ⟨hx, hb, hml, hown, hts⟩ (c_X3_change hT (w := r318) hqr318 (x := f342_7) (y := 1)) (cwV 2 hts gX7_changeIfDue_X3_change rfl rfl rfl hdX3_change_v ⟨Nat.le_of_ble_eq_true rfl, Nat.le_of_ble_eq_true rfl⟩) hN hL (rcv4 hN hT hqr318.1) rfl rfl hl.1 (Nat.le_of_ble_eq_true rfl) dX7_changeIfDue_67 (Nat.zero_le _) (Nat.zero_le _) (fun H1 locs hL hqr343 => ?_)
        obtain ⟨hT1, hF1⟩ := hqr343
        have hF := hF.tr (hF1.mono (by simp))
        have hT := hT1
        refine lv_aload_n hx hb dX7_changeIfDue_70 rfl (lv_at hl 3 rfl) ?_
        refine lv_dup hx hb dX7_changeIfDue_71 rfl ?_
        obtain ⟨hb344, e344, hat344, hk344⟩ := hT.o8 hw.1
        obtain ⟨f344_0, f344_1, f344_2, f344_3, f344_4, f344_5, f344_6, f344_7, f344_8, f344_9, f344_10, f344_11, f344_12, f344_13, f344_14, f344_15, rfl, t344_0, c344_su, t344_1, t344_2, t344_3, t344_4, t344_5, c344_tm⟩ := hk344
        rw [hw.2] at t344_1
        rw [hw.2] at t344_2
        rw [hw.2] at t344_3
        rw [hw.2] at t344_4
        rw [hw.2] at t344_5
        have hP : va_P D vwCl [(w, .inr (7, [.ref f344_0, .ref f344_1, .ref f344_2, .ref f344_3, .ref f344_4, .ref f344_5, .long f344_6, .int f344_7, .int f344_8, .int f344_9, .int f344_10, .int f344_11, .int f344_12, .int f344_13, .int f344_14, .int f344_15]))] _ := va_P.cons hat344 va_P.nil
        refine va_get (D := D) (ci := 7) (v := .int f344_14) (C := RX7) (T := TX7) (N := 16) hx hb hts iX7_changeIfDue_7 hown hN.1 hP 0 rfl rfl 14 (by decide) (hts _ mX7_changeIfDue_4) (fun _ h9 => h9) rfl dX7_changeIfDue_72 ?_
        refine lv_iconst (v := 1) hx hb dX7_changeIfDue_75 (by decide) ?_
        refine lv_iadd hx hb dX7_changeIfDue_76 ?_
        refine gn_i (fun x345 => ?_)
        have hB : Bx B0 D _ [(w, .inr (7, [.ref f344_0, .ref f344_1, .ref f344_2, .ref f344_3, .ref f344_4, .ref f344_5, .long f344_6, .int f344_7, .int f344_8, .int f344_9, .int f344_10, .int f344_11, .int f344_12, .int f344_13, .int f344_14, .int f344_15]))] [] _ _ := Bx.of (fun a => (κ a).1) hL hP (fa_c hb344 fa_n) (by simp only [List.map_cons, List.map_nil, hw.1]; decide)
        refine b_put (D := D) (ci := 7) (v := .int x345) (ty := .int) (C := RX7) (T := TX7) (N := 16) hx hb hts iX7_changeIfDue_7 tyX7 tyX7_ok nmX7 hown hN hB 0 rfl rfl 14 (by decide) (hts _ mX7_changeIfDue_4) (fun _ h9 => h9) rfl (by decide +kernel) rfl rfl (Nat.le_of_ble_eq_true rfl) (.inl rfl) dX7_changeIfDue_77 (fun H locs hB => ?_)
        have hB : Bx B0 D _ [(w, .inr (7, [.ref f344_0, .ref f344_1, .ref f344_2, .ref f344_3, .ref f344_4, .ref f344_5, .long f344_6, .int f344_7, .int f344_8, .int f344_9, .int f344_10, .int f344_11, .int f344_12, .int f344_13, .int x345, .int f344_15]))] [w] _ _ := hB
        refine lv_iload hx hb dX7_changeIfDue_80 (lv_at hl 0 rfl) ?_
        refine lv_if_eq (tgt := 95) hx hb dX7_changeIfDue_82 (by decide) (fun c9 => absurd c9 (by decide)) (fun _ => ?_)
        refine lv_aload_n hx hb dX7_changeIfDue_85 rfl (lv_at hl 3 rfl) ?_
        refine lv_dup hx hb dX7_changeIfDue_86 rfl ?_
        refine va_get (D := D) (ci := 7) (v := .int f344_15) (C := RX7) (T := TX7) (N := 16) hx hb hts iX7_changeIfDue_7 hown hN.1 hB.1 0 rfl rfl 15 (by decide) (hts _ mX7_changeIfDue_5) (fun _ h9 => h9) rfl dX7_changeIfDue_87 ?_
        refine lv_iconst (v := 1) hx hb dX7_changeIfDue_90 (by decide) ?_
        refine lv_iadd hx hb dX7_changeIfDue_91 ?_
        refine gn_i (fun x346 => ?_)
        refine b_put (D := D) (ci := 7) (v := .int x346) (ty := .int) (C := RX7) (T := TX7) (N := 16) hx hb hts iX7_changeIfDue_7 tyX7 tyX7_ok nmX7 hown hN hB 0 rfl rfl 15 (by decide) (hts _ mX7_changeIfDue_5) (fun _ h9 => h9) rfl (by decide +kernel) rfl rfl (Nat.le_of_ble_eq_true rfl) (.inr ⟨rfl, List.mem_of_getElem? (i := 0) rfl⟩) dX7_changeIfDue_92 (fun H locs hB => ?_)
        have hB : Bx B0 D _ [(w, .inr (7, [.ref f344_0, .ref f344_1, .ref f344_2, .ref f344_3, .ref f344_4, .ref f344_5, .long f344_6, .int f344_7, .int f344_8, .int f344_9, .int f344_10, .int f344_11, .int f344_12, .int f344_13, .int x345, .int x346]))] [w] _ _ := hB
        have hT : WT B0 D cs T κ _ := hT.close hB ⟨⟨0, _, rfl, ok_8 hw.1 ⟨_, _, _, _, _, _, _, _, _, _, _, _, _, _, _, _, rfl, t344_0, c344_su, ⟨t344_1.1, by rw [hw.2]; exact t344_1.2⟩, ⟨t344_2.1, by rw [hw.2]; exact t344_2.2⟩, ⟨t344_3.1, by rw [hw.2]; exact t344_3.2⟩, ⟨t344_4.1, by rw [hw.2]; exact t344_4.2⟩, ⟨t344_5.1, by rw [hw.2]; exact t344_5.2⟩, c344_tm⟩⟩, trivial⟩
        have hF : Fr B0 [i] κ H0 _ := hF.close hB (fa_c (by simp [hw.2]) fa_n)
        have hL : OkL B0 _ := hB.2.2.2.2.2
        have hP : va_P D vwCl [(w, .inr (7, [.ref f344_0, .ref f344_1, .ref f344_2, .ref f344_3, .ref f344_4, .ref f344_5, .long f344_6, .int f344_7, .int f344_8, .int f344_9, .int f344_10, .int f344_11, .int f344_12, .int f344_13, .int x345, .int x346]))] _ := hB.1
        exact en_v hx hb hr hlocks hL (Nat.zero_le _) (Nat.zero_le _) dX7_changeIfDue_95 (⟨hT, hF⟩)
