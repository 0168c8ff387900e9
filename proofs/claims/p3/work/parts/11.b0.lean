theorem mX7_at_1 : (.fieldLink RX7 11 "OneBeat$World" "players" "[LOneBeat$Player;" : Cond) ∈ wsX7_at := List.mem_of_getElem? (i := 1) (by decide +kernel)
theorem iX7_at_7 : ∀ w ∈ wsX70, w ∈ wsX7_at := fun w h => List.mem_of_mem_drop (List.mem_of_mem_take ((show wsX70 = (wsX7_at.drop 2).take 16 by decide +kernel) ▸ h))
set_option maxHeartbeats 4000000 in
set_option maxRecDepth 100000 in
theorem c_X7_at {l : Launch} {D : va_G} {cs : Nat → ClassId} {B0 T : Nat} {κ : KM} {H0 : Heap} (hT : WT B0 D cs T κ H0) {w i : Nat} (hw : T2 κ w 8 i) {x : Int32} : KC l yX7_at wsX7_at 0 0 0 0 D cs B0 H0 [.ref w, .int x] (Qr (fun r H => H = H0 ∧ T2 κ r 4 i)) := by
  refine KC.of cX7_at 2 (some (.object "OneBeat$Player")) (by decide) rfl (Nat.le_of_ble_eq_true rfl) ?_
  intro p e s m below meth c ls hx hb hr hml hown hts hlocks hin hN hE hH0 hl
  have hown : s.vm.findClass RX7 = some m.cls := hown
  have hl : lv_has ls 2 [(0, .ref w), (1, .int x)] := hl
  have hL : OkL B0 [] := OkL.nil
  refine lv_aload_n hx hb dX7_at_0 rfl (lv_at hl 0 rfl) ?_
  obtain ⟨hb131, e131, hat131, hk131⟩ := hT.o8 hw.1
  obtain ⟨f131_0, f131_1, f131_2, f131_3, f131_4, f131_5, f131_6, f131_7, f131_8, f131_9, f131_10, f131_11, f131_12, f131_13, f131_14, f131_15, rfl, t131_0, c131_su, t131_1, t131_2, t131_3, t131_4, t131_5, c131_tm, c131_lt, c131_ml, c131_pr, c131_li⟩ := hk131
  rw [hw.2] at t131_1
  rw [hw.2] at t131_2
  rw [hw.2] at t131_3
  rw [hw.2] at t131_4
  rw [hw.2] at t131_5
  rw [hw.2] at c131_lt c131_ml c131_pr c131_li
  subst c131_ml
  subst c131_pr
  subst c131_li
  have hP : va_P D vwCl [(w, .inr (7, [.ref f131_0, .ref f131_1, .ref (cs (400 + i)), .ref (cs (420 + i)), .ref (cs (460 + i)), .ref f131_5, .long f131_6, .int f131_7, .int f131_8, .int f131_9, .int f131_10, .int f131_11, .int f131_12, .int f131_13, .int f131_14, .int f131_15]))] _ := va_P.cons hat131 va_P.nil
  refine va_get (D := D) (ci := 7) (v := .ref f131_1) (C := RX7) (T := TX7) (N := 16) hx hb hts iX7_at_7 hown hN.1 hP 0 rfl rfl 1 (by decide) (hts _ mX7_at_1) (fun _ h9 => h9) rfl dX7_at_1 ?_
  refine lv_iload_n hx hb dX7_at_4 rfl (lv_at hl 1 rfl) ?_
  refine lv_bipush (v := 7) hx hb dX7_at_5 (by decide) ?_
  refine lv_iand hx hb dX7_at_7 ?_
  have hj132 := m7_lt x
  refine tp_i (nI (m7 x)) (and7 x) ?_
  obtain ⟨hb133, e133, hat133, hk133⟩ := hT.o11 t131_1.1
  obtain ⟨g133, rfl, q133⟩ := hk133
  rw [t131_1.2] at q133
  have hP : va_P D vwCl [(f131_1, .inl (cs 4, 8, .inr (.inr (.inr (.inr g133))))), (w, .inr (7, [.ref f131_0, .ref f131_1, .ref (cs (400 + i)), .ref (cs (420 + i)), .ref (cs (460 + i)), .ref f131_5, .long f131_6, .int f131_7, .int f131_8, .int f131_9, .int f131_10, .int f131_11, .int f131_12, .int f131_13, .int f131_14, .int f131_15]))] _ := va_P.cons hat133 hP
  obtain ⟨a134, ea134, ta134⟩ := q133 ((m7 x)) (by omega)
  refine ld_p (v := .ref a134) hx hb hN hP 0 rfl (vp_in_nI (n := (m7 x)) (N := 8) (by omega) (by omega)) (by rw [(show ((nI (m7 x)) : Int32).toNatClampNeg = (m7 x) from nI_clamp (n := (m7 x)) (by omega)), ea134]; rfl) dX7_at_8 ?_
  exact en_r hx hb hr hlocks (by first | exact Or.inl ⟨_, rfl⟩ | exact Or.inr ⟨_, rfl⟩) hL (Nat.zero_le _) (Nat.zero_le _) dX7_at_9 (⟨rfl, ta134⟩)
theorem mX7_clock_1 : (.fieldLink RX7 52 "OneBeat$World" "setup" "LOneBeat$Setup;" : Cond) ∈ wsX7_clock := List.mem_of_getElem? (i := 1) (by decide +kernel)
theorem iX7_clock_7 : ∀ w ∈ wsX70, w ∈ wsX7_clock := fun w h => List.mem_of_mem_drop (List.mem_of_mem_take ((show wsX70 = (wsX7_clock.drop 10).take 16 by decide +kernel) ▸ h))
theorem mX7_clock_2 : (.fieldLink RX7 64 "OneBeat$World" "time" "I" : Cond) ∈ wsX7_clock := List.mem_of_getElem? (i := 2) (by decide +kernel)
theorem hdX6_clock_v : yX6_clock.cls = RX6 ∧ yX6_clock.cls ≠ "java/lang/invoke/MethodHandle" ∧ yX6_clock.cls ≠ "java/lang/invoke/VarHandle" ∧ (parseMethodDescriptor yX6_clock.desc).map (fun d => d.parameters.length) = some 2 := by decide +kernel
set_option maxHeartbeats 4000000 in
set_option maxRecDepth 100000 in
theorem c_X7_clock {l : Launch} {D : va_G} {cs : Nat → ClassId} {B0 T : Nat} {κ : KM} {H0 : Heap} (hT : WT B0 D cs T κ H0) {w i : Nat} (hw : T2 κ w 8 i) {x : Int32} : KC l yX7_clock wsX7_clock 1 22 0 0 D cs B0 H0 [.ref w, .int x] (Qi (fun _ H => H = H0)) := by
  refine KC.of cX7_clock 2 (some .int) (by decide) rfl (Nat.le_of_ble_eq_true rfl) ?_
  intro p e s m below meth c ls hx hb hr hml hown hts hlocks hin hN hE hH0 hl
  have hown : s.vm.findClass RX7 = some m.cls := hown
  have hl : lv_has ls 2 [(0, .ref w), (1, .int x)] := hl
  have hL : OkL B0 [] := OkL.nil
  refine lv_aload_n hx hb dX7_clock_0 rfl (lv_at hl 0 rfl) ?_
  obtain ⟨hb135, e135, hat135, hk135⟩ := hT.o8 hw.1
  obtain ⟨f135_0, f135_1, f135_2, f135_3, f135_4, f135_5, f135_6, f135_7, f135_8, f135_9, f135_10, f135_11, f135_12, f135_13, f135_14, f135_15, rfl, t135_0, c135_su, t135_1, t135_2, t135_3, t135_4, t135_5, c135_tm, c135_lt, c135_ml, c135_pr, c135_li⟩ := hk135
  rw [hw.2] at t135_1
  rw [hw.2] at t135_2
  rw [hw.2] at t135_3
  rw [hw.2] at t135_4
  rw [hw.2] at t135_5
  rw [hw.2] at c135_lt c135_ml c135_pr c135_li
  subst c135_ml
  subst c135_pr
  subst c135_li
  have hP : va_P D vwCl [(w, .inr (7, [.ref f135_0, .ref f135_1, .ref (cs (400 + i)), .ref (cs (420 + i)), .ref (cs (460 + i)), .ref f135_5, .long f135_6, .int f135_7, .int f135_8, .int f135_9, .int f135_10, .int f135_11, .int f135_12, .int f135_13, .int f135_14, .int f135_15]))] _ := va_P.cons hat135 va_P.nil
  refine va_get (D := D) (ci := 7) (v := .ref f135_0) (C := RX7) (T := TX7) (N := 16) hx hb hts iX7_clock_7 hown hN.1 hP 0 rfl rfl 0 (by decide) (hts _ mX7_clock_1) (fun _ h9 => h9) rfl dX7_clock_1 ?_
  refine lv_iload_n hx hb dX7_clock_4 rfl (lv_at hl 1 rfl) ?_
  refine lv_aload_n hx hb dX7_clock_5 rfl (lv_at hl 0 rfl) ?_
  refine va_get (D := D) (ci := 7) (v := .int f135_7) (C := RX7) (T := TX7) (N := 16) hx hb hts iX7_clock_7 hown hN.1 hP 0 rfl rfl 7 (by decide) (hts _ mX7_clock_2) (fun _ h9 => h9) rfl dX7_clock_6 ?_
  refine cv_i (As := [.int x, .int f135_7]) (rest := []) (b := f135_0) ⟨hx, hb, hml, hown, hts⟩ (c_X6_clock hT (w := f135_0) t135_0 (x := x) (y := f135_7)) (cwV 2 hts gX7_clock_X6_clock rfl rfl rfl hdX6_clock_v ⟨Nat.le_of_ble_eq_true rfl, Nat.le_of_ble_eq_true rfl⟩) hN hE hL (rcv7 hN hT t135_0.1) rfl rfl hl.1 (Nat.le_of_ble_eq_true rfl) dX7_clock_9 (Nat.zero_le _) (Nat.zero_le _) (fun r136 H1 locs hL hqr136 => ?_)
  obtain rfl := hqr136.symm
  exact en_i hx hb hr hlocks hL rfl (Nat.zero_le _) (Nat.zero_le _) dX7_clock_12 (rfl)
theorem hdX7_clock_v : yX7_clock.cls = RX7 ∧ yX7_clock.cls ≠ "java/lang/invoke/MethodHandle" ∧ yX7_clock.cls ≠ "java/lang/invoke/VarHandle" ∧ (parseMethodDescriptor yX7_clock.desc).map (fun d => d.parameters.length) = some 1 := by decide +kernel
theorem hdX7_at_v : yX7_at.cls = RX7 ∧ yX7_at.cls ≠ "java/lang/invoke/MethodHandle" ∧ yX7_at.cls ≠ "java/lang/invoke/VarHandle" ∧ (parseMethodDescriptor yX7_at.desc).map (fun d => d.parameters.length) = some 1 := by decide +kernel
theorem iX7_estimate_3 : ∀ w ∈ wsX30, w ∈ wsX7_estimate := fun w h => List.mem_of_mem_drop (List.mem_of_mem_take ((show wsX30 = (wsX7_estimate.drop 20).take 10 by decide +kernel) ▸ h))
set_option maxHeartbeats 4000000 in
set_option maxRecDepth 100000 in
theorem c_X7_estimate {l : Launch} {D : va_G} {cs : Nat → ClassId} {B0 T : Nat} {κ : KM} {H0 : Heap} (hT : WT B0 D cs T κ H0) {w i : Nat} (hw : T2 κ w 8 i) {x : Int32} : KC l yX7_estimate wsX7_estimate 2 43 0 0 D cs B0 H0 [.ref w, .int x] (Qi (fun _ H => H = H0)) := by
  refine KC.of cX7_estimate 2 (some .int) (by decide) rfl (Nat.le_of_ble_eq_true rfl) ?_
  intro p e s m below meth c ls hx hb hr hml hown hts hlocks hin hN hE hH0 hl
  have hown : s.vm.findClass RX7 = some m.cls := hown
  have hl : lv_has ls 2 [(0, .ref w), (1, .int x)] := hl
  have hL : OkL B0 [] := OkL.nil
  refine lv_aload_n hx hb dX7_estimate_0 rfl (lv_at hl 0 rfl) ?_
  refine lv_iload_n hx hb dX7_estimate_1 rfl (lv_at hl 1 rfl) ?_
  refine cv_i (As := [.int x]) (rest := []) (b := w) ⟨hx, hb, hml, hown, hts⟩ (c_X7_clock hT (w := w) hw (x := x)) (cwV 1 hts gX7_estimate_X7_clock rfl rfl rfl hdX7_clock_v ⟨Nat.le_of_ble_eq_true rfl, Nat.le_of_ble_eq_true rfl⟩) hN hE hL (rcv8 hN hT hw.1) rfl rfl hl.1 (Nat.le_of_ble_eq_true rfl) dX7_estimate_2 (Nat.zero_le _) (Nat.zero_le _) (fun r137 H1 locs hL hqr137 => ?_)
  obtain rfl := hqr137.symm
  refine lv_aload_n hx hb dX7_estimate_5 rfl (lv_at hl 0 rfl) ?_
  refine lv_iload_n hx hb dX7_estimate_6 rfl (lv_at hl 1 rfl) ?_
  refine cv_r (As := [.int x]) (rest := [.int r137]) (b := w) ⟨hx, hb, hml, hown, hts⟩ (c_X7_at hT (w := w) hw (x := x)) (cwV 1 hts gX7_estimate_X7_at rfl rfl rfl hdX7_at_v ⟨Nat.le_of_ble_eq_true rfl, Nat.le_of_ble_eq_true rfl⟩) hN hE hL (rcv8 hN hT hw.1) rfl rfl hl.1 (Nat.le_of_ble_eq_true rfl) dX7_estimate_7 (Nat.zero_le _) (Nat.zero_le _) (fun r138 H1 locs hL hqr138 => ?_)
  obtain ⟨h9, hqr138⟩ := hqr138; replace h9 := h9.symm; subst h9
  obtain ⟨hb139, e139, hat139, hk139⟩ := hT.o4 hqr138.1
  obtain ⟨f139_0, f139_1, f139_2, f139_3, f139_4, f139_5, f139_6, f139_7, f139_8, f139_9, rfl, c139_up⟩ := hk139
  have hP : va_P D vwCl [(r138, .inr (3, [.int f139_0, .int f139_1, .int f139_2, .int f139_3, .int f139_4, .int f139_5, .int f139_6, .int f139_7, .int f139_8, .int f139_9]))] _ := va_P.cons hat139 va_P.nil
  refine va_getN (D := D) (ci := 3) (v := .int f139_1) (C := RX3) (T := TX3) (N := 10) hx hb hts iX7_estimate_3 hown hN.1 hP 0 rfl rfl 1 (by decide) (hN.f 29 rfl) (fun _ h9 => h9) rfl dX7_estimate_10 ?_
  refine lv_iadd hx hb dX7_estimate_13 ?_
  refine gn_i (fun x140 => ?_)
  exact en_i hx hb hr hlocks hL rfl (Nat.zero_le _) (Nat.zero_le _) dX7_estimate_14 (rfl)
theorem hdX7_estimate_v : yX7_estimate.cls = RX7 ∧ yX7_estimate.cls ≠ "java/lang/invoke/MethodHandle" ∧ yX7_estimate.cls ≠ "java/lang/invoke/VarHandle" ∧ (parseMethodDescriptor yX7_estimate.desc).map (fun d => d.parameters.length) = some 1 := by decide +kernel
theorem mX7_error_1 : (.fieldLink RX7 68 "OneBeat$World" "conductor" "I" : Cond) ∈ wsX7_error := List.mem_of_getElem? (i := 1) (by decide +kernel)
theorem iX7_error_7 : ∀ w ∈ wsX70, w ∈ wsX7_error := fun w h => List.mem_of_mem_drop (List.mem_of_mem_take ((show wsX70 = (wsX7_error.drop 25).take 16 by decide +kernel) ▸ h))
set_option maxHeartbeats 4000000 in
set_option maxRecDepth 100000 in
theorem c_X7_error {l : Launch} {D : va_G} {cs : Nat → ClassId} {B0 T : Nat} {κ : KM} {H0 : Heap} (hT : WT B0 D cs T κ H0) {w i : Nat} (hw : T2 κ w 8 i) {x : Int32} : KC l yX7_error wsX7_error 3 64 0 0 D cs B0 H0 [.ref w, .int x] (Qi (fun _ H => H = H0)) := by
  refine KC.of cX7_error 2 (some .int) (by decide) rfl (Nat.le_of_ble_eq_true rfl) ?_
  intro p e s m below meth c ls hx hb hr hml hown hts hlocks hin hN hE hH0 hl
  have hown : s.vm.findClass RX7 = some m.cls := hown
  have hl : lv_has ls 2 [(0, .ref w), (1, .int x)] := hl
  have hL : OkL B0 [] := OkL.nil
  refine lv_aload_n hx hb dX7_error_0 rfl (lv_at hl 0 rfl) ?_
  refine lv_iload_n hx hb dX7_error_1 rfl (lv_at hl 1 rfl) ?_
  refine cv_i (As := [.int x]) (rest := []) (b := w) ⟨hx, hb, hml, hown, hts⟩ (c_X7_estimate hT (w := w) hw (x := x)) (cwV 1 hts gX7_error_X7_estimate rfl rfl rfl hdX7_estimate_v ⟨Nat.le_of_ble_eq_true rfl, Nat.le_of_ble_eq_true rfl⟩) hN hE hL (rcv8 hN hT hw.1) rfl rfl hl.1 (Nat.le_of_ble_eq_true rfl) dX7_error_2 (Nat.zero_le _) (Nat.zero_le _) (fun r141 H1 locs hL hqr141 => ?_)
  obtain rfl := hqr141.symm
  refine lv_aload_n hx hb dX7_error_5 rfl (lv_at hl 0 rfl) ?_
  refine lv_aload_n hx hb dX7_error_6 rfl (lv_at hl 0 rfl) ?_
  obtain ⟨hb142, e142, hat142, hk142⟩ := hT.o8 hw.1
  obtain ⟨f142_0, f142_1, f142_2, f142_3, f142_4, f142_5, f142_6, f142_7, f142_8, f142_9, f142_10, f142_11, f142_12, f142_13, f142_14, f142_15, rfl, t142_0, c142_su, t142_1, t142_2, t142_3, t142_4, t142_5, c142_tm, c142_lt, c142_ml, c142_pr, c142_li⟩ := hk142
  rw [hw.2] at t142_1
  rw [hw.2] at t142_2
  rw [hw.2] at t142_3
  rw [hw.2] at t142_4
  rw [hw.2] at t142_5
  rw [hw.2] at c142_lt c142_ml c142_pr c142_li
  subst c142_ml
  subst c142_pr
  subst c142_li
  have hP : va_P D vwCl [(w, .inr (7, [.ref f142_0, .ref f142_1, .ref (cs (400 + i)), .ref (cs (420 + i)), .ref (cs (460 + i)), .ref f142_5, .long f142_6, .int f142_7, .int f142_8, .int f142_9, .int f142_10, .int f142_11, .int f142_12, .int f142_13, .int f142_14, .int f142_15]))] _ := va_P.cons hat142 va_P.nil
  refine va_get (D := D) (ci := 7) (v := .int f142_8) (C := RX7) (T := TX7) (N := 16) hx hb hts iX7_error_7 hown hN.1 hP 0 rfl rfl 8 (by decide) (hts _ mX7_error_1) (fun _ h9 => h9) rfl dX7_error_7 ?_
  refine cv_i (As := [.int f142_8]) (rest := [.int r141]) (b := w) ⟨hx, hb, hml, hown, hts⟩ (c_X7_clock hT (w := w) hw (x := f142_8)) (cwV 1 hts gX7_error_X7_clock rfl rfl rfl hdX7_clock_v ⟨Nat.le_of_ble_eq_true rfl, Nat.le_of_ble_eq_true rfl⟩) hN hE hL (rcv8 hN hT hw.1) rfl rfl hl.1 (Nat.le_of_ble_eq_true rfl) dX7_error_10 (Nat.zero_le _) (Nat.zero_le _) (fun r143 H1 locs hL hqr143 => ?_)
  obtain rfl := hqr143.symm
  refine lv_isub hx hb dX7_error_13 ?_
  refine gn_i (fun x144 => ?_)
  exact en_i hx hb hr hlocks hL rfl (Nat.zero_le _) (Nat.zero_le _) dX7_error_14 (rfl)
theorem mX7_delay_1 : (.fieldLink RX7 52 "OneBeat$World" "setup" "LOneBeat$Setup;" : Cond) ∈ wsX7_delay := List.mem_of_getElem? (i := 1) (by decide +kernel)
theorem iX7_delay_7 : ∀ w ∈ wsX70, w ∈ wsX7_delay := fun w h => List.mem_of_mem_drop (List.mem_of_mem_take ((show wsX70 = (wsX7_delay.drop 11).take 16 by decide +kernel) ▸ h))
theorem hdX6_delayOf_v : yX6_delayOf.cls = RX6 ∧ yX6_delayOf.cls ≠ "java/lang/invoke/MethodHandle" ∧ yX6_delayOf.cls ≠ "java/lang/invoke/VarHandle" ∧ (parseMethodDescriptor yX6_delayOf.desc).map (fun d => d.parameters.length) = some 2 := by decide +kernel
set_option maxHeartbeats 4000000 in
set_option maxRecDepth 100000 in
theorem c_X7_delay {l : Launch} {D : va_G} {cs : Nat → ClassId} {B0 T : Nat} {κ : KM} {H0 : Heap} (hT : WT B0 D cs T κ H0) {w i : Nat} (hw : T2 κ w 8 i) {x : Int32} {y : Int32} : KC l yX7_delay wsX7_delay 2 43 0 0 D cs B0 H0 [.ref w, .int x, .int y] (Qi (fun r H => H = H0 ∧ ∃ n, n ≤ 9 ∧ r = nI n)) := by
  refine KC.of cX7_delay 3 (some .int) (by decide) rfl (Nat.le_of_ble_eq_true rfl) ?_
  intro p e s m below meth c ls hx hb hr hml hown hts hlocks hin hN hE hH0 hl
  have hown : s.vm.findClass RX7 = some m.cls := hown
  have hl : lv_has ls 3 [(0, .ref w), (1, .int x), (2, .int y)] := hl
  have hL : OkL B0 [] := OkL.nil
  refine lv_aload_n hx hb dX7_delay_0 rfl (lv_at hl 0 rfl) ?_
  obtain ⟨hb145, e145, hat145, hk145⟩ := hT.o8 hw.1
  obtain ⟨f145_0, f145_1, f145_2, f145_3, f145_4, f145_5, f145_6, f145_7, f145_8, f145_9, f145_10, f145_11, f145_12, f145_13, f145_14, f145_15, rfl, t145_0, c145_su, t145_1, t145_2, t145_3, t145_4, t145_5, c145_tm, c145_lt, c145_ml, c145_pr, c145_li⟩ := hk145
  rw [hw.2] at t145_1
  rw [hw.2] at t145_2
  rw [hw.2] at t145_3
  rw [hw.2] at t145_4
  rw [hw.2] at t145_5
  rw [hw.2] at c145_lt c145_ml c145_pr c145_li
  subst c145_ml
  subst c145_pr
  subst c145_li
  have hP : va_P D vwCl [(w, .inr (7, [.ref f145_0, .ref f145_1, .ref (cs (400 + i)), .ref (cs (420 + i)), .ref (cs (460 + i)), .ref f145_5, .long f145_6, .int f145_7, .int f145_8, .int f145_9, .int f145_10, .int f145_11, .int f145_12, .int f145_13, .int f145_14, .int f145_15]))] _ := va_P.cons hat145 va_P.nil
  refine va_get (D := D) (ci := 7) (v := .ref f145_0) (C := RX7) (T := TX7) (N := 16) hx hb hts iX7_delay_7 hown hN.1 hP 0 rfl rfl 0 (by decide) (hts _ mX7_delay_1) (fun _ h9 => h9) rfl dX7_delay_1 ?_
  refine lv_iload_n hx hb dX7_delay_4 rfl (lv_at hl 1 rfl) ?_
  refine lv_iload_n hx hb dX7_delay_5 rfl (lv_at hl 2 rfl) ?_
  refine cv_i (As := [.int x, .int y]) (rest := []) (b := f145_0) ⟨hx, hb, hml, hown, hts⟩ (c_X6_delayOf hT (w := f145_0) t145_0 (x := x) (y := y)) (cwV 2 hts gX7_delay_X6_delayOf rfl rfl rfl hdX6_delayOf_v ⟨Nat.le_of_ble_eq_true rfl, Nat.le_of_ble_eq_true rfl⟩) hN hE hL (rcv7 hN hT t145_0.1) rfl rfl hl.1 (Nat.le_of_ble_eq_true rfl) dX7_delay_6 (Nat.zero_le _) (Nat.zero_le _) (fun r146 H1 locs hL hqr146 => ?_)
  obtain ⟨h9, hqr146⟩ := hqr146; replace h9 := h9.symm; subst h9
  obtain ⟨f147, d148, n149, h150, rfl, e151⟩ := hqr146
  exact en_i hx hb hr hlocks hL rfl (Nat.zero_le _) (Nat.zero_le _) dX7_delay_9 (⟨rfl, _, (by omega), rfl⟩)
theorem mX7_isCut_1 : (.fieldLink RX7 60 "OneBeat$World" "cuts" "J" : Cond) ∈ wsX7_isCut := List.mem_of_getElem? (i := 1) (by decide +kernel)
theorem iX7_isCut_7 : ∀ w ∈ wsX70, w ∈ wsX7_isCut := fun w h => List.mem_of_mem_drop (List.mem_of_mem_take ((show wsX70 = (wsX7_isCut.drop 6).take 16 by decide +kernel) ▸ h))
set_option maxHeartbeats 4000000 in
set_option maxRecDepth 100000 in
theorem c_X7_isCut {l : Launch} {D : va_G} {cs : Nat → ClassId} {B0 T : Nat} {κ : KM} {H0 : Heap} (hT : WT B0 D cs T κ H0) {w i : Nat} (hw : T2 κ w 8 i) {x : Int32} {y : Int32} : KC l yX7_isCut wsX7_isCut 1 21 0 0 D cs B0 H0 [.ref w, .int x, .int y] (Qi (fun r H => H = H0 ∧ (r = 0 ∨ r = 1))) := by
  refine KC.of cX7_isCut 3 (some .boolean) (by decide) rfl (Nat.le_of_ble_eq_true rfl) ?_
  intro p e s m below meth c ls hx hb hr hml hown hts hlocks hin hN hE hH0 hl
  have hown : s.vm.findClass RX7 = some m.cls := hown
  have hl : lv_has ls 3 [(0, .ref w), (1, .int x), (2, .int y)] := hl
  have hL : OkL B0 [] := OkL.nil
  refine lv_aload_n hx hb dX7_isCut_0 rfl (lv_at hl 0 rfl) ?_
  obtain ⟨hb152, e152, hat152, hk152⟩ := hT.o8 hw.1
  obtain ⟨f152_0, f152_1, f152_2, f152_3, f152_4, f152_5, f152_6, f152_7, f152_8, f152_9, f152_10, f152_11, f152_12, f152_13, f152_14, f152_15, rfl, t152_0, c152_su, t152_1, t152_2, t152_3, t152_4, t152_5, c152_tm, c152_lt, c152_ml, c152_pr, c152_li⟩ := hk152
  rw [hw.2] at t152_1
  rw [hw.2] at t152_2
  rw [hw.2] at t152_3
  rw [hw.2] at t152_4
  rw [hw.2] at t152_5
  rw [hw.2] at c152_lt c152_ml c152_pr c152_li
  subst c152_ml
  subst c152_pr
  subst c152_li
  have hP : va_P D vwCl [(w, .inr (7, [.ref f152_0, .ref f152_1, .ref (cs (400 + i)), .ref (cs (420 + i)), .ref (cs (460 + i)), .ref f152_5, .long f152_6, .int f152_7, .int f152_8, .int f152_9, .int f152_10, .int f152_11, .int f152_12, .int f152_13, .int f152_14, .int f152_15]))] _ := va_P.cons hat152 va_P.nil
  refine va_get (D := D) (ci := 7) (v := .long f152_6) (C := RX7) (T := TX7) (N := 16) hx hb hts iX7_isCut_7 hown hN.1 hP 0 rfl rfl 6 (by decide) (hts _ mX7_isCut_1) (fun _ h9 => h9) rfl dX7_isCut_1 ?_
  refine lv_iload_n hx hb dX7_isCut_4 rfl (lv_at hl 1 rfl) ?_
  refine lv_iload_n hx hb dX7_isCut_5 rfl (lv_at hl 2 rfl) ?_
  refine cs_i (As := [.int x, .int y]) (rest := [.long f152_6]) ⟨hx, hb, hml, hown, hts⟩ (c_X6_place hT (x := x) (y := y)) (va_cwS 2 hts gX7_isCut_X6_place rfl rfl rfl hdX6_place_o ⟨Nat.le_of_ble_eq_true rfl, Nat.le_of_ble_eq_true rfl⟩) hN hE hL rfl rfl hl.1 (Nat.le_of_ble_eq_true rfl) dX7_isCut_6 (Nat.zero_le _) (Nat.zero_le _) (fun r153 H1 locs hL hqr153 => ?_)
  obtain ⟨h9, hqr153⟩ := hqr153; replace h9 := h9.symm; subst h9
  obtain rfl := hqr153
  have hp154 := plc_lt x y
  refine lv_lshr hx hb dX7_isCut_9 rfl ?_
  refine gn_l (fun y155 => ?_)
  refine lv_lconst (v := 1) hx hb dX7_isCut_10 (by decide) ?_
  refine lv_land hx hb dX7_isCut_11 ?_
  refine gn_l (fun y156 => ?_)
  refine lv_lconst (v := 1) hx hb dX7_isCut_12 (by decide) ?_
  refine W.lcmp hx hb dX7_isCut_13 ?_
  refine gn_i (fun x157 => ?_)
  refine lv_if_ne (tgt := 21) hx hb dX7_isCut_14 (by decide) (fun c158 => ?_) (fun c158 => ?_)
  · refine lv_iconst (v := 0) hx hb dX7_isCut_21 (by decide) ?_
    exact en_i hx hb hr hlocks hL rfl (Nat.zero_le _) (Nat.zero_le _) dX7_isCut_22 (⟨rfl, Or.inl rfl⟩)
  · refine lv_iconst (v := 1) hx hb dX7_isCut_17 (by decide) ?_
    refine lv_goto (tgt := 22) hx hb dX7_isCut_18 (by decide) ?_
    exact en_i hx hb hr hlocks hL rfl (Nat.zero_le _) (Nat.zero_le _) dX7_isCut_22 (⟨rfl, Or.inr rfl⟩)
theorem mX7_setCut_1 : (.fieldLink RX7 60 "OneBeat$World" "cuts" "J" : Cond) ∈ wsX7_setCut := List.mem_of_getElem? (i := 1) (by decide +kernel)
theorem iX7_setCut_7 : ∀ w ∈ wsX70, w ∈ wsX7_setCut := fun w h => List.mem_of_mem_drop (List.mem_of_mem_take ((show wsX70 = (wsX7_setCut.drop 7).take 16 by decide +kernel) ▸ h))
theorem mX7_setCut_2 : (.constantLong RX7 125 (-1) : Cond) ∈ wsX7_setCut := List.mem_of_getElem? (i := 2) (by decide +kernel)
set_option maxHeartbeats 4000000 in
set_option maxRecDepth 100000 in
theorem c_X7_setCut {l : Launch} {D : va_G} {cs : Nat → ClassId} {B0 T : Nat} {κ : KM} {H0 : Heap} (hT : WT B0 D cs T κ H0) {w i : Nat} (hw : T2 κ w 8 i) {x : Int32} {y : Int32} {z : Int32} : KC l yX7_setCut wsX7_setCut 1 21 0 0 D cs B0 H0 [.ref w, .int x, .int y, .int z] (Qv (fun H => WT B0 D cs T κ H ∧ Fr B0 [i] κ H0 H)) := by
  refine KC.of cX7_setCut 6 none (by decide) rfl (Nat.le_of_ble_eq_true rfl) ?_
  intro p e s m below meth c ls hx hb hr hml hown hts hlocks hin hN hE hH0 hl
  have hown : s.vm.findClass RX7 = some m.cls := hown
  have hl : lv_has ls 6 [(0, .ref w), (1, .int x), (2, .int y), (3, .int z)] := hl
  have hL : OkL B0 [] := OkL.nil
  have hF : Fr B0 [i] κ H0 H0 := Fr.rf
  refine lv_lconst (v := 1) hx hb dX7_setCut_0 (by decide) ?_
  refine lv_iload_n hx hb dX7_setCut_1 rfl (lv_at hl 1 rfl) ?_
  refine lv_iload_n hx hb dX7_setCut_2 rfl (lv_at hl 2 rfl) ?_
  refine cs_i (As := [.int x, .int y]) (rest := [.long 1]) ⟨hx, hb, hml, hown, hts⟩ (c_X6_place hT (x := x) (y := y)) (va_cwS 2 hts gX7_setCut_X6_place rfl rfl rfl hdX6_place_o ⟨Nat.le_of_ble_eq_true rfl, Nat.le_of_ble_eq_true rfl⟩) hN hE hL rfl rfl hl.1 (Nat.le_of_ble_eq_true rfl) dX7_setCut_3 (Nat.zero_le _) (Nat.zero_le _) (fun r159 H1 locs hL hqr159 => ?_)
  obtain ⟨h9, hqr159⟩ := hqr159; replace h9 := h9.symm; subst h9
  obtain rfl := hqr159
  have hp160 := plc_lt x y
  refine lv_lshl hx hb dX7_setCut_6 rfl ?_
  refine gn_l (fun y161 => ?_)
  refine lv_lstore (lv' := [(4, .long y161), (0, .ref w), (1, .int x), (2, .int y), (3, .int z)]) hx hb dX7_setCut_7 hl (by decide) rfl (fun ls hl => ?_)
  refine lv_aload_n hx hb dX7_setCut_9 rfl (lv_at hl 1 rfl) ?_
  refine lv_iload_n hx hb dX7_setCut_10 rfl (lv_at hl 4 rfl) ?_
  refine lv_if_eq (tgt := 24) hx hb dX7_setCut_11 (by decide) (fun c162 => ?_) (fun c162 => ?_)
  · refine lv_aload_n hx hb dX7_setCut_24 rfl (lv_at hl 1 rfl) ?_
    obtain ⟨hb163, e163, hat163, hk163⟩ := hT.o8 hw.1
    obtain ⟨f163_0, f163_1, f163_2, f163_3, f163_4, f163_5, f163_6, f163_7, f163_8, f163_9, f163_10, f163_11, f163_12, f163_13, f163_14, f163_15, rfl, t163_0, c163_su, t163_1, t163_2, t163_3, t163_4, t163_5, c163_tm, c163_lt, c163_ml, c163_pr, c163_li⟩ := hk163
    rw [hw.2] at t163_1
    rw [hw.2] at t163_2
    rw [hw.2] at t163_3
    rw [hw.2] at t163_4
    rw [hw.2] at t163_5
    rw [hw.2] at c163_lt c163_ml c163_pr c163_li
    subst c163_ml
    subst c163_pr
    subst c163_li
    have hP : va_P D vwCl [(w, .inr (7, [.ref f163_0, .ref f163_1, .ref (cs (400 + i)), .ref (cs (420 + i)), .ref (cs (460 + i)), .ref f163_5, .long f163_6, .int f163_7, .int f163_8, .int f163_9, .int f163_10, .int f163_11, .int f163_12, .int f163_13, .int f163_14, .int f163_15]))] _ := va_P.cons hat163 va_P.nil
    refine va_get (D := D) (ci := 7) (v := .long f163_6) (C := RX7) (T := TX7) (N := 16) hx hb hts iX7_setCut_7 hown hN.1 hP 0 rfl rfl 6 (by decide) (hts _ mX7_setCut_1) (fun _ h9 => h9) rfl dX7_setCut_25 ?_
    refine lv_lload hx hb dX7_setCut_28 (lv_at hl 0 rfl) ?_
    refine lv_ldc2 (v := (-1)) hx hb hown (hts _ mX7_setCut_2) dX7_setCut_30 ?_
    refine lv_lxor hx hb dX7_setCut_33 ?_
    refine gn_l (fun y164 => ?_)
    refine lv_land hx hb dX7_setCut_34 ?_
    refine gn_l (fun y165 => ?_)
    have hB : Bx B0 D _ [(w, .inr (7, [.ref f163_0, .ref f163_1, .ref (cs (400 + i)), .ref (cs (420 + i)), .ref (cs (460 + i)), .ref f163_5, .long f163_6, .int f163_7, .int f163_8, .int f163_9, .int f163_10, .int f163_11, .int f163_12, .int f163_13, .int f163_14, .int f163_15]))] [] _ _ := Bx.of (fun a => (κ a).1) hL hP (fa_c hb163 fa_n) (by simp only [List.map_cons, List.map_nil, hw.1]; decide)
    refine b_put (D := D) (ci := 7) (v := .long y165) (ty := .long) (C := RX7) (T := TX7) (N := 16) hx hb hts iX7_setCut_7 tyX7 tyX7_ok nmX7 hown hN hB 0 rfl rfl 6 (by decide) (hts _ mX7_setCut_1) (fun _ h9 => h9) rfl (by decide +kernel) rfl rfl (Nat.le_of_ble_eq_true rfl) (.inl rfl) dX7_setCut_35 (fun H locs hB => ?_)
    have hB : Bx B0 D _ [(w, .inr (7, [.ref f163_0, .ref f163_1, .ref (cs (400 + i)), .ref (cs (420 + i)), .ref (cs (460 + i)), .ref f163_5, .long y165, .int f163_7, .int f163_8, .int f163_9, .int f163_10, .int f163_11, .int f163_12, .int f163_13, .int f163_14, .int f163_15]))] [w] _ _ := hB
    have hT : WT B0 D cs T κ _ := hT.close hB ⟨⟨0, _, rfl, ok_8 hw.1 ⟨_, _, _, _, _, _, _, _, _, _, _, _, _, _, _, _, rfl, t163_0, c163_su, ⟨t163_1.1, by rw [hw.2]; exact t163_1.2⟩, ⟨t163_2.1, by rw [hw.2]; exact t163_2.2⟩, ⟨t163_3.1, by rw [hw.2]; exact t163_3.2⟩, ⟨t163_4.1, by rw [hw.2]; exact t163_4.2⟩, ⟨t163_5.1, by rw [hw.2]; exact t163_5.2⟩, c163_tm, (by rw [hw.2]; omega), (by first | rw [hw.2] | (dsimp only; rw [hw.2])), (by first | rw [hw.2] | (dsimp only; rw [hw.2])), (by first | rw [hw.2] | (dsimp only; rw [hw.2]))⟩⟩, trivial⟩
    have hF : Fr B0 [i] κ H0 _ := hF.close hB (fa_c (by simp [hw.2]) fa_n)
    have hL : OkL B0 _ := hB.2.2.2.2.2
    have hP : va_P D vwCl [(w, .inr (7, [.ref f163_0, .ref f163_1, .ref (cs (400 + i)), .ref (cs (420 + i)), .ref (cs (460 + i)), .ref f163_5, .long y165, .int f163_7, .int f163_8, .int f163_9, .int f163_10, .int f163_11, .int f163_12, .int f163_13, .int f163_14, .int f163_15]))] _ := hB.1
    exact en_v hx hb hr hlocks hL (Nat.zero_le _) (Nat.zero_le _) dX7_setCut_38 (⟨hT, hF⟩)
  · refine lv_aload_n hx hb dX7_setCut_14 rfl (lv_at hl 1 rfl) ?_
    obtain ⟨hb166, e166, hat166, hk166⟩ := hT.o8 hw.1
    obtain ⟨f166_0, f166_1, f166_2, f166_3, f166_4, f166_5, f166_6, f166_7, f166_8, f166_9, f166_10, f166_11, f166_12, f166_13, f166_14, f166_15, rfl, t166_0, c166_su, t166_1, t166_2, t166_3, t166_4, t166_5, c166_tm, c166_lt, c166_ml, c166_pr, c166_li⟩ := hk166
    rw [hw.2] at t166_1
    rw [hw.2] at t166_2
    rw [hw.2] at t166_3
    rw [hw.2] at t166_4
    rw [hw.2] at t166_5
    rw [hw.2] at c166_lt c166_ml c166_pr c166_li
    subst c166_ml
    subst c166_pr
    subst c166_li
    have hP : va_P D vwCl [(w, .inr (7, [.ref f166_0, .ref f166_1, .ref (cs (400 + i)), .ref (cs (420 + i)), .ref (cs (460 + i)), .ref f166_5, .long f166_6, .int f166_7, .int f166_8, .int f166_9, .int f166_10, .int f166_11, .int f166_12, .int f166_13, .int f166_14, .int f166_15]))] _ := va_P.cons hat166 va_P.nil
    refine va_get (D := D) (ci := 7) (v := .long f166_6) (C := RX7) (T := TX7) (N := 16) hx hb hts iX7_setCut_7 hown hN.1 hP 0 rfl rfl 6 (by decide) (hts _ mX7_setCut_1) (fun _ h9 => h9) rfl dX7_setCut_15 ?_
    refine lv_lload hx hb dX7_setCut_18 (lv_at hl 0 rfl) ?_
    refine lv_lor hx hb dX7_setCut_20 ?_
    refine gn_l (fun y167 => ?_)
    refine lv_goto (tgt := 35) hx hb dX7_setCut_21 (by decide) ?_
    have hB : Bx B0 D _ [(w, .inr (7, [.ref f166_0, .ref f166_1, .ref (cs (400 + i)), .ref (cs (420 + i)), .ref (cs (460 + i)), .ref f166_5, .long f166_6, .int f166_7, .int f166_8, .int f166_9, .int f166_10, .int f166_11, .int f166_12, .int f166_13, .int f166_14, .int f166_15]))] [] _ _ := Bx.of (fun a => (κ a).1) hL hP (fa_c hb166 fa_n) (by simp only [List.map_cons, List.map_nil, hw.1]; decide)
    refine b_put (D := D) (ci := 7) (v := .long y167) (ty := .long) (C := RX7) (T := TX7) (N := 16) hx hb hts iX7_setCut_7 tyX7 tyX7_ok nmX7 hown hN hB 0 rfl rfl 6 (by decide) (hts _ mX7_setCut_1) (fun _ h9 => h9) rfl (by decide +kernel) rfl rfl (Nat.le_of_ble_eq_true rfl) (.inl rfl) dX7_setCut_35 (fun H locs hB => ?_)
    have hB : Bx B0 D _ [(w, .inr (7, [.ref f166_0, .ref f166_1, .ref (cs (400 + i)), .ref (cs (420 + i)), .ref (cs (460 + i)), .ref f166_5, .long y167, .int f166_7, .int f166_8, .int f166_9, .int f166_10, .int f166_11, .int f166_12, .int f166_13, .int f166_14, .int f166_15]))] [w] _ _ := hB
    have hT : WT B0 D cs T κ _ := hT.close hB ⟨⟨0, _, rfl, ok_8 hw.1 ⟨_, _, _, _, _, _, _, _, _, _, _, _, _, _, _, _, rfl, t166_0, c166_su, ⟨t166_1.1, by rw [hw.2]; exact t166_1.2⟩, ⟨t166_2.1, by rw [hw.2]; exact t166_2.2⟩, ⟨t166_3.1, by rw [hw.2]; exact t166_3.2⟩, ⟨t166_4.1, by rw [hw.2]; exact t166_4.2⟩, ⟨t166_5.1, by rw [hw.2]; exact t166_5.2⟩, c166_tm, (by rw [hw.2]; omega), (by first | rw [hw.2] | (dsimp only; rw [hw.2])), (by first | rw [hw.2] | (dsimp only; rw [hw.2])), (by first | rw [hw.2] | (dsimp only; rw [hw.2]))⟩⟩, trivial⟩
    have hF : Fr B0 [i] κ H0 _ := hF.close hB (fa_c (by simp [hw.2]) fa_n)
    have hL : OkL B0 _ := hB.2.2.2.2.2
    have hP : va_P D vwCl [(w, .inr (7, [.ref f166_0, .ref f166_1, .ref (cs (400 + i)), .ref (cs (420 + i)), .ref (cs (460 + i)), .ref f166_5, .long y167, .int f166_7, .int f166_8, .int f166_9, .int f166_10, .int f166_11, .int f166_12, .int f166_13, .int f166_14, .int f166_15]))] _ := hB.1
    exact en_v hx hb hr hlocks hL (Nat.zero_le _) (Nat.zero_le _) dX7_setCut_38 (⟨hT, hF⟩)
theorem mX7_countUp_1 : (.fieldLink RX7 52 "OneBeat$World" "setup" "LOneBeat$Setup;" : Cond) ∈ wsX7_countUp := List.mem_of_getElem? (i := 1) (by decide +kernel)
theorem iX7_countUp_7 : ∀ w ∈ wsX70, w ∈ wsX7_countUp := fun w h => List.mem_of_mem_drop (List.mem_of_mem_take ((show wsX70 = (wsX7_countUp.drop 8).take 16 by decide +kernel) ▸ h))
theorem iX7_countUp_6 : ∀ w ∈ wsX60, w ∈ wsX7_countUp := fun w h => List.mem_of_mem_drop (List.mem_of_mem_take ((show wsX60 = (wsX7_countUp.drop 24).take 8 by decide +kernel) ▸ h))
theorem iX7_countUp_3 : ∀ w ∈ wsX30, w ∈ wsX7_countUp := fun w h => List.mem_of_mem_drop (List.mem_of_mem_take ((show wsX30 = (wsX7_countUp.drop 32).take 10 by decide +kernel) ▸ h))
set_option maxHeartbeats 4000000 in
set_option maxRecDepth 100000 in
theorem c_X7_countUp {l : Launch} {D : va_G} {cs : Nat → ClassId} {B0 T : Nat} {κ : KM} {H0 : Heap} (hT : WT B0 D cs T κ H0) {w i : Nat} (hw : T2 κ w 8 i) : KC l yX7_countUp wsX7_countUp 1 21 0 0 D cs B0 H0 [.ref w] (Qi (fun _ H => H = H0)) := by
  refine KC.of cX7_countUp 3 (some .int) (by decide) rfl (Nat.le_of_ble_eq_true rfl) ?_
  intro p e s m below meth c ls hx hb hr hml hown hts hlocks hin hN hE hH0 hl
  have hown : s.vm.findClass RX7 = some m.cls := hown
  have hl : lv_has ls 3 [(0, .ref w)] := hl
  have hL : OkL B0 [] := OkL.nil
  refine lv_iconst (v := 0) hx hb dX7_countUp_0 (by decide) ?_
  refine lv_istore_n (lv' := [(1, .int 0), (0, .ref w)]) hx hb dX7_countUp_1 rfl hl (by decide) rfl (fun ls hl => ?_)
  refine lv_iconst (v := 0) hx hb dX7_countUp_2 (by decide) ?_
  refine lv_istore_n (lv' := [(2, .int 0), (1, .int 0), (0, .ref w)]) hx hb dX7_countUp_3 rfl hl (by decide) rfl (fun ls hl => ?_)
  refine lp_r (B0 := B0) (α := Nat × Int32) (nL := 3) (fun a9 => 8 - a9.1) (fun a9 => (a9.1 ≤ 8)) (fun a9 => [(2, .int (nI a9.1)), (1, .int a9.2), (0, .ref w)]) ?_ (0, 0) _ _ (by show (0) ≤ 8; omega) hL (lv_sub hl [0, 1, 2] rfl)
  rintro ⟨p, x⟩ locs ls ih168 hp hL hl
  have hl : lv_has ls 3 [(2, .int (nI p)), (1, .int x), (0, .ref w)] := hl
  have hp : p ≤ 8 := hp
  refine lv_iload_n hx hb dX7_countUp_4 rfl (lv_at hl 0 rfl) ?_
  refine lv_aload_n hx hb dX7_countUp_5 rfl (lv_at hl 2 rfl) ?_
  obtain ⟨hb169, e169, hat169, hk169⟩ := hT.o8 hw.1
  obtain ⟨f169_0, f169_1, f169_2, f169_3, f169_4, f169_5, f169_6, f169_7, f169_8, f169_9, f169_10, f169_11, f169_12, f169_13, f169_14, f169_15, rfl, t169_0, c169_su, t169_1, t169_2, t169_3, t169_4, t169_5, c169_tm, c169_lt, c169_ml, c169_pr, c169_li⟩ := hk169
  rw [hw.2] at t169_1
  rw [hw.2] at t169_2
  rw [hw.2] at t169_3
  rw [hw.2] at t169_4
  rw [hw.2] at t169_5
  rw [hw.2] at c169_lt c169_ml c169_pr c169_li
  subst c169_ml
  subst c169_pr
  subst c169_li
  have hP : va_P D vwCl [(w, .inr (7, [.ref f169_0, .ref f169_1, .ref (cs (400 + i)), .ref (cs (420 + i)), .ref (cs (460 + i)), .ref f169_5, .long f169_6, .int f169_7, .int f169_8, .int f169_9, .int f169_10, .int f169_11, .int f169_12, .int f169_13, .int f169_14, .int f169_15]))] _ := va_P.cons hat169 va_P.nil
  refine va_get (D := D) (ci := 7) (v := .ref f169_0) (C := RX7) (T := TX7) (N := 16) hx hb hts iX7_countUp_7 hown hN.1 hP 0 rfl rfl 0 (by decide) (hts _ mX7_countUp_1) (fun _ h9 => h9) rfl dX7_countUp_6 ?_
  obtain ⟨hb170, e170, hat170, hk170⟩ := hT.o7 t169_0.1
  obtain ⟨f170_0, f170_1, f170_2, f170_3, f170_4, f170_5, f170_6, f170_7, rfl, c170_0, c170_3, c170_mg, t170_4, t170_5, t170_6, t170_7⟩ := hk170
  rw [t169_0.2] at t170_4
  rw [t169_0.2] at t170_5
  rw [t169_0.2] at t170_6
  rw [t169_0.2] at t170_7
  have hP : va_P D vwCl [(f169_0, .inr (6, [.int (nI f170_0), .int f170_1, .int f170_2, f170_3, .ref f170_4, .ref f170_5, .ref f170_6, .ref f170_7])), (w, .inr (7, [.ref f169_0, .ref f169_1, .ref (cs (400 + i)), .ref (cs (420 + i)), .ref (cs (460 + i)), .ref f169_5, .long f169_6, .int f169_7, .int f169_8, .int f169_9, .int f169_10, .int f169_11, .int f169_12, .int f169_13, .int f169_14, .int f169_15]))] _ := va_P.cons hat170 hP
  refine va_getN (D := D) (ci := 6) (v := .int (nI f170_0)) (C := RX6) (T := TX6) (N := 8) hx hb hts iX7_countUp_6 hown hN.1 hP 0 rfl rfl 0 (by decide) (hN.f 39 rfl) (fun _ h9 => h9) rfl dX7_countUp_9 ?_
  refine lv_icmp_ge (tgt := 35) hx hb dX7_countUp_12 (by decide) (fun c171 => ?_) (fun c171 => ?_)
  · have c171 : f170_0 ≤ p := (nI_leI (a := f170_0) (b := p) (by omega) (by omega)).mp c171
    refine lv_iload_n hx hb dX7_countUp_35 rfl (lv_at hl 1 rfl) ?_
    exact en_i hx hb hr hlocks hL rfl (Nat.zero_le _) (Nat.zero_le _) dX7_countUp_36 (rfl)
  · have c171 : ¬ f170_0 ≤ p := fun h9 => c171 ((nI_leI (a := f170_0) (b := p) (by omega) (by omega)).mpr h9)
    refine lv_aload_n hx hb dX7_countUp_15 rfl (lv_at hl 2 rfl) ?_
    refine lv_iload_n hx hb dX7_countUp_16 rfl (lv_at hl 0 rfl) ?_
    refine cv_r (As := [.int (nI p)]) (rest := []) (b := w) ⟨hx, hb, hml, hown, hts⟩ (c_X7_at hT (w := w) hw (x := (nI p))) (cwV 1 hts gX7_countUp_X7_at rfl rfl rfl hdX7_at_v ⟨Nat.le_of_ble_eq_true rfl, Nat.le_of_ble_eq_true rfl⟩) hN hE hL (rcv8 hN hT hw.1) rfl rfl hl.1 (Nat.le_of_ble_eq_true rfl) dX7_countUp_17 (Nat.zero_le _) (Nat.zero_le _) (fun r172 H1 locs hL hqr172 => ?_)
    obtain ⟨h9, hqr172⟩ := hqr172; replace h9 := h9.symm; subst h9
    obtain ⟨hb173, e173, hat173, hk173⟩ := hT.o4 hqr172.1
    obtain ⟨f173_0, f173_1, f173_2, f173_3, f173_4, f173_5, f173_6, f173_7, f173_8, f173_9, rfl, c173_up⟩ := hk173
    have hP : va_P D vwCl [(r172, .inr (3, [.int f173_0, .int f173_1, .int f173_2, .int f173_3, .int f173_4, .int f173_5, .int f173_6, .int f173_7, .int f173_8, .int f173_9])), (f169_0, .inr (6, [.int (nI f170_0), .int f170_1, .int f170_2, f170_3, .ref f170_4, .ref f170_5, .ref f170_6, .ref f170_7])), (w, .inr (7, [.ref f169_0, .ref f169_1, .ref (cs (400 + i)), .ref (cs (420 + i)), .ref (cs (460 + i)), .ref f169_5, .long f169_6, .int f169_7, .int f169_8, .int f169_9, .int f169_10, .int f169_11, .int f169_12, .int f169_13, .int f169_14, .int f169_15]))] _ := va_P.cons hat173 hP
    refine va_getN (D := D) (ci := 3) (v := .int f173_0) (C := RX3) (T := TX3) (N := 10) hx hb hts iX7_countUp_3 hown hN.1 hP 0 rfl rfl 0 (by decide) (hN.f 27 rfl) (fun _ h9 => h9) rfl dX7_countUp_20 ?_
    refine lv_if_eq (tgt := 29) hx hb dX7_countUp_23 (by decide) (fun c174 => ?_) (fun c174 => ?_)
    · refine lv_iinc (v := (nI (p + 1))) (lv' := [(2, .int (nI (p + 1))), (1, .int x), (0, .ref w)]) hx hb dX7_countUp_29 hl (k := 0) rfl (nI_add _ 1) (by decide) rfl (fun ls hl => ?_)
      refine lv_goto (tgt := 4) hx hb dX7_countUp_32 (by decide) ?_
      exact ih168 ((p + 1), x) _ _ (by show 8 - ((p + 1)) < 8 - p; omega) (by show ((p + 1)) ≤ 8; omega) hL (lv_sub hl [0, 1, 2] rfl)
    · refine lv_iinc (v := (x + 1)) (lv' := [(1, .int (x + 1)), (2, .int (nI p)), (0, .ref w)]) hx hb dX7_countUp_26 hl (k := 1) rfl (rfl) (by decide) rfl (fun ls hl => ?_)
      refine lv_iinc (v := (nI (p + 1))) (lv' := [(2, .int (nI (p + 1))), (1, .int (x + 1)), (0, .ref w)]) hx hb dX7_countUp_29 hl (k := 1) rfl (nI_add _ 1) (by decide) rfl (fun ls hl => ?_)
      refine lv_goto (tgt := 4) hx hb dX7_countUp_32 (by decide) ?_
      exact ih168 ((p + 1), (x + 1)) _ _ (by show 8 - ((p + 1)) < 8 - p; omega) (by show ((p + 1)) ≤ 8; omega) hL (lv_sub hl [0, 1, 2] rfl)
theorem iX7_isFirstWithItsSong_3 : ∀ w ∈ wsX30, w ∈ wsX7_isFirstWithItsSong := fun w h => List.mem_of_mem_drop (List.mem_of_mem_take ((show wsX30 = (wsX7_isFirstWithItsSong.drop 7).take 10 by decide +kernel) ▸ h))
set_option maxHeartbeats 4000000 in
set_option maxRecDepth 100000 in
theorem c_X7_isFirstWithItsSong {l : Launch} {D : va_G} {cs : Nat → ClassId} {B0 T : Nat} {κ : KM} {H0 : Heap} (hT : WT B0 D cs T κ H0) {w i : Nat} (hw : T2 κ w 8 i) {n : Nat} (hn : n ≤ 8) : KC l yX7_isFirstWithItsSong wsX7_isFirstWithItsSong 1 21 0 0 D cs B0 H0 [.ref w, .int (nI n)] (Qi (fun r H => H = H0 ∧ (r = 0 ∨ r = 1))) := by
  refine KC.of cX7_isFirstWithItsSong 3 (some .boolean) (by decide) rfl (Nat.le_of_ble_eq_true rfl) ?_
  intro p e s m below meth c ls hx hb hr hml hown hts hlocks hin hN hE hH0 hl
  have hown : s.vm.findClass RX7 = some m.cls := hown
  have hl : lv_has ls 3 [(0, .ref w), (1, .int (nI n))] := hl
  have hL : OkL B0 [] := OkL.nil
  refine lv_iconst (v := 0) hx hb dX7_isFirstWithItsSong_0 (by decide) ?_
  refine lv_istore_n (lv' := [(2, .int 0), (0, .ref w), (1, .int (nI n))]) hx hb dX7_isFirstWithItsSong_1 rfl hl (by decide) rfl (fun ls hl => ?_)
  refine lp_r (B0 := B0) (α := Nat) (nL := 3) (fun a9 => 8 - a9) (fun a9 => (a9 ≤ 8)) (fun a9 => [(2, .int (nI a9)), (0, .ref w), (1, .int (nI n))]) ?_ 0 _ _ (by show (0) ≤ 8; omega) hL (lv_sub hl [0, 1, 2] rfl)
  rintro q locs ls ih175 hq hL hl
  have hl : lv_has ls 3 [(2, .int (nI q)), (0, .ref w), (1, .int (nI n))] := hl
  have hq : q ≤ 8 := hq
  refine lv_iload_n hx hb dX7_isFirstWithItsSong_2 rfl (lv_at hl 0 rfl) ?_
  refine lv_iload_n hx hb dX7_isFirstWithItsSong_3 rfl (lv_at hl 2 rfl) ?_
  refine lv_icmp_ge (tgt := 45) hx hb dX7_isFirstWithItsSong_4 (by decide) (fun c176 => ?_) (fun c176 => ?_)
  · have c176 : n ≤ q := (nI_leI (a := n) (b := q) (by omega) (by omega)).mp c176
    refine lv_iconst (v := 1) hx hb dX7_isFirstWithItsSong_45 (by decide) ?_
    exact en_i hx hb hr hlocks hL rfl (Nat.zero_le _) (Nat.zero_le _) dX7_isFirstWithItsSong_46 (⟨rfl, Or.inr rfl⟩)
  · have c176 : ¬ n ≤ q := fun h9 => c176 ((nI_leI (a := n) (b := q) (by omega) (by omega)).mpr h9)
    refine lv_aload_n hx hb dX7_isFirstWithItsSong_7 rfl (lv_at hl 1 rfl) ?_
    refine lv_iload_n hx hb dX7_isFirstWithItsSong_8 rfl (lv_at hl 0 rfl) ?_
    refine cv_r (As := [.int (nI q)]) (rest := []) (b := w) ⟨hx, hb, hml, hown, hts⟩ (c_X7_at hT (w := w) hw (x := (nI q))) (cwV 1 hts gX7_isFirstWithItsSong_X7_at rfl rfl rfl hdX7_at_v ⟨Nat.le_of_ble_eq_true rfl, Nat.le_of_ble_eq_true rfl⟩) hN hE hL (rcv8 hN hT hw.1) rfl rfl hl.1 (Nat.le_of_ble_eq_true rfl) dX7_isFirstWithItsSong_9 (Nat.zero_le _) (Nat.zero_le _) (fun r177 H1 locs hL hqr177 => ?_)
    obtain ⟨h9, hqr177⟩ := hqr177; replace h9 := h9.symm; subst h9
    obtain ⟨hb178, e178, hat178, hk178⟩ := hT.o4 hqr177.1
    obtain ⟨f178_0, f178_1, f178_2, f178_3, f178_4, f178_5, f178_6, f178_7, f178_8, f178_9, rfl, c178_up⟩ := hk178
    have hP : va_P D vwCl [(r177, .inr (3, [.int f178_0, .int f178_1, .int f178_2, .int f178_3, .int f178_4, .int f178_5, .int f178_6, .int f178_7, .int f178_8, .int f178_9]))] _ := va_P.cons hat178 va_P.nil
    refine va_getN (D := D) (ci := 3) (v := .int f178_0) (C := RX3) (T := TX3) (N := 10) hx hb hts iX7_isFirstWithItsSong_3 hown hN.1 hP 0 rfl rfl 0 (by decide) (hN.f 27 rfl) (fun _ h9 => h9) rfl dX7_isFirstWithItsSong_12 ?_
    refine lv_if_eq (tgt := 39) hx hb dX7_isFirstWithItsSong_15 (by decide) (fun c179 => ?_) (fun c179 => ?_)
    · refine lv_iinc (v := (nI (q + 1))) (lv' := [(2, .int (nI (q + 1))), (0, .ref w), (1, .int (nI n))]) hx hb dX7_isFirstWithItsSong_39 hl (k := 0) rfl (nI_add _ 1) (by decide) rfl (fun ls hl => ?_)
      refine lv_goto (tgt := 2) hx hb dX7_isFirstWithItsSong_42 (by decide) ?_
      exact ih175 (q + 1) _ _ (by show 8 - ((q + 1)) < 8 - q; omega) (by show ((q + 1)) ≤ 8; omega) hL (lv_sub hl [0, 1, 2] rfl)
    · refine lv_aload_n hx hb dX7_isFirstWithItsSong_18 rfl (lv_at hl 1 rfl) ?_
      refine lv_iload_n hx hb dX7_isFirstWithItsSong_19 rfl (lv_at hl 0 rfl) ?_
      refine cv_r (As := [.int (nI q)]) (rest := []) (b := w) ⟨hx, hb, hml, hown, hts⟩ (c_X7_at hT (w := w) hw (x := (nI q))) (cwV 1 hts gX7_isFirstWithItsSong_X7_at rfl rfl rfl hdX7_at_v ⟨Nat.le_of_ble_eq_true rfl, Nat.le_of_ble_eq_true rfl⟩) hN hE hL (rcv8 hN hT hw.1) rfl rfl hl.1 (Nat.le_of_ble_eq_true rfl) dX7_isFirstWithItsSong_20 (Nat.zero_le _) (Nat.zero_le _) (fun r180 H1 locs hL hqr180 => ?_)
      obtain ⟨h9, hqr180⟩ := hqr180; replace h9 := h9.symm; subst h9
      obtain ⟨hb181, e181, hat181, hk181⟩ := hT.o4 hqr180.1
      obtain ⟨f181_0, f181_1, f181_2, f181_3, f181_4, f181_5, f181_6, f181_7, f181_8, f181_9, rfl, c181_up⟩ := hk181
      have hP : va_P D vwCl [(r180, .inr (3, [.int f181_0, .int f181_1, .int f181_2, .int f181_3, .int f181_4, .int f181_5, .int f181_6, .int f181_7, .int f181_8, .int f181_9])), (r177, .inr (3, [.int f178_0, .int f178_1, .int f178_2, .int f178_3, .int f178_4, .int f178_5, .int f178_6, .int f178_7, .int f178_8, .int f178_9]))] _ := va_P.cons hat181 hP
      refine va_getN (D := D) (ci := 3) (v := .int f181_2) (C := RX3) (T := TX3) (N := 10) hx hb hts iX7_isFirstWithItsSong_3 hown hN.1 hP 0 rfl rfl 2 (by decide) (hN.f 30 rfl) (fun _ h9 => h9) rfl dX7_isFirstWithItsSong_23 ?_
      refine lv_aload_n hx hb dX7_isFirstWithItsSong_26 rfl (lv_at hl 1 rfl) ?_
      refine lv_iload_n hx hb dX7_isFirstWithItsSong_27 rfl (lv_at hl 2 rfl) ?_
      refine cv_r (As := [.int (nI n)]) (rest := [.int f181_2]) (b := w) ⟨hx, hb, hml, hown, hts⟩ (c_X7_at hT (w := w) hw (x := (nI n))) (cwV 1 hts gX7_isFirstWithItsSong_X7_at rfl rfl rfl hdX7_at_v ⟨Nat.le_of_ble_eq_true rfl, Nat.le_of_ble_eq_true rfl⟩) hN hE hL (rcv8 hN hT hw.1) rfl rfl hl.1 (Nat.le_of_ble_eq_true rfl) dX7_isFirstWithItsSong_28 (Nat.zero_le _) (Nat.zero_le _) (fun r182 H1 locs hL hqr182 => ?_)
      obtain ⟨h9, hqr182⟩ := hqr182; replace h9 := h9.symm; subst h9
      obtain ⟨hb183, e183, hat183, hk183⟩ := hT.o4 hqr182.1
      obtain ⟨f183_0, f183_1, f183_2, f183_3, f183_4, f183_5, f183_6, f183_7, f183_8, f183_9, rfl, c183_up⟩ := hk183
      have hP : va_P D vwCl [(r182, .inr (3, [.int f183_0, .int f183_1, .int f183_2, .int f183_3, .int f183_4, .int f183_5, .int f183_6, .int f183_7, .int f183_8, .int f183_9])), (r180, .inr (3, [.int f181_0, .int f181_1, .int f181_2, .int f181_3, .int f181_4, .int f181_5, .int f181_6, .int f181_7, .int f181_8, .int f181_9])), (r177, .inr (3, [.int f178_0, .int f178_1, .int f178_2, .int f178_3, .int f178_4, .int f178_5, .int f178_6, .int f178_7, .int f178_8, .int f178_9]))] _ := va_P.cons hat183 hP
      refine va_getN (D := D) (ci := 3) (v := .int f183_2) (C := RX3) (T := TX3) (N := 10) hx hb hts iX7_isFirstWithItsSong_3 hown hN.1 hP 0 rfl rfl 2 (by decide) (hN.f 30 rfl) (fun _ h9 => h9) rfl dX7_isFirstWithItsSong_31 ?_
      refine lv_icmp_ne (tgt := 39) hx hb dX7_isFirstWithItsSong_34 (by decide) (fun c184 => ?_) (fun c184 => ?_)
      · refine lv_iinc (v := (nI (q + 1))) (lv' := [(2, .int (nI (q + 1))), (0, .ref w), (1, .int (nI n))]) hx hb dX7_isFirstWithItsSong_39 hl (k := 0) rfl (nI_add _ 1) (by decide) rfl (fun ls hl => ?_)
        refine lv_goto (tgt := 2) hx hb dX7_isFirstWithItsSong_42 (by decide) ?_
        exact ih175 (q + 1) _ _ (by show 8 - ((q + 1)) < 8 - q; omega) (by show ((q + 1)) ≤ 8; omega) hL (lv_sub hl [0, 1, 2] rfl)
      · refine lv_iconst (v := 0) hx hb dX7_isFirstWithItsSong_37 (by decide) ?_
        exact en_i hx hb hr hlocks hL rfl (Nat.zero_le _) (Nat.zero_le _) dX7_isFirstWithItsSong_38 (⟨rfl, Or.inl rfl⟩)
theorem mX7_countSongs_1 : (.fieldLink RX7 52 "OneBeat$World" "setup" "LOneBeat$Setup;" : Cond) ∈ wsX7_countSongs := List.mem_of_getElem? (i := 1) (by decide +kernel)
theorem iX7_countSongs_7 : ∀ w ∈ wsX70, w ∈ wsX7_countSongs := fun w h => List.mem_of_mem_drop (List.mem_of_mem_take ((show wsX70 = (wsX7_countSongs.drop 12).take 16 by decide +kernel) ▸ h))
theorem iX7_countSongs_6 : ∀ w ∈ wsX60, w ∈ wsX7_countSongs := fun w h => List.mem_of_mem_drop (List.mem_of_mem_take ((show wsX60 = (wsX7_countSongs.drop 28).take 8 by decide +kernel) ▸ h))
theorem iX7_countSongs_3 : ∀ w ∈ wsX30, w ∈ wsX7_countSongs := fun w h => List.mem_of_mem_drop (List.mem_of_mem_take ((show wsX30 = (wsX7_countSongs.drop 36).take 10 by decide +kernel) ▸ h))
theorem hdX7_isFirstWithItsSong_v : yX7_isFirstWithItsSong.cls = RX7 ∧ yX7_isFirstWithItsSong.cls ≠ "java/lang/invoke/MethodHandle" ∧ yX7_isFirstWithItsSong.cls ≠ "java/lang/invoke/VarHandle" ∧ (parseMethodDescriptor yX7_isFirstWithItsSong.desc).map (fun d => d.parameters.length) = some 1 := by decide +kernel
set_option maxHeartbeats 4000000 in
set_option maxRecDepth 100000 in
theorem c_X7_countSongs {l : Launch} {D : va_G} {cs : Nat → ClassId} {B0 T : Nat} {κ : KM} {H0 : Heap} (hT : WT B0 D cs T κ H0) {w i : Nat} (hw : T2 κ w 8 i) : KC l yX7_countSongs wsX7_countSongs 2 43 0 0 D cs B0 H0 [.ref w] (Qi (fun _ H => H = H0)) := by
  refine KC.of cX7_countSongs 3 (some .int) (by decide) rfl (Nat.le_of_ble_eq_true rfl) ?_
  intro p e s m below meth c ls hx hb hr hml hown hts hlocks hin hN hE hH0 hl
  have hown : s.vm.findClass RX7 = some m.cls := hown
  have hl : lv_has ls 3 [(0, .ref w)] := hl
  have hL : OkL B0 [] := OkL.nil
  refine lv_iconst (v := 0) hx hb dX7_countSongs_0 (by decide) ?_
  refine lv_istore_n (lv' := [(1, .int 0), (0, .ref w)]) hx hb dX7_countSongs_1 rfl hl (by decide) rfl (fun ls hl => ?_)
  refine lv_iconst (v := 0) hx hb dX7_countSongs_2 (by decide) ?_
  refine lv_istore_n (lv' := [(2, .int 0), (1, .int 0), (0, .ref w)]) hx hb dX7_countSongs_3 rfl hl (by decide) rfl (fun ls hl => ?_)
  refine lp_r (B0 := B0) (α := Nat × Int32) (nL := 3) (fun a9 => 8 - a9.1) (fun a9 => (a9.1 ≤ 8)) (fun a9 => [(2, .int (nI a9.1)), (1, .int a9.2), (0, .ref w)]) ?_ (0, 0) _ _ (by show (0) ≤ 8; omega) hL (lv_sub hl [0, 1, 2] rfl)
  rintro ⟨p, x⟩ locs ls ih185 hp hL hl
  have hl : lv_has ls 3 [(2, .int (nI p)), (1, .int x), (0, .ref w)] := hl
  have hp : p ≤ 8 := hp
  refine lv_iload_n hx hb dX7_countSongs_4 rfl (lv_at hl 0 rfl) ?_
  refine lv_aload_n hx hb dX7_countSongs_5 rfl (lv_at hl 2 rfl) ?_
  obtain ⟨hb186, e186, hat186, hk186⟩ := hT.o8 hw.1
  obtain ⟨f186_0, f186_1, f186_2, f186_3, f186_4, f186_5, f186_6, f186_7, f186_8, f186_9, f186_10, f186_11, f186_12, f186_13, f186_14, f186_15, rfl, t186_0, c186_su, t186_1, t186_2, t186_3, t186_4, t186_5, c186_tm, c186_lt, c186_ml, c186_pr, c186_li⟩ := hk186
  rw [hw.2] at t186_1
  rw [hw.2] at t186_2
  rw [hw.2] at t186_3
  rw [hw.2] at t186_4
  rw [hw.2] at t186_5
  rw [hw.2] at c186_lt c186_ml c186_pr c186_li
  subst c186_ml
  subst c186_pr
  subst c186_li
  have hP : va_P D vwCl [(w, .inr (7, [.ref f186_0, .ref f186_1, .ref (cs (400 + i)), .ref (cs (420 + i)), .ref (cs (460 + i)), .ref f186_5, .long f186_6, .int f186_7, .int f186_8, .int f186_9, .int f186_10, .int f186_11, .int f186_12, .int f186_13, .int f186_14, .int f186_15]))] _ := va_P.cons hat186 va_P.nil
  refine va_get (D := D) (ci := 7) (v := .ref f186_0) (C := RX7) (T := TX7) (N := 16) hx hb hts iX7_countSongs_7 hown hN.1 hP 0 rfl rfl 0 (by decide) (hts _ mX7_countSongs_1) (fun _ h9 => h9) rfl dX7_countSongs_6 ?_
  obtain ⟨hb187, e187, hat187, hk187⟩ := hT.o7 t186_0.1
  obtain ⟨f187_0, f187_1, f187_2, f187_3, f187_4, f187_5, f187_6, f187_7, rfl, c187_0, c187_3, c187_mg, t187_4, t187_5, t187_6, t187_7⟩ := hk187
  rw [t186_0.2] at t187_4
  rw [t186_0.2] at t187_5
  rw [t186_0.2] at t187_6
  rw [t186_0.2] at t187_7
  have hP : va_P D vwCl [(f186_0, .inr (6, [.int (nI f187_0), .int f187_1, .int f187_2, f187_3, .ref f187_4, .ref f187_5, .ref f187_6, .ref f187_7])), (w, .inr (7, [.ref f186_0, .ref f186_1, .ref (cs (400 + i)), .ref (cs (420 + i)), .ref (cs (460 + i)), .ref f186_5, .long f186_6, .int f186_7, .int f186_8, .int f186_9, .int f186_10, .int f186_11, .int f186_12, .int f186_13, .int f186_14, .int f186_15]))] _ := va_P.cons hat187 hP
  refine va_getN (D := D) (ci := 6) (v := .int (nI f187_0)) (C := RX6) (T := TX6) (N := 8) hx hb hts iX7_countSongs_6 hown hN.1 hP 0 rfl rfl 0 (by decide) (hN.f 39 rfl) (fun _ h9 => h9) rfl dX7_countSongs_9 ?_
  refine lv_icmp_ge (tgt := 43) hx hb dX7_countSongs_12 (by decide) (fun c188 => ?_) (fun c188 => ?_)
  · have c188 : f187_0 ≤ p := (nI_leI (a := f187_0) (b := p) (by omega) (by omega)).mp c188
    refine lv_iload_n hx hb dX7_countSongs_43 rfl (lv_at hl 1 rfl) ?_
    exact en_i hx hb hr hlocks hL rfl (Nat.zero_le _) (Nat.zero_le _) dX7_countSongs_44 (rfl)
  · have c188 : ¬ f187_0 ≤ p := fun h9 => c188 ((nI_leI (a := f187_0) (b := p) (by omega) (by omega)).mpr h9)
    refine lv_aload_n hx hb dX7_countSongs_15 rfl (lv_at hl 2 rfl) ?_
    refine lv_iload_n hx hb dX7_countSongs_16 rfl (lv_at hl 0 rfl) ?_
    refine cv_r (As := [.int (nI p)]) (rest := []) (b := w) ⟨hx, hb, hml, hown, hts⟩ (c_X7_at hT (w := w) hw (x := (nI p))) (cwV 1 hts gX7_countSongs_X7_at rfl rfl rfl hdX7_at_v ⟨Nat.le_of_ble_eq_true rfl, Nat.le_of_ble_eq_true rfl⟩) hN hE hL (rcv8 hN hT hw.1) rfl rfl hl.1 (Nat.le_of_ble_eq_true rfl) dX7_countSongs_17 (Nat.zero_le _) (Nat.zero_le _) (fun r189 H1 locs hL hqr189 => ?_)
    obtain ⟨h9, hqr189⟩ := hqr189; replace h9 := h9.symm; subst h9
    obtain ⟨hb190, e190, hat190, hk190⟩ := hT.o4 hqr189.1
    obtain ⟨f190_0, f190_1, f190_2, f190_3, f190_4, f190_5, f190_6, f190_7, f190_8, f190_9, rfl, c190_up⟩ := hk190
    have hP : va_P D vwCl [(r189, .inr (3, [.int f190_0, .int f190_1, .int f190_2, .int f190_3, .int f190_4, .int f190_5, .int f190_6, .int f190_7, .int f190_8, .int f190_9])), (f186_0, .inr (6, [.int (nI f187_0), .int f187_1, .int f187_2, f187_3, .ref f187_4, .ref f187_5, .ref f187_6, .ref f187_7])), (w, .inr (7, [.ref f186_0, .ref f186_1, .ref (cs (400 + i)), .ref (cs (420 + i)), .ref (cs (460 + i)), .ref f186_5, .long f186_6, .int f186_7, .int f186_8, .int f186_9, .int f186_10, .int f186_11, .int f186_12, .int f186_13, .int f186_14, .int f186_15]))] _ := va_P.cons hat190 hP
    refine va_getN (D := D) (ci := 3) (v := .int f190_0) (C := RX3) (T := TX3) (N := 10) hx hb hts iX7_countSongs_3 hown hN.1 hP 0 rfl rfl 0 (by decide) (hN.f 27 rfl) (fun _ h9 => h9) rfl dX7_countSongs_20 ?_
    refine lv_if_eq (tgt := 37) hx hb dX7_countSongs_23 (by decide) (fun c191 => ?_) (fun c191 => ?_)
    · refine lv_iinc (v := (nI (p + 1))) (lv' := [(2, .int (nI (p + 1))), (1, .int x), (0, .ref w)]) hx hb dX7_countSongs_37 hl (k := 0) rfl (nI_add _ 1) (by decide) rfl (fun ls hl => ?_)
      refine lv_goto (tgt := 4) hx hb dX7_countSongs_40 (by decide) ?_
      exact ih185 ((p + 1), x) _ _ (by show 8 - ((p + 1)) < 8 - p; omega) (by show ((p + 1)) ≤ 8; omega) hL (lv_sub hl [0, 1, 2] rfl)
    · refine lv_aload_n hx hb dX7_countSongs_26 rfl (lv_at hl 2 rfl) ?_
      refine lv_iload_n hx hb dX7_countSongs_27 rfl (lv_at hl 0 rfl) ?_
      refine cv_i (As := [.int (nI p)]) (rest := []) (b := w) ⟨hx, hb, hml, hown, hts⟩ (c_X7_isFirstWithItsSong hT (w := w) hw (n := p) (by first | omega | decide | assumption)) (cwV 1 hts gX7_countSongs_X7_isFirstWithItsSong rfl rfl rfl hdX7_isFirstWithItsSong_v ⟨Nat.le_of_ble_eq_true rfl, Nat.le_of_ble_eq_true rfl⟩) hN hE hL (rcv8 hN hT hw.1) rfl rfl hl.1 (Nat.le_of_ble_eq_true rfl) dX7_countSongs_28 (Nat.zero_le _) (Nat.zero_le _) (fun r192 H1 locs hL hqr192 => ?_)
      obtain ⟨h9, hqr192⟩ := hqr192; replace h9 := h9.symm; subst h9
      rcases hqr192 with rfl | rfl
      · refine lv_if_eq (tgt := 37) hx hb dX7_countSongs_31 (by decide) (fun _ => ?_) (fun c9 => absurd (by decide) c9)
        refine lv_iinc (v := (nI (p + 1))) (lv' := [(2, .int (nI (p + 1))), (1, .int x), (0, .ref w)]) hx hb dX7_countSongs_37 hl (k := 0) rfl (nI_add _ 1) (by decide) rfl (fun ls hl => ?_)
        refine lv_goto (tgt := 4) hx hb dX7_countSongs_40 (by decide) ?_
        exact ih185 ((p + 1), x) _ _ (by show 8 - ((p + 1)) < 8 - p; omega) (by show ((p + 1)) ≤ 8; omega) hL (lv_sub hl [0, 1, 2] rfl)
      · refine lv_if_eq (tgt := 37) hx hb dX7_countSongs_31 (by decide) (fun c9 => absurd c9 (by decide)) (fun _ => ?_)
        refine lv_iinc (v := (x + 1)) (lv' := [(1, .int (x + 1)), (2, .int (nI p)), (0, .ref w)]) hx hb dX7_countSongs_34 hl (k := 1) rfl (rfl) (by decide) rfl (fun ls hl => ?_)
        refine lv_iinc (v := (nI (p + 1))) (lv' := [(2, .int (nI (p + 1))), (1, .int (x + 1)), (0, .ref w)]) hx hb dX7_countSongs_37 hl (k := 1) rfl (nI_add _ 1) (by decide) rfl (fun ls hl => ?_)
        refine lv_goto (tgt := 4) hx hb dX7_countSongs_40 (by decide) ?_
        exact ih185 ((p + 1), (x + 1)) _ _ (by show 8 - ((p + 1)) < 8 - p; omega) (by show ((p + 1)) ≤ 8; omega) hL (lv_sub hl [0, 1, 2] rfl)
theorem mX7_greatestOpenDelay_1 : (.fieldLink RX7 52 "OneBeat$World" "setup" "LOneBeat$Setup;" : Cond) ∈ wsX7_greatestOpenDelay := List.mem_of_getElem? (i := 1) (by decide +kernel)
theorem iX7_greatestOpenDelay_7 : ∀ w ∈ wsX70, w ∈ wsX7_greatestOpenDelay := fun w h => List.mem_of_mem_drop (List.mem_of_mem_take ((show wsX70 = (wsX7_greatestOpenDelay.drop 26).take 16 by decide +kernel) ▸ h))
theorem iX7_greatestOpenDelay_6 : ∀ w ∈ wsX60, w ∈ wsX7_greatestOpenDelay := fun w h => List.mem_of_mem_drop (List.mem_of_mem_take ((show wsX60 = (wsX7_greatestOpenDelay.drop 42).take 8 by decide +kernel) ▸ h))
theorem hdX7_isCut_v : yX7_isCut.cls = RX7 ∧ yX7_isCut.cls ≠ "java/lang/invoke/MethodHandle" ∧ yX7_isCut.cls ≠ "java/lang/invoke/VarHandle" ∧ (parseMethodDescriptor yX7_isCut.desc).map (fun d => d.parameters.length) = some 2 := by decide +kernel
theorem hdX7_delay_v : yX7_delay.cls = RX7 ∧ yX7_delay.cls ≠ "java/lang/invoke/MethodHandle" ∧ yX7_delay.cls ≠ "java/lang/invoke/VarHandle" ∧ (parseMethodDescriptor yX7_delay.desc).map (fun d => d.parameters.length) = some 2 := by decide +kernel
theorem mX7_greatestOpenDelay_2 : (.methodLink RX7 147 Lib.Math.max.name : Cond) ∈ wsX7_greatestOpenDelay := List.mem_of_getElem? (i := 2) (by decide +kernel)
theorem mX7_greatestOpenDelay_3 : (.static Lib.Math.max.name : Cond) ∈ wsX7_greatestOpenDelay := List.mem_of_getElem? (i := 3) (by decide +kernel)
theorem mX7_greatestOpenDelay_4 : (.initialized "java/lang/Math" : Cond) ∈ wsX7_greatestOpenDelay := List.mem_of_getElem? (i := 4) (by decide +kernel)
theorem mX7_greatestOpenDelay_5 : (.code Lib.Math.max.name Lib.Math.max.code 2 (some .int) : Cond) ∈ wsX7_greatestOpenDelay := List.mem_of_getElem? (i := 5) (by decide +kernel)
set_option maxHeartbeats 4000000 in
set_option maxRecDepth 100000 in
theorem c_X7_greatestOpenDelay {l : Launch} {D : va_G} {cs : Nat → ClassId} {B0 T : Nat} {κ : KM} {H0 : Heap} (hT : WT B0 D cs T κ H0) {w i : Nat} (hw : T2 κ w 8 i) : KC l yX7_greatestOpenDelay wsX7_greatestOpenDelay 3 65 0 0 D cs B0 H0 [.ref w] (Qi (fun _ H => H = H0)) := by
  refine KC.of cX7_greatestOpenDelay 4 (some .int) (by decide) rfl (Nat.le_of_ble_eq_true rfl) ?_
  intro p e s m below meth c ls hx hb hr hml hown hts hlocks hin hN hE hH0 hl
  have hown : s.vm.findClass RX7 = some m.cls := hown
  have hl : lv_has ls 4 [(0, .ref w)] := hl
  have hL : OkL B0 [] := OkL.nil
  refine lv_iconst (v := 0) hx hb dX7_greatestOpenDelay_0 (by decide) ?_
  refine lv_istore_n (lv' := [(1, .int 0), (0, .ref w)]) hx hb dX7_greatestOpenDelay_1 rfl hl (by decide) rfl (fun ls hl => ?_)
  refine lv_iconst (v := 0) hx hb dX7_greatestOpenDelay_2 (by decide) ?_
  refine lv_istore_n (lv' := [(2, .int 0), (1, .int 0), (0, .ref w)]) hx hb dX7_greatestOpenDelay_3 rfl hl (by decide) rfl (fun ls hl => ?_)
  refine lp_r (B0 := B0) (α := Nat × Int32) (nL := 4) (fun a9 => 8 - a9.1) (fun a9 => (a9.1 ≤ 8)) (fun a9 => [(2, .int (nI a9.1)), (1, .int a9.2), (0, .ref w)]) ?_ (0, 0) _ _ (by show (0) ≤ 8; omega) hL (lv_sub hl [0, 1, 2] rfl)
  rintro ⟨p, x⟩ locs ls ih193 hp hL hl
  have hl : lv_has ls 4 [(2, .int (nI p)), (1, .int x), (0, .ref w)] := hl
  have hp : p ≤ 8 := hp
  refine lv_iload_n hx hb dX7_greatestOpenDelay_4 rfl (lv_at hl 0 rfl) ?_
  refine lv_aload_n hx hb dX7_greatestOpenDelay_5 rfl (lv_at hl 2 rfl) ?_
  obtain ⟨hb194, e194, hat194, hk194⟩ := hT.o8 hw.1
  obtain ⟨f194_0, f194_1, f194_2, f194_3, f194_4, f194_5, f194_6, f194_7, f194_8, f194_9, f194_10, f194_11, f194_12, f194_13, f194_14, f194_15, rfl, t194_0, c194_su, t194_1, t194_2, t194_3, t194_4, t194_5, c194_tm, c194_lt, c194_ml, c194_pr, c194_li⟩ := hk194
  rw [hw.2] at t194_1
  rw [hw.2] at t194_2
  rw [hw.2] at t194_3
  rw [hw.2] at t194_4
  rw [hw.2] at t194_5
  rw [hw.2] at c194_lt c194_ml c194_pr c194_li
  subst c194_ml
  subst c194_pr
  subst c194_li
  have hP : va_P D vwCl [(w, .inr (7, [.ref f194_0, .ref f194_1, .ref (cs (400 + i)), .ref (cs (420 + i)), .ref (cs (460 + i)), .ref f194_5, .long f194_6, .int f194_7, .int f194_8, .int f194_9, .int f194_10, .int f194_11, .int f194_12, .int f194_13, .int f194_14, .int f194_15]))] _ := va_P.cons hat194 va_P.nil
  refine va_get (D := D) (ci := 7) (v := .ref f194_0) (C := RX7) (T := TX7) (N := 16) hx hb hts iX7_greatestOpenDelay_7 hown hN.1 hP 0 rfl rfl 0 (by decide) (hts _ mX7_greatestOpenDelay_1) (fun _ h9 => h9) rfl dX7_greatestOpenDelay_6 ?_
  obtain ⟨hb195, e195, hat195, hk195⟩ := hT.o7 t194_0.1
  obtain ⟨f195_0, f195_1, f195_2, f195_3, f195_4, f195_5, f195_6, f195_7, rfl, c195_0, c195_3, c195_mg, t195_4, t195_5, t195_6, t195_7⟩ := hk195
  rw [t194_0.2] at t195_4
  rw [t194_0.2] at t195_5
  rw [t194_0.2] at t195_6
  rw [t194_0.2] at t195_7
  have hP : va_P D vwCl [(f194_0, .inr (6, [.int (nI f195_0), .int f195_1, .int f195_2, f195_3, .ref f195_4, .ref f195_5, .ref f195_6, .ref f195_7])), (w, .inr (7, [.ref f194_0, .ref f194_1, .ref (cs (400 + i)), .ref (cs (420 + i)), .ref (cs (460 + i)), .ref f194_5, .long f194_6, .int f194_7, .int f194_8, .int f194_9, .int f194_10, .int f194_11, .int f194_12, .int f194_13, .int f194_14, .int f194_15]))] _ := va_P.cons hat195 hP
  refine va_getN (D := D) (ci := 6) (v := .int (nI f195_0)) (C := RX6) (T := TX6) (N := 8) hx hb hts iX7_greatestOpenDelay_6 hown hN.1 hP 0 rfl rfl 0 (by decide) (hN.f 39 rfl) (fun _ h9 => h9) rfl dX7_greatestOpenDelay_9 ?_
  refine lv_icmp_ge (tgt := 60) hx hb dX7_greatestOpenDelay_12 (by decide) (fun c196 => ?_) (fun c196 => ?_)
  · have c196 : f195_0 ≤ p := (nI_leI (a := f195_0) (b := p) (by omega) (by omega)).mp c196
    refine lv_iload_n hx hb dX7_greatestOpenDelay_60 rfl (lv_at hl 1 rfl) ?_
    exact en_i hx hb hr hlocks hL rfl (Nat.zero_le _) (Nat.zero_le _) dX7_greatestOpenDelay_61 (rfl)
  · have c196 : ¬ f195_0 ≤ p := fun h9 => c196 ((nI_leI (a := f195_0) (b := p) (by omega) (by omega)).mpr h9)
    refine lv_iconst (v := 0) hx hb dX7_greatestOpenDelay_15 (by decide) ?_
    refine lv_istore_n (lv' := [(3, .int 0), (2, .int (nI p)), (1, .int x), (0, .ref w)]) hx hb dX7_greatestOpenDelay_16 rfl hl (by decide) rfl (fun ls hl => ?_)
    refine lp_r (B0 := B0) (α := Nat × Int32) (nL := 4) (fun a9 => 8 - a9.1) (fun a9 => (a9.1 ≤ 8)) (fun a9 => [(3, .int (nI a9.1)), (1, .int a9.2), (0, .ref w), (2, .int (nI p))]) ?_ (0, x) _ _ (by show (0) ≤ 8; omega) hL (lv_sub hl [0, 2, 3, 1] rfl)
    rintro ⟨q, y⟩ locs ls ih197 hq hL hl
    have hl : lv_has ls 4 [(3, .int (nI q)), (1, .int y), (0, .ref w), (2, .int (nI p))] := hl
    have hq : q ≤ 8 := hq
    refine lv_iload_n hx hb dX7_greatestOpenDelay_17 rfl (lv_at hl 0 rfl) ?_
    refine lv_aload_n hx hb dX7_greatestOpenDelay_18 rfl (lv_at hl 2 rfl) ?_
    refine va_get (D := D) (ci := 7) (v := .ref f194_0) (C := RX7) (T := TX7) (N := 16) hx hb hts iX7_greatestOpenDelay_7 hown hN.1 hP 1 rfl rfl 0 (by decide) (hts _ mX7_greatestOpenDelay_1) (fun _ h9 => h9) rfl dX7_greatestOpenDelay_19 ?_
    refine va_getN (D := D) (ci := 6) (v := .int (nI f195_0)) (C := RX6) (T := TX6) (N := 8) hx hb hts iX7_greatestOpenDelay_6 hown hN.1 hP 0 rfl rfl 0 (by decide) (hN.f 39 rfl) (fun _ h9 => h9) rfl dX7_greatestOpenDelay_22 ?_
    refine lv_icmp_ge (tgt := 54) hx hb dX7_greatestOpenDelay_25 (by decide) (fun c198 => ?_) (fun c198 => ?_)
    · have c198 : f195_0 ≤ q := (nI_leI (a := f195_0) (b := q) (by omega) (by omega)).mp c198
      refine lv_iinc (v := (nI (p + 1))) (lv' := [(2, .int (nI (p + 1))), (3, .int (nI q)), (1, .int y), (0, .ref w)]) hx hb dX7_greatestOpenDelay_54 hl (k := 3) rfl (nI_add _ 1) (by decide) rfl (fun ls hl => ?_)
      refine lv_goto (tgt := 4) hx hb dX7_greatestOpenDelay_57 (by decide) ?_
      exact ih193 ((p + 1), y) _ _ (by show 8 - ((p + 1)) < 8 - p; omega) (by show ((p + 1)) ≤ 8; omega) hL (lv_sub hl [0, 2, 3] rfl)
    · have c198 : ¬ f195_0 ≤ q := fun h9 => c198 ((nI_leI (a := f195_0) (b := q) (by omega) (by omega)).mpr h9)
      refine lv_aload_n hx hb dX7_greatestOpenDelay_28 rfl (lv_at hl 2 rfl) ?_
      refine lv_iload_n hx hb dX7_greatestOpenDelay_29 rfl (lv_at hl 3 rfl) ?_
      refine lv_iload_n hx hb dX7_greatestOpenDelay_30 rfl (lv_at hl 0 rfl) ?_
      refine cv_i (As := [.int (nI p), .int (nI q)]) (rest := []) (b := w) ⟨hx, hb, hml, hown, hts⟩ (c_X7_isCut hT (w := w) hw (x := (nI p)) (y := (nI q))) (cwV 2 hts gX7_greatestOpenDelay_X7_isCut rfl rfl rfl hdX7_isCut_v ⟨Nat.le_of_ble_eq_true rfl, Nat.le_of_ble_eq_true rfl⟩) hN hE hL (rcv8 hN hT hw.1) rfl rfl hl.1 (Nat.le_of_ble_eq_true rfl) dX7_greatestOpenDelay_31 (Nat.zero_le _) (Nat.zero_le _) (fun r199 H1 locs hL hqr199 => ?_)
      obtain ⟨h9, hqr199⟩ := hqr199; replace h9 := h9.symm; subst h9
      rcases hqr199 with rfl | rfl
      · refine lv_if_ne (tgt := 48) hx hb dX7_greatestOpenDelay_34 (by decide) (fun c9 => absurd (by decide) c9) (fun _ => ?_)
        refine lv_iload_n hx hb dX7_greatestOpenDelay_37 rfl (lv_at hl 1 rfl) ?_
        refine lv_aload_n hx hb dX7_greatestOpenDelay_38 rfl (lv_at hl 2 rfl) ?_
        refine lv_iload_n hx hb dX7_greatestOpenDelay_39 rfl (lv_at hl 3 rfl) ?_
        refine lv_iload_n hx hb dX7_greatestOpenDelay_40 rfl (lv_at hl 0 rfl) ?_
        refine cv_i (As := [.int (nI p), .int (nI q)]) (rest := [.int y]) (b := w) ⟨hx, hb, hml, hown, hts⟩ (c_X7_delay hT (w := w) hw (x := (nI p)) (y := (nI q))) (cwV 2 hts gX7_greatestOpenDelay_X7_delay rfl rfl rfl hdX7_delay_v ⟨Nat.le_of_ble_eq_true rfl, Nat.le_of_ble_eq_true rfl⟩) hN hE hL (rcv8 hN hT hw.1) rfl rfl hl.1 (Nat.le_of_ble_eq_true rfl) dX7_greatestOpenDelay_41 (Nat.zero_le _) (Nat.zero_le _) (fun r200 H1 locs hL hqr200 => ?_)
        obtain ⟨h9, hqr200⟩ := hqr200; replace h9 := h9.symm; subst h9
        obtain ⟨n201, h202, rfl⟩ := hqr200
        refine va_mmax hx hb (hml.trans hl.1.symm) hown (hts _ mX7_greatestOpenDelay_2) (hts _ mX7_greatestOpenDelay_3) (hts _ mX7_greatestOpenDelay_4) (hts _ mX7_greatestOpenDelay_5) (Nat.le_of_ble_eq_true rfl) (Nat.le_of_ble_eq_true rfl) (Nat.zero_le _) (Nat.zero_le _) dX7_greatestOpenDelay_44 ?_
        refine gn_i (fun x203 => ?_)
        refine lv_istore_n (lv' := [(1, .int x203), (3, .int (nI q)), (0, .ref w), (2, .int (nI p))]) hx hb dX7_greatestOpenDelay_47 rfl hl (by decide) rfl (fun ls hl => ?_)
        refine lv_iinc (v := (nI (q + 1))) (lv' := [(3, .int (nI (q + 1))), (1, .int x203), (0, .ref w), (2, .int (nI p))]) hx hb dX7_greatestOpenDelay_48 hl (k := 1) rfl (nI_add _ 1) (by decide) rfl (fun ls hl => ?_)
        refine lv_goto (tgt := 17) hx hb dX7_greatestOpenDelay_51 (by decide) ?_
        exact ih197 ((q + 1), x203) _ _ (by show 8 - ((q + 1)) < 8 - q; omega) (by show ((q + 1)) ≤ 8; omega) hL (lv_sub hl [0, 1, 2, 3] rfl)
      · refine lv_if_ne (tgt := 48) hx hb dX7_greatestOpenDelay_34 (by decide) (fun _ => ?_) (fun c9 => absurd c9 (by decide))
        refine lv_iinc (v := (nI (q + 1))) (lv' := [(3, .int (nI (q + 1))), (1, .int y), (0, .ref w), (2, .int (nI p))]) hx hb dX7_greatestOpenDelay_48 hl (k := 0) rfl (nI_add _ 1) (by decide) rfl (fun ls hl => ?_)
        refine lv_goto (tgt := 17) hx hb dX7_greatestOpenDelay_51 (by decide) ?_
        exact ih197 ((q + 1), y) _ _ (by show 8 - ((q + 1)) < 8 - q; omega) (by show ((q + 1)) ≤ 8; omega) hL (lv_sub hl [0, 1, 2, 3] rfl)
theorem mX7_margin_1 : (.fieldLink RX7 52 "OneBeat$World" "setup" "LOneBeat$Setup;" : Cond) ∈ wsX7_margin := List.mem_of_getElem? (i := 1) (by decide +kernel)
theorem iX7_margin_7 : ∀ w ∈ wsX70, w ∈ wsX7_margin := fun w h => List.mem_of_mem_drop (List.mem_of_mem_take ((show wsX70 = (wsX7_margin.drop 63).take 16 by decide +kernel) ▸ h))
theorem iX7_margin_6 : ∀ w ∈ wsX60, w ∈ wsX7_margin := fun w h => List.mem_of_mem_drop (List.mem_of_mem_take ((show wsX60 = (wsX7_margin.drop 79).take 8 by decide +kernel) ▸ h))
theorem hdX7_greatestOpenDelay_v : yX7_greatestOpenDelay.cls = RX7 ∧ yX7_greatestOpenDelay.cls ≠ "java/lang/invoke/MethodHandle" ∧ yX7_greatestOpenDelay.cls ≠ "java/lang/invoke/VarHandle" ∧ (parseMethodDescriptor yX7_greatestOpenDelay.desc).map (fun d => d.parameters.length) = some 0 := by decide +kernel
theorem hdX7_countUp_v : yX7_countUp.cls = RX7 ∧ yX7_countUp.cls ≠ "java/lang/invoke/MethodHandle" ∧ yX7_countUp.cls ≠ "java/lang/invoke/VarHandle" ∧ (parseMethodDescriptor yX7_countUp.desc).map (fun d => d.parameters.length) = some 0 := by decide +kernel
theorem hdX0_value_v : yX0_value.cls = RX0 ∧ yX0_value.cls ≠ "java/lang/invoke/MethodHandle" ∧ yX0_value.cls ≠ "java/lang/invoke/VarHandle" ∧ (parseMethodDescriptor yX0_value.desc).map (fun d => d.parameters.length) = some 4 := by decide +kernel
theorem mX7_margin_2 : (.methodLink RX7 169 Lib.Math.min.name : Cond) ∈ wsX7_margin := List.mem_of_getElem? (i := 2) (by decide +kernel)
theorem mX7_margin_3 : (.static Lib.Math.min.name : Cond) ∈ wsX7_margin := List.mem_of_getElem? (i := 3) (by decide +kernel)
theorem mX7_margin_4 : (.initialized "java/lang/Math" : Cond) ∈ wsX7_margin := List.mem_of_getElem? (i := 4) (by decide +kernel)
theorem mX7_margin_5 : (.code Lib.Math.min.name Lib.Math.min.code 2 (some .int) : Cond) ∈ wsX7_margin := List.mem_of_getElem? (i := 5) (by decide +kernel)
theorem mX7_margin_6 : (.methodLink RX7 147 Lib.Math.max.name : Cond) ∈ wsX7_margin := List.mem_of_getElem? (i := 6) (by decide +kernel)
theorem mX7_margin_7 : (.static Lib.Math.max.name : Cond) ∈ wsX7_margin := List.mem_of_getElem? (i := 7) (by decide +kernel)
theorem mX7_margin_8 : (.code Lib.Math.max.name Lib.Math.max.code 2 (some .int) : Cond) ∈ wsX7_margin := List.mem_of_getElem? (i := 8) (by decide +kernel)
set_option maxHeartbeats 4000000 in
set_option maxRecDepth 100000 in
theorem c_X7_margin {l : Launch} {D : va_G} {cs : Nat → ClassId} {B0 T : Nat} {κ : KM} {H0 : Heap} (hT : WT B0 D cs T κ H0) {w i : Nat} (hw : T2 κ w 8 i) {x : Int32} : KC l yX7_margin wsX7_margin 4 91 0 0 D cs B0 H0 [.ref w, .int x] (Qi (fun _ H => WT B0 D cs T κ H ∧ Fr B0 [16] κ H0 H)) := by
  refine KC.of cX7_margin 5 (some .int) (by decide) rfl (Nat.le_of_ble_eq_true rfl) ?_
  intro p e s m below meth c ls hx hb hr hml hown hts hlocks hin hN hE hH0 hl
  have hown : s.vm.findClass RX7 = some m.cls := hown
  have hl : lv_has ls 5 [(0, .ref w), (1, .int x)] := hl
  have hL : OkL B0 [] := OkL.nil
  have hF : Fr B0 [16] κ H0 H0 := Fr.rf
  refine lv_aload_n hx hb dX7_margin_0 rfl (lv_at hl 0 rfl) ?_
  obtain ⟨hb204, e204, hat204, hk204⟩ := hT.o8 hw.1
  obtain ⟨f204_0, f204_1, f204_2, f204_3, f204_4, f204_5, f204_6, f204_7, f204_8, f204_9, f204_10, f204_11, f204_12, f204_13, f204_14, f204_15, rfl, t204_0, c204_su, t204_1, t204_2, t204_3, t204_4, t204_5, c204_tm, c204_lt, c204_ml, c204_pr, c204_li⟩ := hk204
  rw [hw.2] at t204_1
  rw [hw.2] at t204_2
  rw [hw.2] at t204_3
  rw [hw.2] at t204_4
  rw [hw.2] at t204_5
  rw [hw.2] at c204_lt c204_ml c204_pr c204_li
  subst c204_ml
  subst c204_pr
  subst c204_li
  have hP : va_P D vwCl [(w, .inr (7, [.ref f204_0, .ref f204_1, .ref (cs (400 + i)), .ref (cs (420 + i)), .ref (cs (460 + i)), .ref f204_5, .long f204_6, .int f204_7, .int f204_8, .int f204_9, .int f204_10, .int f204_11, .int f204_12, .int f204_13, .int f204_14, .int f204_15]))] _ := va_P.cons hat204 va_P.nil
  refine va_get (D := D) (ci := 7) (v := .ref f204_0) (C := RX7) (T := TX7) (N := 16) hx hb hts iX7_margin_7 hown hN.1 hP 0 rfl rfl 0 (by decide) (hts _ mX7_margin_1) (fun _ h9 => h9) rfl dX7_margin_1 ?_
  obtain ⟨hb205, e205, hat205, hk205⟩ := hT.o7 t204_0.1
  obtain ⟨f205_0, f205_1, f205_2, f205_3, f205_4, f205_5, f205_6, f205_7, rfl, c205_0, c205_3, c205_mg, t205_4, t205_5, t205_6, t205_7⟩ := hk205
  rw [t204_0.2] at t205_4
  rw [t204_0.2] at t205_5
  rw [t204_0.2] at t205_6
  rw [t204_0.2] at t205_7
  have hP : va_P D vwCl [(f204_0, .inr (6, [.int (nI f205_0), .int f205_1, .int f205_2, f205_3, .ref f205_4, .ref f205_5, .ref f205_6, .ref f205_7])), (w, .inr (7, [.ref f204_0, .ref f204_1, .ref (cs (400 + i)), .ref (cs (420 + i)), .ref (cs (460 + i)), .ref f204_5, .long f204_6, .int f204_7, .int f204_8, .int f204_9, .int f204_10, .int f204_11, .int f204_12, .int f204_13, .int f204_14, .int f204_15]))] _ := va_P.cons hat205 hP
  rcases c205_3 with rfl | ⟨a206, rfl, ta206⟩
  · refine va_getN (D := D) (ci := 6) (v := .null) (C := RX6) (T := TX6) (N := 8) hx hb hts iX7_margin_6 hown hN.1 hP 0 rfl rfl 3 (by decide) (hN.f 45 rfl) (fun _ h9 => h9) rfl dX7_margin_4 ?_
    refine lv_astore_nN (lv' := [(2, .null), (0, .ref w), (1, .int x)]) hx hb dX7_margin_7 rfl hl (by decide) rfl (fun ls hl => ?_)
    refine lv_aload_n hx hb dX7_margin_8 rfl (lv_at hl 1 rfl) ?_
    refine cv_i (As := []) (rest := []) (b := w) ⟨hx, hb, hml, hown, hts⟩ (c_X7_greatestOpenDelay hT (w := w) hw) (cwV 0 hts gX7_margin_X7_greatestOpenDelay rfl rfl rfl hdX7_greatestOpenDelay_v ⟨Nat.le_of_ble_eq_true rfl, Nat.le_of_ble_eq_true rfl⟩) hN hE hL (rcv8 hN hT hw.1) rfl rfl hl.1 (Nat.le_of_ble_eq_true rfl) dX7_margin_9 (Nat.zero_le _) (Nat.zero_le _) (fun r207 H1 locs hL hqr207 => ?_)
    obtain rfl := hqr207.symm
    refine lv_istore_n (lv' := [(3, .int r207), (2, .null), (0, .ref w), (1, .int x)]) hx hb dX7_margin_12 rfl hl (by decide) rfl (fun ls hl => ?_)
    refine lv_aload_nN hx hb dX7_margin_13 rfl (lv_at hl 1 rfl) ?_
    refine lv_ifnonnullN hx hb dX7_margin_14 ?_
    refine lv_iconst (v := 2) hx hb dX7_margin_17 (by decide) ?_
    refine lv_iload_n hx hb dX7_margin_18 rfl (lv_at hl 0 rfl) ?_
    refine lv_imul hx hb dX7_margin_19 ?_
    refine gn_i (fun x208 => ?_)
    refine lv_iconst (v := 1) hx hb dX7_margin_20 (by decide) ?_
    refine lv_iadd hx hb dX7_margin_21 ?_
    refine gn_i (fun x209 => ?_)
    exact en_i hx hb hr hlocks hL rfl (Nat.zero_le _) (Nat.zero_le _) dX7_margin_22 (⟨hT, hF⟩)
  · refine va_getN (D := D) (ci := 6) (v := .ref a206) (C := RX6) (T := TX6) (N := 8) hx hb hts iX7_margin_6 hown hN.1 hP 0 rfl rfl 3 (by decide) (hN.f 45 rfl) (fun _ h9 => h9) rfl dX7_margin_4 ?_
    refine lv_astore_n (lv' := [(2, .ref a206), (0, .ref w), (1, .int x)]) hx hb dX7_margin_7 rfl hl (by decide) rfl (fun ls hl => ?_)
    refine lv_aload_n hx hb dX7_margin_8 rfl (lv_at hl 1 rfl) ?_
    refine cv_i (As := []) (rest := []) (b := w) ⟨hx, hb, hml, hown, hts⟩ (c_X7_greatestOpenDelay hT (w := w) hw) (cwV 0 hts gX7_margin_X7_greatestOpenDelay rfl rfl rfl hdX7_greatestOpenDelay_v ⟨Nat.le_of_ble_eq_true rfl, Nat.le_of_ble_eq_true rfl⟩) hN hE hL (rcv8 hN hT hw.1) rfl rfl hl.1 (Nat.le_of_ble_eq_true rfl) dX7_margin_9 (Nat.zero_le _) (Nat.zero_le _) (fun r210 H1 locs hL hqr210 => ?_)
    obtain rfl := hqr210.symm
    refine lv_istore_n (lv' := [(3, .int r210), (2, .ref a206), (0, .ref w), (1, .int x)]) hx hb dX7_margin_12 rfl hl (by decide) rfl (fun ls hl => ?_)
    refine lv_aload_n hx hb dX7_margin_13 rfl (lv_at hl 1 rfl) ?_
    refine lv_ifnonnull (tgt := 23) hx hb dX7_margin_14 (by decide) ?_
    refine lv_aload_n hx hb dX7_margin_23 rfl (lv_at hl 1 rfl) ?_
    refine lv_aload_n hx hb dX7_margin_24 rfl (lv_at hl 2 rfl) ?_
    refine va_get (D := D) (ci := 7) (v := .ref f204_0) (C := RX7) (T := TX7) (N := 16) hx hb hts iX7_margin_7 hown hN.1 hP 1 rfl rfl 0 (by decide) (hts _ mX7_margin_1) (fun _ h9 => h9) rfl dX7_margin_25 ?_
    refine va_getN (D := D) (ci := 6) (v := .int (nI f205_0)) (C := RX6) (T := TX6) (N := 8) hx hb hts iX7_margin_6 hown hN.1 hP 0 rfl rfl 0 (by decide) (hN.f 39 rfl) (fun _ h9 => h9) rfl dX7_margin_28 ?_
    refine lv_iload_n hx hb dX7_margin_31 rfl (lv_at hl 0 rfl) ?_
    refine lv_aload_n hx hb dX7_margin_32 rfl (lv_at hl 2 rfl) ?_
    refine cv_i (As := []) (rest := [.int r210, .int (nI f205_0), .ref a206]) (b := w) ⟨hx, hb, hml, hown, hts⟩ (c_X7_countUp hT (w := w) hw) (cwV 0 hts gX7_margin_X7_countUp rfl rfl rfl hdX7_countUp_v ⟨Nat.le_of_ble_eq_true rfl, Nat.le_of_ble_eq_true rfl⟩) hN hE hL (rcv8 hN hT hw.1) rfl rfl hl.1 (Nat.le_of_ble_eq_true rfl) dX7_margin_33 (Nat.zero_le _) (Nat.zero_le _) (fun r211 H1 locs hL hqr211 => ?_)
    obtain rfl := hqr211.symm
    refine lv_iload_n hx hb dX7_margin_36 rfl (lv_at hl 3 rfl) ?_
    refine cv_i (As := [.int (nI f205_0), .int r210, .int r211, .int x]) (rest := []) (b := a206) ⟨hx, hb, hml, hown, hts⟩ (c_X0_value hT (w := a206) ta206 (x := (nI f205_0)) (y := r210) (z := r211) (u := x)) (cwV 4 hts gX7_margin_X0_value rfl rfl rfl hdX0_value_v ⟨Nat.le_of_ble_eq_true rfl, Nat.le_of_ble_eq_true rfl⟩) hN hE hL (rcv1 hN hT ta206.1) rfl rfl hl.1 (Nat.le_of_ble_eq_true rfl) dX7_margin_37 (Nat.zero_le _) (Nat.zero_le _) (fun r212 H1 locs hL hqr212 => ?_)
    obtain ⟨hT1, hF1⟩ := hqr212
    have hP : va_P D vwCl [(f204_0, .inr (6, [.int (nI f205_0), .int f205_1, .int f205_2, .ref a206, .ref f205_4, .ref f205_5, .ref f205_6, .ref f205_7])), (w, .inr (7, [.ref f204_0, .ref f204_1, .ref (cs (400 + i)), .ref (cs (420 + i)), .ref (cs (460 + i)), .ref f204_5, .long f204_6, .int f204_7, .int f204_8, .int f204_9, .int f204_10, .int f204_11, .int f204_12, .int f204_13, .int f204_14, .int f204_15]))] _ := hF1.hP (hP.sub [0, 1] rfl) (fa_c ⟨by rw [t204_0.1]; decide, by rw [t204_0.2]; first | decide | (simp; done) | (simp [h15a, h15b, h15c]; done) | (simp; omega)⟩ (fa_c ⟨by rw [hw.1]; decide, by rw [hw.2]; first | decide | (simp; done) | (simp [h15a, h15b, h15c]; done) | (simp; omega)⟩ fa_n))
    have hF := hF.tr (hF1.mono (by simp))
    have hT := hT1
    refine lv_istore (lv' := [(4, .int r212), (3, .int r210), (2, .ref a206), (0, .ref w), (1, .int x)]) hx hb dX7_margin_40 hl (by decide) rfl (fun ls hl => ?_)
    refine lv_iconst (v := 1) hx hb dX7_margin_42 (by decide) ?_
    refine lv_sipush (v := 1000) hx hb dX7_margin_43 (by decide) ?_
    refine lv_iload hx hb dX7_margin_46 (lv_at hl 0 rfl) ?_
    refine va_mmin hx hb (hml.trans hl.1.symm) hown (hts _ mX7_margin_2) (hts _ mX7_margin_3) (hts _ mX7_margin_4) (hts _ mX7_margin_5) (Nat.le_of_ble_eq_true rfl) (Nat.le_of_ble_eq_true rfl) (Nat.zero_le _) (Nat.zero_le _) dX7_margin_48 ?_
    refine gn_i (fun x213 => ?_)
    refine va_mmax hx hb (hml.trans hl.1.symm) hown (hts _ mX7_margin_6) (hts _ mX7_margin_7) (hts _ mX7_margin_4) (hts _ mX7_margin_8) (Nat.le_of_ble_eq_true rfl) (Nat.le_of_ble_eq_true rfl) (Nat.zero_le _) (Nat.zero_le _) dX7_margin_51 ?_
    refine gn_i (fun x214 => ?_)
    exact en_i hx hb hr hlocks hL rfl (Nat.zero_le _) (Nat.zero_le _) dX7_margin_54 (⟨hT, hF⟩)
theorem hdX7_margin_v : yX7_margin.cls = RX7 ∧ yX7_margin.cls ≠ "java/lang/invoke/MethodHandle" ∧ yX7_margin.cls ≠ "java/lang/invoke/VarHandle" ∧ (parseMethodDescriptor yX7_margin.desc).map (fun d => d.parameters.length) = some 1 := by decide +kernel
theorem sw_0_11 {x : Int32} (h : ¬ (x.toInt < (0 : Int) ∨ (11 : Int) < x.toInt)) : x = 0 ∨ x = 1 ∨ x = 2 ∨ x = 3 ∨ x = 4 ∨ x = 5 ∨ x = 6 ∨ x = 7 ∨ x = 8 ∨ x = 9 ∨ x = 10 ∨ x = 11 := by
  have h2 : x.toInt = (0 : Int) ∨ x.toInt = (1 : Int) ∨ x.toInt = (2 : Int) ∨ x.toInt = (3 : Int) ∨ x.toInt = (4 : Int) ∨ x.toInt = (5 : Int) ∨ x.toInt = (6 : Int) ∨ x.toInt = (7 : Int) ∨ x.toInt = (8 : Int) ∨ x.toInt = (9 : Int) ∨ x.toInt = (10 : Int) ∨ x.toInt = (11 : Int) := by omega
  rcases h2 with h2 | h2 | h2 | h2 | h2 | h2 | h2 | h2 | h2 | h2 | h2 | h2
  · exact Or.inl (Int32.toInt_inj.mp (h2.trans (by decide)))
  · exact Or.inr (Or.inl (Int32.toInt_inj.mp (h2.trans (by decide))))
  · exact Or.inr (Or.inr (Or.inl (Int32.toInt_inj.mp (h2.trans (by decide)))))
  · exact Or.inr (Or.inr (Or.inr (Or.inl (Int32.toInt_inj.mp (h2.trans (by decide))))))
  · exact Or.inr (Or.inr (Or.inr (Or.inr (Or.inl (Int32.toInt_inj.mp (h2.trans (by decide)))))))
  · exact Or.inr (Or.inr (Or.inr (Or.inr (Or.inr (Or.inl (Int32.toInt_inj.mp (h2.trans (by decide))))))))
  · exact Or.inr (Or.inr (Or.inr (Or.inr (Or.inr (Or.inr (Or.inl (Int32.toInt_inj.mp (h2.trans (by decide)))))))))
  · exact Or.inr (Or.inr (Or.inr (Or.inr (Or.inr (Or.inr (Or.inr (Or.inl (Int32.toInt_inj.mp (h2.trans (by decide))))))))))
  · exact Or.inr (Or.inr (Or.inr (Or.inr (Or.inr (Or.inr (Or.inr (Or.inr (Or.inl (Int32.toInt_inj.mp (h2.trans (by decide)))))))))))
  · exact Or.inr (Or.inr (Or.inr (Or.inr (Or.inr (Or.inr (Or.inr (Or.inr (Or.inr (Or.inl (Int32.toInt_inj.mp (h2.trans (by decide))))))))))))
  · exact Or.inr (Or.inr (Or.inr (Or.inr (Or.inr (Or.inr (Or.inr (Or.inr (Or.inr (Or.inr (Or.inl (Int32.toInt_inj.mp (h2.trans (by decide)))))))))))))
  · exact Or.inr (Or.inr (Or.inr (Or.inr (Or.inr (Or.inr (Or.inr (Or.inr (Or.inr (Or.inr (Or.inr ((Int32.toInt_inj.mp (h2.trans (by decide))))))))))))))
theorem mX7_count_1 : (.fieldLink RX7 52 "OneBeat$World" "setup" "LOneBeat$Setup;" : Cond) ∈ wsX7_count := List.mem_of_getElem? (i := 1) (by decide +kernel)
theorem iX7_count_7 : ∀ w ∈ wsX70, w ∈ wsX7_count := fun w h => List.mem_of_mem_drop (List.mem_of_mem_take ((show wsX70 = (wsX7_count.drop 85).take 16 by decide +kernel) ▸ h))
theorem iX7_count_6 : ∀ w ∈ wsX60, w ∈ wsX7_count := fun w h => List.mem_of_mem_drop (List.mem_of_mem_take ((show wsX60 = (wsX7_count.drop 101).take 8 by decide +kernel) ▸ h))
theorem mX7_count_2 : (.fieldLink RX7 64 "OneBeat$World" "time" "I" : Cond) ∈ wsX7_count := List.mem_of_getElem? (i := 2) (by decide +kernel)
theorem mX7_count_3 : (.fieldLink RX7 68 "OneBeat$World" "conductor" "I" : Cond) ∈ wsX7_count := List.mem_of_getElem? (i := 3) (by decide +kernel)
theorem mX7_count_4 : (.fieldLink RX7 20 "OneBeat$World" "mail" "LOneBeat$Mail;" : Cond) ∈ wsX7_count := List.mem_of_getElem? (i := 4) (by decide +kernel)
theorem iX7_count_2 : ∀ w ∈ wsX20, w ∈ wsX7_count := fun w h => List.mem_of_mem_drop (List.mem_of_mem_take ((show wsX20 = (wsX7_count.drop 109).take 3 by decide +kernel) ▸ h))
theorem mX7_count_5 : (.fieldLink RX7 71 "OneBeat$World" "sent" "I" : Cond) ∈ wsX7_count := List.mem_of_getElem? (i := 5) (by decide +kernel)
theorem mX7_count_6 : (.fieldLink RX7 74 "OneBeat$World" "lost" "I" : Cond) ∈ wsX7_count := List.mem_of_getElem? (i := 6) (by decide +kernel)
theorem mX7_count_7 : (.fieldLink RX7 77 "OneBeat$World" "made" "I" : Cond) ∈ wsX7_count := List.mem_of_getElem? (i := 7) (by decide +kernel)
theorem mX7_count_8 : (.fieldLink RX7 80 "OneBeat$World" "committed" "I" : Cond) ∈ wsX7_count := List.mem_of_getElem? (i := 8) (by decide +kernel)
theorem mX7_count_9 : (.fieldLink RX7 83 "OneBeat$World" "givenUp" "I" : Cond) ∈ wsX7_count := List.mem_of_getElem? (i := 9) (by decide +kernel)
theorem hdX7_countSongs_v : yX7_countSongs.cls = RX7 ∧ yX7_countSongs.cls ≠ "java/lang/invoke/MethodHandle" ∧ yX7_countSongs.cls ≠ "java/lang/invoke/VarHandle" ∧ (parseMethodDescriptor yX7_countSongs.desc).map (fun d => d.parameters.length) = some 0 := by decide +kernel
theorem mX7_count_10 : (.fieldLink RX7 86 "OneBeat$World" "changes" "I" : Cond) ∈ wsX7_count := List.mem_of_getElem? (i := 10) (by decide +kernel)
theorem mX7_count_11 : (.fieldLink RX7 89 "OneBeat$World" "late" "I" : Cond) ∈ wsX7_count := List.mem_of_getElem? (i := 11) (by decide +kernel)
set_option maxHeartbeats 4000000 in
set_option maxRecDepth 100000 in
theorem c_X7_count {l : Launch} {D : va_G} {cs : Nat → ClassId} {B0 T : Nat} {κ : KM} {H0 : Heap} (hT : WT B0 D cs T κ H0) {w i : Nat} (hw : T2 κ w 8 i) {x : Int32} : KC l yX7_count wsX7_count 5 115 0 0 D cs B0 H0 [.ref w, .int x] (Qi (fun _ H => WT B0 D cs T κ H ∧ Fr B0 [16] κ H0 H)) := by
  refine KC.of cX7_count 2 (some .int) (by decide) rfl (Nat.le_of_ble_eq_true rfl) ?_
  intro p e s m below meth c ls hx hb hr hml hown hts hlocks hin hN hE hH0 hl
  have hown : s.vm.findClass RX7 = some m.cls := hown
  have hl : lv_has ls 2 [(0, .ref w), (1, .int x)] := hl
  have hL : OkL B0 [] := OkL.nil
  have hF : Fr B0 [16] κ H0 H0 := Fr.rf
  refine lv_iload_n hx hb dX7_count_0 rfl (lv_at hl 1 rfl) ?_
  by_cases c215 : (x : Int32).toInt < (0 : Int) ∨ (11 : Int) < (x : Int32).toInt
  · refine lv_tableOut (tgt := 130) hx hb dX7_count_1 c215 (by decide) ?_
    refine lv_aload_n hx hb dX7_count_130 rfl (lv_at hl 0 rfl) ?_
    refine lv_iconst (v := 1) hx hb dX7_count_131 (by decide) ?_
    refine cv_i (As := [.int 1]) (rest := []) (b := w) ⟨hx, hb, hml, hown, hts⟩ (c_X7_margin hT (w := w) hw (x := 1)) (cwV 1 hts gX7_count_X7_margin rfl rfl rfl hdX7_margin_v ⟨Nat.le_of_ble_eq_true rfl, Nat.le_of_ble_eq_true rfl⟩) hN hE hL (rcv8 hN hT hw.1) rfl rfl hl.1 (Nat.le_of_ble_eq_true rfl) dX7_count_132 (Nat.zero_le _) (Nat.zero_le _) (fun r216 H1 locs hL hqr216 => ?_)
    obtain ⟨hT1, hF1⟩ := hqr216
    have hF := hF.tr (hF1.mono (by simp))
    have hT := hT1
    exact en_i hx hb hr hlocks hL rfl (Nat.zero_le _) (Nat.zero_le _) dX7_count_135 (⟨hT, hF⟩)
  · rcases sw_0_11 c215 with rfl | rfl | rfl | rfl | rfl | rfl | rfl | rfl | rfl | rfl | rfl | rfl
    · refine lv_tableIn (tgt := 64) (off := 63) hx hb dX7_count_1 (by decide) (by decide) (by decide) (by decide) ?_
      refine lv_aload_n hx hb dX7_count_64 rfl (lv_at hl 0 rfl) ?_
      obtain ⟨hb217, e217, hat217, hk217⟩ := hT.o8 hw.1
      obtain ⟨f217_0, f217_1, f217_2, f217_3, f217_4, f217_5, f217_6, f217_7, f217_8, f217_9, f217_10, f217_11, f217_12, f217_13, f217_14, f217_15, rfl, t217_0, c217_su, t217_1, t217_2, t217_3, t217_4, t217_5, c217_tm, c217_lt, c217_ml, c217_pr, c217_li⟩ := hk217
      rw [hw.2] at t217_1
      rw [hw.2] at t217_2
      rw [hw.2] at t217_3
      rw [hw.2] at t217_4
      rw [hw.2] at t217_5
      rw [hw.2] at c217_lt c217_ml c217_pr c217_li
      subst c217_ml
      subst c217_pr
      subst c217_li
      have hP : va_P D vwCl [(w, .inr (7, [.ref f217_0, .ref f217_1, .ref (cs (400 + i)), .ref (cs (420 + i)), .ref (cs (460 + i)), .ref f217_5, .long f217_6, .int f217_7, .int f217_8, .int f217_9, .int f217_10, .int f217_11, .int f217_12, .int f217_13, .int f217_14, .int f217_15]))] _ := va_P.cons hat217 va_P.nil
      refine va_get (D := D) (ci := 7) (v := .ref f217_0) (C := RX7) (T := TX7) (N := 16) hx hb hts iX7_count_7 hown hN.1 hP 0 rfl rfl 0 (by decide) (hts _ mX7_count_1) (fun _ h9 => h9) rfl dX7_count_65 ?_
      obtain ⟨hb218, e218, hat218, hk218⟩ := hT.o7 t217_0.1
      obtain ⟨f218_0, f218_1, f218_2, f218_3, f218_4, f218_5, f218_6, f218_7, rfl, c218_0, c218_3, c218_mg, t218_4, t218_5, t218_6, t218_7⟩ := hk218
      rw [t217_0.2] at t218_4
      rw [t217_0.2] at t218_5
      rw [t217_0.2] at t218_6
      rw [t217_0.2] at t218_7
      have hP : va_P D vwCl [(f217_0, .inr (6, [.int (nI f218_0), .int f218_1, .int f218_2, f218_3, .ref f218_4, .ref f218_5, .ref f218_6, .ref f218_7])), (w, .inr (7, [.ref f217_0, .ref f217_1, .ref (cs (400 + i)), .ref (cs (420 + i)), .ref (cs (460 + i)), .ref f217_5, .long f217_6, .int f217_7, .int f217_8, .int f217_9, .int f217_10, .int f217_11, .int f217_12, .int f217_13, .int f217_14, .int f217_15]))] _ := va_P.cons hat218 hP
      refine va_getN (D := D) (ci := 6) (v := .int (nI f218_0)) (C := RX6) (T := TX6) (N := 8) hx hb hts iX7_count_6 hown hN.1 hP 0 rfl rfl 0 (by decide) (hN.f 39 rfl) (fun _ h9 => h9) rfl dX7_count_68 ?_
      exact en_i hx hb hr hlocks hL rfl (Nat.zero_le _) (Nat.zero_le _) dX7_count_71 (⟨hT, hF⟩)
    · refine lv_tableIn (tgt := 72) (off := 71) hx hb dX7_count_1 (by decide) (by decide) (by decide) (by decide) ?_
      refine lv_aload_n hx hb dX7_count_72 rfl (lv_at hl 0 rfl) ?_
      obtain ⟨hb219, e219, hat219, hk219⟩ := hT.o8 hw.1
      obtain ⟨f219_0, f219_1, f219_2, f219_3, f219_4, f219_5, f219_6, f219_7, f219_8, f219_9, f219_10, f219_11, f219_12, f219_13, f219_14, f219_15, rfl, t219_0, c219_su, t219_1, t219_2, t219_3, t219_4, t219_5, c219_tm, c219_lt, c219_ml, c219_pr, c219_li⟩ := hk219
      rw [hw.2] at t219_1
      rw [hw.2] at t219_2
      rw [hw.2] at t219_3
      rw [hw.2] at t219_4
      rw [hw.2] at t219_5
      rw [hw.2] at c219_lt c219_ml c219_pr c219_li
      subst c219_ml
      subst c219_pr
      subst c219_li
      have hP : va_P D vwCl [(w, .inr (7, [.ref f219_0, .ref f219_1, .ref (cs (400 + i)), .ref (cs (420 + i)), .ref (cs (460 + i)), .ref f219_5, .long f219_6, .int f219_7, .int f219_8, .int f219_9, .int f219_10, .int f219_11, .int f219_12, .int f219_13, .int f219_14, .int f219_15]))] _ := va_P.cons hat219 va_P.nil
      refine va_get (D := D) (ci := 7) (v := .int f219_7) (C := RX7) (T := TX7) (N := 16) hx hb hts iX7_count_7 hown hN.1 hP 0 rfl rfl 7 (by decide) (hts _ mX7_count_2) (fun _ h9 => h9) rfl dX7_count_73 ?_
      exact en_i hx hb hr hlocks hL rfl (Nat.zero_le _) (Nat.zero_le _) dX7_count_76 (⟨hT, hF⟩)
    · refine lv_tableIn (tgt := 77) (off := 76) hx hb dX7_count_1 (by decide) (by decide) (by decide) (by decide) ?_
      refine lv_aload_n hx hb dX7_count_77 rfl (lv_at hl 0 rfl) ?_
      obtain ⟨hb220, e220, hat220, hk220⟩ := hT.o8 hw.1
      obtain ⟨f220_0, f220_1, f220_2, f220_3, f220_4, f220_5, f220_6, f220_7, f220_8, f220_9, f220_10, f220_11, f220_12, f220_13, f220_14, f220_15, rfl, t220_0, c220_su, t220_1, t220_2, t220_3, t220_4, t220_5, c220_tm, c220_lt, c220_ml, c220_pr, c220_li⟩ := hk220
      rw [hw.2] at t220_1
      rw [hw.2] at t220_2
      rw [hw.2] at t220_3
      rw [hw.2] at t220_4
      rw [hw.2] at t220_5
      rw [hw.2] at c220_lt c220_ml c220_pr c220_li
      subst c220_ml
      subst c220_pr
      subst c220_li
      have hP : va_P D vwCl [(w, .inr (7, [.ref f220_0, .ref f220_1, .ref (cs (400 + i)), .ref (cs (420 + i)), .ref (cs (460 + i)), .ref f220_5, .long f220_6, .int f220_7, .int f220_8, .int f220_9, .int f220_10, .int f220_11, .int f220_12, .int f220_13, .int f220_14, .int f220_15]))] _ := va_P.cons hat220 va_P.nil
      refine va_get (D := D) (ci := 7) (v := .int f220_8) (C := RX7) (T := TX7) (N := 16) hx hb hts iX7_count_7 hown hN.1 hP 0 rfl rfl 8 (by decide) (hts _ mX7_count_3) (fun _ h9 => h9) rfl dX7_count_78 ?_
      exact en_i hx hb hr hlocks hL rfl (Nat.zero_le _) (Nat.zero_le _) dX7_count_81 (⟨hT, hF⟩)
    · refine lv_tableIn (tgt := 82) (off := 81) hx hb dX7_count_1 (by decide) (by decide) (by decide) (by decide) ?_
      refine lv_aload_n hx hb dX7_count_82 rfl (lv_at hl 0 rfl) ?_
      obtain ⟨hb221, e221, hat221, hk221⟩ := hT.o8 hw.1
      obtain ⟨f221_0, f221_1, f221_2, f221_3, f221_4, f221_5, f221_6, f221_7, f221_8, f221_9, f221_10, f221_11, f221_12, f221_13, f221_14, f221_15, rfl, t221_0, c221_su, t221_1, t221_2, t221_3, t221_4, t221_5, c221_tm, c221_lt, c221_ml, c221_pr, c221_li⟩ := hk221
      rw [hw.2] at t221_1
      rw [hw.2] at t221_2
      rw [hw.2] at t221_3
      rw [hw.2] at t221_4
      rw [hw.2] at t221_5
      rw [hw.2] at c221_lt c221_ml c221_pr c221_li
      subst c221_ml
      subst c221_pr
      subst c221_li
      have hP : va_P D vwCl [(w, .inr (7, [.ref f221_0, .ref f221_1, .ref (cs (400 + i)), .ref (cs (420 + i)), .ref (cs (460 + i)), .ref f221_5, .long f221_6, .int f221_7, .int f221_8, .int f221_9, .int f221_10, .int f221_11, .int f221_12, .int f221_13, .int f221_14, .int f221_15]))] _ := va_P.cons hat221 va_P.nil
      refine va_get (D := D) (ci := 7) (v := .ref (cs (400 + i))) (C := RX7) (T := TX7) (N := 16) hx hb hts iX7_count_7 hown hN.1 hP 0 rfl rfl 2 (by decide) (hts _ mX7_count_4) (fun _ h9 => h9) rfl dX7_count_83 ?_
      obtain ⟨hb222, e222, hat222, hk222⟩ := hT.o3 t221_2.1
      obtain ⟨f222_0, f222_1, f222_2, rfl, t222_0, t222_1⟩ := hk222
      rw [t221_2.2] at t222_0
      rw [t221_2.2] at t222_1
      have hP : va_P D vwCl [((cs (400 + i)), .inr (2, [.ref f222_0, .ref f222_1, .int f222_2])), (w, .inr (7, [.ref f221_0, .ref f221_1, .ref (cs (400 + i)), .ref (cs (420 + i)), .ref (cs (460 + i)), .ref f221_5, .long f221_6, .int f221_7, .int f221_8, .int f221_9, .int f221_10, .int f221_11, .int f221_12, .int f221_13, .int f221_14, .int f221_15]))] _ := va_P.cons hat222 hP
      refine va_getN (D := D) (ci := 2) (v := .int f222_2) (C := RX2) (T := TX2) (N := 3) hx hb hts iX7_count_2 hown hN.1 hP 0 rfl rfl 2 (by decide) (hN.f 4 rfl) (fun _ h9 => h9) rfl dX7_count_86 ?_
      exact en_i hx hb hr hlocks hL rfl (Nat.zero_le _) (Nat.zero_le _) dX7_count_89 (⟨hT, hF⟩)
    · refine lv_tableIn (tgt := 90) (off := 89) hx hb dX7_count_1 (by decide) (by decide) (by decide) (by decide) ?_
      refine lv_aload_n hx hb dX7_count_90 rfl (lv_at hl 0 rfl) ?_
      obtain ⟨hb223, e223, hat223, hk223⟩ := hT.o8 hw.1
      obtain ⟨f223_0, f223_1, f223_2, f223_3, f223_4, f223_5, f223_6, f223_7, f223_8, f223_9, f223_10, f223_11, f223_12, f223_13, f223_14, f223_15, rfl, t223_0, c223_su, t223_1, t223_2, t223_3, t223_4, t223_5, c223_tm, c223_lt, c223_ml, c223_pr, c223_li⟩ := hk223
      rw [hw.2] at t223_1
      rw [hw.2] at t223_2
      rw [hw.2] at t223_3
      rw [hw.2] at t223_4
      rw [hw.2] at t223_5
      rw [hw.2] at c223_lt c223_ml c223_pr c223_li
      subst c223_ml
      subst c223_pr
      subst c223_li
      have hP : va_P D vwCl [(w, .inr (7, [.ref f223_0, .ref f223_1, .ref (cs (400 + i)), .ref (cs (420 + i)), .ref (cs (460 + i)), .ref f223_5, .long f223_6, .int f223_7, .int f223_8, .int f223_9, .int f223_10, .int f223_11, .int f223_12, .int f223_13, .int f223_14, .int f223_15]))] _ := va_P.cons hat223 va_P.nil
      refine va_get (D := D) (ci := 7) (v := .int f223_9) (C := RX7) (T := TX7) (N := 16) hx hb hts iX7_count_7 hown hN.1 hP 0 rfl rfl 9 (by decide) (hts _ mX7_count_5) (fun _ h9 => h9) rfl dX7_count_91 ?_
      exact en_i hx hb hr hlocks hL rfl (Nat.zero_le _) (Nat.zero_le _) dX7_count_94 (⟨hT, hF⟩)
    · refine lv_tableIn (tgt := 95) (off := 94) hx hb dX7_count_1 (by decide) (by decide) (by decide) (by decide) ?_
      refine lv_aload_n hx hb dX7_count_95 rfl (lv_at hl 0 rfl) ?_
      obtain ⟨hb224, e224, hat224, hk224⟩ := hT.o8 hw.1
      obtain ⟨f224_0, f224_1, f224_2, f224_3, f224_4, f224_5, f224_6, f224_7, f224_8, f224_9, f224_10, f224_11, f224_12, f224_13, f224_14, f224_15, rfl, t224_0, c224_su, t224_1, t224_2, t224_3, t224_4, t224_5, c224_tm, c224_lt, c224_ml, c224_pr, c224_li⟩ := hk224
      rw [hw.2] at t224_1
      rw [hw.2] at t224_2
      rw [hw.2] at t224_3
      rw [hw.2] at t224_4
      rw [hw.2] at t224_5
      rw [hw.2] at c224_lt c224_ml c224_pr c224_li
      subst c224_ml
      subst c224_pr
      subst c224_li
      have hP : va_P D vwCl [(w, .inr (7, [.ref f224_0, .ref f224_1, .ref (cs (400 + i)), .ref (cs (420 + i)), .ref (cs (460 + i)), .ref f224_5, .long f224_6, .int f224_7, .int f224_8, .int f224_9, .int f224_10, .int f224_11, .int f224_12, .int f224_13, .int f224_14, .int f224_15]))] _ := va_P.cons hat224 va_P.nil
      refine va_get (D := D) (ci := 7) (v := .int f224_10) (C := RX7) (T := TX7) (N := 16) hx hb hts iX7_count_7 hown hN.1 hP 0 rfl rfl 10 (by decide) (hts _ mX7_count_6) (fun _ h9 => h9) rfl dX7_count_96 ?_
      exact en_i hx hb hr hlocks hL rfl (Nat.zero_le _) (Nat.zero_le _) dX7_count_99 (⟨hT, hF⟩)
    · refine lv_tableIn (tgt := 100) (off := 99) hx hb dX7_count_1 (by decide) (by decide) (by decide) (by decide) ?_
      refine lv_aload_n hx hb dX7_count_100 rfl (lv_at hl 0 rfl) ?_
      obtain ⟨hb225, e225, hat225, hk225⟩ := hT.o8 hw.1
      obtain ⟨f225_0, f225_1, f225_2, f225_3, f225_4, f225_5, f225_6, f225_7, f225_8, f225_9, f225_10, f225_11, f225_12, f225_13, f225_14, f225_15, rfl, t225_0, c225_su, t225_1, t225_2, t225_3, t225_4, t225_5, c225_tm, c225_lt, c225_ml, c225_pr, c225_li⟩ := hk225
      rw [hw.2] at t225_1
      rw [hw.2] at t225_2
      rw [hw.2] at t225_3
      rw [hw.2] at t225_4
      rw [hw.2] at t225_5
      rw [hw.2] at c225_lt c225_ml c225_pr c225_li
      subst c225_ml
      subst c225_pr
      subst c225_li
      have hP : va_P D vwCl [(w, .inr (7, [.ref f225_0, .ref f225_1, .ref (cs (400 + i)), .ref (cs (420 + i)), .ref (cs (460 + i)), .ref f225_5, .long f225_6, .int f225_7, .int f225_8, .int f225_9, .int f225_10, .int f225_11, .int f225_12, .int f225_13, .int f225_14, .int f225_15]))] _ := va_P.cons hat225 va_P.nil
      refine va_get (D := D) (ci := 7) (v := .int f225_11) (C := RX7) (T := TX7) (N := 16) hx hb hts iX7_count_7 hown hN.1 hP 0 rfl rfl 11 (by decide) (hts _ mX7_count_7) (fun _ h9 => h9) rfl dX7_count_101 ?_
      exact en_i hx hb hr hlocks hL rfl (Nat.zero_le _) (Nat.zero_le _) dX7_count_104 (⟨hT, hF⟩)
    · refine lv_tableIn (tgt := 105) (off := 104) hx hb dX7_count_1 (by decide) (by decide) (by decide) (by decide) ?_
      refine lv_aload_n hx hb dX7_count_105 rfl (lv_at hl 0 rfl) ?_
      obtain ⟨hb226, e226, hat226, hk226⟩ := hT.o8 hw.1
      obtain ⟨f226_0, f226_1, f226_2, f226_3, f226_4, f226_5, f226_6, f226_7, f226_8, f226_9, f226_10, f226_11, f226_12, f226_13, f226_14, f226_15, rfl, t226_0, c226_su, t226_1, t226_2, t226_3, t226_4, t226_5, c226_tm, c226_lt, c226_ml, c226_pr, c226_li⟩ := hk226
      rw [hw.2] at t226_1
      rw [hw.2] at t226_2
      rw [hw.2] at t226_3
      rw [hw.2] at t226_4
      rw [hw.2] at t226_5
      rw [hw.2] at c226_lt c226_ml c226_pr c226_li
      subst c226_ml
      subst c226_pr
      subst c226_li
      have hP : va_P D vwCl [(w, .inr (7, [.ref f226_0, .ref f226_1, .ref (cs (400 + i)), .ref (cs (420 + i)), .ref (cs (460 + i)), .ref f226_5, .long f226_6, .int f226_7, .int f226_8, .int f226_9, .int f226_10, .int f226_11, .int f226_12, .int f226_13, .int f226_14, .int f226_15]))] _ := va_P.cons hat226 va_P.nil
      refine va_get (D := D) (ci := 7) (v := .int f226_12) (C := RX7) (T := TX7) (N := 16) hx hb hts iX7_count_7 hown hN.1 hP 0 rfl rfl 12 (by decide) (hts _ mX7_count_8) (fun _ h9 => h9) rfl dX7_count_106 ?_
      exact en_i hx hb hr hlocks hL rfl (Nat.zero_le _) (Nat.zero_le _) dX7_count_109 (⟨hT, hF⟩)
    · refine lv_tableIn (tgt := 110) (off := 109) hx hb dX7_count_1 (by decide) (by decide) (by decide) (by decide) ?_
      refine lv_aload_n hx hb dX7_count_110 rfl (lv_at hl 0 rfl) ?_
      obtain ⟨hb227, e227, hat227, hk227⟩ := hT.o8 hw.1
      obtain ⟨f227_0, f227_1, f227_2, f227_3, f227_4, f227_5, f227_6, f227_7, f227_8, f227_9, f227_10, f227_11, f227_12, f227_13, f227_14, f227_15, rfl, t227_0, c227_su, t227_1, t227_2, t227_3, t227_4, t227_5, c227_tm, c227_lt, c227_ml, c227_pr, c227_li⟩ := hk227
      rw [hw.2] at t227_1
      rw [hw.2] at t227_2
      rw [hw.2] at t227_3
      rw [hw.2] at t227_4
      rw [hw.2] at t227_5
      rw [hw.2] at c227_lt c227_ml c227_pr c227_li
      subst c227_ml
      subst c227_pr
      subst c227_li
      have hP : va_P D vwCl [(w, .inr (7, [.ref f227_0, .ref f227_1, .ref (cs (400 + i)), .ref (cs (420 + i)), .ref (cs (460 + i)), .ref f227_5, .long f227_6, .int f227_7, .int f227_8, .int f227_9, .int f227_10, .int f227_11, .int f227_12, .int f227_13, .int f227_14, .int f227_15]))] _ := va_P.cons hat227 va_P.nil
      refine va_get (D := D) (ci := 7) (v := .int f227_13) (C := RX7) (T := TX7) (N := 16) hx hb hts iX7_count_7 hown hN.1 hP 0 rfl rfl 13 (by decide) (hts _ mX7_count_9) (fun _ h9 => h9) rfl dX7_count_111 ?_
      exact en_i hx hb hr hlocks hL rfl (Nat.zero_le _) (Nat.zero_le _) dX7_count_114 (⟨hT, hF⟩)
    · refine lv_tableIn (tgt := 115) (off := 114) hx hb dX7_count_1 (by decide) (by decide) (by decide) (by decide) ?_
      refine lv_aload_n hx hb dX7_count_115 rfl (lv_at hl 0 rfl) ?_
      refine cv_i (As := []) (rest := []) (b := w) ⟨hx, hb, hml, hown, hts⟩ (c_X7_countSongs hT (w := w) hw) (cwV 0 hts gX7_count_X7_countSongs rfl rfl rfl hdX7_countSongs_v ⟨Nat.le_of_ble_eq_true rfl, Nat.le_of_ble_eq_true rfl⟩) hN hE hL (rcv8 hN hT hw.1) rfl rfl hl.1 (Nat.le_of_ble_eq_true rfl) dX7_count_116 (Nat.zero_le _) (Nat.zero_le _) (fun r228 H1 locs hL hqr228 => ?_)
      obtain rfl := hqr228.symm
      exact en_i hx hb hr hlocks hL rfl (Nat.zero_le _) (Nat.zero_le _) dX7_count_119 (⟨hT, hF⟩)
    · refine lv_tableIn (tgt := 120) (off := 119) hx hb dX7_count_1 (by decide) (by decide) (by decide) (by decide) ?_
      refine lv_aload_n hx hb dX7_count_120 rfl (lv_at hl 0 rfl) ?_
      obtain ⟨hb229, e229, hat229, hk229⟩ := hT.o8 hw.1
      obtain ⟨f229_0, f229_1, f229_2, f229_3, f229_4, f229_5, f229_6, f229_7, f229_8, f229_9, f229_10, f229_11, f229_12, f229_13, f229_14, f229_15, rfl, t229_0, c229_su, t229_1, t229_2, t229_3, t229_4, t229_5, c229_tm, c229_lt, c229_ml, c229_pr, c229_li⟩ := hk229
      rw [hw.2] at t229_1
      rw [hw.2] at t229_2
      rw [hw.2] at t229_3
      rw [hw.2] at t229_4
      rw [hw.2] at t229_5
      rw [hw.2] at c229_lt c229_ml c229_pr c229_li
      subst c229_ml
      subst c229_pr
      subst c229_li
      have hP : va_P D vwCl [(w, .inr (7, [.ref f229_0, .ref f229_1, .ref (cs (400 + i)), .ref (cs (420 + i)), .ref (cs (460 + i)), .ref f229_5, .long f229_6, .int f229_7, .int f229_8, .int f229_9, .int f229_10, .int f229_11, .int f229_12, .int f229_13, .int f229_14, .int f229_15]))] _ := va_P.cons hat229 va_P.nil
      refine va_get (D := D) (ci := 7) (v := .int f229_14) (C := RX7) (T := TX7) (N := 16) hx hb hts iX7_count_7 hown hN.1 hP 0 rfl rfl 14 (by decide) (hts _ mX7_count_10) (fun _ h9 => h9) rfl dX7_count_121 ?_
      exact en_i hx hb hr hlocks hL rfl (Nat.zero_le _) (Nat.zero_le _) dX7_count_124 (⟨hT, hF⟩)
    · refine lv_tableIn (tgt := 125) (off := 124) hx hb dX7_count_1 (by decide) (by decide) (by decide) (by decide) ?_
      refine lv_aload_n hx hb dX7_count_125 rfl (lv_at hl 0 rfl) ?_
      obtain ⟨hb230, e230, hat230, hk230⟩ := hT.o8 hw.1
      obtain ⟨f230_0, f230_1, f230_2, f230_3, f230_4, f230_5, f230_6, f230_7, f230_8, f230_9, f230_10, f230_11, f230_12, f230_13, f230_14, f230_15, rfl, t230_0, c230_su, t230_1, t230_2, t230_3, t230_4, t230_5, c230_tm, c230_lt, c230_ml, c230_pr, c230_li⟩ := hk230
      rw [hw.2] at t230_1
      rw [hw.2] at t230_2
      rw [hw.2] at t230_3
      rw [hw.2] at t230_4
      rw [hw.2] at t230_5
      rw [hw.2] at c230_lt c230_ml c230_pr c230_li
      subst c230_ml
      subst c230_pr
      subst c230_li
      have hP : va_P D vwCl [(w, .inr (7, [.ref f230_0, .ref f230_1, .ref (cs (400 + i)), .ref (cs (420 + i)), .ref (cs (460 + i)), .ref f230_5, .long f230_6, .int f230_7, .int f230_8, .int f230_9, .int f230_10, .int f230_11, .int f230_12, .int f230_13, .int f230_14, .int f230_15]))] _ := va_P.cons hat230 va_P.nil
      refine va_get (D := D) (ci := 7) (v := .int f230_15) (C := RX7) (T := TX7) (N := 16) hx hb hts iX7_count_7 hown hN.1 hP 0 rfl rfl 15 (by decide) (hts _ mX7_count_11) (fun _ h9 => h9) rfl dX7_count_126 ?_
      exact en_i hx hb hr hlocks hL rfl (Nat.zero_le _) (Nat.zero_le _) dX7_count_129 (⟨hT, hF⟩)
theorem hdX7_error_v : yX7_error.cls = RX7 ∧ yX7_error.cls ≠ "java/lang/invoke/MethodHandle" ∧ yX7_error.cls ≠ "java/lang/invoke/VarHandle" ∧ (parseMethodDescriptor yX7_error.desc).map (fun d => d.parameters.length) = some 1 := by decide +kernel
theorem sw_0_8 {x : Int32} (h : ¬ (x.toInt < (0 : Int) ∨ (8 : Int) < x.toInt)) : x = 0 ∨ x = 1 ∨ x = 2 ∨ x = 3 ∨ x = 4 ∨ x = 5 ∨ x = 6 ∨ x = 7 ∨ x = 8 := by
  have h2 : x.toInt = (0 : Int) ∨ x.toInt = (1 : Int) ∨ x.toInt = (2 : Int) ∨ x.toInt = (3 : Int) ∨ x.toInt = (4 : Int) ∨ x.toInt = (5 : Int) ∨ x.toInt = (6 : Int) ∨ x.toInt = (7 : Int) ∨ x.toInt = (8 : Int) := by omega
  rcases h2 with h2 | h2 | h2 | h2 | h2 | h2 | h2 | h2 | h2
  · exact Or.inl (Int32.toInt_inj.mp (h2.trans (by decide)))
  · exact Or.inr (Or.inl (Int32.toInt_inj.mp (h2.trans (by decide))))
  · exact Or.inr (Or.inr (Or.inl (Int32.toInt_inj.mp (h2.trans (by decide)))))
  · exact Or.inr (Or.inr (Or.inr (Or.inl (Int32.toInt_inj.mp (h2.trans (by decide))))))
  · exact Or.inr (Or.inr (Or.inr (Or.inr (Or.inl (Int32.toInt_inj.mp (h2.trans (by decide)))))))
  · exact Or.inr (Or.inr (Or.inr (Or.inr (Or.inr (Or.inl (Int32.toInt_inj.mp (h2.trans (by decide))))))))
  · exact Or.inr (Or.inr (Or.inr (Or.inr (Or.inr (Or.inr (Or.inl (Int32.toInt_inj.mp (h2.trans (by decide)))))))))
  · exact Or.inr (Or.inr (Or.inr (Or.inr (Or.inr (Or.inr (Or.inr (Or.inl (Int32.toInt_inj.mp (h2.trans (by decide))))))))))
  · exact Or.inr (Or.inr (Or.inr (Or.inr (Or.inr (Or.inr (Or.inr (Or.inr ((Int32.toInt_inj.mp (h2.trans (by decide)))))))))))
theorem iX7_tellPlayer_3 : ∀ w ∈ wsX30, w ∈ wsX7_tellPlayer := fun w h => List.mem_of_mem_drop (List.mem_of_mem_take ((show wsX30 = (wsX7_tellPlayer.drop 29).take 10 by decide +kernel) ▸ h))
set_option maxHeartbeats 4000000 in
set_option maxRecDepth 100000 in
theorem c_X7_tellPlayer {l : Launch} {D : va_G} {cs : Nat → ClassId} {B0 T : Nat} {κ : KM} {H0 : Heap} (hT : WT B0 D cs T κ H0) {w i : Nat} (hw : T2 κ w 8 i) {x : Int32} {y : Int32} : KC l yX7_tellPlayer wsX7_tellPlayer 4 85 0 0 D cs B0 H0 [.ref w, .int x, .int y] (Qi (fun _ H => H = H0)) := by
  refine KC.of cX7_tellPlayer 4 (some .int) (by decide) rfl (Nat.le_of_ble_eq_true rfl) ?_
  intro p e s m below meth c ls hx hb hr hml hown hts hlocks hin hN hE hH0 hl
  have hown : s.vm.findClass RX7 = some m.cls := hown
  have hl : lv_has ls 4 [(0, .ref w), (1, .int x), (2, .int y)] := hl
  have hL : OkL B0 [] := OkL.nil
  refine lv_aload_n hx hb dX7_tellPlayer_0 rfl (lv_at hl 0 rfl) ?_
  refine lv_iload_n hx hb dX7_tellPlayer_1 rfl (lv_at hl 1 rfl) ?_
  refine cv_r (As := [.int x]) (rest := []) (b := w) ⟨hx, hb, hml, hown, hts⟩ (c_X7_at hT (w := w) hw (x := x)) (cwV 1 hts gX7_tellPlayer_X7_at rfl rfl rfl hdX7_at_v ⟨Nat.le_of_ble_eq_true rfl, Nat.le_of_ble_eq_true rfl⟩) hN hE hL (rcv8 hN hT hw.1) rfl rfl hl.1 (Nat.le_of_ble_eq_true rfl) dX7_tellPlayer_2 (Nat.zero_le _) (Nat.zero_le _) (fun r231 H1 locs hL hqr231 => ?_)
  obtain ⟨h9, hqr231⟩ := hqr231; replace h9 := h9.symm; subst h9
  refine lv_astore_n (lv' := [(3, .ref r231), (0, .ref w), (1, .int x), (2, .int y)]) hx hb dX7_tellPlayer_5 rfl hl (by decide) rfl (fun ls hl => ?_)
  refine lv_iload_n hx hb dX7_tellPlayer_6 rfl (lv_at hl 3 rfl) ?_
  by_cases c232 : (y : Int32).toInt < (0 : Int) ∨ (8 : Int) < (y : Int32).toInt
  · refine lv_tableOut (tgt := 110) hx hb dX7_tellPlayer_7 c232 (by decide) ?_
    refine lv_aload_n hx hb dX7_tellPlayer_110 rfl (lv_at hl 1 rfl) ?_
    refine lv_iload_n hx hb dX7_tellPlayer_111 rfl (lv_at hl 2 rfl) ?_
    refine cv_i (As := [.int x]) (rest := []) (b := w) ⟨hx, hb, hml, hown, hts⟩ (c_X7_error hT (w := w) hw (x := x)) (cwV 1 hts gX7_tellPlayer_X7_error rfl rfl rfl hdX7_error_v ⟨Nat.le_of_ble_eq_true rfl, Nat.le_of_ble_eq_true rfl⟩) hN hE hL (rcv8 hN hT hw.1) rfl rfl hl.1 (Nat.le_of_ble_eq_true rfl) dX7_tellPlayer_112 (Nat.zero_le _) (Nat.zero_le _) (fun r233 H1 locs hL hqr233 => ?_)
    obtain rfl := hqr233.symm
    exact en_i hx hb hr hlocks hL rfl (Nat.zero_le _) (Nat.zero_le _) dX7_tellPlayer_115 (rfl)
  · rcases sw_0_8 c232 with rfl | rfl | rfl | rfl | rfl | rfl | rfl | rfl | rfl
    · refine lv_tableIn (tgt := 56) (off := 49) hx hb dX7_tellPlayer_7 (by decide) (by decide) (by decide) (by decide) ?_
      refine lv_aload_n hx hb dX7_tellPlayer_56 rfl (lv_at hl 0 rfl) ?_
      obtain ⟨hb234, e234, hat234, hk234⟩ := hT.o4 hqr231.1
      obtain ⟨f234_0, f234_1, f234_2, f234_3, f234_4, f234_5, f234_6, f234_7, f234_8, f234_9, rfl, c234_up⟩ := hk234
      have hP : va_P D vwCl [(r231, .inr (3, [.int f234_0, .int f234_1, .int f234_2, .int f234_3, .int f234_4, .int f234_5, .int f234_6, .int f234_7, .int f234_8, .int f234_9]))] _ := va_P.cons hat234 va_P.nil
      refine va_getN (D := D) (ci := 3) (v := .int f234_0) (C := RX3) (T := TX3) (N := 10) hx hb hts iX7_tellPlayer_3 hown hN.1 hP 0 rfl rfl 0 (by decide) (hN.f 27 rfl) (fun _ h9 => h9) rfl dX7_tellPlayer_57 ?_
      refine lv_if_eq (tgt := 67) hx hb dX7_tellPlayer_60 (by decide) (fun c235 => ?_) (fun c235 => ?_)
      · refine lv_iconst (v := 0) hx hb dX7_tellPlayer_67 (by decide) ?_
        exact en_i hx hb hr hlocks hL rfl (Nat.zero_le _) (Nat.zero_le _) dX7_tellPlayer_68 (rfl)
      · refine lv_iconst (v := 1) hx hb dX7_tellPlayer_63 (by decide) ?_
        refine lv_goto (tgt := 68) hx hb dX7_tellPlayer_64 (by decide) ?_
        exact en_i hx hb hr hlocks hL rfl (Nat.zero_le _) (Nat.zero_le _) dX7_tellPlayer_68 (rfl)
    · refine lv_tableIn (tgt := 69) (off := 62) hx hb dX7_tellPlayer_7 (by decide) (by decide) (by decide) (by decide) ?_
      refine lv_aload_n hx hb dX7_tellPlayer_69 rfl (lv_at hl 1 rfl) ?_
      refine lv_iload_n hx hb dX7_tellPlayer_70 rfl (lv_at hl 2 rfl) ?_
      refine cv_i (As := [.int x]) (rest := []) (b := w) ⟨hx, hb, hml, hown, hts⟩ (c_X7_clock hT (w := w) hw (x := x)) (cwV 1 hts gX7_tellPlayer_X7_clock rfl rfl rfl hdX7_clock_v ⟨Nat.le_of_ble_eq_true rfl, Nat.le_of_ble_eq_true rfl⟩) hN hE hL (rcv8 hN hT hw.1) rfl rfl hl.1 (Nat.le_of_ble_eq_true rfl) dX7_tellPlayer_71 (Nat.zero_le _) (Nat.zero_le _) (fun r236 H1 locs hL hqr236 => ?_)
      obtain rfl := hqr236.symm
      exact en_i hx hb hr hlocks hL rfl (Nat.zero_le _) (Nat.zero_le _) dX7_tellPlayer_74 (rfl)
    · refine lv_tableIn (tgt := 75) (off := 68) hx hb dX7_tellPlayer_7 (by decide) (by decide) (by decide) (by decide) ?_
      refine lv_aload_n hx hb dX7_tellPlayer_75 rfl (lv_at hl 0 rfl) ?_
      obtain ⟨hb237, e237, hat237, hk237⟩ := hT.o4 hqr231.1
      obtain ⟨f237_0, f237_1, f237_2, f237_3, f237_4, f237_5, f237_6, f237_7, f237_8, f237_9, rfl, c237_up⟩ := hk237
      have hP : va_P D vwCl [(r231, .inr (3, [.int f237_0, .int f237_1, .int f237_2, .int f237_3, .int f237_4, .int f237_5, .int f237_6, .int f237_7, .int f237_8, .int f237_9]))] _ := va_P.cons hat237 va_P.nil
      refine va_getN (D := D) (ci := 3) (v := .int f237_1) (C := RX3) (T := TX3) (N := 10) hx hb hts iX7_tellPlayer_3 hown hN.1 hP 0 rfl rfl 1 (by decide) (hN.f 29 rfl) (fun _ h9 => h9) rfl dX7_tellPlayer_76 ?_
      exact en_i hx hb hr hlocks hL rfl (Nat.zero_le _) (Nat.zero_le _) dX7_tellPlayer_79 (rfl)
    · refine lv_tableIn (tgt := 80) (off := 73) hx hb dX7_tellPlayer_7 (by decide) (by decide) (by decide) (by decide) ?_
      refine lv_aload_n hx hb dX7_tellPlayer_80 rfl (lv_at hl 0 rfl) ?_
      obtain ⟨hb238, e238, hat238, hk238⟩ := hT.o4 hqr231.1
      obtain ⟨f238_0, f238_1, f238_2, f238_3, f238_4, f238_5, f238_6, f238_7, f238_8, f238_9, rfl, c238_up⟩ := hk238
      have hP : va_P D vwCl [(r231, .inr (3, [.int f238_0, .int f238_1, .int f238_2, .int f238_3, .int f238_4, .int f238_5, .int f238_6, .int f238_7, .int f238_8, .int f238_9]))] _ := va_P.cons hat238 va_P.nil
      refine va_getN (D := D) (ci := 3) (v := .int f238_2) (C := RX3) (T := TX3) (N := 10) hx hb hts iX7_tellPlayer_3 hown hN.1 hP 0 rfl rfl 2 (by decide) (hN.f 30 rfl) (fun _ h9 => h9) rfl dX7_tellPlayer_81 ?_
      exact en_i hx hb hr hlocks hL rfl (Nat.zero_le _) (Nat.zero_le _) dX7_tellPlayer_84 (rfl)
    · refine lv_tableIn (tgt := 85) (off := 78) hx hb dX7_tellPlayer_7 (by decide) (by decide) (by decide) (by decide) ?_
      refine lv_aload_n hx hb dX7_tellPlayer_85 rfl (lv_at hl 0 rfl) ?_
      obtain ⟨hb239, e239, hat239, hk239⟩ := hT.o4 hqr231.1
      obtain ⟨f239_0, f239_1, f239_2, f239_3, f239_4, f239_5, f239_6, f239_7, f239_8, f239_9, rfl, c239_up⟩ := hk239
      have hP : va_P D vwCl [(r231, .inr (3, [.int f239_0, .int f239_1, .int f239_2, .int f239_3, .int f239_4, .int f239_5, .int f239_6, .int f239_7, .int f239_8, .int f239_9]))] _ := va_P.cons hat239 va_P.nil
      refine va_getN (D := D) (ci := 3) (v := .int f239_3) (C := RX3) (T := TX3) (N := 10) hx hb hts iX7_tellPlayer_3 hown hN.1 hP 0 rfl rfl 3 (by decide) (hN.f 31 rfl) (fun _ h9 => h9) rfl dX7_tellPlayer_86 ?_
      exact en_i hx hb hr hlocks hL rfl (Nat.zero_le _) (Nat.zero_le _) dX7_tellPlayer_89 (rfl)
    · refine lv_tableIn (tgt := 90) (off := 83) hx hb dX7_tellPlayer_7 (by decide) (by decide) (by decide) (by decide) ?_
      refine lv_aload_n hx hb dX7_tellPlayer_90 rfl (lv_at hl 0 rfl) ?_
      obtain ⟨hb240, e240, hat240, hk240⟩ := hT.o4 hqr231.1
      obtain ⟨f240_0, f240_1, f240_2, f240_3, f240_4, f240_5, f240_6, f240_7, f240_8, f240_9, rfl, c240_up⟩ := hk240
      have hP : va_P D vwCl [(r231, .inr (3, [.int f240_0, .int f240_1, .int f240_2, .int f240_3, .int f240_4, .int f240_5, .int f240_6, .int f240_7, .int f240_8, .int f240_9]))] _ := va_P.cons hat240 va_P.nil
      refine va_getN (D := D) (ci := 3) (v := .int f240_4) (C := RX3) (T := TX3) (N := 10) hx hb hts iX7_tellPlayer_3 hown hN.1 hP 0 rfl rfl 4 (by decide) (hN.f 32 rfl) (fun _ h9 => h9) rfl dX7_tellPlayer_91 ?_
      exact en_i hx hb hr hlocks hL rfl (Nat.zero_le _) (Nat.zero_le _) dX7_tellPlayer_94 (rfl)
    · refine lv_tableIn (tgt := 95) (off := 88) hx hb dX7_tellPlayer_7 (by decide) (by decide) (by decide) (by decide) ?_
      refine lv_aload_n hx hb dX7_tellPlayer_95 rfl (lv_at hl 0 rfl) ?_
      obtain ⟨hb241, e241, hat241, hk241⟩ := hT.o4 hqr231.1
      obtain ⟨f241_0, f241_1, f241_2, f241_3, f241_4, f241_5, f241_6, f241_7, f241_8, f241_9, rfl, c241_up⟩ := hk241
      have hP : va_P D vwCl [(r231, .inr (3, [.int f241_0, .int f241_1, .int f241_2, .int f241_3, .int f241_4, .int f241_5, .int f241_6, .int f241_7, .int f241_8, .int f241_9]))] _ := va_P.cons hat241 va_P.nil
      refine va_getN (D := D) (ci := 3) (v := .int f241_7) (C := RX3) (T := TX3) (N := 10) hx hb hts iX7_tellPlayer_3 hown hN.1 hP 0 rfl rfl 7 (by decide) (hN.f 34 rfl) (fun _ h9 => h9) rfl dX7_tellPlayer_96 ?_
      exact en_i hx hb hr hlocks hL rfl (Nat.zero_le _) (Nat.zero_le _) dX7_tellPlayer_99 (rfl)
    · refine lv_tableIn (tgt := 100) (off := 93) hx hb dX7_tellPlayer_7 (by decide) (by decide) (by decide) (by decide) ?_
      refine lv_aload_n hx hb dX7_tellPlayer_100 rfl (lv_at hl 0 rfl) ?_
      obtain ⟨hb242, e242, hat242, hk242⟩ := hT.o4 hqr231.1
      obtain ⟨f242_0, f242_1, f242_2, f242_3, f242_4, f242_5, f242_6, f242_7, f242_8, f242_9, rfl, c242_up⟩ := hk242
      have hP : va_P D vwCl [(r231, .inr (3, [.int f242_0, .int f242_1, .int f242_2, .int f242_3, .int f242_4, .int f242_5, .int f242_6, .int f242_7, .int f242_8, .int f242_9]))] _ := va_P.cons hat242 va_P.nil
      refine va_getN (D := D) (ci := 3) (v := .int f242_8) (C := RX3) (T := TX3) (N := 10) hx hb hts iX7_tellPlayer_3 hown hN.1 hP 0 rfl rfl 8 (by decide) (hN.f 35 rfl) (fun _ h9 => h9) rfl dX7_tellPlayer_101 ?_
      exact en_i hx hb hr hlocks hL rfl (Nat.zero_le _) (Nat.zero_le _) dX7_tellPlayer_104 (rfl)
    · refine lv_tableIn (tgt := 105) (off := 98) hx hb dX7_tellPlayer_7 (by decide) (by decide) (by decide) (by decide) ?_
      refine lv_aload_n hx hb dX7_tellPlayer_105 rfl (lv_at hl 0 rfl) ?_
      obtain ⟨hb243, e243, hat243, hk243⟩ := hT.o4 hqr231.1
      obtain ⟨f243_0, f243_1, f243_2, f243_3, f243_4, f243_5, f243_6, f243_7, f243_8, f243_9, rfl, c243_up⟩ := hk243
      have hP : va_P D vwCl [(r231, .inr (3, [.int f243_0, .int f243_1, .int f243_2, .int f243_3, .int f243_4, .int f243_5, .int f243_6, .int f243_7, .int f243_8, .int f243_9]))] _ := va_P.cons hat243 va_P.nil
      refine va_getN (D := D) (ci := 3) (v := .int f243_9) (C := RX3) (T := TX3) (N := 10) hx hb hts iX7_tellPlayer_3 hown hN.1 hP 0 rfl rfl 9 (by decide) (hN.f 36 rfl) (fun _ h9 => h9) rfl dX7_tellPlayer_106 ?_
      exact en_i hx hb hr hlocks hL rfl (Nat.zero_le _) (Nat.zero_le _) dX7_tellPlayer_109 (rfl)
theorem mX2_read_1 : (.fieldLink RX2 14 "OneBeat$Mail" "counts" "[I" : Cond) ∈ wsX2_read := List.mem_of_getElem? (i := 1) (by decide +kernel)
theorem iX2_read_2 : ∀ w ∈ wsX20, w ∈ wsX2_read := fun w h => List.mem_of_mem_drop (List.mem_of_mem_take ((show wsX20 = (wsX2_read.drop 3).take 3 by decide +kernel) ▸ h))
theorem mX2_read_2 : (.fieldLink RX2 11 "OneBeat$Mail" "rows" "[[I" : Cond) ∈ wsX2_read := List.mem_of_getElem? (i := 2) (by decide +kernel)
theorem iX2_read_1 : ∀ w ∈ wsX10, w ∈ wsX2_read := fun w h => List.mem_of_mem_drop (List.mem_of_mem_take ((show wsX10 = (wsX2_read.drop 6).take 7 by decide +kernel) ▸ h))
set_option maxHeartbeats 4000000 in
set_option maxRecDepth 100000 in
theorem c_X2_read {l : Launch} {D : va_G} {cs : Nat → ClassId} {B0 T : Nat} {κ : KM} {H0 : Heap} (hT : WT B0 D cs T κ H0) {w v o i : Nat} (hw : T2 κ w 3 o) {x y : Int32} (hv : T2 κ v 2 i) : KC l yX2_read wsX2_read 0 0 0 0 D cs B0 H0 [.ref w, .int x, .int y, .ref v] (Qi (fun r H => WT B0 D cs T κ H ∧ Fr B0 [i] κ H0 H ∧ (r = 0 ∨ r = 1))) := by
  refine KC.of cX2_read 7 (some .boolean) (by decide) rfl (Nat.le_of_ble_eq_true rfl) ?_
  intro p e s m below meth c ls hx hb hr hml hown hts hlocks hin hN hE hH0 hl
  have hown : s.vm.findClass RX2 = some m.cls := hown
  have hl : lv_has ls 7 [(0, .ref w), (1, .int x), (2, .int y), (3, .ref v)] := hl
  have hL : OkL B0 [] := OkL.nil
  have hF : Fr B0 [i] κ H0 H0 := Fr.rf
  refine lv_iload_n hx hb dX2_read_0 rfl (lv_at hl 1 rfl) ?_
  refine lv_bipush (v := 15) hx hb dX2_read_1 (by decide) ?_
  refine lv_iand hx hb dX2_read_3 ?_
  have hj244 := m15_lt x
  refine tp_i (nI (m15 x)) (and15 x) ?_
  refine lv_istore (lv' := [(4, .int (nI (m15 x))), (0, .ref w), (1, .int x), (2, .int y), (3, .ref v)]) hx hb dX2_read_4 hl (by decide) rfl (fun ls hl => ?_)
  refine lv_iload_n hx hb dX2_read_6 rfl (lv_at hl 3 rfl) ?_
  refine lv_if_lt (tgt := 38) hx hb dX2_read_7 (by decide) (fun c245 => ?_) (fun c245 => ?_)
  · refine lv_iconst (v := 0) hx hb dX2_read_38 (by decide) ?_
    exact en_i hx hb hr hlocks hL rfl (Nat.zero_le _) (Nat.zero_le _) dX2_read_39 (⟨hT, hF, Or.inl rfl⟩)
  · refine lv_iload_n hx hb dX2_read_10 rfl (lv_at hl 3 rfl) ?_
    refine lv_aload_n hx hb dX2_read_11 rfl (lv_at hl 1 rfl) ?_
    obtain ⟨hb246, e246, hat246, hk246⟩ := hT.o3 hw.1
    obtain ⟨f246_0, f246_1, f246_2, rfl, t246_0, t246_1⟩ := hk246
    rw [hw.2] at t246_0
    rw [hw.2] at t246_1
    have hP : va_P D vwCl [(w, .inr (2, [.ref f246_0, .ref f246_1, .int f246_2]))] _ := va_P.cons hat246 va_P.nil
    refine va_get (D := D) (ci := 2) (v := .ref f246_1) (C := RX2) (T := TX2) (N := 3) hx hb hts iX2_read_2 hown hN.1 hP 0 rfl rfl 1 (by decide) (hts _ mX2_read_1) (fun _ h9 => h9) rfl dX2_read_12 ?_
    refine lv_iload hx hb dX2_read_15 (lv_at hl 0 rfl) ?_
    obtain ⟨hb247, e247, hat247, hk247⟩ := hT.o15 t246_1.1
    obtain ⟨g247, rfl, q247⟩ := hk247
    have hP : va_P D vwCl [(f246_1, .inl (cs 0, 16, .inl g247)), (w, .inr (2, [.ref f246_0, .ref f246_1, .int f246_2]))] _ := va_P.cons hat247 hP
    refine ld_i (v := (g247 (m15 x))) hx hb hN hP 0 rfl (vp_in_nI (n := (m15 x)) (N := 16) (by omega) (by omega)) (by rw [(show ((nI (m15 x)) : Int32).toNatClampNeg = (m15 x) from nI_clamp (n := (m15 x)) (by omega))]) dX2_read_17 ?_
    obtain ⟨n248, hn248, en248⟩ := q247 (m15 x) (by omega)
    refine tp_i (nI n248) en248 ?_
    refine lv_icmp_ge (tgt := 38) hx hb dX2_read_18 (by decide) (fun c249 => ?_) (fun c249 => ?_)
    · refine lv_iconst (v := 0) hx hb dX2_read_38 (by decide) ?_
      exact en_i hx hb hr hlocks hL rfl (Nat.zero_le _) (Nat.zero_le _) dX2_read_39 (⟨hT, hF, Or.inl rfl⟩)
    · obtain ⟨k250, hk250, rfl⟩ := small_lt c245 c249
      refine lv_iload_n hx hb dX2_read_21 rfl (lv_at hl 3 rfl) ?_
      refine lv_iconst (v := 1) hx hb dX2_read_22 (by decide) ?_
      refine lv_iadd hx hb dX2_read_23 ?_
      refine tp_i (nI (k250 + 1)) (nI_add k250 1) ?_
      refine lv_bipush (v := 7) hx hb dX2_read_24 (by decide) ?_
      refine lv_imul hx hb dX2_read_26 ?_
      refine tp_i (nI ((k250 + 1) * 7)) (nI_mul (k250 + 1) 7) ?_
      refine lv_aload_n hx hb dX2_read_27 rfl (lv_at hl 1 rfl) ?_
      refine va_get (D := D) (ci := 2) (v := .ref f246_0) (C := RX2) (T := TX2) (N := 3) hx hb hts iX2_read_2 hown hN.1 hP 1 rfl rfl 0 (by decide) (hts _ mX2_read_2) (fun _ h9 => h9) rfl dX2_read_28 ?_
      refine lv_iload hx hb dX2_read_31 (lv_at hl 0 rfl) ?_
      obtain ⟨hb251, e251, hat251, hk251⟩ := hT.o13 t246_0.1
      obtain ⟨g251, rfl, q251⟩ := hk251
      rw [t246_0.2] at q251
      have hP : va_P D vwCl [(f246_0, .inl (cs 6, 16, .inr (.inr (.inr (.inr g251))))), (f246_1, .inl (cs 0, 16, .inl g247)), (w, .inr (2, [.ref f246_0, .ref f246_1, .int f246_2]))] _ := va_P.cons hat251 hP
      obtain ⟨a252, ea252, ta252, ua252⟩ := q251 ((m15 x)) (by omega)
      refine ld_a (v := .ref a252) hx hb hN hP 0 rfl (vp_in_nI (n := (m15 x)) (N := 16) (by omega) (by omega)) (by rw [(show ((nI (m15 x)) : Int32).toNatClampNeg = (m15 x) from nI_clamp (n := (m15 x)) (by omega)), ea252]; rfl) dX2_read_33 ?_
      obtain ⟨hb253, e253, hat253, hk253⟩ := hT.o14 ta252.1
      obtain ⟨n253, g253, rfl, q253⟩ := hk253
      have hP : va_P D vwCl [(a252, .inl (cs 0, n253, .inl g253)), (f246_0, .inl (cs 6, 16, .inr (.inr (.inr (.inr g251))))), (f246_1, .inl (cs 0, 16, .inl g247)), (w, .inr (2, [.ref f246_0, .ref f246_1, .int f246_2]))] _ := va_P.cons hat253 hP
      refine va_alen (v := (nI n253)) hx hb hN.1 hP 0 0 rfl rfl rfl dX2_read_34 ?_
      refine lv_icmp_le (tgt := 40) hx hb dX2_read_35 (by decide) (fun c254 => ?_) (fun c254 => ?_)
      · have c254 : ((k250 + 1) * 7) ≤ n253 := (nI_leI (a := ((k250 + 1) * 7)) (b := n253) (by omega) (by omega)).mp c254
        refine lv_aload_n hx hb dX2_read_40 rfl (lv_at hl 1 rfl) ?_
        refine va_get (D := D) (ci := 2) (v := .ref f246_0) (C := RX2) (T := TX2) (N := 3) hx hb hts iX2_read_2 hown hN.1 hP 3 rfl rfl 0 (by decide) (hts _ mX2_read_2) (fun _ h9 => h9) rfl dX2_read_41 ?_
        refine lv_iload hx hb dX2_read_44 (lv_at hl 0 rfl) ?_
        refine ld_a (v := .ref a252) hx hb hN hP 1 rfl (vp_in_nI (n := (m15 x)) (N := 16) (by omega) (by omega)) (by rw [(show ((nI (m15 x)) : Int32).toNatClampNeg = (m15 x) from nI_clamp (n := (m15 x)) (by omega)), ea252]; rfl) dX2_read_46 ?_
        refine lv_astore (lv' := [(5, .ref a252), (4, .int (nI (m15 x))), (0, .ref w), (1, .int x), (2, .int (nI k250)), (3, .ref v)]) hx hb dX2_read_47 hl (by decide) rfl (fun ls hl => ?_)
        refine lv_iload_n hx hb dX2_read_49 rfl (lv_at hl 4 rfl) ?_
        refine lv_bipush (v := 7) hx hb dX2_read_50 (by decide) ?_
        refine lv_imul hx hb dX2_read_52 ?_
        refine tp_i (nI (k250 * 7)) (nI_mul k250 7) ?_
        refine lv_istore (lv' := [(6, .int (nI (k250 * 7))), (5, .ref a252), (4, .int (nI (m15 x))), (0, .ref w), (1, .int x), (2, .int (nI k250)), (3, .ref v)]) hx hb dX2_read_53 hl (by decide) rfl (fun ls hl => ?_)
        refine lv_aload_n hx hb dX2_read_55 rfl (lv_at hl 6 rfl) ?_
        refine lv_aload hx hb dX2_read_56 (lv_at hl 1 rfl) ?_
        refine lv_iload hx hb dX2_read_58 (lv_at hl 0 rfl) ?_
        refine ld_i (v := (g253 (k250 * 7))) hx hb hN hP 0 rfl (vp_in_nI (n := (k250 * 7)) (N := n253) (by omega) (by omega)) (by rw [(show ((nI (k250 * 7)) : Int32).toNatClampNeg = (k250 * 7) from nI_clamp (n := (k250 * 7)) (by omega))]) dX2_read_60 ?_
        refine gn_i (fun x255 => ?_)
        obtain ⟨hb256, e256, hat256, hk256⟩ := hT.o2 hv.1
        obtain ⟨f256_0, f256_1, f256_2, f256_3, f256_4, f256_5, f256_6, rfl⟩ := hk256
        have hP : va_P D vwCl [(v, .inr (1, [.int f256_0, .int f256_1, .int f256_2, .int f256_3, .int f256_4, .int f256_5, .int f256_6])), (a252, .inl (cs 0, n253, .inl g253)), (f246_0, .inl (cs 6, 16, .inr (.inr (.inr (.inr g251))))), (f246_1, .inl (cs 0, 16, .inl g247)), (w, .inr (2, [.ref f246_0, .ref f246_1, .int f246_2]))] _ := va_P.cons hat256 hP
        have hB : Bx B0 D _ [(v, .inr (1, [.int f256_0, .int f256_1, .int f256_2, .int f256_3, .int f256_4, .int f256_5, .int f256_6])), (a252, .inl (cs 0, n253, .inl g253)), (f246_0, .inl (cs 6, 16, .inr (.inr (.inr (.inr g251))))), (f246_1, .inl (cs 0, 16, .inl g247)), (w, .inr (2, [.ref f246_0, .ref f246_1, .int f246_2]))] [] _ _ := Bx.of (fun a => (κ a).1) hL hP (fa_c hb256 (fa_c hb253 (fa_c hb251 (fa_c hb247 (fa_c hb246 fa_n))))) (by simp only [List.map_cons, List.map_nil, hv.1, ta252.1, t246_0.1, t246_1.1, hw.1]; decide)
        refine b_putN (D := D) (ci := 1) (v := .int x255) (ty := .int) (C := RX1) (T := TX1) (N := 7) hx hb hts iX2_read_1 tyX1 tyX1_ok nmX1 hown hN hB 0 rfl rfl 0 (by decide) (hN.f 13 rfl) (fun _ h9 => h9) rfl (by decide +kernel) rfl rfl (Nat.le_of_ble_eq_true rfl) (.inl rfl) dX2_read_61 (fun H locs hB => ?_)
        have hB : Bx B0 D _ [(v, .inr (1, [.int x255, .int f256_1, .int f256_2, .int f256_3, .int f256_4, .int f256_5, .int f256_6])), (a252, .inl (cs 0, n253, .inl g253)), (f246_0, .inl (cs 6, 16, .inr (.inr (.inr (.inr g251))))), (f246_1, .inl (cs 0, 16, .inl g247)), (w, .inr (2, [.ref f246_0, .ref f246_1, .int f246_2]))] [v] _ _ := hB
        refine lv_aload_n hx hb dX2_read_64 rfl (lv_at hl 6 rfl) ?_
        refine lv_aload hx hb dX2_read_65 (lv_at hl 1 rfl) ?_
        refine lv_iload hx hb dX2_read_67 (lv_at hl 0 rfl) ?_
        refine lv_iconst (v := 1) hx hb dX2_read_69 (by decide) ?_
        refine lv_iadd hx hb dX2_read_70 ?_
        refine tp_i (nI ((k250 * 7) + 1)) (nI_add (k250 * 7) 1) ?_
        refine ld_i (v := (g253 ((k250 * 7) + 1))) hx hb hN hB.1 1 rfl (vp_in_nI (n := ((k250 * 7) + 1)) (N := n253) (by omega) (by omega)) (by rw [(show ((nI ((k250 * 7) + 1)) : Int32).toNatClampNeg = ((k250 * 7) + 1) from nI_clamp (n := ((k250 * 7) + 1)) (by omega))]) dX2_read_71 ?_
        refine gn_i (fun x257 => ?_)
        refine b_putN (D := D) (ci := 1) (v := .int x257) (ty := .int) (C := RX1) (T := TX1) (N := 7) hx hb hts iX2_read_1 tyX1 tyX1_ok nmX1 hown hN hB 0 rfl rfl 1 (by decide) (hN.f 15 rfl) (fun _ h9 => h9) rfl (by decide +kernel) rfl rfl (Nat.le_of_ble_eq_true rfl) (.inr ⟨rfl, List.mem_of_getElem? (i := 0) rfl⟩) dX2_read_72 (fun H locs hB => ?_)
        have hB : Bx B0 D _ [(v, .inr (1, [.int x255, .int x257, .int f256_2, .int f256_3, .int f256_4, .int f256_5, .int f256_6])), (a252, .inl (cs 0, n253, .inl g253)), (f246_0, .inl (cs 6, 16, .inr (.inr (.inr (.inr g251))))), (f246_1, .inl (cs 0, 16, .inl g247)), (w, .inr (2, [.ref f246_0, .ref f246_1, .int f246_2]))] [v] _ _ := hB
        refine lv_aload_n hx hb dX2_read_75 rfl (lv_at hl 6 rfl) ?_
        refine lv_aload hx hb dX2_read_76 (lv_at hl 1 rfl) ?_
        refine lv_iload hx hb dX2_read_78 (lv_at hl 0 rfl) ?_
        refine lv_iconst (v := 2) hx hb dX2_read_80 (by decide) ?_
        refine lv_iadd hx hb dX2_read_81 ?_
        refine tp_i (nI ((k250 * 7) + 2)) (nI_add (k250 * 7) 2) ?_
        refine ld_i (v := (g253 ((k250 * 7) + 2))) hx hb hN hB.1 1 rfl (vp_in_nI (n := ((k250 * 7) + 2)) (N := n253) (by omega) (by omega)) (by rw [(show ((nI ((k250 * 7) + 2)) : Int32).toNatClampNeg = ((k250 * 7) + 2) from nI_clamp (n := ((k250 * 7) + 2)) (by omega))]) dX2_read_82 ?_
        refine gn_i (fun x258 => ?_)
        refine b_putN (D := D) (ci := 1) (v := .int x258) (ty := .int) (C := RX1) (T := TX1) (N := 7) hx hb hts iX2_read_1 tyX1 tyX1_ok nmX1 hown hN hB 0 rfl rfl 2 (by decide) (hN.f 17 rfl) (fun _ h9 => h9) rfl (by decide +kernel) rfl rfl (Nat.le_of_ble_eq_true rfl) (.inr ⟨rfl, List.mem_of_getElem? (i := 0) rfl⟩) dX2_read_83 (fun H locs hB => ?_)
        have hB : Bx B0 D _ [(v, .inr (1, [.int x255, .int x257, .int x258, .int f256_3, .int f256_4, .int f256_5, .int f256_6])), (a252, .inl (cs 0, n253, .inl g253)), (f246_0, .inl (cs 6, 16, .inr (.inr (.inr (.inr g251))))), (f246_1, .inl (cs 0, 16, .inl g247)), (w, .inr (2, [.ref f246_0, .ref f246_1, .int f246_2]))] [v] _ _ := hB
        refine lv_aload_n hx hb dX2_read_86 rfl (lv_at hl 6 rfl) ?_
        refine lv_aload hx hb dX2_read_87 (lv_at hl 1 rfl) ?_
        refine lv_iload hx hb dX2_read_89 (lv_at hl 0 rfl) ?_
        refine lv_iconst (v := 3) hx hb dX2_read_91 (by decide) ?_
        refine lv_iadd hx hb dX2_read_92 ?_
        refine tp_i (nI ((k250 * 7) + 3)) (nI_add (k250 * 7) 3) ?_
        refine ld_i (v := (g253 ((k250 * 7) + 3))) hx hb hN hB.1 1 rfl (vp_in_nI (n := ((k250 * 7) + 3)) (N := n253) (by omega) (by omega)) (by rw [(show ((nI ((k250 * 7) + 3)) : Int32).toNatClampNeg = ((k250 * 7) + 3) from nI_clamp (n := ((k250 * 7) + 3)) (by omega))]) dX2_read_93 ?_
        refine gn_i (fun x259 => ?_)
        refine b_putN (D := D) (ci := 1) (v := .int x259) (ty := .int) (C := RX1) (T := TX1) (N := 7) hx hb hts iX2_read_1 tyX1 tyX1_ok nmX1 hown hN hB 0 rfl rfl 3 (by decide) (hN.f 19 rfl) (fun _ h9 => h9) rfl (by decide +kernel) rfl rfl (Nat.le_of_ble_eq_true rfl) (.inr ⟨rfl, List.mem_of_getElem? (i := 0) rfl⟩) dX2_read_94 (fun H locs hB => ?_)
        have hB : Bx B0 D _ [(v, .inr (1, [.int x255, .int x257, .int x258, .int x259, .int f256_4, .int f256_5, .int f256_6])), (a252, .inl (cs 0, n253, .inl g253)), (f246_0, .inl (cs 6, 16, .inr (.inr (.inr (.inr g251))))), (f246_1, .inl (cs 0, 16, .inl g247)), (w, .inr (2, [.ref f246_0, .ref f246_1, .int f246_2]))] [v] _ _ := hB
        refine lv_aload_n hx hb dX2_read_97 rfl (lv_at hl 6 rfl) ?_
        refine lv_aload hx hb dX2_read_98 (lv_at hl 1 rfl) ?_
        refine lv_iload hx hb dX2_read_100 (lv_at hl 0 rfl) ?_
        refine lv_iconst (v := 4) hx hb dX2_read_102 (by decide) ?_
        refine lv_iadd hx hb dX2_read_103 ?_
        refine tp_i (nI ((k250 * 7) + 4)) (nI_add (k250 * 7) 4) ?_
        refine ld_i (v := (g253 ((k250 * 7) + 4))) hx hb hN hB.1 1 rfl (vp_in_nI (n := ((k250 * 7) + 4)) (N := n253) (by omega) (by omega)) (by rw [(show ((nI ((k250 * 7) + 4)) : Int32).toNatClampNeg = ((k250 * 7) + 4) from nI_clamp (n := ((k250 * 7) + 4)) (by omega))]) dX2_read_104 ?_
        refine gn_i (fun x260 => ?_)
        refine b_putN (D := D) (ci := 1) (v := .int x260) (ty := .int) (C := RX1) (T := TX1) (N := 7) hx hb hts iX2_read_1 tyX1 tyX1_ok nmX1 hown hN hB 0 rfl rfl 4 (by decide) (hN.f 21 rfl) (fun _ h9 => h9) rfl (by decide +kernel) rfl rfl (Nat.le_of_ble_eq_true rfl) (.inr ⟨rfl, List.mem_of_getElem? (i := 0) rfl⟩) dX2_read_105 (fun H locs hB => ?_)
        have hB : Bx B0 D _ [(v, .inr (1, [.int x255, .int x257, .int x258, .int x259, .int x260, .int f256_5, .int f256_6])), (a252, .inl (cs 0, n253, .inl g253)), (f246_0, .inl (cs 6, 16, .inr (.inr (.inr (.inr g251))))), (f246_1, .inl (cs 0, 16, .inl g247)), (w, .inr (2, [.ref f246_0, .ref f246_1, .int f246_2]))] [v] _ _ := hB
        refine lv_aload_n hx hb dX2_read_108 rfl (lv_at hl 6 rfl) ?_
        refine lv_aload hx hb dX2_read_109 (lv_at hl 1 rfl) ?_
        refine lv_iload hx hb dX2_read_111 (lv_at hl 0 rfl) ?_
        refine lv_iconst (v := 5) hx hb dX2_read_113 (by decide) ?_
        refine lv_iadd hx hb dX2_read_114 ?_
        refine tp_i (nI ((k250 * 7) + 5)) (nI_add (k250 * 7) 5) ?_
        refine ld_i (v := (g253 ((k250 * 7) + 5))) hx hb hN hB.1 1 rfl (vp_in_nI (n := ((k250 * 7) + 5)) (N := n253) (by omega) (by omega)) (by rw [(show ((nI ((k250 * 7) + 5)) : Int32).toNatClampNeg = ((k250 * 7) + 5) from nI_clamp (n := ((k250 * 7) + 5)) (by omega))]) dX2_read_115 ?_
        refine gn_i (fun x261 => ?_)
        refine b_putN (D := D) (ci := 1) (v := .int x261) (ty := .int) (C := RX1) (T := TX1) (N := 7) hx hb hts iX2_read_1 tyX1 tyX1_ok nmX1 hown hN hB 0 rfl rfl 5 (by decide) (hN.f 23 rfl) (fun _ h9 => h9) rfl (by decide +kernel) rfl rfl (Nat.le_of_ble_eq_true rfl) (.inr ⟨rfl, List.mem_of_getElem? (i := 0) rfl⟩) dX2_read_116 (fun H locs hB => ?_)
        have hB : Bx B0 D _ [(v, .inr (1, [.int x255, .int x257, .int x258, .int x259, .int x260, .int x261, .int f256_6])), (a252, .inl (cs 0, n253, .inl g253)), (f246_0, .inl (cs 6, 16, .inr (.inr (.inr (.inr g251))))), (f246_1, .inl (cs 0, 16, .inl g247)), (w, .inr (2, [.ref f246_0, .ref f246_1, .int f246_2]))] [v] _ _ := hB
        refine lv_aload_n hx hb dX2_read_119 rfl (lv_at hl 6 rfl) ?_
        refine lv_aload hx hb dX2_read_120 (lv_at hl 1 rfl) ?_
        refine lv_iload hx hb dX2_read_122 (lv_at hl 0 rfl) ?_
        refine lv_bipush (v := 6) hx hb dX2_read_124 (by decide) ?_
        refine lv_iadd hx hb dX2_read_126 ?_
        refine tp_i (nI ((k250 * 7) + 6)) (nI_add (k250 * 7) 6) ?_
        refine ld_i (v := (g253 ((k250 * 7) + 6))) hx hb hN hB.1 1 rfl (vp_in_nI (n := ((k250 * 7) + 6)) (N := n253) (by omega) (by omega)) (by rw [(show ((nI ((k250 * 7) + 6)) : Int32).toNatClampNeg = ((k250 * 7) + 6) from nI_clamp (n := ((k250 * 7) + 6)) (by omega))]) dX2_read_127 ?_
        refine gn_i (fun x262 => ?_)
        refine b_putN (D := D) (ci := 1) (v := .int x262) (ty := .int) (C := RX1) (T := TX1) (N := 7) hx hb hts iX2_read_1 tyX1 tyX1_ok nmX1 hown hN hB 0 rfl rfl 6 (by decide) (hN.f 25 rfl) (fun _ h9 => h9) rfl (by decide +kernel) rfl rfl (Nat.le_of_ble_eq_true rfl) (.inr ⟨rfl, List.mem_of_getElem? (i := 0) rfl⟩) dX2_read_128 (fun H locs hB => ?_)
        have hB : Bx B0 D _ [(v, .inr (1, [.int x255, .int x257, .int x258, .int x259, .int x260, .int x261, .int x262])), (a252, .inl (cs 0, n253, .inl g253)), (f246_0, .inl (cs 6, 16, .inr (.inr (.inr (.inr g251))))), (f246_1, .inl (cs 0, 16, .inl g247)), (w, .inr (2, [.ref f246_0, .ref f246_1, .int f246_2]))] [v] _ _ := hB
        refine lv_iconst (v := 1) hx hb dX2_read_131 (by decide) ?_
        have hT : WT B0 D cs T κ _ := hT.close hB ⟨⟨0, _, rfl, ok_2 hv.1 ⟨_, _, _, _, _, _, _, rfl⟩⟩, trivial⟩
        have hF : Fr B0 [i] κ H0 _ := hF.close hB (fa_c (by simp [hv.2]) fa_n)
        have hL : OkL B0 _ := hB.2.2.2.2.2
        have hP : va_P D vwCl [(v, .inr (1, [.int x255, .int x257, .int x258, .int x259, .int x260, .int x261, .int x262])), (a252, .inl (cs 0, n253, .inl g253)), (f246_0, .inl (cs 6, 16, .inr (.inr (.inr (.inr g251))))), (f246_1, .inl (cs 0, 16, .inl g247)), (w, .inr (2, [.ref f246_0, .ref f246_1, .int f246_2]))] _ := hB.1
        exact en_i hx hb hr hlocks hL rfl (Nat.zero_le _) (Nat.zero_le _) dX2_read_132 (⟨hT, hF, Or.inr rfl⟩)
      · have c254 : ¬ ((k250 + 1) * 7) ≤ n253 := fun h9 => c254 ((nI_leI (a := ((k250 + 1) * 7)) (b := n253) (by omega) (by omega)).mpr h9)
        refine lv_iconst (v := 0) hx hb dX2_read_38 (by decide) ?_
        exact en_i hx hb hr hlocks hL rfl (Nat.zero_le _) (Nat.zero_le _) dX2_read_39 (⟨hT, hF, Or.inl rfl⟩)
theorem mX2_countAt_1 : (.fieldLink RX2 14 "OneBeat$Mail" "counts" "[I" : Cond) ∈ wsX2_countAt := List.mem_of_getElem? (i := 1) (by decide +kernel)
theorem iX2_countAt_2 : ∀ w ∈ wsX20, w ∈ wsX2_countAt := fun w h => List.mem_of_mem_drop (List.mem_of_mem_take ((show wsX20 = (wsX2_countAt.drop 2).take 3 by decide +kernel) ▸ h))
set_option maxHeartbeats 4000000 in
set_option maxRecDepth 100000 in
theorem c_X2_countAt {l : Launch} {D : va_G} {cs : Nat → ClassId} {B0 T : Nat} {κ : KM} {H0 : Heap} (hT : WT B0 D cs T κ H0) {w i : Nat} (hw : T2 κ w 3 i) {x : Int32} : KC l yX2_countAt wsX2_countAt 0 0 0 0 D cs B0 H0 [.ref w, .int x] (Qi (fun r H => H = H0 ∧ ∃ n, n ≤ 20000 ∧ r = nI n)) := by
  refine KC.of cX2_countAt 2 (some .int) (by decide) rfl (Nat.le_of_ble_eq_true rfl) ?_
  intro p e s m below meth c ls hx hb hr hml hown hts hlocks hin hN hE hH0 hl
  have hown : s.vm.findClass RX2 = some m.cls := hown
  have hl : lv_has ls 2 [(0, .ref w), (1, .int x)] := hl
  have hL : OkL B0 [] := OkL.nil
  refine lv_aload_n hx hb dX2_countAt_0 rfl (lv_at hl 0 rfl) ?_
  obtain ⟨hb263, e263, hat263, hk263⟩ := hT.o3 hw.1
  obtain ⟨f263_0, f263_1, f263_2, rfl, t263_0, t263_1⟩ := hk263
  rw [hw.2] at t263_0
  rw [hw.2] at t263_1
  have hP : va_P D vwCl [(w, .inr (2, [.ref f263_0, .ref f263_1, .int f263_2]))] _ := va_P.cons hat263 va_P.nil
  refine va_get (D := D) (ci := 2) (v := .ref f263_1) (C := RX2) (T := TX2) (N := 3) hx hb hts iX2_countAt_2 hown hN.1 hP 0 rfl rfl 1 (by decide) (hts _ mX2_countAt_1) (fun _ h9 => h9) rfl dX2_countAt_1 ?_
  refine lv_iload_n hx hb dX2_countAt_4 rfl (lv_at hl 1 rfl) ?_
  refine lv_bipush (v := 15) hx hb dX2_countAt_5 (by decide) ?_
  refine lv_iand hx hb dX2_countAt_7 ?_
  have hj264 := m15_lt x
  refine tp_i (nI (m15 x)) (and15 x) ?_
  obtain ⟨hb265, e265, hat265, hk265⟩ := hT.o15 t263_1.1
  obtain ⟨g265, rfl, q265⟩ := hk265
  have hP : va_P D vwCl [(f263_1, .inl (cs 0, 16, .inl g265)), (w, .inr (2, [.ref f263_0, .ref f263_1, .int f263_2]))] _ := va_P.cons hat265 hP
  refine ld_i (v := (g265 (m15 x))) hx hb hN hP 0 rfl (vp_in_nI (n := (m15 x)) (N := 16) (by omega) (by omega)) (by rw [(show ((nI (m15 x)) : Int32).toNatClampNeg = (m15 x) from nI_clamp (n := (m15 x)) (by omega))]) dX2_countAt_8 ?_
  obtain ⟨n266, hn266, en266⟩ := q265 (m15 x) (by omega)
  refine tp_i (nI n266) en266 ?_
  exact en_i hx hb hr hlocks hL rfl (Nat.zero_le _) (Nat.zero_le _) dX2_countAt_9 (⟨rfl, _, (by omega), rfl⟩)
theorem mX7_tellMessage_1 : (.fieldLink RX7 20 "OneBeat$World" "mail" "LOneBeat$Mail;" : Cond) ∈ wsX7_tellMessage := List.mem_of_getElem? (i := 1) (by decide +kernel)
theorem iX7_tellMessage_7 : ∀ w ∈ wsX70, w ∈ wsX7_tellMessage := fun w h => List.mem_of_mem_drop (List.mem_of_mem_take ((show wsX70 = (wsX7_tellMessage.drop 25).take 16 by decide +kernel) ▸ h))
theorem mX7_tellMessage_2 : (.fieldLink RX7 64 "OneBeat$World" "time" "I" : Cond) ∈ wsX7_tellMessage := List.mem_of_getElem? (i := 2) (by decide +kernel)
theorem mX7_tellMessage_3 : (.fieldLink RX7 34 "OneBeat$World" "incoming" "LOneBeat$Letter;" : Cond) ∈ wsX7_tellMessage := List.mem_of_getElem? (i := 3) (by decide +kernel)
theorem hdX2_read_v : yX2_read.cls = RX2 ∧ yX2_read.cls ≠ "java/lang/invoke/MethodHandle" ∧ yX2_read.cls ≠ "java/lang/invoke/VarHandle" ∧ (parseMethodDescriptor yX2_read.desc).map (fun d => d.parameters.length) = some 3 := by decide +kernel
theorem hdX2_countAt_v : yX2_countAt.cls = RX2 ∧ yX2_countAt.cls ≠ "java/lang/invoke/MethodHandle" ∧ yX2_countAt.cls ≠ "java/lang/invoke/VarHandle" ∧ (parseMethodDescriptor yX2_countAt.desc).map (fun d => d.parameters.length) = some 1 := by decide +kernel
theorem hdX1_tell_v : yX1_tell.cls = RX1 ∧ yX1_tell.cls ≠ "java/lang/invoke/MethodHandle" ∧ yX1_tell.cls ≠ "java/lang/invoke/VarHandle" ∧ (parseMethodDescriptor yX1_tell.desc).map (fun d => d.parameters.length) = some 2 := by decide +kernel
set_option maxHeartbeats 4000000 in
set_option maxRecDepth 100000 in
theorem c_X7_tellMessage {l : Launch} {D : va_G} {cs : Nat → ClassId} {B0 T : Nat} {κ : KM} {H0 : Heap} (hT : WT B0 D cs T κ H0) {w i : Nat} (hw : T2 κ w 8 i) {x : Int32} {y : Int32} : KC l yX7_tellMessage wsX7_tellMessage 1 26 0 0 D cs B0 H0 [.ref w, .int x, .int y] (Qi (fun _ H => WT B0 D cs T κ H ∧ Fr B0 [i + 40] κ H0 H)) := by
  refine KC.of cX7_tellMessage 5 (some .int) (by decide) rfl (Nat.le_of_ble_eq_true rfl) ?_
  intro p e s m below meth c ls hx hb hr hml hown hts hlocks hin hN hE hH0 hl
  have hown : s.vm.findClass RX7 = some m.cls := hown
  have hl : lv_has ls 5 [(0, .ref w), (1, .int x), (2, .int y)] := hl
  have hL : OkL B0 [] := OkL.nil
  have hF : Fr B0 [i + 40] κ H0 H0 := Fr.rf
  refine lv_iload_n hx hb dX7_tellMessage_0 rfl (lv_at hl 1 rfl) ?_
  refine lv_istore_n (lv' := [(3, .int x), (0, .ref w), (1, .int x), (2, .int y)]) hx hb dX7_tellMessage_1 rfl hl (by decide) rfl (fun ls hl => ?_)
  refine lv_iconst (v := 1) hx hb dX7_tellMessage_2 (by decide) ?_
  refine lv_istore (lv' := [(4, .int 1), (3, .int x), (0, .ref w), (1, .int x), (2, .int y)]) hx hb dX7_tellMessage_3 hl (by decide) rfl (fun ls hl => ?_)
  refine lp_m (α := Nat × Int32) (nL := 5) (fun a9 => 10 - a9.1) (fun a9 H9 l9 => (a9.1 ≤ 10) ∧ (WT B0 D cs T κ H9) ∧ (Fr B0 [i + 40] κ H0 H9) ∧ (OkL B0 l9)) (fun a9 => [(4, .int (nI a9.1)), (3, .int a9.2), (0, .ref w), (2, .int y)]) ?_ (1, x) _ _ _ ⟨(by show (1) ≤ 10; omega), hT, hF, hL⟩ (lv_sub hl [0, 1, 2, 4] rfl)
  rintro ⟨d, z⟩ H locs ls ih267 ⟨hd, hT, hF, hL⟩ hl
  have hl : lv_has ls 5 [(4, .int (nI d)), (3, .int z), (0, .ref w), (2, .int y)] := hl
  have hd : d ≤ 10 := hd
  refine lv_iload hx hb dX7_tellMessage_5 (lv_at hl 0 rfl) ?_
  refine lv_bipush (v := 9) hx hb dX7_tellMessage_7 (by decide) ?_
  refine lv_icmp_gt (tgt := 73) hx hb dX7_tellMessage_9 (by decide) (fun c268 => ?_) (fun c268 => ?_)
  · have c268 : 9 < d := (nI_ltI (a := 9) (b := d) (by omega) (by omega)).mp c268
    refine lv_iconst (v := 0) hx hb dX7_tellMessage_73 (by decide) ?_
    exact en_i hx hb hr hlocks hL rfl (Nat.zero_le _) (Nat.zero_le _) dX7_tellMessage_74 (⟨hT, hF⟩)
  · have c268 : ¬ 9 < d := fun h9 => c268 ((nI_ltI (a := 9) (b := d) (by omega) (by omega)).mpr h9)
    refine lv_aload_n hx hb dX7_tellMessage_12 rfl (lv_at hl 2 rfl) ?_
    obtain ⟨hb269, e269, hat269, hk269⟩ := hT.o8 hw.1
    obtain ⟨f269_0, f269_1, f269_2, f269_3, f269_4, f269_5, f269_6, f269_7, f269_8, f269_9, f269_10, f269_11, f269_12, f269_13, f269_14, f269_15, rfl, t269_0, c269_su, t269_1, t269_2, t269_3, t269_4, t269_5, c269_tm, c269_lt, c269_ml, c269_pr, c269_li⟩ := hk269
    rw [hw.2] at t269_1
    rw [hw.2] at t269_2
    rw [hw.2] at t269_3
    rw [hw.2] at t269_4
    rw [hw.2] at t269_5
    rw [hw.2] at c269_lt c269_ml c269_pr c269_li
    subst c269_ml
    subst c269_pr
    subst c269_li
    have hP : va_P D vwCl [(w, .inr (7, [.ref f269_0, .ref f269_1, .ref (cs (400 + i)), .ref (cs (420 + i)), .ref (cs (460 + i)), .ref f269_5, .long f269_6, .int f269_7, .int f269_8, .int f269_9, .int f269_10, .int f269_11, .int f269_12, .int f269_13, .int f269_14, .int f269_15]))] _ := va_P.cons hat269 va_P.nil
    refine va_get (D := D) (ci := 7) (v := .ref (cs (400 + i))) (C := RX7) (T := TX7) (N := 16) hx hb hts iX7_tellMessage_7 hown hN.1 hP 0 rfl rfl 2 (by decide) (hts _ mX7_tellMessage_1) (fun _ h9 => h9) rfl dX7_tellMessage_13 ?_
    refine lv_aload_n hx hb dX7_tellMessage_16 rfl (lv_at hl 2 rfl) ?_
    refine va_get (D := D) (ci := 7) (v := .int f269_7) (C := RX7) (T := TX7) (N := 16) hx hb hts iX7_tellMessage_7 hown hN.1 hP 0 rfl rfl 7 (by decide) (hts _ mX7_tellMessage_2) (fun _ h9 => h9) rfl dX7_tellMessage_17 ?_
    refine lv_iload hx hb dX7_tellMessage_20 (lv_at hl 0 rfl) ?_
    refine lv_iadd hx hb dX7_tellMessage_22 ?_
    refine gn_i (fun x270 => ?_)
    refine lv_iload_n hx hb dX7_tellMessage_23 rfl (lv_at hl 1 rfl) ?_
    refine lv_aload_n hx hb dX7_tellMessage_24 rfl (lv_at hl 2 rfl) ?_
    refine va_get (D := D) (ci := 7) (v := .ref (cs (460 + i))) (C := RX7) (T := TX7) (N := 16) hx hb hts iX7_tellMessage_7 hown hN.1 hP 0 rfl rfl 4 (by decide) (hts _ mX7_tellMessage_3) (fun _ h9 => h9) rfl dX7_tellMessage_25 ?_
    refine cv_i (As := [.int x270, .int z, .ref (cs (460 + i))]) (rest := []) (b := (cs (400 + i))) ⟨hx, hb, hml, hown, hts⟩ (c_X2_read hT (w := (cs (400 + i))) t269_2 (x := x270) (y := z) (v := (cs (460 + i))) t269_4) (cwV 3 hts gX7_tellMessage_X2_read rfl rfl rfl hdX2_read_v ⟨Nat.le_of_ble_eq_true rfl, Nat.le_of_ble_eq_true rfl⟩) hN hE hL (rcv3 hN hT t269_2.1) rfl rfl hl.1 (Nat.le_of_ble_eq_true rfl) dX7_tellMessage_28 (Nat.zero_le _) (Nat.zero_le _) (fun r271 H1 locs hL hqr271 => ?_)
    obtain ⟨hT1, hF1, hqr271⟩ := hqr271
    have hP : va_P D vwCl [(w, .inr (7, [.ref f269_0, .ref f269_1, .ref (cs (400 + i)), .ref (cs (420 + i)), .ref (cs (460 + i)), .ref f269_5, .long f269_6, .int f269_7, .int f269_8, .int f269_9, .int f269_10, .int f269_11, .int f269_12, .int f269_13, .int f269_14, .int f269_15]))] _ := hF1.hP (hP.sub [0] rfl) (fa_c ⟨by rw [hw.1]; decide, by rw [hw.2]; first | decide | (simp; done) | (simp [h15a, h15b, h15c]; done) | (simp; omega)⟩ fa_n)
    have hF := hF.tr (hF1.mono (by simp))
    have hT := hT1
    rcases hqr271 with rfl | rfl
    · refine lv_if_eq (tgt := 50) hx hb dX7_tellMessage_31 (by decide) (fun _ => ?_) (fun c9 => absurd (by decide) c9)
      refine lv_iload_n hx hb dX7_tellMessage_50 rfl (lv_at hl 1 rfl) ?_
      refine lv_aload_n hx hb dX7_tellMessage_51 rfl (lv_at hl 2 rfl) ?_
      refine va_get (D := D) (ci := 7) (v := .ref (cs (400 + i))) (C := RX7) (T := TX7) (N := 16) hx hb hts iX7_tellMessage_7 hown hN.1 hP 0 rfl rfl 2 (by decide) (hts _ mX7_tellMessage_1) (fun _ h9 => h9) rfl dX7_tellMessage_52 ?_
      refine lv_aload_n hx hb dX7_tellMessage_55 rfl (lv_at hl 2 rfl) ?_
      refine va_get (D := D) (ci := 7) (v := .int f269_7) (C := RX7) (T := TX7) (N := 16) hx hb hts iX7_tellMessage_7 hown hN.1 hP 0 rfl rfl 7 (by decide) (hts _ mX7_tellMessage_2) (fun _ h9 => h9) rfl dX7_tellMessage_56 ?_
      refine lv_iload hx hb dX7_tellMessage_59 (lv_at hl 0 rfl) ?_
      refine lv_iadd hx hb dX7_tellMessage_61 ?_
      refine gn_i (fun x272 => ?_)
      refine cv_i (As := [.int x272]) (rest := [.int z]) (b := (cs (400 + i))) ⟨hx, hb, hml, hown, hts⟩ (c_X2_countAt hT (w := (cs (400 + i))) t269_2 (x := x272)) (cwV 1 hts gX7_tellMessage_X2_countAt rfl rfl rfl hdX2_countAt_v ⟨Nat.le_of_ble_eq_true rfl, Nat.le_of_ble_eq_true rfl⟩) hN hE hL (rcv3 hN hT t269_2.1) rfl rfl hl.1 (Nat.le_of_ble_eq_true rfl) dX7_tellMessage_62 (Nat.zero_le _) (Nat.zero_le _) (fun r273 H1 locs hL hqr273 => ?_)
      obtain ⟨h9, hqr273⟩ := hqr273; replace h9 := h9.symm; subst h9
      obtain ⟨n274, h275, rfl⟩ := hqr273
      refine lv_isub hx hb dX7_tellMessage_65 ?_
      refine gn_i (fun x276 => ?_)
      refine lv_istore_n (lv' := [(3, .int x276), (4, .int (nI d)), (0, .ref w), (2, .int y)]) hx hb dX7_tellMessage_66 rfl hl (by decide) rfl (fun ls hl => ?_)
      refine lv_iinc (v := (nI (d + 1))) (lv' := [(4, .int (nI (d + 1))), (3, .int x276), (0, .ref w), (2, .int y)]) hx hb dX7_tellMessage_67 hl (k := 1) rfl (nI_add _ 1) (by decide) rfl (fun ls hl => ?_)
      refine lv_goto (tgt := 5) hx hb dX7_tellMessage_70 (by decide) ?_
      exact ih267 ((d + 1), x276) _ _ _ (by show 10 - ((d + 1)) < 10 - d; omega) ⟨(by show ((d + 1)) ≤ 10; omega), hT, hF, hL⟩ (lv_sub hl [0, 1, 2, 3] rfl)
    · refine lv_if_eq (tgt := 50) hx hb dX7_tellMessage_31 (by decide) (fun c9 => absurd c9 (by decide)) (fun _ => ?_)
      refine lv_aload_n hx hb dX7_tellMessage_34 rfl (lv_at hl 2 rfl) ?_
      refine va_get (D := D) (ci := 7) (v := .ref (cs (460 + i))) (C := RX7) (T := TX7) (N := 16) hx hb hts iX7_tellMessage_7 hown hN.1 hP 0 rfl rfl 4 (by decide) (hts _ mX7_tellMessage_3) (fun _ h9 => h9) rfl dX7_tellMessage_35 ?_
      refine lv_iload_n hx hb dX7_tellMessage_38 rfl (lv_at hl 3 rfl) ?_
      refine lv_aload_n hx hb dX7_tellMessage_39 rfl (lv_at hl 2 rfl) ?_
      refine va_get (D := D) (ci := 7) (v := .int f269_7) (C := RX7) (T := TX7) (N := 16) hx hb hts iX7_tellMessage_7 hown hN.1 hP 0 rfl rfl 7 (by decide) (hts _ mX7_tellMessage_2) (fun _ h9 => h9) rfl dX7_tellMessage_40 ?_
      refine lv_iload hx hb dX7_tellMessage_43 (lv_at hl 0 rfl) ?_
      refine lv_iadd hx hb dX7_tellMessage_45 ?_
      refine gn_i (fun x277 => ?_)
      refine cv_i (As := [.int y, .int x277]) (rest := []) (b := (cs (460 + i))) ⟨hx, hb, hml, hown, hts⟩ (c_X1_tell hT (w := (cs (460 + i))) t269_4 (x := y) (y := x277)) (cwV 2 hts gX7_tellMessage_X1_tell rfl rfl rfl hdX1_tell_v ⟨Nat.le_of_ble_eq_true rfl, Nat.le_of_ble_eq_true rfl⟩) hN hE hL (rcv2 hN hT t269_4.1) rfl rfl hl.1 (Nat.le_of_ble_eq_true rfl) dX7_tellMessage_46 (Nat.zero_le _) (Nat.zero_le _) (fun r278 H1 locs hL hqr278 => ?_)
      obtain rfl := hqr278.symm
      exact en_i hx hb hr hlocks hL rfl (Nat.zero_le _) (Nat.zero_le _) dX7_tellMessage_49 (⟨hT, hF⟩)
theorem mX7_canPropose_1 : (.fieldLink RX7 68 "OneBeat$World" "conductor" "I" : Cond) ∈ wsX7_canPropose := List.mem_of_getElem? (i := 1) (by decide +kernel)
theorem iX7_canPropose_7 : ∀ w ∈ wsX70, w ∈ wsX7_canPropose := fun w h => List.mem_of_mem_drop (List.mem_of_mem_take ((show wsX70 = (wsX7_canPropose.drop 9).take 16 by decide +kernel) ▸ h))
theorem iX7_canPropose_3 : ∀ w ∈ wsX30, w ∈ wsX7_canPropose := fun w h => List.mem_of_mem_drop (List.mem_of_mem_take ((show wsX30 = (wsX7_canPropose.drop 25).take 10 by decide +kernel) ▸ h))
theorem mX7_canPropose_2 : (.fieldLink RX7 27 "OneBeat$World" "latest" "LOneBeat$Proposal;" : Cond) ∈ wsX7_canPropose := List.mem_of_getElem? (i := 2) (by decide +kernel)
theorem iX7_canPropose_4 : ∀ w ∈ wsX40, w ∈ wsX7_canPropose := fun w h => List.mem_of_mem_drop (List.mem_of_mem_take ((show wsX40 = (wsX7_canPropose.drop 35).take 8 by decide +kernel) ▸ h))
set_option maxHeartbeats 4000000 in
set_option maxRecDepth 100000 in
theorem c_X7_canPropose {l : Launch} {D : va_G} {cs : Nat → ClassId} {B0 T : Nat} {κ : KM} {H0 : Heap} (hT : WT B0 D cs T κ H0) {w i : Nat} (hw : T2 κ w 8 i) : KC l yX7_canPropose wsX7_canPropose 1 21 0 0 D cs B0 H0 [.ref w] (Qi (fun r H => H = H0 ∧ (r = 0 ∨ r = 1))) := by
  refine KC.of cX7_canPropose 1 (some .boolean) (by decide) rfl (Nat.le_of_ble_eq_true rfl) ?_
  intro p e s m below meth c ls hx hb hr hml hown hts hlocks hin hN hE hH0 hl
  have hown : s.vm.findClass RX7 = some m.cls := hown
  have hl : lv_has ls 1 [(0, .ref w)] := hl
  have hL : OkL B0 [] := OkL.nil
  refine lv_aload_n hx hb dX7_canPropose_0 rfl (lv_at hl 0 rfl) ?_
  refine lv_aload_n hx hb dX7_canPropose_1 rfl (lv_at hl 0 rfl) ?_
  obtain ⟨hb279, e279, hat279, hk279⟩ := hT.o8 hw.1
  obtain ⟨f279_0, f279_1, f279_2, f279_3, f279_4, f279_5, f279_6, f279_7, f279_8, f279_9, f279_10, f279_11, f279_12, f279_13, f279_14, f279_15, rfl, t279_0, c279_su, t279_1, t279_2, t279_3, t279_4, t279_5, c279_tm, c279_lt, c279_ml, c279_pr, c279_li⟩ := hk279
  rw [hw.2] at t279_1
  rw [hw.2] at t279_2
  rw [hw.2] at t279_3
  rw [hw.2] at t279_4
  rw [hw.2] at t279_5
  rw [hw.2] at c279_lt c279_ml c279_pr c279_li
  subst c279_ml
  subst c279_pr
  subst c279_li
  have hP : va_P D vwCl [(w, .inr (7, [.ref f279_0, .ref f279_1, .ref (cs (400 + i)), .ref (cs (420 + i)), .ref (cs (460 + i)), .ref f279_5, .long f279_6, .int f279_7, .int f279_8, .int f279_9, .int f279_10, .int f279_11, .int f279_12, .int f279_13, .int f279_14, .int f279_15]))] _ := va_P.cons hat279 va_P.nil
  refine va_get (D := D) (ci := 7) (v := .int f279_8) (C := RX7) (T := TX7) (N := 16) hx hb hts iX7_canPropose_7 hown hN.1 hP 0 rfl rfl 8 (by decide) (hts _ mX7_canPropose_1) (fun _ h9 => h9) rfl dX7_canPropose_2 ?_
  refine cv_r (As := [.int f279_8]) (rest := []) (b := w) ⟨hx, hb, hml, hown, hts⟩ (c_X7_at hT (w := w) hw (x := f279_8)) (cwV 1 hts gX7_canPropose_X7_at rfl rfl rfl hdX7_at_v ⟨Nat.le_of_ble_eq_true rfl, Nat.le_of_ble_eq_true rfl⟩) hN hE hL (rcv8 hN hT hw.1) rfl rfl hl.1 (Nat.le_of_ble_eq_true rfl) dX7_canPropose_5 (Nat.zero_le _) (Nat.zero_le _) (fun r280 H1 locs hL hqr280 => ?_)
  obtain ⟨h9, hqr280⟩ := hqr280; replace h9 := h9.symm; subst h9
  obtain ⟨hb281, e281, hat281, hk281⟩ := hT.o4 hqr280.1
  obtain ⟨f281_0, f281_1, f281_2, f281_3, f281_4, f281_5, f281_6, f281_7, f281_8, f281_9, rfl, c281_up⟩ := hk281
  have hP : va_P D vwCl [(r280, .inr (3, [.int f281_0, .int f281_1, .int f281_2, .int f281_3, .int f281_4, .int f281_5, .int f281_6, .int f281_7, .int f281_8, .int f281_9])), (w, .inr (7, [.ref f279_0, .ref f279_1, .ref (cs (400 + i)), .ref (cs (420 + i)), .ref (cs (460 + i)), .ref f279_5, .long f279_6, .int f279_7, .int f279_8, .int f279_9, .int f279_10, .int f279_11, .int f279_12, .int f279_13, .int f279_14, .int f279_15]))] _ := va_P.cons hat281 hP
  refine va_getN (D := D) (ci := 3) (v := .int f281_0) (C := RX3) (T := TX3) (N := 10) hx hb hts iX7_canPropose_3 hown hN.1 hP 0 rfl rfl 0 (by decide) (hN.f 27 rfl) (fun _ h9 => h9) rfl dX7_canPropose_8 ?_
  refine lv_if_eq (tgt := 28) hx hb dX7_canPropose_11 (by decide) (fun c282 => ?_) (fun c282 => ?_)
  · refine lv_iconst (v := 0) hx hb dX7_canPropose_28 (by decide) ?_
    exact en_i hx hb hr hlocks hL rfl (Nat.zero_le _) (Nat.zero_le _) dX7_canPropose_29 (⟨rfl, Or.inl rfl⟩)
  · refine lv_aload_n hx hb dX7_canPropose_14 rfl (lv_at hl 0 rfl) ?_
    refine va_get (D := D) (ci := 7) (v := .ref (cs (420 + i))) (C := RX7) (T := TX7) (N := 16) hx hb hts iX7_canPropose_7 hown hN.1 hP 1 rfl rfl 3 (by decide) (hts _ mX7_canPropose_2) (fun _ h9 => h9) rfl dX7_canPropose_15 ?_
    obtain ⟨hb283, e283, hat283, hk283⟩ := hT.o5 t279_3.1
    obtain ⟨f283_0, f283_1, f283_2, f283_3, f283_4, f283_5, f283_6, f283_7, rfl, c283⟩ := hk283
    have hP : va_P D vwCl [((cs (420 + i)), .inr (4, [.int f283_0, .int f283_1, .int f283_2, .int f283_3, .int f283_4, .int f283_5, .int f283_6, .int f283_7])), (r280, .inr (3, [.int f281_0, .int f281_1, .int f281_2, .int f281_3, .int f281_4, .int f281_5, .int f281_6, .int f281_7, .int f281_8, .int f281_9])), (w, .inr (7, [.ref f279_0, .ref f279_1, .ref (cs (400 + i)), .ref (cs (420 + i)), .ref (cs (460 + i)), .ref f279_5, .long f279_6, .int f279_7, .int f279_8, .int f279_9, .int f279_10, .int f279_11, .int f279_12, .int f279_13, .int f279_14, .int f279_15]))] _ := va_P.cons hat283 hP
    refine va_getN (D := D) (ci := 4) (v := .int f283_5) (C := RX4) (T := TX4) (N := 8) hx hb hts iX7_canPropose_4 hown hN.1 hP 0 rfl rfl 5 (by decide) (hN.f 12 rfl) (fun _ h9 => h9) rfl dX7_canPropose_18 ?_
    refine lv_if_eq (tgt := 28) hx hb dX7_canPropose_21 (by decide) (fun c284 => ?_) (fun c284 => ?_)
    · refine lv_iconst (v := 0) hx hb dX7_canPropose_28 (by decide) ?_
      exact en_i hx hb hr hlocks hL rfl (Nat.zero_le _) (Nat.zero_le _) dX7_canPropose_29 (⟨rfl, Or.inl rfl⟩)
    · refine lv_iconst (v := 1) hx hb dX7_canPropose_24 (by decide) ?_
      refine lv_goto (tgt := 29) hx hb dX7_canPropose_25 (by decide) ?_
      exact en_i hx hb hr hlocks hL rfl (Nat.zero_le _) (Nat.zero_le _) dX7_canPropose_29 (⟨rfl, Or.inr rfl⟩)
theorem mX7_isOpen_1 : (.fieldLink RX7 27 "OneBeat$World" "latest" "LOneBeat$Proposal;" : Cond) ∈ wsX7_isOpen := List.mem_of_getElem? (i := 1) (by decide +kernel)
theorem iX7_isOpen_7 : ∀ w ∈ wsX70, w ∈ wsX7_isOpen := fun w h => List.mem_of_mem_drop (List.mem_of_mem_take ((show wsX70 = (wsX7_isOpen.drop 3).take 16 by decide +kernel) ▸ h))
theorem iX7_isOpen_4 : ∀ w ∈ wsX40, w ∈ wsX7_isOpen := fun w h => List.mem_of_mem_drop (List.mem_of_mem_take ((show wsX40 = (wsX7_isOpen.drop 19).take 8 by decide +kernel) ▸ h))
theorem mX7_isOpen_2 : (.fieldLink RX7 77 "OneBeat$World" "made" "I" : Cond) ∈ wsX7_isOpen := List.mem_of_getElem? (i := 2) (by decide +kernel)
set_option maxHeartbeats 4000000 in
set_option maxRecDepth 100000 in
theorem c_X7_isOpen {l : Launch} {D : va_G} {cs : Nat → ClassId} {B0 T : Nat} {κ : KM} {H0 : Heap} (hT : WT B0 D cs T κ H0) {w i : Nat} (hw : T2 κ w 8 i) {x : Int32} : KC l yX7_isOpen wsX7_isOpen 0 0 0 0 D cs B0 H0 [.ref w, .int x] (Qi (fun r H => H = H0 ∧ (r = 0 ∨ r = 1))) := by
  refine KC.of cX7_isOpen 2 (some .boolean) (by decide) rfl (Nat.le_of_ble_eq_true rfl) ?_
  intro p e s m below meth c ls hx hb hr hml hown hts hlocks hin hN hE hH0 hl
  have hown : s.vm.findClass RX7 = some m.cls := hown
  have hl : lv_has ls 2 [(0, .ref w), (1, .int x)] := hl
  have hL : OkL B0 [] := OkL.nil
  refine lv_aload_n hx hb dX7_isOpen_0 rfl (lv_at hl 0 rfl) ?_
  obtain ⟨hb285, e285, hat285, hk285⟩ := hT.o8 hw.1
  obtain ⟨f285_0, f285_1, f285_2, f285_3, f285_4, f285_5, f285_6, f285_7, f285_8, f285_9, f285_10, f285_11, f285_12, f285_13, f285_14, f285_15, rfl, t285_0, c285_su, t285_1, t285_2, t285_3, t285_4, t285_5, c285_tm, c285_lt, c285_ml, c285_pr, c285_li⟩ := hk285
  rw [hw.2] at t285_1
  rw [hw.2] at t285_2
  rw [hw.2] at t285_3
  rw [hw.2] at t285_4
  rw [hw.2] at t285_5
  rw [hw.2] at c285_lt c285_ml c285_pr c285_li
  subst c285_ml
  subst c285_pr
  subst c285_li
  have hP : va_P D vwCl [(w, .inr (7, [.ref f285_0, .ref f285_1, .ref (cs (400 + i)), .ref (cs (420 + i)), .ref (cs (460 + i)), .ref f285_5, .long f285_6, .int f285_7, .int f285_8, .int f285_9, .int f285_10, .int f285_11, .int f285_12, .int f285_13, .int f285_14, .int f285_15]))] _ := va_P.cons hat285 va_P.nil
  refine va_get (D := D) (ci := 7) (v := .ref (cs (420 + i))) (C := RX7) (T := TX7) (N := 16) hx hb hts iX7_isOpen_7 hown hN.1 hP 0 rfl rfl 3 (by decide) (hts _ mX7_isOpen_1) (fun _ h9 => h9) rfl dX7_isOpen_1 ?_
  obtain ⟨hb286, e286, hat286, hk286⟩ := hT.o5 t285_3.1
  obtain ⟨f286_0, f286_1, f286_2, f286_3, f286_4, f286_5, f286_6, f286_7, rfl, c286⟩ := hk286
  have hP : va_P D vwCl [((cs (420 + i)), .inr (4, [.int f286_0, .int f286_1, .int f286_2, .int f286_3, .int f286_4, .int f286_5, .int f286_6, .int f286_7])), (w, .inr (7, [.ref f285_0, .ref f285_1, .ref (cs (400 + i)), .ref (cs (420 + i)), .ref (cs (460 + i)), .ref f285_5, .long f285_6, .int f285_7, .int f285_8, .int f285_9, .int f285_10, .int f285_11, .int f285_12, .int f285_13, .int f285_14, .int f285_15]))] _ := va_P.cons hat286 hP
  refine va_getN (D := D) (ci := 4) (v := .int f286_5) (C := RX4) (T := TX4) (N := 8) hx hb hts iX7_isOpen_4 hown hN.1 hP 0 rfl rfl 5 (by decide) (hN.f 12 rfl) (fun _ h9 => h9) rfl dX7_isOpen_4 ?_
  refine lv_if_ne (tgt := 24) hx hb dX7_isOpen_7 (by decide) (fun c287 => ?_) (fun c287 => ?_)
  · refine lv_iconst (v := 0) hx hb dX7_isOpen_24 (by decide) ?_
    exact en_i hx hb hr hlocks hL rfl (Nat.zero_le _) (Nat.zero_le _) dX7_isOpen_25 (⟨rfl, Or.inl rfl⟩)
  · refine lv_iload_n hx hb dX7_isOpen_10 rfl (lv_at hl 1 rfl) ?_
    refine lv_aload_n hx hb dX7_isOpen_11 rfl (lv_at hl 0 rfl) ?_
    refine va_get (D := D) (ci := 7) (v := .int f285_11) (C := RX7) (T := TX7) (N := 16) hx hb hts iX7_isOpen_7 hown hN.1 hP 1 rfl rfl 11 (by decide) (hts _ mX7_isOpen_2) (fun _ h9 => h9) rfl dX7_isOpen_12 ?_
    refine lv_iconst (v := 1) hx hb dX7_isOpen_15 (by decide) ?_
    refine lv_isub hx hb dX7_isOpen_16 ?_
    refine gn_i (fun x288 => ?_)
    refine lv_icmp_ne (tgt := 24) hx hb dX7_isOpen_17 (by decide) (fun c289 => ?_) (fun c289 => ?_)
    · refine lv_iconst (v := 0) hx hb dX7_isOpen_24 (by decide) ?_
      exact en_i hx hb hr hlocks hL rfl (Nat.zero_le _) (Nat.zero_le _) dX7_isOpen_25 (⟨rfl, Or.inl rfl⟩)
    · refine lv_iconst (v := 1) hx hb dX7_isOpen_20 (by decide) ?_
      refine lv_goto (tgt := 25) hx hb dX7_isOpen_21 (by decide) ?_
      exact en_i hx hb hr hlocks hL rfl (Nat.zero_le _) (Nat.zero_le _) dX7_isOpen_25 (⟨rfl, Or.inr rfl⟩)
theorem mX7_isBusy_1 : (.fieldLink RX7 20 "OneBeat$World" "mail" "LOneBeat$Mail;" : Cond) ∈ wsX7_isBusy := List.mem_of_getElem? (i := 1) (by decide +kernel)
theorem iX7_isBusy_7 : ∀ w ∈ wsX70, w ∈ wsX7_isBusy := fun w h => List.mem_of_mem_drop (List.mem_of_mem_take ((show wsX70 = (wsX7_isBusy.drop 10).take 16 by decide +kernel) ▸ h))
theorem iX7_isBusy_2 : ∀ w ∈ wsX20, w ∈ wsX7_isBusy := fun w h => List.mem_of_mem_drop (List.mem_of_mem_take ((show wsX20 = (wsX7_isBusy.drop 26).take 3 by decide +kernel) ▸ h))
theorem mX7_isBusy_2 : (.fieldLink RX7 27 "OneBeat$World" "latest" "LOneBeat$Proposal;" : Cond) ∈ wsX7_isBusy := List.mem_of_getElem? (i := 2) (by decide +kernel)
theorem iX7_isBusy_4 : ∀ w ∈ wsX40, w ∈ wsX7_isBusy := fun w h => List.mem_of_mem_drop (List.mem_of_mem_take ((show wsX40 = (wsX7_isBusy.drop 29).take 8 by decide +kernel) ▸ h))
theorem mX7_isBusy_3 : (.fieldLink RX7 52 "OneBeat$World" "setup" "LOneBeat$Setup;" : Cond) ∈ wsX7_isBusy := List.mem_of_getElem? (i := 3) (by decide +kernel)
theorem iX7_isBusy_6 : ∀ w ∈ wsX60, w ∈ wsX7_isBusy := fun w h => List.mem_of_mem_drop (List.mem_of_mem_take ((show wsX60 = (wsX7_isBusy.drop 37).take 8 by decide +kernel) ▸ h))
theorem iX7_isBusy_3 : ∀ w ∈ wsX30, w ∈ wsX7_isBusy := fun w h => List.mem_of_mem_drop (List.mem_of_mem_take ((show wsX30 = (wsX7_isBusy.drop 45).take 10 by decide +kernel) ▸ h))
set_option maxHeartbeats 4000000 in
set_option maxRecDepth 100000 in
theorem c_X7_isBusy {l : Launch} {D : va_G} {cs : Nat → ClassId} {B0 T : Nat} {κ : KM} {H0 : Heap} (hT : WT B0 D cs T κ H0) {w i : Nat} (hw : T2 κ w 8 i) : KC l yX7_isBusy wsX7_isBusy 1 21 0 0 D cs B0 H0 [.ref w] (Qi (fun r H => H = H0 ∧ (r = 0 ∨ r = 1))) := by
  refine KC.of cX7_isBusy 2 (some .boolean) (by decide) rfl (Nat.le_of_ble_eq_true rfl) ?_
  intro p e s m below meth c ls hx hb hr hml hown hts hlocks hin hN hE hH0 hl
  have hown : s.vm.findClass RX7 = some m.cls := hown
  have hl : lv_has ls 2 [(0, .ref w)] := hl
  have hL : OkL B0 [] := OkL.nil
  refine lv_aload_n hx hb dX7_isBusy_0 rfl (lv_at hl 0 rfl) ?_
  obtain ⟨hb290, e290, hat290, hk290⟩ := hT.o8 hw.1
  obtain ⟨f290_0, f290_1, f290_2, f290_3, f290_4, f290_5, f290_6, f290_7, f290_8, f290_9, f290_10, f290_11, f290_12, f290_13, f290_14, f290_15, rfl, t290_0, c290_su, t290_1, t290_2, t290_3, t290_4, t290_5, c290_tm, c290_lt, c290_ml, c290_pr, c290_li⟩ := hk290
  rw [hw.2] at t290_1
  rw [hw.2] at t290_2
  rw [hw.2] at t290_3
  rw [hw.2] at t290_4
  rw [hw.2] at t290_5
  rw [hw.2] at c290_lt c290_ml c290_pr c290_li
  subst c290_ml
  subst c290_pr
  subst c290_li
  have hP : va_P D vwCl [(w, .inr (7, [.ref f290_0, .ref f290_1, .ref (cs (400 + i)), .ref (cs (420 + i)), .ref (cs (460 + i)), .ref f290_5, .long f290_6, .int f290_7, .int f290_8, .int f290_9, .int f290_10, .int f290_11, .int f290_12, .int f290_13, .int f290_14, .int f290_15]))] _ := va_P.cons hat290 va_P.nil
  refine va_get (D := D) (ci := 7) (v := .ref (cs (400 + i))) (C := RX7) (T := TX7) (N := 16) hx hb hts iX7_isBusy_7 hown hN.1 hP 0 rfl rfl 2 (by decide) (hts _ mX7_isBusy_1) (fun _ h9 => h9) rfl dX7_isBusy_1 ?_
  obtain ⟨hb291, e291, hat291, hk291⟩ := hT.o3 t290_2.1
  obtain ⟨f291_0, f291_1, f291_2, rfl, t291_0, t291_1⟩ := hk291
  rw [t290_2.2] at t291_0
  rw [t290_2.2] at t291_1
  have hP : va_P D vwCl [((cs (400 + i)), .inr (2, [.ref f291_0, .ref f291_1, .int f291_2])), (w, .inr (7, [.ref f290_0, .ref f290_1, .ref (cs (400 + i)), .ref (cs (420 + i)), .ref (cs (460 + i)), .ref f290_5, .long f290_6, .int f290_7, .int f290_8, .int f290_9, .int f290_10, .int f290_11, .int f290_12, .int f290_13, .int f290_14, .int f290_15]))] _ := va_P.cons hat291 hP
  refine va_getN (D := D) (ci := 2) (v := .int f291_2) (C := RX2) (T := TX2) (N := 3) hx hb hts iX7_isBusy_2 hown hN.1 hP 0 rfl rfl 2 (by decide) (hN.f 4 rfl) (fun _ h9 => h9) rfl dX7_isBusy_4 ?_
  refine lv_if_gt (tgt := 20) hx hb dX7_isBusy_7 (by decide) (fun c292 => ?_) (fun c292 => ?_)
  · refine lv_iconst (v := 1) hx hb dX7_isBusy_20 (by decide) ?_
    exact en_i hx hb hr hlocks hL rfl (Nat.zero_le _) (Nat.zero_le _) dX7_isBusy_21 (⟨rfl, Or.inr rfl⟩)
  · refine lv_aload_n hx hb dX7_isBusy_10 rfl (lv_at hl 0 rfl) ?_
    refine va_get (D := D) (ci := 7) (v := .ref (cs (420 + i))) (C := RX7) (T := TX7) (N := 16) hx hb hts iX7_isBusy_7 hown hN.1 hP 1 rfl rfl 3 (by decide) (hts _ mX7_isBusy_2) (fun _ h9 => h9) rfl dX7_isBusy_11 ?_
    obtain ⟨hb293, e293, hat293, hk293⟩ := hT.o5 t290_3.1
    obtain ⟨f293_0, f293_1, f293_2, f293_3, f293_4, f293_5, f293_6, f293_7, rfl, c293⟩ := hk293
    have hP : va_P D vwCl [((cs (420 + i)), .inr (4, [.int f293_0, .int f293_1, .int f293_2, .int f293_3, .int f293_4, .int f293_5, .int f293_6, .int f293_7])), ((cs (400 + i)), .inr (2, [.ref f291_0, .ref f291_1, .int f291_2])), (w, .inr (7, [.ref f290_0, .ref f290_1, .ref (cs (400 + i)), .ref (cs (420 + i)), .ref (cs (460 + i)), .ref f290_5, .long f290_6, .int f290_7, .int f290_8, .int f290_9, .int f290_10, .int f290_11, .int f290_12, .int f290_13, .int f290_14, .int f290_15]))] _ := va_P.cons hat293 hP
    refine va_getN (D := D) (ci := 4) (v := .int f293_5) (C := RX4) (T := TX4) (N := 8) hx hb hts iX7_isBusy_4 hown hN.1 hP 0 rfl rfl 5 (by decide) (hN.f 12 rfl) (fun _ h9 => h9) rfl dX7_isBusy_14 ?_
    refine lv_if_ne (tgt := 22) hx hb dX7_isBusy_17 (by decide) (fun c294 => ?_) (fun c294 => ?_)
    · refine lv_iconst (v := 0) hx hb dX7_isBusy_22 (by decide) ?_
      refine lv_istore_n (lv' := [(1, .int 0), (0, .ref w)]) hx hb dX7_isBusy_23 rfl hl (by decide) rfl (fun ls hl => ?_)
      refine lp_r (B0 := B0) (α := Nat) (nL := 2) (fun a9 => 8 - a9) (fun a9 => (a9 ≤ 8)) (fun a9 => [(1, .int (nI a9)), (0, .ref w)]) ?_ 0 _ _ (by show (0) ≤ 8; omega) hL (lv_sub hl [0, 1] rfl)
      rintro p locs ls ih295 hp hL hl
      have hl : lv_has ls 2 [(1, .int (nI p)), (0, .ref w)] := hl
      have hp : p ≤ 8 := hp
      refine lv_iload_n hx hb dX7_isBusy_24 rfl (lv_at hl 0 rfl) ?_
      refine lv_aload_n hx hb dX7_isBusy_25 rfl (lv_at hl 1 rfl) ?_
      refine va_get (D := D) (ci := 7) (v := .ref f290_0) (C := RX7) (T := TX7) (N := 16) hx hb hts iX7_isBusy_7 hown hN.1 hP 2 rfl rfl 0 (by decide) (hts _ mX7_isBusy_3) (fun _ h9 => h9) rfl dX7_isBusy_26 ?_
      obtain ⟨hb296, e296, hat296, hk296⟩ := hT.o7 t290_0.1
      obtain ⟨f296_0, f296_1, f296_2, f296_3, f296_4, f296_5, f296_6, f296_7, rfl, c296_0, c296_3, c296_mg, t296_4, t296_5, t296_6, t296_7⟩ := hk296
      rw [t290_0.2] at t296_4
      rw [t290_0.2] at t296_5
      rw [t290_0.2] at t296_6
      rw [t290_0.2] at t296_7
      have hP : va_P D vwCl [(f290_0, .inr (6, [.int (nI f296_0), .int f296_1, .int f296_2, f296_3, .ref f296_4, .ref f296_5, .ref f296_6, .ref f296_7])), ((cs (420 + i)), .inr (4, [.int f293_0, .int f293_1, .int f293_2, .int f293_3, .int f293_4, .int f293_5, .int f293_6, .int f293_7])), ((cs (400 + i)), .inr (2, [.ref f291_0, .ref f291_1, .int f291_2])), (w, .inr (7, [.ref f290_0, .ref f290_1, .ref (cs (400 + i)), .ref (cs (420 + i)), .ref (cs (460 + i)), .ref f290_5, .long f290_6, .int f290_7, .int f290_8, .int f290_9, .int f290_10, .int f290_11, .int f290_12, .int f290_13, .int f290_14, .int f290_15]))] _ := va_P.cons hat296 hP
      refine va_getN (D := D) (ci := 6) (v := .int (nI f296_0)) (C := RX6) (T := TX6) (N := 8) hx hb hts iX7_isBusy_6 hown hN.1 hP 0 rfl rfl 0 (by decide) (hN.f 39 rfl) (fun _ h9 => h9) rfl dX7_isBusy_29 ?_
      refine lv_icmp_ge (tgt := 66) hx hb dX7_isBusy_32 (by decide) (fun c297 => ?_) (fun c297 => ?_)
      · have c297 : f296_0 ≤ p := (nI_leI (a := f296_0) (b := p) (by omega) (by omega)).mp c297
        refine lv_iconst (v := 0) hx hb dX7_isBusy_66 (by decide) ?_
        exact en_i hx hb hr hlocks hL rfl (Nat.zero_le _) (Nat.zero_le _) dX7_isBusy_67 (⟨rfl, Or.inl rfl⟩)
      · have c297 : ¬ f296_0 ≤ p := fun h9 => c297 ((nI_leI (a := f296_0) (b := p) (by omega) (by omega)).mpr h9)
        refine lv_aload_n hx hb dX7_isBusy_35 rfl (lv_at hl 1 rfl) ?_
        refine lv_iload_n hx hb dX7_isBusy_36 rfl (lv_at hl 0 rfl) ?_
        refine cv_r (As := [.int (nI p)]) (rest := []) (b := w) ⟨hx, hb, hml, hown, hts⟩ (c_X7_at hT (w := w) hw (x := (nI p))) (cwV 1 hts gX7_isBusy_X7_at rfl rfl rfl hdX7_at_v ⟨Nat.le_of_ble_eq_true rfl, Nat.le_of_ble_eq_true rfl⟩) hN hE hL (rcv8 hN hT hw.1) rfl rfl hl.1 (Nat.le_of_ble_eq_true rfl) dX7_isBusy_37 (Nat.zero_le _) (Nat.zero_le _) (fun r298 H1 locs hL hqr298 => ?_)
        obtain ⟨h9, hqr298⟩ := hqr298; replace h9 := h9.symm; subst h9
        obtain ⟨hb299, e299, hat299, hk299⟩ := hT.o4 hqr298.1
        obtain ⟨f299_0, f299_1, f299_2, f299_3, f299_4, f299_5, f299_6, f299_7, f299_8, f299_9, rfl, c299_up⟩ := hk299
        have hP : va_P D vwCl [(r298, .inr (3, [.int f299_0, .int f299_1, .int f299_2, .int f299_3, .int f299_4, .int f299_5, .int f299_6, .int f299_7, .int f299_8, .int f299_9])), (f290_0, .inr (6, [.int (nI f296_0), .int f296_1, .int f296_2, f296_3, .ref f296_4, .ref f296_5, .ref f296_6, .ref f296_7])), ((cs (420 + i)), .inr (4, [.int f293_0, .int f293_1, .int f293_2, .int f293_3, .int f293_4, .int f293_5, .int f293_6, .int f293_7])), ((cs (400 + i)), .inr (2, [.ref f291_0, .ref f291_1, .int f291_2])), (w, .inr (7, [.ref f290_0, .ref f290_1, .ref (cs (400 + i)), .ref (cs (420 + i)), .ref (cs (460 + i)), .ref f290_5, .long f290_6, .int f290_7, .int f290_8, .int f290_9, .int f290_10, .int f290_11, .int f290_12, .int f290_13, .int f290_14, .int f290_15]))] _ := va_P.cons hat299 hP
        refine va_getN (D := D) (ci := 3) (v := .int f299_0) (C := RX3) (T := TX3) (N := 10) hx hb hts iX7_isBusy_3 hown hN.1 hP 0 rfl rfl 0 (by decide) (hN.f 27 rfl) (fun _ h9 => h9) rfl dX7_isBusy_40 ?_
        refine lv_if_eq (tgt := 60) hx hb dX7_isBusy_43 (by decide) (fun c300 => ?_) (fun c300 => ?_)
        · refine lv_iinc (v := (nI (p + 1))) (lv' := [(1, .int (nI (p + 1))), (0, .ref w)]) hx hb dX7_isBusy_60 hl (k := 0) rfl (nI_add _ 1) (by decide) rfl (fun ls hl => ?_)
          refine lv_goto (tgt := 24) hx hb dX7_isBusy_63 (by decide) ?_
          exact ih295 (p + 1) _ _ (by show 8 - ((p + 1)) < 8 - p; omega) (by show ((p + 1)) ≤ 8; omega) hL (lv_sub hl [0, 1] rfl)
        · refine lv_aload_n hx hb dX7_isBusy_46 rfl (lv_at hl 1 rfl) ?_
          refine lv_iload_n hx hb dX7_isBusy_47 rfl (lv_at hl 0 rfl) ?_
          refine cv_r (As := [.int (nI p)]) (rest := []) (b := w) ⟨hx, hb, hml, hown, hts⟩ (c_X7_at hT (w := w) hw (x := (nI p))) (cwV 1 hts gX7_isBusy_X7_at rfl rfl rfl hdX7_at_v ⟨Nat.le_of_ble_eq_true rfl, Nat.le_of_ble_eq_true rfl⟩) hN hE hL (rcv8 hN hT hw.1) rfl rfl hl.1 (Nat.le_of_ble_eq_true rfl) dX7_isBusy_48 (Nat.zero_le _) (Nat.zero_le _) (fun r301 H1 locs hL hqr301 => ?_)
          obtain ⟨h9, hqr301⟩ := hqr301; replace h9 := h9.symm; subst h9
          obtain ⟨hb302, e302, hat302, hk302⟩ := hT.o4 hqr301.1
          obtain ⟨f302_0, f302_1, f302_2, f302_3, f302_4, f302_5, f302_6, f302_7, f302_8, f302_9, rfl, c302_up⟩ := hk302
          have hP : va_P D vwCl [(r301, .inr (3, [.int f302_0, .int f302_1, .int f302_2, .int f302_3, .int f302_4, .int f302_5, .int f302_6, .int f302_7, .int f302_8, .int f302_9])), (r298, .inr (3, [.int f299_0, .int f299_1, .int f299_2, .int f299_3, .int f299_4, .int f299_5, .int f299_6, .int f299_7, .int f299_8, .int f299_9])), (f290_0, .inr (6, [.int (nI f296_0), .int f296_1, .int f296_2, f296_3, .ref f296_4, .ref f296_5, .ref f296_6, .ref f296_7])), ((cs (420 + i)), .inr (4, [.int f293_0, .int f293_1, .int f293_2, .int f293_3, .int f293_4, .int f293_5, .int f293_6, .int f293_7])), ((cs (400 + i)), .inr (2, [.ref f291_0, .ref f291_1, .int f291_2])), (w, .inr (7, [.ref f290_0, .ref f290_1, .ref (cs (400 + i)), .ref (cs (420 + i)), .ref (cs (460 + i)), .ref f290_5, .long f290_6, .int f290_7, .int f290_8, .int f290_9, .int f290_10, .int f290_11, .int f290_12, .int f290_13, .int f290_14, .int f290_15]))] _ := va_P.cons hat302 hP
          refine va_getN (D := D) (ci := 3) (v := .int f302_3) (C := RX3) (T := TX3) (N := 10) hx hb hts iX7_isBusy_3 hown hN.1 hP 0 rfl rfl 3 (by decide) (hN.f 31 rfl) (fun _ h9 => h9) rfl dX7_isBusy_51 ?_
          refine lv_iconst (v := 2) hx hb dX7_isBusy_54 (by decide) ?_
          refine lv_icmp_ne (tgt := 60) hx hb dX7_isBusy_55 (by decide) (fun c303 => ?_) (fun c303 => ?_)
          · refine lv_iinc (v := (nI (p + 1))) (lv' := [(1, .int (nI (p + 1))), (0, .ref w)]) hx hb dX7_isBusy_60 hl (k := 0) rfl (nI_add _ 1) (by decide) rfl (fun ls hl => ?_)
            refine lv_goto (tgt := 24) hx hb dX7_isBusy_63 (by decide) ?_
            exact ih295 (p + 1) _ _ (by show 8 - ((p + 1)) < 8 - p; omega) (by show ((p + 1)) ≤ 8; omega) hL (lv_sub hl [0, 1] rfl)
          · refine lv_iconst (v := 1) hx hb dX7_isBusy_58 (by decide) ?_
            exact en_i hx hb hr hlocks hL rfl (Nat.zero_le _) (Nat.zero_le _) dX7_isBusy_59 (⟨rfl, Or.inr rfl⟩)
    · refine lv_iconst (v := 1) hx hb dX7_isBusy_20 (by decide) ?_
      exact en_i hx hb hr hlocks hL rfl (Nat.zero_le _) (Nat.zero_le _) dX7_isBusy_21 (⟨rfl, Or.inr rfl⟩)
theorem mX7_makeConductor_1 : (.fieldLink RX7 68 "OneBeat$World" "conductor" "I" : Cond) ∈ wsX7_makeConductor := List.mem_of_getElem? (i := 1) (by decide +kernel)
theorem iX7_makeConductor_7 : ∀ w ∈ wsX70, w ∈ wsX7_makeConductor := fun w h => List.mem_of_mem_drop (List.mem_of_mem_take ((show wsX70 = (wsX7_makeConductor.drop 8).take 16 by decide +kernel) ▸ h))
theorem mX7_makeConductor_2 : (.fieldLink RX7 11 "OneBeat$World" "players" "[LOneBeat$Player;" : Cond) ∈ wsX7_makeConductor := List.mem_of_getElem? (i := 2) (by decide +kernel)
theorem iX7_makeConductor_3 : ∀ w ∈ wsX30, w ∈ wsX7_makeConductor := fun w h => List.mem_of_mem_drop (List.mem_of_mem_take ((show wsX30 = (wsX7_makeConductor.drop 24).take 10 by decide +kernel) ▸ h))
set_option maxHeartbeats 4000000 in
set_option maxRecDepth 100000 in
theorem c_X7_makeConductor {l : Launch} {D : va_G} {cs : Nat → ClassId} {B0 T : Nat} {κ : KM} {H0 : Heap} (hT : WT B0 D cs T κ H0) {w i : Nat} (hw : T2 κ w 8 i) {x : Int32} : KC l yX7_makeConductor wsX7_makeConductor 1 21 0 0 D cs B0 H0 [.ref w, .int x] (Qv (fun H => WT B0 D cs T κ H ∧ Fr B0 [i] κ H0 H)) := by
  refine KC.of cX7_makeConductor 3 none (by decide) rfl (Nat.le_of_ble_eq_true rfl) ?_
  intro p e s m below meth c ls hx hb hr hml hown hts hlocks hin hN hE hH0 hl
  have hown : s.vm.findClass RX7 = some m.cls := hown
  have hl : lv_has ls 3 [(0, .ref w), (1, .int x)] := hl
  have hL : OkL B0 [] := OkL.nil
  have hF : Fr B0 [i] κ H0 H0 := Fr.rf
  refine lv_aload_n hx hb dX7_makeConductor_0 rfl (lv_at hl 0 rfl) ?_
  refine lv_iload_n hx hb dX7_makeConductor_1 rfl (lv_at hl 1 rfl) ?_
  obtain ⟨hb304, e304, hat304, hk304⟩ := hT.o8 hw.1
  obtain ⟨f304_0, f304_1, f304_2, f304_3, f304_4, f304_5, f304_6, f304_7, f304_8, f304_9, f304_10, f304_11, f304_12, f304_13, f304_14, f304_15, rfl, t304_0, c304_su, t304_1, t304_2, t304_3, t304_4, t304_5, c304_tm, c304_lt, c304_ml, c304_pr, c304_li⟩ := hk304
  rw [hw.2] at t304_1
  rw [hw.2] at t304_2
  rw [hw.2] at t304_3
  rw [hw.2] at t304_4
  rw [hw.2] at t304_5
  rw [hw.2] at c304_lt c304_ml c304_pr c304_li
  subst c304_ml
  subst c304_pr
  subst c304_li
  have hP : va_P D vwCl [(w, .inr (7, [.ref f304_0, .ref f304_1, .ref (cs (400 + i)), .ref (cs (420 + i)), .ref (cs (460 + i)), .ref f304_5, .long f304_6, .int f304_7, .int f304_8, .int f304_9, .int f304_10, .int f304_11, .int f304_12, .int f304_13, .int f304_14, .int f304_15]))] _ := va_P.cons hat304 va_P.nil
  have hB : Bx B0 D _ [(w, .inr (7, [.ref f304_0, .ref f304_1, .ref (cs (400 + i)), .ref (cs (420 + i)), .ref (cs (460 + i)), .ref f304_5, .long f304_6, .int f304_7, .int f304_8, .int f304_9, .int f304_10, .int f304_11, .int f304_12, .int f304_13, .int f304_14, .int f304_15]))] [] _ _ := Bx.of (fun a => (κ a).1) hL hP (fa_c hb304 fa_n) (by simp only [List.map_cons, List.map_nil, hw.1]; decide)
  refine b_put (D := D) (ci := 7) (v := .int x) (ty := .int) (C := RX7) (T := TX7) (N := 16) hx hb hts iX7_makeConductor_7 tyX7 tyX7_ok nmX7 hown hN hB 0 rfl rfl 8 (by decide) (hts _ mX7_makeConductor_1) (fun _ h9 => h9) rfl (by decide +kernel) rfl rfl (Nat.le_of_ble_eq_true rfl) (.inl rfl) dX7_makeConductor_2 (fun H locs hB => ?_)
  have hB : Bx B0 D _ [(w, .inr (7, [.ref f304_0, .ref f304_1, .ref (cs (400 + i)), .ref (cs (420 + i)), .ref (cs (460 + i)), .ref f304_5, .long f304_6, .int f304_7, .int x, .int f304_9, .int f304_10, .int f304_11, .int f304_12, .int f304_13, .int f304_14, .int f304_15]))] [w] _ _ := hB
  refine lv_iconst (v := 0) hx hb dX7_makeConductor_5 (by decide) ?_
  refine lv_istore_n (lv' := [(2, .int 0), (0, .ref w), (1, .int x)]) hx hb dX7_makeConductor_6 rfl hl (by decide) rfl (fun ls hl => ?_)
  have hT : WT B0 D cs T κ _ := hT.close hB ⟨⟨0, _, rfl, ok_8 hw.1 ⟨_, _, _, _, _, _, _, _, _, _, _, _, _, _, _, _, rfl, t304_0, c304_su, ⟨t304_1.1, by rw [hw.2]; exact t304_1.2⟩, ⟨t304_2.1, by rw [hw.2]; exact t304_2.2⟩, ⟨t304_3.1, by rw [hw.2]; exact t304_3.2⟩, ⟨t304_4.1, by rw [hw.2]; exact t304_4.2⟩, ⟨t304_5.1, by rw [hw.2]; exact t304_5.2⟩, c304_tm, (by rw [hw.2]; omega), (by first | rw [hw.2] | (dsimp only; rw [hw.2])), (by first | rw [hw.2] | (dsimp only; rw [hw.2])), (by first | rw [hw.2] | (dsimp only; rw [hw.2]))⟩⟩, trivial⟩
  have hF : Fr B0 [i] κ H0 _ := hF.close hB (fa_c (by simp [hw.2]) fa_n)
  have hL : OkL B0 _ := hB.2.2.2.2.2
  have hP : va_P D vwCl [(w, .inr (7, [.ref f304_0, .ref f304_1, .ref (cs (400 + i)), .ref (cs (420 + i)), .ref (cs (460 + i)), .ref f304_5, .long f304_6, .int f304_7, .int x, .int f304_9, .int f304_10, .int f304_11, .int f304_12, .int f304_13, .int f304_14, .int f304_15]))] _ := hB.1
  refine lp_m (α := Nat) (nL := 3) (fun a9 => 8 - a9) (fun a9 H9 l9 => (a9 ≤ 8) ∧ (WT B0 D cs T κ H9) ∧ (Fr B0 [i] κ H0 H9) ∧ (OkL B0 l9)) (fun a9 => [(2, .int (nI a9)), (0, .ref w)]) ?_ 0 _ _ _ ⟨(by show (0) ≤ 8; omega), hT, hF, hL⟩ (lv_sub hl [0, 1] rfl)
  rintro p H locs ls ih305 ⟨hp, hT, hF, hL⟩ hl
  have hl : lv_has ls 3 [(2, .int (nI p)), (0, .ref w)] := hl
  have hp : p ≤ 8 := hp
  refine lv_iload_n hx hb dX7_makeConductor_7 rfl (lv_at hl 0 rfl) ?_
  refine lv_aload_n hx hb dX7_makeConductor_8 rfl (lv_at hl 1 rfl) ?_
  obtain ⟨hb306, e306, hat306, hk306⟩ := hT.o8 hw.1
  obtain ⟨f306_0, f306_1, f306_2, f306_3, f306_4, f306_5, f306_6, f306_7, f306_8, f306_9, f306_10, f306_11, f306_12, f306_13, f306_14, f306_15, rfl, t306_0, c306_su, t306_1, t306_2, t306_3, t306_4, t306_5, c306_tm, c306_lt, c306_ml, c306_pr, c306_li⟩ := hk306
  rw [hw.2] at t306_1
  rw [hw.2] at t306_2
  rw [hw.2] at t306_3
  rw [hw.2] at t306_4
  rw [hw.2] at t306_5
  rw [hw.2] at c306_lt c306_ml c306_pr c306_li
  subst c306_ml
  subst c306_pr
  subst c306_li
  have hP : va_P D vwCl [(w, .inr (7, [.ref f306_0, .ref f306_1, .ref (cs (400 + i)), .ref (cs (420 + i)), .ref (cs (460 + i)), .ref f306_5, .long f306_6, .int f306_7, .int f306_8, .int f306_9, .int f306_10, .int f306_11, .int f306_12, .int f306_13, .int f306_14, .int f306_15]))] _ := va_P.cons hat306 va_P.nil
  refine va_get (D := D) (ci := 7) (v := .ref f306_1) (C := RX7) (T := TX7) (N := 16) hx hb hts iX7_makeConductor_7 hown hN.1 hP 0 rfl rfl 1 (by decide) (hts _ mX7_makeConductor_2) (fun _ h9 => h9) rfl dX7_makeConductor_9 ?_
  obtain ⟨hb307, e307, hat307, hk307⟩ := hT.o11 t306_1.1
  obtain ⟨g307, rfl, q307⟩ := hk307
  rw [t306_1.2] at q307
  have hP : va_P D vwCl [(f306_1, .inl (cs 4, 8, .inr (.inr (.inr (.inr g307))))), (w, .inr (7, [.ref f306_0, .ref f306_1, .ref (cs (400 + i)), .ref (cs (420 + i)), .ref (cs (460 + i)), .ref f306_5, .long f306_6, .int f306_7, .int f306_8, .int f306_9, .int f306_10, .int f306_11, .int f306_12, .int f306_13, .int f306_14, .int f306_15]))] _ := va_P.cons hat307 hP
  refine va_alen (v := 8) hx hb hN.1 hP 0 4 rfl rfl rfl dX7_makeConductor_12 ?_
  refine lv_icmp_ge (tgt := 31) hx hb dX7_makeConductor_13 (by decide) (fun c308 => ?_) (fun c308 => ?_)
  · have c308 : 8 ≤ p := (nI_leI (a := 8) (b := p) (by omega) (by omega)).mp c308
    exact en_v hx hb hr hlocks hL (Nat.zero_le _) (Nat.zero_le _) dX7_makeConductor_31 (⟨hT, hF⟩)
  · have c308 : ¬ 8 ≤ p := fun h9 => c308 ((nI_leI (a := 8) (b := p) (by omega) (by omega)).mpr h9)
    refine lv_aload_n hx hb dX7_makeConductor_16 rfl (lv_at hl 1 rfl) ?_
    refine lv_iload_n hx hb dX7_makeConductor_17 rfl (lv_at hl 0 rfl) ?_
    refine cv_r (As := [.int (nI p)]) (rest := []) (b := w) ⟨hx, hb, hml, hown, hts⟩ (c_X7_at hT (w := w) hw (x := (nI p))) (cwV 1 hts gX7_makeConductor_X7_at rfl rfl rfl hdX7_at_v ⟨Nat.le_of_ble_eq_true rfl, Nat.le_of_ble_eq_true rfl⟩) hN hE hL (rcv8 hN hT hw.1) rfl rfl hl.1 (Nat.le_of_ble_eq_true rfl) dX7_makeConductor_18 (Nat.zero_le _) (Nat.zero_le _) (fun r309 H1 locs hL hqr309 => ?_)
    obtain ⟨h9, hqr309⟩ := hqr309; replace h9 := h9.symm; subst h9
    refine lv_iconst (v := 0) hx hb dX7_makeConductor_21 (by decide) ?_
    obtain ⟨hb310, e310, hat310, hk310⟩ := hT.o4 hqr309.1
    obtain ⟨f310_0, f310_1, f310_2, f310_3, f310_4, f310_5, f310_6, f310_7, f310_8, f310_9, rfl, c310_up⟩ := hk310
    have hP : va_P D vwCl [(r309, .inr (3, [.int f310_0, .int f310_1, .int f310_2, .int f310_3, .int f310_4, .int f310_5, .int f310_6, .int f310_7, .int f310_8, .int f310_9])), (f306_1, .inl (cs 4, 8, .inr (.inr (.inr (.inr g307))))), (w, .inr (7, [.ref f306_0, .ref f306_1, .ref (cs (400 + i)), .ref (cs (420 + i)), .ref (cs (460 + i)), .ref f306_5, .long f306_6, .int f306_7, .int f306_8, .int f306_9, .int f306_10, .int f306_11, .int f306_12, .int f306_13, .int f306_14, .int f306_15]))] _ := va_P.cons hat310 hP
    have hB : Bx B0 D _ [(r309, .inr (3, [.int f310_0, .int f310_1, .int f310_2, .int f310_3, .int f310_4, .int f310_5, .int f310_6, .int f310_7, .int f310_8, .int f310_9])), (f306_1, .inl (cs 4, 8, .inr (.inr (.inr (.inr g307))))), (w, .inr (7, [.ref f306_0, .ref f306_1, .ref (cs (400 + i)), .ref (cs (420 + i)), .ref (cs (460 + i)), .ref f306_5, .long f306_6, .int f306_7, .int f306_8, .int f306_9, .int f306_10, .int f306_11, .int f306_12, .int f306_13, .int f306_14, .int f306_15]))] [] _ _ := Bx.of (fun a => (κ a).1) hL hP (fa_c hb310 (fa_c hb307 (fa_c hb306 fa_n))) (by simp only [List.map_cons, List.map_nil, hqr309.1, t306_1.1, hw.1]; decide)
    refine b_putN (D := D) (ci := 3) (v := .int 0) (ty := .int) (C := RX3) (T := TX3) (N := 10) hx hb hts iX7_makeConductor_3 tyX3 tyX3_ok nmX3 hown hN hB 0 rfl rfl 1 (by decide) (hN.f 29 rfl) (fun _ h9 => h9) rfl (by decide +kernel) rfl rfl (Nat.le_of_ble_eq_true rfl) (.inl rfl) dX7_makeConductor_22 (fun H locs hB => ?_)
    have hB : Bx B0 D _ [(r309, .inr (3, [.int f310_0, .int 0, .int f310_2, .int f310_3, .int f310_4, .int f310_5, .int f310_6, .int f310_7, .int f310_8, .int f310_9])), (f306_1, .inl (cs 4, 8, .inr (.inr (.inr (.inr g307))))), (w, .inr (7, [.ref f306_0, .ref f306_1, .ref (cs (400 + i)), .ref (cs (420 + i)), .ref (cs (460 + i)), .ref f306_5, .long f306_6, .int f306_7, .int f306_8, .int f306_9, .int f306_10, .int f306_11, .int f306_12, .int f306_13, .int f306_14, .int f306_15]))] [r309] _ _ := hB
    refine lv_iinc (v := (nI (p + 1))) (lv' := [(2, .int (nI (p + 1))), (0, .ref w)]) hx hb dX7_makeConductor_25 hl (k := 0) rfl (nI_add _ 1) (by decide) rfl (fun ls hl => ?_)
    refine lv_goto (tgt := 7) hx hb dX7_makeConductor_28 (by decide) ?_
    have hT : WT B0 D cs T κ _ := hT.close hB ⟨⟨0, _, rfl, ok_4 hqr309.1 ⟨_, _, _, _, _, _, _, _, _, _, rfl, c310_up⟩⟩, trivial⟩
    have hF : Fr B0 [i] κ H0 _ := hF.close hB (fa_c (by simp [hqr309.2]) fa_n)
    have hL : OkL B0 _ := hB.2.2.2.2.2
    have hP : va_P D vwCl [(r309, .inr (3, [.int f310_0, .int 0, .int f310_2, .int f310_3, .int f310_4, .int f310_5, .int f310_6, .int f310_7, .int f310_8, .int f310_9])), (f306_1, .inl (cs 4, 8, .inr (.inr (.inr (.inr g307))))), (w, .inr (7, [.ref f306_0, .ref f306_1, .ref (cs (400 + i)), .ref (cs (420 + i)), .ref (cs (460 + i)), .ref f306_5, .long f306_6, .int f306_7, .int f306_8, .int f306_9, .int f306_10, .int f306_11, .int f306_12, .int f306_13, .int f306_14, .int f306_15]))] _ := hB.1
    exact ih305 (p + 1) _ _ _ (by show 8 - ((p + 1)) < 8 - p; omega) ⟨(by show ((p + 1)) ≤ 8; omega), hT, hF, hL⟩ (lv_sub hl [0, 1] rfl)
theorem hdX3_canChange_v : yX3_canChange.cls = RX3 ∧ yX3_canChange.cls ≠ "java/lang/invoke/MethodHandle" ∧ yX3_canChange.cls ≠ "java/lang/invoke/VarHandle" ∧ (parseMethodDescriptor yX3_canChange.desc).map (fun d => d.parameters.length) = some 1 := by decide +kernel
theorem iX7_changeIfDue_3 : ∀ w ∈ wsX30, w ∈ wsX7_changeIfDue := fun w h => List.mem_of_mem_drop (List.mem_of_mem_take ((show wsX30 = (wsX7_changeIfDue.drop 57).take 10 by decide +kernel) ▸ h))
theorem mX7_changeIfDue_1 : (.fieldLink RX7 77 "OneBeat$World" "made" "I" : Cond) ∈ wsX7_changeIfDue := List.mem_of_getElem? (i := 1) (by decide +kernel)
theorem iX7_changeIfDue_7 : ∀ w ∈ wsX70, w ∈ wsX7_changeIfDue := fun w h => List.mem_of_mem_drop (List.mem_of_mem_take ((show wsX70 = (wsX7_changeIfDue.drop 67).take 16 by decide +kernel) ▸ h))
theorem mX7_changeIfDue_3 : (.fieldLink RX7 64 "OneBeat$World" "time" "I" : Cond) ∈ wsX7_changeIfDue := List.mem_of_getElem? (i := 3) (by decide +kernel)
theorem hdX3_change_v : yX3_change.cls = RX3 ∧ yX3_change.cls ≠ "java/lang/invoke/MethodHandle" ∧ yX3_change.cls ≠ "java/lang/invoke/VarHandle" ∧ (parseMethodDescriptor yX3_change.desc).map (fun d => d.parameters.length) = some 2 := by decide +kernel
theorem mX7_changeIfDue_4 : (.fieldLink RX7 86 "OneBeat$World" "changes" "I" : Cond) ∈ wsX7_changeIfDue := List.mem_of_getElem? (i := 4) (by decide +kernel)
theorem mX7_changeIfDue_2 : (.fieldLink RX7 27 "OneBeat$World" "latest" "LOneBeat$Proposal;" : Cond) ∈ wsX7_changeIfDue := List.mem_of_getElem? (i := 2) (by decide +kernel)
theorem hdX4_noteChange_v : yX4_noteChange.cls = RX4 ∧ yX4_noteChange.cls ≠ "java/lang/invoke/MethodHandle" ∧ yX4_noteChange.cls ≠ "java/lang/invoke/VarHandle" ∧ (parseMethodDescriptor yX4_noteChange.desc).map (fun d => d.parameters.length) = some 1 := by decide +kernel
theorem mX7_changeIfDue_5 : (.fieldLink RX7 89 "OneBeat$World" "late" "I" : Cond) ∈ wsX7_changeIfDue := List.mem_of_getElem? (i := 5) (by decide +kernel)
set_option maxHeartbeats 4000000 in
set_option maxRecDepth 100000 in
theorem c_X7_changeIfDue {l : Launch} {D : va_G} {cs : Nat → ClassId} {B0 T : Nat} {κ : KM} {H0 : Heap} (hT : WT B0 D cs T κ H0) {w i : Nat} (hw : T2 κ w 8 i) {x : Int32} : KC l yX7_changeIfDue wsX7_changeIfDue 3 64 0 0 D cs B0 H0 [.ref w, .int x] (Qv (fun H => WT B0 D cs T κ H ∧ Fr B0 [i] κ H0 H)) := by
  refine KC.of cX7_changeIfDue 5 none (by decide) rfl (Nat.le_of_ble_eq_true rfl) ?_
  intro p e s m below meth c ls hx hb hr hml hown hts hlocks hin hN hE hH0 hl
  have hown : s.vm.findClass RX7 = some m.cls := hown
  have hl : lv_has ls 5 [(0, .ref w), (1, .int x)] := hl
  have hL : OkL B0 [] := OkL.nil
  have hF : Fr B0 [i] κ H0 H0 := Fr.rf
  refine lv_aload_n hx hb dX7_changeIfDue_0 rfl (lv_at hl 0 rfl) ?_
  refine lv_iload_n hx hb dX7_changeIfDue_1 rfl (lv_at hl 1 rfl) ?_
  refine cv_r (As := [.int x]) (rest := []) (b := w) ⟨hx, hb, hml, hown, hts⟩ (c_X7_at hT (w := w) hw (x := x)) (cwV 1 hts gX7_changeIfDue_X7_at rfl rfl rfl hdX7_at_v ⟨Nat.le_of_ble_eq_true rfl, Nat.le_of_ble_eq_true rfl⟩) hN hE hL (rcv8 hN hT hw.1) rfl rfl hl.1 (Nat.le_of_ble_eq_true rfl) dX7_changeIfDue_2 (Nat.zero_le _) (Nat.zero_le _) (fun r311 H1 locs hL hqr311 => ?_)
  obtain ⟨h9, hqr311⟩ := hqr311; replace h9 := h9.symm; subst h9
  refine lv_astore_n (lv' := [(2, .ref r311), (0, .ref w), (1, .int x)]) hx hb dX7_changeIfDue_5 rfl hl (by decide) rfl (fun ls hl => ?_)
  refine lv_aload_n hx hb dX7_changeIfDue_6 rfl (lv_at hl 1 rfl) ?_
  refine lv_iload_n hx hb dX7_changeIfDue_7 rfl (lv_at hl 2 rfl) ?_
  refine cv_i (As := [.int x]) (rest := []) (b := w) ⟨hx, hb, hml, hown, hts⟩ (c_X7_estimate hT (w := w) hw (x := x)) (cwV 1 hts gX7_changeIfDue_X7_estimate rfl rfl rfl hdX7_estimate_v ⟨Nat.le_of_ble_eq_true rfl, Nat.le_of_ble_eq_true rfl⟩) hN hE hL (rcv8 hN hT hw.1) rfl rfl hl.1 (Nat.le_of_ble_eq_true rfl) dX7_changeIfDue_8 (Nat.zero_le _) (Nat.zero_le _) (fun r312 H1 locs hL hqr312 => ?_)
  obtain rfl := hqr312.symm
  refine lv_istore_n (lv' := [(3, .int r312), (2, .ref r311), (0, .ref w), (1, .int x)]) hx hb dX7_changeIfDue_11 rfl hl (by decide) rfl (fun ls hl => ?_)
  refine lv_aload_n hx hb dX7_changeIfDue_12 rfl (lv_at hl 1 rfl) ?_
  refine lv_iload_n hx hb dX7_changeIfDue_13 rfl (lv_at hl 0 rfl) ?_
  refine cv_i (As := [.int r312]) (rest := []) (b := r311) ⟨hx, hb, hml, hown, hts⟩ (c_X3_canChange hT (w := r311) hqr311 (x := r312)) (cwV 1 hts gX7_changeIfDue_X3_canChange rfl rfl rfl hdX3_canChange_v ⟨Nat.le_of_ble_eq_true rfl, Nat.le_of_ble_eq_true rfl⟩) hN hE hL (rcv4 hN hT hqr311.1) rfl rfl hl.1 (Nat.le_of_ble_eq_true rfl) dX7_changeIfDue_14 (Nat.zero_le _) (Nat.zero_le _) (fun r313 H1 locs hL hqr313 => ?_)
  obtain ⟨h9, hqr313⟩ := hqr313; replace h9 := h9.symm; subst h9
  rcases hqr313 with rfl | rfl
  · refine lv_if_ne (tgt := 21) hx hb dX7_changeIfDue_17 (by decide) (fun c9 => absurd (by decide) c9) (fun _ => ?_)
    exact en_v hx hb hr hlocks hL (Nat.zero_le _) (Nat.zero_le _) dX7_changeIfDue_20 (⟨hT, hF⟩)
  · refine lv_if_ne (tgt := 21) hx hb dX7_changeIfDue_17 (by decide) (fun _ => ?_) (fun c9 => absurd c9 (by decide))
    refine lv_iload_n hx hb dX7_changeIfDue_21 rfl (lv_at hl 0 rfl) ?_
    refine lv_aload_n hx hb dX7_changeIfDue_22 rfl (lv_at hl 1 rfl) ?_
    obtain ⟨hb314, e314, hat314, hk314⟩ := hT.o4 hqr311.1
    obtain ⟨f314_0, f314_1, f314_2, f314_3, f314_4, f314_5, f314_6, f314_7, f314_8, f314_9, rfl, c314_up⟩ := hk314
    have hP : va_P D vwCl [(r311, .inr (3, [.int f314_0, .int f314_1, .int f314_2, .int f314_3, .int f314_4, .int f314_5, .int f314_6, .int f314_7, .int f314_8, .int f314_9]))] _ := va_P.cons hat314 va_P.nil
    refine va_getN (D := D) (ci := 3) (v := .int f314_6) (C := RX3) (T := TX3) (N := 10) hx hb hts iX7_changeIfDue_3 hown hN.1 hP 0 rfl rfl 6 (by decide) (hN.f 33 rfl) (fun _ h9 => h9) rfl dX7_changeIfDue_23 ?_
    refine lv_icmp_le (tgt := 33) hx hb dX7_changeIfDue_26 (by decide) (fun c315 => ?_) (fun c315 => ?_)
    · refine lv_iconst (v := 0) hx hb dX7_changeIfDue_33 (by decide) ?_
      refine lv_istore (lv' := [(4, .int 0), (3, .int r312), (2, .ref r311), (0, .ref w), (1, .int x)]) hx hb dX7_changeIfDue_34 hl (by decide) rfl (fun ls hl => ?_)
      refine lv_aload_n hx hb dX7_changeIfDue_36 rfl (lv_at hl 2 rfl) ?_
      refine va_getN (D := D) (ci := 3) (v := .int f314_4) (C := RX3) (T := TX3) (N := 10) hx hb hts iX7_changeIfDue_3 hown hN.1 hP 0 rfl rfl 4 (by decide) (hN.f 32 rfl) (fun _ h9 => h9) rfl dX7_changeIfDue_37 ?_
      refine lv_aload_n hx hb dX7_changeIfDue_40 rfl (lv_at hl 3 rfl) ?_
      obtain ⟨hb316, e316, hat316, hk316⟩ := hT.o8 hw.1
      obtain ⟨f316_0, f316_1, f316_2, f316_3, f316_4, f316_5, f316_6, f316_7, f316_8, f316_9, f316_10, f316_11, f316_12, f316_13, f316_14, f316_15, rfl, t316_0, c316_su, t316_1, t316_2, t316_3, t316_4, t316_5, c316_tm, c316_lt, c316_ml, c316_pr, c316_li⟩ := hk316
      rw [hw.2] at t316_1
      rw [hw.2] at t316_2
      rw [hw.2] at t316_3
      rw [hw.2] at t316_4
      rw [hw.2] at t316_5
      rw [hw.2] at c316_lt c316_ml c316_pr c316_li
      subst c316_ml
      subst c316_pr
      subst c316_li
      have hP : va_P D vwCl [(w, .inr (7, [.ref f316_0, .ref f316_1, .ref (cs (400 + i)), .ref (cs (420 + i)), .ref (cs (460 + i)), .ref f316_5, .long f316_6, .int f316_7, .int f316_8, .int f316_9, .int f316_10, .int f316_11, .int f316_12, .int f316_13, .int f316_14, .int f316_15])), (r311, .inr (3, [.int f314_0, .int f314_1, .int f314_2, .int f314_3, .int f314_4, .int f314_5, .int f314_6, .int f314_7, .int f314_8, .int f314_9]))] _ := va_P.cons hat316 hP
      refine va_get (D := D) (ci := 7) (v := .int f316_11) (C := RX7) (T := TX7) (N := 16) hx hb hts iX7_changeIfDue_7 hown hN.1 hP 0 rfl rfl 11 (by decide) (hts _ mX7_changeIfDue_1) (fun _ h9 => h9) rfl dX7_changeIfDue_41 ?_
      refine lv_iconst (v := 1) hx hb dX7_changeIfDue_44 (by decide) ?_
      refine lv_isub hx hb dX7_changeIfDue_45 ?_
      refine gn_i (fun x317 => ?_)
      refine lv_icmp_ne (tgt := 60) hx hb dX7_changeIfDue_46 (by decide) (fun c318 => ?_) (fun c318 => ?_)
      · refine lv_aload_n hx hb dX7_changeIfDue_60 rfl (lv_at hl 2 rfl) ?_
        refine lv_aload_n hx hb dX7_changeIfDue_61 rfl (lv_at hl 3 rfl) ?_
        refine va_get (D := D) (ci := 7) (v := .int f316_7) (C := RX7) (T := TX7) (N := 16) hx hb hts iX7_changeIfDue_7 hown hN.1 hP 0 rfl rfl 7 (by decide) (hts _ mX7_changeIfDue_3) (fun _ h9 => h9) rfl dX7_changeIfDue_62 ?_
        refine lv_iload hx hb dX7_changeIfDue_65 (lv_at hl 0 rfl) ?_
        refine cv_v (As := [.int f316_7, .int 0]) (rest := []) (b := r311) ⟨hx, hb, hml, hown, hts⟩ (c_X3_change hT (w := r311) hqr311 (x := f316_7) (y := 0)) (cwV 2 hts gX7_changeIfDue_X3_change rfl rfl rfl hdX3_change_v ⟨Nat.le_of_ble_eq_true rfl, Nat.le_of_ble_eq_true rfl⟩) hN hE hL (rcv4 hN hT hqr311.1) rfl rfl hl.1 (Nat.le_of_ble_eq_true rfl) dX7_changeIfDue_67 (Nat.zero_le _) (Nat.zero_le _) (fun H1 locs hL hqr319 => ?_)
        obtain ⟨hT1, hF1⟩ := hqr319
        have hF := hF.tr (hF1.mono (by simp))
        have hT := hT1
        refine lv_aload_n hx hb dX7_changeIfDue_70 rfl (lv_at hl 3 rfl) ?_
        refine lv_dup hx hb dX7_changeIfDue_71 rfl ?_
        obtain ⟨hb320, e320, hat320, hk320⟩ := hT.o8 hw.1
        obtain ⟨f320_0, f320_1, f320_2, f320_3, f320_4, f320_5, f320_6, f320_7, f320_8, f320_9, f320_10, f320_11, f320_12, f320_13, f320_14, f320_15, rfl, t320_0, c320_su, t320_1, t320_2, t320_3, t320_4, t320_5, c320_tm, c320_lt, c320_ml, c320_pr, c320_li⟩ := hk320
        rw [hw.2] at t320_1
        rw [hw.2] at t320_2
        rw [hw.2] at t320_3
        rw [hw.2] at t320_4
        rw [hw.2] at t320_5
        rw [hw.2] at c320_lt c320_ml c320_pr c320_li
        subst c320_ml
        subst c320_pr
        subst c320_li
        have hP : va_P D vwCl [(w, .inr (7, [.ref f320_0, .ref f320_1, .ref (cs (400 + i)), .ref (cs (420 + i)), .ref (cs (460 + i)), .ref f320_5, .long f320_6, .int f320_7, .int f320_8, .int f320_9, .int f320_10, .int f320_11, .int f320_12, .int f320_13, .int f320_14, .int f320_15]))] _ := va_P.cons hat320 va_P.nil
        refine va_get (D := D) (ci := 7) (v := .int f320_14) (C := RX7) (T := TX7) (N := 16) hx hb hts iX7_changeIfDue_7 hown hN.1 hP 0 rfl rfl 14 (by decide) (hts _ mX7_changeIfDue_4) (fun _ h9 => h9) rfl dX7_changeIfDue_72 ?_
        refine lv_iconst (v := 1) hx hb dX7_changeIfDue_75 (by decide) ?_
        refine lv_iadd hx hb dX7_changeIfDue_76 ?_
        refine gn_i (fun x321 => ?_)
        have hB : Bx B0 D _ [(w, .inr (7, [.ref f320_0, .ref f320_1, .ref (cs (400 + i)), .ref (cs (420 + i)), .ref (cs (460 + i)), .ref f320_5, .long f320_6, .int f320_7, .int f320_8, .int f320_9, .int f320_10, .int f320_11, .int f320_12, .int f320_13, .int f320_14, .int f320_15]))] [] _ _ := Bx.of (fun a => (κ a).1) hL hP (fa_c hb320 fa_n) (by simp only [List.map_cons, List.map_nil, hw.1]; decide)
        refine b_put (D := D) (ci := 7) (v := .int x321) (ty := .int) (C := RX7) (T := TX7) (N := 16) hx hb hts iX7_changeIfDue_7 tyX7 tyX7_ok nmX7 hown hN hB 0 rfl rfl 14 (by decide) (hts _ mX7_changeIfDue_4) (fun _ h9 => h9) rfl (by decide +kernel) rfl rfl (Nat.le_of_ble_eq_true rfl) (.inl rfl) dX7_changeIfDue_77 (fun H locs hB => ?_)
        have hB : Bx B0 D _ [(w, .inr (7, [.ref f320_0, .ref f320_1, .ref (cs (400 + i)), .ref (cs (420 + i)), .ref (cs (460 + i)), .ref f320_5, .long f320_6, .int f320_7, .int f320_8, .int f320_9, .int f320_10, .int f320_11, .int f320_12, .int f320_13, .int x321, .int f320_15]))] [w] _ _ := hB
        refine lv_iload hx hb dX7_changeIfDue_80 (lv_at hl 0 rfl) ?_
        refine lv_if_eq (tgt := 95) hx hb dX7_changeIfDue_82 (by decide) (fun _ => ?_) (fun c9 => absurd (by decide) c9)
        have hT : WT B0 D cs T κ _ := hT.close hB ⟨⟨0, _, rfl, ok_8 hw.1 ⟨_, _, _, _, _, _, _, _, _, _, _, _, _, _, _, _, rfl, t320_0, c320_su, ⟨t320_1.1, by rw [hw.2]; exact t320_1.2⟩, ⟨t320_2.1, by rw [hw.2]; exact t320_2.2⟩, ⟨t320_3.1, by rw [hw.2]; exact t320_3.2⟩, ⟨t320_4.1, by rw [hw.2]; exact t320_4.2⟩, ⟨t320_5.1, by rw [hw.2]; exact t320_5.2⟩, c320_tm, (by rw [hw.2]; omega), (by first | rw [hw.2] | (dsimp only; rw [hw.2])), (by first | rw [hw.2] | (dsimp only; rw [hw.2])), (by first | rw [hw.2] | (dsimp only; rw [hw.2]))⟩⟩, trivial⟩
        have hF : Fr B0 [i] κ H0 _ := hF.close hB (fa_c (by simp [hw.2]) fa_n)
        have hL : OkL B0 _ := hB.2.2.2.2.2
        have hP : va_P D vwCl [(w, .inr (7, [.ref f320_0, .ref f320_1, .ref (cs (400 + i)), .ref (cs (420 + i)), .ref (cs (460 + i)), .ref f320_5, .long f320_6, .int f320_7, .int f320_8, .int f320_9, .int f320_10, .int f320_11, .int f320_12, .int f320_13, .int x321, .int f320_15]))] _ := hB.1
        exact en_v hx hb hr hlocks hL (Nat.zero_le _) (Nat.zero_le _) dX7_changeIfDue_95 (⟨hT, hF⟩)
      · refine lv_aload_n hx hb dX7_changeIfDue_49 rfl (lv_at hl 3 rfl) ?_
        refine va_get (D := D) (ci := 7) (v := .ref (cs (420 + i))) (C := RX7) (T := TX7) (N := 16) hx hb hts iX7_changeIfDue_7 hown hN.1 hP 0 rfl rfl 3 (by decide) (hts _ mX7_changeIfDue_2) (fun _ h9 => h9) rfl dX7_changeIfDue_50 ?_
        refine lv_aload_n hx hb dX7_changeIfDue_53 rfl (lv_at hl 3 rfl) ?_
        refine va_get (D := D) (ci := 7) (v := .int f316_7) (C := RX7) (T := TX7) (N := 16) hx hb hts iX7_changeIfDue_7 hown hN.1 hP 0 rfl rfl 7 (by decide) (hts _ mX7_changeIfDue_3) (fun _ h9 => h9) rfl dX7_changeIfDue_54 ?_
        refine cv_v (As := [.int f316_7]) (rest := []) (b := (cs (420 + i))) ⟨hx, hb, hml, hown, hts⟩ (c_X4_noteChange hT (w := (cs (420 + i))) t316_3 (x := f316_7)) (cwV 1 hts gX7_changeIfDue_X4_noteChange rfl rfl rfl hdX4_noteChange_v ⟨Nat.le_of_ble_eq_true rfl, Nat.le_of_ble_eq_true rfl⟩) hN hE hL (rcv5 hN hT t316_3.1) rfl rfl hl.1 (Nat.le_of_ble_eq_true rfl) dX7_changeIfDue_57 (Nat.zero_le _) (Nat.zero_le _) (fun H1 locs hL hqr322 => ?_)
        obtain ⟨hT1, hF1⟩ := hqr322
        have hF := hF.tr (hF1.mono (by simp))
        have hT := hT1
        refine lv_aload_n hx hb dX7_changeIfDue_60 rfl (lv_at hl 2 rfl) ?_
        refine lv_aload_n hx hb dX7_changeIfDue_61 rfl (lv_at hl 3 rfl) ?_
        obtain ⟨hb323, e323, hat323, hk323⟩ := hT.o8 hw.1
        obtain ⟨f323_0, f323_1, f323_2, f323_3, f323_4, f323_5, f323_6, f323_7, f323_8, f323_9, f323_10, f323_11, f323_12, f323_13, f323_14, f323_15, rfl, t323_0, c323_su, t323_1, t323_2, t323_3, t323_4, t323_5, c323_tm, c323_lt, c323_ml, c323_pr, c323_li⟩ := hk323
        rw [hw.2] at t323_1
        rw [hw.2] at t323_2
        rw [hw.2] at t323_3
        rw [hw.2] at t323_4
        rw [hw.2] at t323_5
        rw [hw.2] at c323_lt c323_ml c323_pr c323_li
        subst c323_ml
        subst c323_pr
        subst c323_li
        have hP : va_P D vwCl [(w, .inr (7, [.ref f323_0, .ref f323_1, .ref (cs (400 + i)), .ref (cs (420 + i)), .ref (cs (460 + i)), .ref f323_5, .long f323_6, .int f323_7, .int f323_8, .int f323_9, .int f323_10, .int f323_11, .int f323_12, .int f323_13, .int f323_14, .int f323_15]))] _ := va_P.cons hat323 va_P.nil
        refine va_get (D := D) (ci := 7) (v := .int f323_7) (C := RX7) (T := TX7) (N := 16) hx hb hts iX7_changeIfDue_7 hown hN.1 hP 0 rfl rfl 7 (by decide) (hts _ mX7_changeIfDue_3) (fun _ h9 => h9) rfl dX7_changeIfDue_62 ?_
        refine lv_iload hx hb dX7_changeIfDue_65 (lv_at hl 0 rfl) ?_
        refine cv_v (As := [.int f323_7, .int 0]) (rest := []) (b := r311) ⟨hx, hb, hml, hown, hts⟩ (c_X3_change hT (w := r311) hqr311 (x := f323_7) (y := 0)) (cwV 2 hts gX7_changeIfDue_X3_change rfl rfl rfl hdX3_change_v ⟨Nat.le_of_ble_eq_true rfl, Nat.le_of_ble_eq_true rfl⟩) hN hE hL (rcv4 hN hT hqr311.1) rfl rfl hl.1 (Nat.le_of_ble_eq_true rfl) dX7_changeIfDue_67 (Nat.zero_le _) (Nat.zero_le _) (fun H1 locs hL hqr324 => ?_)
        obtain ⟨hT1, hF1⟩ := hqr324
        have hF := hF.tr (hF1.mono (by simp))
        have hT := hT1
        refine lv_aload_n hx hb dX7_changeIfDue_70 rfl (lv_at hl 3 rfl) ?_
        refine lv_dup hx hb dX7_changeIfDue_71 rfl ?_
        obtain ⟨hb325, e325, hat325, hk325⟩ := hT.o8 hw.1
        obtain ⟨f325_0, f325_1, f325_2, f325_3, f325_4, f325_5, f325_6, f325_7, f325_8, f325_9, f325_10, f325_11, f325_12, f325_13, f325_14, f325_15, rfl, t325_0, c325_su, t325_1, t325_2, t325_3, t325_4, t325_5, c325_tm, c325_lt, c325_ml, c325_pr, c325_li⟩ := hk325
        rw [hw.2] at t325_1
        rw [hw.2] at t325_2
        rw [hw.2] at t325_3
        rw [hw.2] at t325_4
        rw [hw.2] at t325_5
        rw [hw.2] at c325_lt c325_ml c325_pr c325_li
        subst c325_ml
        subst c325_pr
        subst c325_li
        have hP : va_P D vwCl [(w, .inr (7, [.ref f325_0, .ref f325_1, .ref (cs (400 + i)), .ref (cs (420 + i)), .ref (cs (460 + i)), .ref f325_5, .long f325_6, .int f325_7, .int f325_8, .int f325_9, .int f325_10, .int f325_11, .int f325_12, .int f325_13, .int f325_14, .int f325_15]))] _ := va_P.cons hat325 va_P.nil
        refine va_get (D := D) (ci := 7) (v := .int f325_14) (C := RX7) (T := TX7) (N := 16) hx hb hts iX7_changeIfDue_7 hown hN.1 hP 0 rfl rfl 14 (by decide) (hts _ mX7_changeIfDue_4) (fun _ h9 => h9) rfl dX7_changeIfDue_72 ?_
        refine lv_iconst (v := 1) hx hb dX7_changeIfDue_75 (by decide) ?_
        refine lv_iadd hx hb dX7_changeIfDue_76 ?_
        refine gn_i (fun x326 => ?_)
        have hB : Bx B0 D _ [(w, .inr (7, [.ref f325_0, .ref f325_1, .ref (cs (400 + i)), .ref (cs (420 + i)), .ref (cs (460 + i)), .ref f325_5, .long f325_6, .int f325_7, .int f325_8, .int f325_9, .int f325_10, .int f325_11, .int f325_12, .int f325_13, .int f325_14, .int f325_15]))] [] _ _ := Bx.of (fun a => (κ a).1) hL hP (fa_c hb325 fa_n) (by simp only [List.map_cons, List.map_nil, hw.1]; decide)
        refine b_put (D := D) (ci := 7) (v := .int x326) (ty := .int) (C := RX7) (T := TX7) (N := 16) hx hb hts iX7_changeIfDue_7 tyX7 tyX7_ok nmX7 hown hN hB 0 rfl rfl 14 (by decide) (hts _ mX7_changeIfDue_4) (fun _ h9 => h9) rfl (by decide +kernel) rfl rfl (Nat.le_of_ble_eq_true rfl) (.inl rfl) dX7_changeIfDue_77 (fun H locs hB => ?_)
        have hB : Bx B0 D _ [(w, .inr (7, [.ref f325_0, .ref f325_1, .ref (cs (400 + i)), .ref (cs (420 + i)), .ref (cs (460 + i)), .ref f325_5, .long f325_6, .int f325_7, .int f325_8, .int f325_9, .int f325_10, .int f325_11, .int f325_12, .int f325_13, .int x326, .int f325_15]))] [w] _ _ := hB
        refine lv_iload hx hb dX7_changeIfDue_80 (lv_at hl 0 rfl) ?_
        refine lv_if_eq (tgt := 95) hx hb dX7_changeIfDue_82 (by decide) (fun _ => ?_) (fun c9 => absurd (by decide) c9)
        have hT : WT B0 D cs T κ _ := hT.close hB ⟨⟨0, _, rfl, ok_8 hw.1 ⟨_, _, _, _, _, _, _, _, _, _, _, _, _, _, _, _, rfl, t325_0, c325_su, ⟨t325_1.1, by rw [hw.2]; exact t325_1.2⟩, ⟨t325_2.1, by rw [hw.2]; exact t325_2.2⟩, ⟨t325_3.1, by rw [hw.2]; exact t325_3.2⟩, ⟨t325_4.1, by rw [hw.2]; exact t325_4.2⟩, ⟨t325_5.1, by rw [hw.2]; exact t325_5.2⟩, c325_tm, (by rw [hw.2]; omega), (by first | rw [hw.2] | (dsimp only; rw [hw.2])), (by first | rw [hw.2] | (dsimp only; rw [hw.2])), (by first | rw [hw.2] | (dsimp only; rw [hw.2]))⟩⟩, trivial⟩
        have hF : Fr B0 [i] κ H0 _ := hF.close hB (fa_c (by simp [hw.2]) fa_n)
        have hL : OkL B0 _ := hB.2.2.2.2.2
        have hP : va_P D vwCl [(w, .inr (7, [.ref f325_0, .ref f325_1, .ref (cs (400 + i)), .ref (cs (420 + i)), .ref (cs (460 + i)), .ref f325_5, .long f325_6, .int f325_7, .int f325_8, .int f325_9, .int f325_10, .int f325_11, .int f325_12, .int f325_13, .int x326, .int f325_15]))] _ := hB.1
        exact en_v hx hb hr hlocks hL (Nat.zero_le _) (Nat.zero_le _) dX7_changeIfDue_95 (⟨hT, hF⟩)
    · refine lv_iconst (v := 1) hx hb dX7_changeIfDue_29 (by decide) ?_
      refine lv_goto (tgt := 34) hx hb dX7_changeIfDue_30 (by decide) ?_
      refine lv_istore (lv' := [(4, .int 1), (3, .int r312), (2, .ref r311), (0, .ref w), (1, .int x)]) hx hb dX7_changeIfDue_34 hl (by decide) rfl (fun ls hl => ?_)
      refine lv_aload_n hx hb dX7_changeIfDue_36 rfl (lv_at hl 2 rfl) ?_
      refine va_getN (D := D) (ci := 3) (v := .int f314_4) (C := RX3) (T := TX3) (N := 10) hx hb hts iX7_changeIfDue_3 hown hN.1 hP 0 rfl rfl 4 (by decide) (hN.f 32 rfl) (fun _ h9 => h9) rfl dX7_changeIfDue_37 ?_
      refine lv_aload_n hx hb dX7_changeIfDue_40 rfl (lv_at hl 3 rfl) ?_
      obtain ⟨hb327, e327, hat327, hk327⟩ := hT.o8 hw.1
      obtain ⟨f327_0, f327_1, f327_2, f327_3, f327_4, f327_5, f327_6, f327_7, f327_8, f327_9, f327_10, f327_11, f327_12, f327_13, f327_14, f327_15, rfl, t327_0, c327_su, t327_1, t327_2, t327_3, t327_4, t327_5, c327_tm, c327_lt, c327_ml, c327_pr, c327_li⟩ := hk327
      rw [hw.2] at t327_1
      rw [hw.2] at t327_2
      rw [hw.2] at t327_3
      rw [hw.2] at t327_4
      rw [hw.2] at t327_5
      rw [hw.2] at c327_lt c327_ml c327_pr c327_li
      subst c327_ml
      subst c327_pr
      subst c327_li
      have hP : va_P D vwCl [(w, .inr (7, [.ref f327_0, .ref f327_1, .ref (cs (400 + i)), .ref (cs (420 + i)), .ref (cs (460 + i)), .ref f327_5, .long f327_6, .int f327_7, .int f327_8, .int f327_9, .int f327_10, .int f327_11, .int f327_12, .int f327_13, .int f327_14, .int f327_15])), (r311, .inr (3, [.int f314_0, .int f314_1, .int f314_2, .int f314_3, .int f314_4, .int f314_5, .int f314_6, .int f314_7, .int f314_8, .int f314_9]))] _ := va_P.cons hat327 hP
      refine va_get (D := D) (ci := 7) (v := .int f327_11) (C := RX7) (T := TX7) (N := 16) hx hb hts iX7_changeIfDue_7 hown hN.1 hP 0 rfl rfl 11 (by decide) (hts _ mX7_changeIfDue_1) (fun _ h9 => h9) rfl dX7_changeIfDue_41 ?_
      refine lv_iconst (v := 1) hx hb dX7_changeIfDue_44 (by decide) ?_
      refine lv_isub hx hb dX7_changeIfDue_45 ?_
      refine gn_i (fun x328 => ?_)
      refine lv_icmp_ne (tgt := 60) hx hb dX7_changeIfDue_46 (by decide) (fun c329 => ?_) (fun c329 => ?_)
      · refine lv_aload_n hx hb dX7_changeIfDue_60 rfl (lv_at hl 2 rfl) ?_
        refine lv_aload_n hx hb dX7_changeIfDue_61 rfl (lv_at hl 3 rfl) ?_
        refine va_get (D := D) (ci := 7) (v := .int f327_7) (C := RX7) (T := TX7) (N := 16) hx hb hts iX7_changeIfDue_7 hown hN.1 hP 0 rfl rfl 7 (by decide) (hts _ mX7_changeIfDue_3) (fun _ h9 => h9) rfl dX7_changeIfDue_62 ?_
        refine lv_iload hx hb dX7_changeIfDue_65 (lv_at hl 0 rfl) ?_
        refine cv_v (As := [.int f327_7, .int 1]) (rest := []) (b := r311) ⟨hx, hb, hml, hown, hts⟩ (c_X3_change hT (w := r311) hqr311 (x := f327_7) (y := 1)) (cwV 2 hts gX7_changeIfDue_X3_change rfl rfl rfl hdX3_change_v ⟨Nat.le_of_ble_eq_true rfl, Nat.le_of_ble_eq_true rfl⟩) hN hE hL (rcv4 hN hT hqr311.1) rfl rfl hl.1 (Nat.le_of_ble_eq_true rfl) dX7_changeIfDue_67 (Nat.zero_le _) (Nat.zero_le _) (fun H1 locs hL hqr330 => ?_)
        obtain ⟨hT1, hF1⟩ := hqr330
        have hF := hF.tr (hF1.mono (by simp))
        have hT := hT1
        refine lv_aload_n hx hb dX7_changeIfDue_70 rfl (lv_at hl 3 rfl) ?_
        refine lv_dup hx hb dX7_changeIfDue_71 rfl ?_
        obtain ⟨hb331, e331, hat331, hk331⟩ := hT.o8 hw.1
        obtain ⟨f331_0, f331_1, f331_2, f331_3, f331_4, f331_5, f331_6, f331_7, f331_8, f331_9, f331_10, f331_11, f331_12, f331_13, f331_14, f331_15, rfl, t331_0, c331_su, t331_1, t331_2, t331_3, t331_4, t331_5, c331_tm, c331_lt, c331_ml, c331_pr, c331_li⟩ := hk331
        rw [hw.2] at t331_1
        rw [hw.2] at t331_2
        rw [hw.2] at t331_3
        rw [hw.2] at t331_4
        rw [hw.2] at t331_5
        rw [hw.2] at c331_lt c331_ml c331_pr c331_li
        subst c331_ml
        subst c331_pr
        subst c331_li
        have hP : va_P D vwCl [(w, .inr (7, [.ref f331_0, .ref f331_1, .ref (cs (400 + i)), .ref (cs (420 + i)), .ref (cs (460 + i)), .ref f331_5, .long f331_6, .int f331_7, .int f331_8, .int f331_9, .int f331_10, .int f331_11, .int f331_12, .int f331_13, .int f331_14, .int f331_15]))] _ := va_P.cons hat331 va_P.nil
        refine va_get (D := D) (ci := 7) (v := .int f331_14) (C := RX7) (T := TX7) (N := 16) hx hb hts iX7_changeIfDue_7 hown hN.1 hP 0 rfl rfl 14 (by decide) (hts _ mX7_changeIfDue_4) (fun _ h9 => h9) rfl dX7_changeIfDue_72 ?_
        refine lv_iconst (v := 1) hx hb dX7_changeIfDue_75 (by decide) ?_
        refine lv_iadd hx hb dX7_changeIfDue_76 ?_
        refine gn_i (fun x332 => ?_)
        have hB : Bx B0 D _ [(w, .inr (7, [.ref f331_0, .ref f331_1, .ref (cs (400 + i)), .ref (cs (420 + i)), .ref (cs (460 + i)), .ref f331_5, .long f331_6, .int f331_7, .int f331_8, .int f331_9, .int f331_10, .int f331_11, .int f331_12, .int f331_13, .int f331_14, .int f331_15]))] [] _ _ := Bx.of (fun a => (κ a).1) hL hP (fa_c hb331 fa_n) (by simp only [List.map_cons, List.map_nil, hw.1]; decide)
        refine b_put (D := D) (ci := 7) (v := .int x332) (ty := .int) (C := RX7) (T := TX7) (N := 16) hx hb hts iX7_changeIfDue_7 tyX7 tyX7_ok nmX7 hown hN hB 0 rfl rfl 14 (by decide) (hts _ mX7_changeIfDue_4) (fun _ h9 => h9) rfl (by decide +kernel) rfl rfl (Nat.le_of_ble_eq_true rfl) (.inl rfl) dX7_changeIfDue_77 (fun H locs hB => ?_)
        have hB : Bx B0 D _ [(w, .inr (7, [.ref f331_0, .ref f331_1, .ref (cs (400 + i)), .ref (cs (420 + i)), .ref (cs (460 + i)), .ref f331_5, .long f331_6, .int f331_7, .int f331_8, .int f331_9, .int f331_10, .int f331_11, .int f331_12, .int f331_13, .int x332, .int f331_15]))] [w] _ _ := hB
        refine lv_iload hx hb dX7_changeIfDue_80 (lv_at hl 0 rfl) ?_
        refine lv_if_eq (tgt := 95) hx hb dX7_changeIfDue_82 (by decide) (fun c9 => absurd c9 (by decide)) (fun _ => ?_)
        refine lv_aload_n hx hb dX7_changeIfDue_85 rfl (lv_at hl 3 rfl) ?_
        refine lv_dup hx hb dX7_changeIfDue_86 rfl ?_
        refine va_get (D := D) (ci := 7) (v := .int f331_15) (C := RX7) (T := TX7) (N := 16) hx hb hts iX7_changeIfDue_7 hown hN.1 hB.1 0 rfl rfl 15 (by decide) (hts _ mX7_changeIfDue_5) (fun _ h9 => h9) rfl dX7_changeIfDue_87 ?_
        refine lv_iconst (v := 1) hx hb dX7_changeIfDue_90 (by decide) ?_
        refine lv_iadd hx hb dX7_changeIfDue_91 ?_
        refine gn_i (fun x333 => ?_)
        refine b_put (D := D) (ci := 7) (v := .int x333) (ty := .int) (C := RX7) (T := TX7) (N := 16) hx hb hts iX7_changeIfDue_7 tyX7 tyX7_ok nmX7 hown hN hB 0 rfl rfl 15 (by decide) (hts _ mX7_changeIfDue_5) (fun _ h9 => h9) rfl (by decide +kernel) rfl rfl (Nat.le_of_ble_eq_true rfl) (.inr ⟨rfl, List.mem_of_getElem? (i := 0) rfl⟩) dX7_changeIfDue_92 (fun H locs hB => ?_)
        have hB : Bx B0 D _ [(w, .inr (7, [.ref f331_0, .ref f331_1, .ref (cs (400 + i)), .ref (cs (420 + i)), .ref (cs (460 + i)), .ref f331_5, .long f331_6, .int f331_7, .int f331_8, .int f331_9, .int f331_10, .int f331_11, .int f331_12, .int f331_13, .int x332, .int x333]))] [w] _ _ := hB
        have hT : WT B0 D cs T κ _ := hT.close hB ⟨⟨0, _, rfl, ok_8 hw.1 ⟨_, _, _, _, _, _, _, _, _, _, _, _, _, _, _, _, rfl, t331_0, c331_su, ⟨t331_1.1, by rw [hw.2]; exact t331_1.2⟩, ⟨t331_2.1, by rw [hw.2]; exact t331_2.2⟩, ⟨t331_3.1, by rw [hw.2]; exact t331_3.2⟩, ⟨t331_4.1, by rw [hw.2]; exact t331_4.2⟩, ⟨t331_5.1, by rw [hw.2]; exact t331_5.2⟩, c331_tm, (by rw [hw.2]; omega), (by first | rw [hw.2] | (dsimp only; rw [hw.2])), (by first | rw [hw.2] | (dsimp only; rw [hw.2])), (by first | rw [hw.2] | (dsimp only; rw [hw.2]))⟩⟩, trivial⟩
        have hF : Fr B0 [i] κ H0 _ := hF.close hB (fa_c (by simp [hw.2]) fa_n)
        have hL : OkL B0 _ := hB.2.2.2.2.2
        have hP : va_P D vwCl [(w, .inr (7, [.ref f331_0, .ref f331_1, .ref (cs (400 + i)), .ref (cs (420 + i)), .ref (cs (460 + i)), .ref f331_5, .long f331_6, .int f331_7, .int f331_8, .int f331_9, .int f331_10, .int f331_11, .int f331_12, .int f331_13, .int x332, .int x333]))] _ := hB.1
        exact en_v hx hb hr hlocks hL (Nat.zero_le _) (Nat.zero_le _) dX7_changeIfDue_95 (⟨hT, hF⟩)
      · refine lv_aload_n hx hb dX7_changeIfDue_49 rfl (lv_at hl 3 rfl) ?_
        refine va_get (D := D) (ci := 7) (v := .ref (cs (420 + i))) (C := RX7) (T := TX7) (N := 16) hx hb hts iX7_changeIfDue_7 hown hN.1 hP 0 rfl rfl 3 (by decide) (hts _ mX7_changeIfDue_2) (fun _ h9 => h9) rfl dX7_changeIfDue_50 ?_
        refine lv_aload_n hx hb dX7_changeIfDue_53 rfl (lv_at hl 3 rfl) ?_
        refine va_get (D := D) (ci := 7) (v := .int f327_7) (C := RX7) (T := TX7) (N := 16) hx hb hts iX7_changeIfDue_7 hown hN.1 hP 0 rfl rfl 7 (by decide) (hts _ mX7_changeIfDue_3) (fun _ h9 => h9) rfl dX7_changeIfDue_54 ?_
        refine cv_v (As := [.int f327_7]) (rest := []) (b := (cs (420 + i))) ⟨hx, hb, hml, hown, hts⟩ (c_X4_noteChange hT (w := (cs (420 + i))) t327_3 (x := f327_7)) (cwV 1 hts gX7_changeIfDue_X4_noteChange rfl rfl rfl hdX4_noteChange_v ⟨Nat.le_of_ble_eq_true rfl, Nat.le_of_ble_eq_true rfl⟩) hN hE hL (rcv5 hN hT t327_3.1) rfl rfl hl.1 (Nat.le_of_ble_eq_true rfl) dX7_changeIfDue_57 (Nat.zero_le _) (Nat.zero_le _) (fun H1 locs hL hqr334 => ?_)
        obtain ⟨hT1, hF1⟩ := hqr334
        have hF := hF.tr (hF1.mono (by simp))
        have hT := hT1
        refine lv_aload_n hx hb dX7_changeIfDue_60 rfl (lv_at hl 2 rfl) ?_
        refine lv_aload_n hx hb dX7_changeIfDue_61 rfl (lv_at hl 3 rfl) ?_
        obtain ⟨hb335, e335, hat335, hk335⟩ := hT.o8 hw.1
        obtain ⟨f335_0, f335_1, f335_2, f335_3, f335_4, f335_5, f335_6, f335_7, f335_8, f335_9, f335_10, f335_11, f335_12, f335_13, f335_14, f335_15, rfl, t335_0, c335_su, t335_1, t335_2, t335_3, t335_4, t335_5, c335_tm, c335_lt, c335_ml, c335_pr, c335_li⟩ := hk335
        rw [hw.2] at t335_1
        rw [hw.2] at t335_2
        rw [hw.2] at t335_3
        rw [hw.2] at t335_4
        rw [hw.2] at t335_5
        rw [hw.2] at c335_lt c335_ml c335_pr c335_li
        subst c335_ml
        subst c335_pr
        subst c335_li
        have hP : va_P D vwCl [(w, .inr (7, [.ref f335_0, .ref f335_1, .ref (cs (400 + i)), .ref (cs (420 + i)), .ref (cs (460 + i)), .ref f335_5, .long f335_6, .int f335_7, .int f335_8, .int f335_9, .int f335_10, .int f335_11, .int f335_12, .int f335_13, .int f335_14, .int f335_15]))] _ := va_P.cons hat335 va_P.nil
        refine va_get (D := D) (ci := 7) (v := .int f335_7) (C := RX7) (T := TX7) (N := 16) hx hb hts iX7_changeIfDue_7 hown hN.1 hP 0 rfl rfl 7 (by decide) (hts _ mX7_changeIfDue_3) (fun _ h9 => h9) rfl dX7_changeIfDue_62 ?_
        refine lv_iload hx hb dX7_changeIfDue_65 (lv_at hl 0 rfl) ?_
        refine cv_v (As := [.int f335_7, .int 1]) (rest := []) (b := r311) ⟨hx, hb, hml, hown, hts⟩ (c_X3_change hT (w := r311) hqr311 (x := f335_7) (y := 1)) (cwV 2 hts gX7_changeIfDue_X3_change rfl rfl rfl hdX3_change_v ⟨Nat.le_of_ble_eq_true rfl, Nat.le_of_ble_eq_true rfl⟩) hN hE hL (rcv4 hN hT hqr311.1) rfl rfl hl.1 (Nat.le_of_ble_eq_true rfl) dX7_changeIfDue_67 (Nat.zero_le _) (Nat.zero_le _) (fun H1 locs hL hqr336 => ?_)
        obtain ⟨hT1, hF1⟩ := hqr336
        have hF := hF.tr (hF1.mono (by simp))
        have hT := hT1
        refine lv_aload_n hx hb dX7_changeIfDue_70 rfl (lv_at hl 3 rfl) ?_
        refine lv_dup hx hb dX7_changeIfDue_71 rfl ?_
        obtain ⟨hb337, e337, hat337, hk337⟩ := hT.o8 hw.1
        obtain ⟨f337_0, f337_1, f337_2, f337_3, f337_4, f337_5, f337_6, f337_7, f337_8, f337_9, f337_10, f337_11, f337_12, f337_13, f337_14, f337_15, rfl, t337_0, c337_su, t337_1, t337_2, t337_3, t337_4, t337_5, c337_tm, c337_lt, c337_ml, c337_pr, c337_li⟩ := hk337
        rw [hw.2] at t337_1
        rw [hw.2] at t337_2
        rw [hw.2] at t337_3
        rw [hw.2] at t337_4
        rw [hw.2] at t337_5
        rw [hw.2] at c337_lt c337_ml c337_pr c337_li
        subst c337_ml
        subst c337_pr
        subst c337_li
        have hP : va_P D vwCl [(w, .inr (7, [.ref f337_0, .ref f337_1, .ref (cs (400 + i)), .ref (cs (420 + i)), .ref (cs (460 + i)), .ref f337_5, .long f337_6, .int f337_7, .int f337_8, .int f337_9, .int f337_10, .int f337_11, .int f337_12, .int f337_13, .int f337_14, .int f337_15]))] _ := va_P.cons hat337 va_P.nil
        refine va_get (D := D) (ci := 7) (v := .int f337_14) (C := RX7) (T := TX7) (N := 16) hx hb hts iX7_changeIfDue_7 hown hN.1 hP 0 rfl rfl 14 (by decide) (hts _ mX7_changeIfDue_4) (fun _ h9 => h9) rfl dX7_changeIfDue_72 ?_
        refine lv_iconst (v := 1) hx hb dX7_changeIfDue_75 (by decide) ?_
        refine lv_iadd hx hb dX7_changeIfDue_76 ?_
        refine gn_i (fun x338 => ?_)
        have hB : Bx B0 D _ [(w, .inr (7, [.ref f337_0, .ref f337_1, .ref (cs (400 + i)), .ref (cs (420 + i)), .ref (cs (460 + i)), .ref f337_5, .long f337_6, .int f337_7, .int f337_8, .int f337_9, .int f337_10, .int f337_11, .int f337_12, .int f337_13, .int f337_14, .int f337_15]))] [] _ _ := Bx.of (fun a => (κ a).1) hL hP (fa_c hb337 fa_n) (by simp only [List.map_cons, List.map_nil, hw.1]; decide)
        refine b_put (D := D) (ci := 7) (v := .int x338) (ty := .int) (C := RX7) (T := TX7) (N := 16) hx hb hts iX7_changeIfDue_7 tyX7 tyX7_ok nmX7 hown hN hB 0 rfl rfl 14 (by decide) (hts _ mX7_changeIfDue_4) (fun _ h9 => h9) rfl (by decide +kernel) rfl rfl (Nat.le_of_ble_eq_true rfl) (.inl rfl) dX7_changeIfDue_77 (fun H locs hB => ?_)
        have hB : Bx B0 D _ [(w, .inr (7, [.ref f337_0, .ref f337_1, .ref (cs (400 + i)), .ref (cs (420 + i)), .ref (cs (460 + i)), .ref f337_5, .long f337_6, .int f337_7, .int f337_8, .int f337_9, .int f337_10, .int f337_11, .int f337_12, .int f337_13, .int x338, .int f337_15]))] [w] _ _ := hB
        refine lv_iload hx hb dX7_changeIfDue_80 (lv_at hl 0 rfl) ?_
        refine lv_if_eq (tgt := 95) hx hb dX7_changeIfDue_82 (by decide) (fun c9 => absurd c9 (by decide)) (fun _ => ?_)
        refine lv_aload_n hx hb dX7_changeIfDue_85 rfl (lv_at hl 3 rfl) ?_
        refine lv_dup hx hb dX7_changeIfDue_86 rfl ?_
        refine va_get (D := D) (ci := 7) (v := .int f337_15) (C := RX7) (T := TX7) (N := 16) hx hb hts iX7_changeIfDue_7 hown hN.1 hB.1 0 rfl rfl 15 (by decide) (hts _ mX7_changeIfDue_5) (fun _ h9 => h9) rfl dX7_changeIfDue_87 ?_
        refine lv_iconst (v := 1) hx hb dX7_changeIfDue_90 (by decide) ?_
        refine lv_iadd hx hb dX7_changeIfDue_91 ?_
        refine gn_i (fun x339 => ?_)
        refine b_put (D := D) (ci := 7) (v := .int x339) (ty := .int) (C := RX7) (T := TX7) (N := 16) hx hb hts iX7_changeIfDue_7 tyX7 tyX7_ok nmX7 hown hN hB 0 rfl rfl 15 (by decide) (hts _ mX7_changeIfDue_5) (fun _ h9 => h9) rfl (by decide +kernel) rfl rfl (Nat.le_of_ble_eq_true rfl) (.inr ⟨rfl, List.mem_of_getElem? (i := 0) rfl⟩) dX7_changeIfDue_92 (fun H locs hB => ?_)
        have hB : Bx B0 D _ [(w, .inr (7, [.ref f337_0, .ref f337_1, .ref (cs (400 + i)), .ref (cs (420 + i)), .ref (cs (460 + i)), .ref f337_5, .long f337_6, .int f337_7, .int f337_8, .int f337_9, .int f337_10, .int f337_11, .int f337_12, .int f337_13, .int x338, .int x339]))] [w] _ _ := hB
        have hT : WT B0 D cs T κ _ := hT.close hB ⟨⟨0, _, rfl, ok_8 hw.1 ⟨_, _, _, _, _, _, _, _, _, _, _, _, _, _, _, _, rfl, t337_0, c337_su, ⟨t337_1.1, by rw [hw.2]; exact t337_1.2⟩, ⟨t337_2.1, by rw [hw.2]; exact t337_2.2⟩, ⟨t337_3.1, by rw [hw.2]; exact t337_3.2⟩, ⟨t337_4.1, by rw [hw.2]; exact t337_4.2⟩, ⟨t337_5.1, by rw [hw.2]; exact t337_5.2⟩, c337_tm, (by rw [hw.2]; omega), (by first | rw [hw.2] | (dsimp only; rw [hw.2])), (by first | rw [hw.2] | (dsimp only; rw [hw.2])), (by first | rw [hw.2] | (dsimp only; rw [hw.2]))⟩⟩, trivial⟩
        have hF : Fr B0 [i] κ H0 _ := hF.close hB (fa_c (by simp [hw.2]) fa_n)
        have hL : OkL B0 _ := hB.2.2.2.2.2
        have hP : va_P D vwCl [(w, .inr (7, [.ref f337_0, .ref f337_1, .ref (cs (400 + i)), .ref (cs (420 + i)), .ref (cs (460 + i)), .ref f337_5, .long f337_6, .int f337_7, .int f337_8, .int f337_9, .int f337_10, .int f337_11, .int f337_12, .int f337_13, .int x338, .int x339]))] _ := hB.1
        exact en_v hx hb hr hlocks hL (Nat.zero_le _) (Nat.zero_le _) dX7_changeIfDue_95 (⟨hT, hF⟩)
