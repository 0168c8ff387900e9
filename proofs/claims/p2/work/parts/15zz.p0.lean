theorem mX9_isGood_1 : (.fieldLink RX9 59 "OneBeatModel" "error" "I" : Cond) ∈ wsX9_isGood := List.mem_of_getElem? (i := 1) (by decide +kernel)
theorem iX9_isGood_9 : ∀ w ∈ wsX90, w ∈ wsX9_isGood := fun w h => List.mem_of_mem_drop (List.mem_of_mem_take ((show wsX90 = (wsX9_isGood.drop 2).take 18 by decide +kernel) ▸ h))
set_option maxHeartbeats 4000000 in
set_option maxRecDepth 100000 in
theorem c_X9_isGood {l : Launch} {D : va_G} {cs : Nat → ClassId} {B0 T : Nat} {κ : KM} {H0 : Heap} (hT : WT B0 D cs T κ H0) {w : Nat} (hw : T2 κ w 10 12) {pos tl : Nat} {er ns : Int32} {dr bu : Nat} {g : Nat → Int32} (hbT : T2 κ bu 23 14) (hdT : T2 κ dr 26 17) (hm : MF D cs w H0 pos tl er ns dr bu g) : KC l yX9_isGood wsX9_isGood 0 0 0 0 D cs B0 H0 [.ref w] (Qi (fun r H => H = H0 ∧ ((r = 1 ∧ er = 0) ∨ (r = 0 ∧ er ≠ 0)))) := by
  refine KC.of cX9_isGood 1 (some .boolean) (by decide) rfl (Nat.le_of_ble_eq_true rfl) ?_
  intro p e s m below meth c ls hx hb hr hml hown hts hlocks hin hN hE hH0 hl
  have hown : s.vm.findClass RX9 = some m.cls := hown
  have hl : lv_has ls 1 [(0, .ref w)] := hl
  have hL : OkL B0 [] := OkL.nil
  have hm8 := hm.2.2.2.2.2.2.2
  refine lv_aload_n hx hb dX9_isGood_0 rfl (lv_at hl 0 rfl) ?_
  obtain ⟨hb1940, e1940, hat1940, hk1940⟩ := hT.o10 hw.1
  obtain ⟨f1940_0, f1940_1, f1940_3, f1940_4, f1940_5, f1940_6, f1940_7, f1940_9, f1940_10, f1940_11, f1940_12, f1940_13, f1940_14, f1940_15, f1940_16, f1940_17, rfl, c1940_2, c1940_3, c1940_4, c1940_12, t1940_1, t1940_8, t1940_9, c1940_sd, t1940_10, t1940_11, t1940_17⟩ := hk1940
  obtain ⟨rfl, rfl, rfl, rfl, rfl, rfl⟩ := hm.at hat1940 c1940_3 (by omega)
  have hm8 := hm.2.2.2.2.2.2.2
  have hP : va_P D vwCl [(w, .inr (9, [.int f1940_0, .ref bu, .int (nI ((κ w).2.2.1)), .int (nI tl), .int (nI pos), .int er, .int f1940_6, .int f1940_7, .ref (κ w).2.2.2, .ref f1940_9, .ref dr, .ref f1940_11, .int (nI f1940_12), .int f1940_13, .int ns, .int f1940_15, .int f1940_16, .ref f1940_17]))] _ := va_P.cons hat1940 va_P.nil
  refine va_get (D := D) (ci := 9) (v := .int er) (C := RX9) (T := TX9) (N := 18) hx hb hts iX9_isGood_9 hown hN.1 hP 0 rfl rfl 5 (by decide) (hts _ mX9_isGood_1) (fun _ h9 => h9) rfl dX9_isGood_1 ?_
  refine lv_if_ne (tgt := 11) hx hb dX9_isGood_4 (by decide) (fun c1941 => ?_) (fun c1941 => ?_)
  · refine lv_iconst (v := 0) hx hb dX9_isGood_11 (by decide) ?_
    exact en_i hx hb hr hlocks hL rfl (Nat.zero_le _) (Nat.zero_le _) dX9_isGood_12 (⟨rfl, Or.inr ⟨rfl, c1941⟩⟩)
  · refine lv_iconst (v := 1) hx hb dX9_isGood_7 (by decide) ?_
    refine lv_goto (tgt := 12) hx hb dX9_isGood_8 (by decide) ?_
    exact en_i hx hb hr hlocks hL rfl (Nat.zero_le _) (Nat.zero_le _) dX9_isGood_12 (⟨rfl, Or.inl ⟨rfl, c1941⟩⟩)
theorem mX9_report_1 : (.fieldLink RX9 59 "OneBeatModel" "error" "I" : Cond) ∈ wsX9_report := List.mem_of_getElem? (i := 1) (by decide +kernel)
theorem iX9_report_9 : ∀ w ∈ wsX90, w ∈ wsX9_report := fun w h => List.mem_of_mem_drop (List.mem_of_mem_take ((show wsX90 = (wsX9_report.drop 3).take 18 by decide +kernel) ▸ h))
theorem mX9_report_2 : (.fieldLink RX9 62 "OneBeatModel" "errorAt" "I" : Cond) ∈ wsX9_report := List.mem_of_getElem? (i := 2) (by decide +kernel)
set_option maxHeartbeats 4000000 in
set_option maxRecDepth 100000 in
theorem c_X9_report {l : Launch} {D : va_G} {cs : Nat → ClassId} {B0 T : Nat} {κ : KM} {H0 : Heap} (hT : WT B0 D cs T κ H0) {w : Nat} (hw : T2 κ w 10 12) {x : Int32} {y : Int32} {pos tl : Nat} {er ns : Int32} {dr bu : Nat} {g : Nat → Int32} (hbT : T2 κ bu 23 14) (hdT : T2 κ dr 26 17) (hm : MF D cs w H0 pos tl er ns dr bu g) (hk9 : ¬ x = 0) : KC l yX9_report wsX9_report 0 0 0 0 D cs B0 H0 [.ref w, .int x, .int y] (Qv (fun H => WT B0 D cs T κ H ∧ Fr B0 [12] κ H0 H ∧ ∃ er1, er1 ≠ 0 ∧ MF D cs w H pos tl er1 ns dr bu g)) := by
  refine KC.of cX9_report 3 none (by decide) rfl (Nat.le_of_ble_eq_true rfl) ?_
  intro p e s m below meth c ls hx hb hr hml hown hts hlocks hin hN hE hH0 hl
  have hown : s.vm.findClass RX9 = some m.cls := hown
  have hl : lv_has ls 3 [(0, .ref w), (1, .int x), (2, .int y)] := hl
  have hL : OkL B0 [] := OkL.nil
  have hF : Fr B0 [12] κ H0 H0 := Fr.rf
  have hm8 := hm.2.2.2.2.2.2.2
  refine lv_aload_n hx hb dX9_report_0 rfl (lv_at hl 0 rfl) ?_
  obtain ⟨hb1942, e1942, hat1942, hk1942⟩ := hT.o10 hw.1
  obtain ⟨f1942_0, f1942_1, f1942_3, f1942_4, f1942_5, f1942_6, f1942_7, f1942_9, f1942_10, f1942_11, f1942_12, f1942_13, f1942_14, f1942_15, f1942_16, f1942_17, rfl, c1942_2, c1942_3, c1942_4, c1942_12, t1942_1, t1942_8, t1942_9, c1942_sd, t1942_10, t1942_11, t1942_17⟩ := hk1942
  obtain ⟨rfl, rfl, rfl, rfl, rfl, rfl⟩ := hm.at hat1942 c1942_3 (by omega)
  have hm8 := hm.2.2.2.2.2.2.2
  have hP : va_P D vwCl [(w, .inr (9, [.int f1942_0, .ref bu, .int (nI ((κ w).2.2.1)), .int (nI tl), .int (nI pos), .int er, .int f1942_6, .int f1942_7, .ref (κ w).2.2.2, .ref f1942_9, .ref dr, .ref f1942_11, .int (nI f1942_12), .int f1942_13, .int ns, .int f1942_15, .int f1942_16, .ref f1942_17]))] _ := va_P.cons hat1942 va_P.nil
  refine va_get (D := D) (ci := 9) (v := .int er) (C := RX9) (T := TX9) (N := 18) hx hb hts iX9_report_9 hown hN.1 hP 0 rfl rfl 5 (by decide) (hts _ mX9_report_1) (fun _ h9 => h9) rfl dX9_report_1 ?_
  refine lv_if_eq (tgt := 8) hx hb dX9_report_4 (by decide) (fun c1943 => ?_) (fun c1943 => ?_)
  · refine lv_aload_n hx hb dX9_report_8 rfl (lv_at hl 0 rfl) ?_
    refine lv_iload_n hx hb dX9_report_9 rfl (lv_at hl 1 rfl) ?_
    have hB : Bx B0 D _ [(w, .inr (9, [.int f1942_0, .ref bu, .int (nI ((κ w).2.2.1)), .int (nI tl), .int (nI pos), .int er, .int f1942_6, .int f1942_7, .ref (κ w).2.2.2, .ref f1942_9, .ref dr, .ref f1942_11, .int (nI f1942_12), .int f1942_13, .int ns, .int f1942_15, .int f1942_16, .ref f1942_17]))] [] _ _ := Bx.of (fun a => (κ a).1) hL hP (fa_c hb1942 fa_n) (by simp only [List.map_cons, List.map_nil, hw.1]; decide)
    refine b_put (D := D) (ci := 9) (v := .int x) (ty := .int) (C := RX9) (T := TX9) (N := 18) hx hb hts iX9_report_9 tyX9 tyX9_ok nmX9 hown hN hB 0 rfl rfl 5 (by decide) (hts _ mX9_report_1) (fun _ h9 => h9) rfl (by decide +kernel) rfl rfl (Nat.le_of_ble_eq_true rfl) (.inl rfl) dX9_report_10 (fun H locs hB => ?_)
    have hB : Bx B0 D _ [(w, .inr (9, [.int f1942_0, .ref bu, .int (nI ((κ w).2.2.1)), .int (nI tl), .int (nI pos), .int x, .int f1942_6, .int f1942_7, .ref (κ w).2.2.2, .ref f1942_9, .ref dr, .ref f1942_11, .int (nI f1942_12), .int f1942_13, .int ns, .int f1942_15, .int f1942_16, .ref f1942_17]))] [w] _ _ := hB
    refine lv_aload_n hx hb dX9_report_13 rfl (lv_at hl 0 rfl) ?_
    refine lv_iload_n hx hb dX9_report_14 rfl (lv_at hl 2 rfl) ?_
    refine b_put (D := D) (ci := 9) (v := .int y) (ty := .int) (C := RX9) (T := TX9) (N := 18) hx hb hts iX9_report_9 tyX9 tyX9_ok nmX9 hown hN hB 0 rfl rfl 6 (by decide) (hts _ mX9_report_2) (fun _ h9 => h9) rfl (by decide +kernel) rfl rfl (Nat.le_of_ble_eq_true rfl) (.inr ⟨rfl, List.mem_of_getElem? (i := 0) rfl⟩) dX9_report_15 (fun H locs hB => ?_)
    have hB : Bx B0 D _ [(w, .inr (9, [.int f1942_0, .ref bu, .int (nI ((κ w).2.2.1)), .int (nI tl), .int (nI pos), .int x, .int y, .int f1942_7, .ref (κ w).2.2.2, .ref f1942_9, .ref dr, .ref f1942_11, .int (nI f1942_12), .int f1942_13, .int ns, .int f1942_15, .int f1942_16, .ref f1942_17]))] [w] _ _ := hB
    have hT : WT B0 D cs T κ _ := hT.close hB ⟨⟨0, _, rfl, ok_10 hw.1 ⟨_, _, _, _, _, _, _, _, _, _, _, _, _, _, _, _, rfl, (by omega), (by omega), (by omega), (by omega), hbT, t1942_8, t1942_9, c1942_sd, hdT, t1942_11, t1942_17⟩⟩, trivial⟩
    have hF : Fr B0 [12] κ H0 _ := hF.close hB (fa_c (by simp [hw.2]) fa_n)
    have hL : OkL B0 _ := hB.2.2.2.2.2
    have hP : va_P D vwCl [(w, .inr (9, [.int f1942_0, .ref bu, .int (nI ((κ w).2.2.1)), .int (nI tl), .int (nI pos), .int x, .int y, .int f1942_7, .ref (κ w).2.2.2, .ref f1942_9, .ref dr, .ref f1942_11, .int (nI f1942_12), .int f1942_13, .int ns, .int f1942_15, .int f1942_16, .ref f1942_17]))] _ := hB.1
    have hbu9 := (hm.2.2.2.2.2.2.1).kept (hB.2.2.2.1 _ hm.2.2.2.2.2.2.1.lt (by simp only [List.mem_cons, List.not_mem_nil, or_false, not_or]; exact ne_c hbT.1 hw.1 (by decide)))
    have hm : MF D cs w _ (pos) (tl) (x) (ns) dr bu g := ⟨⟨_, hP 0 _ rfl, rfl⟩, ⟨_, hP 0 _ rfl, rfl⟩, ⟨_, hP 0 _ rfl, rfl⟩, ⟨_, hP 0 _ rfl, rfl⟩, ⟨_, hP 0 _ rfl, rfl⟩, ⟨_, hP 0 _ rfl, rfl⟩, hbu9, (by omega), (by omega)⟩
    exact en_v hx hb hr hlocks hL (Nat.zero_le _) (Nat.zero_le _) dX9_report_18 (⟨hT, hF, _, hk9, hm⟩)
  · exact en_v hx hb hr hlocks hL (Nat.zero_le _) (Nat.zero_le _) dX9_report_7 (⟨hT, hF, _, c1943, hm⟩)
theorem mX9_byteAt_1 : (.fieldLink RX9 50 "OneBeatModel" "textLength" "I" : Cond) ∈ wsX9_byteAt := List.mem_of_getElem? (i := 1) (by decide +kernel)
theorem iX9_byteAt_9 : ∀ w ∈ wsX90, w ∈ wsX9_byteAt := fun w h => List.mem_of_mem_drop (List.mem_of_mem_take ((show wsX90 = (wsX9_byteAt.drop 3).take 18 by decide +kernel) ▸ h))
theorem mX9_byteAt_2 : (.fieldLink RX9 9 "OneBeatModel" "buffer" "[I" : Cond) ∈ wsX9_byteAt := List.mem_of_getElem? (i := 2) (by decide +kernel)
set_option maxHeartbeats 4000000 in
set_option maxRecDepth 100000 in
theorem c_X9_byteAt {l : Launch} {D : va_G} {cs : Nat → ClassId} {B0 T : Nat} {κ : KM} {H0 : Heap} (hT : WT B0 D cs T κ H0) {w : Nat} (hw : T2 κ w 10 12) {n : Nat} {pos tl : Nat} {er ns : Int32} {dr bu : Nat} {g : Nat → Int32} (hbT : T2 κ bu 23 14) (hdT : T2 κ dr 26 17) (hm : MF D cs w H0 pos tl er ns dr bu g) (hn : n ≤ 1300) : KC l yX9_byteAt wsX9_byteAt 0 0 0 0 D cs B0 H0 [.ref w, .int (nI n)] (Qi (fun r H => H = H0 ∧ r = byF g tl n)) := by
  refine KC.of cX9_byteAt 2 (some .int) (by decide) rfl (Nat.le_of_ble_eq_true rfl) ?_
  intro p e s m below meth c ls hx hb hr hml hown hts hlocks hin hN hE hH0 hl
  have hown : s.vm.findClass RX9 = some m.cls := hown
  have hl : lv_has ls 2 [(0, .ref w), (1, .int (nI n))] := hl
  have hL : OkL B0 [] := OkL.nil
  have hm8 := hm.2.2.2.2.2.2.2
  refine lv_iload_n hx hb dX9_byteAt_0 rfl (lv_at hl 1 rfl) ?_
  refine lv_aload_n hx hb dX9_byteAt_1 rfl (lv_at hl 0 rfl) ?_
  obtain ⟨hb1944, e1944, hat1944, hk1944⟩ := hT.o10 hw.1
  obtain ⟨f1944_0, f1944_1, f1944_3, f1944_4, f1944_5, f1944_6, f1944_7, f1944_9, f1944_10, f1944_11, f1944_12, f1944_13, f1944_14, f1944_15, f1944_16, f1944_17, rfl, c1944_2, c1944_3, c1944_4, c1944_12, t1944_1, t1944_8, t1944_9, c1944_sd, t1944_10, t1944_11, t1944_17⟩ := hk1944
  obtain ⟨rfl, rfl, rfl, rfl, rfl, rfl⟩ := hm.at hat1944 c1944_3 (by omega)
  have hm8 := hm.2.2.2.2.2.2.2
  have hP : va_P D vwCl [(w, .inr (9, [.int f1944_0, .ref bu, .int (nI ((κ w).2.2.1)), .int (nI tl), .int (nI pos), .int er, .int f1944_6, .int f1944_7, .ref (κ w).2.2.2, .ref f1944_9, .ref dr, .ref f1944_11, .int (nI f1944_12), .int f1944_13, .int ns, .int f1944_15, .int f1944_16, .ref f1944_17]))] _ := va_P.cons hat1944 va_P.nil
  refine va_get (D := D) (ci := 9) (v := .int (nI tl)) (C := RX9) (T := TX9) (N := 18) hx hb hts iX9_byteAt_9 hown hN.1 hP 0 rfl rfl 3 (by decide) (hts _ mX9_byteAt_1) (fun _ h9 => h9) rfl dX9_byteAt_2 ?_
  refine lv_icmp_ge (tgt := 17) hx hb dX9_byteAt_5 (by decide) (fun c1945 => ?_) (fun c1945 => ?_)
  · have c1945 : tl ≤ n := (nI_leI (a := tl) (b := n) (by omega) (by omega)).mp c1945
    refine lv_iconst (v := (-1)) hx hb dX9_byteAt_17 (by decide) ?_
    exact en_i hx hb hr hlocks hL rfl (Nat.zero_le _) (Nat.zero_le _) dX9_byteAt_18 (⟨rfl, byF_n (Nat.not_lt.mpr c1945)⟩)
  · have c1945 : ¬ tl ≤ n := fun h9 => c1945 ((nI_leI (a := tl) (b := n) (by omega) (by omega)).mpr h9)
    refine lv_aload_n hx hb dX9_byteAt_8 rfl (lv_at hl 0 rfl) ?_
    refine va_get (D := D) (ci := 9) (v := .ref bu) (C := RX9) (T := TX9) (N := 18) hx hb hts iX9_byteAt_9 hown hN.1 hP 0 rfl rfl 1 (by decide) (hts _ mX9_byteAt_2) (fun _ h9 => h9) rfl dX9_byteAt_9 ?_
    refine lv_iload_n hx hb dX9_byteAt_12 rfl (lv_at hl 1 rfl) ?_
    have hbb : B0 ≤ bu := (hT.o23 hbT.1).1
    have hP : va_P D vwCl [(bu, .inl (cs 0, 600, .inl g)), (w, .inr (9, [.int f1944_0, .ref bu, .int (nI ((κ w).2.2.1)), .int (nI tl), .int (nI pos), .int er, .int f1944_6, .int f1944_7, .ref (κ w).2.2.2, .ref f1944_9, .ref dr, .ref f1944_11, .int (nI f1944_12), .int f1944_13, .int ns, .int f1944_15, .int f1944_16, .ref f1944_17]))] _ := va_P.cons hm.2.2.2.2.2.2.1 hP
    refine ld_i (v := (g n)) hx hb hN hP 0 rfl (vp_in_nI (n := n) (N := 600) (by omega) (by omega)) (by rw [(show ((nI n) : Int32).toNatClampNeg = n from nI_clamp (n := n) (by omega))]) dX9_byteAt_13 ?_
    refine lv_goto (tgt := 18) hx hb dX9_byteAt_14 (by decide) ?_
    exact en_i hx hb hr hlocks hL rfl (Nat.zero_le _) (Nat.zero_le _) dX9_byteAt_18 (⟨rfl, byF_y (Nat.not_le.mp c1945)⟩)
theorem mX9_ahead_1 : (.fieldLink RX9 53 "OneBeatModel" "position" "I" : Cond) ∈ wsX9_ahead := List.mem_of_getElem? (i := 1) (by decide +kernel)
theorem iX9_ahead_9 : ∀ w ∈ wsX90, w ∈ wsX9_ahead := fun w h => List.mem_of_mem_drop (List.mem_of_mem_take ((show wsX90 = (wsX9_ahead.drop 9).take 18 by decide +kernel) ▸ h))
theorem hdX9_byteAt_v : yX9_byteAt.cls = RX9 ∧ yX9_byteAt.cls ≠ "java/lang/invoke/MethodHandle" ∧ yX9_byteAt.cls ≠ "java/lang/invoke/VarHandle" ∧ (parseMethodDescriptor yX9_byteAt.desc).map (fun d => d.parameters.length) = some 1 := by decide +kernel
set_option maxHeartbeats 4000000 in
set_option maxRecDepth 100000 in
theorem c_X9_ahead {l : Launch} {D : va_G} {cs : Nat → ClassId} {B0 T : Nat} {κ : KM} {H0 : Heap} (hT : WT B0 D cs T κ H0) {w : Nat} (hw : T2 κ w 10 12) {pos tl : Nat} {er ns : Int32} {dr bu : Nat} {g : Nat → Int32} (hbT : T2 κ bu 23 14) (hdT : T2 κ dr 26 17) (hm : MF D cs w H0 pos tl er ns dr bu g) : KC l yX9_ahead wsX9_ahead 1 21 0 0 D cs B0 H0 [.ref w] (Qi (fun r H => WT B0 D cs T κ H ∧ Fr B0 [12] κ H0 H ∧ ∃ pos1, pos ≤ pos1 ∧ MF D cs w H pos1 tl er ns dr bu g ∧ byF g tl pos1 ≠ 32 ∧ (byF g tl pos ≠ 32 → pos1 = pos) ∧ r = byF g tl pos1)) := by
  refine KC.of cX9_ahead 1 (some .int) (by decide) rfl (Nat.le_of_ble_eq_true rfl) ?_
  intro p e s m below meth c ls hx hb hr hml hown hts hlocks hin hN hE hH0 hl
  have hown : s.vm.findClass RX9 = some m.cls := hown
  have hl : lv_has ls 1 [(0, .ref w)] := hl
  have hL : OkL B0 [] := OkL.nil
  have hF : Fr B0 [12] κ H0 H0 := Fr.rf
  have hm8 := hm.2.2.2.2.2.2.2
  refine lp_m (α := Nat) (nL := 1) (fun a9 => 600 - a9) (fun a9 H9 l9 => (pos ≤ a9) ∧ (MF D cs w H9 a9 tl er ns dr bu g) ∧ (byF g tl pos ≠ 32 → a9 = pos) ∧ (WT B0 D cs T κ H9) ∧ (Fr B0 [12] κ H0 H9) ∧ (OkL B0 l9)) (fun a9 => [(0, .ref w)]) ?_ pos _ _ _ ⟨(by show pos ≤ (pos); omega), hm, (fun _ => rfl), hT, hF, hL⟩ (lv_sub hl [0] rfl)
  rintro p H locs ls ih1947 ⟨hp, hm, hs, hT, hF, hL⟩ hl
  have hl : lv_has ls 1 [(0, .ref w)] := hl
  have hp : pos ≤ p := hp
  have hm : MF D cs w H p tl er ns dr bu g := hm
  have hs : byF g tl pos ≠ 32 → p = pos := hs
  have hm8 := hm.2.2.2.2.2.2.2
  refine lv_aload_n hx hb dX9_ahead_0 rfl (lv_at hl 0 rfl) ?_
  refine lv_aload_n hx hb dX9_ahead_1 rfl (lv_at hl 0 rfl) ?_
  obtain ⟨hb1948, e1948, hat1948, hk1948⟩ := hT.o10 hw.1
  obtain ⟨f1948_0, f1948_1, f1948_3, f1948_4, f1948_5, f1948_6, f1948_7, f1948_9, f1948_10, f1948_11, f1948_12, f1948_13, f1948_14, f1948_15, f1948_16, f1948_17, rfl, c1948_2, c1948_3, c1948_4, c1948_12, t1948_1, t1948_8, t1948_9, c1948_sd, t1948_10, t1948_11, t1948_17⟩ := hk1948
  obtain ⟨rfl, rfl, rfl, rfl, rfl, rfl⟩ := hm.at hat1948 c1948_3 (by omega)
  have hm8 := hm.2.2.2.2.2.2.2
  have hP : va_P D vwCl [(w, .inr (9, [.int f1948_0, .ref bu, .int (nI ((κ w).2.2.1)), .int (nI tl), .int (nI p), .int er, .int f1948_6, .int f1948_7, .ref (κ w).2.2.2, .ref f1948_9, .ref dr, .ref f1948_11, .int (nI f1948_12), .int f1948_13, .int ns, .int f1948_15, .int f1948_16, .ref f1948_17]))] _ := va_P.cons hat1948 va_P.nil
  refine va_get (D := D) (ci := 9) (v := .int (nI p)) (C := RX9) (T := TX9) (N := 18) hx hb hts iX9_ahead_9 hown hN.1 hP 0 rfl rfl 4 (by decide) (hts _ mX9_ahead_1) (fun _ h9 => h9) rfl dX9_ahead_2 ?_
  refine cv_i (As := [.int (nI p)]) (rest := []) (b := w) ⟨hx, hb, hml, hown, hts⟩ (c_X9_byteAt hT (w := w) hw (n := p) hbT hdT hm (by first | omega | decide | assumption)) (cwV 1 hts gX9_ahead_X9_byteAt rfl rfl rfl hdX9_byteAt_v ⟨Nat.le_of_ble_eq_true rfl, Nat.le_of_ble_eq_true rfl⟩) hN hE hL (rcv10 hN hT hw.1) rfl rfl hl.1 (Nat.le_of_ble_eq_true rfl) dX9_ahead_5 (Nat.zero_le _) (Nat.zero_le _) (fun r1949 H1 locs hL hqr1949 => ?_)
  obtain ⟨h9, hqr1949⟩ := hqr1949; replace h9 := h9.symm; subst h9
  obtain rfl := hqr1949
  refine lv_bipush (v := 32) hx hb dX9_ahead_8 (by decide) ?_
  refine lv_icmp_ne (tgt := 26) hx hb dX9_ahead_10 (by decide) (fun c1950 => ?_) (fun c1950 => ?_)
  · refine lv_aload_n hx hb dX9_ahead_26 rfl (lv_at hl 0 rfl) ?_
    refine lv_aload_n hx hb dX9_ahead_27 rfl (lv_at hl 0 rfl) ?_
    refine va_get (D := D) (ci := 9) (v := .int (nI p)) (C := RX9) (T := TX9) (N := 18) hx hb hts iX9_ahead_9 hown hN.1 hP 0 rfl rfl 4 (by decide) (hts _ mX9_ahead_1) (fun _ h9 => h9) rfl dX9_ahead_28 ?_
    refine cv_i (As := [.int (nI p)]) (rest := []) (b := w) ⟨hx, hb, hml, hown, hts⟩ (c_X9_byteAt hT (w := w) hw (n := p) hbT hdT hm (by first | omega | decide | assumption)) (cwV 1 hts gX9_ahead_X9_byteAt rfl rfl rfl hdX9_byteAt_v ⟨Nat.le_of_ble_eq_true rfl, Nat.le_of_ble_eq_true rfl⟩) hN hE hL (rcv10 hN hT hw.1) rfl rfl hl.1 (Nat.le_of_ble_eq_true rfl) dX9_ahead_31 (Nat.zero_le _) (Nat.zero_le _) (fun r1951 H1 locs hL hqr1951 => ?_)
    obtain ⟨h9, hqr1951⟩ := hqr1951; replace h9 := h9.symm; subst h9
    obtain rfl := hqr1951
    exact en_i hx hb hr hlocks hL rfl (Nat.zero_le _) (Nat.zero_le _) dX9_ahead_34 (⟨hT, hF, p, hp, hm, c1950, hs, rfl⟩)
  · have hl9 := byF_c (c1950) (by decide)
    have h32 := c1950
    refine lv_aload_n hx hb dX9_ahead_13 rfl (lv_at hl 0 rfl) ?_
    refine lv_dup hx hb dX9_ahead_14 rfl ?_
    refine va_get (D := D) (ci := 9) (v := .int (nI p)) (C := RX9) (T := TX9) (N := 18) hx hb hts iX9_ahead_9 hown hN.1 hP 0 rfl rfl 4 (by decide) (hts _ mX9_ahead_1) (fun _ h9 => h9) rfl dX9_ahead_15 ?_
    refine lv_iconst (v := 1) hx hb dX9_ahead_18 (by decide) ?_
    refine lv_iadd hx hb dX9_ahead_19 ?_
    refine tp_i (nI (p + 1)) (nI_add p 1) ?_
    have hB : Bx B0 D _ [(w, .inr (9, [.int f1948_0, .ref bu, .int (nI ((κ w).2.2.1)), .int (nI tl), .int (nI p), .int er, .int f1948_6, .int f1948_7, .ref (κ w).2.2.2, .ref f1948_9, .ref dr, .ref f1948_11, .int (nI f1948_12), .int f1948_13, .int ns, .int f1948_15, .int f1948_16, .ref f1948_17]))] [] _ _ := Bx.of (fun a => (κ a).1) hL hP (fa_c hb1948 fa_n) (by simp only [List.map_cons, List.map_nil, hw.1]; decide)
    refine b_put (D := D) (ci := 9) (v := .int (nI (p + 1))) (ty := .int) (C := RX9) (T := TX9) (N := 18) hx hb hts iX9_ahead_9 tyX9 tyX9_ok nmX9 hown hN hB 0 rfl rfl 4 (by decide) (hts _ mX9_ahead_1) (fun _ h9 => h9) rfl (by decide +kernel) rfl rfl (Nat.le_of_ble_eq_true rfl) (.inl rfl) dX9_ahead_20 (fun H locs hB => ?_)
    have hB : Bx B0 D _ [(w, .inr (9, [.int f1948_0, .ref bu, .int (nI ((κ w).2.2.1)), .int (nI tl), .int (nI (p + 1)), .int er, .int f1948_6, .int f1948_7, .ref (κ w).2.2.2, .ref f1948_9, .ref dr, .ref f1948_11, .int (nI f1948_12), .int f1948_13, .int ns, .int f1948_15, .int f1948_16, .ref f1948_17]))] [w] _ _ := hB
    refine lv_goto (tgt := 0) hx hb dX9_ahead_23 (by decide) ?_
    have hT : WT B0 D cs T κ _ := hT.close hB ⟨⟨0, _, rfl, ok_10 hw.1 ⟨_, _, _, _, _, _, _, _, _, _, _, _, _, _, _, _, rfl, (by omega), (by omega), (by omega), (by omega), hbT, t1948_8, t1948_9, c1948_sd, hdT, t1948_11, t1948_17⟩⟩, trivial⟩
    have hF : Fr B0 [12] κ H0 _ := hF.close hB (fa_c (by simp [hw.2]) fa_n)
    have hL : OkL B0 _ := hB.2.2.2.2.2
    have hP : va_P D vwCl [(w, .inr (9, [.int f1948_0, .ref bu, .int (nI ((κ w).2.2.1)), .int (nI tl), .int (nI (p + 1)), .int er, .int f1948_6, .int f1948_7, .ref (κ w).2.2.2, .ref f1948_9, .ref dr, .ref f1948_11, .int (nI f1948_12), .int f1948_13, .int ns, .int f1948_15, .int f1948_16, .ref f1948_17]))] _ := hB.1
    have hbu9 := (hm.2.2.2.2.2.2.1).kept (hB.2.2.2.1 _ hm.2.2.2.2.2.2.1.lt (by simp only [List.mem_cons, List.not_mem_nil, or_false, not_or]; exact ne_c hbT.1 hw.1 (by decide)))
    have hm : MF D cs w _ ((p + 1)) (tl) (er) (ns) dr bu g := ⟨⟨_, hP 0 _ rfl, rfl⟩, ⟨_, hP 0 _ rfl, rfl⟩, ⟨_, hP 0 _ rfl, rfl⟩, ⟨_, hP 0 _ rfl, rfl⟩, ⟨_, hP 0 _ rfl, rfl⟩, ⟨_, hP 0 _ rfl, rfl⟩, hbu9, (by omega), (by omega)⟩
    exact ih1947 (p + 1) _ _ _ (by show 600 - ((p + 1)) < 600 - p; omega) ⟨(by show pos ≤ ((p + 1)); omega), hm, (fun e9 => absurd (by rw [← hs e9]; exact h32) e9), hT, hF, hL⟩ (lv_sub hl [0] rfl)
set_option maxHeartbeats 4000000 in
set_option maxRecDepth 100000 in
theorem c_X9_isDigit {l : Launch} {D : va_G} {cs : Nat → ClassId} {B0 T : Nat} {κ : KM} {H0 : Heap} (hT : WT B0 D cs T κ H0) {x : Int32} : KC l yX9_isDigit wsX9_isDigit 1 22 0 0 D cs B0 H0 [.int x] (Qi (fun r H => H = H0 ∧ ((r = 0 ∧ (x < 48 ∨ 57 < x)) ∨ (r = 1 ∧ ¬ x < 48 ∧ ¬ 57 < x)))) := by
  refine KC.of cX9_isDigit 1 (some .boolean) (by decide) rfl (Nat.le_of_ble_eq_true rfl) ?_
  intro p e s m below meth c ls hx hb hr hml hown hts hlocks hin hN hE hH0 hl
  have hown : s.vm.findClass RX9 = some m.cls := hown
  have hl : lv_has ls 1 [(0, .int x)] := hl
  have hL : OkL B0 [] := OkL.nil
  refine lv_iload_n hx hb dX9_isDigit_0 rfl (lv_at hl 0 rfl) ?_
  refine lv_bipush (v := 48) hx hb dX9_isDigit_1 (by decide) ?_
  refine lv_bipush (v := 57) hx hb dX9_isDigit_3 (by decide) ?_
  refine cs_i (As := [.int x, .int 48, .int 57]) (rest := []) ⟨hx, hb, hml, hown, hts⟩ (c_X9_in hT (x := x) (y := 48) (z := 57)) (va_cwS 3 hts gX9_isDigit_X9_in rfl rfl rfl hdX9_in_o ⟨Nat.le_of_ble_eq_true rfl, Nat.le_of_ble_eq_true rfl⟩) hN hE hL rfl rfl hl.1 (Nat.le_of_ble_eq_true rfl) dX9_isDigit_5 (Nat.zero_le _) (Nat.zero_le _) (fun r1952 H1 locs hL hqr1952 => ?_)
  obtain ⟨h9, hqr1952⟩ := hqr1952; replace h9 := h9.symm; subst h9
  rcases hqr1952 with ⟨rfl, o1953⟩ | ⟨rfl, l1954, g1955⟩
  · exact en_i hx hb hr hlocks hL rfl (Nat.zero_le _) (Nat.zero_le _) dX9_isDigit_8 (⟨rfl, Or.inl ⟨rfl, o1953⟩⟩)
  · exact en_i hx hb hr hlocks hL rfl (Nat.zero_le _) (Nat.zero_le _) dX9_isDigit_8 (⟨rfl, Or.inr ⟨rfl, l1954, g1955⟩⟩)
theorem hdX9_isGood_v : yX9_isGood.cls = RX9 ∧ yX9_isGood.cls ≠ "java/lang/invoke/MethodHandle" ∧ yX9_isGood.cls ≠ "java/lang/invoke/VarHandle" ∧ (parseMethodDescriptor yX9_isGood.desc).map (fun d => d.parameters.length) = some 0 := by decide +kernel
theorem hdX9_ahead_v : yX9_ahead.cls = RX9 ∧ yX9_ahead.cls ≠ "java/lang/invoke/MethodHandle" ∧ yX9_ahead.cls ≠ "java/lang/invoke/VarHandle" ∧ (parseMethodDescriptor yX9_ahead.desc).map (fun d => d.parameters.length) = some 0 := by decide +kernel
theorem mX9_takeWord_1 : (.fieldLink RX9 53 "OneBeatModel" "position" "I" : Cond) ∈ wsX9_takeWord := List.mem_of_getElem? (i := 1) (by decide +kernel)
theorem iX9_takeWord_9 : ∀ w ∈ wsX90, w ∈ wsX9_takeWord := fun w h => List.mem_of_mem_drop (List.mem_of_mem_take ((show wsX90 = (wsX9_takeWord.drop 70).take 18 by decide +kernel) ▸ h))
set_option maxHeartbeats 4000000 in
set_option maxRecDepth 100000 in
theorem c_X9_takeWord {l : Launch} {D : va_G} {cs : Nat → ClassId} {B0 T : Nat} {κ : KM} {H0 : Heap} (hT : WT B0 D cs T κ H0) {w : Nat} (hw : T2 κ w 10 12) {i : Nat} (hi9 : i ∈ nW) {pos tl : Nat} {er ns : Int32} {dr bu : Nat} {g : Nat → Int32} (hbT : T2 κ bu 23 14) (hdT : T2 κ dr 26 17) (hm : MF D cs w H0 pos tl er ns dr bu g) : KC l yX9_takeWord wsX9_takeWord 4 85 0 0 D cs B0 H0 [.ref w, .ref (cs (100 + i))] (Qi (fun r H => WT B0 D cs T κ H ∧ Fr B0 [12] κ H0 H ∧ ((r = 0 ∧ ∃ pos1, pos ≤ pos1 ∧ MF D cs w H pos1 tl er ns dr bu g) ∨ (r = 1 ∧ ∃ pos1, pos + 1 ≤ pos1 ∧ er = 0 ∧ MF D cs w H pos1 tl er ns dr bu g)))) := by
  refine KC.of cX9_takeWord 3 (some .boolean) (by decide) rfl (Nat.le_of_ble_eq_true rfl) ?_
  intro p e s m below meth c ls hx hb hr hml hown hts hlocks hin hN hE hH0 hl
  have hown : s.vm.findClass RX9 = some m.cls := hown
  have hl : lv_has ls 3 [(0, .ref w), (1, .ref (cs (100 + i)))] := hl
  have hL : OkL B0 [] := OkL.nil
  have hF : Fr B0 [12] κ H0 H0 := Fr.rf
  have hm8 := hm.2.2.2.2.2.2.2
  refine lv_aload_n hx hb dX9_takeWord_0 rfl (lv_at hl 0 rfl) ?_
  refine cv_i (As := []) (rest := []) (b := w) ⟨hx, hb, hml, hown, hts⟩ (c_X9_isGood hT (w := w) hw hbT hdT hm) (cwV 0 hts gX9_takeWord_X9_isGood rfl rfl rfl hdX9_isGood_v ⟨Nat.le_of_ble_eq_true rfl, Nat.le_of_ble_eq_true rfl⟩) hN hE hL (rcv10 hN hT hw.1) rfl rfl hl.1 (Nat.le_of_ble_eq_true rfl) dX9_takeWord_1 (Nat.zero_le _) (Nat.zero_le _) (fun r1956 H1 locs hL hqr1956 => ?_)
  obtain ⟨h9, hqr1956⟩ := hqr1956; replace h9 := h9.symm; subst h9
  rcases hqr1956 with ⟨rfl, e1957⟩ | ⟨rfl, e1958⟩
  · refine lv_if_ne (tgt := 9) hx hb dX9_takeWord_4 (by decide) (fun _ => ?_) (fun c9 => absurd c9 (by decide))
    refine lv_aload_n hx hb dX9_takeWord_9 rfl (lv_at hl 0 rfl) ?_
    refine cv_i (As := []) (rest := []) (b := w) ⟨hx, hb, hml, hown, hts⟩ (c_X9_ahead hT (w := w) hw hbT hdT hm) (cwV 0 hts gX9_takeWord_X9_ahead rfl rfl rfl hdX9_ahead_v ⟨Nat.le_of_ble_eq_true rfl, Nat.le_of_ble_eq_true rfl⟩) hN hE hL (rcv10 hN hT hw.1) rfl rfl hl.1 (Nat.le_of_ble_eq_true rfl) dX9_takeWord_10 (Nat.zero_le _) (Nat.zero_le _) (fun r1959 H1 locs hL hqr1959 => ?_)
    obtain ⟨hT1, hF1, hqr1959⟩ := hqr1959
    have hF := hF.tr (hF1.mono (by simp))
    have hT := hT1
    obtain ⟨p1960, h1961, m1962, n1963, s1964, rfl⟩ := hqr1959
    have hm := m1962
    have hm8 := hm.2.2.2.2.2.2.2
    have hn1 := nT_pos _ hi9
    refine lv_pop hx hb dX9_takeWord_13 rfl ?_
    refine lv_iconst (v := 0) hx hb dX9_takeWord_14 (by decide) ?_
    refine lv_istore_n (lv' := [(2, .int 0), (0, .ref w), (1, .ref (cs (100 + i)))]) hx hb dX9_takeWord_15 rfl hl (by decide) rfl (fun ls hl => ?_)
    refine lp_r (B0 := B0) (α := Nat) (nL := 3) (fun a9 => 8 - a9) (fun a9 => (a9 ≤ nT i ∧ p1960 + a9 ≤ tl)) (fun a9 => [(2, .int (nI a9)), (0, .ref w), (1, .ref (cs (100 + i)))]) ?_ 0 _ _ (by show (0) ≤ nT i ∧ p1960 + (0) ≤ tl; omega) hL (lv_sub hl [0, 1, 2] rfl)
    rintro k locs ls ih1965 hk hL hl
    have hl : lv_has ls 3 [(2, .int (nI k)), (0, .ref w), (1, .ref (cs (100 + i)))] := hl
    have hk : k ≤ nT i ∧ p1960 + k ≤ tl := hk
    refine lv_iload_n hx hb dX9_takeWord_16 rfl (lv_at hl 0 rfl) ?_
    refine lv_aload_n hx hb dX9_takeWord_17 rfl (lv_at hl 2 rfl) ?_
    refine W.old hL (fun hold => ?_)
    refine cv_i (As := []) (rest := [.int (nI k)]) (b := (cs (100 + i))) ⟨hx, hb, hml, hown, hts⟩ (c_J0_length_8abf5 hT (i := i) hi9) (cwV 0 hts gX9_takeWord_J0_length_8abf5 rfl rfl rfl hdJ0_length_8abf5_v ⟨Nat.le_of_ble_eq_true rfl, Nat.le_of_ble_eq_true rfl⟩) hN hE hL (sx_rec (hE.2.1 _ hi9) hold) rfl rfl hl.1 (Nat.le_of_ble_eq_true rfl) dX9_takeWord_18 (Nat.zero_le _) (Nat.zero_le _) (fun r1966 H1 locs hL hqr1966 => ?_)
    obtain ⟨h9, hqr1966⟩ := hqr1966; replace h9 := h9.symm; subst h9
    obtain rfl := hqr1966
    have hn9 := nT_le _ hi9
    refine lv_icmp_ge (tgt := 48) hx hb dX9_takeWord_21 (by decide) (fun c1967 => ?_) (fun c1967 => ?_)
    · have c1967 : (nT i) ≤ k := (nI_leI (a := (nT i)) (b := k) (by omega) (by omega)).mp c1967
      refine lv_iload_n hx hb dX9_takeWord_48 rfl (lv_at hl 0 rfl) ?_
      refine lv_aload_n hx hb dX9_takeWord_49 rfl (lv_at hl 2 rfl) ?_
      refine W.old hL (fun hold => ?_)
      refine cv_i (As := []) (rest := [.int (nI k)]) (b := (cs (100 + i))) ⟨hx, hb, hml, hown, hts⟩ (c_J0_length_8abf5 hT (i := i) hi9) (cwV 0 hts gX9_takeWord_J0_length_8abf5 rfl rfl rfl hdJ0_length_8abf5_v ⟨Nat.le_of_ble_eq_true rfl, Nat.le_of_ble_eq_true rfl⟩) hN hE hL (sx_rec (hE.2.1 _ hi9) hold) rfl rfl hl.1 (Nat.le_of_ble_eq_true rfl) dX9_takeWord_50 (Nat.zero_le _) (Nat.zero_le _) (fun r1968 H1 locs hL hqr1968 => ?_)
      obtain ⟨h9, hqr1968⟩ := hqr1968; replace h9 := h9.symm; subst h9
      obtain rfl := hqr1968
      have hn9 := nT_le _ hi9
      refine lv_icmp_lt (tgt := 76) hx hb dX9_takeWord_53 (by decide) (fun c1969 => ?_) (fun c1969 => ?_)
      · have c1969 : k < (nT i) := (nI_ltI (a := k) (b := (nT i)) (by omega) (by omega)).mp c1969
        refine lv_iconst (v := 0) hx hb dX9_takeWord_76 (by decide) ?_
        exact en_i hx hb hr hlocks hL rfl (Nat.zero_le _) (Nat.zero_le _) dX9_takeWord_77 (⟨hT, hF, Or.inl ⟨rfl, p1960, (by omega), hm⟩⟩)
      · have c1969 : ¬ k < (nT i) := fun h9 => c1969 ((nI_ltI (a := k) (b := (nT i)) (by omega) (by omega)).mpr h9)
        refine lv_aload_n hx hb dX9_takeWord_56 rfl (lv_at hl 1 rfl) ?_
        refine lv_aload_n hx hb dX9_takeWord_57 rfl (lv_at hl 1 rfl) ?_
        obtain ⟨hb1970, e1970, hat1970, hk1970⟩ := hT.o10 hw.1
        obtain ⟨f1970_0, f1970_1, f1970_3, f1970_4, f1970_5, f1970_6, f1970_7, f1970_9, f1970_10, f1970_11, f1970_12, f1970_13, f1970_14, f1970_15, f1970_16, f1970_17, rfl, c1970_2, c1970_3, c1970_4, c1970_12, t1970_1, t1970_8, t1970_9, c1970_sd, t1970_10, t1970_11, t1970_17⟩ := hk1970
        obtain ⟨rfl, rfl, rfl, rfl, rfl, rfl⟩ := hm.at hat1970 c1970_3 (by omega)
        have hm8 := hm.2.2.2.2.2.2.2
        have hP : va_P D vwCl [(w, .inr (9, [.int f1970_0, .ref bu, .int (nI ((κ w).2.2.1)), .int (nI tl), .int (nI p1960), .int er, .int f1970_6, .int f1970_7, .ref (κ w).2.2.2, .ref f1970_9, .ref dr, .ref f1970_11, .int (nI f1970_12), .int f1970_13, .int ns, .int f1970_15, .int f1970_16, .ref f1970_17]))] _ := va_P.cons hat1970 va_P.nil
        refine va_get (D := D) (ci := 9) (v := .int (nI p1960)) (C := RX9) (T := TX9) (N := 18) hx hb hts iX9_takeWord_9 hown hN.1 hP 0 rfl rfl 4 (by decide) (hts _ mX9_takeWord_1) (fun _ h9 => h9) rfl dX9_takeWord_58 ?_
        refine lv_iload_n hx hb dX9_takeWord_61 rfl (lv_at hl 0 rfl) ?_
        refine lv_iadd hx hb dX9_takeWord_62 ?_
        refine tp_i (nI (p1960 + k)) (nI_add p1960 k) ?_
        refine cv_i (As := [.int (nI (p1960 + k))]) (rest := []) (b := w) ⟨hx, hb, hml, hown, hts⟩ (c_X9_byteAt hT (w := w) hw (n := (p1960 + k)) hbT hdT hm (by first | omega | decide | assumption)) (cwV 1 hts gX9_takeWord_X9_byteAt rfl rfl rfl hdX9_byteAt_v ⟨Nat.le_of_ble_eq_true rfl, Nat.le_of_ble_eq_true rfl⟩) hN hE hL (rcv10 hN hT hw.1) rfl rfl hl.1 (Nat.le_of_ble_eq_true rfl) dX9_takeWord_63 (Nat.zero_le _) (Nat.zero_le _) (fun r1971 H1 locs hL hqr1971 => ?_)
        obtain ⟨h9, hqr1971⟩ := hqr1971; replace h9 := h9.symm; subst h9
        obtain rfl := hqr1971
        refine lv_bipush (v := 97) hx hb dX9_takeWord_66 (by decide) ?_
        refine lv_bipush (v := 122) hx hb dX9_takeWord_68 (by decide) ?_
        refine cs_i (As := [.int (byF g tl (p1960 + k)), .int 97, .int 122]) (rest := []) ⟨hx, hb, hml, hown, hts⟩ (c_X9_in hT (x := (byF g tl (p1960 + k))) (y := 97) (z := 122)) (va_cwS 3 hts gX9_takeWord_X9_in rfl rfl rfl hdX9_in_o ⟨Nat.le_of_ble_eq_true rfl, Nat.le_of_ble_eq_true rfl⟩) hN hE hL rfl rfl hl.1 (Nat.le_of_ble_eq_true rfl) dX9_takeWord_70 (Nat.zero_le _) (Nat.zero_le _) (fun r1972 H1 locs hL hqr1972 => ?_)
        obtain ⟨h9, hqr1972⟩ := hqr1972; replace h9 := h9.symm; subst h9
        rcases hqr1972 with ⟨rfl, o1973⟩ | ⟨rfl, l1974, g1975⟩
        · refine lv_if_eq (tgt := 78) hx hb dX9_takeWord_73 (by decide) (fun _ => ?_) (fun c9 => absurd (by decide) c9)
          refine lv_aload_n hx hb dX9_takeWord_78 rfl (lv_at hl 1 rfl) ?_
          refine lv_dup hx hb dX9_takeWord_79 rfl ?_
          refine va_get (D := D) (ci := 9) (v := .int (nI p1960)) (C := RX9) (T := TX9) (N := 18) hx hb hts iX9_takeWord_9 hown hN.1 hP 0 rfl rfl 4 (by decide) (hts _ mX9_takeWord_1) (fun _ h9 => h9) rfl dX9_takeWord_80 ?_
          refine lv_iload_n hx hb dX9_takeWord_83 rfl (lv_at hl 0 rfl) ?_
          refine lv_iadd hx hb dX9_takeWord_84 ?_
          refine tp_i (nI (p1960 + k)) (nI_add p1960 k) ?_
          have hB : Bx B0 D _ [(w, .inr (9, [.int f1970_0, .ref bu, .int (nI ((κ w).2.2.1)), .int (nI tl), .int (nI p1960), .int er, .int f1970_6, .int f1970_7, .ref (κ w).2.2.2, .ref f1970_9, .ref dr, .ref f1970_11, .int (nI f1970_12), .int f1970_13, .int ns, .int f1970_15, .int f1970_16, .ref f1970_17]))] [] _ _ := Bx.of (fun a => (κ a).1) hL hP (fa_c hb1970 fa_n) (by simp only [List.map_cons, List.map_nil, hw.1]; decide)
          refine b_put (D := D) (ci := 9) (v := .int (nI (p1960 + k))) (ty := .int) (C := RX9) (T := TX9) (N := 18) hx hb hts iX9_takeWord_9 tyX9 tyX9_ok nmX9 hown hN hB 0 rfl rfl 4 (by decide) (hts _ mX9_takeWord_1) (fun _ h9 => h9) rfl (by decide +kernel) rfl rfl (Nat.le_of_ble_eq_true rfl) (.inl rfl) dX9_takeWord_85 (fun H locs hB => ?_)
          have hB : Bx B0 D _ [(w, .inr (9, [.int f1970_0, .ref bu, .int (nI ((κ w).2.2.1)), .int (nI tl), .int (nI (p1960 + k)), .int er, .int f1970_6, .int f1970_7, .ref (κ w).2.2.2, .ref f1970_9, .ref dr, .ref f1970_11, .int (nI f1970_12), .int f1970_13, .int ns, .int f1970_15, .int f1970_16, .ref f1970_17]))] [w] _ _ := hB
          refine lv_iconst (v := 1) hx hb dX9_takeWord_88 (by decide) ?_
          have hT : WT B0 D cs T κ _ := hT.close hB ⟨⟨0, _, rfl, ok_10 hw.1 ⟨_, _, _, _, _, _, _, _, _, _, _, _, _, _, _, _, rfl, (by omega), (by omega), (by omega), (by omega), hbT, t1970_8, t1970_9, c1970_sd, hdT, t1970_11, t1970_17⟩⟩, trivial⟩
          have hF : Fr B0 [12] κ H0 _ := hF.close hB (fa_c (by simp [hw.2]) fa_n)
          have hL : OkL B0 _ := hB.2.2.2.2.2
          have hP : va_P D vwCl [(w, .inr (9, [.int f1970_0, .ref bu, .int (nI ((κ w).2.2.1)), .int (nI tl), .int (nI (p1960 + k)), .int er, .int f1970_6, .int f1970_7, .ref (κ w).2.2.2, .ref f1970_9, .ref dr, .ref f1970_11, .int (nI f1970_12), .int f1970_13, .int ns, .int f1970_15, .int f1970_16, .ref f1970_17]))] _ := hB.1
          have hbu9 := (hm.2.2.2.2.2.2.1).kept (hB.2.2.2.1 _ hm.2.2.2.2.2.2.1.lt (by simp only [List.mem_cons, List.not_mem_nil, or_false, not_or]; exact ne_c hbT.1 hw.1 (by decide)))
          have hm : MF D cs w _ ((p1960 + k)) (tl) (er) (ns) dr bu g := ⟨⟨_, hP 0 _ rfl, rfl⟩, ⟨_, hP 0 _ rfl, rfl⟩, ⟨_, hP 0 _ rfl, rfl⟩, ⟨_, hP 0 _ rfl, rfl⟩, ⟨_, hP 0 _ rfl, rfl⟩, ⟨_, hP 0 _ rfl, rfl⟩, hbu9, (by omega), (by omega)⟩
          exact en_i hx hb hr hlocks hL rfl (Nat.zero_le _) (Nat.zero_le _) dX9_takeWord_89 (⟨hT, hF, Or.inr ⟨rfl, (p1960 + k), (by omega), e1957, hm⟩⟩)
        · refine lv_if_eq (tgt := 78) hx hb dX9_takeWord_73 (by decide) (fun c9 => absurd c9 (by decide)) (fun _ => ?_)
          refine lv_iconst (v := 0) hx hb dX9_takeWord_76 (by decide) ?_
          exact en_i hx hb hr hlocks hL rfl (Nat.zero_le _) (Nat.zero_le _) dX9_takeWord_77 (⟨hT, hF, Or.inl ⟨rfl, p1960, (by omega), hm⟩⟩)
    · have c1967 : ¬ (nT i) ≤ k := fun h9 => c1967 ((nI_leI (a := (nT i)) (b := k) (by omega) (by omega)).mpr h9)
      refine lv_aload_n hx hb dX9_takeWord_24 rfl (lv_at hl 1 rfl) ?_
      refine lv_aload_n hx hb dX9_takeWord_25 rfl (lv_at hl 1 rfl) ?_
      obtain ⟨hb1976, e1976, hat1976, hk1976⟩ := hT.o10 hw.1
      obtain ⟨f1976_0, f1976_1, f1976_3, f1976_4, f1976_5, f1976_6, f1976_7, f1976_9, f1976_10, f1976_11, f1976_12, f1976_13, f1976_14, f1976_15, f1976_16, f1976_17, rfl, c1976_2, c1976_3, c1976_4, c1976_12, t1976_1, t1976_8, t1976_9, c1976_sd, t1976_10, t1976_11, t1976_17⟩ := hk1976
      obtain ⟨rfl, rfl, rfl, rfl, rfl, rfl⟩ := hm.at hat1976 c1976_3 (by omega)
      have hm8 := hm.2.2.2.2.2.2.2
      have hP : va_P D vwCl [(w, .inr (9, [.int f1976_0, .ref bu, .int (nI ((κ w).2.2.1)), .int (nI tl), .int (nI p1960), .int er, .int f1976_6, .int f1976_7, .ref (κ w).2.2.2, .ref f1976_9, .ref dr, .ref f1976_11, .int (nI f1976_12), .int f1976_13, .int ns, .int f1976_15, .int f1976_16, .ref f1976_17]))] _ := va_P.cons hat1976 va_P.nil
      refine va_get (D := D) (ci := 9) (v := .int (nI p1960)) (C := RX9) (T := TX9) (N := 18) hx hb hts iX9_takeWord_9 hown hN.1 hP 0 rfl rfl 4 (by decide) (hts _ mX9_takeWord_1) (fun _ h9 => h9) rfl dX9_takeWord_26 ?_
      refine lv_iload_n hx hb dX9_takeWord_29 rfl (lv_at hl 0 rfl) ?_
      refine lv_iadd hx hb dX9_takeWord_30 ?_
      refine tp_i (nI (p1960 + k)) (nI_add p1960 k) ?_
      refine cv_i (As := [.int (nI (p1960 + k))]) (rest := []) (b := w) ⟨hx, hb, hml, hown, hts⟩ (c_X9_byteAt hT (w := w) hw (n := (p1960 + k)) hbT hdT hm (by first | omega | decide | assumption)) (cwV 1 hts gX9_takeWord_X9_byteAt rfl rfl rfl hdX9_byteAt_v ⟨Nat.le_of_ble_eq_true rfl, Nat.le_of_ble_eq_true rfl⟩) hN hE hL (rcv10 hN hT hw.1) rfl rfl hl.1 (Nat.le_of_ble_eq_true rfl) dX9_takeWord_31 (Nat.zero_le _) (Nat.zero_le _) (fun r1977 H1 locs hL hqr1977 => ?_)
      obtain ⟨h9, hqr1977⟩ := hqr1977; replace h9 := h9.symm; subst h9
      obtain rfl := hqr1977
      refine lv_aload_n hx hb dX9_takeWord_34 rfl (lv_at hl 2 rfl) ?_
      refine lv_iload_n hx hb dX9_takeWord_35 rfl (lv_at hl 0 rfl) ?_
      refine W.old hL (fun hold => ?_)
      refine cv_i (As := [.int (nI k)]) (rest := [.int (byF g tl (p1960 + k))]) (b := (cs (100 + i))) ⟨hx, hb, hml, hown, hts⟩ (c_J0_charAt_5068e hT (i := i) hi9 (k := k) (by first | omega | decide | assumption)) (cwV 1 hts gX9_takeWord_J0_charAt_5068e rfl rfl rfl hdJ0_charAt_5068e_v ⟨Nat.le_of_ble_eq_true rfl, Nat.le_of_ble_eq_true rfl⟩) hN hE hL (sx_rec (hE.2.1 _ hi9) hold) rfl rfl hl.1 (Nat.le_of_ble_eq_true rfl) dX9_takeWord_36 (Nat.zero_le _) (Nat.zero_le _) (fun r1978 H1 locs hL hqr1978 => ?_)
      obtain ⟨h9, hqr1978⟩ := hqr1978; replace h9 := h9.symm; subst h9
      obtain ⟨n1979, h1980, rfl⟩ := hqr1978
      refine lv_icmp_ne (tgt := 48) hx hb dX9_takeWord_39 (by decide) (fun c1981 => ?_) (fun c1981 => ?_)
      · refine lv_iload_n hx hb dX9_takeWord_48 rfl (lv_at hl 0 rfl) ?_
        refine lv_aload_n hx hb dX9_takeWord_49 rfl (lv_at hl 2 rfl) ?_
        refine W.old hL (fun hold => ?_)
        refine cv_i (As := []) (rest := [.int (nI k)]) (b := (cs (100 + i))) ⟨hx, hb, hml, hown, hts⟩ (c_J0_length_8abf5 hT (i := i) hi9) (cwV 0 hts gX9_takeWord_J0_length_8abf5 rfl rfl rfl hdJ0_length_8abf5_v ⟨Nat.le_of_ble_eq_true rfl, Nat.le_of_ble_eq_true rfl⟩) hN hE hL (sx_rec (hE.2.1 _ hi9) hold) rfl rfl hl.1 (Nat.le_of_ble_eq_true rfl) dX9_takeWord_50 (Nat.zero_le _) (Nat.zero_le _) (fun r1982 H1 locs hL hqr1982 => ?_)
        obtain ⟨h9, hqr1982⟩ := hqr1982; replace h9 := h9.symm; subst h9
        obtain rfl := hqr1982
        have hn9 := nT_le _ hi9
        refine lv_icmp_lt (tgt := 76) hx hb dX9_takeWord_53 (by decide) (fun c1983 => ?_) (fun c1983 => ?_)
        · have c1983 : k < (nT i) := (nI_ltI (a := k) (b := (nT i)) (by omega) (by omega)).mp c1983
          refine lv_iconst (v := 0) hx hb dX9_takeWord_76 (by decide) ?_
          exact en_i hx hb hr hlocks hL rfl (Nat.zero_le _) (Nat.zero_le _) dX9_takeWord_77 (⟨hT, hF, Or.inl ⟨rfl, p1960, (by omega), hm⟩⟩)
        · have c1983 : ¬ k < (nT i) := fun h9 => c1983 ((nI_ltI (a := k) (b := (nT i)) (by omega) (by omega)).mpr h9)
          refine lv_aload_n hx hb dX9_takeWord_56 rfl (lv_at hl 1 rfl) ?_
          refine lv_aload_n hx hb dX9_takeWord_57 rfl (lv_at hl 1 rfl) ?_
          refine va_get (D := D) (ci := 9) (v := .int (nI p1960)) (C := RX9) (T := TX9) (N := 18) hx hb hts iX9_takeWord_9 hown hN.1 hP 0 rfl rfl 4 (by decide) (hts _ mX9_takeWord_1) (fun _ h9 => h9) rfl dX9_takeWord_58 ?_
          refine lv_iload_n hx hb dX9_takeWord_61 rfl (lv_at hl 0 rfl) ?_
          refine lv_iadd hx hb dX9_takeWord_62 ?_
          refine tp_i (nI (p1960 + k)) (nI_add p1960 k) ?_
          refine cv_i (As := [.int (nI (p1960 + k))]) (rest := []) (b := w) ⟨hx, hb, hml, hown, hts⟩ (c_X9_byteAt hT (w := w) hw (n := (p1960 + k)) hbT hdT hm (by first | omega | decide | assumption)) (cwV 1 hts gX9_takeWord_X9_byteAt rfl rfl rfl hdX9_byteAt_v ⟨Nat.le_of_ble_eq_true rfl, Nat.le_of_ble_eq_true rfl⟩) hN hE hL (rcv10 hN hT hw.1) rfl rfl hl.1 (Nat.le_of_ble_eq_true rfl) dX9_takeWord_63 (Nat.zero_le _) (Nat.zero_le _) (fun r1984 H1 locs hL hqr1984 => ?_)
          obtain ⟨h9, hqr1984⟩ := hqr1984; replace h9 := h9.symm; subst h9
          obtain rfl := hqr1984
          refine lv_bipush (v := 97) hx hb dX9_takeWord_66 (by decide) ?_
          refine lv_bipush (v := 122) hx hb dX9_takeWord_68 (by decide) ?_
          refine cs_i (As := [.int (byF g tl (p1960 + k)), .int 97, .int 122]) (rest := []) ⟨hx, hb, hml, hown, hts⟩ (c_X9_in hT (x := (byF g tl (p1960 + k))) (y := 97) (z := 122)) (va_cwS 3 hts gX9_takeWord_X9_in rfl rfl rfl hdX9_in_o ⟨Nat.le_of_ble_eq_true rfl, Nat.le_of_ble_eq_true rfl⟩) hN hE hL rfl rfl hl.1 (Nat.le_of_ble_eq_true rfl) dX9_takeWord_70 (Nat.zero_le _) (Nat.zero_le _) (fun r1985 H1 locs hL hqr1985 => ?_)
          obtain ⟨h9, hqr1985⟩ := hqr1985; replace h9 := h9.symm; subst h9
          rcases hqr1985 with ⟨rfl, o1986⟩ | ⟨rfl, l1987, g1988⟩
          · refine lv_if_eq (tgt := 78) hx hb dX9_takeWord_73 (by decide) (fun _ => ?_) (fun c9 => absurd (by decide) c9)
            refine lv_aload_n hx hb dX9_takeWord_78 rfl (lv_at hl 1 rfl) ?_
            refine lv_dup hx hb dX9_takeWord_79 rfl ?_
            refine va_get (D := D) (ci := 9) (v := .int (nI p1960)) (C := RX9) (T := TX9) (N := 18) hx hb hts iX9_takeWord_9 hown hN.1 hP 0 rfl rfl 4 (by decide) (hts _ mX9_takeWord_1) (fun _ h9 => h9) rfl dX9_takeWord_80 ?_
            refine lv_iload_n hx hb dX9_takeWord_83 rfl (lv_at hl 0 rfl) ?_
            refine lv_iadd hx hb dX9_takeWord_84 ?_
            refine tp_i (nI (p1960 + k)) (nI_add p1960 k) ?_
            have hB : Bx B0 D _ [(w, .inr (9, [.int f1976_0, .ref bu, .int (nI ((κ w).2.2.1)), .int (nI tl), .int (nI p1960), .int er, .int f1976_6, .int f1976_7, .ref (κ w).2.2.2, .ref f1976_9, .ref dr, .ref f1976_11, .int (nI f1976_12), .int f1976_13, .int ns, .int f1976_15, .int f1976_16, .ref f1976_17]))] [] _ _ := Bx.of (fun a => (κ a).1) hL hP (fa_c hb1976 fa_n) (by simp only [List.map_cons, List.map_nil, hw.1]; decide)
            refine b_put (D := D) (ci := 9) (v := .int (nI (p1960 + k))) (ty := .int) (C := RX9) (T := TX9) (N := 18) hx hb hts iX9_takeWord_9 tyX9 tyX9_ok nmX9 hown hN hB 0 rfl rfl 4 (by decide) (hts _ mX9_takeWord_1) (fun _ h9 => h9) rfl (by decide +kernel) rfl rfl (Nat.le_of_ble_eq_true rfl) (.inl rfl) dX9_takeWord_85 (fun H locs hB => ?_)
            have hB : Bx B0 D _ [(w, .inr (9, [.int f1976_0, .ref bu, .int (nI ((κ w).2.2.1)), .int (nI tl), .int (nI (p1960 + k)), .int er, .int f1976_6, .int f1976_7, .ref (κ w).2.2.2, .ref f1976_9, .ref dr, .ref f1976_11, .int (nI f1976_12), .int f1976_13, .int ns, .int f1976_15, .int f1976_16, .ref f1976_17]))] [w] _ _ := hB
            refine lv_iconst (v := 1) hx hb dX9_takeWord_88 (by decide) ?_
            have hT : WT B0 D cs T κ _ := hT.close hB ⟨⟨0, _, rfl, ok_10 hw.1 ⟨_, _, _, _, _, _, _, _, _, _, _, _, _, _, _, _, rfl, (by omega), (by omega), (by omega), (by omega), hbT, t1976_8, t1976_9, c1976_sd, hdT, t1976_11, t1976_17⟩⟩, trivial⟩
            have hF : Fr B0 [12] κ H0 _ := hF.close hB (fa_c (by simp [hw.2]) fa_n)
            have hL : OkL B0 _ := hB.2.2.2.2.2
            have hP : va_P D vwCl [(w, .inr (9, [.int f1976_0, .ref bu, .int (nI ((κ w).2.2.1)), .int (nI tl), .int (nI (p1960 + k)), .int er, .int f1976_6, .int f1976_7, .ref (κ w).2.2.2, .ref f1976_9, .ref dr, .ref f1976_11, .int (nI f1976_12), .int f1976_13, .int ns, .int f1976_15, .int f1976_16, .ref f1976_17]))] _ := hB.1
            have hbu9 := (hm.2.2.2.2.2.2.1).kept (hB.2.2.2.1 _ hm.2.2.2.2.2.2.1.lt (by simp only [List.mem_cons, List.not_mem_nil, or_false, not_or]; exact ne_c hbT.1 hw.1 (by decide)))
            have hm : MF D cs w _ ((p1960 + k)) (tl) (er) (ns) dr bu g := ⟨⟨_, hP 0 _ rfl, rfl⟩, ⟨_, hP 0 _ rfl, rfl⟩, ⟨_, hP 0 _ rfl, rfl⟩, ⟨_, hP 0 _ rfl, rfl⟩, ⟨_, hP 0 _ rfl, rfl⟩, ⟨_, hP 0 _ rfl, rfl⟩, hbu9, (by omega), (by omega)⟩
            exact en_i hx hb hr hlocks hL rfl (Nat.zero_le _) (Nat.zero_le _) dX9_takeWord_89 (⟨hT, hF, Or.inr ⟨rfl, (p1960 + k), (by omega), e1957, hm⟩⟩)
          · refine lv_if_eq (tgt := 78) hx hb dX9_takeWord_73 (by decide) (fun c9 => absurd c9 (by decide)) (fun _ => ?_)
            refine lv_iconst (v := 0) hx hb dX9_takeWord_76 (by decide) ?_
            exact en_i hx hb hr hlocks hL rfl (Nat.zero_le _) (Nat.zero_le _) dX9_takeWord_77 (⟨hT, hF, Or.inl ⟨rfl, p1960, (by omega), hm⟩⟩)
      · have hl9 := byF_nn (c1981) (by omega)
        refine lv_iinc (v := (nI (k + 1))) (lv' := [(2, .int (nI (k + 1))), (0, .ref w), (1, .ref (cs (100 + i)))]) hx hb dX9_takeWord_42 hl (k := 0) rfl (nI_add _ 1) (by decide) rfl (fun ls hl => ?_)
        refine lv_goto (tgt := 16) hx hb dX9_takeWord_45 (by decide) ?_
        exact ih1965 (k + 1) _ _ (by show 8 - ((k + 1)) < 8 - k; omega) (by show ((k + 1)) ≤ nT i ∧ p1960 + ((k + 1)) ≤ tl; omega) hL (lv_sub hl [0, 1, 2] rfl)
  · refine lv_if_ne (tgt := 9) hx hb dX9_takeWord_4 (by decide) (fun c9 => absurd (by decide) c9) (fun _ => ?_)
    refine lv_iconst (v := 0) hx hb dX9_takeWord_7 (by decide) ?_
    exact en_i hx hb hr hlocks hL rfl (Nat.zero_le _) (Nat.zero_le _) dX9_takeWord_8 (⟨hT, hF, Or.inl ⟨rfl, pos, (by omega), hm⟩⟩)
theorem hdX9_isDigit_o : yX9_isDigit.cls ≠ "java/lang/invoke/MethodHandle" ∧ yX9_isDigit.cls ≠ "java/lang/invoke/VarHandle" ∧ (parseMethodDescriptor yX9_isDigit.desc).map (fun d => d.parameters.length) = some 1 := by decide +kernel
theorem mX9_number_1 : (.fieldLink RX9 53 "OneBeatModel" "position" "I" : Cond) ∈ wsX9_number := List.mem_of_getElem? (i := 1) (by decide +kernel)
theorem iX9_number_9 : ∀ w ∈ wsX90, w ∈ wsX9_number := fun w h => List.mem_of_mem_drop (List.mem_of_mem_take ((show wsX90 = (wsX9_number.drop 34).take 18 by decide +kernel) ▸ h))
theorem hdX9_report_v : yX9_report.cls = RX9 ∧ yX9_report.cls ≠ "java/lang/invoke/MethodHandle" ∧ yX9_report.cls ≠ "java/lang/invoke/VarHandle" ∧ (parseMethodDescriptor yX9_report.desc).map (fun d => d.parameters.length) = some 2 := by decide +kernel
theorem mX9_number_2 : (.fieldLink RX9 94 "OneBeatModel" "numberStart" "I" : Cond) ∈ wsX9_number := List.mem_of_getElem? (i := 2) (by decide +kernel)
theorem mX9_number_3 : (.constant RX9 97 (100000000) : Cond) ∈ wsX9_number := List.mem_of_getElem? (i := 3) (by decide +kernel)
set_option maxHeartbeats 4000000 in
set_option maxRecDepth 100000 in
theorem c_X9_number {l : Launch} {D : va_G} {cs : Nat → ClassId} {B0 T : Nat} {κ : KM} {H0 : Heap} (hT : WT B0 D cs T κ H0) {w : Nat} (hw : T2 κ w 10 12) {x : Int32} {y : Int32} {pos tl : Nat} {er ns : Int32} {dr bu : Nat} {g : Nat → Int32} (hbT : T2 κ bu 23 14) (hdT : T2 κ dr 26 17) (hm : MF D cs w H0 pos tl er ns dr bu g) : KC l yX9_number wsX9_number 2 42 0 0 D cs B0 H0 [.ref w, .int x, .int y] (Qi (fun r H => WT B0 D cs T κ H ∧ Fr B0 [12] κ H0 H ∧ ∃ pos1 er1, pos ≤ pos1 ∧ (er1 = 0 → er = 0 ∧ pos + 1 ≤ pos1) ∧ MF D cs w H pos1 tl er1 ns dr bu g ∧ ((r = 0 ∧ er1 ≠ 0) ∨ er1 = 0 ∧ ¬ r < x ∧ ¬ y < r))) := by
  refine KC.of cX9_number 4 (some .int) (by decide) rfl (Nat.le_of_ble_eq_true rfl) ?_
  intro p e s m below meth c ls hx hb hr hml hown hts hlocks hin hN hE hH0 hl
  have hown : s.vm.findClass RX9 = some m.cls := hown
  have hl : lv_has ls 4 [(0, .ref w), (1, .int x), (2, .int y)] := hl
  have hL : OkL B0 [] := OkL.nil
  have hF : Fr B0 [12] κ H0 H0 := Fr.rf
  have hm8 := hm.2.2.2.2.2.2.2
  refine lv_aload_n hx hb dX9_number_0 rfl (lv_at hl 0 rfl) ?_
  refine cv_i (As := []) (rest := []) (b := w) ⟨hx, hb, hml, hown, hts⟩ (c_X9_isGood hT (w := w) hw hbT hdT hm) (cwV 0 hts gX9_number_X9_isGood rfl rfl rfl hdX9_isGood_v ⟨Nat.le_of_ble_eq_true rfl, Nat.le_of_ble_eq_true rfl⟩) hN hE hL (rcv10 hN hT hw.1) rfl rfl hl.1 (Nat.le_of_ble_eq_true rfl) dX9_number_1 (Nat.zero_le _) (Nat.zero_le _) (fun r1989 H1 locs hL hqr1989 => ?_)
  obtain ⟨h9, hqr1989⟩ := hqr1989; replace h9 := h9.symm; subst h9
  rcases hqr1989 with ⟨rfl, e1990⟩ | ⟨rfl, e1991⟩
  · refine lv_if_ne (tgt := 9) hx hb dX9_number_4 (by decide) (fun _ => ?_) (fun c9 => absurd c9 (by decide))
    refine lv_aload_n hx hb dX9_number_9 rfl (lv_at hl 0 rfl) ?_
    refine cv_i (As := []) (rest := []) (b := w) ⟨hx, hb, hml, hown, hts⟩ (c_X9_ahead hT (w := w) hw hbT hdT hm) (cwV 0 hts gX9_number_X9_ahead rfl rfl rfl hdX9_ahead_v ⟨Nat.le_of_ble_eq_true rfl, Nat.le_of_ble_eq_true rfl⟩) hN hE hL (rcv10 hN hT hw.1) rfl rfl hl.1 (Nat.le_of_ble_eq_true rfl) dX9_number_10 (Nat.zero_le _) (Nat.zero_le _) (fun r1992 H1 locs hL hqr1992 => ?_)
    obtain ⟨hT1, hF1, hqr1992⟩ := hqr1992
    have hF := hF.tr (hF1.mono (by simp))
    have hT := hT1
    obtain ⟨p1993, h1994, m1995, n1996, s1997, rfl⟩ := hqr1992
    have hm := m1995
    have hm8 := hm.2.2.2.2.2.2.2
    refine cs_i (As := [.int (byF g tl p1993)]) (rest := []) ⟨hx, hb, hml, hown, hts⟩ (c_X9_isDigit hT (x := (byF g tl p1993))) (va_cwS 1 hts gX9_number_X9_isDigit rfl rfl rfl hdX9_isDigit_o ⟨Nat.le_of_ble_eq_true rfl, Nat.le_of_ble_eq_true rfl⟩) hN hE hL rfl rfl hl.1 (Nat.le_of_ble_eq_true rfl) dX9_number_13 (Nat.zero_le _) (Nat.zero_le _) (fun r1998 H1 locs hL hqr1998 => ?_)
    obtain ⟨h9, hqr1998⟩ := hqr1998; replace h9 := h9.symm; subst h9
    rcases hqr1998 with ⟨rfl, o1999⟩ | ⟨rfl, l2000, g2001⟩
    · refine lv_if_ne (tgt := 31) hx hb dX9_number_16 (by decide) (fun c9 => absurd (by decide) c9) (fun _ => ?_)
      refine lv_aload_n hx hb dX9_number_19 rfl (lv_at hl 0 rfl) ?_
      refine lv_bipush (v := (-2)) hx hb dX9_number_20 (by decide) ?_
      refine lv_aload_n hx hb dX9_number_22 rfl (lv_at hl 0 rfl) ?_
      obtain ⟨hb2002, e2002, hat2002, hk2002⟩ := hT.o10 hw.1
      obtain ⟨f2002_0, f2002_1, f2002_3, f2002_4, f2002_5, f2002_6, f2002_7, f2002_9, f2002_10, f2002_11, f2002_12, f2002_13, f2002_14, f2002_15, f2002_16, f2002_17, rfl, c2002_2, c2002_3, c2002_4, c2002_12, t2002_1, t2002_8, t2002_9, c2002_sd, t2002_10, t2002_11, t2002_17⟩ := hk2002
      obtain ⟨rfl, rfl, rfl, rfl, rfl, rfl⟩ := hm.at hat2002 c2002_3 (by omega)
      have hm8 := hm.2.2.2.2.2.2.2
      have hP : va_P D vwCl [(w, .inr (9, [.int f2002_0, .ref bu, .int (nI ((κ w).2.2.1)), .int (nI tl), .int (nI p1993), .int er, .int f2002_6, .int f2002_7, .ref (κ w).2.2.2, .ref f2002_9, .ref dr, .ref f2002_11, .int (nI f2002_12), .int f2002_13, .int ns, .int f2002_15, .int f2002_16, .ref f2002_17]))] _ := va_P.cons hat2002 va_P.nil
      refine va_get (D := D) (ci := 9) (v := .int (nI p1993)) (C := RX9) (T := TX9) (N := 18) hx hb hts iX9_number_9 hown hN.1 hP 0 rfl rfl 4 (by decide) (hts _ mX9_number_1) (fun _ h9 => h9) rfl dX9_number_23 ?_
      refine cv_v (As := [.int (-2), .int (nI p1993)]) (rest := []) (b := w) ⟨hx, hb, hml, hown, hts⟩ (c_X9_report hT (w := w) hw (x := (-2)) (y := (nI p1993)) hbT hdT hm ((by decide))) (cwV 2 hts gX9_number_X9_report rfl rfl rfl hdX9_report_v ⟨Nat.le_of_ble_eq_true rfl, Nat.le_of_ble_eq_true rfl⟩) hN hE hL (rcv10 hN hT hw.1) rfl rfl hl.1 (Nat.le_of_ble_eq_true rfl) dX9_number_26 (Nat.zero_le _) (Nat.zero_le _) (fun H1 locs hL hqr2003 => ?_)
      obtain ⟨hT1, hF1, hqr2003⟩ := hqr2003
      have hF := hF.tr (hF1.mono (by simp))
      have hT := hT1
      obtain ⟨er2004, z2005, m2006⟩ := hqr2003
      have hm := m2006
      have hm8 := hm.2.2.2.2.2.2.2
      refine lv_iconst (v := 0) hx hb dX9_number_29 (by decide) ?_
      exact en_i hx hb hr hlocks hL rfl (Nat.zero_le _) (Nat.zero_le _) dX9_number_30 (⟨hT, hF, p1993, er2004, (by omega), (fun e9 => absurd e9 z2005), hm, Or.inl ⟨rfl, z2005⟩⟩)
    · refine lv_if_ne (tgt := 31) hx hb dX9_number_16 (by decide) (fun _ => ?_) (fun c9 => absurd c9 (by decide))
      refine lv_aload_n hx hb dX9_number_31 rfl (lv_at hl 0 rfl) ?_
      refine lv_aload_n hx hb dX9_number_32 rfl (lv_at hl 0 rfl) ?_
      obtain ⟨hb2007, e2007, hat2007, hk2007⟩ := hT.o10 hw.1
      obtain ⟨f2007_0, f2007_1, f2007_3, f2007_4, f2007_5, f2007_6, f2007_7, f2007_9, f2007_10, f2007_11, f2007_12, f2007_13, f2007_14, f2007_15, f2007_16, f2007_17, rfl, c2007_2, c2007_3, c2007_4, c2007_12, t2007_1, t2007_8, t2007_9, c2007_sd, t2007_10, t2007_11, t2007_17⟩ := hk2007
      obtain ⟨rfl, rfl, rfl, rfl, rfl, rfl⟩ := hm.at hat2007 c2007_3 (by omega)
      have hm8 := hm.2.2.2.2.2.2.2
      have hP : va_P D vwCl [(w, .inr (9, [.int f2007_0, .ref bu, .int (nI ((κ w).2.2.1)), .int (nI tl), .int (nI p1993), .int er, .int f2007_6, .int f2007_7, .ref (κ w).2.2.2, .ref f2007_9, .ref dr, .ref f2007_11, .int (nI f2007_12), .int f2007_13, .int ns, .int f2007_15, .int f2007_16, .ref f2007_17]))] _ := va_P.cons hat2007 va_P.nil
      refine va_get (D := D) (ci := 9) (v := .int (nI p1993)) (C := RX9) (T := TX9) (N := 18) hx hb hts iX9_number_9 hown hN.1 hP 0 rfl rfl 4 (by decide) (hts _ mX9_number_1) (fun _ h9 => h9) rfl dX9_number_33 ?_
      have hB : Bx B0 D _ [(w, .inr (9, [.int f2007_0, .ref bu, .int (nI ((κ w).2.2.1)), .int (nI tl), .int (nI p1993), .int er, .int f2007_6, .int f2007_7, .ref (κ w).2.2.2, .ref f2007_9, .ref dr, .ref f2007_11, .int (nI f2007_12), .int f2007_13, .int ns, .int f2007_15, .int f2007_16, .ref f2007_17]))] [] _ _ := Bx.of (fun a => (κ a).1) hL hP (fa_c hb2007 fa_n) (by simp only [List.map_cons, List.map_nil, hw.1]; decide)
      refine b_put (D := D) (ci := 9) (v := .int (nI p1993)) (ty := .int) (C := RX9) (T := TX9) (N := 18) hx hb hts iX9_number_9 tyX9 tyX9_ok nmX9 hown hN hB 0 rfl rfl 13 (by decide) (hts _ mX9_number_2) (fun _ h9 => h9) rfl (by decide +kernel) rfl rfl (Nat.le_of_ble_eq_true rfl) (.inl rfl) dX9_number_36 (fun H locs hB => ?_)
      have hB : Bx B0 D _ [(w, .inr (9, [.int f2007_0, .ref bu, .int (nI ((κ w).2.2.1)), .int (nI tl), .int (nI p1993), .int er, .int f2007_6, .int f2007_7, .ref (κ w).2.2.2, .ref f2007_9, .ref dr, .ref f2007_11, .int (nI f2007_12), .int (nI p1993), .int ns, .int f2007_15, .int f2007_16, .ref f2007_17]))] [w] _ _ := hB
      refine lv_iconst (v := 0) hx hb dX9_number_39 (by decide) ?_
      refine lv_istore_n (lv' := [(3, .int 0), (0, .ref w), (1, .int x), (2, .int y)]) hx hb dX9_number_40 rfl hl (by decide) rfl (fun ls hl => ?_)
      have hT : WT B0 D cs T κ _ := hT.close hB ⟨⟨0, _, rfl, ok_10 hw.1 ⟨_, _, _, _, _, _, _, _, _, _, _, _, _, _, _, _, rfl, (by omega), (by omega), (by omega), (by omega), hbT, t2007_8, t2007_9, c2007_sd, hdT, t2007_11, t2007_17⟩⟩, trivial⟩
      have hF : Fr B0 [12] κ H0 _ := hF.close hB (fa_c (by simp [hw.2]) fa_n)
      have hL : OkL B0 _ := hB.2.2.2.2.2
      have hP : va_P D vwCl [(w, .inr (9, [.int f2007_0, .ref bu, .int (nI ((κ w).2.2.1)), .int (nI tl), .int (nI p1993), .int er, .int f2007_6, .int f2007_7, .ref (κ w).2.2.2, .ref f2007_9, .ref dr, .ref f2007_11, .int (nI f2007_12), .int (nI p1993), .int ns, .int f2007_15, .int f2007_16, .ref f2007_17]))] _ := hB.1
      have hbu9 := (hm.2.2.2.2.2.2.1).kept (hB.2.2.2.1 _ hm.2.2.2.2.2.2.1.lt (by simp only [List.mem_cons, List.not_mem_nil, or_false, not_or]; exact ne_c hbT.1 hw.1 (by decide)))
      have hm : MF D cs w _ (p1993) (tl) (er) (ns) dr bu g := ⟨⟨_, hP 0 _ rfl, rfl⟩, ⟨_, hP 0 _ rfl, rfl⟩, ⟨_, hP 0 _ rfl, rfl⟩, ⟨_, hP 0 _ rfl, rfl⟩, ⟨_, hP 0 _ rfl, rfl⟩, ⟨_, hP 0 _ rfl, rfl⟩, hbu9, (by omega), (by omega)⟩
      refine lp_m (α := Nat × Int32) (nL := 4) (fun a9 => 600 - a9.1) (fun a9 H9 l9 => (p1993 ≤ a9.1) ∧ (MF D cs w H9 a9.1 tl er ns dr bu g) ∧ (WT B0 D cs T κ H9) ∧ (Fr B0 [12] κ H0 H9) ∧ (OkL B0 l9)) (fun a9 => [(3, .int a9.2), (0, .ref w), (1, .int x), (2, .int y)]) ?_ (p1993, 0) _ _ _ ⟨(by show p1993 ≤ (p1993); omega), hm, hT, hF, hL⟩ (lv_sub hl [0, 1, 2, 3] rfl)
      rintro ⟨p, v⟩ H locs ls ih2008 ⟨hp, hm, hT, hF, hL⟩ hl
      have hl : lv_has ls 4 [(3, .int v), (0, .ref w), (1, .int x), (2, .int y)] := hl
      have hp : p1993 ≤ p := hp
      have hm : MF D cs w H p tl er ns dr bu g := hm
      have hm8 := hm.2.2.2.2.2.2.2
      refine lv_aload_n hx hb dX9_number_41 rfl (lv_at hl 1 rfl) ?_
      refine lv_aload_n hx hb dX9_number_42 rfl (lv_at hl 1 rfl) ?_
      obtain ⟨hb2009, e2009, hat2009, hk2009⟩ := hT.o10 hw.1
      obtain ⟨f2009_0, f2009_1, f2009_3, f2009_4, f2009_5, f2009_6, f2009_7, f2009_9, f2009_10, f2009_11, f2009_12, f2009_13, f2009_14, f2009_15, f2009_16, f2009_17, rfl, c2009_2, c2009_3, c2009_4, c2009_12, t2009_1, t2009_8, t2009_9, c2009_sd, t2009_10, t2009_11, t2009_17⟩ := hk2009
      obtain ⟨rfl, rfl, rfl, rfl, rfl, rfl⟩ := hm.at hat2009 c2009_3 (by omega)
      have hm8 := hm.2.2.2.2.2.2.2
      have hP : va_P D vwCl [(w, .inr (9, [.int f2009_0, .ref bu, .int (nI ((κ w).2.2.1)), .int (nI tl), .int (nI p), .int er, .int f2009_6, .int f2009_7, .ref (κ w).2.2.2, .ref f2009_9, .ref dr, .ref f2009_11, .int (nI f2009_12), .int f2009_13, .int ns, .int f2009_15, .int f2009_16, .ref f2009_17]))] _ := va_P.cons hat2009 va_P.nil
      refine va_get (D := D) (ci := 9) (v := .int (nI p)) (C := RX9) (T := TX9) (N := 18) hx hb hts iX9_number_9 hown hN.1 hP 0 rfl rfl 4 (by decide) (hts _ mX9_number_1) (fun _ h9 => h9) rfl dX9_number_43 ?_
      refine cv_i (As := [.int (nI p)]) (rest := []) (b := w) ⟨hx, hb, hml, hown, hts⟩ (c_X9_byteAt hT (w := w) hw (n := p) hbT hdT hm (by first | omega | decide | assumption)) (cwV 1 hts gX9_number_X9_byteAt rfl rfl rfl hdX9_byteAt_v ⟨Nat.le_of_ble_eq_true rfl, Nat.le_of_ble_eq_true rfl⟩) hN hE hL (rcv10 hN hT hw.1) rfl rfl hl.1 (Nat.le_of_ble_eq_true rfl) dX9_number_46 (Nat.zero_le _) (Nat.zero_le _) (fun r2010 H1 locs hL hqr2010 => ?_)
      obtain ⟨h9, hqr2010⟩ := hqr2010; replace h9 := h9.symm; subst h9
      obtain rfl := hqr2010
      refine cs_i (As := [.int (byF g tl p)]) (rest := []) ⟨hx, hb, hml, hown, hts⟩ (c_X9_isDigit hT (x := (byF g tl p))) (va_cwS 1 hts gX9_number_X9_isDigit rfl rfl rfl hdX9_isDigit_o ⟨Nat.le_of_ble_eq_true rfl, Nat.le_of_ble_eq_true rfl⟩) hN hE hL rfl rfl hl.1 (Nat.le_of_ble_eq_true rfl) dX9_number_49 (Nat.zero_le _) (Nat.zero_le _) (fun r2011 H1 locs hL hqr2011 => ?_)
      obtain ⟨h9, hqr2011⟩ := hqr2011; replace h9 := h9.symm; subst h9
      rcases hqr2011 with ⟨rfl, o2012⟩ | ⟨rfl, l2013, g2014⟩
      · refine lv_if_eq (tgt := 90) hx hb dX9_number_52 (by decide) (fun _ => ?_) (fun c9 => absurd (by decide) c9)
        have hp9 := dig_lt l2000 g2001 o2012 hp
        refine lv_iload_n hx hb dX9_number_90 rfl (lv_at hl 0 rfl) ?_
        refine lv_iload_n hx hb dX9_number_91 rfl (lv_at hl 2 rfl) ?_
        refine lv_iload_n hx hb dX9_number_92 rfl (lv_at hl 3 rfl) ?_
        refine cs_i (As := [.int v, .int x, .int y]) (rest := []) ⟨hx, hb, hml, hown, hts⟩ (c_X9_in hT (x := v) (y := x) (z := y)) (va_cwS 3 hts gX9_number_X9_in rfl rfl rfl hdX9_in_o ⟨Nat.le_of_ble_eq_true rfl, Nat.le_of_ble_eq_true rfl⟩) hN hE hL rfl rfl hl.1 (Nat.le_of_ble_eq_true rfl) dX9_number_93 (Nat.zero_le _) (Nat.zero_le _) (fun r2015 H1 locs hL hqr2015 => ?_)
        obtain ⟨h9, hqr2015⟩ := hqr2015; replace h9 := h9.symm; subst h9
        rcases hqr2015 with ⟨rfl, o2016⟩ | ⟨rfl, l2017, g2018⟩
        · refine lv_if_ne (tgt := 109) hx hb dX9_number_96 (by decide) (fun c9 => absurd (by decide) c9) (fun _ => ?_)
          refine lv_aload_n hx hb dX9_number_99 rfl (lv_at hl 1 rfl) ?_
          refine lv_bipush (v := (-3)) hx hb dX9_number_100 (by decide) ?_
          refine lv_aload_n hx hb dX9_number_102 rfl (lv_at hl 1 rfl) ?_
          refine va_get (D := D) (ci := 9) (v := .int f2009_13) (C := RX9) (T := TX9) (N := 18) hx hb hts iX9_number_9 hown hN.1 hP 0 rfl rfl 13 (by decide) (hts _ mX9_number_2) (fun _ h9 => h9) rfl dX9_number_103 ?_
          refine cv_v (As := [.int (-3), .int f2009_13]) (rest := []) (b := w) ⟨hx, hb, hml, hown, hts⟩ (c_X9_report hT (w := w) hw (x := (-3)) (y := f2009_13) hbT hdT hm ((by decide))) (cwV 2 hts gX9_number_X9_report rfl rfl rfl hdX9_report_v ⟨Nat.le_of_ble_eq_true rfl, Nat.le_of_ble_eq_true rfl⟩) hN hE hL (rcv10 hN hT hw.1) rfl rfl hl.1 (Nat.le_of_ble_eq_true rfl) dX9_number_106 (Nat.zero_le _) (Nat.zero_le _) (fun H1 locs hL hqr2019 => ?_)
          obtain ⟨hT1, hF1, hqr2019⟩ := hqr2019
          have hF := hF.tr (hF1.mono (by simp))
          have hT := hT1
          obtain ⟨er2020, z2021, m2022⟩ := hqr2019
          have hm := m2022
          have hm8 := hm.2.2.2.2.2.2.2
          refine lv_aload_n hx hb dX9_number_109 rfl (lv_at hl 1 rfl) ?_
          refine cv_i (As := []) (rest := []) (b := w) ⟨hx, hb, hml, hown, hts⟩ (c_X9_isGood hT (w := w) hw hbT hdT hm) (cwV 0 hts gX9_number_X9_isGood rfl rfl rfl hdX9_isGood_v ⟨Nat.le_of_ble_eq_true rfl, Nat.le_of_ble_eq_true rfl⟩) hN hE hL (rcv10 hN hT hw.1) rfl rfl hl.1 (Nat.le_of_ble_eq_true rfl) dX9_number_110 (Nat.zero_le _) (Nat.zero_le _) (fun r2023 H1 locs hL hqr2023 => ?_)
          obtain ⟨h9, hqr2023⟩ := hqr2023; replace h9 := h9.symm; subst h9
          rcases hqr2023 with ⟨rfl, e2024⟩ | ⟨rfl, e2025⟩
          · exact absurd e2024 z2021
          · refine lv_if_eq (tgt := 120) hx hb dX9_number_113 (by decide) (fun _ => ?_) (fun c9 => absurd (by decide) c9)
            refine lv_iconst (v := 0) hx hb dX9_number_120 (by decide) ?_
            exact en_i hx hb hr hlocks hL rfl (Nat.zero_le _) (Nat.zero_le _) dX9_number_121 (⟨hT, hF, p, er2020, (by omega), (fun e9 => absurd e9 e2025), hm, Or.inl ⟨rfl, e2025⟩⟩)
        · refine lv_if_ne (tgt := 109) hx hb dX9_number_96 (by decide) (fun _ => ?_) (fun c9 => absurd c9 (by decide))
          refine lv_aload_n hx hb dX9_number_109 rfl (lv_at hl 1 rfl) ?_
          refine cv_i (As := []) (rest := []) (b := w) ⟨hx, hb, hml, hown, hts⟩ (c_X9_isGood hT (w := w) hw hbT hdT hm) (cwV 0 hts gX9_number_X9_isGood rfl rfl rfl hdX9_isGood_v ⟨Nat.le_of_ble_eq_true rfl, Nat.le_of_ble_eq_true rfl⟩) hN hE hL (rcv10 hN hT hw.1) rfl rfl hl.1 (Nat.le_of_ble_eq_true rfl) dX9_number_110 (Nat.zero_le _) (Nat.zero_le _) (fun r2026 H1 locs hL hqr2026 => ?_)
          obtain ⟨h9, hqr2026⟩ := hqr2026; replace h9 := h9.symm; subst h9
          rcases hqr2026 with ⟨rfl, e2027⟩ | ⟨rfl, e2028⟩
          · refine lv_if_eq (tgt := 120) hx hb dX9_number_113 (by decide) (fun c9 => absurd c9 (by decide)) (fun _ => ?_)
            refine lv_iload_n hx hb dX9_number_116 rfl (lv_at hl 0 rfl) ?_
            refine lv_goto (tgt := 121) hx hb dX9_number_117 (by decide) ?_
            exact en_i hx hb hr hlocks hL rfl (Nat.zero_le _) (Nat.zero_le _) dX9_number_121 (⟨hT, hF, p, er, (by omega), (fun _ => ⟨e2027, by omega⟩), hm, Or.inr ⟨e2027, l2017, g2018⟩⟩)
          · exact absurd e1990 e2028
      · refine lv_if_eq (tgt := 90) hx hb dX9_number_52 (by decide) (fun c9 => absurd c9 (by decide)) (fun _ => ?_)
        have hl9 := byF_lt l2013
        refine lv_ldc (v := 100000000) hx hb hown (hts _ mX9_number_3) dX9_number_55 ?_
        refine lv_bipush (v := 10) hx hb dX9_number_57 (by decide) ?_
        refine lv_iload_n hx hb dX9_number_59 rfl (lv_at hl 0 rfl) ?_
        refine lv_imul hx hb dX9_number_60 ?_
        refine gn_i (fun x2029 => ?_)
        refine lv_aload_n hx hb dX9_number_61 rfl (lv_at hl 1 rfl) ?_
        refine lv_aload_n hx hb dX9_number_62 rfl (lv_at hl 1 rfl) ?_
        refine va_get (D := D) (ci := 9) (v := .int (nI p)) (C := RX9) (T := TX9) (N := 18) hx hb hts iX9_number_9 hown hN.1 hP 0 rfl rfl 4 (by decide) (hts _ mX9_number_1) (fun _ h9 => h9) rfl dX9_number_63 ?_
        refine cv_i (As := [.int (nI p)]) (rest := [.int x2029, .int 100000000]) (b := w) ⟨hx, hb, hml, hown, hts⟩ (c_X9_byteAt hT (w := w) hw (n := p) hbT hdT hm (by first | omega | decide | assumption)) (cwV 1 hts gX9_number_X9_byteAt rfl rfl rfl hdX9_byteAt_v ⟨Nat.le_of_ble_eq_true rfl, Nat.le_of_ble_eq_true rfl⟩) hN hE hL (rcv10 hN hT hw.1) rfl rfl hl.1 (Nat.le_of_ble_eq_true rfl) dX9_number_66 (Nat.zero_le _) (Nat.zero_le _) (fun r2030 H1 locs hL hqr2030 => ?_)
        obtain ⟨h9, hqr2030⟩ := hqr2030; replace h9 := h9.symm; subst h9
        obtain rfl := hqr2030
        refine lv_iadd hx hb dX9_number_69 ?_
        refine gn_i (fun x2031 => ?_)
        refine lv_bipush (v := 48) hx hb dX9_number_70 (by decide) ?_
        refine lv_isub hx hb dX9_number_72 ?_
        refine gn_i (fun x2032 => ?_)
        refine cs_i (As := [.int 100000000, .int x2032]) (rest := []) ⟨hx, hb, hml, hown, hts⟩ (c_X9_min hT (x := 100000000) (y := x2032)) (va_cwS 2 hts gX9_number_X9_min rfl rfl rfl hdX9_min_o ⟨Nat.le_of_ble_eq_true rfl, Nat.le_of_ble_eq_true rfl⟩) hN hE hL rfl rfl hl.1 (Nat.le_of_ble_eq_true rfl) dX9_number_73 (Nat.zero_le _) (Nat.zero_le _) (fun r2033 H1 locs hL hqr2033 => ?_)
        obtain rfl := hqr2033.symm
        refine lv_istore_n (lv' := [(3, .int r2033), (0, .ref w), (1, .int x), (2, .int y)]) hx hb dX9_number_76 rfl hl (by decide) rfl (fun ls hl => ?_)
        refine lv_aload_n hx hb dX9_number_77 rfl (lv_at hl 1 rfl) ?_
        refine lv_dup hx hb dX9_number_78 rfl ?_
        refine va_get (D := D) (ci := 9) (v := .int (nI p)) (C := RX9) (T := TX9) (N := 18) hx hb hts iX9_number_9 hown hN.1 hP 0 rfl rfl 4 (by decide) (hts _ mX9_number_1) (fun _ h9 => h9) rfl dX9_number_79 ?_
        refine lv_iconst (v := 1) hx hb dX9_number_82 (by decide) ?_
        refine lv_iadd hx hb dX9_number_83 ?_
        refine tp_i (nI (p + 1)) (nI_add p 1) ?_
        have hB : Bx B0 D _ [(w, .inr (9, [.int f2009_0, .ref bu, .int (nI ((κ w).2.2.1)), .int (nI tl), .int (nI p), .int er, .int f2009_6, .int f2009_7, .ref (κ w).2.2.2, .ref f2009_9, .ref dr, .ref f2009_11, .int (nI f2009_12), .int f2009_13, .int ns, .int f2009_15, .int f2009_16, .ref f2009_17]))] [] _ _ := Bx.of (fun a => (κ a).1) hL hP (fa_c hb2009 fa_n) (by simp only [List.map_cons, List.map_nil, hw.1]; decide)
        refine b_put (D := D) (ci := 9) (v := .int (nI (p + 1))) (ty := .int) (C := RX9) (T := TX9) (N := 18) hx hb hts iX9_number_9 tyX9 tyX9_ok nmX9 hown hN hB 0 rfl rfl 4 (by decide) (hts _ mX9_number_1) (fun _ h9 => h9) rfl (by decide +kernel) rfl rfl (Nat.le_of_ble_eq_true rfl) (.inl rfl) dX9_number_84 (fun H locs hB => ?_)
        have hB : Bx B0 D _ [(w, .inr (9, [.int f2009_0, .ref bu, .int (nI ((κ w).2.2.1)), .int (nI tl), .int (nI (p + 1)), .int er, .int f2009_6, .int f2009_7, .ref (κ w).2.2.2, .ref f2009_9, .ref dr, .ref f2009_11, .int (nI f2009_12), .int f2009_13, .int ns, .int f2009_15, .int f2009_16, .ref f2009_17]))] [w] _ _ := hB
        refine lv_goto (tgt := 41) hx hb dX9_number_87 (by decide) ?_
        have hT : WT B0 D cs T κ _ := hT.close hB ⟨⟨0, _, rfl, ok_10 hw.1 ⟨_, _, _, _, _, _, _, _, _, _, _, _, _, _, _, _, rfl, (by omega), (by omega), (by omega), (by omega), hbT, t2009_8, t2009_9, c2009_sd, hdT, t2009_11, t2009_17⟩⟩, trivial⟩
        have hF : Fr B0 [12] κ H0 _ := hF.close hB (fa_c (by simp [hw.2]) fa_n)
        have hL : OkL B0 _ := hB.2.2.2.2.2
        have hP : va_P D vwCl [(w, .inr (9, [.int f2009_0, .ref bu, .int (nI ((κ w).2.2.1)), .int (nI tl), .int (nI (p + 1)), .int er, .int f2009_6, .int f2009_7, .ref (κ w).2.2.2, .ref f2009_9, .ref dr, .ref f2009_11, .int (nI f2009_12), .int f2009_13, .int ns, .int f2009_15, .int f2009_16, .ref f2009_17]))] _ := hB.1
        have hbu9 := (hm.2.2.2.2.2.2.1).kept (hB.2.2.2.1 _ hm.2.2.2.2.2.2.1.lt (by simp only [List.mem_cons, List.not_mem_nil, or_false, not_or]; exact ne_c hbT.1 hw.1 (by decide)))
        have hm : MF D cs w _ ((p + 1)) (tl) (er) (ns) dr bu g := ⟨⟨_, hP 0 _ rfl, rfl⟩, ⟨_, hP 0 _ rfl, rfl⟩, ⟨_, hP 0 _ rfl, rfl⟩, ⟨_, hP 0 _ rfl, rfl⟩, ⟨_, hP 0 _ rfl, rfl⟩, ⟨_, hP 0 _ rfl, rfl⟩, hbu9, (by omega), (by omega)⟩
        exact ih2008 ((p + 1), r2033) _ _ _ (by show 600 - ((p + 1)) < 600 - p; omega) ⟨(by show p1993 ≤ ((p + 1)); omega), hm, hT, hF, hL⟩ (lv_sub hl [0, 1, 2, 3] rfl)
  · refine lv_if_ne (tgt := 9) hx hb dX9_number_4 (by decide) (fun c9 => absurd (by decide) c9) (fun _ => ?_)
    refine lv_iconst (v := 0) hx hb dX9_number_7 (by decide) ?_
    exact en_i hx hb hr hlocks hL rfl (Nat.zero_le _) (Nat.zero_le _) dX9_number_8 (⟨hT, hF, pos, er, (by omega), (fun e9 => absurd e9 e1991), hm, Or.inl ⟨rfl, e1991⟩⟩)
theorem mX9_expect_1 : (.fieldLink RX9 53 "OneBeatModel" "position" "I" : Cond) ∈ wsX9_expect := List.mem_of_getElem? (i := 1) (by decide +kernel)
theorem iX9_expect_9 : ∀ w ∈ wsX90, w ∈ wsX9_expect := fun w h => List.mem_of_mem_drop (List.mem_of_mem_take ((show wsX90 = (wsX9_expect.drop 23).take 18 by decide +kernel) ▸ h))
set_option maxHeartbeats 4000000 in
set_option maxRecDepth 100000 in
theorem c_X9_expect {l : Launch} {D : va_G} {cs : Nat → ClassId} {B0 T : Nat} {κ : KM} {H0 : Heap} (hT : WT B0 D cs T κ H0) {w : Nat} (hw : T2 κ w 10 12) {x : Int32} {pos tl : Nat} {er ns : Int32} {dr bu : Nat} {g : Nat → Int32} (hbT : T2 κ bu 23 14) (hdT : T2 κ dr 26 17) (hm : MF D cs w H0 pos tl er ns dr bu g) (hx9 : x ≠ -1) : KC l yX9_expect wsX9_expect 2 41 0 0 D cs B0 H0 [.ref w, .int x] (Qv (fun H => WT B0 D cs T κ H ∧ Fr B0 [12] κ H0 H ∧ ∃ pos1 er1, pos ≤ pos1 ∧ (er1 = 0 → er = 0) ∧ MF D cs w H pos1 tl er1 ns dr bu g)) := by
  refine KC.of cX9_expect 2 none (by decide) rfl (Nat.le_of_ble_eq_true rfl) ?_
  intro p e s m below meth c ls hx hb hr hml hown hts hlocks hin hN hE hH0 hl
  have hown : s.vm.findClass RX9 = some m.cls := hown
  have hl : lv_has ls 2 [(0, .ref w), (1, .int x)] := hl
  have hL : OkL B0 [] := OkL.nil
  have hF : Fr B0 [12] κ H0 H0 := Fr.rf
  have hm8 := hm.2.2.2.2.2.2.2
  refine lv_aload_n hx hb dX9_expect_0 rfl (lv_at hl 0 rfl) ?_
  refine cv_i (As := []) (rest := []) (b := w) ⟨hx, hb, hml, hown, hts⟩ (c_X9_isGood hT (w := w) hw hbT hdT hm) (cwV 0 hts gX9_expect_X9_isGood rfl rfl rfl hdX9_isGood_v ⟨Nat.le_of_ble_eq_true rfl, Nat.le_of_ble_eq_true rfl⟩) hN hE hL (rcv10 hN hT hw.1) rfl rfl hl.1 (Nat.le_of_ble_eq_true rfl) dX9_expect_1 (Nat.zero_le _) (Nat.zero_le _) (fun r2034 H1 locs hL hqr2034 => ?_)
  obtain ⟨h9, hqr2034⟩ := hqr2034; replace h9 := h9.symm; subst h9
  rcases hqr2034 with ⟨rfl, e2035⟩ | ⟨rfl, e2036⟩
  · refine lv_if_ne (tgt := 8) hx hb dX9_expect_4 (by decide) (fun _ => ?_) (fun c9 => absurd c9 (by decide))
    refine lv_aload_n hx hb dX9_expect_8 rfl (lv_at hl 0 rfl) ?_
    refine cv_i (As := []) (rest := []) (b := w) ⟨hx, hb, hml, hown, hts⟩ (c_X9_ahead hT (w := w) hw hbT hdT hm) (cwV 0 hts gX9_expect_X9_ahead rfl rfl rfl hdX9_ahead_v ⟨Nat.le_of_ble_eq_true rfl, Nat.le_of_ble_eq_true rfl⟩) hN hE hL (rcv10 hN hT hw.1) rfl rfl hl.1 (Nat.le_of_ble_eq_true rfl) dX9_expect_9 (Nat.zero_le _) (Nat.zero_le _) (fun r2037 H1 locs hL hqr2037 => ?_)
    obtain ⟨hT1, hF1, hqr2037⟩ := hqr2037
    have hF := hF.tr (hF1.mono (by simp))
    have hT := hT1
    obtain ⟨p2038, h2039, m2040, n2041, s2042, rfl⟩ := hqr2037
    have hm := m2040
    have hm8 := hm.2.2.2.2.2.2.2
    refine lv_iload_n hx hb dX9_expect_12 rfl (lv_at hl 1 rfl) ?_
    refine lv_icmp_ne (tgt := 29) hx hb dX9_expect_13 (by decide) (fun c2043 => ?_) (fun c2043 => ?_)
    · refine lv_aload_n hx hb dX9_expect_29 rfl (lv_at hl 0 rfl) ?_
      refine lv_bipush (v := (-2)) hx hb dX9_expect_30 (by decide) ?_
      refine lv_aload_n hx hb dX9_expect_32 rfl (lv_at hl 0 rfl) ?_
      obtain ⟨hb2044, e2044, hat2044, hk2044⟩ := hT.o10 hw.1
      obtain ⟨f2044_0, f2044_1, f2044_3, f2044_4, f2044_5, f2044_6, f2044_7, f2044_9, f2044_10, f2044_11, f2044_12, f2044_13, f2044_14, f2044_15, f2044_16, f2044_17, rfl, c2044_2, c2044_3, c2044_4, c2044_12, t2044_1, t2044_8, t2044_9, c2044_sd, t2044_10, t2044_11, t2044_17⟩ := hk2044
      obtain ⟨rfl, rfl, rfl, rfl, rfl, rfl⟩ := hm.at hat2044 c2044_3 (by omega)
      have hm8 := hm.2.2.2.2.2.2.2
      have hP : va_P D vwCl [(w, .inr (9, [.int f2044_0, .ref bu, .int (nI ((κ w).2.2.1)), .int (nI tl), .int (nI p2038), .int er, .int f2044_6, .int f2044_7, .ref (κ w).2.2.2, .ref f2044_9, .ref dr, .ref f2044_11, .int (nI f2044_12), .int f2044_13, .int ns, .int f2044_15, .int f2044_16, .ref f2044_17]))] _ := va_P.cons hat2044 va_P.nil
      refine va_get (D := D) (ci := 9) (v := .int (nI p2038)) (C := RX9) (T := TX9) (N := 18) hx hb hts iX9_expect_9 hown hN.1 hP 0 rfl rfl 4 (by decide) (hts _ mX9_expect_1) (fun _ h9 => h9) rfl dX9_expect_33 ?_
      refine cv_v (As := [.int (-2), .int (nI p2038)]) (rest := []) (b := w) ⟨hx, hb, hml, hown, hts⟩ (c_X9_report hT (w := w) hw (x := (-2)) (y := (nI p2038)) hbT hdT hm ((by decide))) (cwV 2 hts gX9_expect_X9_report rfl rfl rfl hdX9_report_v ⟨Nat.le_of_ble_eq_true rfl, Nat.le_of_ble_eq_true rfl⟩) hN hE hL (rcv10 hN hT hw.1) rfl rfl hl.1 (Nat.le_of_ble_eq_true rfl) dX9_expect_36 (Nat.zero_le _) (Nat.zero_le _) (fun H1 locs hL hqr2045 => ?_)
      obtain ⟨hT1, hF1, hqr2045⟩ := hqr2045
      have hF := hF.tr (hF1.mono (by simp))
      have hT := hT1
      obtain ⟨er2046, z2047, m2048⟩ := hqr2045
      have hm := m2048
      have hm8 := hm.2.2.2.2.2.2.2
      exact en_v hx hb hr hlocks hL (Nat.zero_le _) (Nat.zero_le _) dX9_expect_39 (⟨hT, hF, p2038, er2046, (by omega), (fun e9 => id ((fun e9 => absurd e9 z2047) e9)), hm⟩)
    · have hl9 := byF_c (c2043) hx9
      refine lv_aload_n hx hb dX9_expect_16 rfl (lv_at hl 0 rfl) ?_
      refine lv_dup hx hb dX9_expect_17 rfl ?_
      obtain ⟨hb2049, e2049, hat2049, hk2049⟩ := hT.o10 hw.1
      obtain ⟨f2049_0, f2049_1, f2049_3, f2049_4, f2049_5, f2049_6, f2049_7, f2049_9, f2049_10, f2049_11, f2049_12, f2049_13, f2049_14, f2049_15, f2049_16, f2049_17, rfl, c2049_2, c2049_3, c2049_4, c2049_12, t2049_1, t2049_8, t2049_9, c2049_sd, t2049_10, t2049_11, t2049_17⟩ := hk2049
      obtain ⟨rfl, rfl, rfl, rfl, rfl, rfl⟩ := hm.at hat2049 c2049_3 (by omega)
      have hm8 := hm.2.2.2.2.2.2.2
      have hP : va_P D vwCl [(w, .inr (9, [.int f2049_0, .ref bu, .int (nI ((κ w).2.2.1)), .int (nI tl), .int (nI p2038), .int er, .int f2049_6, .int f2049_7, .ref (κ w).2.2.2, .ref f2049_9, .ref dr, .ref f2049_11, .int (nI f2049_12), .int f2049_13, .int ns, .int f2049_15, .int f2049_16, .ref f2049_17]))] _ := va_P.cons hat2049 va_P.nil
      refine va_get (D := D) (ci := 9) (v := .int (nI p2038)) (C := RX9) (T := TX9) (N := 18) hx hb hts iX9_expect_9 hown hN.1 hP 0 rfl rfl 4 (by decide) (hts _ mX9_expect_1) (fun _ h9 => h9) rfl dX9_expect_18 ?_
      refine lv_iconst (v := 1) hx hb dX9_expect_21 (by decide) ?_
      refine lv_iadd hx hb dX9_expect_22 ?_
      refine tp_i (nI (p2038 + 1)) (nI_add p2038 1) ?_
      have hB : Bx B0 D _ [(w, .inr (9, [.int f2049_0, .ref bu, .int (nI ((κ w).2.2.1)), .int (nI tl), .int (nI p2038), .int er, .int f2049_6, .int f2049_7, .ref (κ w).2.2.2, .ref f2049_9, .ref dr, .ref f2049_11, .int (nI f2049_12), .int f2049_13, .int ns, .int f2049_15, .int f2049_16, .ref f2049_17]))] [] _ _ := Bx.of (fun a => (κ a).1) hL hP (fa_c hb2049 fa_n) (by simp only [List.map_cons, List.map_nil, hw.1]; decide)
      refine b_put (D := D) (ci := 9) (v := .int (nI (p2038 + 1))) (ty := .int) (C := RX9) (T := TX9) (N := 18) hx hb hts iX9_expect_9 tyX9 tyX9_ok nmX9 hown hN hB 0 rfl rfl 4 (by decide) (hts _ mX9_expect_1) (fun _ h9 => h9) rfl (by decide +kernel) rfl rfl (Nat.le_of_ble_eq_true rfl) (.inl rfl) dX9_expect_23 (fun H locs hB => ?_)
      have hB : Bx B0 D _ [(w, .inr (9, [.int f2049_0, .ref bu, .int (nI ((κ w).2.2.1)), .int (nI tl), .int (nI (p2038 + 1)), .int er, .int f2049_6, .int f2049_7, .ref (κ w).2.2.2, .ref f2049_9, .ref dr, .ref f2049_11, .int (nI f2049_12), .int f2049_13, .int ns, .int f2049_15, .int f2049_16, .ref f2049_17]))] [w] _ _ := hB
      refine lv_goto (tgt := 39) hx hb dX9_expect_26 (by decide) ?_
      have hT : WT B0 D cs T κ _ := hT.close hB ⟨⟨0, _, rfl, ok_10 hw.1 ⟨_, _, _, _, _, _, _, _, _, _, _, _, _, _, _, _, rfl, (by omega), (by omega), (by omega), (by omega), hbT, t2049_8, t2049_9, c2049_sd, hdT, t2049_11, t2049_17⟩⟩, trivial⟩
      have hF : Fr B0 [12] κ H0 _ := hF.close hB (fa_c (by simp [hw.2]) fa_n)
      have hL : OkL B0 _ := hB.2.2.2.2.2
      have hP : va_P D vwCl [(w, .inr (9, [.int f2049_0, .ref bu, .int (nI ((κ w).2.2.1)), .int (nI tl), .int (nI (p2038 + 1)), .int er, .int f2049_6, .int f2049_7, .ref (κ w).2.2.2, .ref f2049_9, .ref dr, .ref f2049_11, .int (nI f2049_12), .int f2049_13, .int ns, .int f2049_15, .int f2049_16, .ref f2049_17]))] _ := hB.1
      have hbu9 := (hm.2.2.2.2.2.2.1).kept (hB.2.2.2.1 _ hm.2.2.2.2.2.2.1.lt (by simp only [List.mem_cons, List.not_mem_nil, or_false, not_or]; exact ne_c hbT.1 hw.1 (by decide)))
      have hm : MF D cs w _ ((p2038 + 1)) (tl) (er) (ns) dr bu g := ⟨⟨_, hP 0 _ rfl, rfl⟩, ⟨_, hP 0 _ rfl, rfl⟩, ⟨_, hP 0 _ rfl, rfl⟩, ⟨_, hP 0 _ rfl, rfl⟩, ⟨_, hP 0 _ rfl, rfl⟩, ⟨_, hP 0 _ rfl, rfl⟩, hbu9, (by omega), (by omega)⟩
      exact en_v hx hb hr hlocks hL (Nat.zero_le _) (Nat.zero_le _) dX9_expect_39 (⟨hT, hF, (p2038 + 1), er, (by omega), id, hm⟩)
  · refine lv_if_ne (tgt := 8) hx hb dX9_expect_4 (by decide) (fun c9 => absurd (by decide) c9) (fun _ => ?_)
    exact en_v hx hb hr hlocks hL (Nat.zero_le _) (Nat.zero_le _) dX9_expect_7 (⟨hT, hF, pos, er, (by omega), id, hm⟩)
theorem mX9_emit_1 : (.fieldLink RX9 24 "OneBeatModel" "draft" "[I" : Cond) ∈ wsX9_emit := List.mem_of_getElem? (i := 1) (by decide +kernel)
theorem iX9_emit_9 : ∀ w ∈ wsX90, w ∈ wsX9_emit := fun w h => List.mem_of_mem_drop (List.mem_of_mem_take ((show wsX90 = (wsX9_emit.drop 8).take 18 by decide +kernel) ▸ h))
set_option maxHeartbeats 4000000 in
set_option maxRecDepth 100000 in
theorem c_X9_emit {l : Launch} {D : va_G} {cs : Nat → ClassId} {B0 T : Nat} {κ : KM} {H0 : Heap} (hT : WT B0 D cs T κ H0) {w : Nat} (hw : T2 κ w 10 12) {x : Int32} {pos tl : Nat} {er ns : Int32} {dr bu : Nat} {g : Nat → Int32} (hbT : T2 κ bu 23 14) (hdT : T2 κ dr 26 17) (hm : MF D cs w H0 pos tl er ns dr bu g) {f : Nat → Int32} {N : Nat} (hd : va_at D vwCl (dr, .inl (cs 0, 1383, .inl f)) H0) (e14 : f 14 = nI N) (hN9 : er = 0 → N < 1200) : KC l yX9_emit wsX9_emit 1 20 0 0 D cs B0 H0 [.ref w, .int x] (Qv (fun H => WT B0 D cs T κ H ∧ Fr B0 [17] κ H0 H ∧ ∃ f1 N1, va_at D vwCl (dr, .inl (cs 0, 1383, .inl f1)) H ∧ f1 14 = nI N1 ∧ EM f f1 N N1 er x ∧ MF D cs w H pos tl er ns dr bu g)) := by
  refine KC.of cX9_emit 2 none (by decide) rfl (Nat.le_of_ble_eq_true rfl) ?_
  intro p e s m below meth c ls hx hb hr hml hown hts hlocks hin hN hE hH0 hl
  have hown : s.vm.findClass RX9 = some m.cls := hown
  have hl : lv_has ls 2 [(0, .ref w), (1, .int x)] := hl
  have hL : OkL B0 [] := OkL.nil
  have hF : Fr B0 [17] κ H0 H0 := Fr.rf
  have hm8 := hm.2.2.2.2.2.2.2
  refine lv_aload_n hx hb dX9_emit_0 rfl (lv_at hl 0 rfl) ?_
  refine cv_i (As := []) (rest := []) (b := w) ⟨hx, hb, hml, hown, hts⟩ (c_X9_isGood hT (w := w) hw hbT hdT hm) (cwV 0 hts gX9_emit_X9_isGood rfl rfl rfl hdX9_isGood_v ⟨Nat.le_of_ble_eq_true rfl, Nat.le_of_ble_eq_true rfl⟩) hN hE hL (rcv10 hN hT hw.1) rfl rfl hl.1 (Nat.le_of_ble_eq_true rfl) dX9_emit_1 (Nat.zero_le _) (Nat.zero_le _) (fun r2050 H1 locs hL hqr2050 => ?_)
  obtain ⟨h9, hqr2050⟩ := hqr2050; replace h9 := h9.symm; subst h9
  rcases hqr2050 with ⟨rfl, e2051⟩ | ⟨rfl, e2052⟩
  · refine lv_if_ne (tgt := 8) hx hb dX9_emit_4 (by decide) (fun _ => ?_) (fun c9 => absurd c9 (by decide))
    have hN8 := hN9 e2051
    refine lv_aload_n hx hb dX9_emit_8 rfl (lv_at hl 0 rfl) ?_
    obtain ⟨hb2053, e2053, hat2053, hk2053⟩ := hT.o10 hw.1
    obtain ⟨f2053_0, f2053_1, f2053_3, f2053_4, f2053_5, f2053_6, f2053_7, f2053_9, f2053_10, f2053_11, f2053_12, f2053_13, f2053_14, f2053_15, f2053_16, f2053_17, rfl, c2053_2, c2053_3, c2053_4, c2053_12, t2053_1, t2053_8, t2053_9, c2053_sd, t2053_10, t2053_11, t2053_17⟩ := hk2053
    obtain ⟨rfl, rfl, rfl, rfl, rfl, rfl⟩ := hm.at hat2053 c2053_3 (by omega)
    have hm8 := hm.2.2.2.2.2.2.2
    have hP : va_P D vwCl [(w, .inr (9, [.int f2053_0, .ref bu, .int (nI ((κ w).2.2.1)), .int (nI tl), .int (nI pos), .int er, .int f2053_6, .int f2053_7, .ref (κ w).2.2.2, .ref f2053_9, .ref dr, .ref f2053_11, .int (nI f2053_12), .int f2053_13, .int ns, .int f2053_15, .int f2053_16, .ref f2053_17]))] _ := va_P.cons hat2053 va_P.nil
    refine va_get (D := D) (ci := 9) (v := .ref dr) (C := RX9) (T := TX9) (N := 18) hx hb hts iX9_emit_9 hown hN.1 hP 0 rfl rfl 10 (by decide) (hts _ mX9_emit_1) (fun _ h9 => h9) rfl dX9_emit_9 ?_
    refine lv_sipush (v := 183) hx hb dX9_emit_12 (by decide) ?_
    refine lv_aload_n hx hb dX9_emit_15 rfl (lv_at hl 0 rfl) ?_
    refine va_get (D := D) (ci := 9) (v := .ref dr) (C := RX9) (T := TX9) (N := 18) hx hb hts iX9_emit_9 hown hN.1 hP 0 rfl rfl 10 (by decide) (hts _ mX9_emit_1) (fun _ h9 => h9) rfl dX9_emit_16 ?_
    refine lv_bipush (v := 14) hx hb dX9_emit_19 (by decide) ?_
    have hbd : B0 ≤ dr := (hT.o26 hdT.1).1
    have hDR := hT.dr hdT hd
    have hP : va_P D vwCl [(dr, .inl (cs 0, 1383, .inl f)), (w, .inr (9, [.int f2053_0, .ref bu, .int (nI ((κ w).2.2.1)), .int (nI tl), .int (nI pos), .int er, .int f2053_6, .int f2053_7, .ref (κ w).2.2.2, .ref f2053_9, .ref dr, .ref f2053_11, .int (nI f2053_12), .int f2053_13, .int ns, .int f2053_15, .int f2053_16, .ref f2053_17]))] _ := va_P.cons hd hP
    refine ld_i (v := (f 14)) hx hb hN hP 0 rfl (vp_in_nI (n := 14) (N := 1383) (by omega) (by omega)) (by rw [(show (14 : Int32).toNatClampNeg = 14 from nI_clamp (n := 14) (by omega))]) dX9_emit_21 ?_
    refine tp_i (nI N) e14 ?_
    refine lv_iadd hx hb dX9_emit_22 ?_
    refine tp_i (nI (183 + N)) (nI_add 183 N) ?_
    refine lv_iload_n hx hb dX9_emit_23 rfl (lv_at hl 1 rfl) ?_
    have hB : Bx B0 D _ [(dr, .inl (cs 0, 1383, .inl f)), (w, .inr (9, [.int f2053_0, .ref bu, .int (nI ((κ w).2.2.1)), .int (nI tl), .int (nI pos), .int er, .int f2053_6, .int f2053_7, .ref (κ w).2.2.2, .ref f2053_9, .ref dr, .ref f2053_11, .int (nI f2053_12), .int f2053_13, .int ns, .int f2053_15, .int f2053_16, .ref f2053_17]))] [] _ _ := Bx.of (fun a => (κ a).1) hL hP (fa_c hbd (fa_c hb2053 fa_n)) (by simp only [List.map_cons, List.map_nil, hdT.1, hw.1]; decide)
    refine b_i hx hb hN hB 0 rfl (vp_in_nI (n := (183 + N)) (N := 1383) (by omega) (by omega)) (.inl rfl) dX9_emit_24 (fun H locs hB => ?_)
    rw [(show ((nI (183 + N)) : Int32).toNatClampNeg = (183 + N) from nI_clamp (n := (183 + N)) (by omega))] at hB
    have hB : Bx B0 D _ [(dr, .inl (cs 0, 1383, .inl (upd f (183 + N) x))), (w, .inr (9, [.int f2053_0, .ref bu, .int (nI ((κ w).2.2.1)), .int (nI tl), .int (nI pos), .int er, .int f2053_6, .int f2053_7, .ref (κ w).2.2.2, .ref f2053_9, .ref dr, .ref f2053_11, .int (nI f2053_12), .int f2053_13, .int ns, .int f2053_15, .int f2053_16, .ref f2053_17]))] [dr] _ _ := hB
    have z2055 := DRK.sf hDR (k := (183 + N)) (by omega) (x := x)
    have e2056 := (pk_un (f := f) (x := x) (show 14 ≠ (183 + N) by omega)).trans e14
    refine lv_aload_n hx hb dX9_emit_25 rfl (lv_at hl 0 rfl) ?_
    refine va_get (D := D) (ci := 9) (v := .ref dr) (C := RX9) (T := TX9) (N := 18) hx hb hts iX9_emit_9 hown hN.1 hB.1 1 rfl rfl 10 (by decide) (hts _ mX9_emit_1) (fun _ h9 => h9) rfl dX9_emit_26 ?_
    refine lv_bipush (v := 14) hx hb dX9_emit_29 (by decide) ?_
    refine lv_dup2_11 hx hb dX9_emit_31 rfl rfl ?_
    refine ld_i (v := ((upd f (183 + N) x) 14)) hx hb hN hB.1 0 rfl (vp_in_nI (n := 14) (N := 1383) (by omega) (by omega)) (by rw [(show (14 : Int32).toNatClampNeg = 14 from nI_clamp (n := 14) (by omega))]) dX9_emit_32 ?_
    refine tp_i (nI N) e2056 ?_
    refine lv_iconst (v := 1) hx hb dX9_emit_33 (by decide) ?_
    refine lv_iadd hx hb dX9_emit_34 ?_
    refine tp_i (nI (N + 1)) (nI_add N 1) ?_
    refine b_i hx hb hN hB 0 rfl (vp_in_nI (n := 14) (N := 1383) (by omega) (by omega)) (.inr ⟨rfl, List.mem_of_getElem? (i := 0) rfl⟩) dX9_emit_35 (fun H locs hB => ?_)
    rw [(show (14 : Int32).toNatClampNeg = 14 from nI_clamp (n := 14) (by omega))] at hB
    have hB : Bx B0 D _ [(dr, .inl (cs 0, 1383, .inl (upd (upd f (183 + N) x) 14 (nI (N + 1))))), (w, .inr (9, [.int f2053_0, .ref bu, .int (nI ((κ w).2.2.1)), .int (nI tl), .int (nI pos), .int er, .int f2053_6, .int f2053_7, .ref (κ w).2.2.2, .ref f2053_9, .ref dr, .ref f2053_11, .int (nI f2053_12), .int f2053_13, .int ns, .int f2053_15, .int f2053_16, .ref f2053_17]))] [dr] _ _ := hB
    have z2057 := DRK.s14 z2055 (n := (N + 1)) (by omega)
    have hT : WT B0 D cs T κ _ := hT.close hB ⟨⟨0, _, rfl, ok_26 hdT.1 ⟨_, rfl, z2057⟩⟩, trivial⟩
    have hF : Fr B0 [17] κ H0 _ := hF.close hB (fa_c (by simp [hdT.2]) fa_n)
    have hL : OkL B0 _ := hB.2.2.2.2.2
    have hP : va_P D vwCl [(dr, .inl (cs 0, 1383, .inl (upd (upd f (183 + N) x) 14 (nI (N + 1))))), (w, .inr (9, [.int f2053_0, .ref bu, .int (nI ((κ w).2.2.1)), .int (nI tl), .int (nI pos), .int er, .int f2053_6, .int f2053_7, .ref (κ w).2.2.2, .ref f2053_9, .ref dr, .ref f2053_11, .int (nI f2053_12), .int f2053_13, .int ns, .int f2053_15, .int f2053_16, .ref f2053_17]))] _ := hB.1
    have hm := hm.kp hB (by simp only [List.mem_cons, List.not_mem_nil, or_false, not_or]; exact ne_c hbT.1 hdT.1 (by decide)) (by simp only [List.mem_cons, List.not_mem_nil, or_false, not_or]; exact ne_c hw.1 hdT.1 (by decide))
    exact en_v hx hb hr hlocks hL (Nat.zero_le _) (Nat.zero_le _) dX9_emit_36 (⟨hT, hF, _, _, hP 0 _ rfl, pk_us, Or.inr ⟨e2051, rfl, rfl⟩, hm⟩)
  · refine lv_if_ne (tgt := 8) hx hb dX9_emit_4 (by decide) (fun c9 => absurd (by decide) c9) (fun _ => ?_)
    exact en_v hx hb hr hlocks hL (Nat.zero_le _) (Nat.zero_le _) dX9_emit_7 (⟨hT, hF, _, _, hd, e14, Or.inl ⟨e2052, rfl, rfl⟩, hm⟩)
