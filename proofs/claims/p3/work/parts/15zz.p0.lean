theorem mX9_isGood_1 : (.fieldLink RX9 59 "OneBeatModel" "error" "I" : Cond) ∈ wsX9_isGood := List.mem_of_getElem? (i := 1) (by decide +kernel)
theorem iX9_isGood_9 : ∀ w ∈ wsX90, w ∈ wsX9_isGood := fun w h => List.mem_of_mem_drop (List.mem_of_mem_take ((show wsX90 = (wsX9_isGood.drop 2).take 18 by decide +kernel) ▸ h))
set_option maxHeartbeats 4000000 in
set_option maxRecDepth 100000 in
theorem c_X9_isGood {l : Launch} {D : va_G} {cs : Nat → ClassId} {B0 T : Nat} {κ : KM} {H0 : Heap} (hT : WT B0 D cs T κ H0) {w : Nat} (hw : T2 κ w 10 12) {pos tl : Nat} {er ns : Int32} {dr bu : Nat} {g : Nat → Int32} (hbT : T2 κ bu 23 14) (hdT : T2 κ dr 26 17) (hm : MF D cs w H0 pos tl er ns dr bu g) : KC l yX9_isGood wsX9_isGood 0 0 0 0 D cs B0 H0 [.ref w] (Qi (fun r H => H = H0 ∧ ((r = 1 ∧ er = 0) ∨ (r = 0 ∧ er ≠ 0)))) := by
  refine KC.of cX9_isGood 1 (some .boolean) (by decide) rfl (Nat.le_of_ble_eq_true rfl) ?_
  intro p e s m below meth c ls hx hb hr hml hown hts hlocks hin hN hE hH0 hl
  have hown : s.vm.findClass RX9 = some m.cls := hown
  have hl : lv_has ls 1 [(0, .ref w)] := hl
  have hL : OkL B0 [] := OkL.nil
  have hm8 := hm.2.2.2.2.2.2.2
  refine lv_aload_n hx hb dX9_isGood_0 rfl (lv_at hl 0 rfl) ?_
  obtain ⟨hb1938, e1938, hat1938, hk1938⟩ := hT.o10 hw.1
  obtain ⟨f1938_0, f1938_1, f1938_3, f1938_4, f1938_5, f1938_6, f1938_7, f1938_9, f1938_10, f1938_11, f1938_12, f1938_13, f1938_14, f1938_15, f1938_16, f1938_17, rfl, c1938_2, c1938_3, c1938_4, c1938_12, t1938_1, t1938_8, t1938_9, c1938_sd, t1938_10, t1938_11, t1938_17⟩ := hk1938
  obtain ⟨rfl, rfl, rfl, rfl, rfl, rfl⟩ := hm.at hat1938 c1938_3 (by omega)
  have hm8 := hm.2.2.2.2.2.2.2
  have hP : va_P D vwCl [(w, .inr (9, [.int f1938_0, .ref bu, .int (nI ((κ w).2.2.1)), .int (nI tl), .int (nI pos), .int er, .int f1938_6, .int f1938_7, .ref (κ w).2.2.2, .ref f1938_9, .ref dr, .ref f1938_11, .int (nI f1938_12), .int f1938_13, .int ns, .int f1938_15, .int f1938_16, .ref f1938_17]))] _ := va_P.cons hat1938 va_P.nil
  refine va_get (D := D) (ci := 9) (v := .int er) (C := RX9) (T := TX9) (N := 18) hx hb hts iX9_isGood_9 hown hN.1 hP 0 rfl rfl 5 (by decide) (hts _ mX9_isGood_1) (fun _ h9 => h9) rfl dX9_isGood_1 ?_
  refine lv_if_ne (tgt := 11) hx hb dX9_isGood_4 (by decide) (fun c1939 => ?_) (fun c1939 => ?_)
  · refine lv_iconst (v := 0) hx hb dX9_isGood_11 (by decide) ?_
    exact en_i hx hb hr hlocks hL rfl (Nat.zero_le _) (Nat.zero_le _) dX9_isGood_12 (⟨rfl, Or.inr ⟨rfl, c1939⟩⟩)
  · refine lv_iconst (v := 1) hx hb dX9_isGood_7 (by decide) ?_
    refine lv_goto (tgt := 12) hx hb dX9_isGood_8 (by decide) ?_
    exact en_i hx hb hr hlocks hL rfl (Nat.zero_le _) (Nat.zero_le _) dX9_isGood_12 (⟨rfl, Or.inl ⟨rfl, c1939⟩⟩)
theorem mX9_report_1 : (.fieldLink RX9 59 "OneBeatModel" "error" "I" : Cond) ∈ wsX9_report := List.mem_of_getElem? (i := 1) (by decide +kernel)
theorem iX9_report_9 : ∀ w ∈ wsX90, w ∈ wsX9_report := fun w h => List.mem_of_mem_drop (List.mem_of_mem_take ((show wsX90 = (wsX9_report.drop 3).take 18 by decide +kernel) ▸ h))
theorem mX9_report_2 : (.fieldLink RX9 62 "OneBeatModel" "errorAt" "I" : Cond) ∈ wsX9_report := List.mem_of_getElem? (i := 2) (by decide +kernel)
set_option maxHeartbeats 4000000 in
set_option maxRecDepth 100000 in
theorem c_X9_report {l : Launch} {D : va_G} {cs : Nat → ClassId} {B0 T : Nat} {κ : KM} {H0 : Heap} (hT : WT B0 D cs T κ H0) {w : Nat} (hw : T2 κ w 10 12) {x : Int32} {y : Int32} {pos tl : Nat} {er ns : Int32} {dr bu : Nat} {g : Nat → Int32} (hbT : T2 κ bu 23 14) (hdT : T2 κ dr 26 17) (hm : MF D cs w H0 pos tl er ns dr bu g) (hk9 : ¬ x = 0) : KC l yX9_report wsX9_report 0 0 0 0 D cs B0 H0 [.ref w, .int x, .int y] (Qv (fun H => WT B0 D cs T κ H ∧ Fr B0 [12] κ H0 H ∧ ∃ er1, er1 ≠ 0 ∧ MF D cs w H pos tl er1 ns dr bu g)) := by
  refine KC.of cX9_report 3 none (by decide) rfl (Nat.le_of_ble_eq_true rfl) ?_
  intro p e s m below meth c ls hx hb hr hml hown hts hlocks hin hN hE hH0 hl
  have hown : s.vm.findClass RX9 = some m.cls := hown
  have hl : lv_has ls 3 [(0, .ref w), (1, .int x), (2, .int y)] := hl
  have hL : OkL B0 [] := OkL.nil
  have hF : Fr B0 [12] κ H0 H0 := Fr.rf
  have hm8 := hm.2.2.2.2.2.2.2
  refine lv_aload_n hx hb dX9_report_0 rfl (lv_at hl 0 rfl) ?_
  obtain ⟨hb1940, e1940, hat1940, hk1940⟩ := hT.o10 hw.1
  obtain ⟨f1940_0, f1940_1, f1940_3, f1940_4, f1940_5, f1940_6, f1940_7, f1940_9, f1940_10, f1940_11, f1940_12, f1940_13, f1940_14, f1940_15, f1940_16, f1940_17, rfl, c1940_2, c1940_3, c1940_4, c1940_12, t1940_1, t1940_8, t1940_9, c1940_sd, t1940_10, t1940_11, t1940_17⟩ := hk1940
  obtain ⟨rfl, rfl, rfl, rfl, rfl, rfl⟩ := hm.at hat1940 c1940_3 (by omega)
  have hm8 := hm.2.2.2.2.2.2.2
  have hP : va_P D vwCl [(w, .inr (9, [.int f1940_0, .ref bu, .int (nI ((κ w).2.2.1)), .int (nI tl), .int (nI pos), .int er, .int f1940_6, .int f1940_7, .ref (κ w).2.2.2, .ref f1940_9, .ref dr, .ref f1940_11, .int (nI f1940_12), .int f1940_13, .int ns, .int f1940_15, .int f1940_16, .ref f1940_17]))] _ := va_P.cons hat1940 va_P.nil
  refine va_get (D := D) (ci := 9) (v := .int er) (C := RX9) (T := TX9) (N := 18) hx hb hts iX9_report_9 hown hN.1 hP 0 rfl rfl 5 (by decide) (hts _ mX9_report_1) (fun _ h9 => h9) rfl dX9_report_1 ?_
  refine lv_if_eq (tgt := 8) hx hb dX9_report_4 (by decide) (fun c1941 => ?_) (fun c1941 => ?_)
  · refine lv_aload_n hx hb dX9_report_8 rfl (lv_at hl 0 rfl) ?_
    refine lv_iload_n hx hb dX9_report_9 rfl (lv_at hl 1 rfl) ?_
    have hB : Bx B0 D _ [(w, .inr (9, [.int f1940_0, .ref bu, .int (nI ((κ w).2.2.1)), .int (nI tl), .int (nI pos), .int er, .int f1940_6, .int f1940_7, .ref (κ w).2.2.2, .ref f1940_9, .ref dr, .ref f1940_11, .int (nI f1940_12), .int f1940_13, .int ns, .int f1940_15, .int f1940_16, .ref f1940_17]))] [] _ _ := Bx.of (fun a => (κ a).1) hL hP (fa_c hb1940 fa_n) (by simp only [List.map_cons, List.map_nil, hw.1]; decide)
    refine b_put (D := D) (ci := 9) (v := .int x) (ty := .int) (C := RX9) (T := TX9) (N := 18) hx hb hts iX9_report_9 tyX9 tyX9_ok nmX9 hown hN hB 0 rfl rfl 5 (by decide) (hts _ mX9_report_1) (fun _ h9 => h9) rfl (by decide +kernel) rfl rfl (Nat.le_of_ble_eq_true rfl) (.inl rfl) dX9_report_10 (fun H locs hB => ?_)
    have hB : Bx B0 D _ [(w, .inr (9, [.int f1940_0, .ref bu, .int (nI ((κ w).2.2.1)), .int (nI tl), .int (nI pos), .int x, .int f1940_6, .int f1940_7, .ref (κ w).2.2.2, .ref f1940_9, .ref dr, .ref f1940_11, .int (nI f1940_12), .int f1940_13, .int ns, .int f1940_15, .int f1940_16, .ref f1940_17]))] [w] _ _ := hB
    refine lv_aload_n hx hb dX9_report_13 rfl (lv_at hl 0 rfl) ?_
    refine lv_iload_n hx hb dX9_report_14 rfl (lv_at hl 2 rfl) ?_
    refine b_put (D := D) (ci := 9) (v := .int y) (ty := .int) (C := RX9) (T := TX9) (N := 18) hx hb hts iX9_report_9 tyX9 tyX9_ok nmX9 hown hN hB 0 rfl rfl 6 (by decide) (hts _ mX9_report_2) (fun _ h9 => h9) rfl (by decide +kernel) rfl rfl (Nat.le_of_ble_eq_true rfl) (.inr ⟨rfl, List.mem_of_getElem? (i := 0) rfl⟩) dX9_report_15 (fun H locs hB => ?_)
    have hB : Bx B0 D _ [(w, .inr (9, [.int f1940_0, .ref bu, .int (nI ((κ w).2.2.1)), .int (nI tl), .int (nI pos), .int x, .int y, .int f1940_7, .ref (κ w).2.2.2, .ref f1940_9, .ref dr, .ref f1940_11, .int (nI f1940_12), .int f1940_13, .int ns, .int f1940_15, .int f1940_16, .ref f1940_17]))] [w] _ _ := hB
    have hT : WT B0 D cs T κ _ := hT.close hB ⟨⟨0, _, rfl, ok_10 hw.1 ⟨_, _, _, _, _, _, _, _, _, _, _, _, _, _, _, _, rfl, (by omega), (by omega), (by omega), (by omega), hbT, t1940_8, t1940_9, c1940_sd, hdT, t1940_11, t1940_17⟩⟩, trivial⟩
    have hF : Fr B0 [12] κ H0 _ := hF.close hB (fa_c (by simp [hw.2]) fa_n)
    have hL : OkL B0 _ := hB.2.2.2.2.2
    have hP : va_P D vwCl [(w, .inr (9, [.int f1940_0, .ref bu, .int (nI ((κ w).2.2.1)), .int (nI tl), .int (nI pos), .int x, .int y, .int f1940_7, .ref (κ w).2.2.2, .ref f1940_9, .ref dr, .ref f1940_11, .int (nI f1940_12), .int f1940_13, .int ns, .int f1940_15, .int f1940_16, .ref f1940_17]))] _ := hB.1
    have hbu9 := (hm.2.2.2.2.2.2.1).kept (hB.2.2.2.1 _ hm.2.2.2.2.2.2.1.lt (by simp only [List.mem_cons, List.not_mem_nil, or_false, not_or]; exact ne_c hbT.1 hw.1 (by decide)))
    have hm : MF D cs w _ (pos) (tl) (x) (ns) dr bu g := ⟨⟨_, hP 0 _ rfl, rfl⟩, ⟨_, hP 0 _ rfl, rfl⟩, ⟨_, hP 0 _ rfl, rfl⟩, ⟨_, hP 0 _ rfl, rfl⟩, ⟨_, hP 0 _ rfl, rfl⟩, ⟨_, hP 0 _ rfl, rfl⟩, hbu9, (by omega), (by omega)⟩
    exact en_v hx hb hr hlocks hL (Nat.zero_le _) (Nat.zero_le _) dX9_report_18 (⟨hT, hF, _, hk9, hm⟩)
  · exact en_v hx hb hr hlocks hL (Nat.zero_le _) (Nat.zero_le _) dX9_report_7 (⟨hT, hF, _, c1941, hm⟩)
theorem mX9_byteAt_1 : (.fieldLink RX9 50 "OneBeatModel" "textLength" "I" : Cond) ∈ wsX9_byteAt := List.mem_of_getElem? (i := 1) (by decide +kernel)
theorem iX9_byteAt_9 : ∀ w ∈ wsX90, w ∈ wsX9_byteAt := fun w h => List.mem_of_mem_drop (List.mem_of_mem_take ((show wsX90 = (wsX9_byteAt.drop 3).take 18 by decide +kernel) ▸ h))
theorem mX9_byteAt_2 : (.fieldLink RX9 9 "OneBeatModel" "buffer" "[I" : Cond) ∈ wsX9_byteAt := List.mem_of_getElem? (i := 2) (by decide +kernel)
set_option maxHeartbeats 4000000 in
set_option maxRecDepth 100000 in
theorem c_X9_byteAt {l : Launch} {D : va_G} {cs : Nat → ClassId} {B0 T : Nat} {κ : KM} {H0 : Heap} (hT : WT B0 D cs T κ H0) {w : Nat} (hw : T2 κ w 10 12) {n : Nat} {pos tl : Nat} {er ns : Int32} {dr bu : Nat} {g : Nat → Int32} (hbT : T2 κ bu 23 14) (hdT : T2 κ dr 26 17) (hm : MF D cs w H0 pos tl er ns dr bu g) (hn : n ≤ 1300) : KC l yX9_byteAt wsX9_byteAt 0 0 0 0 D cs B0 H0 [.ref w, .int (nI n)] (Qi (fun r H => H = H0 ∧ r = byF g tl n)) := by
  refine KC.of cX9_byteAt 2 (some .int) (by decide) rfl (Nat.le_of_ble_eq_true rfl) ?_
  intro p e s m below meth c ls hx hb hr hml hown hts hlocks hin hN hE hH0 hl
  have hown : s.vm.findClass RX9 = some m.cls := hown
  have hl : lv_has ls 2 [(0, .ref w), (1, .int (nI n))] := hl
  have hL : OkL B0 [] := OkL.nil
  have hm8 := hm.2.2.2.2.2.2.2
  refine lv_iload_n hx hb dX9_byteAt_0 rfl (lv_at hl 1 rfl) ?_
  refine lv_aload_n hx hb dX9_byteAt_1 rfl (lv_at hl 0 rfl) ?_
  obtain ⟨hb1942, e1942, hat1942, hk1942⟩ := hT.o10 hw.1
  obtain ⟨f1942_0, f1942_1, f1942_3, f1942_4, f1942_5, f1942_6, f1942_7, f1942_9, f1942_10, f1942_11, f1942_12, f1942_13, f1942_14, f1942_15, f1942_16, f1942_17, rfl, c1942_2, c1942_3, c1942_4, c1942_12, t1942_1, t1942_8, t1942_9, c1942_sd, t1942_10, t1942_11, t1942_17⟩ := hk1942
  obtain ⟨rfl, rfl, rfl, rfl, rfl, rfl⟩ := hm.at hat1942 c1942_3 (by omega)
  have hm8 := hm.2.2.2.2.2.2.2
  have hP : va_P D vwCl [(w, .inr (9, [.int f1942_0, .ref bu, .int (nI ((κ w).2.2.1)), .int (nI tl), .int (nI pos), .int er, .int f1942_6, .int f1942_7, .ref (κ w).2.2.2, .ref f1942_9, .ref dr, .ref f1942_11, .int (nI f1942_12), .int f1942_13, .int ns, .int f1942_15, .int f1942_16, .ref f1942_17]))] _ := va_P.cons hat1942 va_P.nil
  refine va_get (D := D) (ci := 9) (v := .int (nI tl)) (C := RX9) (T := TX9) (N := 18) hx hb hts iX9_byteAt_9 hown hN.1 hP 0 rfl rfl 3 (by decide) (hts _ mX9_byteAt_1) (fun _ h9 => h9) rfl dX9_byteAt_2 ?_
  refine lv_icmp_ge (tgt := 17) hx hb dX9_byteAt_5 (by decide) (fun c1943 => ?_) (fun c1943 => ?_)
  · have c1943 : tl ≤ n := (nI_leI (a := tl) (b := n) (by omega) (by omega)).mp c1943
    refine lv_iconst (v := (-1)) hx hb dX9_byteAt_17 (by decide) ?_
    exact en_i hx hb hr hlocks hL rfl (Nat.zero_le _) (Nat.zero_le _) dX9_byteAt_18 (⟨rfl, byF_n (Nat.not_lt.mpr c1943)⟩)
  · have c1943 : ¬ tl ≤ n := fun h9 => c1943 ((nI_leI (a := tl) (b := n) (by omega) (by omega)).mpr h9)
    refine lv_aload_n hx hb dX9_byteAt_8 rfl (lv_at hl 0 rfl) ?_
    refine va_get (D := D) (ci := 9) (v := .ref bu) (C := RX9) (T := TX9) (N := 18) hx hb hts iX9_byteAt_9 hown hN.1 hP 0 rfl rfl 1 (by decide) (hts _ mX9_byteAt_2) (fun _ h9 => h9) rfl dX9_byteAt_9 ?_
    refine lv_iload_n hx hb dX9_byteAt_12 rfl (lv_at hl 1 rfl) ?_
    have hbb : B0 ≤ bu := (hT.o23 hbT.1).1
    have hP : va_P D vwCl [(bu, .inl (cs 0, 600, .inl g)), (w, .inr (9, [.int f1942_0, .ref bu, .int (nI ((κ w).2.2.1)), .int (nI tl), .int (nI pos), .int er, .int f1942_6, .int f1942_7, .ref (κ w).2.2.2, .ref f1942_9, .ref dr, .ref f1942_11, .int (nI f1942_12), .int f1942_13, .int ns, .int f1942_15, .int f1942_16, .ref f1942_17]))] _ := va_P.cons hm.2.2.2.2.2.2.1 hP
    refine ld_i (v := (g n)) hx hb hN hP 0 rfl (vp_in_nI (n := n) (N := 600) (by omega) (by omega)) (by rw [(show ((nI n) : Int32).toNatClampNeg = n from nI_clamp (n := n) (by omega))]) dX9_byteAt_13 ?_
    refine lv_goto (tgt := 18) hx hb dX9_byteAt_14 (by decide) ?_
    exact en_i hx hb hr hlocks hL rfl (Nat.zero_le _) (Nat.zero_le _) dX9_byteAt_18 (⟨rfl, byF_y (Nat.not_le.mp c1943)⟩)
theorem mX9_ahead_1 : (.fieldLink RX9 53 "OneBeatModel" "position" "I" : Cond) ∈ wsX9_ahead := List.mem_of_getElem? (i := 1) (by decide +kernel)
theorem iX9_ahead_9 : ∀ w ∈ wsX90, w ∈ wsX9_ahead := fun w h => List.mem_of_mem_drop (List.mem_of_mem_take ((show wsX90 = (wsX9_ahead.drop 9).take 18 by decide +kernel) ▸ h))
theorem hdX9_byteAt_v : yX9_byteAt.cls = RX9 ∧ yX9_byteAt.cls ≠ "java/lang/invoke/MethodHandle" ∧ yX9_byteAt.cls ≠ "java/lang/invoke/VarHandle" ∧ (parseMethodDescriptor yX9_byteAt.desc).map (fun d => d.parameters.length) = some 1 := by decide +kernel
set_option maxHeartbeats 4000000 in
set_option maxRecDepth 100000 in
theorem c_X9_ahead {l : Launch} {D : va_G} {cs : Nat → ClassId} {B0 T : Nat} {κ : KM} {H0 : Heap} (hT : WT B0 D cs T κ H0) {w : Nat} (hw : T2 κ w 10 12) {pos tl : Nat} {er ns : Int32} {dr bu : Nat} {g : Nat → Int32} (hbT : T2 κ bu 23 14) (hdT : T2 κ dr 26 17) (hm : MF D cs w H0 pos tl er ns dr bu g) : KC l yX9_ahead wsX9_ahead 1 21 0 0 D cs B0 H0 [.ref w] (Qi (fun r H => WT B0 D cs T κ H ∧ Fr B0 [12] κ H0 H ∧ ∃ pos1, pos ≤ pos1 ∧ MF D cs w H pos1 tl er ns dr bu g ∧ byF g tl pos1 ≠ 32 ∧ (byF g tl pos ≠ 32 → pos1 = pos) ∧ r = byF g tl pos1)) := by
  refine KC.of cX9_ahead 1 (some .int) (by decide) rfl (Nat.le_of_ble_eq_true rfl) ?_
  intro p e s m below meth c ls hx hb hr hml hown hts hlocks hin hN hE hH0 hl
  have hown : s.vm.findClass RX9 = some m.cls := hown
  have hl : lv_has ls 1 [(0, .ref w)] := hl
  have hL : OkL B0 [] := OkL.nil
  have hF : Fr B0 [12] κ H0 H0 := Fr.rf
  have hm8 := hm.2.2.2.2.2.2.2
  refine lp_m (α := Nat) (nL := 1) (fun a9 => 600 - a9) (fun a9 H9 l9 => (pos ≤ a9) ∧ (MF D cs w H9 a9 tl er ns dr bu g) ∧ (byF g tl pos ≠ 32 → a9 = pos) ∧ (WT B0 D cs T κ H9) ∧ (Fr B0 [12] κ H0 H9) ∧ (OkL B0 l9)) (fun a9 => [(0, .ref w)]) ?_ pos _ _ _ ⟨(by show pos ≤ (pos); omega), hm, (fun _ => rfl), hT, hF, hL⟩ (lv_sub hl [0] rfl)
  rintro p H locs ls ih1945 ⟨hp, hm, hs, hT, hF, hL⟩ hl
  have hl : lv_has ls 1 [(0, .ref w)] := hl
  have hp : pos ≤ p := hp
  have hm : MF D cs w H p tl er ns dr bu g := hm
  have hs : byF g tl pos ≠ 32 → p = pos := hs
  have hm8 := hm.2.2.2.2.2.2.2
  refine lv_aload_n hx hb dX9_ahead_0 rfl (lv_at hl 0 rfl) ?_
  refine lv_aload_n hx hb dX9_ahead_1 rfl (lv_at hl 0 rfl) ?_
  obtain ⟨hb1946, e1946, hat1946, hk1946⟩ := hT.o10 hw.1
  obtain ⟨f1946_0, f1946_1, f1946_3, f1946_4, f1946_5, f1946_6, f1946_7, f1946_9, f1946_10, f1946_11, f1946_12, f1946_13, f1946_14, f1946_15, f1946_16, f1946_17, rfl, c1946_2, c1946_3, c1946_4, c1946_12, t1946_1, t1946_8, t1946_9, c1946_sd, t1946_10, t1946_11, t1946_17⟩ := hk1946
  obtain ⟨rfl, rfl, rfl, rfl, rfl, rfl⟩ := hm.at hat1946 c1946_3 (by omega)
  have hm8 := hm.2.2.2.2.2.2.2
  have hP : va_P D vwCl [(w, .inr (9, [.int f1946_0, .ref bu, .int (nI ((κ w).2.2.1)), .int (nI tl), .int (nI p), .int er, .int f1946_6, .int f1946_7, .ref (κ w).2.2.2, .ref f1946_9, .ref dr, .ref f1946_11, .int (nI f1946_12), .int f1946_13, .int ns, .int f1946_15, .int f1946_16, .ref f1946_17]))] _ := va_P.cons hat1946 va_P.nil
  refine va_get (D := D) (ci := 9) (v := .int (nI p)) (C := RX9) (T := TX9) (N := 18) hx hb hts iX9_ahead_9 hown hN.1 hP 0 rfl rfl 4 (by decide) (hts _ mX9_ahead_1) (fun _ h9 => h9) rfl dX9_ahead_2 ?_
  refine cv_i (As := [.int (nI p)]) (rest := []) (b := w) ⟨hx, hb, hml, hown, hts⟩ (c_X9_byteAt hT (w := w) hw (n := p) hbT hdT hm (by first | omega | decide | assumption)) (cwV 1 hts gX9_ahead_X9_byteAt rfl rfl rfl hdX9_byteAt_v ⟨Nat.le_of_ble_eq_true rfl, Nat.le_of_ble_eq_true rfl⟩) hN hE hL (rcv10 hN hT hw.1) rfl rfl hl.1 (Nat.le_of_ble_eq_true rfl) dX9_ahead_5 (Nat.zero_le _) (Nat.zero_le _) (fun r1947 H1 locs hL hqr1947 => ?_)
  obtain ⟨h9, hqr1947⟩ := hqr1947; replace h9 := h9.symm; subst h9
  obtain rfl := hqr1947
  refine lv_bipush (v := 32) hx hb dX9_ahead_8 (by decide) ?_
  refine lv_icmp_ne (tgt := 26) hx hb dX9_ahead_10 (by decide) (fun c1948 => ?_) (fun c1948 => ?_)
  · refine lv_aload_n hx hb dX9_ahead_26 rfl (lv_at hl 0 rfl) ?_
    refine lv_aload_n hx hb dX9_ahead_27 rfl (lv_at hl 0 rfl) ?_
    refine va_get (D := D) (ci := 9) (v := .int (nI p)) (C := RX9) (T := TX9) (N := 18) hx hb hts iX9_ahead_9 hown hN.1 hP 0 rfl rfl 4 (by decide) (hts _ mX9_ahead_1) (fun _ h9 => h9) rfl dX9_ahead_28 ?_
    refine cv_i (As := [.int (nI p)]) (rest := []) (b := w) ⟨hx, hb, hml, hown, hts⟩ (c_X9_byteAt hT (w := w) hw (n := p) hbT hdT hm (by first | omega | decide | assumption)) (cwV 1 hts gX9_ahead_X9_byteAt rfl rfl rfl hdX9_byteAt_v ⟨Nat.le_of_ble_eq_true rfl, Nat.le_of_ble_eq_true rfl⟩) hN hE hL (rcv10 hN hT hw.1) rfl rfl hl.1 (Nat.le_of_ble_eq_true rfl) dX9_ahead_31 (Nat.zero_le _) (Nat.zero_le _) (fun r1949 H1 locs hL hqr1949 => ?_)
    obtain ⟨h9, hqr1949⟩ := hqr1949; replace h9 := h9.symm; subst h9
    obtain rfl := hqr1949
    exact en_i hx hb hr hlocks hL rfl (Nat.zero_le _) (Nat.zero_le _) dX9_ahead_34 (⟨hT, hF, p, hp, hm, c1948, hs, rfl⟩)
  · have hl9 := byF_c (c1948) (by decide)
    have h32 := c1948
    refine lv_aload_n hx hb dX9_ahead_13 rfl (lv_at hl 0 rfl) ?_
    refine lv_dup hx hb dX9_ahead_14 rfl ?_
    refine va_get (D := D) (ci := 9) (v := .int (nI p)) (C := RX9) (T := TX9) (N := 18) hx hb hts iX9_ahead_9 hown hN.1 hP 0 rfl rfl 4 (by decide) (hts _ mX9_ahead_1) (fun _ h9 => h9) rfl dX9_ahead_15 ?_
    refine lv_iconst (v := 1) hx hb dX9_ahead_18 (by decide) ?_
    refine lv_iadd hx hb dX9_ahead_19 ?_
    refine tp_i (nI (p + 1)) (nI_add p 1) ?_
    have hB : Bx B0 D _ [(w, .inr (9, [.int f1946_0, .ref bu, .int (nI ((κ w).2.2.1)), .int (nI tl), .int (nI p), .int er, .int f1946_6, .int f1946_7, .ref (κ w).2.2.2, .ref f1946_9, .ref dr, .ref f1946_11, .int (nI f1946_12), .int f1946_13, .int ns, .int f1946_15, .int f1946_16, .ref f1946_17]))] [] _ _ := Bx.of (fun a => (κ a).1) hL hP (fa_c hb1946 fa_n) (by simp only [List.map_cons, List.map_nil, hw.1]; decide)
    refine b_put (D := D) (ci := 9) (v := .int (nI (p + 1))) (ty := .int) (C := RX9) (T := TX9) (N := 18) hx hb hts iX9_ahead_9 tyX9 tyX9_ok nmX9 hown hN hB 0 rfl rfl 4 (by decide) (hts _ mX9_ahead_1) (fun _ h9 => h9) rfl (by decide +kernel) rfl rfl (Nat.le_of_ble_eq_true rfl) (.inl rfl) dX9_ahead_20 (fun H locs hB => ?_)
    have hB : Bx B0 D _ [(w, .inr (9, [.int f1946_0, .ref bu, .int (nI ((κ w).2.2.1)), .int (nI tl), .int (nI (p + 1)), .int er, .int f1946_6, .int f1946_7, .ref (κ w).2.2.2, .ref f1946_9, .ref dr, .ref f1946_11, .int (nI f1946_12), .int f1946_13, .int ns, .int f1946_15, .int f1946_16, .ref f1946_17]))] [w] _ _ := hB
    refine lv_goto (tgt := 0) hx hb dX9_ahead_23 (by decide) ?_
    have hT : WT B0 D cs T κ _ := hT.close hB ⟨⟨0, _, rfl, ok_10 hw.1 ⟨_, _, _, _, _, _, _, _, _, _, _, _, _, _, _, _, rfl, (by omega), (by omega), (by omega), (by omega), hbT, t1946_8, t1946_9, c1946_sd, hdT, t1946_11, t1946_17⟩⟩, trivial⟩
    have hF : Fr B0 [12] κ H0 _ := hF.close hB (fa_c (by simp [hw.2]) fa_n)
    have hL : OkL B0 _ := hB.2.2.2.2.2
    have hP : va_P D vwCl [(w, .inr (9, [.int f1946_0, .ref bu, .int (nI ((κ w).2.2.1)), .int (nI tl), .int (nI (p + 1)), .int er, .int f1946_6, .int f1946_7, .ref (κ w).2.2.2, .ref f1946_9, .ref dr, .ref f1946_11, .int (nI f1946_12), .int f1946_13, .int ns, .int f1946_15, .int f1946_16, .ref f1946_17]))] _ := hB.1
    have hbu9 := (hm.2.2.2.2.2.2.1).kept (hB.2.2.2.1 _ hm.2.2.2.2.2.2.1.lt (by simp only [List.mem_cons, List.not_mem_nil, or_false, not_or]; exact ne_c hbT.1 hw.1 (by decide)))
    have hm : MF D cs w _ ((p + 1)) (tl) (er) (ns) dr bu g := ⟨⟨_, hP 0 _ rfl, rfl⟩, ⟨_, hP 0 _ rfl, rfl⟩, ⟨_, hP 0 _ rfl, rfl⟩, ⟨_, hP 0 _ rfl, rfl⟩, ⟨_, hP 0 _ rfl, rfl⟩, ⟨_, hP 0 _ rfl, rfl⟩, hbu9, (by omega), (by omega)⟩
    exact ih1945 (p + 1) _ _ _ (by show 600 - ((p + 1)) < 600 - p; omega) ⟨(by show pos ≤ ((p + 1)); omega), hm, (fun e9 => absurd (by rw [← hs e9]; exact h32) e9), hT, hF, hL⟩ (lv_sub hl [0] rfl)
set_option maxHeartbeats 4000000 in
set_option maxRecDepth 100000 in
theorem c_X9_isDigit {l : Launch} {D : va_G} {cs : Nat → ClassId} {B0 T : Nat} {κ : KM} {H0 : Heap} (hT : WT B0 D cs T κ H0) {x : Int32} : KC l yX9_isDigit wsX9_isDigit 1 22 0 0 D cs B0 H0 [.int x] (Qi (fun r H => H = H0 ∧ ((r = 0 ∧ (x < 48 ∨ 57 < x)) ∨ (r = 1 ∧ ¬ x < 48 ∧ ¬ 57 < x)))) := by
  refine KC.of cX9_isDigit 1 (some .boolean) (by decide) rfl (Nat.le_of_ble_eq_true rfl) ?_
  intro p e s m below meth c ls hx hb hr hml hown hts hlocks hin hN hE hH0 hl
  have hown : s.vm.findClass RX9 = some m.cls := hown
  have hl : lv_has ls 1 [(0, .int x)] := hl
  have hL : OkL B0 [] := OkL.nil
  refine lv_iload_n hx hb dX9_isDigit_0 rfl (lv_at hl 0 rfl) ?_
  refine lv_bipush (v := 48) hx hb dX9_isDigit_1 (by decide) ?_
  refine lv_bipush (v := 57) hx hb dX9_isDigit_3 (by decide) ?_
  refine cs_i (As := [.int x, .int 48, .int 57]) (rest := []) ⟨hx, hb, hml, hown, hts⟩ (c_X9_in hT (x := x) (y := 48) (z := 57)) (va_cwS 3 hts gX9_isDigit_X9_in rfl rfl rfl hdX9_in_o ⟨Nat.le_of_ble_eq_true rfl, Nat.le_of_ble_eq_true rfl⟩) hN hE hL rfl rfl hl.1 (Nat.le_of_ble_eq_true rfl) dX9_isDigit_5 (Nat.zero_le _) (Nat.zero_le _) (fun r1950 H1 locs hL hqr1950 => ?_)
  obtain ⟨h9, hqr1950⟩ := hqr1950; replace h9 := h9.symm; subst h9
  rcases hqr1950 with ⟨rfl, o1951⟩ | ⟨rfl, l1952, g1953⟩
  · exact en_i hx hb hr hlocks hL rfl (Nat.zero_le _) (Nat.zero_le _) dX9_isDigit_8 (⟨rfl, Or.inl ⟨rfl, o1951⟩⟩)
  · exact en_i hx hb hr hlocks hL rfl (Nat.zero_le _) (Nat.zero_le _) dX9_isDigit_8 (⟨rfl, Or.inr ⟨rfl, l1952, g1953⟩⟩)
theorem hdX9_isGood_v : yX9_isGood.cls = RX9 ∧ yX9_isGood.cls ≠ "java/lang/invoke/MethodHandle" ∧ yX9_isGood.cls ≠ "java/lang/invoke/VarHandle" ∧ (parseMethodDescriptor yX9_isGood.desc).map (fun d => d.parameters.length) = some 0 := by decide +kernel
theorem hdX9_ahead_v : yX9_ahead.cls = RX9 ∧ yX9_ahead.cls ≠ "java/lang/invoke/MethodHandle" ∧ yX9_ahead.cls ≠ "java/lang/invoke/VarHandle" ∧ (parseMethodDescriptor yX9_ahead.desc).map (fun d => d.parameters.length) = some 0 := by decide +kernel
theorem mX9_takeWord_1 : (.fieldLink RX9 53 "OneBeatModel" "position" "I" : Cond) ∈ wsX9_takeWord := List.mem_of_getElem? (i := 1) (by decide +kernel)
theorem iX9_takeWord_9 : ∀ w ∈ wsX90, w ∈ wsX9_takeWord := fun w h => List.mem_of_mem_drop (List.mem_of_mem_take ((show wsX90 = (wsX9_takeWord.drop 70).take 18 by decide +kernel) ▸ h))
set_option maxHeartbeats 4000000 in
set_option maxRecDepth 100000 in
theorem c_X9_takeWord {l : Launch} {D : va_G} {cs : Nat → ClassId} {B0 T : Nat} {κ : KM} {H0 : Heap} (hT : WT B0 D cs T κ H0) {w : Nat} (hw : T2 κ w 10 12) {i : Nat} (hi9 : i ∈ nW) {pos tl : Nat} {er ns : Int32} {dr bu : Nat} {g : Nat → Int32} (hbT : T2 κ bu 23 14) (hdT : T2 κ dr 26 17) (hm : MF D cs w H0 pos tl er ns dr bu g) : KC l yX9_takeWord wsX9_takeWord 4 85 0 0 D cs B0 H0 [.ref w, .ref (cs (100 + i))] (Qi (fun r H => WT B0 D cs T κ H ∧ Fr B0 [12] κ H0 H ∧ ((r = 0 ∧ ∃ pos1, pos ≤ pos1 ∧ MF D cs w H pos1 tl er ns dr bu g) ∨ (r = 1 ∧ ∃ pos1, pos + 1 ≤ pos1 ∧ er = 0 ∧ MF D cs w H pos1 tl er ns dr bu g)))) := by
  refine KC.of cX9_takeWord 3 (some .boolean) (by decide) rfl (Nat.le_of_ble_eq_true rfl) ?_
  intro p e s m below meth c ls hx hb hr hml hown hts hlocks hin hN hE hH0 hl
  have hown : s.vm.findClass RX9 = some m.cls := hown
  have hl : lv_has ls 3 [(0, .ref w), (1, .ref (cs (100 + i)))] := hl
  have hL : OkL B0 [] := OkL.nil
  have hF : Fr B0 [12] κ H0 H0 := Fr.rf
  have hm8 := hm.2.2.2.2.2.2.2
  refine lv_aload_n hx hb dX9_takeWord_0 rfl (lv_at hl 0 rfl) ?_
  refine cv_i (As := []) (rest := []) (b := w) ⟨hx, hb, hml, hown, hts⟩ (c_X9_isGood hT (w := w) hw hbT hdT hm) (cwV 0 hts gX9_takeWord_X9_isGood rfl rfl rfl hdX9_isGood_v ⟨Nat.le_of_ble_eq_true rfl, Nat.le_of_ble_eq_true rfl⟩) hN hE hL (rcv10 hN hT hw.1) rfl rfl hl.1 (Nat.le_of_ble_eq_true rfl) dX9_takeWord_1 (Nat.zero_le _) (Nat.zero_le _) (fun r1954 H1 locs hL hqr1954 => ?_)
  obtain ⟨h9, hqr1954⟩ := hqr1954; replace h9 := h9.symm; subst h9
  rcases hqr1954 with ⟨rfl, e1955⟩ | ⟨rfl, e1956⟩
  · refine lv_if_ne (tgt := 9) hx hb dX9_takeWord_4 (by decide) (fun _ => ?_) (fun c9 => absurd c9 (by decide))
    refine lv_aload_n hx hb dX9_takeWord_9 rfl (lv_at hl 0 rfl) ?_
    refine cv_i (As := []) (rest := []) (b := w) ⟨hx, hb, hml, hown, hts⟩ (c_X9_ahead hT (w := w) hw hbT hdT hm) (cwV 0 hts gX9_takeWord_X9_ahead rfl rfl rfl hdX9_ahead_v ⟨Nat.le_of_ble_eq_true rfl, Nat.le_of_ble_eq_true rfl⟩) hN hE hL (rcv10 hN hT hw.1) rfl rfl hl.1 (Nat.le_of_ble_eq_true rfl) dX9_takeWord_10 (Nat.zero_le _) (Nat.zero_le _) (fun r1957 H1 locs hL hqr1957 => ?_)
    obtain ⟨hT1, hF1, hqr1957⟩ := hqr1957
    have hF := hF.tr (hF1.mono (by simp))
    have hT := hT1
    obtain ⟨p1958, h1959, m1960, n1961, s1962, rfl⟩ := hqr1957
    have hm := m1960
    have hm8 := hm.2.2.2.2.2.2.2
    have hn1 := nT_pos _ hi9
    refine lv_pop hx hb dX9_takeWord_13 rfl ?_
    refine lv_iconst (v := 0) hx hb dX9_takeWord_14 (by decide) ?_
    refine lv_istore_n (lv' := [(2, .int 0), (0, .ref w), (1, .ref (cs (100 + i)))]) hx hb dX9_takeWord_15 rfl hl (by decide) rfl (fun ls hl => ?_)
    refine lp_r (B0 := B0) (α := Nat) (nL := 3) (fun a9 => 8 - a9) (fun a9 => (a9 ≤ nT i ∧ p1958 + a9 ≤ tl)) (fun a9 => [(2, .int (nI a9)), (0, .ref w), (1, .ref (cs (100 + i)))]) ?_ 0 _ _ (by show (0) ≤ nT i ∧ p1958 + (0) ≤ tl; omega) hL (lv_sub hl [0, 1, 2] rfl)
    rintro k locs ls ih1963 hk hL hl
    have hl : lv_has ls 3 [(2, .int (nI k)), (0, .ref w), (1, .ref (cs (100 + i)))] := hl
    have hk : k ≤ nT i ∧ p1958 + k ≤ tl := hk
    refine lv_iload_n hx hb dX9_takeWord_16 rfl (lv_at hl 0 rfl) ?_
    refine lv_aload_n hx hb dX9_takeWord_17 rfl (lv_at hl 2 rfl) ?_
    refine W.old hL (fun hold => ?_)
    refine cv_i (As := []) (rest := [.int (nI k)]) (b := (cs (100 + i))) ⟨hx, hb, hml, hown, hts⟩ (c_J0_length_8abf5 hT (i := i) hi9) (cwV 0 hts gX9_takeWord_J0_length_8abf5 rfl rfl rfl hdJ0_length_8abf5_v ⟨Nat.le_of_ble_eq_true rfl, Nat.le_of_ble_eq_true rfl⟩) hN hE hL (sx_rec (hE.2.1 _ hi9) hold) rfl rfl hl.1 (Nat.le_of_ble_eq_true rfl) dX9_takeWord_18 (Nat.zero_le _) (Nat.zero_le _) (fun r1964 H1 locs hL hqr1964 => ?_)
    obtain ⟨h9, hqr1964⟩ := hqr1964; replace h9 := h9.symm; subst h9
    obtain rfl := hqr1964
    have hn9 := nT_le _ hi9
    refine lv_icmp_ge (tgt := 48) hx hb dX9_takeWord_21 (by decide) (fun c1965 => ?_) (fun c1965 => ?_)
    · have c1965 : (nT i) ≤ k := (nI_leI (a := (nT i)) (b := k) (by omega) (by omega)).mp c1965
      refine lv_iload_n hx hb dX9_takeWord_48 rfl (lv_at hl 0 rfl) ?_
      refine lv_aload_n hx hb dX9_takeWord_49 rfl (lv_at hl 2 rfl) ?_
      refine W.old hL (fun hold => ?_)
      refine cv_i (As := []) (rest := [.int (nI k)]) (b := (cs (100 + i))) ⟨hx, hb, hml, hown, hts⟩ (c_J0_length_8abf5 hT (i := i) hi9) (cwV 0 hts gX9_takeWord_J0_length_8abf5 rfl rfl rfl hdJ0_length_8abf5_v ⟨Nat.le_of_ble_eq_true rfl, Nat.le_of_ble_eq_true rfl⟩) hN hE hL (sx_rec (hE.2.1 _ hi9) hold) rfl rfl hl.1 (Nat.le_of_ble_eq_true rfl) dX9_takeWord_50 (Nat.zero_le _) (Nat.zero_le _) (fun r1966 H1 locs hL hqr1966 => ?_)
      obtain ⟨h9, hqr1966⟩ := hqr1966; replace h9 := h9.symm; subst h9
      obtain rfl := hqr1966
      have hn9 := nT_le _ hi9
      refine lv_icmp_lt (tgt := 76) hx hb dX9_takeWord_53 (by decide) (fun c1967 => ?_) (fun c1967 => ?_)
      · have c1967 : k < (nT i) := (nI_ltI (a := k) (b := (nT i)) (by omega) (by omega)).mp c1967
        refine lv_iconst (v := 0) hx hb dX9_takeWord_76 (by decide) ?_
        exact en_i hx hb hr hlocks hL rfl (Nat.zero_le _) (Nat.zero_le _) dX9_takeWord_77 (⟨hT, hF, Or.inl ⟨rfl, p1958, (by omega), hm⟩⟩)
      · have c1967 : ¬ k < (nT i) := fun h9 => c1967 ((nI_ltI (a := k) (b := (nT i)) (by omega) (by omega)).mpr h9)
        refine lv_aload_n hx hb dX9_takeWord_56 rfl (lv_at hl 1 rfl) ?_
        refine lv_aload_n hx hb dX9_takeWord_57 rfl (lv_at hl 1 rfl) ?_
        obtain ⟨hb1968, e1968, hat1968, hk1968⟩ := hT.o10 hw.1
        obtain ⟨f1968_0, f1968_1, f1968_3, f1968_4, f1968_5, f1968_6, f1968_7, f1968_9, f1968_10, f1968_11, f1968_12, f1968_13, f1968_14, f1968_15, f1968_16, f1968_17, rfl, c1968_2, c1968_3, c1968_4, c1968_12, t1968_1, t1968_8, t1968_9, c1968_sd, t1968_10, t1968_11, t1968_17⟩ := hk1968
        obtain ⟨rfl, rfl, rfl, rfl, rfl, rfl⟩ := hm.at hat1968 c1968_3 (by omega)
        have hm8 := hm.2.2.2.2.2.2.2
        have hP : va_P D vwCl [(w, .inr (9, [.int f1968_0, .ref bu, .int (nI ((κ w).2.2.1)), .int (nI tl), .int (nI p1958), .int er, .int f1968_6, .int f1968_7, .ref (κ w).2.2.2, .ref f1968_9, .ref dr, .ref f1968_11, .int (nI f1968_12), .int f1968_13, .int ns, .int f1968_15, .int f1968_16, .ref f1968_17]))] _ := va_P.cons hat1968 va_P.nil
        refine va_get (D := D) (ci := 9) (v := .int (nI p1958)) (C := RX9) (T := TX9) (N := 18) hx hb hts iX9_takeWord_9 hown hN.1 hP 0 rfl rfl 4 (by decide) (hts _ mX9_takeWord_1) (fun _ h9 => h9) rfl dX9_takeWord_58 ?_
        refine lv_iload_n hx hb dX9_takeWord_61 rfl (lv_at hl 0 rfl) ?_
        refine lv_iadd hx hb dX9_takeWord_62 ?_
        refine tp_i (nI (p1958 + k)) (nI_add p1958 k) ?_
        refine cv_i (As := [.int (nI (p1958 + k))]) (rest := []) (b := w) ⟨hx, hb, hml, hown, hts⟩ (c_X9_byteAt hT (w := w) hw (n := (p1958 + k)) hbT hdT hm (by first | omega | decide | assumption)) (cwV 1 hts gX9_takeWord_X9_byteAt rfl rfl rfl hdX9_byteAt_v ⟨Nat.le_of_ble_eq_true rfl, Nat.le_of_ble_eq_true rfl⟩) hN hE hL (rcv10 hN hT hw.1) rfl rfl hl.1 (Nat.le_of_ble_eq_true rfl) dX9_takeWord_63 (Nat.zero_le _) (Nat.zero_le _) (fun r1969 H1 locs hL hqr1969 => ?_)
        obtain ⟨h9, hqr1969⟩ := hqr1969; replace h9 := h9.symm; subst h9
        obtain rfl := hqr1969
        refine lv_bipush (v := 97) hx hb dX9_takeWord_66 (by decide) ?_
        refine lv_bipush (v := 122) hx hb dX9_takeWord_68 (by decide) ?_
        refine cs_i (As := [.int (byF g tl (p1958 + k)), .int 97, .int 122]) (rest := []) ⟨hx, hb, hml, hown, hts⟩ (c_X9_in hT (x := (byF g tl (p1958 + k))) (y := 97) (z := 122)) (va_cwS 3 hts gX9_takeWord_X9_in rfl rfl rfl hdX9_in_o ⟨Nat.le_of_ble_eq_true rfl, Nat.le_of_ble_eq_true rfl⟩) hN hE hL rfl rfl hl.1 (Nat.le_of_ble_eq_true rfl) dX9_takeWord_70 (Nat.zero_le _) (Nat.zero_le _) (fun r1970 H1 locs hL hqr1970 => ?_)
        obtain ⟨h9, hqr1970⟩ := hqr1970; replace h9 := h9.symm; subst h9
        rcases hqr1970 with ⟨rfl, o1971⟩ | ⟨rfl, l1972, g1973⟩
        · refine lv_if_eq (tgt := 78) hx hb dX9_takeWord_73 (by decide) (fun _ => ?_) (fun c9 => absurd (by decide) c9)
          refine lv_aload_n hx hb dX9_takeWord_78 rfl (lv_at hl 1 rfl) ?_
          refine lv_dup hx hb dX9_takeWord_79 rfl ?_
          refine va_get (D := D) (ci := 9) (v := .int (nI p1958)) (C := RX9) (T := TX9) (N := 18) hx hb hts iX9_takeWord_9 hown hN.1 hP 0 rfl rfl 4 (by decide) (hts _ mX9_takeWord_1) (fun _ h9 => h9) rfl dX9_takeWord_80 ?_
          refine lv_iload_n hx hb dX9_takeWord_83 rfl (lv_at hl 0 rfl) ?_
          refine lv_iadd hx hb dX9_takeWord_84 ?_
          refine tp_i (nI (p1958 + k)) (nI_add p1958 k) ?_
          have hB : Bx B0 D _ [(w, .inr (9, [.int f1968_0, .ref bu, .int (nI ((κ w).2.2.1)), .int (nI tl), .int (nI p1958), .int er, .int f1968_6, .int f1968_7, .ref (κ w).2.2.2, .ref f1968_9, .ref dr, .ref f1968_11, .int (nI f1968_12), .int f1968_13, .int ns, .int f1968_15, .int f1968_16, .ref f1968_17]))] [] _ _ := Bx.of (fun a => (κ a).1) hL hP (fa_c hb1968 fa_n) (by simp only [List.map_cons, List.map_nil, hw.1]; decide)
          refine b_put (D := D) (ci := 9) (v := .int (nI (p1958 + k))) (ty := .int) (C := RX9) (T := TX9) (N := 18) hx hb hts iX9_takeWord_9 tyX9 tyX9_ok nmX9 hown hN hB 0 rfl rfl 4 (by decide) (hts _ mX9_takeWord_1) (fun _ h9 => h9) rfl (by decide +kernel) rfl rfl (Nat.le_of_ble_eq_true rfl) (.inl rfl) dX9_takeWord_85 (fun H locs hB => ?_)
          have hB : Bx B0 D _ [(w, .inr (9, [.int f1968_0, .ref bu, .int (nI ((κ w).2.2.1)), .int (nI tl), .int (nI (p1958 + k)), .int er, .int f1968_6, .int f1968_7, .ref (κ w).2.2.2, .ref f1968_9, .ref dr, .ref f1968_11, .int (nI f1968_12), .int f1968_13, .int ns, .int f1968_15, .int f1968_16, .ref f1968_17]))] [w] _ _ := hB
          refine lv_iconst (v := 1) hx hb dX9_takeWord_88 (by decide) ?_
          have hT : WT B0 D cs T κ _ := hT.close hB ⟨⟨0, _, rfl, ok_10 hw.1 ⟨_, _, _, _, _, _, _, _, _, _, _, _, _, _, _, _, rfl, (by omega), (by omega), (by omega), (by omega), hbT, t1968_8, t1968_9, c1968_sd, hdT, t1968_11, t1968_17⟩⟩, trivial⟩
          have hF : Fr B0 [12] κ H0 _ := hF.close hB (fa_c (by simp [hw.2]) fa_n)
          have hL : OkL B0 _ := hB.2.2.2.2.2
          have hP : va_P D vwCl [(w, .inr (9, [.int f1968_0, .ref bu, .int (nI ((κ w).2.2.1)), .int (nI tl), .int (nI (p1958 + k)), .int er, .int f1968_6, .int f1968_7, .ref (κ w).2.2.2, .ref f1968_9, .ref dr, .ref f1968_11, .int (nI f1968_12), .int f1968_13, .int ns, .int f1968_15, .int f1968_16, .ref f1968_17]))] _ := hB.1
          have hbu9 := (hm.2.2.2.2.2.2.1).kept (hB.2.2.2.1 _ hm.2.2.2.2.2.2.1.lt (by simp only [List.mem_cons, List.not_mem_nil, or_false, not_or]; exact ne_c hbT.1 hw.1 (by decide)))
          have hm : MF D cs w _ ((p1958 + k)) (tl) (er) (ns) dr bu g := ⟨⟨_, hP 0 _ rfl, rfl⟩, ⟨_, hP 0 _ rfl, rfl⟩, ⟨_, hP 0 _ rfl, rfl⟩, ⟨_, hP 0 _ rfl, rfl⟩, ⟨_, hP 0 _ rfl, rfl⟩, ⟨_, hP 0 _ rfl, rfl⟩, hbu9, (by omega), (by omega)⟩
          exact en_i hx hb hr hlocks hL rfl (Nat.zero_le _) (Nat.zero_le _) dX9_takeWord_89 (⟨hT, hF, Or.inr ⟨rfl, (p1958 + k), (by omega), e1955, hm⟩⟩)
        · refine lv_if_eq (tgt := 78) hx hb dX9_takeWord_73 (by decide) (fun c9 => absurd c9 (by decide)) (fun _ => ?_)
          refine lv_iconst (v := 0) hx hb dX9_takeWord_76 (by decide) ?_
          exact en_i hx hb hr hlocks hL rfl (Nat.zero_le _) (Nat.zero_le _) dX9_takeWord_77 (⟨hT, hF, Or.inl ⟨rfl, p1958, (by omega), hm⟩⟩)
    · have c1965 : ¬ (nT i) ≤ k := fun h9 => c1965 ((nI_leI (a := (nT i)) (b := k) (by omega) (by omega)).mpr h9)
      refine lv_aload_n hx hb dX9_takeWord_24 rfl (lv_at hl 1 rfl) ?_
      refine lv_aload_n hx hb dX9_takeWord_25 rfl (lv_at hl 1 rfl) ?_
      obtain ⟨hb1974, e1974, hat1974, hk1974⟩ := hT.o10 hw.1
      obtain ⟨f1974_0, f1974_1, f1974_3, f1974_4, f1974_5, f1974_6, f1974_7, f1974_9, f1974_10, f1974_11, f1974_12, f1974_13, f1974_14, f1974_15, f1974_16, f1974_17, rfl, c1974_2, c1974_3, c1974_4, c1974_12, t1974_1, t1974_8, t1974_9, c1974_sd, t1974_10, t1974_11, t1974_17⟩ := hk1974
      obtain ⟨rfl, rfl, rfl, rfl, rfl, rfl⟩ := hm.at hat1974 c1974_3 (by omega)
      have hm8 := hm.2.2.2.2.2.2.2
      have hP : va_P D vwCl [(w, .inr (9, [.int f1974_0, .ref bu, .int (nI ((κ w).2.2.1)), .int (nI tl), .int (nI p1958), .int er, .int f1974_6, .int f1974_7, .ref (κ w).2.2.2, .ref f1974_9, .ref dr, .ref f1974_11, .int (nI f1974_12), .int f1974_13, .int ns, .int f1974_15, .int f1974_16, .ref f1974_17]))] _ := va_P.cons hat1974 va_P.nil
      refine va_get (D := D) (ci := 9) (v := .int (nI p1958)) (C := RX9) (T := TX9) (N := 18) hx hb hts iX9_takeWord_9 hown hN.1 hP 0 rfl rfl 4 (by decide) (hts _ mX9_takeWord_1) (fun _ h9 => h9) rfl dX9_takeWord_26 ?_
      refine lv_iload_n hx hb dX9_takeWord_29 rfl (lv_at hl 0 rfl) ?_
      refine lv_iadd hx hb dX9_takeWord_30 ?_
      refine tp_i (nI (p1958 + k)) (nI_add p1958 k) ?_
      refine cv_i (As := [.int (nI (p1958 + k))]) (rest := []) (b := w) ⟨hx, hb, hml, hown, hts⟩ (c_X9_byteAt hT (w := w) hw (n := (p1958 + k)) hbT hdT hm (by first | omega | decide | assumption)) (cwV 1 hts gX9_takeWord_X9_byteAt rfl rfl rfl hdX9_byteAt_v ⟨Nat.le_of_ble_eq_true rfl, Nat.le_of_ble_eq_true rfl⟩) hN hE hL (rcv10 hN hT hw.1) rfl rfl hl.1 (Nat.le_of_ble_eq_true rfl) dX9_takeWord_31 (Nat.zero_le _) (Nat.zero_le _) (fun r1975 H1 locs hL hqr1975 => ?_)
      obtain ⟨h9, hqr1975⟩ := hqr1975; replace h9 := h9.symm; subst h9
      obtain rfl := hqr1975
      refine lv_aload_n hx hb dX9_takeWord_34 rfl (lv_at hl 2 rfl) ?_
      refine lv_iload_n hx hb dX9_takeWord_35 rfl (lv_at hl 0 rfl) ?_
      refine W.old hL (fun hold => ?_)
      refine cv_i (As := [.int (nI k)]) (rest := [.int (byF g tl (p1958 + k))]) (b := (cs (100 + i))) ⟨hx, hb, hml, hown, hts⟩ (c_J0_charAt_5068e hT (i := i) hi9 (k := k) (by first | omega | decide | assumption)) (cwV 1 hts gX9_takeWord_J0_charAt_5068e rfl rfl rfl hdJ0_charAt_5068e_v ⟨Nat.le_of_ble_eq_true rfl, Nat.le_of_ble_eq_true rfl⟩) hN hE hL (sx_rec (hE.2.1 _ hi9) hold) rfl rfl hl.1 (Nat.le_of_ble_eq_true rfl) dX9_takeWord_36 (Nat.zero_le _) (Nat.zero_le _) (fun r1976 H1 locs hL hqr1976 => ?_)
      obtain ⟨h9, hqr1976⟩ := hqr1976; replace h9 := h9.symm; subst h9
      obtain ⟨n1977, h1978, rfl⟩ := hqr1976
      refine lv_icmp_ne (tgt := 48) hx hb dX9_takeWord_39 (by decide) (fun c1979 => ?_) (fun c1979 => ?_)
      · refine lv_iload_n hx hb dX9_takeWord_48 rfl (lv_at hl 0 rfl) ?_
        refine lv_aload_n hx hb dX9_takeWord_49 rfl (lv_at hl 2 rfl) ?_
        refine W.old hL (fun hold => ?_)
        refine cv_i (As := []) (rest := [.int (nI k)]) (b := (cs (100 + i))) ⟨hx, hb, hml, hown, hts⟩ (c_J0_length_8abf5 hT (i := i) hi9) (cwV 0 hts gX9_takeWord_J0_length_8abf5 rfl rfl rfl hdJ0_length_8abf5_v ⟨Nat.le_of_ble_eq_true rfl, Nat.le_of_ble_eq_true rfl⟩) hN hE hL (sx_rec (hE.2.1 _ hi9) hold) rfl rfl hl.1 (Nat.le_of_ble_eq_true rfl) dX9_takeWord_50 (Nat.zero_le _) (Nat.zero_le _) (fun r1980 H1 locs hL hqr1980 => ?_)
        obtain ⟨h9, hqr1980⟩ := hqr1980; replace h9 := h9.symm; subst h9
        obtain rfl := hqr1980
        have hn9 := nT_le _ hi9
        refine lv_icmp_lt (tgt := 76) hx hb dX9_takeWord_53 (by decide) (fun c1981 => ?_) (fun c1981 => ?_)
        · have c1981 : k < (nT i) := (nI_ltI (a := k) (b := (nT i)) (by omega) (by omega)).mp c1981
          refine lv_iconst (v := 0) hx hb dX9_takeWord_76 (by decide) ?_
          exact en_i hx hb hr hlocks hL rfl (Nat.zero_le _) (Nat.zero_le _) dX9_takeWord_77 (⟨hT, hF, Or.inl ⟨rfl, p1958, (by omega), hm⟩⟩)
        · have c1981 : ¬ k < (nT i) := fun h9 => c1981 ((nI_ltI (a := k) (b := (nT i)) (by omega) (by omega)).mpr h9)
          refine lv_aload_n hx hb dX9_takeWord_56 rfl (lv_at hl 1 rfl) ?_
          refine lv_aload_n hx hb dX9_takeWord_57 rfl (lv_at hl 1 rfl) ?_
          refine va_get (D := D) (ci := 9) (v := .int (nI p1958)) (C := RX9) (T := TX9) (N := 18) hx hb hts iX9_takeWord_9 hown hN.1 hP 0 rfl rfl 4 (by decide) (hts _ mX9_takeWord_1) (fun _ h9 => h9) rfl dX9_takeWord_58 ?_
          refine lv_iload_n hx hb dX9_takeWord_61 rfl (lv_at hl 0 rfl) ?_
          refine lv_iadd hx hb dX9_takeWord_62 ?_
          refine tp_i (nI (p1958 + k)) (nI_add p1958 k) ?_
          refine cv_i (As := [.int (nI (p1958 + k))]) (rest := []) (b := w) ⟨hx, hb, hml, hown, hts⟩ (c_X9_byteAt hT (w := w) hw (n := (p1958 + k)) hbT hdT hm (by first | omega | decide | assumption)) (cwV 1 hts gX9_takeWord_X9_byteAt rfl rfl rfl hdX9_byteAt_v ⟨Nat.le_of_ble_eq_true rfl, Nat.le_of_ble_eq_true rfl⟩) hN hE hL (rcv10 hN hT hw.1) rfl rfl hl.1 (Nat.le_of_ble_eq_true rfl) dX9_takeWord_63 (Nat.zero_le _) (Nat.zero_le _) (fun r1982 H1 locs hL hqr1982 => ?_)
          obtain ⟨h9, hqr1982⟩ := hqr1982; replace h9 := h9.symm; subst h9
          obtain rfl := hqr1982
          refine lv_bipush (v := 97) hx hb dX9_takeWord_66 (by decide) ?_
          refine lv_bipush (v := 122) hx hb dX9_takeWord_68 (by decide) ?_
          refine cs_i (As := [.int (byF g tl (p1958 + k)), .int 97, .int 122]) (rest := []) ⟨hx, hb, hml, hown, hts⟩ (c_X9_in hT (x := (byF g tl (p1958 + k))) (y := 97) (z := 122)) (va_cwS 3 hts gX9_takeWord_X9_in rfl rfl rfl hdX9_in_o ⟨Nat.le_of_ble_eq_true rfl, Nat.le_of_ble_eq_true rfl⟩) hN hE hL rfl rfl hl.1 (Nat.le_of_ble_eq_true rfl) dX9_takeWord_70 (Nat.zero_le _) (Nat.zero_le _) (fun r1983 H1 locs hL hqr1983 => ?_)
          obtain ⟨h9, hqr1983⟩ := hqr1983; replace h9 := h9.symm; subst h9
          rcases hqr1983 with ⟨rfl, o1984⟩ | ⟨rfl, l1985, g1986⟩
          · refine lv_if_eq (tgt := 78) hx hb dX9_takeWord_73 (by decide) (fun _ => ?_) (fun c9 => absurd (by decide) c9)
            refine lv_aload_n hx hb dX9_takeWord_78 rfl (lv_at hl 1 rfl) ?_
            refine lv_dup hx hb dX9_takeWord_79 rfl ?_
            refine va_get (D := D) (ci := 9) (v := .int (nI p1958)) (C := RX9) (T := TX9) (N := 18) hx hb hts iX9_takeWord_9 hown hN.1 hP 0 rfl rfl 4 (by decide) (hts _ mX9_takeWord_1) (fun _ h9 => h9) rfl dX9_takeWord_80 ?_
            refine lv_iload_n hx hb dX9_takeWord_83 rfl (lv_at hl 0 rfl) ?_
            refine lv_iadd hx hb dX9_takeWord_84 ?_
            refine tp_i (nI (p1958 + k)) (nI_add p1958 k) ?_
            have hB : Bx B0 D _ [(w, .inr (9, [.int f1974_0, .ref bu, .int (nI ((κ w).2.2.1)), .int (nI tl), .int (nI p1958), .int er, .int f1974_6, .int f1974_7, .ref (κ w).2.2.2, .ref f1974_9, .ref dr, .ref f1974_11, .int (nI f1974_12), .int f1974_13, .int ns, .int f1974_15, .int f1974_16, .ref f1974_17]))] [] _ _ := Bx.of (fun a => (κ a).1) hL hP (fa_c hb1974 fa_n) (by simp only [List.map_cons, List.map_nil, hw.1]; decide)
            refine b_put (D := D) (ci := 9) (v := .int (nI (p1958 + k))) (ty := .int) (C := RX9) (T := TX9) (N := 18) hx hb hts iX9_takeWord_9 tyX9 tyX9_ok nmX9 hown hN hB 0 rfl rfl 4 (by decide) (hts _ mX9_takeWord_1) (fun _ h9 => h9) rfl (by decide +kernel) rfl rfl (Nat.le_of_ble_eq_true rfl) (.inl rfl) dX9_takeWord_85 (fun H locs hB => ?_)
            have hB : Bx B0 D _ [(w, .inr (9, [.int f1974_0, .ref bu, .int (nI ((κ w).2.2.1)), .int (nI tl), .int (nI (p1958 + k)), .int er, .int f1974_6, .int f1974_7, .ref (κ w).2.2.2, .ref f1974_9, .ref dr, .ref f1974_11, .int (nI f1974_12), .int f1974_13, .int ns, .int f1974_15, .int f1974_16, .ref f1974_17]))] [w] _ _ := hB
            refine lv_iconst (v := 1) hx hb dX9_takeWord_88 (by decide) ?_
            have hT : WT B0 D cs T κ _ := hT.close hB ⟨⟨0, _, rfl, ok_10 hw.1 ⟨_, _, _, _, _, _, _, _, _, _, _, _, _, _, _, _, rfl, (by omega), (by omega), (by omega), (by omega), hbT, t1974_8, t1974_9, c1974_sd, hdT, t1974_11, t1974_17⟩⟩, trivial⟩
            have hF : Fr B0 [12] κ H0 _ := hF.close hB (fa_c (by simp [hw.2]) fa_n)
            have hL : OkL B0 _ := hB.2.2.2.2.2
            have hP : va_P D vwCl [(w, .inr (9, [.int f1974_0, .ref bu, .int (nI ((κ w).2.2.1)), .int (nI tl), .int (nI (p1958 + k)), .int er, .int f1974_6, .int f1974_7, .ref (κ w).2.2.2, .ref f1974_9, .ref dr, .ref f1974_11, .int (nI f1974_12), .int f1974_13, .int ns, .int f1974_15, .int f1974_16, .ref f1974_17]))] _ := hB.1
            have hbu9 := (hm.2.2.2.2.2.2.1).kept (hB.2.2.2.1 _ hm.2.2.2.2.2.2.1.lt (by simp only [List.mem_cons, List.not_mem_nil, or_false, not_or]; exact ne_c hbT.1 hw.1 (by decide)))
            have hm : MF D cs w _ ((p1958 + k)) (tl) (er) (ns) dr bu g := ⟨⟨_, hP 0 _ rfl, rfl⟩, ⟨_, hP 0 _ rfl, rfl⟩, ⟨_, hP 0 _ rfl, rfl⟩, ⟨_, hP 0 _ rfl, rfl⟩, ⟨_, hP 0 _ rfl, rfl⟩, ⟨_, hP 0 _ rfl, rfl⟩, hbu9, (by omega), (by omega)⟩
            exact en_i hx hb hr hlocks hL rfl (Nat.zero_le _) (Nat.zero_le _) dX9_takeWord_89 (⟨hT, hF, Or.inr ⟨rfl, (p1958 + k), (by omega), e1955, hm⟩⟩)
          · refine lv_if_eq (tgt := 78) hx hb dX9_takeWord_73 (by decide) (fun c9 => absurd c9 (by decide)) (fun _ => ?_)
            refine lv_iconst (v := 0) hx hb dX9_takeWord_76 (by decide) ?_
            exact en_i hx hb hr hlocks hL rfl (Nat.zero_le _) (Nat.zero_le _) dX9_takeWord_77 (⟨hT, hF, Or.inl ⟨rfl, p1958, (by omega), hm⟩⟩)
      · have hl9 := byF_nn (c1979) (by omega)
        refine lv_iinc (v := (nI (k + 1))) (lv' := [(2, .int (nI (k + 1))), (0, .ref w), (1, .ref (cs (100 + i)))]) hx hb dX9_takeWord_42 hl (k := 0) rfl (nI_add _ 1) (by decide) rfl (fun ls hl => ?_)
        refine lv_goto (tgt := 16) hx hb dX9_takeWord_45 (by decide) ?_
        exact ih1963 (k + 1) _ _ (by show 8 - ((k + 1)) < 8 - k; omega) (by show ((k + 1)) ≤ nT i ∧ p1958 + ((k + 1)) ≤ tl; omega) hL (lv_sub hl [0, 1, 2] rfl)
  · refine lv_if_ne (tgt := 9) hx hb dX9_takeWord_4 (by decide) (fun c9 => absurd (by decide) c9) (fun _ => ?_)
    refine lv_iconst (v := 0) hx hb dX9_takeWord_7 (by decide) ?_
    exact en_i hx hb hr hlocks hL rfl (Nat.zero_le _) (Nat.zero_le _) dX9_takeWord_8 (⟨hT, hF, Or.inl ⟨rfl, pos, (by omega), hm⟩⟩)
theorem hdX9_isDigit_o : yX9_isDigit.cls ≠ "java/lang/invoke/MethodHandle" ∧ yX9_isDigit.cls ≠ "java/lang/invoke/VarHandle" ∧ (parseMethodDescriptor yX9_isDigit.desc).map (fun d => d.parameters.length) = some 1 := by decide +kernel
theorem mX9_number_1 : (.fieldLink RX9 53 "OneBeatModel" "position" "I" : Cond) ∈ wsX9_number := List.mem_of_getElem? (i := 1) (by decide +kernel)
theorem iX9_number_9 : ∀ w ∈ wsX90, w ∈ wsX9_number := fun w h => List.mem_of_mem_drop (List.mem_of_mem_take ((show wsX90 = (wsX9_number.drop 34).take 18 by decide +kernel) ▸ h))
theorem hdX9_report_v : yX9_report.cls = RX9 ∧ yX9_report.cls ≠ "java/lang/invoke/MethodHandle" ∧ yX9_report.cls ≠ "java/lang/invoke/VarHandle" ∧ (parseMethodDescriptor yX9_report.desc).map (fun d => d.parameters.length) = some 2 := by decide +kernel
theorem mX9_number_2 : (.fieldLink RX9 94 "OneBeatModel" "numberStart" "I" : Cond) ∈ wsX9_number := List.mem_of_getElem? (i := 2) (by decide +kernel)
theorem mX9_number_3 : (.constant RX9 97 (100000000) : Cond) ∈ wsX9_number := List.mem_of_getElem? (i := 3) (by decide +kernel)
set_option maxHeartbeats 4000000 in
set_option maxRecDepth 100000 in
theorem c_X9_number {l : Launch} {D : va_G} {cs : Nat → ClassId} {B0 T : Nat} {κ : KM} {H0 : Heap} (hT : WT B0 D cs T κ H0) {w : Nat} (hw : T2 κ w 10 12) {x : Int32} {y : Int32} {pos tl : Nat} {er ns : Int32} {dr bu : Nat} {g : Nat → Int32} (hbT : T2 κ bu 23 14) (hdT : T2 κ dr 26 17) (hm : MF D cs w H0 pos tl er ns dr bu g) : KC l yX9_number wsX9_number 2 42 0 0 D cs B0 H0 [.ref w, .int x, .int y] (Qi (fun r H => WT B0 D cs T κ H ∧ Fr B0 [12] κ H0 H ∧ ∃ pos1 er1, pos ≤ pos1 ∧ (er1 = 0 → er = 0 ∧ pos + 1 ≤ pos1) ∧ MF D cs w H pos1 tl er1 ns dr bu g ∧ ((r = 0 ∧ er1 ≠ 0) ∨ er1 = 0 ∧ ¬ r < x ∧ ¬ y < r))) := by
  refine KC.of cX9_number 4 (some .int) (by decide) rfl (Nat.le_of_ble_eq_true rfl) ?_
  intro p e s m below meth c ls hx hb hr hml hown hts hlocks hin hN hE hH0 hl
  have hown : s.vm.findClass RX9 = some m.cls := hown
  have hl : lv_has ls 4 [(0, .ref w), (1, .int x), (2, .int y)] := hl
  have hL : OkL B0 [] := OkL.nil
  have hF : Fr B0 [12] κ H0 H0 := Fr.rf
  have hm8 := hm.2.2.2.2.2.2.2
  refine lv_aload_n hx hb dX9_number_0 rfl (lv_at hl 0 rfl) ?_
  refine cv_i (As := []) (rest := []) (b := w) ⟨hx, hb, hml, hown, hts⟩ (c_X9_isGood hT (w := w) hw hbT hdT hm) (cwV 0 hts gX9_number_X9_isGood rfl rfl rfl hdX9_isGood_v ⟨Nat.le_of_ble_eq_true rfl, Nat.le_of_ble_eq_true rfl⟩) hN hE hL (rcv10 hN hT hw.1) rfl rfl hl.1 (Nat.le_of_ble_eq_true rfl) dX9_number_1 (Nat.zero_le _) (Nat.zero_le _) (fun r1987 H1 locs hL hqr1987 => ?_)
  obtain ⟨h9, hqr1987⟩ := hqr1987; replace h9 := h9.symm; subst h9
  rcases hqr1987 with ⟨rfl, e1988⟩ | ⟨rfl, e1989⟩
  · refine lv_if_ne (tgt := 9) hx hb dX9_number_4 (by decide) (fun _ => ?_) (fun c9 => absurd c9 (by decide))
    refine lv_aload_n hx hb dX9_number_9 rfl (lv_at hl 0 rfl) ?_
    refine cv_i (As := []) (rest := []) (b := w) ⟨hx, hb, hml, hown, hts⟩ (c_X9_ahead hT (w := w) hw hbT hdT hm) (cwV 0 hts gX9_number_X9_ahead rfl rfl rfl hdX9_ahead_v ⟨Nat.le_of_ble_eq_true rfl, Nat.le_of_ble_eq_true rfl⟩) hN hE hL (rcv10 hN hT hw.1) rfl rfl hl.1 (Nat.le_of_ble_eq_true rfl) dX9_number_10 (Nat.zero_le _) (Nat.zero_le _) (fun r1990 H1 locs hL hqr1990 => ?_)
    obtain ⟨hT1, hF1, hqr1990⟩ := hqr1990
    have hF := hF.tr (hF1.mono (by simp))
    have hT := hT1
    obtain ⟨p1991, h1992, m1993, n1994, s1995, rfl⟩ := hqr1990
    have hm := m1993
    have hm8 := hm.2.2.2.2.2.2.2
    refine cs_i (As := [.int (byF g tl p1991)]) (rest := []) ⟨hx, hb, hml, hown, hts⟩ (c_X9_isDigit hT (x := (byF g tl p1991))) (va_cwS 1 hts gX9_number_X9_isDigit rfl rfl rfl hdX9_isDigit_o ⟨Nat.le_of_ble_eq_true rfl, Nat.le_of_ble_eq_true rfl⟩) hN hE hL rfl rfl hl.1 (Nat.le_of_ble_eq_true rfl) dX9_number_13 (Nat.zero_le _) (Nat.zero_le _) (fun r1996 H1 locs hL hqr1996 => ?_)
    obtain ⟨h9, hqr1996⟩ := hqr1996; replace h9 := h9.symm; subst h9
    rcases hqr1996 with ⟨rfl, o1997⟩ | ⟨rfl, l1998, g1999⟩
    · refine lv_if_ne (tgt := 31) hx hb dX9_number_16 (by decide) (fun c9 => absurd (by decide) c9) (fun _ => ?_)
      refine lv_aload_n hx hb dX9_number_19 rfl (lv_at hl 0 rfl) ?_
      refine lv_bipush (v := (-2)) hx hb dX9_number_20 (by decide) ?_
      refine lv_aload_n hx hb dX9_number_22 rfl (lv_at hl 0 rfl) ?_
      obtain ⟨hb2000, e2000, hat2000, hk2000⟩ := hT.o10 hw.1
      obtain ⟨f2000_0, f2000_1, f2000_3, f2000_4, f2000_5, f2000_6, f2000_7, f2000_9, f2000_10, f2000_11, f2000_12, f2000_13, f2000_14, f2000_15, f2000_16, f2000_17, rfl, c2000_2, c2000_3, c2000_4, c2000_12, t2000_1, t2000_8, t2000_9, c2000_sd, t2000_10, t2000_11, t2000_17⟩ := hk2000
      obtain ⟨rfl, rfl, rfl, rfl, rfl, rfl⟩ := hm.at hat2000 c2000_3 (by omega)
      have hm8 := hm.2.2.2.2.2.2.2
      have hP : va_P D vwCl [(w, .inr (9, [.int f2000_0, .ref bu, .int (nI ((κ w).2.2.1)), .int (nI tl), .int (nI p1991), .int er, .int f2000_6, .int f2000_7, .ref (κ w).2.2.2, .ref f2000_9, .ref dr, .ref f2000_11, .int (nI f2000_12), .int f2000_13, .int ns, .int f2000_15, .int f2000_16, .ref f2000_17]))] _ := va_P.cons hat2000 va_P.nil
      refine va_get (D := D) (ci := 9) (v := .int (nI p1991)) (C := RX9) (T := TX9) (N := 18) hx hb hts iX9_number_9 hown hN.1 hP 0 rfl rfl 4 (by decide) (hts _ mX9_number_1) (fun _ h9 => h9) rfl dX9_number_23 ?_
      refine cv_v (As := [.int (-2), .int (nI p1991)]) (rest := []) (b := w) ⟨hx, hb, hml, hown, hts⟩ (c_X9_report hT (w := w) hw (x := (-2)) (y := (nI p1991)) hbT hdT hm ((by decide))) (cwV 2 hts gX9_number_X9_report rfl rfl rfl hdX9_report_v ⟨Nat.le_of_ble_eq_true rfl, Nat.le_of_ble_eq_true rfl⟩) hN hE hL (rcv10 hN hT hw.1) rfl rfl hl.1 (Nat.le_of_ble_eq_true rfl) dX9_number_26 (Nat.zero_le _) (Nat.zero_le _) (fun H1 locs hL hqr2001 => ?_)
      obtain ⟨hT1, hF1, hqr2001⟩ := hqr2001
      have hF := hF.tr (hF1.mono (by simp))
      have hT := hT1
      obtain ⟨er2002, z2003, m2004⟩ := hqr2001
      have hm := m2004
      have hm8 := hm.2.2.2.2.2.2.2
      refine lv_iconst (v := 0) hx hb dX9_number_29 (by decide) ?_
      exact en_i hx hb hr hlocks hL rfl (Nat.zero_le _) (Nat.zero_le _) dX9_number_30 (⟨hT, hF, p1991, er2002, (by omega), (fun e9 => absurd e9 z2003), hm, Or.inl ⟨rfl, z2003⟩⟩)
    · refine lv_if_ne (tgt := 31) hx hb dX9_number_16 (by decide) (fun _ => ?_) (fun c9 => absurd c9 (by decide))
      refine lv_aload_n hx hb dX9_number_31 rfl (lv_at hl 0 rfl) ?_
      refine lv_aload_n hx hb dX9_number_32 rfl (lv_at hl 0 rfl) ?_
      obtain ⟨hb2005, e2005, hat2005, hk2005⟩ := hT.o10 hw.1
      obtain ⟨f2005_0, f2005_1, f2005_3, f2005_4, f2005_5, f2005_6, f2005_7, f2005_9, f2005_10, f2005_11, f2005_12, f2005_13, f2005_14, f2005_15, f2005_16, f2005_17, rfl, c2005_2, c2005_3, c2005_4, c2005_12, t2005_1, t2005_8, t2005_9, c2005_sd, t2005_10, t2005_11, t2005_17⟩ := hk2005
      obtain ⟨rfl, rfl, rfl, rfl, rfl, rfl⟩ := hm.at hat2005 c2005_3 (by omega)
      have hm8 := hm.2.2.2.2.2.2.2
      have hP : va_P D vwCl [(w, .inr (9, [.int f2005_0, .ref bu, .int (nI ((κ w).2.2.1)), .int (nI tl), .int (nI p1991), .int er, .int f2005_6, .int f2005_7, .ref (κ w).2.2.2, .ref f2005_9, .ref dr, .ref f2005_11, .int (nI f2005_12), .int f2005_13, .int ns, .int f2005_15, .int f2005_16, .ref f2005_17]))] _ := va_P.cons hat2005 va_P.nil
      refine va_get (D := D) (ci := 9) (v := .int (nI p1991)) (C := RX9) (T := TX9) (N := 18) hx hb hts iX9_number_9 hown hN.1 hP 0 rfl rfl 4 (by decide) (hts _ mX9_number_1) (fun _ h9 => h9) rfl dX9_number_33 ?_
      have hB : Bx B0 D _ [(w, .inr (9, [.int f2005_0, .ref bu, .int (nI ((κ w).2.2.1)), .int (nI tl), .int (nI p1991), .int er, .int f2005_6, .int f2005_7, .ref (κ w).2.2.2, .ref f2005_9, .ref dr, .ref f2005_11, .int (nI f2005_12), .int f2005_13, .int ns, .int f2005_15, .int f2005_16, .ref f2005_17]))] [] _ _ := Bx.of (fun a => (κ a).1) hL hP (fa_c hb2005 fa_n) (by simp only [List.map_cons, List.map_nil, hw.1]; decide)
      refine b_put (D := D) (ci := 9) (v := .int (nI p1991)) (ty := .int) (C := RX9) (T := TX9) (N := 18) hx hb hts iX9_number_9 tyX9 tyX9_ok nmX9 hown hN hB 0 rfl rfl 13 (by decide) (hts _ mX9_number_2) (fun _ h9 => h9) rfl (by decide +kernel) rfl rfl (Nat.le_of_ble_eq_true rfl) (.inl rfl) dX9_number_36 (fun H locs hB => ?_)
      have hB : Bx B0 D _ [(w, .inr (9, [.int f2005_0, .ref bu, .int (nI ((κ w).2.2.1)), .int (nI tl), .int (nI p1991), .int er, .int f2005_6, .int f2005_7, .ref (κ w).2.2.2, .ref f2005_9, .ref dr, .ref f2005_11, .int (nI f2005_12), .int (nI p1991), .int ns, .int f2005_15, .int f2005_16, .ref f2005_17]))] [w] _ _ := hB
      refine lv_iconst (v := 0) hx hb dX9_number_39 (by decide) ?_
      refine lv_istore_n (lv' := [(3, .int 0), (0, .ref w), (1, .int x), (2, .int y)]) hx hb dX9_number_40 rfl hl (by decide) rfl (fun ls hl => ?_)
      have hT : WT B0 D cs T κ _ := hT.close hB ⟨⟨0, _, rfl, ok_10 hw.1 ⟨_, _, _, _, _, _, _, _, _, _, _, _, _, _, _, _, rfl, (by omega), (by omega), (by omega), (by omega), hbT, t2005_8, t2005_9, c2005_sd, hdT, t2005_11, t2005_17⟩⟩, trivial⟩
      have hF : Fr B0 [12] κ H0 _ := hF.close hB (fa_c (by simp [hw.2]) fa_n)
      have hL : OkL B0 _ := hB.2.2.2.2.2
      have hP : va_P D vwCl [(w, .inr (9, [.int f2005_0, .ref bu, .int (nI ((κ w).2.2.1)), .int (nI tl), .int (nI p1991), .int er, .int f2005_6, .int f2005_7, .ref (κ w).2.2.2, .ref f2005_9, .ref dr, .ref f2005_11, .int (nI f2005_12), .int (nI p1991), .int ns, .int f2005_15, .int f2005_16, .ref f2005_17]))] _ := hB.1
      have hbu9 := (hm.2.2.2.2.2.2.1).kept (hB.2.2.2.1 _ hm.2.2.2.2.2.2.1.lt (by simp only [List.mem_cons, List.not_mem_nil, or_false, not_or]; exact ne_c hbT.1 hw.1 (by decide)))
      have hm : MF D cs w _ (p1991) (tl) (er) (ns) dr bu g := ⟨⟨_, hP 0 _ rfl, rfl⟩, ⟨_, hP 0 _ rfl, rfl⟩, ⟨_, hP 0 _ rfl, rfl⟩, ⟨_, hP 0 _ rfl, rfl⟩, ⟨_, hP 0 _ rfl, rfl⟩, ⟨_, hP 0 _ rfl, rfl⟩, hbu9, (by omega), (by omega)⟩
      refine lp_m (α := Nat × Int32) (nL := 4) (fun a9 => 600 - a9.1) (fun a9 H9 l9 => (p1991 ≤ a9.1) ∧ (MF D cs w H9 a9.1 tl er ns dr bu g) ∧ (WT B0 D cs T κ H9) ∧ (Fr B0 [12] κ H0 H9) ∧ (OkL B0 l9)) (fun a9 => [(3, .int a9.2), (0, .ref w), (1, .int x), (2, .int y)]) ?_ (p1991, 0) _ _ _ ⟨(by show p1991 ≤ (p1991); omega), hm, hT, hF, hL⟩ (lv_sub hl [0, 1, 2, 3] rfl)
      rintro ⟨p, v⟩ H locs ls ih2006 ⟨hp, hm, hT, hF, hL⟩ hl
      have hl : lv_has ls 4 [(3, .int v), (0, .ref w), (1, .int x), (2, .int y)] := hl
      have hp : p1991 ≤ p := hp
      have hm : MF D cs w H p tl er ns dr bu g := hm
      have hm8 := hm.2.2.2.2.2.2.2
      refine lv_aload_n hx hb dX9_number_41 rfl (lv_at hl 1 rfl) ?_
      refine lv_aload_n hx hb dX9_number_42 rfl (lv_at hl 1 rfl) ?_
      obtain ⟨hb2007, e2007, hat2007, hk2007⟩ := hT.o10 hw.1
      obtain ⟨f2007_0, f2007_1, f2007_3, f2007_4, f2007_5, f2007_6, f2007_7, f2007_9, f2007_10, f2007_11, f2007_12, f2007_13, f2007_14, f2007_15, f2007_16, f2007_17, rfl, c2007_2, c2007_3, c2007_4, c2007_12, t2007_1, t2007_8, t2007_9, c2007_sd, t2007_10, t2007_11, t2007_17⟩ := hk2007
      obtain ⟨rfl, rfl, rfl, rfl, rfl, rfl⟩ := hm.at hat2007 c2007_3 (by omega)
      have hm8 := hm.2.2.2.2.2.2.2
      have hP : va_P D vwCl [(w, .inr (9, [.int f2007_0, .ref bu, .int (nI ((κ w).2.2.1)), .int (nI tl), .int (nI p), .int er, .int f2007_6, .int f2007_7, .ref (κ w).2.2.2, .ref f2007_9, .ref dr, .ref f2007_11, .int (nI f2007_12), .int f2007_13, .int ns, .int f2007_15, .int f2007_16, .ref f2007_17]))] _ := va_P.cons hat2007 va_P.nil
      refine va_get (D := D) (ci := 9) (v := .int (nI p)) (C := RX9) (T := TX9) (N := 18) hx hb hts iX9_number_9 hown hN.1 hP 0 rfl rfl 4 (by decide) (hts _ mX9_number_1) (fun _ h9 => h9) rfl dX9_number_43 ?_
      refine cv_i (As := [.int (nI p)]) (rest := []) (b := w) ⟨hx, hb, hml, hown, hts⟩ (c_X9_byteAt hT (w := w) hw (n := p) hbT hdT hm (by first | omega | decide | assumption)) (cwV 1 hts gX9_number_X9_byteAt rfl rfl rfl hdX9_byteAt_v ⟨Nat.le_of_ble_eq_true rfl, Nat.le_of_ble_eq_true rfl⟩) hN hE hL (rcv10 hN hT hw.1) rfl rfl hl.1 (Nat.le_of_ble_eq_true rfl) dX9_number_46 (Nat.zero_le _) (Nat.zero_le _) (fun r2008 H1 locs hL hqr2008 => ?_)
      obtain ⟨h9, hqr2008⟩ := hqr2008; replace h9 := h9.symm; subst h9
      obtain rfl := hqr2008
      refine cs_i (As := [.int (byF g tl p)]) (rest := []) ⟨hx, hb, hml, hown, hts⟩ (c_X9_isDigit hT (x := (byF g tl p))) (va_cwS 1 hts gX9_number_X9_isDigit rfl rfl rfl hdX9_isDigit_o ⟨Nat.le_of_ble_eq_true rfl, Nat.le_of_ble_eq_true rfl⟩) hN hE hL rfl rfl hl.1 (Nat.le_of_ble_eq_true rfl) dX9_number_49 (Nat.zero_le _) (Nat.zero_le _) (fun r2009 H1 locs hL hqr2009 => ?_)
      obtain ⟨h9, hqr2009⟩ := hqr2009; replace h9 := h9.symm; subst h9
      rcases hqr2009 with ⟨rfl, o2010⟩ | ⟨rfl, l2011, g2012⟩
      · refine lv_if_eq (tgt := 90) hx hb dX9_number_52 (by decide) (fun _ => ?_) (fun c9 => absurd (by decide) c9)
        have hp9 := dig_lt l1998 g1999 o2010 hp
        refine lv_iload_n hx hb dX9_number_90 rfl (lv_at hl 0 rfl) ?_
        refine lv_iload_n hx hb dX9_number_91 rfl (lv_at hl 2 rfl) ?_
        refine lv_iload_n hx hb dX9_number_92 rfl (lv_at hl 3 rfl) ?_
        refine cs_i (As := [.int v, .int x, .int y]) (rest := []) ⟨hx, hb, hml, hown, hts⟩ (c_X9_in hT (x := v) (y := x) (z := y)) (va_cwS 3 hts gX9_number_X9_in rfl rfl rfl hdX9_in_o ⟨Nat.le_of_ble_eq_true rfl, Nat.le_of_ble_eq_true rfl⟩) hN hE hL rfl rfl hl.1 (Nat.le_of_ble_eq_true rfl) dX9_number_93 (Nat.zero_le _) (Nat.zero_le _) (fun r2013 H1 locs hL hqr2013 => ?_)
        obtain ⟨h9, hqr2013⟩ := hqr2013; replace h9 := h9.symm; subst h9
        rcases hqr2013 with ⟨rfl, o2014⟩ | ⟨rfl, l2015, g2016⟩
        · refine lv_if_ne (tgt := 109) hx hb dX9_number_96 (by decide) (fun c9 => absurd (by decide) c9) (fun _ => ?_)
          refine lv_aload_n hx hb dX9_number_99 rfl (lv_at hl 1 rfl) ?_
          refine lv_bipush (v := (-3)) hx hb dX9_number_100 (by decide) ?_
          refine lv_aload_n hx hb dX9_number_102 rfl (lv_at hl 1 rfl) ?_
          refine va_get (D := D) (ci := 9) (v := .int f2007_13) (C := RX9) (T := TX9) (N := 18) hx hb hts iX9_number_9 hown hN.1 hP 0 rfl rfl 13 (by decide) (hts _ mX9_number_2) (fun _ h9 => h9) rfl dX9_number_103 ?_
          refine cv_v (As := [.int (-3), .int f2007_13]) (rest := []) (b := w) ⟨hx, hb, hml, hown, hts⟩ (c_X9_report hT (w := w) hw (x := (-3)) (y := f2007_13) hbT hdT hm ((by decide))) (cwV 2 hts gX9_number_X9_report rfl rfl rfl hdX9_report_v ⟨Nat.le_of_ble_eq_true rfl, Nat.le_of_ble_eq_true rfl⟩) hN hE hL (rcv10 hN hT hw.1) rfl rfl hl.1 (Nat.le_of_ble_eq_true rfl) dX9_number_106 (Nat.zero_le _) (Nat.zero_le _) (fun H1 locs hL hqr2017 => ?_)
          obtain ⟨hT1, hF1, hqr2017⟩ := hqr2017
          have hF := hF.tr (hF1.mono (by simp))
          have hT := hT1
          obtain ⟨er2018, z2019, m2020⟩ := hqr2017
          have hm := m2020
          have hm8 := hm.2.2.2.2.2.2.2
          refine lv_aload_n hx hb dX9_number_109 rfl (lv_at hl 1 rfl) ?_
          refine cv_i (As := []) (rest := []) (b := w) ⟨hx, hb, hml, hown, hts⟩ (c_X9_isGood hT (w := w) hw hbT hdT hm) (cwV 0 hts gX9_number_X9_isGood rfl rfl rfl hdX9_isGood_v ⟨Nat.le_of_ble_eq_true rfl, Nat.le_of_ble_eq_true rfl⟩) hN hE hL (rcv10 hN hT hw.1) rfl rfl hl.1 (Nat.le_of_ble_eq_true rfl) dX9_number_110 (Nat.zero_le _) (Nat.zero_le _) (fun r2021 H1 locs hL hqr2021 => ?_)
          obtain ⟨h9, hqr2021⟩ := hqr2021; replace h9 := h9.symm; subst h9
          rcases hqr2021 with ⟨rfl, e2022⟩ | ⟨rfl, e2023⟩
          · exact absurd e2022 z2019
          · refine lv_if_eq (tgt := 120) hx hb dX9_number_113 (by decide) (fun _ => ?_) (fun c9 => absurd (by decide) c9)
            refine lv_iconst (v := 0) hx hb dX9_number_120 (by decide) ?_
            exact en_i hx hb hr hlocks hL rfl (Nat.zero_le _) (Nat.zero_le _) dX9_number_121 (⟨hT, hF, p, er2018, (by omega), (fun e9 => absurd e9 e2023), hm, Or.inl ⟨rfl, e2023⟩⟩)
        · refine lv_if_ne (tgt := 109) hx hb dX9_number_96 (by decide) (fun _ => ?_) (fun c9 => absurd c9 (by decide))
          refine lv_aload_n hx hb dX9_number_109 rfl (lv_at hl 1 rfl) ?_
          refine cv_i (As := []) (rest := []) (b := w) ⟨hx, hb, hml, hown, hts⟩ (c_X9_isGood hT (w := w) hw hbT hdT hm) (cwV 0 hts gX9_number_X9_isGood rfl rfl rfl hdX9_isGood_v ⟨Nat.le_of_ble_eq_true rfl, Nat.le_of_ble_eq_true rfl⟩) hN hE hL (rcv10 hN hT hw.1) rfl rfl hl.1 (Nat.le_of_ble_eq_true rfl) dX9_number_110 (Nat.zero_le _) (Nat.zero_le _) (fun r2024 H1 locs hL hqr2024 => ?_)
          obtain ⟨h9, hqr2024⟩ := hqr2024; replace h9 := h9.symm; subst h9
          rcases hqr2024 with ⟨rfl, e2025⟩ | ⟨rfl, e2026⟩
          · refine lv_if_eq (tgt := 120) hx hb dX9_number_113 (by decide) (fun c9 => absurd c9 (by decide)) (fun _ => ?_)
            refine lv_iload_n hx hb dX9_number_116 rfl (lv_at hl 0 rfl) ?_
            refine lv_goto (tgt := 121) hx hb dX9_number_117 (by decide) ?_
            exact en_i hx hb hr hlocks hL rfl (Nat.zero_le _) (Nat.zero_le _) dX9_number_121 (⟨hT, hF, p, er, (by omega), (fun _ => ⟨e2025, by omega⟩), hm, Or.inr ⟨e2025, l2015, g2016⟩⟩)
          · exact absurd e1988 e2026
      · refine lv_if_eq (tgt := 90) hx hb dX9_number_52 (by decide) (fun c9 => absurd c9 (by decide)) (fun _ => ?_)
        have hl9 := byF_lt l2011
        refine lv_ldc (v := 100000000) hx hb hown (hts _ mX9_number_3) dX9_number_55 ?_
        refine lv_bipush (v := 10) hx hb dX9_number_57 (by decide) ?_
        refine lv_iload_n hx hb dX9_number_59 rfl (lv_at hl 0 rfl) ?_
        refine lv_imul hx hb dX9_number_60 ?_
        refine gn_i (fun x2027 => ?_)
        refine lv_aload_n hx hb dX9_number_61 rfl (lv_at hl 1 rfl) ?_
        refine lv_aload_n hx hb dX9_number_62 rfl (lv_at hl 1 rfl) ?_
        refine va_get (D := D) (ci := 9) (v := .int (nI p)) (C := RX9) (T := TX9) (N := 18) hx hb hts iX9_number_9 hown hN.1 hP 0 rfl rfl 4 (by decide) (hts _ mX9_number_1) (fun _ h9 => h9) rfl dX9_number_63 ?_
        refine cv_i (As := [.int (nI p)]) (rest := [.int x2027, .int 100000000]) (b := w) ⟨hx, hb, hml, hown, hts⟩ (c_X9_byteAt hT (w := w) hw (n := p) hbT hdT hm (by first | omega | decide | assumption)) (cwV 1 hts gX9_number_X9_byteAt rfl rfl rfl hdX9_byteAt_v ⟨Nat.le_of_ble_eq_true rfl, Nat.le_of_ble_eq_true rfl⟩) hN hE hL (rcv10 hN hT hw.1) rfl rfl hl.1 (Nat.le_of_ble_eq_true rfl) dX9_number_66 (Nat.zero_le _) (Nat.zero_le _) (fun r2028 H1 locs hL hqr2028 => ?_)
        obtain ⟨h9, hqr2028⟩ := hqr2028; replace h9 := h9.symm; subst h9
        obtain rfl := hqr2028
        refine lv_iadd hx hb dX9_number_69 ?_
        refine gn_i (fun x2029 => ?_)
        refine lv_bipush (v := 48) hx hb dX9_number_70 (by decide) ?_
        refine lv_isub hx hb dX9_number_72 ?_
        refine gn_i (fun x2030 => ?_)
        refine cs_i (As := [.int 100000000, .int x2030]) (rest := []) ⟨hx, hb, hml, hown, hts⟩ (c_X9_min hT (x := 100000000) (y := x2030)) (va_cwS 2 hts gX9_number_X9_min rfl rfl rfl hdX9_min_o ⟨Nat.le_of_ble_eq_true rfl, Nat.le_of_ble_eq_true rfl⟩) hN hE hL rfl rfl hl.1 (Nat.le_of_ble_eq_true rfl) dX9_number_73 (Nat.zero_le _) (Nat.zero_le _) (fun r2031 H1 locs hL hqr2031 => ?_)
        obtain rfl := hqr2031.symm
        refine lv_istore_n (lv' := [(3, .int r2031), (0, .ref w), (1, .int x), (2, .int y)]) hx hb dX9_number_76 rfl hl (by decide) rfl (fun ls hl => ?_)
        refine lv_aload_n hx hb dX9_number_77 rfl (lv_at hl 1 rfl) ?_
        refine lv_dup hx hb dX9_number_78 rfl ?_
        refine va_get (D := D) (ci := 9) (v := .int (nI p)) (C := RX9) (T := TX9) (N := 18) hx hb hts iX9_number_9 hown hN.1 hP 0 rfl rfl 4 (by decide) (hts _ mX9_number_1) (fun _ h9 => h9) rfl dX9_number_79 ?_
        refine lv_iconst (v := 1) hx hb dX9_number_82 (by decide) ?_
        refine lv_iadd hx hb dX9_number_83 ?_
        refine tp_i (nI (p + 1)) (nI_add p 1) ?_
        have hB : Bx B0 D _ [(w, .inr (9, [.int f2007_0, .ref bu, .int (nI ((κ w).2.2.1)), .int (nI tl), .int (nI p), .int er, .int f2007_6, .int f2007_7, .ref (κ w).2.2.2, .ref f2007_9, .ref dr, .ref f2007_11, .int (nI f2007_12), .int f2007_13, .int ns, .int f2007_15, .int f2007_16, .ref f2007_17]))] [] _ _ := Bx.of (fun a => (κ a).1) hL hP (fa_c hb2007 fa_n) (by simp only [List.map_cons, List.map_nil, hw.1]; decide)
        refine b_put (D := D) (ci := 9) (v := .int (nI (p + 1))) (ty := .int) (C := RX9) (T := TX9) (N := 18) hx hb hts iX9_number_9 tyX9 tyX9_ok nmX9 hown hN hB 0 rfl rfl 4 (by decide) (hts _ mX9_number_1) (fun _ h9 => h9) rfl (by decide +kernel) rfl rfl (Nat.le_of_ble_eq_true rfl) (.inl rfl) dX9_number_84 (fun H locs hB => ?_)
        have hB : Bx B0 D _ [(w, .inr (9, [.int f2007_0, .ref bu, .int (nI ((κ w).2.2.1)), .int (nI tl), .int (nI (p + 1)), .int er, .int f2007_6, .int f2007_7, .ref (κ w).2.2.2, .ref f2007_9, .ref dr, .ref f2007_11, .int (nI f2007_12), .int f2007_13, .int ns, .int f2007_15, .int f2007_16, .ref f2007_17]))] [w] _ _ := hB
        refine lv_goto (tgt := 41) hx hb dX9_number_87 (by decide) ?_
        have hT : WT B0 D cs T κ _ := hT.close hB ⟨⟨0, _, rfl, ok_10 hw.1 ⟨_, _, _, _, _, _, _, _, _, _, _, _, _, _, _, _, rfl, (by omega), (by omega), (by omega), (by omega), hbT, t2007_8, t2007_9, c2007_sd, hdT, t2007_11, t2007_17⟩⟩, trivial⟩
        have hF : Fr B0 [12] κ H0 _ := hF.close hB (fa_c (by simp [hw.2]) fa_n)
        have hL : OkL B0 _ := hB.2.2.2.2.2
        have hP : va_P D vwCl [(w, .inr (9, [.int f2007_0, .ref bu, .int (nI ((κ w).2.2.1)), .int (nI tl), .int (nI (p + 1)), .int er, .int f2007_6, .int f2007_7, .ref (κ w).2.2.2, .ref f2007_9, .ref dr, .ref f2007_11, .int (nI f2007_12), .int f2007_13, .int ns, .int f2007_15, .int f2007_16, .ref f2007_17]))] _ := hB.1
        have hbu9 := (hm.2.2.2.2.2.2.1).kept (hB.2.2.2.1 _ hm.2.2.2.2.2.2.1.lt (by simp only [List.mem_cons, List.not_mem_nil, or_false, not_or]; exact ne_c hbT.1 hw.1 (by decide)))
        have hm : MF D cs w _ ((p + 1)) (tl) (er) (ns) dr bu g := ⟨⟨_, hP 0 _ rfl, rfl⟩, ⟨_, hP 0 _ rfl, rfl⟩, ⟨_, hP 0 _ rfl, rfl⟩, ⟨_, hP 0 _ rfl, rfl⟩, ⟨_, hP 0 _ rfl, rfl⟩, ⟨_, hP 0 _ rfl, rfl⟩, hbu9, (by omega), (by omega)⟩
        exact ih2006 ((p + 1), r2031) _ _ _ (by show 600 - ((p + 1)) < 600 - p; omega) ⟨(by show p1991 ≤ ((p + 1)); omega), hm, hT, hF, hL⟩ (lv_sub hl [0, 1, 2, 3] rfl)
  · refine lv_if_ne (tgt := 9) hx hb dX9_number_4 (by decide) (fun c9 => absurd (by decide) c9) (fun _ => ?_)
    refine lv_iconst (v := 0) hx hb dX9_number_7 (by decide) ?_
    exact en_i hx hb hr hlocks hL rfl (Nat.zero_le _) (Nat.zero_le _) dX9_number_8 (⟨hT, hF, pos, er, (by omega), (fun e9 => absurd e9 e1989), hm, Or.inl ⟨rfl, e1989⟩⟩)
theorem mX9_expect_1 : (.fieldLink RX9 53 "OneBeatModel" "position" "I" : Cond) ∈ wsX9_expect := List.mem_of_getElem? (i := 1) (by decide +kernel)
theorem iX9_expect_9 : ∀ w ∈ wsX90, w ∈ wsX9_expect := fun w h => List.mem_of_mem_drop (List.mem_of_mem_take ((show wsX90 = (wsX9_expect.drop 23).take 18 by decide +kernel) ▸ h))
set_option maxHeartbeats 4000000 in
set_option maxRecDepth 100000 in
theorem c_X9_expect {l : Launch} {D : va_G} {cs : Nat → ClassId} {B0 T : Nat} {κ : KM} {H0 : Heap} (hT : WT B0 D cs T κ H0) {w : Nat} (hw : T2 κ w 10 12) {x : Int32} {pos tl : Nat} {er ns : Int32} {dr bu : Nat} {g : Nat → Int32} (hbT : T2 κ bu 23 14) (hdT : T2 κ dr 26 17) (hm : MF D cs w H0 pos tl er ns dr bu g) (hx9 : x ≠ -1) : KC l yX9_expect wsX9_expect 2 41 0 0 D cs B0 H0 [.ref w, .int x] (Qv (fun H => WT B0 D cs T κ H ∧ Fr B0 [12] κ H0 H ∧ ∃ pos1 er1, pos ≤ pos1 ∧ (er1 = 0 → er = 0) ∧ MF D cs w H pos1 tl er1 ns dr bu g)) := by
  refine KC.of cX9_expect 2 none (by decide) rfl (Nat.le_of_ble_eq_true rfl) ?_
  intro p e s m below meth c ls hx hb hr hml hown hts hlocks hin hN hE hH0 hl
  have hown : s.vm.findClass RX9 = some m.cls := hown
  have hl : lv_has ls 2 [(0, .ref w), (1, .int x)] := hl
  have hL : OkL B0 [] := OkL.nil
  have hF : Fr B0 [12] κ H0 H0 := Fr.rf
  have hm8 := hm.2.2.2.2.2.2.2
  refine lv_aload_n hx hb dX9_expect_0 rfl (lv_at hl 0 rfl) ?_
  refine cv_i (As := []) (rest := []) (b := w) ⟨hx, hb, hml, hown, hts⟩ (c_X9_isGood hT (w := w) hw hbT hdT hm) (cwV 0 hts gX9_expect_X9_isGood rfl rfl rfl hdX9_isGood_v ⟨Nat.le_of_ble_eq_true rfl, Nat.le_of_ble_eq_true rfl⟩) hN hE hL (rcv10 hN hT hw.1) rfl rfl hl.1 (Nat.le_of_ble_eq_true rfl) dX9_expect_1 (Nat.zero_le _) (Nat.zero_le _) (fun r2032 H1 locs hL hqr2032 => ?_)
  obtain ⟨h9, hqr2032⟩ := hqr2032; replace h9 := h9.symm; subst h9
  rcases hqr2032 with ⟨rfl, e2033⟩ | ⟨rfl, e2034⟩
  · refine lv_if_ne (tgt := 8) hx hb dX9_expect_4 (by decide) (fun _ => ?_) (fun c9 => absurd c9 (by decide))
    refine lv_aload_n hx hb dX9_expect_8 rfl (lv_at hl 0 rfl) ?_
    refine cv_i (As := []) (rest := []) (b := w) ⟨hx, hb, hml, hown, hts⟩ (c_X9_ahead hT (w := w) hw hbT hdT hm) (cwV 0 hts gX9_expect_X9_ahead rfl rfl rfl hdX9_ahead_v ⟨Nat.le_of_ble_eq_true rfl, Nat.le_of_ble_eq_true rfl⟩) hN hE hL (rcv10 hN hT hw.1) rfl rfl hl.1 (Nat.le_of_ble_eq_true rfl) dX9_expect_9 (Nat.zero_le _) (Nat.zero_le _) (fun r2035 H1 locs hL hqr2035 => ?_)
    obtain ⟨hT1, hF1, hqr2035⟩ := hqr2035
    have hF := hF.tr (hF1.mono (by simp))
    have hT := hT1
    obtain ⟨p2036, h2037, m2038, n2039, s2040, rfl⟩ := hqr2035
    have hm := m2038
    have hm8 := hm.2.2.2.2.2.2.2
    refine lv_iload_n hx hb dX9_expect_12 rfl (lv_at hl 1 rfl) ?_
    refine lv_icmp_ne (tgt := 29) hx hb dX9_expect_13 (by decide) (fun c2041 => ?_) (fun c2041 => ?_)
    · refine lv_aload_n hx hb dX9_expect_29 rfl (lv_at hl 0 rfl) ?_
      refine lv_bipush (v := (-2)) hx hb dX9_expect_30 (by decide) ?_
      refine lv_aload_n hx hb dX9_expect_32 rfl (lv_at hl 0 rfl) ?_
      obtain ⟨hb2042, e2042, hat2042, hk2042⟩ := hT.o10 hw.1
      obtain ⟨f2042_0, f2042_1, f2042_3, f2042_4, f2042_5, f2042_6, f2042_7, f2042_9, f2042_10, f2042_11, f2042_12, f2042_13, f2042_14, f2042_15, f2042_16, f2042_17, rfl, c2042_2, c2042_3, c2042_4, c2042_12, t2042_1, t2042_8, t2042_9, c2042_sd, t2042_10, t2042_11, t2042_17⟩ := hk2042
      obtain ⟨rfl, rfl, rfl, rfl, rfl, rfl⟩ := hm.at hat2042 c2042_3 (by omega)
      have hm8 := hm.2.2.2.2.2.2.2
      have hP : va_P D vwCl [(w, .inr (9, [.int f2042_0, .ref bu, .int (nI ((κ w).2.2.1)), .int (nI tl), .int (nI p2036), .int er, .int f2042_6, .int f2042_7, .ref (κ w).2.2.2, .ref f2042_9, .ref dr, .ref f2042_11, .int (nI f2042_12), .int f2042_13, .int ns, .int f2042_15, .int f2042_16, .ref f2042_17]))] _ := va_P.cons hat2042 va_P.nil
      refine va_get (D := D) (ci := 9) (v := .int (nI p2036)) (C := RX9) (T := TX9) (N := 18) hx hb hts iX9_expect_9 hown hN.1 hP 0 rfl rfl 4 (by decide) (hts _ mX9_expect_1) (fun _ h9 => h9) rfl dX9_expect_33 ?_
      refine cv_v (As := [.int (-2), .int (nI p2036)]) (rest := []) (b := w) ⟨hx, hb, hml, hown, hts⟩ (c_X9_report hT (w := w) hw (x := (-2)) (y := (nI p2036)) hbT hdT hm ((by decide))) (cwV 2 hts gX9_expect_X9_report rfl rfl rfl hdX9_report_v ⟨Nat.le_of_ble_eq_true rfl, Nat.le_of_ble_eq_true rfl⟩) hN hE hL (rcv10 hN hT hw.1) rfl rfl hl.1 (Nat.le_of_ble_eq_true rfl) dX9_expect_36 (Nat.zero_le _) (Nat.zero_le _) (fun H1 locs hL hqr2043 => ?_)
      obtain ⟨hT1, hF1, hqr2043⟩ := hqr2043
      have hF := hF.tr (hF1.mono (by simp))
      have hT := hT1
      obtain ⟨er2044, z2045, m2046⟩ := hqr2043
      have hm := m2046
      have hm8 := hm.2.2.2.2.2.2.2
      exact en_v hx hb hr hlocks hL (Nat.zero_le _) (Nat.zero_le _) dX9_expect_39 (⟨hT, hF, p2036, er2044, (by omega), (fun e9 => id ((fun e9 => absurd e9 z2045) e9)), hm⟩)
    · have hl9 := byF_c (c2041) hx9
      refine lv_aload_n hx hb dX9_expect_16 rfl (lv_at hl 0 rfl) ?_
      refine lv_dup hx hb dX9_expect_17 rfl ?_
      obtain ⟨hb2047, e2047, hat2047, hk2047⟩ := hT.o10 hw.1
      obtain ⟨f2047_0, f2047_1, f2047_3, f2047_4, f2047_5, f2047_6, f2047_7, f2047_9, f2047_10, f2047_11, f2047_12, f2047_13, f2047_14, f2047_15, f2047_16, f2047_17, rfl, c2047_2, c2047_3, c2047_4, c2047_12, t2047_1, t2047_8, t2047_9, c2047_sd, t2047_10, t2047_11, t2047_17⟩ := hk2047
      obtain ⟨rfl, rfl, rfl, rfl, rfl, rfl⟩ := hm.at hat2047 c2047_3 (by omega)
      have hm8 := hm.2.2.2.2.2.2.2
      have hP : va_P D vwCl [(w, .inr (9, [.int f2047_0, .ref bu, .int (nI ((κ w).2.2.1)), .int (nI tl), .int (nI p2036), .int er, .int f2047_6, .int f2047_7, .ref (κ w).2.2.2, .ref f2047_9, .ref dr, .ref f2047_11, .int (nI f2047_12), .int f2047_13, .int ns, .int f2047_15, .int f2047_16, .ref f2047_17]))] _ := va_P.cons hat2047 va_P.nil
      refine va_get (D := D) (ci := 9) (v := .int (nI p2036)) (C := RX9) (T := TX9) (N := 18) hx hb hts iX9_expect_9 hown hN.1 hP 0 rfl rfl 4 (by decide) (hts _ mX9_expect_1) (fun _ h9 => h9) rfl dX9_expect_18 ?_
      refine lv_iconst (v := 1) hx hb dX9_expect_21 (by decide) ?_
      refine lv_iadd hx hb dX9_expect_22 ?_
      refine tp_i (nI (p2036 + 1)) (nI_add p2036 1) ?_
      have hB : Bx B0 D _ [(w, .inr (9, [.int f2047_0, .ref bu, .int (nI ((κ w).2.2.1)), .int (nI tl), .int (nI p2036), .int er, .int f2047_6, .int f2047_7, .ref (κ w).2.2.2, .ref f2047_9, .ref dr, .ref f2047_11, .int (nI f2047_12), .int f2047_13, .int ns, .int f2047_15, .int f2047_16, .ref f2047_17]))] [] _ _ := Bx.of (fun a => (κ a).1) hL hP (fa_c hb2047 fa_n) (by simp only [List.map_cons, List.map_nil, hw.1]; decide)
      refine b_put (D := D) (ci := 9) (v := .int (nI (p2036 + 1))) (ty := .int) (C := RX9) (T := TX9) (N := 18) hx hb hts iX9_expect_9 tyX9 tyX9_ok nmX9 hown hN hB 0 rfl rfl 4 (by decide) (hts _ mX9_expect_1) (fun _ h9 => h9) rfl (by decide +kernel) rfl rfl (Nat.le_of_ble_eq_true rfl) (.inl rfl) dX9_expect_23 (fun H locs hB => ?_)
      have hB : Bx B0 D _ [(w, .inr (9, [.int f2047_0, .ref bu, .int (nI ((κ w).2.2.1)), .int (nI tl), .int (nI (p2036 + 1)), .int er, .int f2047_6, .int f2047_7, .ref (κ w).2.2.2, .ref f2047_9, .ref dr, .ref f2047_11, .int (nI f2047_12), .int f2047_13, .int ns, .int f2047_15, .int f2047_16, .ref f2047_17]))] [w] _ _ := hB
      refine lv_goto (tgt := 39) hx hb dX9_expect_26 (by decide) ?_
      have hT : WT B0 D cs T κ _ := hT.close hB ⟨⟨0, _, rfl, ok_10 hw.1 ⟨_, _, _, _, _, _, _, _, _, _, _, _, _, _, _, _, rfl, (by omega), (by omega), (by omega), (by omega), hbT, t2047_8, t2047_9, c2047_sd, hdT, t2047_11, t2047_17⟩⟩, trivial⟩
      have hF : Fr B0 [12] κ H0 _ := hF.close hB (fa_c (by simp [hw.2]) fa_n)
      have hL : OkL B0 _ := hB.2.2.2.2.2
      have hP : va_P D vwCl [(w, .inr (9, [.int f2047_0, .ref bu, .int (nI ((κ w).2.2.1)), .int (nI tl), .int (nI (p2036 + 1)), .int er, .int f2047_6, .int f2047_7, .ref (κ w).2.2.2, .ref f2047_9, .ref dr, .ref f2047_11, .int (nI f2047_12), .int f2047_13, .int ns, .int f2047_15, .int f2047_16, .ref f2047_17]))] _ := hB.1
      have hbu9 := (hm.2.2.2.2.2.2.1).kept (hB.2.2.2.1 _ hm.2.2.2.2.2.2.1.lt (by simp only [List.mem_cons, List.not_mem_nil, or_false, not_or]; exact ne_c hbT.1 hw.1 (by decide)))
      have hm : MF D cs w _ ((p2036 + 1)) (tl) (er) (ns) dr bu g := ⟨⟨_, hP 0 _ rfl, rfl⟩, ⟨_, hP 0 _ rfl, rfl⟩, ⟨_, hP 0 _ rfl, rfl⟩, ⟨_, hP 0 _ rfl, rfl⟩, ⟨_, hP 0 _ rfl, rfl⟩, ⟨_, hP 0 _ rfl, rfl⟩, hbu9, (by omega), (by omega)⟩
      exact en_v hx hb hr hlocks hL (Nat.zero_le _) (Nat.zero_le _) dX9_expect_39 (⟨hT, hF, (p2036 + 1), er, (by omega), id, hm⟩)
  · refine lv_if_ne (tgt := 8) hx hb dX9_expect_4 (by decide) (fun c9 => absurd (by decide) c9) (fun _ => ?_)
    exact en_v hx hb hr hlocks hL (Nat.zero_le _) (Nat.zero_le _) dX9_expect_7 (⟨hT, hF, pos, er, (by omega), id, hm⟩)
theorem mX9_emit_1 : (.fieldLink RX9 24 "OneBeatModel" "draft" "[I" : Cond) ∈ wsX9_emit := List.mem_of_getElem? (i := 1) (by decide +kernel)
theorem iX9_emit_9 : ∀ w ∈ wsX90, w ∈ wsX9_emit := fun w h => List.mem_of_mem_drop (List.mem_of_mem_take ((show wsX90 = (wsX9_emit.drop 8).take 18 by decide +kernel) ▸ h))
set_option maxHeartbeats 4000000 in
set_option maxRecDepth 100000 in
theorem c_X9_emit {l : Launch} {D : va_G} {cs : Nat → ClassId} {B0 T : Nat} {κ : KM} {H0 : Heap} (hT : WT B0 D cs T κ H0) {w : Nat} (hw : T2 κ w 10 12) {x : Int32} {pos tl : Nat} {er ns : Int32} {dr bu : Nat} {g : Nat → Int32} (hbT : T2 κ bu 23 14) (hdT : T2 κ dr 26 17) (hm : MF D cs w H0 pos tl er ns dr bu g) {f : Nat → Int32} {N : Nat} (hd : va_at D vwCl (dr, .inl (cs 0, 1383, .inl f)) H0) (e14 : f 14 = nI N) (hN9 : er = 0 → N < 1200) : KC l yX9_emit wsX9_emit 1 20 0 0 D cs B0 H0 [.ref w, .int x] (Qv (fun H => WT B0 D cs T κ H ∧ Fr B0 [17] κ H0 H ∧ ∃ f1 N1, va_at D vwCl (dr, .inl (cs 0, 1383, .inl f1)) H ∧ f1 14 = nI N1 ∧ EM f f1 N N1 er x ∧ MF D cs w H pos tl er ns dr bu g)) := by
  refine KC.of cX9_emit 2 none (by decide) rfl (Nat.le_of_ble_eq_true rfl) ?_
  intro p e s m below meth c ls hx hb hr hml hown hts hlocks hin hN hE hH0 hl
  have hown : s.vm.findClass RX9 = some m.cls := hown
  have hl : lv_has ls 2 [(0, .ref w), (1, .int x)] := hl
  have hL : OkL B0 [] := OkL.nil
  have hF : Fr B0 [17] κ H0 H0 := Fr.rf
  have hm8 := hm.2.2.2.2.2.2.2
  refine lv_aload_n hx hb dX9_emit_0 rfl (lv_at hl 0 rfl) ?_
  refine cv_i (As := []) (rest := []) (b := w) ⟨hx, hb, hml, hown, hts⟩ (c_X9_isGood hT (w := w) hw hbT hdT hm) (cwV 0 hts gX9_emit_X9_isGood rfl rfl rfl hdX9_isGood_v ⟨Nat.le_of_ble_eq_true rfl, Nat.le_of_ble_eq_true rfl⟩) hN hE hL (rcv10 hN hT hw.1) rfl rfl hl.1 (Nat.le_of_ble_eq_true rfl) dX9_emit_1 (Nat.zero_le _) (Nat.zero_le _) (fun r2048 H1 locs hL hqr2048 => ?_)
  obtain ⟨h9, hqr2048⟩ := hqr2048; replace h9 := h9.symm; subst h9
  rcases hqr2048 with ⟨rfl, e2049⟩ | ⟨rfl, e2050⟩
  · refine lv_if_ne (tgt := 8) hx hb dX9_emit_4 (by decide) (fun _ => ?_) (fun c9 => absurd c9 (by decide))
    have hN8 := hN9 e2049
    refine lv_aload_n hx hb dX9_emit_8 rfl (lv_at hl 0 rfl) ?_
    obtain ⟨hb2051, e2051, hat2051, hk2051⟩ := hT.o10 hw.1
    obtain ⟨f2051_0, f2051_1, f2051_3, f2051_4, f2051_5, f2051_6, f2051_7, f2051_9, f2051_10, f2051_11, f2051_12, f2051_13, f2051_14, f2051_15, f2051_16, f2051_17, rfl, c2051_2, c2051_3, c2051_4, c2051_12, t2051_1, t2051_8, t2051_9, c2051_sd, t2051_10, t2051_11, t2051_17⟩ := hk2051
    obtain ⟨rfl, rfl, rfl, rfl, rfl, rfl⟩ := hm.at hat2051 c2051_3 (by omega)
    have hm8 := hm.2.2.2.2.2.2.2
    have hP : va_P D vwCl [(w, .inr (9, [.int f2051_0, .ref bu, .int (nI ((κ w).2.2.1)), .int (nI tl), .int (nI pos), .int er, .int f2051_6, .int f2051_7, .ref (κ w).2.2.2, .ref f2051_9, .ref dr, .ref f2051_11, .int (nI f2051_12), .int f2051_13, .int ns, .int f2051_15, .int f2051_16, .ref f2051_17]))] _ := va_P.cons hat2051 va_P.nil
    refine va_get (D := D) (ci := 9) (v := .ref dr) (C := RX9) (T := TX9) (N := 18) hx hb hts iX9_emit_9 hown hN.1 hP 0 rfl rfl 10 (by decide) (hts _ mX9_emit_1) (fun _ h9 => h9) rfl dX9_emit_9 ?_
    refine lv_sipush (v := 183) hx hb dX9_emit_12 (by decide) ?_
    refine lv_aload_n hx hb dX9_emit_15 rfl (lv_at hl 0 rfl) ?_
    refine va_get (D := D) (ci := 9) (v := .ref dr) (C := RX9) (T := TX9) (N := 18) hx hb hts iX9_emit_9 hown hN.1 hP 0 rfl rfl 10 (by decide) (hts _ mX9_emit_1) (fun _ h9 => h9) rfl dX9_emit_16 ?_
    refine lv_bipush (v := 14) hx hb dX9_emit_19 (by decide) ?_
    have hbd : B0 ≤ dr := (hT.o26 hdT.1).1
    have hDR := hT.dr hdT hd
    have hP : va_P D vwCl [(dr, .inl (cs 0, 1383, .inl f)), (w, .inr (9, [.int f2051_0, .ref bu, .int (nI ((κ w).2.2.1)), .int (nI tl), .int (nI pos), .int er, .int f2051_6, .int f2051_7, .ref (κ w).2.2.2, .ref f2051_9, .ref dr, .ref f2051_11, .int (nI f2051_12), .int f2051_13, .int ns, .int f2051_15, .int f2051_16, .ref f2051_17]))] _ := va_P.cons hd hP
    refine ld_i (v := (f 14)) hx hb hN hP 0 rfl (vp_in_nI (n := 14) (N := 1383) (by omega) (by omega)) (by rw [(show (14 : Int32).toNatClampNeg = 14 from nI_clamp (n := 14) (by omega))]) dX9_emit_21 ?_
    refine tp_i (nI N) e14 ?_
    refine lv_iadd hx hb dX9_emit_22 ?_
    refine tp_i (nI (183 + N)) (nI_add 183 N) ?_
    refine lv_iload_n hx hb dX9_emit_23 rfl (lv_at hl 1 rfl) ?_
    have hB : Bx B0 D _ [(dr, .inl (cs 0, 1383, .inl f)), (w, .inr (9, [.int f2051_0, .ref bu, .int (nI ((κ w).2.2.1)), .int (nI tl), .int (nI pos), .int er, .int f2051_6, .int f2051_7, .ref (κ w).2.2.2, .ref f2051_9, .ref dr, .ref f2051_11, .int (nI f2051_12), .int f2051_13, .int ns, .int f2051_15, .int f2051_16, .ref f2051_17]))] [] _ _ := Bx.of (fun a => (κ a).1) hL hP (fa_c hbd (fa_c hb2051 fa_n)) (by simp only [List.map_cons, List.map_nil, hdT.1, hw.1]; decide)
    refine b_i hx hb hN hB 0 rfl (vp_in_nI (n := (183 + N)) (N := 1383) (by omega) (by omega)) (.inl rfl) dX9_emit_24 (fun H locs hB => ?_)
    rw [(show ((nI (183 + N)) : Int32).toNatClampNeg = (183 + N) from nI_clamp (n := (183 + N)) (by omega))] at hB
    have hB : Bx B0 D _ [(dr, .inl (cs 0, 1383, .inl (upd f (183 + N) x))), (w, .inr (9, [.int f2051_0, .ref bu, .int (nI ((κ w).2.2.1)), .int (nI tl), .int (nI pos), .int er, .int f2051_6, .int f2051_7, .ref (κ w).2.2.2, .ref f2051_9, .ref dr, .ref f2051_11, .int (nI f2051_12), .int f2051_13, .int ns, .int f2051_15, .int f2051_16, .ref f2051_17]))] [dr] _ _ := hB
    have z2053 := DRK.sf hDR (k := (183 + N)) (by omega) (x := x)
    have e2054 := (pk_un (f := f) (x := x) (show 14 ≠ (183 + N) by omega)).trans e14
    refine lv_aload_n hx hb dX9_emit_25 rfl (lv_at hl 0 rfl) ?_
    refine va_get (D := D) (ci := 9) (v := .ref dr) (C := RX9) (T := TX9) (N := 18) hx hb hts iX9_emit_9 hown hN.1 hB.1 1 rfl rfl 10 (by decide) (hts _ mX9_emit_1) (fun _ h9 => h9) rfl dX9_emit_26 ?_
    refine lv_bipush (v := 14) hx hb dX9_emit_29 (by decide) ?_
    refine lv_dup2_11 hx hb dX9_emit_31 rfl rfl ?_
    refine ld_i (v := ((upd f (183 + N) x) 14)) hx hb hN hB.1 0 rfl (vp_in_nI (n := 14) (N := 1383) (by omega) (by omega)) (by rw [(show (14 : Int32).toNatClampNeg = 14 from nI_clamp (n := 14) (by omega))]) dX9_emit_32 ?_
    refine tp_i (nI N) e2054 ?_
    refine lv_iconst (v := 1) hx hb dX9_emit_33 (by decide) ?_
    refine lv_iadd hx hb dX9_emit_34 ?_
    refine tp_i (nI (N + 1)) (nI_add N 1) ?_
    refine b_i hx hb hN hB 0 rfl (show vp_in (14 : Int32) 1383 from vp_in_nI (n := 14) (N := 1383) (by omega) (by omega)) (.inr ⟨rfl, List.mem_of_getElem? (i := 0) rfl⟩) dX9_emit_35 (fun H locs hB => ?_)
    rw [(show (14 : Int32).toNatClampNeg = 14 from nI_clamp (n := 14) (by omega))] at hB
    have hB : Bx B0 D _ [(dr, .inl (cs 0, 1383, .inl (upd (upd f (183 + N) x) 14 (nI (N + 1))))), (w, .inr (9, [.int f2051_0, .ref bu, .int (nI ((κ w).2.2.1)), .int (nI tl), .int (nI pos), .int er, .int f2051_6, .int f2051_7, .ref (κ w).2.2.2, .ref f2051_9, .ref dr, .ref f2051_11, .int (nI f2051_12), .int f2051_13, .int ns, .int f2051_15, .int f2051_16, .ref f2051_17]))] [dr] _ _ := hB
    have z2055 := DRK.s14 z2053 (n := (N + 1)) (by omega)
    have hT : WT B0 D cs T κ _ := hT.close hB ⟨⟨0, _, rfl, ok_26 hdT.1 ⟨_, rfl, z2055⟩⟩, trivial⟩
    have hF : Fr B0 [17] κ H0 _ := hF.close hB (fa_c (by simp [hdT.2]) fa_n)
    have hL : OkL B0 _ := hB.2.2.2.2.2
    have hP : va_P D vwCl [(dr, .inl (cs 0, 1383, .inl (upd (upd f (183 + N) x) 14 (nI (N + 1))))), (w, .inr (9, [.int f2051_0, .ref bu, .int (nI ((κ w).2.2.1)), .int (nI tl), .int (nI pos), .int er, .int f2051_6, .int f2051_7, .ref (κ w).2.2.2, .ref f2051_9, .ref dr, .ref f2051_11, .int (nI f2051_12), .int f2051_13, .int ns, .int f2051_15, .int f2051_16, .ref f2051_17]))] _ := hB.1
    have hm := hm.kp hB (by simp only [List.mem_cons, List.not_mem_nil, or_false, not_or]; exact ne_c hbT.1 hdT.1 (by decide)) (by simp only [List.mem_cons, List.not_mem_nil, or_false, not_or]; exact ne_c hw.1 hdT.1 (by decide))
    exact en_v hx hb hr hlocks hL (Nat.zero_le _) (Nat.zero_le _) dX9_emit_36 (⟨hT, hF, _, _, hP 0 _ rfl, pk_us, Or.inr ⟨e2049, rfl, rfl⟩, hm⟩)
  · refine lv_if_ne (tgt := 8) hx hb dX9_emit_4 (by decide) (fun c9 => absurd (by decide) c9) (fun _ => ?_)
    exact en_v hx hb hr hlocks hL (Nat.zero_le _) (Nat.zero_le _) dX9_emit_7 (⟨hT, hF, _, _, hd, e14, Or.inl ⟨e2050, rfl, rfl⟩, hm⟩)
