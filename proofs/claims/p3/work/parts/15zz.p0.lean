
theorem skp_skp {B : Nat → Int32} {n q : Nat} (hY : BY B n) : skp B (skp B q) = skp B q := run_n (P := fun x => x = 32) (run_end (P := fun x => x = 32) hY (by decide))
theorem dgE_le {B : Nat → Int32} {n q : Nat} (hY : BY B n) (h : q ≤ n) : dgE B q ≤ n := run_ub hY (by decide) h
theorem min_9 {v : Nat} {k : Nat} (h : min v 100000000 ≤ k) (hk : k < 100000000) : min v 100000000 = v ∧ v ≤ k := by omega
theorem dg_ar2 {B : Nat → Int32} {n k a : Nat} (hB : BY B n) (h : isd (B k)) : nI a + B k - 48 = nI (a + dg (B k)) := by
  obtain ⟨m, h1, h2, e1, e2⟩ := dg_m hB h
  rw [e2, e1, nI_add, show a + (m - 48) = a + m - 48 by omega]
  exact nI_subN (a := a + m) (b := 48) (by omega)

theorem em_14 {f : Nat → Int32} {N : Nat} {x : Int32} (h : f 14 = nI N) : upd f (183 + N) x 14 = nI N := (pk_un (f := f) (x := x) (show (14 : Nat) ≠ 183 + N by omega)).trans h

theorem mX9_isGood_1 : (.fieldLink RX9 59 "OneBeatModel" "error" "I" : Cond) ∈ wsX9_isGood := List.mem_of_getElem? (i := 1) (by decide +kernel)
theorem iX9_isGood_9 : ∀ w ∈ wsX90, w ∈ wsX9_isGood := fun w h => List.mem_of_mem_drop (List.mem_of_mem_take ((show wsX90 = (wsX9_isGood.drop 2).take 18 by decide +kernel) ▸ h))
set_option maxHeartbeats 4000000 in
set_option maxRecDepth 100000 in
theorem c_X9_isGood_db {l : Launch} {D : va_G} {cs : Nat → ClassId} {B0 T : Nat} {κ : KM} {H0 : Heap} (hT : WT B0 D cs T κ H0) {w : Nat} (hw : T2 κ w 10 12) {bu tl pos sd dr hi ud sk : Nat} {th er ea eo ns ne se td : Int32} {g f B : Nat → Int32} (hY : BY B tl) (hBe : ∀ k, byF g tl k = B k) (hp6 : pos ≤ tl) (hud : ud ≤ 8) (hms : MS D cs w H0 (κ w).2.2.1 (κ w).2.2.2 th bu tl pos er ea eo sd dr hi ud ns ne se td sk g f) (hbad : er ≠ 0) : KC l yX9_isGood wsX9_isGood 0 0 0 0 D cs B0 H0 [.ref w] (Qi (fun r H => H = H0 ∧ r = 0)) := by
  refine KC.of cX9_isGood 1 (some .boolean) (by decide) rfl (Nat.le_of_ble_eq_true rfl) ?_
  intro p e s m below meth c ls hx hb hr hml hown hts hlocks hin hN hE hH0 hl
  have hown : s.vm.findClass RX9 = some m.cls := hown
  have hl : lv_has ls 1 [(0, .ref w)] := hl
  have hL : OkL B0 [] := OkL.nil
  obtain ⟨hkm, hkb, hkd⟩ := hms
  have h6n := hY.1
  obtain ⟨hbT, hdT, -⟩ := MS.t2 hT hw ⟨by omega, by omega⟩ hkm
  have hq26 := f26 hT hdT hkd
  refine lv_aload_n hx hb dX9_isGood_0 rfl (lv_at hl 0 rfl) ?_
  obtain ⟨hb1504, e1504, hat1504, hk1504⟩ := hT.o10 hw.1
  obtain ⟨f1504_0, f1504_1, f1504_3, f1504_4, f1504_5, f1504_6, f1504_7, f1504_9, f1504_10, f1504_11, f1504_12, f1504_13, f1504_14, f1504_15, f1504_16, f1504_17, rfl, c1504_2, c1504_3, c1504_4, c1504_12, t1504_1, t1504_8, t1504_9, c1504_sd, t1504_10, t1504_11, t1504_17⟩ := hk1504
  obtain ⟨rfl, rfl, rfl, rfl, rfl, rfl, rfl, rfl, rfl, rfl, rfl, rfl, rfl, rfl, rfl, rfl⟩ := eq10 hat1504 hkm (by omega)
  have hP : va_P D vwCl [(w, .inr (9, [.int th, .ref bu, .int (nI ((κ w).2.2.1)), .int (nI tl), .int (nI pos), .int er, .int ea, .int eo, .ref (κ w).2.2.2, .ref sd, .ref dr, .ref hi, .int (nI ud), .int ns, .int ne, .int se, .int td, .ref sk]))] _ := va_P.cons hat1504 va_P.nil
  refine va_get (D := D) (ci := 9) (v := .int er) (C := RX9) (T := TX9) (N := 18) hx hb hts iX9_isGood_9 hown hN.1 hP 0 rfl rfl 5 (by decide) (hts _ mX9_isGood_1) (fun _ h9 => h9) rfl dX9_isGood_1 ?_
  refine lv_if_ne (tgt := 11) hx hb dX9_isGood_4 (by decide) (fun c1505 => ?_) (fun c1505 => ?_)
  · refine lv_iconst (v := 0) hx hb dX9_isGood_11 (by decide) ?_
    exact en_i hx hb hr hlocks hL rfl (Nat.zero_le _) (Nat.zero_le _) dX9_isGood_12 (⟨rfl, rfl⟩)
  · exact absurd c1505 hbad
set_option maxHeartbeats 4000000 in
set_option maxRecDepth 100000 in
theorem c_X9_isGood_dg {l : Launch} {D : va_G} {cs : Nat → ClassId} {B0 T : Nat} {κ : KM} {H0 : Heap} (hT : WT B0 D cs T κ H0) {w : Nat} (hw : T2 κ w 10 12) {bu tl pos sd dr hi ud sk : Nat} {th ea eo ns ne se td : Int32} {g f B : Nat → Int32} (hY : BY B tl) (hBe : ∀ k, byF g tl k = B k) (hp6 : pos ≤ tl) (hud : ud ≤ 8) (hms : MS D cs w H0 (κ w).2.2.1 (κ w).2.2.2 th bu tl pos 0 ea eo sd dr hi ud ns ne se td sk g f) : KC l yX9_isGood wsX9_isGood 0 0 0 0 D cs B0 H0 [.ref w] (Qi (fun r H => H = H0 ∧ (r = 1))) := by
  refine KC.of cX9_isGood 1 (some .boolean) (by decide) rfl (Nat.le_of_ble_eq_true rfl) ?_
  intro p e s m below meth c ls hx hb hr hml hown hts hlocks hin hN hE hH0 hl
  have hown : s.vm.findClass RX9 = some m.cls := hown
  have hl : lv_has ls 1 [(0, .ref w)] := hl
  have hL : OkL B0 [] := OkL.nil
  obtain ⟨hkm, hkb, hkd⟩ := hms
  have h6n := hY.1
  obtain ⟨hbT, hdT, -⟩ := MS.t2 hT hw ⟨by omega, by omega⟩ hkm
  have hq26 := f26 hT hdT hkd
  refine lv_aload_n hx hb dX9_isGood_0 rfl (lv_at hl 0 rfl) ?_
  obtain ⟨hb1506, e1506, hat1506, hk1506⟩ := hT.o10 hw.1
  obtain ⟨f1506_0, f1506_1, f1506_3, f1506_4, f1506_5, f1506_6, f1506_7, f1506_9, f1506_10, f1506_11, f1506_12, f1506_13, f1506_14, f1506_15, f1506_16, f1506_17, rfl, c1506_2, c1506_3, c1506_4, c1506_12, t1506_1, t1506_8, t1506_9, c1506_sd, t1506_10, t1506_11, t1506_17⟩ := hk1506
  obtain ⟨rfl, rfl, rfl, rfl, rfl, rfl, rfl, rfl, rfl, rfl, rfl, rfl, rfl, rfl, rfl, rfl⟩ := eq10 hat1506 hkm (by omega)
  have hP : va_P D vwCl [(w, .inr (9, [.int th, .ref bu, .int (nI ((κ w).2.2.1)), .int (nI tl), .int (nI pos), .int 0, .int ea, .int eo, .ref (κ w).2.2.2, .ref sd, .ref dr, .ref hi, .int (nI ud), .int ns, .int ne, .int se, .int td, .ref sk]))] _ := va_P.cons hat1506 va_P.nil
  refine va_get (D := D) (ci := 9) (v := .int 0) (C := RX9) (T := TX9) (N := 18) hx hb hts iX9_isGood_9 hown hN.1 hP 0 rfl rfl 5 (by decide) (hts _ mX9_isGood_1) (fun _ h9 => h9) rfl dX9_isGood_1 ?_
  refine lv_if_ne (tgt := 11) hx hb dX9_isGood_4 (by decide) (fun c9 => absurd (by decide) c9) (fun _ => ?_)
  refine lv_iconst (v := 1) hx hb dX9_isGood_7 (by decide) ?_
  refine lv_goto (tgt := 12) hx hb dX9_isGood_8 (by decide) ?_
  exact en_i hx hb hr hlocks hL rfl (Nat.zero_le _) (Nat.zero_le _) dX9_isGood_12 (⟨rfl, rfl⟩)
theorem mX9_byteAt_1 : (.fieldLink RX9 50 "OneBeatModel" "textLength" "I" : Cond) ∈ wsX9_byteAt := List.mem_of_getElem? (i := 1) (by decide +kernel)
theorem iX9_byteAt_9 : ∀ w ∈ wsX90, w ∈ wsX9_byteAt := fun w h => List.mem_of_mem_drop (List.mem_of_mem_take ((show wsX90 = (wsX9_byteAt.drop 3).take 18 by decide +kernel) ▸ h))
theorem mX9_byteAt_2 : (.fieldLink RX9 9 "OneBeatModel" "buffer" "[I" : Cond) ∈ wsX9_byteAt := List.mem_of_getElem? (i := 2) (by decide +kernel)
set_option maxHeartbeats 4000000 in
set_option maxRecDepth 100000 in
theorem c_X9_byteAt {l : Launch} {D : va_G} {cs : Nat → ClassId} {B0 T : Nat} {κ : KM} {H0 : Heap} (hT : WT B0 D cs T κ H0) {n : Nat} {w : Nat} (hw : T2 κ w 10 12) {bu tl pos sd dr hi ud sk : Nat} {th ea eo ns ne se td : Int32} {g f B : Nat → Int32} (hY : BY B tl) (hBe : ∀ k, byF g tl k = B k) (hp6 : pos ≤ tl) (hud : ud ≤ 8) (hms : MS D cs w H0 (κ w).2.2.1 (κ w).2.2.2 th bu tl pos 0 ea eo sd dr hi ud ns ne se td sk g f) (hn : n ≤ 1300) : KC l yX9_byteAt wsX9_byteAt 0 0 0 0 D cs B0 H0 [.ref w, .int (nI n)] (Qi (fun r H => H = H0 ∧ (r = B n))) := by
  refine KC.of cX9_byteAt 2 (some .int) (by decide) rfl (Nat.le_of_ble_eq_true rfl) ?_
  intro p e s m below meth c ls hx hb hr hml hown hts hlocks hin hN hE hH0 hl
  have hown : s.vm.findClass RX9 = some m.cls := hown
  have hl : lv_has ls 2 [(0, .ref w), (1, .int (nI n))] := hl
  have hL : OkL B0 [] := OkL.nil
  obtain ⟨hkm, hkb, hkd⟩ := hms
  have h6n := hY.1
  obtain ⟨hbT, hdT, -⟩ := MS.t2 hT hw ⟨by omega, by omega⟩ hkm
  have hq26 := f26 hT hdT hkd
  refine lv_iload_n hx hb dX9_byteAt_0 rfl (lv_at hl 1 rfl) ?_
  refine lv_aload_n hx hb dX9_byteAt_1 rfl (lv_at hl 0 rfl) ?_
  obtain ⟨hb1507, e1507, hat1507, hk1507⟩ := hT.o10 hw.1
  obtain ⟨f1507_0, f1507_1, f1507_3, f1507_4, f1507_5, f1507_6, f1507_7, f1507_9, f1507_10, f1507_11, f1507_12, f1507_13, f1507_14, f1507_15, f1507_16, f1507_17, rfl, c1507_2, c1507_3, c1507_4, c1507_12, t1507_1, t1507_8, t1507_9, c1507_sd, t1507_10, t1507_11, t1507_17⟩ := hk1507
  obtain ⟨rfl, rfl, rfl, rfl, rfl, rfl, rfl, rfl, rfl, rfl, rfl, rfl, rfl, rfl, rfl, rfl⟩ := eq10 hat1507 hkm (by omega)
  have hP : va_P D vwCl [(w, .inr (9, [.int th, .ref bu, .int (nI ((κ w).2.2.1)), .int (nI tl), .int (nI pos), .int 0, .int ea, .int eo, .ref (κ w).2.2.2, .ref sd, .ref dr, .ref hi, .int (nI ud), .int ns, .int ne, .int se, .int td, .ref sk]))] _ := va_P.cons hat1507 va_P.nil
  refine va_get (D := D) (ci := 9) (v := .int (nI tl)) (C := RX9) (T := TX9) (N := 18) hx hb hts iX9_byteAt_9 hown hN.1 hP 0 rfl rfl 3 (by decide) (hts _ mX9_byteAt_1) (fun _ h9 => h9) rfl dX9_byteAt_2 ?_
  refine lv_icmp_ge (tgt := 17) hx hb dX9_byteAt_5 (by decide) (fun c1508 => ?_) (fun c1508 => ?_)
  · have c1508 : tl ≤ n := (nI_leI (a := tl) (b := n) (by omega) (by omega)).mp c1508
    refine lv_iconst (v := (-1)) hx hb dX9_byteAt_17 (by decide) ?_
    exact en_i hx hb hr hlocks hL rfl (Nat.zero_le _) (Nat.zero_le _) dX9_byteAt_18 (⟨rfl, (hY.end_ (k := n) (by omega)).symm⟩)
  · have c1508 : ¬ tl ≤ n := fun h9 => c1508 ((nI_leI (a := tl) (b := n) (by omega) (by omega)).mpr h9)
    refine lv_aload_n hx hb dX9_byteAt_8 rfl (lv_at hl 0 rfl) ?_
    refine va_get (D := D) (ci := 9) (v := .ref bu) (C := RX9) (T := TX9) (N := 18) hx hb hts iX9_byteAt_9 hown hN.1 hP 0 rfl rfl 1 (by decide) (hts _ mX9_byteAt_2) (fun _ h9 => h9) rfl dX9_byteAt_9 ?_
    refine lv_iload_n hx hb dX9_byteAt_12 rfl (lv_at hl 1 rfl) ?_
    obtain ⟨hb1509, e1509, hat1509, hk1509⟩ := hT.o23 t1507_1.1
    have hat1509 := hkb
    have hP : va_P D vwCl [(bu, .inl (cs 0, 600, .inl g)), (w, .inr (9, [.int th, .ref bu, .int (nI ((κ w).2.2.1)), .int (nI tl), .int (nI pos), .int 0, .int ea, .int eo, .ref (κ w).2.2.2, .ref sd, .ref dr, .ref hi, .int (nI ud), .int ns, .int ne, .int se, .int td, .ref sk]))] _ := va_P.cons hat1509 hP
    refine ld_i (v := (g n)) hx hb hN hP 0 rfl (vp_in_nI (n := n) (N := 600) (by omega) (by omega)) (by rw [(show ((nI n) : Int32).toNatClampNeg = n from nI_clamp (n := n) (by omega))]) dX9_byteAt_13 ?_
    refine lv_goto (tgt := 18) hx hb dX9_byteAt_14 (by decide) ?_
    exact en_i hx hb hr hlocks hL rfl (Nat.zero_le _) (Nat.zero_le _) dX9_byteAt_18 (⟨rfl, (byF_y (Nat.not_le.mp c1508)).trans (hBe n)⟩)
theorem mX9_report_1 : (.fieldLink RX9 59 "OneBeatModel" "error" "I" : Cond) ∈ wsX9_report := List.mem_of_getElem? (i := 1) (by decide +kernel)
theorem iX9_report_9 : ∀ w ∈ wsX90, w ∈ wsX9_report := fun w h => List.mem_of_mem_drop (List.mem_of_mem_take ((show wsX90 = (wsX9_report.drop 3).take 18 by decide +kernel) ▸ h))
set_option maxHeartbeats 4000000 in
set_option maxRecDepth 100000 in
theorem c_X9_report_db {l : Launch} {D : va_G} {cs : Nat → ClassId} {B0 T : Nat} {κ : KM} {H0 : Heap} (hT : WT B0 D cs T κ H0) {y : Int32} {x : Int32} {w : Nat} (hw : T2 κ w 10 12) {bu tl pos sd dr hi ud sk : Nat} {th er ea eo ns ne se td : Int32} {g f B : Nat → Int32} (hY : BY B tl) (hBe : ∀ k, byF g tl k = B k) (hp6 : pos ≤ tl) (hud : ud ≤ 8) (hms : MS D cs w H0 (κ w).2.2.1 (κ w).2.2.2 th bu tl pos er ea eo sd dr hi ud ns ne se td sk g f) (hbad : er ≠ 0) : KC l yX9_report wsX9_report 0 0 0 0 D cs B0 H0 [.ref w, .int x, .int y] (Qv (fun H => H = H0)) := by
  refine KC.of cX9_report 3 none (by decide) rfl (Nat.le_of_ble_eq_true rfl) ?_
  intro p e s m below meth c ls hx hb hr hml hown hts hlocks hin hN hE hH0 hl
  have hown : s.vm.findClass RX9 = some m.cls := hown
  have hl : lv_has ls 3 [(0, .ref w), (1, .int x), (2, .int y)] := hl
  have hL : OkL B0 [] := OkL.nil
  obtain ⟨hkm, hkb, hkd⟩ := hms
  have h6n := hY.1
  obtain ⟨hbT, hdT, -⟩ := MS.t2 hT hw ⟨by omega, by omega⟩ hkm
  have hq26 := f26 hT hdT hkd
  refine lv_aload_n hx hb dX9_report_0 rfl (lv_at hl 0 rfl) ?_
  obtain ⟨hb1510, e1510, hat1510, hk1510⟩ := hT.o10 hw.1
  obtain ⟨f1510_0, f1510_1, f1510_3, f1510_4, f1510_5, f1510_6, f1510_7, f1510_9, f1510_10, f1510_11, f1510_12, f1510_13, f1510_14, f1510_15, f1510_16, f1510_17, rfl, c1510_2, c1510_3, c1510_4, c1510_12, t1510_1, t1510_8, t1510_9, c1510_sd, t1510_10, t1510_11, t1510_17⟩ := hk1510
  obtain ⟨rfl, rfl, rfl, rfl, rfl, rfl, rfl, rfl, rfl, rfl, rfl, rfl, rfl, rfl, rfl, rfl⟩ := eq10 hat1510 hkm (by omega)
  have hP : va_P D vwCl [(w, .inr (9, [.int th, .ref bu, .int (nI ((κ w).2.2.1)), .int (nI tl), .int (nI pos), .int er, .int ea, .int eo, .ref (κ w).2.2.2, .ref sd, .ref dr, .ref hi, .int (nI ud), .int ns, .int ne, .int se, .int td, .ref sk]))] _ := va_P.cons hat1510 va_P.nil
  refine va_get (D := D) (ci := 9) (v := .int er) (C := RX9) (T := TX9) (N := 18) hx hb hts iX9_report_9 hown hN.1 hP 0 rfl rfl 5 (by decide) (hts _ mX9_report_1) (fun _ h9 => h9) rfl dX9_report_1 ?_
  refine lv_if_eq (tgt := 8) hx hb dX9_report_4 (by decide) (fun c1511 => ?_) (fun c1511 => ?_)
  · exact absurd c1511 hbad
  · exact en_v hx hb hr hlocks hL (Nat.zero_le _) (Nat.zero_le _) dX9_report_7 (rfl)
theorem mX9_report_2 : (.fieldLink RX9 62 "OneBeatModel" "errorAt" "I" : Cond) ∈ wsX9_report := List.mem_of_getElem? (i := 2) (by decide +kernel)
set_option maxHeartbeats 4000000 in
set_option maxRecDepth 100000 in
theorem c_X9_report_dg {l : Launch} {D : va_G} {cs : Nat → ClassId} {B0 T : Nat} {κ : KM} {H0 : Heap} (hT : WT B0 D cs T κ H0) {y : Int32} {x : Int32} {w : Nat} (hw : T2 κ w 10 12) {bu tl pos sd dr hi ud sk : Nat} {th ea eo ns ne se td : Int32} {g f B : Nat → Int32} (hY : BY B tl) (hBe : ∀ k, byF g tl k = B k) (hp6 : pos ≤ tl) (hud : ud ≤ 8) (hms : MS D cs w H0 (κ w).2.2.1 (κ w).2.2.2 th bu tl pos 0 ea eo sd dr hi ud ns ne se td sk g f) : KC l yX9_report wsX9_report 0 0 0 0 D cs B0 H0 [.ref w, .int x, .int y] (Qv (fun H => WT B0 D cs T κ H ∧ Fr B0 [12] κ H0 H ∧ (MS D cs w H (κ w).2.2.1 (κ w).2.2.2 th bu tl pos x y eo sd dr hi ud ns ne se td sk g f))) := by
  refine KC.of cX9_report 3 none (by decide) rfl (Nat.le_of_ble_eq_true rfl) ?_
  intro p e s m below meth c ls hx hb hr hml hown hts hlocks hin hN hE hH0 hl
  have hown : s.vm.findClass RX9 = some m.cls := hown
  have hl : lv_has ls 3 [(0, .ref w), (1, .int x), (2, .int y)] := hl
  have hL : OkL B0 [] := OkL.nil
  have hF : Fr B0 [12] κ H0 H0 := Fr.rf
  obtain ⟨hkm, hkb, hkd⟩ := hms
  have h6n := hY.1
  obtain ⟨hbT, hdT, -⟩ := MS.t2 hT hw ⟨by omega, by omega⟩ hkm
  have hq26 := f26 hT hdT hkd
  refine lv_aload_n hx hb dX9_report_0 rfl (lv_at hl 0 rfl) ?_
  obtain ⟨hb1512, e1512, hat1512, hk1512⟩ := hT.o10 hw.1
  obtain ⟨f1512_0, f1512_1, f1512_3, f1512_4, f1512_5, f1512_6, f1512_7, f1512_9, f1512_10, f1512_11, f1512_12, f1512_13, f1512_14, f1512_15, f1512_16, f1512_17, rfl, c1512_2, c1512_3, c1512_4, c1512_12, t1512_1, t1512_8, t1512_9, c1512_sd, t1512_10, t1512_11, t1512_17⟩ := hk1512
  obtain ⟨rfl, rfl, rfl, rfl, rfl, rfl, rfl, rfl, rfl, rfl, rfl, rfl, rfl, rfl, rfl, rfl⟩ := eq10 hat1512 hkm (by omega)
  have hP : va_P D vwCl [(w, .inr (9, [.int th, .ref bu, .int (nI ((κ w).2.2.1)), .int (nI tl), .int (nI pos), .int 0, .int ea, .int eo, .ref (κ w).2.2.2, .ref sd, .ref dr, .ref hi, .int (nI ud), .int ns, .int ne, .int se, .int td, .ref sk]))] _ := va_P.cons hat1512 va_P.nil
  refine va_get (D := D) (ci := 9) (v := .int 0) (C := RX9) (T := TX9) (N := 18) hx hb hts iX9_report_9 hown hN.1 hP 0 rfl rfl 5 (by decide) (hts _ mX9_report_1) (fun _ h9 => h9) rfl dX9_report_1 ?_
  refine lv_if_eq (tgt := 8) hx hb dX9_report_4 (by decide) (fun _ => ?_) (fun c9 => absurd (by decide) c9)
  refine lv_aload_n hx hb dX9_report_8 rfl (lv_at hl 0 rfl) ?_
  refine lv_iload_n hx hb dX9_report_9 rfl (lv_at hl 1 rfl) ?_
  have hB : Bx B0 D _ [(w, .inr (9, [.int th, .ref bu, .int (nI ((κ w).2.2.1)), .int (nI tl), .int (nI pos), .int 0, .int ea, .int eo, .ref (κ w).2.2.2, .ref sd, .ref dr, .ref hi, .int (nI ud), .int ns, .int ne, .int se, .int td, .ref sk]))] [] _ _ := Bx.of (fun a => (κ a).1) hL hP (fa_c hb1512 fa_n) (by simp only [List.map_cons, List.map_nil, hw.1]; decide)
  refine b_put (D := D) (ci := 9) (v := .int x) (ty := .int) (C := RX9) (T := TX9) (N := 18) hx hb hts iX9_report_9 tyX9 tyX9_ok nmX9 hown hN hB 0 rfl rfl 5 (by decide) (hts _ mX9_report_1) (fun _ h9 => h9) rfl (by decide +kernel) rfl rfl (Nat.le_of_ble_eq_true rfl) (.inl rfl) dX9_report_10 (fun H locs hB => ?_)
  have hB : Bx B0 D _ [(w, .inr (9, [.int th, .ref bu, .int (nI ((κ w).2.2.1)), .int (nI tl), .int (nI pos), .int x, .int ea, .int eo, .ref (κ w).2.2.2, .ref sd, .ref dr, .ref hi, .int (nI ud), .int ns, .int ne, .int se, .int td, .ref sk]))] [w] _ _ := hB
  refine lv_aload_n hx hb dX9_report_13 rfl (lv_at hl 0 rfl) ?_
  refine lv_iload_n hx hb dX9_report_14 rfl (lv_at hl 2 rfl) ?_
  refine b_put (D := D) (ci := 9) (v := .int y) (ty := .int) (C := RX9) (T := TX9) (N := 18) hx hb hts iX9_report_9 tyX9 tyX9_ok nmX9 hown hN hB 0 rfl rfl 6 (by decide) (hts _ mX9_report_2) (fun _ h9 => h9) rfl (by decide +kernel) rfl rfl (Nat.le_of_ble_eq_true rfl) (.inr ⟨rfl, List.mem_of_getElem? (i := 0) rfl⟩) dX9_report_15 (fun H locs hB => ?_)
  have hB : Bx B0 D _ [(w, .inr (9, [.int th, .ref bu, .int (nI ((κ w).2.2.1)), .int (nI tl), .int (nI pos), .int x, .int y, .int eo, .ref (κ w).2.2.2, .ref sd, .ref dr, .ref hi, .int (nI ud), .int ns, .int ne, .int se, .int td, .ref sk]))] [w] _ _ := hB
  have hT : WT B0 D cs T κ _ := hT.close hB ⟨⟨0, _, rfl, ok_10 hw.1 ⟨_, _, _, _, _, _, _, _, _, _, _, _, _, _, _, _, rfl, (by omega), (by omega), (by omega), (by omega), t1512_1, t1512_8, t1512_9, c1512_sd, t1512_10, t1512_11, t1512_17⟩⟩, trivial⟩
  have hF : Fr B0 [12] κ H0 _ := hF.close hB (fa_c (by simp [hw.2]) fa_n)
  have hL : OkL B0 _ := hB.2.2.2.2.2
  have hP : va_P D vwCl [(w, .inr (9, [.int th, .ref bu, .int (nI ((κ w).2.2.1)), .int (nI tl), .int (nI pos), .int x, .int y, .int eo, .ref (κ w).2.2.2, .ref sd, .ref dr, .ref hi, .int (nI ud), .int ns, .int ne, .int se, .int td, .ref sk]))] _ := hB.1
  have hkm : va_at D vwCl (w, .inr (9, [.int th, .ref bu, .int (nI ((κ w).2.2.1)), .int (nI tl), .int (nI pos), .int x, .int y, .int eo, .ref (κ w).2.2.2, .ref sd, .ref dr, .ref hi, .int (nI ud), .int ns, .int ne, .int se, .int td, .ref sk])) _ := hP 0 _ rfl
  have hkb := hkb.kept (hB.2.2.2.1 _ hkb.lt (by simp only [List.mem_cons, List.not_mem_nil, or_false, not_or]; exact ne_c hbT.1 hw.1 (by decide)))
  have hkd := hkd.kept (hB.2.2.2.1 _ hkd.lt (by simp only [List.mem_cons, List.not_mem_nil, or_false, not_or]; exact ne_c hdT.1 hw.1 (by decide)))
  exact en_v hx hb hr hlocks hL (Nat.zero_le _) (Nat.zero_le _) dX9_report_18 (⟨hT, hF, ⟨hkm, hkb, hkd⟩⟩)
theorem mX9_ahead_1 : (.fieldLink RX9 53 "OneBeatModel" "position" "I" : Cond) ∈ wsX9_ahead := List.mem_of_getElem? (i := 1) (by decide +kernel)
theorem iX9_ahead_9 : ∀ w ∈ wsX90, w ∈ wsX9_ahead := fun w h => List.mem_of_mem_drop (List.mem_of_mem_take ((show wsX90 = (wsX9_ahead.drop 9).take 18 by decide +kernel) ▸ h))
theorem hdX9_byteAt_v : yX9_byteAt.cls = RX9 ∧ yX9_byteAt.cls ≠ "java/lang/invoke/MethodHandle" ∧ yX9_byteAt.cls ≠ "java/lang/invoke/VarHandle" ∧ (parseMethodDescriptor yX9_byteAt.desc).map (fun d => d.parameters.length) = some 1 := by decide +kernel
set_option maxHeartbeats 4000000 in
set_option maxRecDepth 100000 in
theorem c_X9_ahead {l : Launch} {D : va_G} {cs : Nat → ClassId} {B0 T : Nat} {κ : KM} {H0 : Heap} (hT : WT B0 D cs T κ H0) {w : Nat} (hw : T2 κ w 10 12) {bu tl pos sd dr hi ud sk : Nat} {th ea eo ns ne se td : Int32} {g f B : Nat → Int32} (hY : BY B tl) (hBe : ∀ k, byF g tl k = B k) (hp6 : pos ≤ tl) (hud : ud ≤ 8) (hms : MS D cs w H0 (κ w).2.2.1 (κ w).2.2.2 th bu tl pos 0 ea eo sd dr hi ud ns ne se td sk g f) : KC l yX9_ahead wsX9_ahead 1 21 0 0 D cs B0 H0 [.ref w] (Qi (fun r H => WT B0 D cs T κ H ∧ Fr B0 [12] κ H0 H ∧ (∃ z, z = skp B pos ∧ pos ≤ z ∧ z ≤ tl ∧ r = B z ∧ MS D cs w H (κ w).2.2.1 (κ w).2.2.2 th bu tl z 0 ea eo sd dr hi ud ns ne se td sk g f))) := by
  refine KC.of cX9_ahead 1 (some .int) (by decide) rfl (Nat.le_of_ble_eq_true rfl) ?_
  intro p e s m below meth c ls hx hb hr hml hown hts hlocks hin hN hE hH0 hl
  have hown : s.vm.findClass RX9 = some m.cls := hown
  have hl : lv_has ls 1 [(0, .ref w)] := hl
  have hL : OkL B0 [] := OkL.nil
  have hF : Fr B0 [12] κ H0 H0 := Fr.rf
  obtain ⟨hkm, hkb, hkd⟩ := hms
  have h6n := hY.1
  obtain ⟨hbT, hdT, -⟩ := MS.t2 hT hw ⟨by omega, by omega⟩ hkm
  have hq26 := f26 hT hdT hkd
  refine lp_m (α := Nat) (nL := 1) (fun a9 => 600 - a9) (fun a9 H9 l9 => (pos ≤ a9 ∧ a9 ≤ tl) ∧ (skp B a9 = skp B pos) ∧ (MS D cs w H9 (κ w).2.2.1 (κ w).2.2.2 th bu tl a9 0 ea eo sd dr hi ud ns ne se td sk g f) ∧ (WT B0 D cs T κ H9) ∧ (Fr B0 [12] κ H0 H9) ∧ (OkL B0 l9)) (fun a9 => [(0, .ref w)]) ?_ pos _ _ _ ⟨(by show pos ≤ (pos) ∧ (pos) ≤ tl; omega), rfl, ⟨hkm, hkb, hkd⟩, hT, hF, hL⟩ (lv_sub hl [0] rfl)
  rintro k1 H locs ls ih1513 ⟨hk1, hk, hms9, hT, hF, hL⟩ hl
  have hl : lv_has ls 1 [(0, .ref w)] := hl
  have hk1 : pos ≤ k1 ∧ k1 ≤ tl := hk1
  have hk : skp B k1 = skp B pos := hk
  have hms9 : MS D cs w H (κ w).2.2.1 (κ w).2.2.2 th bu tl k1 0 ea eo sd dr hi ud ns ne se td sk g f := hms9
  obtain ⟨hkm, hkb, hkd⟩ := hms9
  have hq26 := f26 hT hdT hkd
  refine lv_aload_n hx hb dX9_ahead_0 rfl (lv_at hl 0 rfl) ?_
  refine lv_aload_n hx hb dX9_ahead_1 rfl (lv_at hl 0 rfl) ?_
  obtain ⟨hb1514, e1514, hat1514, hk1514⟩ := hT.o10 hw.1
  obtain ⟨f1514_0, f1514_1, f1514_3, f1514_4, f1514_5, f1514_6, f1514_7, f1514_9, f1514_10, f1514_11, f1514_12, f1514_13, f1514_14, f1514_15, f1514_16, f1514_17, rfl, c1514_2, c1514_3, c1514_4, c1514_12, t1514_1, t1514_8, t1514_9, c1514_sd, t1514_10, t1514_11, t1514_17⟩ := hk1514
  obtain ⟨rfl, rfl, rfl, rfl, rfl, rfl, rfl, rfl, rfl, rfl, rfl, rfl, rfl, rfl, rfl, rfl⟩ := eq10 hat1514 hkm (by omega)
  have hP : va_P D vwCl [(w, .inr (9, [.int th, .ref bu, .int (nI ((κ w).2.2.1)), .int (nI tl), .int (nI k1), .int 0, .int ea, .int eo, .ref (κ w).2.2.2, .ref sd, .ref dr, .ref hi, .int (nI ud), .int ns, .int ne, .int se, .int td, .ref sk]))] _ := va_P.cons hat1514 va_P.nil
  refine va_get (D := D) (ci := 9) (v := .int (nI k1)) (C := RX9) (T := TX9) (N := 18) hx hb hts iX9_ahead_9 hown hN.1 hP 0 rfl rfl 4 (by decide) (hts _ mX9_ahead_1) (fun _ h9 => h9) rfl dX9_ahead_2 ?_
  refine cv_i (As := [.int (nI k1)]) (rest := []) (b := w) ⟨hx, hb, hml, hown, hts⟩ (c_X9_byteAt hT (w := w) hw (n := k1) (by first | omega | decide | assumption) (by first | omega | decide | assumption) (by first | omega | decide | assumption) (by first | omega | decide | assumption) ⟨hkm, hkb, hkd⟩ (by first | omega | decide | assumption)) (cwV 1 hts gX9_ahead_X9_byteAt rfl rfl rfl hdX9_byteAt_v ⟨Nat.le_of_ble_eq_true rfl, Nat.le_of_ble_eq_true rfl⟩) hN hE hL (rcv10 hN hT hw.1) rfl rfl hl.1 (Nat.le_of_ble_eq_true rfl) dX9_ahead_5 (Nat.zero_le _) (Nat.zero_le _) (fun r1515 H1 locs hL hqr1515 => ?_)
  obtain ⟨h9, hqr1515⟩ := hqr1515; replace h9 := h9.symm; subst h9
  obtain rfl := hqr1515
  refine lv_bipush (v := 32) hx hb dX9_ahead_8 (by decide) ?_
  refine lv_icmp_ne (tgt := 26) hx hb dX9_ahead_10 (by decide) (fun c1516 => ?_) (fun c1516 => ?_)
  · have hsk : k1 = skp B pos := (run_n (P := fun x => x = 32) c1516).symm.trans hk
    refine lv_aload_n hx hb dX9_ahead_26 rfl (lv_at hl 0 rfl) ?_
    refine lv_aload_n hx hb dX9_ahead_27 rfl (lv_at hl 0 rfl) ?_
    refine va_get (D := D) (ci := 9) (v := .int (nI k1)) (C := RX9) (T := TX9) (N := 18) hx hb hts iX9_ahead_9 hown hN.1 hP 0 rfl rfl 4 (by decide) (hts _ mX9_ahead_1) (fun _ h9 => h9) rfl dX9_ahead_28 ?_
    refine cv_i (As := [.int (nI k1)]) (rest := []) (b := w) ⟨hx, hb, hml, hown, hts⟩ (c_X9_byteAt hT (w := w) hw (n := k1) (by first | omega | decide | assumption) (by first | omega | decide | assumption) (by first | omega | decide | assumption) (by first | omega | decide | assumption) ⟨hkm, hkb, hkd⟩ (by first | omega | decide | assumption)) (cwV 1 hts gX9_ahead_X9_byteAt rfl rfl rfl hdX9_byteAt_v ⟨Nat.le_of_ble_eq_true rfl, Nat.le_of_ble_eq_true rfl⟩) hN hE hL (rcv10 hN hT hw.1) rfl rfl hl.1 (Nat.le_of_ble_eq_true rfl) dX9_ahead_31 (Nat.zero_le _) (Nat.zero_le _) (fun r1517 H1 locs hL hqr1517 => ?_)
    obtain ⟨h9, hqr1517⟩ := hqr1517; replace h9 := h9.symm; subst h9
    obtain rfl := hqr1517
    exact en_i hx hb hr hlocks hL rfl (Nat.zero_le _) (Nat.zero_le _) dX9_ahead_34 (⟨hT, hF, k1, hsk, (by omega), (by omega), rfl, ⟨hkm, hkb, hkd⟩⟩)
  · have h32 := c1516
    have hl9 := hY.lt (k := k1) (by rw [h32]; decide)
    refine lv_aload_n hx hb dX9_ahead_13 rfl (lv_at hl 0 rfl) ?_
    refine lv_dup hx hb dX9_ahead_14 rfl ?_
    refine va_get (D := D) (ci := 9) (v := .int (nI k1)) (C := RX9) (T := TX9) (N := 18) hx hb hts iX9_ahead_9 hown hN.1 hP 0 rfl rfl 4 (by decide) (hts _ mX9_ahead_1) (fun _ h9 => h9) rfl dX9_ahead_15 ?_
    refine lv_iconst (v := 1) hx hb dX9_ahead_18 (by decide) ?_
    refine lv_iadd hx hb dX9_ahead_19 ?_
    refine tp_i (nI (k1 + 1)) (nI_add k1 1) ?_
    have hB : Bx B0 D _ [(w, .inr (9, [.int th, .ref bu, .int (nI ((κ w).2.2.1)), .int (nI tl), .int (nI k1), .int 0, .int ea, .int eo, .ref (κ w).2.2.2, .ref sd, .ref dr, .ref hi, .int (nI ud), .int ns, .int ne, .int se, .int td, .ref sk]))] [] _ _ := Bx.of (fun a => (κ a).1) hL hP (fa_c hb1514 fa_n) (by simp only [List.map_cons, List.map_nil, hw.1]; decide)
    refine b_put (D := D) (ci := 9) (v := .int (nI (k1 + 1))) (ty := .int) (C := RX9) (T := TX9) (N := 18) hx hb hts iX9_ahead_9 tyX9 tyX9_ok nmX9 hown hN hB 0 rfl rfl 4 (by decide) (hts _ mX9_ahead_1) (fun _ h9 => h9) rfl (by decide +kernel) rfl rfl (Nat.le_of_ble_eq_true rfl) (.inl rfl) dX9_ahead_20 (fun H locs hB => ?_)
    have hB : Bx B0 D _ [(w, .inr (9, [.int th, .ref bu, .int (nI ((κ w).2.2.1)), .int (nI tl), .int (nI (k1 + 1)), .int 0, .int ea, .int eo, .ref (κ w).2.2.2, .ref sd, .ref dr, .ref hi, .int (nI ud), .int ns, .int ne, .int se, .int td, .ref sk]))] [w] _ _ := hB
    refine lv_goto (tgt := 0) hx hb dX9_ahead_23 (by decide) ?_
    have hT : WT B0 D cs T κ _ := hT.close hB ⟨⟨0, _, rfl, ok_10 hw.1 ⟨_, _, _, _, _, _, _, _, _, _, _, _, _, _, _, _, rfl, (by omega), (by omega), (by omega), (by omega), t1514_1, t1514_8, t1514_9, c1514_sd, t1514_10, t1514_11, t1514_17⟩⟩, trivial⟩
    have hF : Fr B0 [12] κ H0 _ := hF.close hB (fa_c (by simp [hw.2]) fa_n)
    have hL : OkL B0 _ := hB.2.2.2.2.2
    have hP : va_P D vwCl [(w, .inr (9, [.int th, .ref bu, .int (nI ((κ w).2.2.1)), .int (nI tl), .int (nI (k1 + 1)), .int 0, .int ea, .int eo, .ref (κ w).2.2.2, .ref sd, .ref dr, .ref hi, .int (nI ud), .int ns, .int ne, .int se, .int td, .ref sk]))] _ := hB.1
    have hkm : va_at D vwCl (w, .inr (9, [.int th, .ref bu, .int (nI ((κ w).2.2.1)), .int (nI tl), .int (nI (k1 + 1)), .int 0, .int ea, .int eo, .ref (κ w).2.2.2, .ref sd, .ref dr, .ref hi, .int (nI ud), .int ns, .int ne, .int se, .int td, .ref sk])) _ := hP 0 _ rfl
    have hkb := hkb.kept (hB.2.2.2.1 _ hkb.lt (by simp only [List.mem_cons, List.not_mem_nil, or_false, not_or]; exact ne_c hbT.1 hw.1 (by decide)))
    have hkd := hkd.kept (hB.2.2.2.1 _ hkd.lt (by simp only [List.mem_cons, List.not_mem_nil, or_false, not_or]; exact ne_c hdT.1 hw.1 (by decide)))
    exact ih1513 (k1 + 1) _ _ _ (by show 600 - ((k1 + 1)) < 600 - k1; omega) ⟨(by show pos ≤ ((k1 + 1)) ∧ ((k1 + 1)) ≤ tl; omega), ((run_y (P := fun x => x = 32) h32 (by omega)).symm.trans hk), ⟨hkm, hkb, hkd⟩, hT, hF, hL⟩ (lv_sub hl [0] rfl)
theorem hdX9_isGood_v : yX9_isGood.cls = RX9 ∧ yX9_isGood.cls ≠ "java/lang/invoke/MethodHandle" ∧ yX9_isGood.cls ≠ "java/lang/invoke/VarHandle" ∧ (parseMethodDescriptor yX9_isGood.desc).map (fun d => d.parameters.length) = some 0 := by decide +kernel
set_option maxHeartbeats 4000000 in
set_option maxRecDepth 100000 in
theorem c_X9_expect_db {l : Launch} {D : va_G} {cs : Nat → ClassId} {B0 T : Nat} {κ : KM} {H0 : Heap} (hT : WT B0 D cs T κ H0) {x : Int32} {w : Nat} (hw : T2 κ w 10 12) {bu tl pos sd dr hi ud sk : Nat} {th er ea eo ns ne se td : Int32} {g f B : Nat → Int32} (hY : BY B tl) (hBe : ∀ k, byF g tl k = B k) (hp6 : pos ≤ tl) (hud : ud ≤ 8) (hms : MS D cs w H0 (κ w).2.2.1 (κ w).2.2.2 th bu tl pos er ea eo sd dr hi ud ns ne se td sk g f) (hbad : er ≠ 0) (hx9 : x ≠ -1) : KC l yX9_expect wsX9_expect 1 20 0 0 D cs B0 H0 [.ref w, .int x] (Qv (fun H => H = H0)) := by
  refine KC.of cX9_expect 2 none (by decide) rfl (Nat.le_of_ble_eq_true rfl) ?_
  intro p e s m below meth c ls hx hb hr hml hown hts hlocks hin hN hE hH0 hl
  have hown : s.vm.findClass RX9 = some m.cls := hown
  have hl : lv_has ls 2 [(0, .ref w), (1, .int x)] := hl
  have hL : OkL B0 [] := OkL.nil
  obtain ⟨hkm, hkb, hkd⟩ := hms
  have h6n := hY.1
  obtain ⟨hbT, hdT, -⟩ := MS.t2 hT hw ⟨by omega, by omega⟩ hkm
  have hq26 := f26 hT hdT hkd
  refine lv_aload_n hx hb dX9_expect_0 rfl (lv_at hl 0 rfl) ?_
  refine cv_i (As := []) (rest := []) (b := w) ⟨hx, hb, hml, hown, hts⟩ (c_X9_isGood_db hT (w := w) hw (by first | omega | decide | assumption) (by first | omega | decide | assumption) (by first | omega | decide | assumption) (by first | omega | decide | assumption) ⟨hkm, hkb, hkd⟩ (by first | omega | decide | assumption)) (cwV 0 hts gX9_expect_X9_isGood rfl rfl rfl hdX9_isGood_v ⟨Nat.le_of_ble_eq_true rfl, Nat.le_of_ble_eq_true rfl⟩) hN hE hL (rcv10 hN hT hw.1) rfl rfl hl.1 (Nat.le_of_ble_eq_true rfl) dX9_expect_1 (Nat.zero_le _) (Nat.zero_le _) (fun r1518 H1 locs hL hqr1518 => ?_)
  obtain ⟨h9, hqr1518⟩ := hqr1518; replace h9 := h9.symm; subst h9
  obtain rfl := hqr1518
  refine lv_if_ne (tgt := 8) hx hb dX9_expect_4 (by decide) (fun c9 => absurd (by decide) c9) (fun _ => ?_)
  exact en_v hx hb hr hlocks hL (Nat.zero_le _) (Nat.zero_le _) dX9_expect_7 (rfl)
theorem hdX9_ahead_v : yX9_ahead.cls = RX9 ∧ yX9_ahead.cls ≠ "java/lang/invoke/MethodHandle" ∧ yX9_ahead.cls ≠ "java/lang/invoke/VarHandle" ∧ (parseMethodDescriptor yX9_ahead.desc).map (fun d => d.parameters.length) = some 0 := by decide +kernel
theorem mX9_expect_1 : (.fieldLink RX9 53 "OneBeatModel" "position" "I" : Cond) ∈ wsX9_expect := List.mem_of_getElem? (i := 1) (by decide +kernel)
theorem iX9_expect_9 : ∀ w ∈ wsX90, w ∈ wsX9_expect := fun w h => List.mem_of_mem_drop (List.mem_of_mem_take ((show wsX90 = (wsX9_expect.drop 23).take 18 by decide +kernel) ▸ h))
theorem hdX9_report_v : yX9_report.cls = RX9 ∧ yX9_report.cls ≠ "java/lang/invoke/MethodHandle" ∧ yX9_report.cls ≠ "java/lang/invoke/VarHandle" ∧ (parseMethodDescriptor yX9_report.desc).map (fun d => d.parameters.length) = some 2 := by decide +kernel
set_option maxHeartbeats 4000000 in
set_option maxRecDepth 100000 in
theorem c_X9_expect_dg {l : Launch} {D : va_G} {cs : Nat → ClassId} {B0 T : Nat} {κ : KM} {H0 : Heap} (hT : WT B0 D cs T κ H0) {x : Int32} {w : Nat} (hw : T2 κ w 10 12) {bu tl pos sd dr hi ud sk : Nat} {th ea eo ns ne se td : Int32} {g f B : Nat → Int32} (hY : BY B tl) (hBe : ∀ k, byF g tl k = B k) (hp6 : pos ≤ tl) (hud : ud ≤ 8) (hms : MS D cs w H0 (κ w).2.2.1 (κ w).2.2.2 th bu tl pos 0 ea eo sd dr hi ud ns ne se td sk g f) (hx9 : x ≠ -1) : KC l yX9_expect wsX9_expect 2 41 0 0 D cs B0 H0 [.ref w, .int x] (Qv (fun H => WT B0 D cs T κ H ∧ Fr B0 [12] κ H0 H ∧ ((B (skp B pos) = x ∧ MS D cs w H (κ w).2.2.1 (κ w).2.2.2 th bu tl (skp B pos + 1) 0 ea eo sd dr hi ud ns ne se td sk g f) ∨ (¬ B (skp B pos) = x ∧ MS D cs w H (κ w).2.2.1 (κ w).2.2.2 th bu tl (skp B pos) (-2) (nI (skp B pos)) eo sd dr hi ud ns ne se td sk g f)))) := by
  refine KC.of cX9_expect 2 none (by decide) rfl (Nat.le_of_ble_eq_true rfl) ?_
  intro p e s m below meth c ls hx hb hr hml hown hts hlocks hin hN hE hH0 hl
  have hown : s.vm.findClass RX9 = some m.cls := hown
  have hl : lv_has ls 2 [(0, .ref w), (1, .int x)] := hl
  have hL : OkL B0 [] := OkL.nil
  have hF : Fr B0 [12] κ H0 H0 := Fr.rf
  obtain ⟨hkm, hkb, hkd⟩ := hms
  have h6n := hY.1
  obtain ⟨hbT, hdT, -⟩ := MS.t2 hT hw ⟨by omega, by omega⟩ hkm
  have hq26 := f26 hT hdT hkd
  refine lv_aload_n hx hb dX9_expect_0 rfl (lv_at hl 0 rfl) ?_
  refine cv_i (As := []) (rest := []) (b := w) ⟨hx, hb, hml, hown, hts⟩ (c_X9_isGood_dg hT (w := w) hw (by first | omega | decide | assumption) (by first | omega | decide | assumption) (by first | omega | decide | assumption) (by first | omega | decide | assumption) ⟨hkm, hkb, hkd⟩) (cwV 0 hts gX9_expect_X9_isGood rfl rfl rfl hdX9_isGood_v ⟨Nat.le_of_ble_eq_true rfl, Nat.le_of_ble_eq_true rfl⟩) hN hE hL (rcv10 hN hT hw.1) rfl rfl hl.1 (Nat.le_of_ble_eq_true rfl) dX9_expect_1 (Nat.zero_le _) (Nat.zero_le _) (fun r1519 H1 locs hL hqr1519 => ?_)
  obtain ⟨h9, hqr1519⟩ := hqr1519; replace h9 := h9.symm; subst h9
  obtain rfl := hqr1519
  refine lv_if_ne (tgt := 8) hx hb dX9_expect_4 (by decide) (fun _ => ?_) (fun c9 => absurd c9 (by decide))
  refine lv_aload_n hx hb dX9_expect_8 rfl (lv_at hl 0 rfl) ?_
  refine cv_i (As := []) (rest := []) (b := w) ⟨hx, hb, hml, hown, hts⟩ (c_X9_ahead hT (w := w) hw (by first | omega | decide | assumption) (by first | omega | decide | assumption) (by first | omega | decide | assumption) (by first | omega | decide | assumption) ⟨hkm, hkb, hkd⟩) (cwV 0 hts gX9_expect_X9_ahead rfl rfl rfl hdX9_ahead_v ⟨Nat.le_of_ble_eq_true rfl, Nat.le_of_ble_eq_true rfl⟩) hN hE hL (rcv10 hN hT hw.1) rfl rfl hl.1 (Nat.le_of_ble_eq_true rfl) dX9_expect_9 (Nat.zero_le _) (Nat.zero_le _) (fun r1520 H1 locs hL hqr1520 => ?_)
  obtain ⟨hT1, hF1, hqr1520⟩ := hqr1520
  have hkb := hF1.hP (va_P.cons hkb va_P.nil) (fa_c ⟨by rw [hbT.1]; decide, by rw [hbT.2]; first | decide | (simp; done) | (simp; omega)⟩ fa_n) 0 _ rfl
  have hkd := hF1.hP (va_P.cons hkd va_P.nil) (fa_c ⟨by rw [hdT.1]; decide, by rw [hdT.2]; first | decide | (simp; done) | (simp; omega)⟩ fa_n) 0 _ rfl
  have hF := hF.tr (hF1.mono (by simp))
  have hT := hT1
  obtain ⟨z1521, e1522, l1523, u1524, rfl, m1525⟩ := hqr1520
  obtain ⟨hkm, hkb, hkd⟩ := m1525
  have hq26 := f26 hT hdT hkd
  refine lv_iload_n hx hb dX9_expect_12 rfl (lv_at hl 1 rfl) ?_
  refine lv_icmp_ne (tgt := 29) hx hb dX9_expect_13 (by decide) (fun c1526 => ?_) (fun c1526 => ?_)
  · refine lv_aload_n hx hb dX9_expect_29 rfl (lv_at hl 0 rfl) ?_
    refine lv_bipush (v := (-2)) hx hb dX9_expect_30 (by decide) ?_
    refine lv_aload_n hx hb dX9_expect_32 rfl (lv_at hl 0 rfl) ?_
    obtain ⟨hb1527, e1527, hat1527, hk1527⟩ := hT.o10 hw.1
    obtain ⟨f1527_0, f1527_1, f1527_3, f1527_4, f1527_5, f1527_6, f1527_7, f1527_9, f1527_10, f1527_11, f1527_12, f1527_13, f1527_14, f1527_15, f1527_16, f1527_17, rfl, c1527_2, c1527_3, c1527_4, c1527_12, t1527_1, t1527_8, t1527_9, c1527_sd, t1527_10, t1527_11, t1527_17⟩ := hk1527
    obtain ⟨rfl, rfl, rfl, rfl, rfl, rfl, rfl, rfl, rfl, rfl, rfl, rfl, rfl, rfl, rfl, rfl⟩ := eq10 hat1527 hkm (by omega)
    have hP : va_P D vwCl [(w, .inr (9, [.int th, .ref bu, .int (nI ((κ w).2.2.1)), .int (nI tl), .int (nI z1521), .int 0, .int ea, .int eo, .ref (κ w).2.2.2, .ref sd, .ref dr, .ref hi, .int (nI ud), .int ns, .int ne, .int se, .int td, .ref sk]))] _ := va_P.cons hat1527 va_P.nil
    refine va_get (D := D) (ci := 9) (v := .int (nI z1521)) (C := RX9) (T := TX9) (N := 18) hx hb hts iX9_expect_9 hown hN.1 hP 0 rfl rfl 4 (by decide) (hts _ mX9_expect_1) (fun _ h9 => h9) rfl dX9_expect_33 ?_
    refine cv_v (As := [.int (-2), .int (nI z1521)]) (rest := []) (b := w) ⟨hx, hb, hml, hown, hts⟩ (c_X9_report_dg hT (w := w) hw (x := (-2)) (y := (nI z1521)) (by first | omega | decide | assumption) (by first | omega | decide | assumption) (by first | omega | decide | assumption) (by first | omega | decide | assumption) ⟨hkm, hkb, hkd⟩) (cwV 2 hts gX9_expect_X9_report rfl rfl rfl hdX9_report_v ⟨Nat.le_of_ble_eq_true rfl, Nat.le_of_ble_eq_true rfl⟩) hN hE hL (rcv10 hN hT hw.1) rfl rfl hl.1 (Nat.le_of_ble_eq_true rfl) dX9_expect_36 (Nat.zero_le _) (Nat.zero_le _) (fun H1 locs hL hqr1528 => ?_)
    obtain ⟨hT1, hF1, hqr1528⟩ := hqr1528
    have hkb := hF1.hP (va_P.cons hkb va_P.nil) (fa_c ⟨by rw [hbT.1]; decide, by rw [hbT.2]; first | decide | (simp; done) | (simp; omega)⟩ fa_n) 0 _ rfl
    have hkd := hF1.hP (va_P.cons hkd va_P.nil) (fa_c ⟨by rw [hdT.1]; decide, by rw [hdT.2]; first | decide | (simp; done) | (simp; omega)⟩ fa_n) 0 _ rfl
    have hF := hF.tr (hF1.mono (by simp))
    have hT := hT1
    have m1529 := hqr1528
    obtain ⟨hkm, hkb, hkd⟩ := m1529
    have hq26 := f26 hT hdT hkd
    exact en_v hx hb hr hlocks hL (Nat.zero_le _) (Nat.zero_le _) dX9_expect_39 (⟨hT, hF, Or.inr ⟨by rw [← e1522]; exact c1526, by rw [← e1522]; exact ⟨hkm, hkb, hkd⟩⟩⟩)
  · have hl9 := hY.lt (k := z1521) (by rw [c1526]; exact hx9)
    refine lv_aload_n hx hb dX9_expect_16 rfl (lv_at hl 0 rfl) ?_
    refine lv_dup hx hb dX9_expect_17 rfl ?_
    obtain ⟨hb1530, e1530, hat1530, hk1530⟩ := hT.o10 hw.1
    obtain ⟨f1530_0, f1530_1, f1530_3, f1530_4, f1530_5, f1530_6, f1530_7, f1530_9, f1530_10, f1530_11, f1530_12, f1530_13, f1530_14, f1530_15, f1530_16, f1530_17, rfl, c1530_2, c1530_3, c1530_4, c1530_12, t1530_1, t1530_8, t1530_9, c1530_sd, t1530_10, t1530_11, t1530_17⟩ := hk1530
    obtain ⟨rfl, rfl, rfl, rfl, rfl, rfl, rfl, rfl, rfl, rfl, rfl, rfl, rfl, rfl, rfl, rfl⟩ := eq10 hat1530 hkm (by omega)
    have hP : va_P D vwCl [(w, .inr (9, [.int th, .ref bu, .int (nI ((κ w).2.2.1)), .int (nI tl), .int (nI z1521), .int 0, .int ea, .int eo, .ref (κ w).2.2.2, .ref sd, .ref dr, .ref hi, .int (nI ud), .int ns, .int ne, .int se, .int td, .ref sk]))] _ := va_P.cons hat1530 va_P.nil
    refine va_get (D := D) (ci := 9) (v := .int (nI z1521)) (C := RX9) (T := TX9) (N := 18) hx hb hts iX9_expect_9 hown hN.1 hP 0 rfl rfl 4 (by decide) (hts _ mX9_expect_1) (fun _ h9 => h9) rfl dX9_expect_18 ?_
    refine lv_iconst (v := 1) hx hb dX9_expect_21 (by decide) ?_
    refine lv_iadd hx hb dX9_expect_22 ?_
    refine tp_i (nI (z1521 + 1)) (nI_add z1521 1) ?_
    have hB : Bx B0 D _ [(w, .inr (9, [.int th, .ref bu, .int (nI ((κ w).2.2.1)), .int (nI tl), .int (nI z1521), .int 0, .int ea, .int eo, .ref (κ w).2.2.2, .ref sd, .ref dr, .ref hi, .int (nI ud), .int ns, .int ne, .int se, .int td, .ref sk]))] [] _ _ := Bx.of (fun a => (κ a).1) hL hP (fa_c hb1530 fa_n) (by simp only [List.map_cons, List.map_nil, hw.1]; decide)
    refine b_put (D := D) (ci := 9) (v := .int (nI (z1521 + 1))) (ty := .int) (C := RX9) (T := TX9) (N := 18) hx hb hts iX9_expect_9 tyX9 tyX9_ok nmX9 hown hN hB 0 rfl rfl 4 (by decide) (hts _ mX9_expect_1) (fun _ h9 => h9) rfl (by decide +kernel) rfl rfl (Nat.le_of_ble_eq_true rfl) (.inl rfl) dX9_expect_23 (fun H locs hB => ?_)
    have hB : Bx B0 D _ [(w, .inr (9, [.int th, .ref bu, .int (nI ((κ w).2.2.1)), .int (nI tl), .int (nI (z1521 + 1)), .int 0, .int ea, .int eo, .ref (κ w).2.2.2, .ref sd, .ref dr, .ref hi, .int (nI ud), .int ns, .int ne, .int se, .int td, .ref sk]))] [w] _ _ := hB
    refine lv_goto (tgt := 39) hx hb dX9_expect_26 (by decide) ?_
    have hT : WT B0 D cs T κ _ := hT.close hB ⟨⟨0, _, rfl, ok_10 hw.1 ⟨_, _, _, _, _, _, _, _, _, _, _, _, _, _, _, _, rfl, (by omega), (by omega), (by omega), (by omega), t1530_1, t1530_8, t1530_9, c1530_sd, t1530_10, t1530_11, t1530_17⟩⟩, trivial⟩
    have hF : Fr B0 [12] κ H0 _ := hF.close hB (fa_c (by simp [hw.2]) fa_n)
    have hL : OkL B0 _ := hB.2.2.2.2.2
    have hP : va_P D vwCl [(w, .inr (9, [.int th, .ref bu, .int (nI ((κ w).2.2.1)), .int (nI tl), .int (nI (z1521 + 1)), .int 0, .int ea, .int eo, .ref (κ w).2.2.2, .ref sd, .ref dr, .ref hi, .int (nI ud), .int ns, .int ne, .int se, .int td, .ref sk]))] _ := hB.1
    have hkm : va_at D vwCl (w, .inr (9, [.int th, .ref bu, .int (nI ((κ w).2.2.1)), .int (nI tl), .int (nI (z1521 + 1)), .int 0, .int ea, .int eo, .ref (κ w).2.2.2, .ref sd, .ref dr, .ref hi, .int (nI ud), .int ns, .int ne, .int se, .int td, .ref sk])) _ := hP 0 _ rfl
    have hkb := hkb.kept (hB.2.2.2.1 _ hkb.lt (by simp only [List.mem_cons, List.not_mem_nil, or_false, not_or]; exact ne_c hbT.1 hw.1 (by decide)))
    have hkd := hkd.kept (hB.2.2.2.1 _ hkd.lt (by simp only [List.mem_cons, List.not_mem_nil, or_false, not_or]; exact ne_c hdT.1 hw.1 (by decide)))
    exact en_v hx hb hr hlocks hL (Nat.zero_le _) (Nat.zero_le _) dX9_expect_39 (⟨hT, hF, Or.inl ⟨by rw [← e1522]; exact c1526, by rw [← e1522]; exact ⟨hkm, hkb, hkd⟩⟩⟩)
set_option maxHeartbeats 4000000 in
set_option maxRecDepth 100000 in
theorem c_X9_takeWord_db {l : Launch} {D : va_G} {cs : Nat → ClassId} {B0 T : Nat} {κ : KM} {H0 : Heap} (hT : WT B0 D cs T κ H0) {w : Nat} (hw : T2 κ w 10 12) {i : Nat} (hi9 : i ∈ nW) {bu tl pos sd dr hi ud sk : Nat} {th er ea eo ns ne se td : Int32} {g f B : Nat → Int32} (hY : BY B tl) (hBe : ∀ k, byF g tl k = B k) (hp6 : pos ≤ tl) (hud : ud ≤ 8) (hms : MS D cs w H0 (κ w).2.2.1 (κ w).2.2.2 th bu tl pos er ea eo sd dr hi ud ns ne se td sk g f) (hbad : er ≠ 0) : KC l yX9_takeWord wsX9_takeWord 1 20 0 0 D cs B0 H0 [.ref w, .ref (cs (100 + i))] (Qi (fun r H => H = H0 ∧ r = 0)) := by
  refine KC.of cX9_takeWord 3 (some .boolean) (by decide) rfl (Nat.le_of_ble_eq_true rfl) ?_
  intro p e s m below meth c ls hx hb hr hml hown hts hlocks hin hN hE hH0 hl
  have hown : s.vm.findClass RX9 = some m.cls := hown
  have hl : lv_has ls 3 [(0, .ref w), (1, .ref (cs (100 + i)))] := hl
  have hL : OkL B0 [] := OkL.nil
  obtain ⟨hkm, hkb, hkd⟩ := hms
  have h6n := hY.1
  obtain ⟨hbT, hdT, -⟩ := MS.t2 hT hw ⟨by omega, by omega⟩ hkm
  have hq26 := f26 hT hdT hkd
  refine lv_aload_n hx hb dX9_takeWord_0 rfl (lv_at hl 0 rfl) ?_
  refine cv_i (As := []) (rest := []) (b := w) ⟨hx, hb, hml, hown, hts⟩ (c_X9_isGood_db hT (w := w) hw (by first | omega | decide | assumption) (by first | omega | decide | assumption) (by first | omega | decide | assumption) (by first | omega | decide | assumption) ⟨hkm, hkb, hkd⟩ (by first | omega | decide | assumption)) (cwV 0 hts gX9_takeWord_X9_isGood rfl rfl rfl hdX9_isGood_v ⟨Nat.le_of_ble_eq_true rfl, Nat.le_of_ble_eq_true rfl⟩) hN hE hL (rcv10 hN hT hw.1) rfl rfl hl.1 (Nat.le_of_ble_eq_true rfl) dX9_takeWord_1 (Nat.zero_le _) (Nat.zero_le _) (fun r1531 H1 locs hL hqr1531 => ?_)
  obtain ⟨h9, hqr1531⟩ := hqr1531; replace h9 := h9.symm; subst h9
  obtain rfl := hqr1531
  refine lv_if_ne (tgt := 9) hx hb dX9_takeWord_4 (by decide) (fun c9 => absurd (by decide) c9) (fun _ => ?_)
  refine lv_iconst (v := 0) hx hb dX9_takeWord_7 (by decide) ?_
  exact en_i hx hb hr hlocks hL rfl (Nat.zero_le _) (Nat.zero_le _) dX9_takeWord_8 (⟨rfl, rfl⟩)
theorem mX9_takeWord_1 : (.fieldLink RX9 53 "OneBeatModel" "position" "I" : Cond) ∈ wsX9_takeWord := List.mem_of_getElem? (i := 1) (by decide +kernel)
theorem iX9_takeWord_9 : ∀ w ∈ wsX90, w ∈ wsX9_takeWord := fun w h => List.mem_of_mem_drop (List.mem_of_mem_take ((show wsX90 = (wsX9_takeWord.drop 70).take 18 by decide +kernel) ▸ h))
set_option maxHeartbeats 4000000 in
set_option maxRecDepth 100000 in
theorem c_X9_takeWord_dg {l : Launch} {D : va_G} {cs : Nat → ClassId} {B0 T : Nat} {κ : KM} {H0 : Heap} (hT : WT B0 D cs T κ H0) {w : Nat} (hw : T2 κ w 10 12) {i : Nat} (hi9 : i ∈ nW) {bu tl pos sd dr hi ud sk : Nat} {th ea eo ns ne se td : Int32} {g f B : Nat → Int32} (hY : BY B tl) (hBe : ∀ k, byF g tl k = B k) (hp6 : pos ≤ tl) (hud : ud ≤ 8) (hms : MS D cs w H0 (κ w).2.2.1 (κ w).2.2.2 th bu tl pos 0 ea eo sd dr hi ud ns ne se td sk g f) : KC l yX9_takeWord wsX9_takeWord 4 85 0 0 D cs B0 H0 [.ref w, .ref (cs (100 + i))] (Qi (fun r H => WT B0 D cs T κ H ∧ Fr B0 [12] κ H0 H ∧ ((r = 1 ∧ isW B i (skp B pos) ∧ MS D cs w H (κ w).2.2.1 (κ w).2.2.2 th bu tl (skp B pos + nT i) 0 ea eo sd dr hi ud ns ne se td sk g f) ∨ (r = 0 ∧ ¬ isW B i (skp B pos) ∧ MS D cs w H (κ w).2.2.1 (κ w).2.2.2 th bu tl (skp B pos) 0 ea eo sd dr hi ud ns ne se td sk g f)))) := by
  refine KC.of cX9_takeWord 3 (some .boolean) (by decide) rfl (Nat.le_of_ble_eq_true rfl) ?_
  intro p e s m below meth c ls hx hb hr hml hown hts hlocks hin hN hE hH0 hl
  have hown : s.vm.findClass RX9 = some m.cls := hown
  have hl : lv_has ls 3 [(0, .ref w), (1, .ref (cs (100 + i)))] := hl
  have hL : OkL B0 [] := OkL.nil
  have hF : Fr B0 [12] κ H0 H0 := Fr.rf
  obtain ⟨hkm, hkb, hkd⟩ := hms
  have h6n := hY.1
  obtain ⟨hbT, hdT, -⟩ := MS.t2 hT hw ⟨by omega, by omega⟩ hkm
  have hq26 := f26 hT hdT hkd
  refine lv_aload_n hx hb dX9_takeWord_0 rfl (lv_at hl 0 rfl) ?_
  refine cv_i (As := []) (rest := []) (b := w) ⟨hx, hb, hml, hown, hts⟩ (c_X9_isGood_dg hT (w := w) hw (by first | omega | decide | assumption) (by first | omega | decide | assumption) (by first | omega | decide | assumption) (by first | omega | decide | assumption) ⟨hkm, hkb, hkd⟩) (cwV 0 hts gX9_takeWord_X9_isGood rfl rfl rfl hdX9_isGood_v ⟨Nat.le_of_ble_eq_true rfl, Nat.le_of_ble_eq_true rfl⟩) hN hE hL (rcv10 hN hT hw.1) rfl rfl hl.1 (Nat.le_of_ble_eq_true rfl) dX9_takeWord_1 (Nat.zero_le _) (Nat.zero_le _) (fun r1532 H1 locs hL hqr1532 => ?_)
  obtain ⟨h9, hqr1532⟩ := hqr1532; replace h9 := h9.symm; subst h9
  obtain rfl := hqr1532
  refine lv_if_ne (tgt := 9) hx hb dX9_takeWord_4 (by decide) (fun _ => ?_) (fun c9 => absurd c9 (by decide))
  refine lv_aload_n hx hb dX9_takeWord_9 rfl (lv_at hl 0 rfl) ?_
  refine cv_i (As := []) (rest := []) (b := w) ⟨hx, hb, hml, hown, hts⟩ (c_X9_ahead hT (w := w) hw (by first | omega | decide | assumption) (by first | omega | decide | assumption) (by first | omega | decide | assumption) (by first | omega | decide | assumption) ⟨hkm, hkb, hkd⟩) (cwV 0 hts gX9_takeWord_X9_ahead rfl rfl rfl hdX9_ahead_v ⟨Nat.le_of_ble_eq_true rfl, Nat.le_of_ble_eq_true rfl⟩) hN hE hL (rcv10 hN hT hw.1) rfl rfl hl.1 (Nat.le_of_ble_eq_true rfl) dX9_takeWord_10 (Nat.zero_le _) (Nat.zero_le _) (fun r1533 H1 locs hL hqr1533 => ?_)
  obtain ⟨hT1, hF1, hqr1533⟩ := hqr1533
  have hkb := hF1.hP (va_P.cons hkb va_P.nil) (fa_c ⟨by rw [hbT.1]; decide, by rw [hbT.2]; first | decide | (simp; done) | (simp; omega)⟩ fa_n) 0 _ rfl
  have hkd := hF1.hP (va_P.cons hkd va_P.nil) (fa_c ⟨by rw [hdT.1]; decide, by rw [hdT.2]; first | decide | (simp; done) | (simp; omega)⟩ fa_n) 0 _ rfl
  have hF := hF.tr (hF1.mono (by simp))
  have hT := hT1
  obtain ⟨z1534, e1535, l1536, u1537, rfl, m1538⟩ := hqr1533
  obtain ⟨hkm, hkb, hkd⟩ := m1538
  have hq26 := f26 hT hdT hkd
  refine lv_pop hx hb dX9_takeWord_13 rfl ?_
  have hn1 := nT_le i hi9
  refine lv_iconst (v := 0) hx hb dX9_takeWord_14 (by decide) ?_
  refine lv_istore_n (lv' := [(2, .int 0), (0, .ref w), (1, .ref (cs (100 + i)))]) hx hb dX9_takeWord_15 rfl hl (by decide) rfl (fun ls hl => ?_)
  refine lp_r (B0 := B0) (α := Nat) (nL := 3) (fun a9 => 8 - a9) (fun a9 => (a9 ≤ nT i) ∧ (∀ m9, m9 < a9 → B (skp B pos + m9) = nB i m9)) (fun a9 => [(2, .int (nI a9)), (0, .ref w), (1, .ref (cs (100 + i)))]) ?_ 0 _ _ ⟨(by show (0) ≤ nT i; omega), (fun m9 h9 => absurd h9 (Nat.not_lt_zero _))⟩ hL (lv_sub hl [0, 1, 2] rfl)
  rintro k locs ls ih1539 ⟨hk, hwk⟩ hL hl
  have hl : lv_has ls 3 [(2, .int (nI k)), (0, .ref w), (1, .ref (cs (100 + i)))] := hl
  have hk : k ≤ nT i := hk
  have hwk : ∀ m9, m9 < k → B (skp B pos + m9) = nB i m9 := hwk
  refine lv_iload_n hx hb dX9_takeWord_16 rfl (lv_at hl 0 rfl) ?_
  refine lv_aload_n hx hb dX9_takeWord_17 rfl (lv_at hl 2 rfl) ?_
  refine W.old hL (fun hold => ?_)
  refine cv_i (As := []) (rest := [.int (nI k)]) (b := (cs (100 + i))) ⟨hx, hb, hml, hown, hts⟩ (c_J0_length_8abf5 hT (i := i) hi9) (cwV 0 hts gX9_takeWord_J0_length_8abf5 rfl rfl rfl hdJ0_length_8abf5_v ⟨Nat.le_of_ble_eq_true rfl, Nat.le_of_ble_eq_true rfl⟩) hN hE hL (sx_rec (hE.2.1 _ hi9) hold) rfl rfl hl.1 (Nat.le_of_ble_eq_true rfl) dX9_takeWord_18 (Nat.zero_le _) (Nat.zero_le _) (fun r1540 H1 locs hL hqr1540 => ?_)
  obtain ⟨h9, hqr1540⟩ := hqr1540; replace h9 := h9.symm; subst h9
  obtain rfl := hqr1540
  have hn9 := nT_le _ hi9
  refine lv_icmp_ge (tgt := 48) hx hb dX9_takeWord_21 (by decide) (fun c1541 => ?_) (fun c1541 => ?_)
  · have c1541 : (nT i) ≤ k := (nI_leI (a := (nT i)) (b := k) (by omega) (by omega)).mp c1541
    refine lv_iload_n hx hb dX9_takeWord_48 rfl (lv_at hl 0 rfl) ?_
    refine lv_aload_n hx hb dX9_takeWord_49 rfl (lv_at hl 2 rfl) ?_
    refine W.old hL (fun hold => ?_)
    refine cv_i (As := []) (rest := [.int (nI k)]) (b := (cs (100 + i))) ⟨hx, hb, hml, hown, hts⟩ (c_J0_length_8abf5 hT (i := i) hi9) (cwV 0 hts gX9_takeWord_J0_length_8abf5 rfl rfl rfl hdJ0_length_8abf5_v ⟨Nat.le_of_ble_eq_true rfl, Nat.le_of_ble_eq_true rfl⟩) hN hE hL (sx_rec (hE.2.1 _ hi9) hold) rfl rfl hl.1 (Nat.le_of_ble_eq_true rfl) dX9_takeWord_50 (Nat.zero_le _) (Nat.zero_le _) (fun r1542 H1 locs hL hqr1542 => ?_)
    obtain ⟨h9, hqr1542⟩ := hqr1542; replace h9 := h9.symm; subst h9
    obtain rfl := hqr1542
    have hn9 := nT_le _ hi9
    refine lv_icmp_lt (tgt := 76) hx hb dX9_takeWord_53 (by decide) (fun c1543 => ?_) (fun c1543 => ?_)
    · have c1543 : k < (nT i) := (nI_ltI (a := k) (b := (nT i)) (by omega) (by omega)).mp c1543
      exact absurd c1543 (by omega)
    · have c1543 : ¬ k < (nT i) := fun h9 => c1543 ((nI_ltI (a := k) (b := (nT i)) (by omega) (by omega)).mpr h9)
      have hkk : k = nT i := by omega
      refine lv_aload_n hx hb dX9_takeWord_56 rfl (lv_at hl 1 rfl) ?_
      refine lv_aload_n hx hb dX9_takeWord_57 rfl (lv_at hl 1 rfl) ?_
      obtain ⟨hb1544, e1544, hat1544, hk1544⟩ := hT.o10 hw.1
      obtain ⟨f1544_0, f1544_1, f1544_3, f1544_4, f1544_5, f1544_6, f1544_7, f1544_9, f1544_10, f1544_11, f1544_12, f1544_13, f1544_14, f1544_15, f1544_16, f1544_17, rfl, c1544_2, c1544_3, c1544_4, c1544_12, t1544_1, t1544_8, t1544_9, c1544_sd, t1544_10, t1544_11, t1544_17⟩ := hk1544
      obtain ⟨rfl, rfl, rfl, rfl, rfl, rfl, rfl, rfl, rfl, rfl, rfl, rfl, rfl, rfl, rfl, rfl⟩ := eq10 hat1544 hkm (by omega)
      have hP : va_P D vwCl [(w, .inr (9, [.int th, .ref bu, .int (nI ((κ w).2.2.1)), .int (nI tl), .int (nI z1534), .int 0, .int ea, .int eo, .ref (κ w).2.2.2, .ref sd, .ref dr, .ref hi, .int (nI ud), .int ns, .int ne, .int se, .int td, .ref sk]))] _ := va_P.cons hat1544 va_P.nil
      refine va_get (D := D) (ci := 9) (v := .int (nI z1534)) (C := RX9) (T := TX9) (N := 18) hx hb hts iX9_takeWord_9 hown hN.1 hP 0 rfl rfl 4 (by decide) (hts _ mX9_takeWord_1) (fun _ h9 => h9) rfl dX9_takeWord_58 ?_
      refine lv_iload_n hx hb dX9_takeWord_61 rfl (lv_at hl 0 rfl) ?_
      refine lv_iadd hx hb dX9_takeWord_62 ?_
      refine tp_i (nI (z1534 + k)) (nI_add z1534 k) ?_
      refine cv_i (As := [.int (nI (z1534 + k))]) (rest := []) (b := w) ⟨hx, hb, hml, hown, hts⟩ (c_X9_byteAt hT (w := w) hw (n := (z1534 + k)) (by first | omega | decide | assumption) (by first | omega | decide | assumption) (by first | omega | decide | assumption) (by first | omega | decide | assumption) ⟨hkm, hkb, hkd⟩ (by first | omega | decide | assumption)) (cwV 1 hts gX9_takeWord_X9_byteAt rfl rfl rfl hdX9_byteAt_v ⟨Nat.le_of_ble_eq_true rfl, Nat.le_of_ble_eq_true rfl⟩) hN hE hL (rcv10 hN hT hw.1) rfl rfl hl.1 (Nat.le_of_ble_eq_true rfl) dX9_takeWord_63 (Nat.zero_le _) (Nat.zero_le _) (fun r1545 H1 locs hL hqr1545 => ?_)
      obtain ⟨h9, hqr1545⟩ := hqr1545; replace h9 := h9.symm; subst h9
      obtain rfl := hqr1545
      refine lv_bipush (v := 97) hx hb dX9_takeWord_66 (by decide) ?_
      refine lv_bipush (v := 122) hx hb dX9_takeWord_68 (by decide) ?_
      refine cs_i (As := [.int (B (z1534 + k)), .int 97, .int 122]) (rest := []) ⟨hx, hb, hml, hown, hts⟩ (c_X9_in hT (x := (B (z1534 + k))) (y := 97) (z := 122)) (va_cwS 3 hts gX9_takeWord_X9_in rfl rfl rfl hdX9_in_o ⟨Nat.le_of_ble_eq_true rfl, Nat.le_of_ble_eq_true rfl⟩) hN hE hL rfl rfl hl.1 (Nat.le_of_ble_eq_true rfl) dX9_takeWord_70 (Nat.zero_le _) (Nat.zero_le _) (fun r1546 H1 locs hL hqr1546 => ?_)
      obtain ⟨h9, hqr1546⟩ := hqr1546; replace h9 := h9.symm; subst h9
      rcases hqr1546 with ⟨rfl, o1547⟩ | ⟨rfl, l1548, g1549⟩
      · refine lv_if_eq (tgt := 78) hx hb dX9_takeWord_73 (by decide) (fun _ => ?_) (fun c9 => absurd (by decide) c9)
        have hW : isW B i z1534 := ⟨fun m9 h9 => by rw [e1535]; exact hwk m9 (by omega), fun g9 => by rw [← hkk] at g9; exact (o1547).elim g9.1 g9.2⟩
        have hwl := isW_lt hY (i := i) hi9 hW
        have hw0 : z1534 + nT i ≤ skp B (z1534 + nT i) := run_le
        refine lv_aload_n hx hb dX9_takeWord_78 rfl (lv_at hl 1 rfl) ?_
        refine lv_dup hx hb dX9_takeWord_79 rfl ?_
        refine va_get (D := D) (ci := 9) (v := .int (nI z1534)) (C := RX9) (T := TX9) (N := 18) hx hb hts iX9_takeWord_9 hown hN.1 hP 0 rfl rfl 4 (by decide) (hts _ mX9_takeWord_1) (fun _ h9 => h9) rfl dX9_takeWord_80 ?_
        refine lv_iload_n hx hb dX9_takeWord_83 rfl (lv_at hl 0 rfl) ?_
        refine lv_iadd hx hb dX9_takeWord_84 ?_
        refine tp_i (nI (z1534 + k)) (nI_add z1534 k) ?_
        have hB : Bx B0 D _ [(w, .inr (9, [.int th, .ref bu, .int (nI ((κ w).2.2.1)), .int (nI tl), .int (nI z1534), .int 0, .int ea, .int eo, .ref (κ w).2.2.2, .ref sd, .ref dr, .ref hi, .int (nI ud), .int ns, .int ne, .int se, .int td, .ref sk]))] [] _ _ := Bx.of (fun a => (κ a).1) hL hP (fa_c hb1544 fa_n) (by simp only [List.map_cons, List.map_nil, hw.1]; decide)
        refine b_put (D := D) (ci := 9) (v := .int (nI (z1534 + k))) (ty := .int) (C := RX9) (T := TX9) (N := 18) hx hb hts iX9_takeWord_9 tyX9 tyX9_ok nmX9 hown hN hB 0 rfl rfl 4 (by decide) (hts _ mX9_takeWord_1) (fun _ h9 => h9) rfl (by decide +kernel) rfl rfl (Nat.le_of_ble_eq_true rfl) (.inl rfl) dX9_takeWord_85 (fun H locs hB => ?_)
        have hB : Bx B0 D _ [(w, .inr (9, [.int th, .ref bu, .int (nI ((κ w).2.2.1)), .int (nI tl), .int (nI (z1534 + k)), .int 0, .int ea, .int eo, .ref (κ w).2.2.2, .ref sd, .ref dr, .ref hi, .int (nI ud), .int ns, .int ne, .int se, .int td, .ref sk]))] [w] _ _ := hB
        refine lv_iconst (v := 1) hx hb dX9_takeWord_88 (by decide) ?_
        have hT : WT B0 D cs T κ _ := hT.close hB ⟨⟨0, _, rfl, ok_10 hw.1 ⟨_, _, _, _, _, _, _, _, _, _, _, _, _, _, _, _, rfl, (by omega), (by omega), (by omega), (by omega), t1544_1, t1544_8, t1544_9, c1544_sd, t1544_10, t1544_11, t1544_17⟩⟩, trivial⟩
        have hF : Fr B0 [12] κ H0 _ := hF.close hB (fa_c (by simp [hw.2]) fa_n)
        have hL : OkL B0 _ := hB.2.2.2.2.2
        have hP : va_P D vwCl [(w, .inr (9, [.int th, .ref bu, .int (nI ((κ w).2.2.1)), .int (nI tl), .int (nI (z1534 + k)), .int 0, .int ea, .int eo, .ref (κ w).2.2.2, .ref sd, .ref dr, .ref hi, .int (nI ud), .int ns, .int ne, .int se, .int td, .ref sk]))] _ := hB.1
        have hkm : va_at D vwCl (w, .inr (9, [.int th, .ref bu, .int (nI ((κ w).2.2.1)), .int (nI tl), .int (nI (z1534 + k)), .int 0, .int ea, .int eo, .ref (κ w).2.2.2, .ref sd, .ref dr, .ref hi, .int (nI ud), .int ns, .int ne, .int se, .int td, .ref sk])) _ := hP 0 _ rfl
        have hkb := hkb.kept (hB.2.2.2.1 _ hkb.lt (by simp only [List.mem_cons, List.not_mem_nil, or_false, not_or]; exact ne_c hbT.1 hw.1 (by decide)))
        have hkd := hkd.kept (hB.2.2.2.1 _ hkd.lt (by simp only [List.mem_cons, List.not_mem_nil, or_false, not_or]; exact ne_c hdT.1 hw.1 (by decide)))
        exact en_i hx hb hr hlocks hL rfl (Nat.zero_le _) (Nat.zero_le _) dX9_takeWord_89 (⟨hT, hF, Or.inl ⟨rfl, by rw [← e1535]; exact hW, by rw [← hkk, ← e1535]; exact ⟨hkm, hkb, hkd⟩⟩⟩)
      · refine lv_if_eq (tgt := 78) hx hb dX9_takeWord_73 (by decide) (fun c9 => absurd c9 (by decide)) (fun _ => ?_)
        refine lv_iconst (v := 0) hx hb dX9_takeWord_76 (by decide) ?_
        exact en_i hx hb hr hlocks hL rfl (Nat.zero_le _) (Nat.zero_le _) dX9_takeWord_77 (⟨hT, hF, Or.inr ⟨rfl, by rw [← e1535]; exact (fun g9 => g9.2 (by rw [← hkk]; exact ⟨l1548, g1549⟩)), by rw [← e1535]; exact ⟨hkm, hkb, hkd⟩⟩⟩)
  · have c1541 : ¬ (nT i) ≤ k := fun h9 => c1541 ((nI_leI (a := (nT i)) (b := k) (by omega) (by omega)).mpr h9)
    refine lv_aload_n hx hb dX9_takeWord_24 rfl (lv_at hl 1 rfl) ?_
    refine lv_aload_n hx hb dX9_takeWord_25 rfl (lv_at hl 1 rfl) ?_
    obtain ⟨hb1550, e1550, hat1550, hk1550⟩ := hT.o10 hw.1
    obtain ⟨f1550_0, f1550_1, f1550_3, f1550_4, f1550_5, f1550_6, f1550_7, f1550_9, f1550_10, f1550_11, f1550_12, f1550_13, f1550_14, f1550_15, f1550_16, f1550_17, rfl, c1550_2, c1550_3, c1550_4, c1550_12, t1550_1, t1550_8, t1550_9, c1550_sd, t1550_10, t1550_11, t1550_17⟩ := hk1550
    obtain ⟨rfl, rfl, rfl, rfl, rfl, rfl, rfl, rfl, rfl, rfl, rfl, rfl, rfl, rfl, rfl, rfl⟩ := eq10 hat1550 hkm (by omega)
    have hP : va_P D vwCl [(w, .inr (9, [.int th, .ref bu, .int (nI ((κ w).2.2.1)), .int (nI tl), .int (nI z1534), .int 0, .int ea, .int eo, .ref (κ w).2.2.2, .ref sd, .ref dr, .ref hi, .int (nI ud), .int ns, .int ne, .int se, .int td, .ref sk]))] _ := va_P.cons hat1550 va_P.nil
    refine va_get (D := D) (ci := 9) (v := .int (nI z1534)) (C := RX9) (T := TX9) (N := 18) hx hb hts iX9_takeWord_9 hown hN.1 hP 0 rfl rfl 4 (by decide) (hts _ mX9_takeWord_1) (fun _ h9 => h9) rfl dX9_takeWord_26 ?_
    refine lv_iload_n hx hb dX9_takeWord_29 rfl (lv_at hl 0 rfl) ?_
    refine lv_iadd hx hb dX9_takeWord_30 ?_
    refine tp_i (nI (z1534 + k)) (nI_add z1534 k) ?_
    refine cv_i (As := [.int (nI (z1534 + k))]) (rest := []) (b := w) ⟨hx, hb, hml, hown, hts⟩ (c_X9_byteAt hT (w := w) hw (n := (z1534 + k)) (by first | omega | decide | assumption) (by first | omega | decide | assumption) (by first | omega | decide | assumption) (by first | omega | decide | assumption) ⟨hkm, hkb, hkd⟩ (by first | omega | decide | assumption)) (cwV 1 hts gX9_takeWord_X9_byteAt rfl rfl rfl hdX9_byteAt_v ⟨Nat.le_of_ble_eq_true rfl, Nat.le_of_ble_eq_true rfl⟩) hN hE hL (rcv10 hN hT hw.1) rfl rfl hl.1 (Nat.le_of_ble_eq_true rfl) dX9_takeWord_31 (Nat.zero_le _) (Nat.zero_le _) (fun r1551 H1 locs hL hqr1551 => ?_)
    obtain ⟨h9, hqr1551⟩ := hqr1551; replace h9 := h9.symm; subst h9
    obtain rfl := hqr1551
    refine lv_aload_n hx hb dX9_takeWord_34 rfl (lv_at hl 2 rfl) ?_
    refine lv_iload_n hx hb dX9_takeWord_35 rfl (lv_at hl 0 rfl) ?_
    refine W.old hL (fun hold => ?_)
    refine cv_i (As := [.int (nI k)]) (rest := [.int (B (z1534 + k))]) (b := (cs (100 + i))) ⟨hx, hb, hml, hown, hts⟩ (c_J0_charAt_5068e hT (i := i) hi9 (k := k) (by first | omega | decide | assumption)) (cwV 1 hts gX9_takeWord_J0_charAt_5068e rfl rfl rfl hdJ0_charAt_5068e_v ⟨Nat.le_of_ble_eq_true rfl, Nat.le_of_ble_eq_true rfl⟩) hN hE hL (sx_rec (hE.2.1 _ hi9) hold) rfl rfl hl.1 (Nat.le_of_ble_eq_true rfl) dX9_takeWord_36 (Nat.zero_le _) (Nat.zero_le _) (fun r1552 H1 locs hL hqr1552 => ?_)
    obtain ⟨h9, hqr1552⟩ := hqr1552; replace h9 := h9.symm; subst h9
    obtain rfl := hqr1552
    have hw9 := wc_lt (i := i) (k := k) hi9 (by omega)
    refine lv_icmp_ne (tgt := 48) hx hb dX9_takeWord_39 (by decide) (fun c1553 => ?_) (fun c1553 => ?_)
    · refine lv_iload_n hx hb dX9_takeWord_48 rfl (lv_at hl 0 rfl) ?_
      refine lv_aload_n hx hb dX9_takeWord_49 rfl (lv_at hl 2 rfl) ?_
      refine W.old hL (fun hold => ?_)
      refine cv_i (As := []) (rest := [.int (nI k)]) (b := (cs (100 + i))) ⟨hx, hb, hml, hown, hts⟩ (c_J0_length_8abf5 hT (i := i) hi9) (cwV 0 hts gX9_takeWord_J0_length_8abf5 rfl rfl rfl hdJ0_length_8abf5_v ⟨Nat.le_of_ble_eq_true rfl, Nat.le_of_ble_eq_true rfl⟩) hN hE hL (sx_rec (hE.2.1 _ hi9) hold) rfl rfl hl.1 (Nat.le_of_ble_eq_true rfl) dX9_takeWord_50 (Nat.zero_le _) (Nat.zero_le _) (fun r1554 H1 locs hL hqr1554 => ?_)
      obtain ⟨h9, hqr1554⟩ := hqr1554; replace h9 := h9.symm; subst h9
      obtain rfl := hqr1554
      have hn9 := nT_le _ hi9
      refine lv_icmp_lt (tgt := 76) hx hb dX9_takeWord_53 (by decide) (fun c1555 => ?_) (fun c1555 => ?_)
      · have c1555 : k < (nT i) := (nI_ltI (a := k) (b := (nT i)) (by omega) (by omega)).mp c1555
        refine lv_iconst (v := 0) hx hb dX9_takeWord_76 (by decide) ?_
        exact en_i hx hb hr hlocks hL rfl (Nat.zero_le _) (Nat.zero_le _) dX9_takeWord_77 (⟨hT, hF, Or.inr ⟨rfl, by rw [← e1535]; exact (fun g9 => c1553 (g9.1 k (by omega))), by rw [← e1535]; exact ⟨hkm, hkb, hkd⟩⟩⟩)
      · have c1555 : ¬ k < (nT i) := fun h9 => c1555 ((nI_ltI (a := k) (b := (nT i)) (by omega) (by omega)).mpr h9)
        exact absurd c1555 (by omega)
    · have heq := c1553
      refine lv_iinc (v := (nI (k + 1))) (lv' := [(2, .int (nI (k + 1))), (0, .ref w), (1, .ref (cs (100 + i)))]) hx hb dX9_takeWord_42 hl (k := 0) rfl (nI_add _ 1) (by decide) rfl (fun ls hl => ?_)
      refine lv_goto (tgt := 16) hx hb dX9_takeWord_45 (by decide) ?_
      exact ih1539 (k + 1) _ _ (by show 8 - ((k + 1)) < 8 - k; omega) ⟨(by show ((k + 1)) ≤ nT i; omega), (fun m9 h9 => (Nat.lt_succ_iff_lt_or_eq.mp h9).elim (hwk m9) (fun g9 => by rw [g9, ← e1535]; exact heq))⟩ hL (lv_sub hl [0, 1, 2] rfl)
set_option maxHeartbeats 4000000 in
set_option maxRecDepth 100000 in
theorem c_X9_isDigit {l : Launch} {D : va_G} {cs : Nat → ClassId} {B0 T : Nat} {κ : KM} {H0 : Heap} (hT : WT B0 D cs T κ H0) {x : Int32} : KC l yX9_isDigit wsX9_isDigit 1 22 0 0 D cs B0 H0 [.int x] (Qi (fun r H => H = H0 ∧ ((r = 0 ∧ (x < 48 ∨ 57 < x)) ∨ (r = 1 ∧ ¬ x < 48 ∧ ¬ 57 < x)))) := by
  refine KC.of cX9_isDigit 1 (some .boolean) (by decide) rfl (Nat.le_of_ble_eq_true rfl) ?_
  intro p e s m below meth c ls hx hb hr hml hown hts hlocks hin hN hE hH0 hl
  have hown : s.vm.findClass RX9 = some m.cls := hown
  have hl : lv_has ls 1 [(0, .int x)] := hl
  have hL : OkL B0 [] := OkL.nil
  refine lv_iload_n hx hb dX9_isDigit_0 rfl (lv_at hl 0 rfl) ?_
  refine lv_bipush (v := 48) hx hb dX9_isDigit_1 (by decide) ?_
  refine lv_bipush (v := 57) hx hb dX9_isDigit_3 (by decide) ?_
  refine cs_i (As := [.int x, .int 48, .int 57]) (rest := []) ⟨hx, hb, hml, hown, hts⟩ (c_X9_in hT (x := x) (y := 48) (z := 57)) (va_cwS 3 hts gX9_isDigit_X9_in rfl rfl rfl hdX9_in_o ⟨Nat.le_of_ble_eq_true rfl, Nat.le_of_ble_eq_true rfl⟩) hN hE hL rfl rfl hl.1 (Nat.le_of_ble_eq_true rfl) dX9_isDigit_5 (Nat.zero_le _) (Nat.zero_le _) (fun r1556 H1 locs hL hqr1556 => ?_)
  obtain ⟨h9, hqr1556⟩ := hqr1556; replace h9 := h9.symm; subst h9
  rcases hqr1556 with ⟨rfl, o1557⟩ | ⟨rfl, l1558, g1559⟩
  · exact en_i hx hb hr hlocks hL rfl (Nat.zero_le _) (Nat.zero_le _) dX9_isDigit_8 (⟨rfl, Or.inl ⟨rfl, o1557⟩⟩)
  · exact en_i hx hb hr hlocks hL rfl (Nat.zero_le _) (Nat.zero_le _) dX9_isDigit_8 (⟨rfl, Or.inr ⟨rfl, l1558, g1559⟩⟩)
set_option maxHeartbeats 4000000 in
set_option maxRecDepth 100000 in
theorem c_X9_min_de {l : Launch} {D : va_G} {cs : Nat → ClassId} {B0 T : Nat} {κ : KM} {H0 : Heap} (hT : WT B0 D cs T κ H0) {x y : Nat} (hx9 : x ≤ 2000000000) (hy9 : y ≤ 2000000000) : KC l yX9_min wsX9_min 0 0 0 0 D cs B0 H0 [.int (nI x), .int (nI y)] (Qi (fun r H => H = H0 ∧ r = nI (min x y))) := by
  refine KC.of cX9_min 2 (some .int) (by decide) rfl (Nat.le_of_ble_eq_true rfl) ?_
  intro p e s m below meth c ls hx hb hr hml hown hts hlocks hin hN hE hH0 hl
  have hown : s.vm.findClass RX9 = some m.cls := hown
  have hl : lv_has ls 2 [(0, .int (nI x)), (1, .int (nI y))] := hl
  have hL : OkL B0 [] := OkL.nil
  refine lv_iload_n hx hb dX9_min_0 rfl (lv_at hl 0 rfl) ?_
  refine lv_iload_n hx hb dX9_min_1 rfl (lv_at hl 1 rfl) ?_
  refine lv_icmp_ge (tgt := 9) hx hb dX9_min_2 (by decide) (fun c1560 => ?_) (fun c1560 => ?_)
  · have c1560 : y ≤ x := (nI_leI (a := y) (b := x) (by omega) (by omega)).mp c1560
    refine lv_iload_n hx hb dX9_min_9 rfl (lv_at hl 1 rfl) ?_
    exact en_i hx hb hr hlocks hL rfl (Nat.zero_le _) (Nat.zero_le _) dX9_min_10 (⟨rfl, by rw [show min x y = y by omega]⟩)
  · have c1560 : ¬ y ≤ x := fun h9 => c1560 ((nI_leI (a := y) (b := x) (by omega) (by omega)).mpr h9)
    refine lv_iload_n hx hb dX9_min_5 rfl (lv_at hl 0 rfl) ?_
    refine lv_goto (tgt := 10) hx hb dX9_min_6 (by decide) ?_
    exact en_i hx hb hr hlocks hL rfl (Nat.zero_le _) (Nat.zero_le _) dX9_min_10 (⟨rfl, by rw [show min x y = x by omega]⟩)
set_option maxHeartbeats 4000000 in
set_option maxRecDepth 100000 in
theorem c_X9_number_db {l : Launch} {D : va_G} {cs : Nat → ClassId} {B0 T : Nat} {κ : KM} {H0 : Heap} (hT : WT B0 D cs T κ H0) {hi9 : Nat} {lo9 : Nat} {w : Nat} (hw : T2 κ w 10 12) {bu tl pos sd dr hi ud sk : Nat} {th er ea eo ns ne se td : Int32} {g f B : Nat → Int32} (hY : BY B tl) (hBe : ∀ k, byF g tl k = B k) (hp6 : pos ≤ tl) (hud : ud ≤ 8) (hms : MS D cs w H0 (κ w).2.2.1 (κ w).2.2.2 th bu tl pos er ea eo sd dr hi ud ns ne se td sk g f) (hbad : er ≠ 0) (hlh9 : lo9 ≤ 100000000 ∧ hi9 ≤ 100000000) : KC l yX9_number wsX9_number 1 20 0 0 D cs B0 H0 [.ref w, .int (nI lo9), .int (nI hi9)] (Qi (fun r H => H = H0 ∧ r = 0)) := by
  refine KC.of cX9_number 4 (some .int) (by decide) rfl (Nat.le_of_ble_eq_true rfl) ?_
  intro p e s m below meth c ls hx hb hr hml hown hts hlocks hin hN hE hH0 hl
  have hown : s.vm.findClass RX9 = some m.cls := hown
  have hl : lv_has ls 4 [(0, .ref w), (1, .int (nI lo9)), (2, .int (nI hi9))] := hl
  have hL : OkL B0 [] := OkL.nil
  obtain ⟨hkm, hkb, hkd⟩ := hms
  have h6n := hY.1
  obtain ⟨hbT, hdT, -⟩ := MS.t2 hT hw ⟨by omega, by omega⟩ hkm
  have hq26 := f26 hT hdT hkd
  refine lv_aload_n hx hb dX9_number_0 rfl (lv_at hl 0 rfl) ?_
  refine cv_i (As := []) (rest := []) (b := w) ⟨hx, hb, hml, hown, hts⟩ (c_X9_isGood_db hT (w := w) hw (by first | omega | decide | assumption) (by first | omega | decide | assumption) (by first | omega | decide | assumption) (by first | omega | decide | assumption) ⟨hkm, hkb, hkd⟩ (by first | omega | decide | assumption)) (cwV 0 hts gX9_number_X9_isGood rfl rfl rfl hdX9_isGood_v ⟨Nat.le_of_ble_eq_true rfl, Nat.le_of_ble_eq_true rfl⟩) hN hE hL (rcv10 hN hT hw.1) rfl rfl hl.1 (Nat.le_of_ble_eq_true rfl) dX9_number_1 (Nat.zero_le _) (Nat.zero_le _) (fun r1561 H1 locs hL hqr1561 => ?_)
  obtain ⟨h9, hqr1561⟩ := hqr1561; replace h9 := h9.symm; subst h9
  obtain rfl := hqr1561
  refine lv_if_ne (tgt := 9) hx hb dX9_number_4 (by decide) (fun c9 => absurd (by decide) c9) (fun _ => ?_)
  refine lv_iconst (v := 0) hx hb dX9_number_7 (by decide) ?_
  exact en_i hx hb hr hlocks hL rfl (Nat.zero_le _) (Nat.zero_le _) dX9_number_8 (⟨rfl, rfl⟩)
theorem hdX9_isDigit_o : yX9_isDigit.cls ≠ "java/lang/invoke/MethodHandle" ∧ yX9_isDigit.cls ≠ "java/lang/invoke/VarHandle" ∧ (parseMethodDescriptor yX9_isDigit.desc).map (fun d => d.parameters.length) = some 1 := by decide +kernel
theorem mX9_number_1 : (.fieldLink RX9 53 "OneBeatModel" "position" "I" : Cond) ∈ wsX9_number := List.mem_of_getElem? (i := 1) (by decide +kernel)
theorem iX9_number_9 : ∀ w ∈ wsX90, w ∈ wsX9_number := fun w h => List.mem_of_mem_drop (List.mem_of_mem_take ((show wsX90 = (wsX9_number.drop 34).take 18 by decide +kernel) ▸ h))
theorem mX9_number_2 : (.fieldLink RX9 94 "OneBeatModel" "numberStart" "I" : Cond) ∈ wsX9_number := List.mem_of_getElem? (i := 2) (by decide +kernel)
theorem mX9_number_3 : (.constant RX9 97 (100000000) : Cond) ∈ wsX9_number := List.mem_of_getElem? (i := 3) (by decide +kernel)
set_option maxHeartbeats 4000000 in
set_option maxRecDepth 100000 in
theorem c_X9_number_dg {l : Launch} {D : va_G} {cs : Nat → ClassId} {B0 T : Nat} {κ : KM} {H0 : Heap} (hT : WT B0 D cs T κ H0) {hi9 : Nat} {lo9 : Nat} {w : Nat} (hw : T2 κ w 10 12) {bu tl pos sd dr hi ud sk : Nat} {th ea eo ns ne se td : Int32} {g f B : Nat → Int32} (hY : BY B tl) (hBe : ∀ k, byF g tl k = B k) (hp6 : pos ≤ tl) (hud : ud ≤ 8) (hms : MS D cs w H0 (κ w).2.2.1 (κ w).2.2.2 th bu tl pos 0 ea eo sd dr hi ud ns ne se td sk g f) (hlh9 : lo9 ≤ 100000000 ∧ hi9 ≤ 100000000) : KC l yX9_number wsX9_number 2 42 0 0 D cs B0 H0 [.ref w, .int (nI lo9), .int (nI hi9)] (Qi (fun r H => WT B0 D cs T κ H ∧ Fr B0 [12] κ H0 H ∧ ((¬ isd (B (skp B pos)) ∧ r = 0 ∧ MS D cs w H (κ w).2.2.1 (κ w).2.2.2 th bu tl (skp B pos) (-2) (nI (skp B pos)) eo sd dr hi ud ns ne se td sk g f) ∨ (isd (B (skp B pos)) ∧ lo9 ≤ min (nvl B (skp B pos) 0) 100000000 ∧ min (nvl B (skp B pos) 0) 100000000 ≤ hi9 ∧ r = nI (min (nvl B (skp B pos) 0) 100000000) ∧ MS D cs w H (κ w).2.2.1 (κ w).2.2.2 th bu tl (dgE B (skp B pos)) 0 ea eo sd dr hi ud (nI (skp B pos)) ne se td sk g f) ∨ (isd (B (skp B pos)) ∧ (min (nvl B (skp B pos) 0) 100000000 < lo9 ∨ hi9 < min (nvl B (skp B pos) 0) 100000000) ∧ r = 0 ∧ MS D cs w H (κ w).2.2.1 (κ w).2.2.2 th bu tl (dgE B (skp B pos)) (-3) (nI (skp B pos)) eo sd dr hi ud (nI (skp B pos)) ne se td sk g f)))) := by
  refine KC.of cX9_number 4 (some .int) (by decide) rfl (Nat.le_of_ble_eq_true rfl) ?_
  intro p e s m below meth c ls hx hb hr hml hown hts hlocks hin hN hE hH0 hl
  have hown : s.vm.findClass RX9 = some m.cls := hown
  have hl : lv_has ls 4 [(0, .ref w), (1, .int (nI lo9)), (2, .int (nI hi9))] := hl
  have hL : OkL B0 [] := OkL.nil
  have hF : Fr B0 [12] κ H0 H0 := Fr.rf
  obtain ⟨hkm, hkb, hkd⟩ := hms
  have h6n := hY.1
  obtain ⟨hbT, hdT, -⟩ := MS.t2 hT hw ⟨by omega, by omega⟩ hkm
  have hq26 := f26 hT hdT hkd
  refine lv_aload_n hx hb dX9_number_0 rfl (lv_at hl 0 rfl) ?_
  refine cv_i (As := []) (rest := []) (b := w) ⟨hx, hb, hml, hown, hts⟩ (c_X9_isGood_dg hT (w := w) hw (by first | omega | decide | assumption) (by first | omega | decide | assumption) (by first | omega | decide | assumption) (by first | omega | decide | assumption) ⟨hkm, hkb, hkd⟩) (cwV 0 hts gX9_number_X9_isGood rfl rfl rfl hdX9_isGood_v ⟨Nat.le_of_ble_eq_true rfl, Nat.le_of_ble_eq_true rfl⟩) hN hE hL (rcv10 hN hT hw.1) rfl rfl hl.1 (Nat.le_of_ble_eq_true rfl) dX9_number_1 (Nat.zero_le _) (Nat.zero_le _) (fun r1562 H1 locs hL hqr1562 => ?_)
  obtain ⟨h9, hqr1562⟩ := hqr1562; replace h9 := h9.symm; subst h9
  obtain rfl := hqr1562
  refine lv_if_ne (tgt := 9) hx hb dX9_number_4 (by decide) (fun _ => ?_) (fun c9 => absurd c9 (by decide))
  refine lv_aload_n hx hb dX9_number_9 rfl (lv_at hl 0 rfl) ?_
  refine cv_i (As := []) (rest := []) (b := w) ⟨hx, hb, hml, hown, hts⟩ (c_X9_ahead hT (w := w) hw (by first | omega | decide | assumption) (by first | omega | decide | assumption) (by first | omega | decide | assumption) (by first | omega | decide | assumption) ⟨hkm, hkb, hkd⟩) (cwV 0 hts gX9_number_X9_ahead rfl rfl rfl hdX9_ahead_v ⟨Nat.le_of_ble_eq_true rfl, Nat.le_of_ble_eq_true rfl⟩) hN hE hL (rcv10 hN hT hw.1) rfl rfl hl.1 (Nat.le_of_ble_eq_true rfl) dX9_number_10 (Nat.zero_le _) (Nat.zero_le _) (fun r1563 H1 locs hL hqr1563 => ?_)
  obtain ⟨hT1, hF1, hqr1563⟩ := hqr1563
  have hkb := hF1.hP (va_P.cons hkb va_P.nil) (fa_c ⟨by rw [hbT.1]; decide, by rw [hbT.2]; first | decide | (simp; done) | (simp; omega)⟩ fa_n) 0 _ rfl
  have hkd := hF1.hP (va_P.cons hkd va_P.nil) (fa_c ⟨by rw [hdT.1]; decide, by rw [hdT.2]; first | decide | (simp; done) | (simp; omega)⟩ fa_n) 0 _ rfl
  have hF := hF.tr (hF1.mono (by simp))
  have hT := hT1
  obtain ⟨z1564, e1565, l1566, u1567, rfl, m1568⟩ := hqr1563
  obtain ⟨hkm, hkb, hkd⟩ := m1568
  have hq26 := f26 hT hdT hkd
  refine cs_i (As := [.int (B z1564)]) (rest := []) ⟨hx, hb, hml, hown, hts⟩ (c_X9_isDigit hT (x := (B z1564))) (va_cwS 1 hts gX9_number_X9_isDigit rfl rfl rfl hdX9_isDigit_o ⟨Nat.le_of_ble_eq_true rfl, Nat.le_of_ble_eq_true rfl⟩) hN hE hL rfl rfl hl.1 (Nat.le_of_ble_eq_true rfl) dX9_number_13 (Nat.zero_le _) (Nat.zero_le _) (fun r1569 H1 locs hL hqr1569 => ?_)
  obtain ⟨h9, hqr1569⟩ := hqr1569; replace h9 := h9.symm; subst h9
  rcases hqr1569 with ⟨rfl, o1570⟩ | ⟨rfl, l1571, g1572⟩
  · refine lv_if_ne (tgt := 31) hx hb dX9_number_16 (by decide) (fun c9 => absurd (by decide) c9) (fun _ => ?_)
    have hnd : ¬ isd (B (skp B pos)) := by rw [← e1565]; exact fun g9 => (o1570).elim g9.1 g9.2
    refine lv_aload_n hx hb dX9_number_19 rfl (lv_at hl 0 rfl) ?_
    refine lv_bipush (v := (-2)) hx hb dX9_number_20 (by decide) ?_
    refine lv_aload_n hx hb dX9_number_22 rfl (lv_at hl 0 rfl) ?_
    obtain ⟨hb1573, e1573, hat1573, hk1573⟩ := hT.o10 hw.1
    obtain ⟨f1573_0, f1573_1, f1573_3, f1573_4, f1573_5, f1573_6, f1573_7, f1573_9, f1573_10, f1573_11, f1573_12, f1573_13, f1573_14, f1573_15, f1573_16, f1573_17, rfl, c1573_2, c1573_3, c1573_4, c1573_12, t1573_1, t1573_8, t1573_9, c1573_sd, t1573_10, t1573_11, t1573_17⟩ := hk1573
    obtain ⟨rfl, rfl, rfl, rfl, rfl, rfl, rfl, rfl, rfl, rfl, rfl, rfl, rfl, rfl, rfl, rfl⟩ := eq10 hat1573 hkm (by omega)
    have hP : va_P D vwCl [(w, .inr (9, [.int th, .ref bu, .int (nI ((κ w).2.2.1)), .int (nI tl), .int (nI z1564), .int 0, .int ea, .int eo, .ref (κ w).2.2.2, .ref sd, .ref dr, .ref hi, .int (nI ud), .int ns, .int ne, .int se, .int td, .ref sk]))] _ := va_P.cons hat1573 va_P.nil
    refine va_get (D := D) (ci := 9) (v := .int (nI z1564)) (C := RX9) (T := TX9) (N := 18) hx hb hts iX9_number_9 hown hN.1 hP 0 rfl rfl 4 (by decide) (hts _ mX9_number_1) (fun _ h9 => h9) rfl dX9_number_23 ?_
    refine cv_v (As := [.int (-2), .int (nI z1564)]) (rest := []) (b := w) ⟨hx, hb, hml, hown, hts⟩ (c_X9_report_dg hT (w := w) hw (x := (-2)) (y := (nI z1564)) (by first | omega | decide | assumption) (by first | omega | decide | assumption) (by first | omega | decide | assumption) (by first | omega | decide | assumption) ⟨hkm, hkb, hkd⟩) (cwV 2 hts gX9_number_X9_report rfl rfl rfl hdX9_report_v ⟨Nat.le_of_ble_eq_true rfl, Nat.le_of_ble_eq_true rfl⟩) hN hE hL (rcv10 hN hT hw.1) rfl rfl hl.1 (Nat.le_of_ble_eq_true rfl) dX9_number_26 (Nat.zero_le _) (Nat.zero_le _) (fun H1 locs hL hqr1574 => ?_)
    obtain ⟨hT1, hF1, hqr1574⟩ := hqr1574
    have hkb := hF1.hP (va_P.cons hkb va_P.nil) (fa_c ⟨by rw [hbT.1]; decide, by rw [hbT.2]; first | decide | (simp; done) | (simp; omega)⟩ fa_n) 0 _ rfl
    have hkd := hF1.hP (va_P.cons hkd va_P.nil) (fa_c ⟨by rw [hdT.1]; decide, by rw [hdT.2]; first | decide | (simp; done) | (simp; omega)⟩ fa_n) 0 _ rfl
    have hF := hF.tr (hF1.mono (by simp))
    have hT := hT1
    have m1575 := hqr1574
    obtain ⟨hkm, hkb, hkd⟩ := m1575
    have hq26 := f26 hT hdT hkd
    refine lv_iconst (v := 0) hx hb dX9_number_29 (by decide) ?_
    exact en_i hx hb hr hlocks hL rfl (Nat.zero_le _) (Nat.zero_le _) dX9_number_30 (⟨hT, hF, Or.inl ⟨hnd, rfl, by rw [← e1565]; exact ⟨hkm, hkb, hkd⟩⟩⟩)
  · refine lv_if_ne (tgt := 31) hx hb dX9_number_16 (by decide) (fun _ => ?_) (fun c9 => absurd c9 (by decide))
    have hd0 : isd (B z1564) := ⟨l1571, g1572⟩
    refine lv_aload_n hx hb dX9_number_31 rfl (lv_at hl 0 rfl) ?_
    refine lv_aload_n hx hb dX9_number_32 rfl (lv_at hl 0 rfl) ?_
    obtain ⟨hb1576, e1576, hat1576, hk1576⟩ := hT.o10 hw.1
    obtain ⟨f1576_0, f1576_1, f1576_3, f1576_4, f1576_5, f1576_6, f1576_7, f1576_9, f1576_10, f1576_11, f1576_12, f1576_13, f1576_14, f1576_15, f1576_16, f1576_17, rfl, c1576_2, c1576_3, c1576_4, c1576_12, t1576_1, t1576_8, t1576_9, c1576_sd, t1576_10, t1576_11, t1576_17⟩ := hk1576
    obtain ⟨rfl, rfl, rfl, rfl, rfl, rfl, rfl, rfl, rfl, rfl, rfl, rfl, rfl, rfl, rfl, rfl⟩ := eq10 hat1576 hkm (by omega)
    have hP : va_P D vwCl [(w, .inr (9, [.int th, .ref bu, .int (nI ((κ w).2.2.1)), .int (nI tl), .int (nI z1564), .int 0, .int ea, .int eo, .ref (κ w).2.2.2, .ref sd, .ref dr, .ref hi, .int (nI ud), .int ns, .int ne, .int se, .int td, .ref sk]))] _ := va_P.cons hat1576 va_P.nil
    refine va_get (D := D) (ci := 9) (v := .int (nI z1564)) (C := RX9) (T := TX9) (N := 18) hx hb hts iX9_number_9 hown hN.1 hP 0 rfl rfl 4 (by decide) (hts _ mX9_number_1) (fun _ h9 => h9) rfl dX9_number_33 ?_
    refine tp_i (nI (skp B pos)) (by rw [e1565]) ?_
    have hB : Bx B0 D _ [(w, .inr (9, [.int th, .ref bu, .int (nI ((κ w).2.2.1)), .int (nI tl), .int (nI z1564), .int 0, .int ea, .int eo, .ref (κ w).2.2.2, .ref sd, .ref dr, .ref hi, .int (nI ud), .int ns, .int ne, .int se, .int td, .ref sk]))] [] _ _ := Bx.of (fun a => (κ a).1) hL hP (fa_c hb1576 fa_n) (by simp only [List.map_cons, List.map_nil, hw.1]; decide)
    refine b_put (D := D) (ci := 9) (v := .int (nI ((skp B pos)))) (ty := .int) (C := RX9) (T := TX9) (N := 18) hx hb hts iX9_number_9 tyX9 tyX9_ok nmX9 hown hN hB 0 rfl rfl 13 (by decide) (hts _ mX9_number_2) (fun _ h9 => h9) rfl (by decide +kernel) rfl rfl (Nat.le_of_ble_eq_true rfl) (.inl rfl) dX9_number_36 (fun H locs hB => ?_)
    have hB : Bx B0 D _ [(w, .inr (9, [.int th, .ref bu, .int (nI ((κ w).2.2.1)), .int (nI tl), .int (nI z1564), .int 0, .int ea, .int eo, .ref (κ w).2.2.2, .ref sd, .ref dr, .ref hi, .int (nI ud), .int (nI ((skp B pos))), .int ne, .int se, .int td, .ref sk]))] [w] _ _ := hB
    refine lv_iconst (v := 0) hx hb dX9_number_39 (by decide) ?_
    refine lv_istore_n (lv' := [(3, .int 0), (0, .ref w), (1, .int (nI lo9)), (2, .int (nI hi9))]) hx hb dX9_number_40 rfl hl (by decide) rfl (fun ls hl => ?_)
    have hT : WT B0 D cs T κ _ := hT.close hB ⟨⟨0, _, rfl, ok_10 hw.1 ⟨_, _, _, _, _, _, _, _, _, _, _, _, _, _, _, _, rfl, (by omega), (by omega), (by omega), (by omega), t1576_1, t1576_8, t1576_9, c1576_sd, t1576_10, t1576_11, t1576_17⟩⟩, trivial⟩
    have hF : Fr B0 [12] κ H0 _ := hF.close hB (fa_c (by simp [hw.2]) fa_n)
    have hL : OkL B0 _ := hB.2.2.2.2.2
    have hP : va_P D vwCl [(w, .inr (9, [.int th, .ref bu, .int (nI ((κ w).2.2.1)), .int (nI tl), .int (nI z1564), .int 0, .int ea, .int eo, .ref (κ w).2.2.2, .ref sd, .ref dr, .ref hi, .int (nI ud), .int (nI ((skp B pos))), .int ne, .int se, .int td, .ref sk]))] _ := hB.1
    have hkm : va_at D vwCl (w, .inr (9, [.int th, .ref bu, .int (nI ((κ w).2.2.1)), .int (nI tl), .int (nI z1564), .int 0, .int ea, .int eo, .ref (κ w).2.2.2, .ref sd, .ref dr, .ref hi, .int (nI ud), .int (nI ((skp B pos))), .int ne, .int se, .int td, .ref sk])) _ := hP 0 _ rfl
    have hkb := hkb.kept (hB.2.2.2.1 _ hkb.lt (by simp only [List.mem_cons, List.not_mem_nil, or_false, not_or]; exact ne_c hbT.1 hw.1 (by decide)))
    have hkd := hkd.kept (hB.2.2.2.1 _ hkd.lt (by simp only [List.mem_cons, List.not_mem_nil, or_false, not_or]; exact ne_c hdT.1 hw.1 (by decide)))
    refine lp_m (α := Nat × Nat × Nat) (nL := 4) (fun a9 => 600 - a9.1) (fun a9 H9 l9 => (skp B pos ≤ a9.1 ∧ a9.1 ≤ tl) ∧ (nvl B a9.1 a9.2.1 = nvl B (skp B pos) 0 ∧ dgE B a9.1 = dgE B (skp B pos)) ∧ (a9.2.2 = min a9.2.1 100000000) ∧ (MS D cs w H9 (κ w).2.2.1 (κ w).2.2.2 th bu tl a9.1 0 ea eo sd dr hi ud (nI (skp B pos)) ne se td sk g f) ∧ (WT B0 D cs T κ H9) ∧ (Fr B0 [12] κ H0 H9) ∧ (OkL B0 l9)) (fun a9 => [(3, .int (nI a9.2.2)), (0, .ref w), (1, .int (nI lo9)), (2, .int (nI hi9))]) ?_ (z1564, 0, 0) _ _ _ ⟨(by show skp B pos ≤ (z1564) ∧ (z1564) ≤ tl; omega), ⟨congrArg (fun q => nvl B q 0) e1565, congrArg (fun q => dgE B q) e1565⟩, (by show (0 : Nat) = min 0 100000000; omega), ⟨hkm, hkb, hkd⟩, hT, hF, hL⟩ (lv_sub hl [0, 1, 2, 3] rfl)
    rintro ⟨k1, u2, v3⟩ H locs ls ih1577 ⟨hk1, hu, hv3, hms9, hT, hF, hL⟩ hl
    have hl : lv_has ls 4 [(3, .int (nI v3)), (0, .ref w), (1, .int (nI lo9)), (2, .int (nI hi9))] := hl
    have hk1 : skp B pos ≤ k1 ∧ k1 ≤ tl := hk1
    have hu : nvl B k1 u2 = nvl B (skp B pos) 0 ∧ dgE B k1 = dgE B (skp B pos) := hu
    have hv3 : v3 = min u2 100000000 := hv3
    have hms9 : MS D cs w H (κ w).2.2.1 (κ w).2.2.2 th bu tl k1 0 ea eo sd dr hi ud (nI (skp B pos)) ne se td sk g f := hms9
    obtain ⟨hkm, hkb, hkd⟩ := hms9
    have hq26 := f26 hT hdT hkd
    refine lv_aload_n hx hb dX9_number_41 rfl (lv_at hl 1 rfl) ?_
    refine lv_aload_n hx hb dX9_number_42 rfl (lv_at hl 1 rfl) ?_
    obtain ⟨hb1578, e1578, hat1578, hk1578⟩ := hT.o10 hw.1
    obtain ⟨f1578_0, f1578_1, f1578_3, f1578_4, f1578_5, f1578_6, f1578_7, f1578_9, f1578_10, f1578_11, f1578_12, f1578_13, f1578_14, f1578_15, f1578_16, f1578_17, rfl, c1578_2, c1578_3, c1578_4, c1578_12, t1578_1, t1578_8, t1578_9, c1578_sd, t1578_10, t1578_11, t1578_17⟩ := hk1578
    obtain ⟨rfl, rfl, rfl, rfl, rfl, rfl, rfl, rfl, rfl, rfl, rfl, rfl, rfl, rfl, rfl, rfl⟩ := eq10 hat1578 hkm (by omega)
    have hP : va_P D vwCl [(w, .inr (9, [.int th, .ref bu, .int (nI ((κ w).2.2.1)), .int (nI tl), .int (nI k1), .int 0, .int ea, .int eo, .ref (κ w).2.2.2, .ref sd, .ref dr, .ref hi, .int (nI ud), .int (nI ((skp B pos))), .int ne, .int se, .int td, .ref sk]))] _ := va_P.cons hat1578 va_P.nil
    refine va_get (D := D) (ci := 9) (v := .int (nI k1)) (C := RX9) (T := TX9) (N := 18) hx hb hts iX9_number_9 hown hN.1 hP 0 rfl rfl 4 (by decide) (hts _ mX9_number_1) (fun _ h9 => h9) rfl dX9_number_43 ?_
    refine cv_i (As := [.int (nI k1)]) (rest := []) (b := w) ⟨hx, hb, hml, hown, hts⟩ (c_X9_byteAt hT (w := w) hw (n := k1) (by first | omega | decide | assumption) (by first | omega | decide | assumption) (by first | omega | decide | assumption) (by first | omega | decide | assumption) ⟨hkm, hkb, hkd⟩ (by first | omega | decide | assumption)) (cwV 1 hts gX9_number_X9_byteAt rfl rfl rfl hdX9_byteAt_v ⟨Nat.le_of_ble_eq_true rfl, Nat.le_of_ble_eq_true rfl⟩) hN hE hL (rcv10 hN hT hw.1) rfl rfl hl.1 (Nat.le_of_ble_eq_true rfl) dX9_number_46 (Nat.zero_le _) (Nat.zero_le _) (fun r1579 H1 locs hL hqr1579 => ?_)
    obtain ⟨h9, hqr1579⟩ := hqr1579; replace h9 := h9.symm; subst h9
    obtain rfl := hqr1579
    refine cs_i (As := [.int (B k1)]) (rest := []) ⟨hx, hb, hml, hown, hts⟩ (c_X9_isDigit hT (x := (B k1))) (va_cwS 1 hts gX9_number_X9_isDigit rfl rfl rfl hdX9_isDigit_o ⟨Nat.le_of_ble_eq_true rfl, Nat.le_of_ble_eq_true rfl⟩) hN hE hL rfl rfl hl.1 (Nat.le_of_ble_eq_true rfl) dX9_number_49 (Nat.zero_le _) (Nat.zero_le _) (fun r1580 H1 locs hL hqr1580 => ?_)
    obtain ⟨h9, hqr1580⟩ := hqr1580; replace h9 := h9.symm; subst h9
    rcases hqr1580 with ⟨rfl, o1581⟩ | ⟨rfl, l1582, g1583⟩
    · refine lv_if_eq (tgt := 90) hx hb dX9_number_52 (by decide) (fun _ => ?_) (fun c9 => absurd (by decide) c9)
      have hnd : ¬ isd (B k1) := fun g9 => (o1581).elim g9.1 g9.2
      have hu : u2 = nvl B (skp B pos) 0 ∧ k1 = dgE B (skp B pos) := ⟨(nvl_n hnd).symm.trans hu.1, (run_n (P := isd) hnd).symm.trans hu.2⟩
      have hd1 : isd (B (skp B pos)) := by rw [← e1565]; exact hd0
      refine lv_iload_n hx hb dX9_number_90 rfl (lv_at hl 0 rfl) ?_
      refine lv_iload_n hx hb dX9_number_91 rfl (lv_at hl 2 rfl) ?_
      refine lv_iload_n hx hb dX9_number_92 rfl (lv_at hl 3 rfl) ?_
      refine cs_i (As := [.int (nI v3), .int (nI lo9), .int (nI hi9)]) (rest := []) ⟨hx, hb, hml, hown, hts⟩ (c_X9_in hT (x := (nI v3)) (y := (nI lo9)) (z := (nI hi9))) (va_cwS 3 hts gX9_number_X9_in rfl rfl rfl hdX9_in_o ⟨Nat.le_of_ble_eq_true rfl, Nat.le_of_ble_eq_true rfl⟩) hN hE hL rfl rfl hl.1 (Nat.le_of_ble_eq_true rfl) dX9_number_93 (Nat.zero_le _) (Nat.zero_le _) (fun r1584 H1 locs hL hqr1584 => ?_)
      obtain ⟨h9, hqr1584⟩ := hqr1584; replace h9 := h9.symm; subst h9
      rcases hqr1584 with ⟨rfl, o1585⟩ | ⟨rfl, l1586, g1587⟩
      · refine lv_if_ne (tgt := 109) hx hb dX9_number_96 (by decide) (fun c9 => absurd (by decide) c9) (fun _ => ?_)
        have hrg : min (nvl B (skp B pos) 0) 100000000 < lo9 ∨ hi9 < min (nvl B (skp B pos) 0) 100000000 := (o1585).elim (fun g9 => Or.inl (by have h9 := (nI_ltI (a := v3) (b := lo9) (by omega) (by omega)).mp g9; omega)) (fun g9 => Or.inr (by have h9 := (nI_ltI (a := hi9) (b := v3) (by omega) (by omega)).mp g9; omega))
        refine lv_aload_n hx hb dX9_number_99 rfl (lv_at hl 1 rfl) ?_
        refine lv_bipush (v := (-3)) hx hb dX9_number_100 (by decide) ?_
        refine lv_aload_n hx hb dX9_number_102 rfl (lv_at hl 1 rfl) ?_
        refine va_get (D := D) (ci := 9) (v := .int (nI ((skp B pos)))) (C := RX9) (T := TX9) (N := 18) hx hb hts iX9_number_9 hown hN.1 hP 0 rfl rfl 13 (by decide) (hts _ mX9_number_2) (fun _ h9 => h9) rfl dX9_number_103 ?_
        refine cv_v (As := [.int (-3), .int (nI ((skp B pos)))]) (rest := []) (b := w) ⟨hx, hb, hml, hown, hts⟩ (c_X9_report_dg hT (w := w) hw (x := (-3)) (y := (nI ((skp B pos)))) (by first | omega | decide | assumption) (by first | omega | decide | assumption) (by first | omega | decide | assumption) (by first | omega | decide | assumption) ⟨hkm, hkb, hkd⟩) (cwV 2 hts gX9_number_X9_report rfl rfl rfl hdX9_report_v ⟨Nat.le_of_ble_eq_true rfl, Nat.le_of_ble_eq_true rfl⟩) hN hE hL (rcv10 hN hT hw.1) rfl rfl hl.1 (Nat.le_of_ble_eq_true rfl) dX9_number_106 (Nat.zero_le _) (Nat.zero_le _) (fun H1 locs hL hqr1588 => ?_)
        obtain ⟨hT1, hF1, hqr1588⟩ := hqr1588
        have hkb := hF1.hP (va_P.cons hkb va_P.nil) (fa_c ⟨by rw [hbT.1]; decide, by rw [hbT.2]; first | decide | (simp; done) | (simp; omega)⟩ fa_n) 0 _ rfl
        have hkd := hF1.hP (va_P.cons hkd va_P.nil) (fa_c ⟨by rw [hdT.1]; decide, by rw [hdT.2]; first | decide | (simp; done) | (simp; omega)⟩ fa_n) 0 _ rfl
        have hF := hF.tr (hF1.mono (by simp))
        have hT := hT1
        have m1589 := hqr1588
        obtain ⟨hkm, hkb, hkd⟩ := m1589
        have hq26 := f26 hT hdT hkd
        refine lv_aload_n hx hb dX9_number_109 rfl (lv_at hl 1 rfl) ?_
        refine cv_i (As := []) (rest := []) (b := w) ⟨hx, hb, hml, hown, hts⟩ (c_X9_isGood_db hT (w := w) hw (by first | omega | decide | assumption) (by first | omega | decide | assumption) (by first | omega | decide | assumption) (by first | omega | decide | assumption) ⟨hkm, hkb, hkd⟩ (by first | omega | decide | assumption)) (cwV 0 hts gX9_number_X9_isGood rfl rfl rfl hdX9_isGood_v ⟨Nat.le_of_ble_eq_true rfl, Nat.le_of_ble_eq_true rfl⟩) hN hE hL (rcv10 hN hT hw.1) rfl rfl hl.1 (Nat.le_of_ble_eq_true rfl) dX9_number_110 (Nat.zero_le _) (Nat.zero_le _) (fun r1590 H1 locs hL hqr1590 => ?_)
        obtain ⟨h9, hqr1590⟩ := hqr1590; replace h9 := h9.symm; subst h9
        obtain rfl := hqr1590
        refine lv_if_eq (tgt := 120) hx hb dX9_number_113 (by decide) (fun _ => ?_) (fun c9 => absurd (by decide) c9)
        refine lv_iconst (v := 0) hx hb dX9_number_120 (by decide) ?_
        exact en_i hx hb hr hlocks hL rfl (Nat.zero_le _) (Nat.zero_le _) dX9_number_121 (⟨hT, hF, Or.inr (Or.inr ⟨hd1, hrg, rfl, by rw [← hu.2]; exact ⟨hkm, hkb, hkd⟩⟩)⟩)
      · refine lv_if_ne (tgt := 109) hx hb dX9_number_96 (by decide) (fun _ => ?_) (fun c9 => absurd c9 (by decide))
        refine lv_aload_n hx hb dX9_number_109 rfl (lv_at hl 1 rfl) ?_
        refine cv_i (As := []) (rest := []) (b := w) ⟨hx, hb, hml, hown, hts⟩ (c_X9_isGood_dg hT (w := w) hw (by first | omega | decide | assumption) (by first | omega | decide | assumption) (by first | omega | decide | assumption) (by first | omega | decide | assumption) ⟨hkm, hkb, hkd⟩) (cwV 0 hts gX9_number_X9_isGood rfl rfl rfl hdX9_isGood_v ⟨Nat.le_of_ble_eq_true rfl, Nat.le_of_ble_eq_true rfl⟩) hN hE hL (rcv10 hN hT hw.1) rfl rfl hl.1 (Nat.le_of_ble_eq_true rfl) dX9_number_110 (Nat.zero_le _) (Nat.zero_le _) (fun r1591 H1 locs hL hqr1591 => ?_)
        obtain ⟨h9, hqr1591⟩ := hqr1591; replace h9 := h9.symm; subst h9
        obtain rfl := hqr1591
        refine lv_if_eq (tgt := 120) hx hb dX9_number_113 (by decide) (fun c9 => absurd c9 (by decide)) (fun _ => ?_)
        refine lv_iload_n hx hb dX9_number_116 rfl (lv_at hl 0 rfl) ?_
        refine lv_goto (tgt := 121) hx hb dX9_number_117 (by decide) ?_
        have hl7 : ¬ v3 < lo9 := (fun g9 => l1586 ((nI_ltI (a := v3) (b := lo9) (by omega) (by omega)).mpr g9))
        have hl8 : ¬ hi9 < v3 := (fun g9 => g1587 ((nI_ltI (a := hi9) (b := v3) (by omega) (by omega)).mpr g9))
        exact en_i hx hb hr hlocks hL rfl (Nat.zero_le _) (Nat.zero_le _) dX9_number_121 (⟨hT, hF, Or.inr (Or.inl ⟨hd1, by omega, by omega, by rw [hv3, hu.1], by rw [← hu.2]; exact ⟨hkm, hkb, hkd⟩⟩)⟩)
    · refine lv_if_eq (tgt := 90) hx hb dX9_number_52 (by decide) (fun c9 => absurd c9 (by decide)) (fun _ => ?_)
      have hdd : isd (B k1) := ⟨l1582, g1583⟩
      have hdg := dg_lt hY hdd
      have hl9 := hY.lt (k := k1) (fun g9 => by rw [g9] at hdd; exact absurd hdd (by decide))
      refine lv_ldc (v := 100000000) hx hb hown (hts _ mX9_number_3) dX9_number_55 ?_
      refine lv_bipush (v := 10) hx hb dX9_number_57 (by decide) ?_
      refine lv_iload_n hx hb dX9_number_59 rfl (lv_at hl 0 rfl) ?_
      refine lv_imul hx hb dX9_number_60 ?_
      refine tp_i (nI (10 * v3)) (nI_mul 10 v3) ?_
      refine lv_aload_n hx hb dX9_number_61 rfl (lv_at hl 1 rfl) ?_
      refine lv_aload_n hx hb dX9_number_62 rfl (lv_at hl 1 rfl) ?_
      refine va_get (D := D) (ci := 9) (v := .int (nI k1)) (C := RX9) (T := TX9) (N := 18) hx hb hts iX9_number_9 hown hN.1 hP 0 rfl rfl 4 (by decide) (hts _ mX9_number_1) (fun _ h9 => h9) rfl dX9_number_63 ?_
      refine cv_i (As := [.int (nI k1)]) (rest := [.int (nI (10 * v3)), .int 100000000]) (b := w) ⟨hx, hb, hml, hown, hts⟩ (c_X9_byteAt hT (w := w) hw (n := k1) (by first | omega | decide | assumption) (by first | omega | decide | assumption) (by first | omega | decide | assumption) (by first | omega | decide | assumption) ⟨hkm, hkb, hkd⟩ (by first | omega | decide | assumption)) (cwV 1 hts gX9_number_X9_byteAt rfl rfl rfl hdX9_byteAt_v ⟨Nat.le_of_ble_eq_true rfl, Nat.le_of_ble_eq_true rfl⟩) hN hE hL (rcv10 hN hT hw.1) rfl rfl hl.1 (Nat.le_of_ble_eq_true rfl) dX9_number_66 (Nat.zero_le _) (Nat.zero_le _) (fun r1592 H1 locs hL hqr1592 => ?_)
      obtain ⟨h9, hqr1592⟩ := hqr1592; replace h9 := h9.symm; subst h9
      obtain rfl := hqr1592
      refine lv_iadd hx hb dX9_number_69 ?_
      refine lv_bipush (v := 48) hx hb dX9_number_70 (by decide) ?_
      refine lv_isub hx hb dX9_number_72 ?_
      refine tp_i (nI ((10 * v3 + dg (B k1)))) (dg_ar2 hY hdd) ?_
      refine cs_i (As := [.int 100000000, .int (nI ((10 * v3 + dg (B k1))))]) (rest := []) ⟨hx, hb, hml, hown, hts⟩ (c_X9_min_de hT (x := 100000000) (y := ((10 * v3 + dg (B k1)))) (by first | omega | decide | assumption) (by first | omega | decide | assumption)) (va_cwS 2 hts gX9_number_X9_min rfl rfl rfl hdX9_min_o ⟨Nat.le_of_ble_eq_true rfl, Nat.le_of_ble_eq_true rfl⟩) hN hE hL rfl rfl hl.1 (Nat.le_of_ble_eq_true rfl) dX9_number_73 (Nat.zero_le _) (Nat.zero_le _) (fun r1593 H1 locs hL hqr1593 => ?_)
      obtain ⟨h9, hqr1593⟩ := hqr1593; replace h9 := h9.symm; subst h9
      obtain rfl := hqr1593
      refine tp_i (nI (min (10 * u2 + dg (B k1)) 100000000)) (by rw [show min 100000000 (10 * v3 + dg (B k1)) = min (10 * u2 + dg (B k1)) 100000000 by omega]) ?_
      refine lv_istore_n (lv' := [(3, .int (nI ((min (10 * u2 + dg (B k1)) 100000000)))), (0, .ref w), (1, .int (nI lo9)), (2, .int (nI hi9))]) hx hb dX9_number_76 rfl hl (by decide) rfl (fun ls hl => ?_)
      refine lv_aload_n hx hb dX9_number_77 rfl (lv_at hl 1 rfl) ?_
      refine lv_dup hx hb dX9_number_78 rfl ?_
      refine va_get (D := D) (ci := 9) (v := .int (nI k1)) (C := RX9) (T := TX9) (N := 18) hx hb hts iX9_number_9 hown hN.1 hP 0 rfl rfl 4 (by decide) (hts _ mX9_number_1) (fun _ h9 => h9) rfl dX9_number_79 ?_
      refine lv_iconst (v := 1) hx hb dX9_number_82 (by decide) ?_
      refine lv_iadd hx hb dX9_number_83 ?_
      refine tp_i (nI (k1 + 1)) (nI_add k1 1) ?_
      have hB : Bx B0 D _ [(w, .inr (9, [.int th, .ref bu, .int (nI ((κ w).2.2.1)), .int (nI tl), .int (nI k1), .int 0, .int ea, .int eo, .ref (κ w).2.2.2, .ref sd, .ref dr, .ref hi, .int (nI ud), .int (nI ((skp B pos))), .int ne, .int se, .int td, .ref sk]))] [] _ _ := Bx.of (fun a => (κ a).1) hL hP (fa_c hb1578 fa_n) (by simp only [List.map_cons, List.map_nil, hw.1]; decide)
      refine b_put (D := D) (ci := 9) (v := .int (nI (k1 + 1))) (ty := .int) (C := RX9) (T := TX9) (N := 18) hx hb hts iX9_number_9 tyX9 tyX9_ok nmX9 hown hN hB 0 rfl rfl 4 (by decide) (hts _ mX9_number_1) (fun _ h9 => h9) rfl (by decide +kernel) rfl rfl (Nat.le_of_ble_eq_true rfl) (.inl rfl) dX9_number_84 (fun H locs hB => ?_)
      have hB : Bx B0 D _ [(w, .inr (9, [.int th, .ref bu, .int (nI ((κ w).2.2.1)), .int (nI tl), .int (nI (k1 + 1)), .int 0, .int ea, .int eo, .ref (κ w).2.2.2, .ref sd, .ref dr, .ref hi, .int (nI ud), .int (nI ((skp B pos))), .int ne, .int se, .int td, .ref sk]))] [w] _ _ := hB
      refine lv_goto (tgt := 41) hx hb dX9_number_87 (by decide) ?_
      have hT : WT B0 D cs T κ _ := hT.close hB ⟨⟨0, _, rfl, ok_10 hw.1 ⟨_, _, _, _, _, _, _, _, _, _, _, _, _, _, _, _, rfl, (by omega), (by omega), (by omega), (by omega), t1578_1, t1578_8, t1578_9, c1578_sd, t1578_10, t1578_11, t1578_17⟩⟩, trivial⟩
      have hF : Fr B0 [12] κ H0 _ := hF.close hB (fa_c (by simp [hw.2]) fa_n)
      have hL : OkL B0 _ := hB.2.2.2.2.2
      have hP : va_P D vwCl [(w, .inr (9, [.int th, .ref bu, .int (nI ((κ w).2.2.1)), .int (nI tl), .int (nI (k1 + 1)), .int 0, .int ea, .int eo, .ref (κ w).2.2.2, .ref sd, .ref dr, .ref hi, .int (nI ud), .int (nI ((skp B pos))), .int ne, .int se, .int td, .ref sk]))] _ := hB.1
      have hkm : va_at D vwCl (w, .inr (9, [.int th, .ref bu, .int (nI ((κ w).2.2.1)), .int (nI tl), .int (nI (k1 + 1)), .int 0, .int ea, .int eo, .ref (κ w).2.2.2, .ref sd, .ref dr, .ref hi, .int (nI ud), .int (nI ((skp B pos))), .int ne, .int se, .int td, .ref sk])) _ := hP 0 _ rfl
      have hkb := hkb.kept (hB.2.2.2.1 _ hkb.lt (by simp only [List.mem_cons, List.not_mem_nil, or_false, not_or]; exact ne_c hbT.1 hw.1 (by decide)))
      have hkd := hkd.kept (hB.2.2.2.1 _ hkd.lt (by simp only [List.mem_cons, List.not_mem_nil, or_false, not_or]; exact ne_c hdT.1 hw.1 (by decide)))
      exact ih1577 ((k1 + 1), (10 * u2 + dg (B k1)), ((min (10 * u2 + dg (B k1)) 100000000))) _ _ _ (by show 600 - ((k1 + 1)) < 600 - k1; omega) ⟨(by show skp B pos ≤ ((k1 + 1)) ∧ ((k1 + 1)) ≤ tl; omega), ⟨(nvl_y hdd (by omega)).symm.trans hu.1, (run_y (P := isd) hdd (by omega)).symm.trans hu.2⟩, rfl, ⟨hkm, hkb, hkd⟩, hT, hF, hL⟩ (lv_sub hl [0, 1, 2, 3] rfl)
set_option maxHeartbeats 4000000 in
set_option maxRecDepth 100000 in
theorem c_X9_signed_db {l : Launch} {D : va_G} {cs : Nat → ClassId} {B0 T : Nat} {κ : KM} {H0 : Heap} (hT : WT B0 D cs T κ H0) {mm : Nat} {w : Nat} (hw : T2 κ w 10 12) {bu tl pos sd dr hi ud sk : Nat} {th er ea eo ns ne se td : Int32} {g f B : Nat → Int32} (hY : BY B tl) (hBe : ∀ k, byF g tl k = B k) (hp6 : pos ≤ tl) (hud : ud ≤ 8) (hms : MS D cs w H0 (κ w).2.2.1 (κ w).2.2.2 th bu tl pos er ea eo sd dr hi ud ns ne se td sk g f) (hbad : er ≠ 0) (hmm : mm ≤ 999) : KC l yX9_signed wsX9_signed 1 20 0 0 D cs B0 H0 [.ref w, .int (nI mm)] (Qi (fun r H => H = H0 ∧ r = 0)) := by
  refine KC.of cX9_signed 5 (some .int) (by decide) rfl (Nat.le_of_ble_eq_true rfl) ?_
  intro p e s m below meth c ls hx hb hr hml hown hts hlocks hin hN hE hH0 hl
  have hown : s.vm.findClass RX9 = some m.cls := hown
  have hl : lv_has ls 5 [(0, .ref w), (1, .int (nI mm))] := hl
  have hL : OkL B0 [] := OkL.nil
  obtain ⟨hkm, hkb, hkd⟩ := hms
  have h6n := hY.1
  obtain ⟨hbT, hdT, -⟩ := MS.t2 hT hw ⟨by omega, by omega⟩ hkm
  have hq26 := f26 hT hdT hkd
  refine lv_aload_n hx hb dX9_signed_0 rfl (lv_at hl 0 rfl) ?_
  refine cv_i (As := []) (rest := []) (b := w) ⟨hx, hb, hml, hown, hts⟩ (c_X9_isGood_db hT (w := w) hw (by first | omega | decide | assumption) (by first | omega | decide | assumption) (by first | omega | decide | assumption) (by first | omega | decide | assumption) ⟨hkm, hkb, hkd⟩ (by first | omega | decide | assumption)) (cwV 0 hts gX9_signed_X9_isGood rfl rfl rfl hdX9_isGood_v ⟨Nat.le_of_ble_eq_true rfl, Nat.le_of_ble_eq_true rfl⟩) hN hE hL (rcv10 hN hT hw.1) rfl rfl hl.1 (Nat.le_of_ble_eq_true rfl) dX9_signed_1 (Nat.zero_le _) (Nat.zero_le _) (fun r1594 H1 locs hL hqr1594 => ?_)
  obtain ⟨h9, hqr1594⟩ := hqr1594; replace h9 := h9.symm; subst h9
  obtain rfl := hqr1594
  refine lv_if_ne (tgt := 9) hx hb dX9_signed_4 (by decide) (fun c9 => absurd (by decide) c9) (fun _ => ?_)
  refine lv_iconst (v := 0) hx hb dX9_signed_7 (by decide) ?_
  exact en_i hx hb hr hlocks hL rfl (Nat.zero_le _) (Nat.zero_le _) dX9_signed_8 (⟨rfl, rfl⟩)
theorem mX9_signed_1 : (.fieldLink RX9 53 "OneBeatModel" "position" "I" : Cond) ∈ wsX9_signed := List.mem_of_getElem? (i := 1) (by decide +kernel)
theorem iX9_signed_9 : ∀ w ∈ wsX90, w ∈ wsX9_signed := fun w h => List.mem_of_mem_drop (List.mem_of_mem_take ((show wsX90 = (wsX9_signed.drop 38).take 18 by decide +kernel) ▸ h))
theorem mX9_signed_2 : (.constant RX9 97 (100000000) : Cond) ∈ wsX9_signed := List.mem_of_getElem? (i := 2) (by decide +kernel)
theorem hdX9_number_v : yX9_number.cls = RX9 ∧ yX9_number.cls ≠ "java/lang/invoke/MethodHandle" ∧ yX9_number.cls ≠ "java/lang/invoke/VarHandle" ∧ (parseMethodDescriptor yX9_number.desc).map (fun d => d.parameters.length) = some 2 := by decide +kernel
set_option maxHeartbeats 4000000 in
set_option maxRecDepth 100000 in
theorem c_X9_signed_dg {l : Launch} {D : va_G} {cs : Nat → ClassId} {B0 T : Nat} {κ : KM} {H0 : Heap} (hT : WT B0 D cs T κ H0) {mm : Nat} {w : Nat} (hw : T2 κ w 10 12) {bu tl pos sd dr hi ud sk : Nat} {th ea eo ns ne se td : Int32} {g f B : Nat → Int32} (hY : BY B tl) (hBe : ∀ k, byF g tl k = B k) (hp6 : pos ≤ tl) (hud : ud ≤ 8) (hms : MS D cs w H0 (κ w).2.2.1 (κ w).2.2.2 th bu tl pos 0 ea eo sd dr hi ud ns ne se td sk g f) (hmm : mm ≤ 999) : KC l yX9_signed wsX9_signed 3 65 0 0 D cs B0 H0 [.ref w, .int (nI mm)] (Qi (fun r H => WT B0 D cs T κ H ∧ Fr B0 [12] κ H0 H ∧ ((∃ q p1 n1, sigB B mm (skp B pos) = .inr (r, q) ∧ p1 ≤ tl ∧ skp B p1 = q ∧ MS D cs w H (κ w).2.2.1 (κ w).2.2.2 th bu tl p1 0 ea eo sd dr hi ud n1 ne se td sk g f) ∨ (∃ c o p1 n1, sigB B mm (skp B pos) = .inl (c, o) ∧ c ≠ 0 ∧ p1 ≤ tl ∧ MS D cs w H (κ w).2.2.1 (κ w).2.2.2 th bu tl p1 c (nI o) eo sd dr hi ud n1 ne se td sk g f)))) := by
  refine KC.of cX9_signed 5 (some .int) (by decide) rfl (Nat.le_of_ble_eq_true rfl) ?_
  intro p e s m below meth c ls hx hb hr hml hown hts hlocks hin hN hE hH0 hl
  have hown : s.vm.findClass RX9 = some m.cls := hown
  have hl : lv_has ls 5 [(0, .ref w), (1, .int (nI mm))] := hl
  have hL : OkL B0 [] := OkL.nil
  have hF : Fr B0 [12] κ H0 H0 := Fr.rf
  obtain ⟨hkm, hkb, hkd⟩ := hms
  have h6n := hY.1
  obtain ⟨hbT, hdT, -⟩ := MS.t2 hT hw ⟨by omega, by omega⟩ hkm
  have hq26 := f26 hT hdT hkd
  refine lv_aload_n hx hb dX9_signed_0 rfl (lv_at hl 0 rfl) ?_
  refine cv_i (As := []) (rest := []) (b := w) ⟨hx, hb, hml, hown, hts⟩ (c_X9_isGood_dg hT (w := w) hw (by first | omega | decide | assumption) (by first | omega | decide | assumption) (by first | omega | decide | assumption) (by first | omega | decide | assumption) ⟨hkm, hkb, hkd⟩) (cwV 0 hts gX9_signed_X9_isGood rfl rfl rfl hdX9_isGood_v ⟨Nat.le_of_ble_eq_true rfl, Nat.le_of_ble_eq_true rfl⟩) hN hE hL (rcv10 hN hT hw.1) rfl rfl hl.1 (Nat.le_of_ble_eq_true rfl) dX9_signed_1 (Nat.zero_le _) (Nat.zero_le _) (fun r1595 H1 locs hL hqr1595 => ?_)
  obtain ⟨h9, hqr1595⟩ := hqr1595; replace h9 := h9.symm; subst h9
  obtain rfl := hqr1595
  refine lv_if_ne (tgt := 9) hx hb dX9_signed_4 (by decide) (fun _ => ?_) (fun c9 => absurd c9 (by decide))
  refine lv_aload_n hx hb dX9_signed_9 rfl (lv_at hl 0 rfl) ?_
  refine cv_i (As := []) (rest := []) (b := w) ⟨hx, hb, hml, hown, hts⟩ (c_X9_ahead hT (w := w) hw (by first | omega | decide | assumption) (by first | omega | decide | assumption) (by first | omega | decide | assumption) (by first | omega | decide | assumption) ⟨hkm, hkb, hkd⟩) (cwV 0 hts gX9_signed_X9_ahead rfl rfl rfl hdX9_ahead_v ⟨Nat.le_of_ble_eq_true rfl, Nat.le_of_ble_eq_true rfl⟩) hN hE hL (rcv10 hN hT hw.1) rfl rfl hl.1 (Nat.le_of_ble_eq_true rfl) dX9_signed_10 (Nat.zero_le _) (Nat.zero_le _) (fun r1596 H1 locs hL hqr1596 => ?_)
  obtain ⟨hT1, hF1, hqr1596⟩ := hqr1596
  have hkb := hF1.hP (va_P.cons hkb va_P.nil) (fa_c ⟨by rw [hbT.1]; decide, by rw [hbT.2]; first | decide | (simp; done) | (simp; omega)⟩ fa_n) 0 _ rfl
  have hkd := hF1.hP (va_P.cons hkd va_P.nil) (fa_c ⟨by rw [hdT.1]; decide, by rw [hdT.2]; first | decide | (simp; done) | (simp; omega)⟩ fa_n) 0 _ rfl
  have hF := hF.tr (hF1.mono (by simp))
  have hT := hT1
  obtain ⟨z1597, e1598, l1599, u1600, rfl, m1601⟩ := hqr1596
  obtain ⟨hkm, hkb, hkd⟩ := m1601
  have hq26 := f26 hT hdT hkd
  refine lv_istore_n (lv' := [(2, .int (B z1597)), (0, .ref w), (1, .int (nI mm))]) hx hb dX9_signed_13 rfl hl (by decide) rfl (fun ls hl => ?_)
  refine lv_aload_n hx hb dX9_signed_14 rfl (lv_at hl 1 rfl) ?_
  obtain ⟨hb1602, e1602, hat1602, hk1602⟩ := hT.o10 hw.1
  obtain ⟨f1602_0, f1602_1, f1602_3, f1602_4, f1602_5, f1602_6, f1602_7, f1602_9, f1602_10, f1602_11, f1602_12, f1602_13, f1602_14, f1602_15, f1602_16, f1602_17, rfl, c1602_2, c1602_3, c1602_4, c1602_12, t1602_1, t1602_8, t1602_9, c1602_sd, t1602_10, t1602_11, t1602_17⟩ := hk1602
  obtain ⟨rfl, rfl, rfl, rfl, rfl, rfl, rfl, rfl, rfl, rfl, rfl, rfl, rfl, rfl, rfl, rfl⟩ := eq10 hat1602 hkm (by omega)
  have hP : va_P D vwCl [(w, .inr (9, [.int th, .ref bu, .int (nI ((κ w).2.2.1)), .int (nI tl), .int (nI z1597), .int 0, .int ea, .int eo, .ref (κ w).2.2.2, .ref sd, .ref dr, .ref hi, .int (nI ud), .int ns, .int ne, .int se, .int td, .ref sk]))] _ := va_P.cons hat1602 va_P.nil
  refine va_get (D := D) (ci := 9) (v := .int (nI z1597)) (C := RX9) (T := TX9) (N := 18) hx hb hts iX9_signed_9 hown hN.1 hP 0 rfl rfl 4 (by decide) (hts _ mX9_signed_1) (fun _ h9 => h9) rfl dX9_signed_15 ?_
  refine lv_istore_n (lv' := [(3, .int (nI z1597)), (2, .int (B z1597)), (0, .ref w), (1, .int (nI mm))]) hx hb dX9_signed_18 rfl hl (by decide) rfl (fun ls hl => ?_)
  refine lv_iload_n hx hb dX9_signed_19 rfl (lv_at hl 1 rfl) ?_
  refine lv_bipush (v := 45) hx hb dX9_signed_20 (by decide) ?_
  refine lv_icmp_eq (tgt := 32) hx hb dX9_signed_22 (by decide) (fun c1603 => ?_) (fun c1603 => ?_)
  · have hzz : skp B z1597 = z1597 := by rw [e1598]; exact skp_skp hY
    have hsg : sgz B z1597 = skp B (z1597 + 1) := if_pos c1603
    have hsv : sgv B z1597 = - nI (nvl B (sgz B z1597) 0) := if_pos c1603
    have hl9 := hY.lt (k := z1597) (by rw [c1603]; decide)
    refine lv_aload_n hx hb dX9_signed_32 rfl (lv_at hl 2 rfl) ?_
    refine lv_dup hx hb dX9_signed_33 rfl ?_
    refine va_get (D := D) (ci := 9) (v := .int (nI z1597)) (C := RX9) (T := TX9) (N := 18) hx hb hts iX9_signed_9 hown hN.1 hP 0 rfl rfl 4 (by decide) (hts _ mX9_signed_1) (fun _ h9 => h9) rfl dX9_signed_34 ?_
    refine lv_iconst (v := 1) hx hb dX9_signed_37 (by decide) ?_
    refine lv_iadd hx hb dX9_signed_38 ?_
    refine tp_i (nI (z1597 + 1)) (nI_add z1597 1) ?_
    have hB : Bx B0 D _ [(w, .inr (9, [.int th, .ref bu, .int (nI ((κ w).2.2.1)), .int (nI tl), .int (nI z1597), .int 0, .int ea, .int eo, .ref (κ w).2.2.2, .ref sd, .ref dr, .ref hi, .int (nI ud), .int ns, .int ne, .int se, .int td, .ref sk]))] [] _ _ := Bx.of (fun a => (κ a).1) hL hP (fa_c hb1602 fa_n) (by simp only [List.map_cons, List.map_nil, hw.1]; decide)
    refine b_put (D := D) (ci := 9) (v := .int (nI (z1597 + 1))) (ty := .int) (C := RX9) (T := TX9) (N := 18) hx hb hts iX9_signed_9 tyX9 tyX9_ok nmX9 hown hN hB 0 rfl rfl 4 (by decide) (hts _ mX9_signed_1) (fun _ h9 => h9) rfl (by decide +kernel) rfl rfl (Nat.le_of_ble_eq_true rfl) (.inl rfl) dX9_signed_39 (fun H locs hB => ?_)
    have hB : Bx B0 D _ [(w, .inr (9, [.int th, .ref bu, .int (nI ((κ w).2.2.1)), .int (nI tl), .int (nI (z1597 + 1)), .int 0, .int ea, .int eo, .ref (κ w).2.2.2, .ref sd, .ref dr, .ref hi, .int (nI ud), .int ns, .int ne, .int se, .int td, .ref sk]))] [w] _ _ := hB
    refine lv_aload_n hx hb dX9_signed_42 rfl (lv_at hl 2 rfl) ?_
    refine lv_iconst (v := 0) hx hb dX9_signed_43 (by decide) ?_
    refine lv_ldc (v := 100000000) hx hb hown (hts _ mX9_signed_2) dX9_signed_44 ?_
    have hT : WT B0 D cs T κ _ := hT.close hB ⟨⟨0, _, rfl, ok_10 hw.1 ⟨_, _, _, _, _, _, _, _, _, _, _, _, _, _, _, _, rfl, (by omega), (by omega), (by omega), (by omega), t1602_1, t1602_8, t1602_9, c1602_sd, t1602_10, t1602_11, t1602_17⟩⟩, trivial⟩
    have hF : Fr B0 [12] κ H0 _ := hF.close hB (fa_c (by simp [hw.2]) fa_n)
    have hL : OkL B0 _ := hB.2.2.2.2.2
    have hP : va_P D vwCl [(w, .inr (9, [.int th, .ref bu, .int (nI ((κ w).2.2.1)), .int (nI tl), .int (nI (z1597 + 1)), .int 0, .int ea, .int eo, .ref (κ w).2.2.2, .ref sd, .ref dr, .ref hi, .int (nI ud), .int ns, .int ne, .int se, .int td, .ref sk]))] _ := hB.1
    have hkm : va_at D vwCl (w, .inr (9, [.int th, .ref bu, .int (nI ((κ w).2.2.1)), .int (nI tl), .int (nI (z1597 + 1)), .int 0, .int ea, .int eo, .ref (κ w).2.2.2, .ref sd, .ref dr, .ref hi, .int (nI ud), .int ns, .int ne, .int se, .int td, .ref sk])) _ := hP 0 _ rfl
    have hkb := hkb.kept (hB.2.2.2.1 _ hkb.lt (by simp only [List.mem_cons, List.not_mem_nil, or_false, not_or]; exact ne_c hbT.1 hw.1 (by decide)))
    have hkd := hkd.kept (hB.2.2.2.1 _ hkd.lt (by simp only [List.mem_cons, List.not_mem_nil, or_false, not_or]; exact ne_c hdT.1 hw.1 (by decide)))
    refine cv_i (As := [.int 0, .int 100000000]) (rest := []) (b := w) ⟨hx, hb, hml, hown, hts⟩ (c_X9_number_dg hT (w := w) hw (lo9 := 0) (hi9 := 100000000) (by first | omega | decide | assumption) (by first | omega | decide | assumption) (by first | omega | decide | assumption) (by first | omega | decide | assumption) ⟨hkm, hkb, hkd⟩ (by first | omega | decide | assumption)) (cwV 2 hts gX9_signed_X9_number rfl rfl rfl hdX9_number_v ⟨Nat.le_of_ble_eq_true rfl, Nat.le_of_ble_eq_true rfl⟩) hN hE hL (rcv10 hN hT hw.1) rfl rfl hl.1 (Nat.le_of_ble_eq_true rfl) dX9_signed_46 (Nat.zero_le _) (Nat.zero_le _) (fun r1604 H1 locs hL hqr1604 => ?_)
    obtain ⟨hT1, hF1, hqr1604⟩ := hqr1604
    have hkb := hF1.hP (va_P.cons hkb va_P.nil) (fa_c ⟨by rw [hbT.1]; decide, by rw [hbT.2]; first | decide | (simp; done) | (simp; omega)⟩ fa_n) 0 _ rfl
    have hkd := hF1.hP (va_P.cons hkd va_P.nil) (fa_c ⟨by rw [hdT.1]; decide, by rw [hdT.2]; first | decide | (simp; done) | (simp; omega)⟩ fa_n) 0 _ rfl
    have hF := hF.tr (hF1.mono (by simp))
    have hT := hT1
    rcases hqr1604 with ⟨d1605, rfl, m1606⟩ | ⟨d1607, l1608, g1609, e1610, m1611⟩ | ⟨d1612, o1613, rfl, m1614⟩
    · obtain ⟨z1615, hz1615⟩ : ∃ z9, z9 = (skp B (z1597 + 1)) := ⟨_, rfl⟩
      rw [← hz1615] at d1605 m1606
      have hbz1615 : z1615 ≤ tl := by rw [hz1615]; exact run_ub hY (by decide) (by omega)
      have hEz1615 := dgE_le hY hbz1615
      obtain ⟨hkm, hkb, hkd⟩ := m1606
      have hq26 := f26 hT hdT hkd
      refine lv_istore (lv' := [(4, .int 0), (3, .int (nI z1597)), (2, .int (B z1597)), (0, .ref w), (1, .int (nI mm))]) hx hb dX9_signed_49 hl (by decide) rfl (fun ls hl => ?_)
      refine lv_aload_n hx hb dX9_signed_51 rfl (lv_at hl 3 rfl) ?_
      refine cv_i (As := []) (rest := []) (b := w) ⟨hx, hb, hml, hown, hts⟩ (c_X9_isGood_db hT (w := w) hw (by first | omega | decide | assumption) (by first | omega | decide | assumption) (by first | omega | decide | assumption) (by first | omega | decide | assumption) ⟨hkm, hkb, hkd⟩ (by first | omega | decide | assumption)) (cwV 0 hts gX9_signed_X9_isGood rfl rfl rfl hdX9_isGood_v ⟨Nat.le_of_ble_eq_true rfl, Nat.le_of_ble_eq_true rfl⟩) hN hE hL (rcv10 hN hT hw.1) rfl rfl hl.1 (Nat.le_of_ble_eq_true rfl) dX9_signed_52 (Nat.zero_le _) (Nat.zero_le _) (fun r1616 H1 locs hL hqr1616 => ?_)
      obtain ⟨h9, hqr1616⟩ := hqr1616; replace h9 := h9.symm; subst h9
      obtain rfl := hqr1616
      refine lv_if_eq (tgt := 71) hx hb dX9_signed_55 (by decide) (fun _ => ?_) (fun c9 => absurd (by decide) c9)
      refine lv_iload hx hb dX9_signed_71 (lv_at hl 0 rfl) ?_
      refine lv_ineg hx hb dX9_signed_73 ?_
      refine tp_i 0 (by decide) ?_
      have hn9 : z1615 = sgz B z1597 := hz1615.trans hsg.symm
      exact en_i hx hb hr hlocks hL rfl (Nat.zero_le _) (Nat.zero_le _) dX9_signed_74 (⟨hT, hF, Or.inr ⟨-2, _, z1615, _, by rw [← e1598]; exact sig_nd (by rw [← hn9]; exact d1605), by decide, (by omega), by rw [← hn9]; exact ⟨hkm, hkb, hkd⟩⟩⟩)
    · obtain ⟨z1617, hz1617⟩ : ∃ z9, z9 = (skp B (z1597 + 1)) := ⟨_, rfl⟩
      rw [← hz1617] at d1607 l1608 g1609 e1610 m1611
      have hbz1617 : z1617 ≤ tl := by rw [hz1617]; exact run_ub hY (by decide) (by omega)
      have hEz1617 := dgE_le hY hbz1617
      subst e1610
      obtain ⟨hkm, hkb, hkd⟩ := m1611
      have hq26 := f26 hT hdT hkd
      refine lv_istore (lv' := [(4, .int (nI ((min (nvl B z1617 0) 100000000)))), (3, .int (nI z1597)), (2, .int (B z1597)), (0, .ref w), (1, .int (nI mm))]) hx hb dX9_signed_49 hl (by decide) rfl (fun ls hl => ?_)
      refine lv_aload_n hx hb dX9_signed_51 rfl (lv_at hl 3 rfl) ?_
      refine cv_i (As := []) (rest := []) (b := w) ⟨hx, hb, hml, hown, hts⟩ (c_X9_isGood_dg hT (w := w) hw (by first | omega | decide | assumption) (by first | omega | decide | assumption) (by first | omega | decide | assumption) (by first | omega | decide | assumption) ⟨hkm, hkb, hkd⟩) (cwV 0 hts gX9_signed_X9_isGood rfl rfl rfl hdX9_isGood_v ⟨Nat.le_of_ble_eq_true rfl, Nat.le_of_ble_eq_true rfl⟩) hN hE hL (rcv10 hN hT hw.1) rfl rfl hl.1 (Nat.le_of_ble_eq_true rfl) dX9_signed_52 (Nat.zero_le _) (Nat.zero_le _) (fun r1618 H1 locs hL hqr1618 => ?_)
      obtain ⟨h9, hqr1618⟩ := hqr1618; replace h9 := h9.symm; subst h9
      obtain rfl := hqr1618
      refine lv_if_eq (tgt := 71) hx hb dX9_signed_55 (by decide) (fun c9 => absurd c9 (by decide)) (fun _ => ?_)
      refine lv_iload hx hb dX9_signed_58 (lv_at hl 0 rfl) ?_
      refine lv_iload_n hx hb dX9_signed_60 rfl (lv_at hl 4 rfl) ?_
      refine lv_icmp_le (tgt := 71) hx hb dX9_signed_61 (by decide) (fun c1619 => ?_) (fun c1619 => ?_)
      · have c1619 : ((min (nvl B z1617 0) 100000000)) ≤ mm := (nI_leI (a := ((min (nvl B z1617 0) 100000000))) (b := mm) (by omega) (by omega)).mp c1619
        refine lv_iload hx hb dX9_signed_71 (lv_at hl 0 rfl) ?_
        refine lv_ineg hx hb dX9_signed_73 ?_
        have hn9 : z1617 = sgz B z1597 := hz1617.trans hsg.symm
        have hd9 : isd (B (sgz B z1597)) := by rw [← hn9]; exact d1607
        have hm9 : min (nvl B z1617 0) 100000000 = nvl B z1617 0 ∧ nvl B z1617 0 ≤ mm := by omega
        have hr9 : nvl B (sgz B z1597) 0 ≤ mm := by rw [← hn9]; exact hm9.2
        exact en_i hx hb hr hlocks hL rfl (Nat.zero_le _) (Nat.zero_le _) dX9_signed_74 (⟨hT, hF, Or.inl ⟨_, dgE B z1617, _, by rw [← e1598, hm9.1, show -nI (nvl B z1617 0) = sgv B z1597 by rw [hsv, ← hn9]]; exact sig_ok hd9 hr9, hEz1617, by rw [hn9], ⟨hkm, hkb, hkd⟩⟩⟩)
      · have c1619 : ¬ ((min (nvl B z1617 0) 100000000)) ≤ mm := fun h9 => c1619 ((nI_leI (a := ((min (nvl B z1617 0) 100000000))) (b := mm) (by omega) (by omega)).mpr h9)
        refine lv_aload_n hx hb dX9_signed_64 rfl (lv_at hl 3 rfl) ?_
        refine lv_bipush (v := (-3)) hx hb dX9_signed_65 (by decide) ?_
        refine lv_iload_n hx hb dX9_signed_67 rfl (lv_at hl 1 rfl) ?_
        refine cv_v (As := [.int (-3), .int (nI z1597)]) (rest := []) (b := w) ⟨hx, hb, hml, hown, hts⟩ (c_X9_report_dg hT (w := w) hw (x := (-3)) (y := (nI z1597)) (by first | omega | decide | assumption) (by first | omega | decide | assumption) (by first | omega | decide | assumption) (by first | omega | decide | assumption) ⟨hkm, hkb, hkd⟩) (cwV 2 hts gX9_signed_X9_report rfl rfl rfl hdX9_report_v ⟨Nat.le_of_ble_eq_true rfl, Nat.le_of_ble_eq_true rfl⟩) hN hE hL (rcv10 hN hT hw.1) rfl rfl hl.1 (Nat.le_of_ble_eq_true rfl) dX9_signed_68 (Nat.zero_le _) (Nat.zero_le _) (fun H1 locs hL hqr1620 => ?_)
        obtain ⟨hT1, hF1, hqr1620⟩ := hqr1620
        have hkb := hF1.hP (va_P.cons hkb va_P.nil) (fa_c ⟨by rw [hbT.1]; decide, by rw [hbT.2]; first | decide | (simp; done) | (simp; omega)⟩ fa_n) 0 _ rfl
        have hkd := hF1.hP (va_P.cons hkd va_P.nil) (fa_c ⟨by rw [hdT.1]; decide, by rw [hdT.2]; first | decide | (simp; done) | (simp; omega)⟩ fa_n) 0 _ rfl
        have hF := hF.tr (hF1.mono (by simp))
        have hT := hT1
        have m1621 := hqr1620
        obtain ⟨hkm, hkb, hkd⟩ := m1621
        have hq26 := f26 hT hdT hkd
        refine lv_iload hx hb dX9_signed_71 (lv_at hl 0 rfl) ?_
        refine lv_ineg hx hb dX9_signed_73 ?_
        have hn9 : z1617 = sgz B z1597 := hz1617.trans hsg.symm
        have hd9 : isd (B (sgz B z1597)) := by rw [← hn9]; exact d1607
        have hr9 : ¬ nvl B (sgz B z1597) 0 ≤ mm := by rw [← hn9]; omega
        exact en_i hx hb hr hlocks hL rfl (Nat.zero_le _) (Nat.zero_le _) dX9_signed_74 (⟨hT, hF, Or.inr ⟨-3, _, dgE B z1617, _, by rw [← e1598]; exact sig_or hd9 hr9, by decide, (by omega), ⟨hkm, hkb, hkd⟩⟩⟩)
    · obtain ⟨z1622, hz1622⟩ : ∃ z9, z9 = (skp B (z1597 + 1)) := ⟨_, rfl⟩
      rw [← hz1622] at d1612 o1613 m1614
      have hbz1622 : z1622 ≤ tl := by rw [hz1622]; exact run_ub hY (by decide) (by omega)
      have hEz1622 := dgE_le hY hbz1622
      exact absurd o1613 (by omega)
  · have hzz : skp B z1597 = z1597 := by rw [e1598]; exact skp_skp hY
    have hsg : sgz B z1597 = z1597 := if_neg c1603
    have hsv : sgv B z1597 = nI (nvl B (sgz B z1597) 0) := if_neg c1603
    refine lv_aload_n hx hb dX9_signed_25 rfl (lv_at hl 2 rfl) ?_
    refine lv_iconst (v := 0) hx hb dX9_signed_26 (by decide) ?_
    refine lv_iload_n hx hb dX9_signed_27 rfl (lv_at hl 3 rfl) ?_
    refine cv_i (As := [.int 0, .int (nI mm)]) (rest := []) (b := w) ⟨hx, hb, hml, hown, hts⟩ (c_X9_number_dg hT (w := w) hw (lo9 := 0) (hi9 := mm) (by first | omega | decide | assumption) (by first | omega | decide | assumption) (by first | omega | decide | assumption) (by first | omega | decide | assumption) ⟨hkm, hkb, hkd⟩ (by first | omega | decide | assumption)) (cwV 2 hts gX9_signed_X9_number rfl rfl rfl hdX9_number_v ⟨Nat.le_of_ble_eq_true rfl, Nat.le_of_ble_eq_true rfl⟩) hN hE hL (rcv10 hN hT hw.1) rfl rfl hl.1 (Nat.le_of_ble_eq_true rfl) dX9_signed_28 (Nat.zero_le _) (Nat.zero_le _) (fun r1623 H1 locs hL hqr1623 => ?_)
    obtain ⟨hT1, hF1, hqr1623⟩ := hqr1623
    have hkb := hF1.hP (va_P.cons hkb va_P.nil) (fa_c ⟨by rw [hbT.1]; decide, by rw [hbT.2]; first | decide | (simp; done) | (simp; omega)⟩ fa_n) 0 _ rfl
    have hkd := hF1.hP (va_P.cons hkd va_P.nil) (fa_c ⟨by rw [hdT.1]; decide, by rw [hdT.2]; first | decide | (simp; done) | (simp; omega)⟩ fa_n) 0 _ rfl
    have hF := hF.tr (hF1.mono (by simp))
    have hT := hT1
    rcases hqr1623 with ⟨d1624, rfl, m1625⟩ | ⟨d1626, l1627, g1628, e1629, m1630⟩ | ⟨d1631, o1632, rfl, m1633⟩
    · obtain ⟨z1634, hz1634⟩ : ∃ z9, z9 = (skp B z1597) := ⟨_, rfl⟩
      rw [← hz1634] at d1624 m1625
      have hbz1634 : z1634 ≤ tl := by rw [hz1634]; exact run_ub hY (by decide) (by omega)
      have hEz1634 := dgE_le hY hbz1634
      obtain ⟨hkm, hkb, hkd⟩ := m1625
      have hq26 := f26 hT hdT hkd
      have hn9 : z1634 = sgz B z1597 := (hz1634.trans hzz).trans hsg.symm
      exact en_i hx hb hr hlocks hL rfl (Nat.zero_le _) (Nat.zero_le _) dX9_signed_31 (⟨hT, hF, Or.inr ⟨-2, _, z1634, _, by rw [← e1598]; exact sig_nd (by rw [← hn9]; exact d1624), by decide, (by omega), by rw [← hn9]; exact ⟨hkm, hkb, hkd⟩⟩⟩)
    · obtain ⟨z1635, hz1635⟩ : ∃ z9, z9 = (skp B z1597) := ⟨_, rfl⟩
      rw [← hz1635] at d1626 l1627 g1628 e1629 m1630
      have hbz1635 : z1635 ≤ tl := by rw [hz1635]; exact run_ub hY (by decide) (by omega)
      have hEz1635 := dgE_le hY hbz1635
      subst e1629
      obtain ⟨hkm, hkb, hkd⟩ := m1630
      have hq26 := f26 hT hdT hkd
      have hn9 : z1635 = sgz B z1597 := (hz1635.trans hzz).trans hsg.symm
      have hd9 : isd (B (sgz B z1597)) := by rw [← hn9]; exact d1626
      have hm9 : min (nvl B z1635 0) 100000000 = nvl B z1635 0 ∧ nvl B z1635 0 ≤ mm := by omega
      have hr9 : nvl B (sgz B z1597) 0 ≤ mm := by rw [← hn9]; exact hm9.2
      exact en_i hx hb hr hlocks hL rfl (Nat.zero_le _) (Nat.zero_le _) dX9_signed_31 (⟨hT, hF, Or.inl ⟨_, dgE B z1635, _, by rw [← e1598, hm9.1, show nI (nvl B z1635 0) = sgv B z1597 by rw [hsv, ← hn9]]; exact sig_ok hd9 hr9, hEz1635, by rw [hn9], ⟨hkm, hkb, hkd⟩⟩⟩)
    · obtain ⟨z1636, hz1636⟩ : ∃ z9, z9 = (skp B z1597) := ⟨_, rfl⟩
      rw [← hz1636] at d1631 o1632 m1633
      have hbz1636 : z1636 ≤ tl := by rw [hz1636]; exact run_ub hY (by decide) (by omega)
      have hEz1636 := dgE_le hY hbz1636
      obtain ⟨hkm, hkb, hkd⟩ := m1633
      have hq26 := f26 hT hdT hkd
      have hn9 : z1636 = sgz B z1597 := (hz1636.trans hzz).trans hsg.symm
      have hd9 : isd (B (sgz B z1597)) := by rw [← hn9]; exact d1631
      have hr9 : ¬ nvl B (sgz B z1597) 0 ≤ mm := by rw [← hn9]; omega
      exact en_i hx hb hr hlocks hL rfl (Nat.zero_le _) (Nat.zero_le _) dX9_signed_31 (⟨hT, hF, Or.inr ⟨-3, _, dgE B z1636, _, by rw [← e1598]; exact sig_or hd9 hr9, by decide, (by omega), by rw [show z1597 = z1636 from (hn9.trans hsg).symm]; exact ⟨hkm, hkb, hkd⟩⟩⟩)
theorem mX9_once_1 : (.fieldLink RX9 136 "OneBeatModel" "seen" "I" : Cond) ∈ wsX9_once := List.mem_of_getElem? (i := 1) (by decide +kernel)
theorem iX9_once_9 : ∀ w ∈ wsX90, w ∈ wsX9_once := fun w h => List.mem_of_mem_drop (List.mem_of_mem_take ((show wsX90 = (wsX9_once.drop 9).take 18 by decide +kernel) ▸ h))
set_option maxHeartbeats 4000000 in
set_option maxRecDepth 100000 in
theorem c_X9_once {l : Launch} {D : va_G} {cs : Nat → ClassId} {B0 T : Nat} {κ : KM} {H0 : Heap} (hT : WT B0 D cs T κ H0) {y : Int32} {x : Int32} {w : Nat} (hw : T2 κ w 10 12) {bu tl pos sd dr hi ud sk : Nat} {th ea eo ns ne se td : Int32} {g f B : Nat → Int32} (hY : BY B tl) (hBe : ∀ k, byF g tl k = B k) (hp6 : pos ≤ tl) (hud : ud ≤ 8) (hms : MS D cs w H0 (κ w).2.2.1 (κ w).2.2.2 th bu tl pos 0 ea eo sd dr hi ud ns ne se td sk g f) : KC l yX9_once wsX9_once 1 22 0 0 D cs B0 H0 [.ref w, .int x, .int y] (Qv (fun H => WT B0 D cs T κ H ∧ Fr B0 [12] κ H0 H ∧ (((se >>> (x &&& 31)) &&& 1 = 1 ∧ MS D cs w H (κ w).2.2.1 (κ w).2.2.2 th bu tl pos (-2) y eo sd dr hi ud ns ne (se ||| (1 <<< (x &&& 31))) td sk g f) ∨ (¬ (se >>> (x &&& 31)) &&& 1 = 1 ∧ MS D cs w H (κ w).2.2.1 (κ w).2.2.2 th bu tl pos 0 ea eo sd dr hi ud ns ne (se ||| (1 <<< (x &&& 31))) td sk g f)))) := by
  refine KC.of cX9_once 3 none (by decide) rfl (Nat.le_of_ble_eq_true rfl) ?_
  intro p e s m below meth c ls hx hb hr hml hown hts hlocks hin hN hE hH0 hl
  have hown : s.vm.findClass RX9 = some m.cls := hown
  have hl : lv_has ls 3 [(0, .ref w), (1, .int x), (2, .int y)] := hl
  have hL : OkL B0 [] := OkL.nil
  have hF : Fr B0 [12] κ H0 H0 := Fr.rf
  obtain ⟨hkm, hkb, hkd⟩ := hms
  have h6n := hY.1
  obtain ⟨hbT, hdT, -⟩ := MS.t2 hT hw ⟨by omega, by omega⟩ hkm
  have hq26 := f26 hT hdT hkd
  refine lv_aload_n hx hb dX9_once_0 rfl (lv_at hl 0 rfl) ?_
  obtain ⟨hb1637, e1637, hat1637, hk1637⟩ := hT.o10 hw.1
  obtain ⟨f1637_0, f1637_1, f1637_3, f1637_4, f1637_5, f1637_6, f1637_7, f1637_9, f1637_10, f1637_11, f1637_12, f1637_13, f1637_14, f1637_15, f1637_16, f1637_17, rfl, c1637_2, c1637_3, c1637_4, c1637_12, t1637_1, t1637_8, t1637_9, c1637_sd, t1637_10, t1637_11, t1637_17⟩ := hk1637
  obtain ⟨rfl, rfl, rfl, rfl, rfl, rfl, rfl, rfl, rfl, rfl, rfl, rfl, rfl, rfl, rfl, rfl⟩ := eq10 hat1637 hkm (by omega)
  have hP : va_P D vwCl [(w, .inr (9, [.int th, .ref bu, .int (nI ((κ w).2.2.1)), .int (nI tl), .int (nI pos), .int 0, .int ea, .int eo, .ref (κ w).2.2.2, .ref sd, .ref dr, .ref hi, .int (nI ud), .int ns, .int ne, .int se, .int td, .ref sk]))] _ := va_P.cons hat1637 va_P.nil
  refine va_get (D := D) (ci := 9) (v := .int se) (C := RX9) (T := TX9) (N := 18) hx hb hts iX9_once_9 hown hN.1 hP 0 rfl rfl 15 (by decide) (hts _ mX9_once_1) (fun _ h9 => h9) rfl dX9_once_1 ?_
  refine lv_iload_n hx hb dX9_once_4 rfl (lv_at hl 1 rfl) ?_
  refine lv_ishr hx hb dX9_once_5 ?_
  refine lv_iconst (v := 1) hx hb dX9_once_6 (by decide) ?_
  refine lv_iand hx hb dX9_once_7 ?_
  refine lv_iconst (v := 1) hx hb dX9_once_8 (by decide) ?_
  refine lv_icmp_ne (tgt := 19) hx hb dX9_once_9 (by decide) (fun c1638 => ?_) (fun c1638 => ?_)
  · refine lv_aload_n hx hb dX9_once_19 rfl (lv_at hl 0 rfl) ?_
    refine lv_dup hx hb dX9_once_20 rfl ?_
    refine va_get (D := D) (ci := 9) (v := .int se) (C := RX9) (T := TX9) (N := 18) hx hb hts iX9_once_9 hown hN.1 hP 0 rfl rfl 15 (by decide) (hts _ mX9_once_1) (fun _ h9 => h9) rfl dX9_once_21 ?_
    refine lv_iconst (v := 1) hx hb dX9_once_24 (by decide) ?_
    refine lv_iload_n hx hb dX9_once_25 rfl (lv_at hl 1 rfl) ?_
    refine lv_ishl hx hb dX9_once_26 ?_
    refine lv_ior hx hb dX9_once_27 ?_
    have hB : Bx B0 D _ [(w, .inr (9, [.int th, .ref bu, .int (nI ((κ w).2.2.1)), .int (nI tl), .int (nI pos), .int 0, .int ea, .int eo, .ref (κ w).2.2.2, .ref sd, .ref dr, .ref hi, .int (nI ud), .int ns, .int ne, .int se, .int td, .ref sk]))] [] _ _ := Bx.of (fun a => (κ a).1) hL hP (fa_c hb1637 fa_n) (by simp only [List.map_cons, List.map_nil, hw.1]; decide)
    refine b_put (D := D) (ci := 9) (v := .int (se ||| (1 <<< (x &&& 31)))) (ty := .int) (C := RX9) (T := TX9) (N := 18) hx hb hts iX9_once_9 tyX9 tyX9_ok nmX9 hown hN hB 0 rfl rfl 15 (by decide) (hts _ mX9_once_1) (fun _ h9 => h9) rfl (by decide +kernel) rfl rfl (Nat.le_of_ble_eq_true rfl) (.inl rfl) dX9_once_28 (fun H locs hB => ?_)
    have hB : Bx B0 D _ [(w, .inr (9, [.int th, .ref bu, .int (nI ((κ w).2.2.1)), .int (nI tl), .int (nI pos), .int 0, .int ea, .int eo, .ref (κ w).2.2.2, .ref sd, .ref dr, .ref hi, .int (nI ud), .int ns, .int ne, .int (se ||| (1 <<< (x &&& 31))), .int td, .ref sk]))] [w] _ _ := hB
    have hT : WT B0 D cs T κ _ := hT.close hB ⟨⟨0, _, rfl, ok_10 hw.1 ⟨_, _, _, _, _, _, _, _, _, _, _, _, _, _, _, _, rfl, (by omega), (by omega), (by omega), (by omega), t1637_1, t1637_8, t1637_9, c1637_sd, t1637_10, t1637_11, t1637_17⟩⟩, trivial⟩
    have hF : Fr B0 [12] κ H0 _ := hF.close hB (fa_c (by simp [hw.2]) fa_n)
    have hL : OkL B0 _ := hB.2.2.2.2.2
    have hP : va_P D vwCl [(w, .inr (9, [.int th, .ref bu, .int (nI ((κ w).2.2.1)), .int (nI tl), .int (nI pos), .int 0, .int ea, .int eo, .ref (κ w).2.2.2, .ref sd, .ref dr, .ref hi, .int (nI ud), .int ns, .int ne, .int (se ||| (1 <<< (x &&& 31))), .int td, .ref sk]))] _ := hB.1
    have hkm : va_at D vwCl (w, .inr (9, [.int th, .ref bu, .int (nI ((κ w).2.2.1)), .int (nI tl), .int (nI pos), .int 0, .int ea, .int eo, .ref (κ w).2.2.2, .ref sd, .ref dr, .ref hi, .int (nI ud), .int ns, .int ne, .int (se ||| (1 <<< (x &&& 31))), .int td, .ref sk])) _ := hP 0 _ rfl
    have hkb := hkb.kept (hB.2.2.2.1 _ hkb.lt (by simp only [List.mem_cons, List.not_mem_nil, or_false, not_or]; exact ne_c hbT.1 hw.1 (by decide)))
    have hkd := hkd.kept (hB.2.2.2.1 _ hkd.lt (by simp only [List.mem_cons, List.not_mem_nil, or_false, not_or]; exact ne_c hdT.1 hw.1 (by decide)))
    exact en_v hx hb hr hlocks hL (Nat.zero_le _) (Nat.zero_le _) dX9_once_31 (⟨hT, hF, Or.inr ⟨c1638, ⟨hkm, hkb, hkd⟩⟩⟩)
  · refine lv_aload_n hx hb dX9_once_12 rfl (lv_at hl 0 rfl) ?_
    refine lv_bipush (v := (-2)) hx hb dX9_once_13 (by decide) ?_
    refine lv_iload_n hx hb dX9_once_15 rfl (lv_at hl 2 rfl) ?_
    refine cv_v (As := [.int (-2), .int y]) (rest := []) (b := w) ⟨hx, hb, hml, hown, hts⟩ (c_X9_report_dg hT (w := w) hw (x := (-2)) (y := y) (by first | omega | decide | assumption) (by first | omega | decide | assumption) (by first | omega | decide | assumption) (by first | omega | decide | assumption) ⟨hkm, hkb, hkd⟩) (cwV 2 hts gX9_once_X9_report rfl rfl rfl hdX9_report_v ⟨Nat.le_of_ble_eq_true rfl, Nat.le_of_ble_eq_true rfl⟩) hN hE hL (rcv10 hN hT hw.1) rfl rfl hl.1 (Nat.le_of_ble_eq_true rfl) dX9_once_16 (Nat.zero_le _) (Nat.zero_le _) (fun H1 locs hL hqr1639 => ?_)
    obtain ⟨hT1, hF1, hqr1639⟩ := hqr1639
    have hkb := hF1.hP (va_P.cons hkb va_P.nil) (fa_c ⟨by rw [hbT.1]; decide, by rw [hbT.2]; first | decide | (simp; done) | (simp; omega)⟩ fa_n) 0 _ rfl
    have hkd := hF1.hP (va_P.cons hkd va_P.nil) (fa_c ⟨by rw [hdT.1]; decide, by rw [hdT.2]; first | decide | (simp; done) | (simp; omega)⟩ fa_n) 0 _ rfl
    have hF := hF.tr (hF1.mono (by simp))
    have hT := hT1
    have m1640 := hqr1639
    obtain ⟨hkm, hkb, hkd⟩ := m1640
    have hq26 := f26 hT hdT hkd
    refine lv_aload_n hx hb dX9_once_19 rfl (lv_at hl 0 rfl) ?_
    refine lv_dup hx hb dX9_once_20 rfl ?_
    obtain ⟨hb1641, e1641, hat1641, hk1641⟩ := hT.o10 hw.1
    obtain ⟨f1641_0, f1641_1, f1641_3, f1641_4, f1641_5, f1641_6, f1641_7, f1641_9, f1641_10, f1641_11, f1641_12, f1641_13, f1641_14, f1641_15, f1641_16, f1641_17, rfl, c1641_2, c1641_3, c1641_4, c1641_12, t1641_1, t1641_8, t1641_9, c1641_sd, t1641_10, t1641_11, t1641_17⟩ := hk1641
    obtain ⟨rfl, rfl, rfl, rfl, rfl, rfl, rfl, rfl, rfl, rfl, rfl, rfl, rfl, rfl, rfl, rfl⟩ := eq10 hat1641 hkm (by omega)
    have hP : va_P D vwCl [(w, .inr (9, [.int th, .ref bu, .int (nI ((κ w).2.2.1)), .int (nI tl), .int (nI pos), .int (-2), .int y, .int eo, .ref (κ w).2.2.2, .ref sd, .ref dr, .ref hi, .int (nI ud), .int ns, .int ne, .int se, .int td, .ref sk]))] _ := va_P.cons hat1641 va_P.nil
    refine va_get (D := D) (ci := 9) (v := .int se) (C := RX9) (T := TX9) (N := 18) hx hb hts iX9_once_9 hown hN.1 hP 0 rfl rfl 15 (by decide) (hts _ mX9_once_1) (fun _ h9 => h9) rfl dX9_once_21 ?_
    refine lv_iconst (v := 1) hx hb dX9_once_24 (by decide) ?_
    refine lv_iload_n hx hb dX9_once_25 rfl (lv_at hl 1 rfl) ?_
    refine lv_ishl hx hb dX9_once_26 ?_
    refine lv_ior hx hb dX9_once_27 ?_
    have hB : Bx B0 D _ [(w, .inr (9, [.int th, .ref bu, .int (nI ((κ w).2.2.1)), .int (nI tl), .int (nI pos), .int (-2), .int y, .int eo, .ref (κ w).2.2.2, .ref sd, .ref dr, .ref hi, .int (nI ud), .int ns, .int ne, .int se, .int td, .ref sk]))] [] _ _ := Bx.of (fun a => (κ a).1) hL hP (fa_c hb1641 fa_n) (by simp only [List.map_cons, List.map_nil, hw.1]; decide)
    refine b_put (D := D) (ci := 9) (v := .int (se ||| (1 <<< (x &&& 31)))) (ty := .int) (C := RX9) (T := TX9) (N := 18) hx hb hts iX9_once_9 tyX9 tyX9_ok nmX9 hown hN hB 0 rfl rfl 15 (by decide) (hts _ mX9_once_1) (fun _ h9 => h9) rfl (by decide +kernel) rfl rfl (Nat.le_of_ble_eq_true rfl) (.inl rfl) dX9_once_28 (fun H locs hB => ?_)
    have hB : Bx B0 D _ [(w, .inr (9, [.int th, .ref bu, .int (nI ((κ w).2.2.1)), .int (nI tl), .int (nI pos), .int (-2), .int y, .int eo, .ref (κ w).2.2.2, .ref sd, .ref dr, .ref hi, .int (nI ud), .int ns, .int ne, .int (se ||| (1 <<< (x &&& 31))), .int td, .ref sk]))] [w] _ _ := hB
    have hT : WT B0 D cs T κ _ := hT.close hB ⟨⟨0, _, rfl, ok_10 hw.1 ⟨_, _, _, _, _, _, _, _, _, _, _, _, _, _, _, _, rfl, (by omega), (by omega), (by omega), (by omega), t1641_1, t1641_8, t1641_9, c1641_sd, t1641_10, t1641_11, t1641_17⟩⟩, trivial⟩
    have hF : Fr B0 [12] κ H0 _ := hF.close hB (fa_c (by simp [hw.2]) fa_n)
    have hL : OkL B0 _ := hB.2.2.2.2.2
    have hP : va_P D vwCl [(w, .inr (9, [.int th, .ref bu, .int (nI ((κ w).2.2.1)), .int (nI tl), .int (nI pos), .int (-2), .int y, .int eo, .ref (κ w).2.2.2, .ref sd, .ref dr, .ref hi, .int (nI ud), .int ns, .int ne, .int (se ||| (1 <<< (x &&& 31))), .int td, .ref sk]))] _ := hB.1
    have hkm : va_at D vwCl (w, .inr (9, [.int th, .ref bu, .int (nI ((κ w).2.2.1)), .int (nI tl), .int (nI pos), .int (-2), .int y, .int eo, .ref (κ w).2.2.2, .ref sd, .ref dr, .ref hi, .int (nI ud), .int ns, .int ne, .int (se ||| (1 <<< (x &&& 31))), .int td, .ref sk])) _ := hP 0 _ rfl
    have hkb := hkb.kept (hB.2.2.2.1 _ hkb.lt (by simp only [List.mem_cons, List.not_mem_nil, or_false, not_or]; exact ne_c hbT.1 hw.1 (by decide)))
    have hkd := hkd.kept (hB.2.2.2.1 _ hkd.lt (by simp only [List.mem_cons, List.not_mem_nil, or_false, not_or]; exact ne_c hdT.1 hw.1 (by decide)))
    exact en_v hx hb hr hlocks hL (Nat.zero_le _) (Nat.zero_le _) dX9_once_31 (⟨hT, hF, Or.inl ⟨c1638, ⟨hkm, hkb, hkd⟩⟩⟩)
set_option maxHeartbeats 4000000 in
set_option maxRecDepth 100000 in
theorem c_X9_emit_db {l : Launch} {D : va_G} {cs : Nat → ClassId} {B0 T : Nat} {κ : KM} {H0 : Heap} (hT : WT B0 D cs T κ H0) {x : Int32} {w : Nat} (hw : T2 κ w 10 12) {bu tl pos sd dr hi ud sk : Nat} {th er ea eo ns ne se td : Int32} {g f B : Nat → Int32} (hY : BY B tl) (hBe : ∀ k, byF g tl k = B k) (hp6 : pos ≤ tl) (hud : ud ≤ 8) (hms : MS D cs w H0 (κ w).2.2.1 (κ w).2.2.2 th bu tl pos er ea eo sd dr hi ud ns ne se td sk g f) (hbad : er ≠ 0) {N : Nat} (e14 : f 14 = nI N) (hN9 : N < 1200) : KC l yX9_emit wsX9_emit 1 20 0 0 D cs B0 H0 [.ref w, .int x] (Qv (fun H => H = H0)) := by
  refine KC.of cX9_emit 2 none (by decide) rfl (Nat.le_of_ble_eq_true rfl) ?_
  intro p e s m below meth c ls hx hb hr hml hown hts hlocks hin hN hE hH0 hl
  have hown : s.vm.findClass RX9 = some m.cls := hown
  have hl : lv_has ls 2 [(0, .ref w), (1, .int x)] := hl
  have hL : OkL B0 [] := OkL.nil
  obtain ⟨hkm, hkb, hkd⟩ := hms
  have h6n := hY.1
  obtain ⟨hbT, hdT, -⟩ := MS.t2 hT hw ⟨by omega, by omega⟩ hkm
  have hq26 := f26 hT hdT hkd
  refine lv_aload_n hx hb dX9_emit_0 rfl (lv_at hl 0 rfl) ?_
  refine cv_i (As := []) (rest := []) (b := w) ⟨hx, hb, hml, hown, hts⟩ (c_X9_isGood_db hT (w := w) hw (by first | omega | decide | assumption) (by first | omega | decide | assumption) (by first | omega | decide | assumption) (by first | omega | decide | assumption) ⟨hkm, hkb, hkd⟩ (by first | omega | decide | assumption)) (cwV 0 hts gX9_emit_X9_isGood rfl rfl rfl hdX9_isGood_v ⟨Nat.le_of_ble_eq_true rfl, Nat.le_of_ble_eq_true rfl⟩) hN hE hL (rcv10 hN hT hw.1) rfl rfl hl.1 (Nat.le_of_ble_eq_true rfl) dX9_emit_1 (Nat.zero_le _) (Nat.zero_le _) (fun r1642 H1 locs hL hqr1642 => ?_)
  obtain ⟨h9, hqr1642⟩ := hqr1642; replace h9 := h9.symm; subst h9
  obtain rfl := hqr1642
  refine lv_if_ne (tgt := 8) hx hb dX9_emit_4 (by decide) (fun c9 => absurd (by decide) c9) (fun _ => ?_)
  exact en_v hx hb hr hlocks hL (Nat.zero_le _) (Nat.zero_le _) dX9_emit_7 (rfl)
theorem mX9_emit_1 : (.fieldLink RX9 24 "OneBeatModel" "draft" "[I" : Cond) ∈ wsX9_emit := List.mem_of_getElem? (i := 1) (by decide +kernel)
theorem iX9_emit_9 : ∀ w ∈ wsX90, w ∈ wsX9_emit := fun w h => List.mem_of_mem_drop (List.mem_of_mem_take ((show wsX90 = (wsX9_emit.drop 8).take 18 by decide +kernel) ▸ h))
set_option maxHeartbeats 4000000 in
set_option maxRecDepth 100000 in
theorem c_X9_emit_dg {l : Launch} {D : va_G} {cs : Nat → ClassId} {B0 T : Nat} {κ : KM} {H0 : Heap} (hT : WT B0 D cs T κ H0) {x : Int32} {w : Nat} (hw : T2 κ w 10 12) {bu tl pos sd dr hi ud sk : Nat} {th ea eo ns ne se td : Int32} {g f B : Nat → Int32} (hY : BY B tl) (hBe : ∀ k, byF g tl k = B k) (hp6 : pos ≤ tl) (hud : ud ≤ 8) (hms : MS D cs w H0 (κ w).2.2.1 (κ w).2.2.2 th bu tl pos 0 ea eo sd dr hi ud ns ne se td sk g f) {N : Nat} (e14 : f 14 = nI N) (hN9 : N < 1200) : KC l yX9_emit wsX9_emit 1 20 0 0 D cs B0 H0 [.ref w, .int x] (Qv (fun H => WT B0 D cs T κ H ∧ Fr B0 [17] κ H0 H ∧ (MS D cs w H (κ w).2.2.1 (κ w).2.2.2 th bu tl pos 0 ea eo sd dr hi ud ns ne se td sk g (upd (upd f (183 + N) x) 14 (nI (N + 1)))))) := by
  refine KC.of cX9_emit 2 none (by decide) rfl (Nat.le_of_ble_eq_true rfl) ?_
  intro p e s m below meth c ls hx hb hr hml hown hts hlocks hin hN hE hH0 hl
  have hown : s.vm.findClass RX9 = some m.cls := hown
  have hl : lv_has ls 2 [(0, .ref w), (1, .int x)] := hl
  have hL : OkL B0 [] := OkL.nil
  have hF : Fr B0 [17] κ H0 H0 := Fr.rf
  obtain ⟨hkm, hkb, hkd⟩ := hms
  have h6n := hY.1
  obtain ⟨hbT, hdT, -⟩ := MS.t2 hT hw ⟨by omega, by omega⟩ hkm
  have hq26 := f26 hT hdT hkd
  refine lv_aload_n hx hb dX9_emit_0 rfl (lv_at hl 0 rfl) ?_
  refine cv_i (As := []) (rest := []) (b := w) ⟨hx, hb, hml, hown, hts⟩ (c_X9_isGood_dg hT (w := w) hw (by first | omega | decide | assumption) (by first | omega | decide | assumption) (by first | omega | decide | assumption) (by first | omega | decide | assumption) ⟨hkm, hkb, hkd⟩) (cwV 0 hts gX9_emit_X9_isGood rfl rfl rfl hdX9_isGood_v ⟨Nat.le_of_ble_eq_true rfl, Nat.le_of_ble_eq_true rfl⟩) hN hE hL (rcv10 hN hT hw.1) rfl rfl hl.1 (Nat.le_of_ble_eq_true rfl) dX9_emit_1 (Nat.zero_le _) (Nat.zero_le _) (fun r1643 H1 locs hL hqr1643 => ?_)
  obtain ⟨h9, hqr1643⟩ := hqr1643; replace h9 := h9.symm; subst h9
  obtain rfl := hqr1643
  refine lv_if_ne (tgt := 8) hx hb dX9_emit_4 (by decide) (fun _ => ?_) (fun c9 => absurd c9 (by decide))
  refine lv_aload_n hx hb dX9_emit_8 rfl (lv_at hl 0 rfl) ?_
  obtain ⟨hb1644, e1644, hat1644, hk1644⟩ := hT.o10 hw.1
  obtain ⟨f1644_0, f1644_1, f1644_3, f1644_4, f1644_5, f1644_6, f1644_7, f1644_9, f1644_10, f1644_11, f1644_12, f1644_13, f1644_14, f1644_15, f1644_16, f1644_17, rfl, c1644_2, c1644_3, c1644_4, c1644_12, t1644_1, t1644_8, t1644_9, c1644_sd, t1644_10, t1644_11, t1644_17⟩ := hk1644
  obtain ⟨rfl, rfl, rfl, rfl, rfl, rfl, rfl, rfl, rfl, rfl, rfl, rfl, rfl, rfl, rfl, rfl⟩ := eq10 hat1644 hkm (by omega)
  have hP : va_P D vwCl [(w, .inr (9, [.int th, .ref bu, .int (nI ((κ w).2.2.1)), .int (nI tl), .int (nI pos), .int 0, .int ea, .int eo, .ref (κ w).2.2.2, .ref sd, .ref dr, .ref hi, .int (nI ud), .int ns, .int ne, .int se, .int td, .ref sk]))] _ := va_P.cons hat1644 va_P.nil
  refine va_get (D := D) (ci := 9) (v := .ref dr) (C := RX9) (T := TX9) (N := 18) hx hb hts iX9_emit_9 hown hN.1 hP 0 rfl rfl 10 (by decide) (hts _ mX9_emit_1) (fun _ h9 => h9) rfl dX9_emit_9 ?_
  refine lv_sipush (v := 183) hx hb dX9_emit_12 (by decide) ?_
  refine lv_aload_n hx hb dX9_emit_15 rfl (lv_at hl 0 rfl) ?_
  refine va_get (D := D) (ci := 9) (v := .ref dr) (C := RX9) (T := TX9) (N := 18) hx hb hts iX9_emit_9 hown hN.1 hP 0 rfl rfl 10 (by decide) (hts _ mX9_emit_1) (fun _ h9 => h9) rfl dX9_emit_16 ?_
  obtain ⟨hb1645, e1645, hat1645, hk1645⟩ := hT.o26 hdT.1
  have hat1645 := hkd
  have hP : va_P D vwCl [(dr, .inl (cs 0, 1383, .inl f)), (w, .inr (9, [.int th, .ref bu, .int (nI ((κ w).2.2.1)), .int (nI tl), .int (nI pos), .int 0, .int ea, .int eo, .ref (κ w).2.2.2, .ref sd, .ref dr, .ref hi, .int (nI ud), .int ns, .int ne, .int se, .int td, .ref sk]))] _ := va_P.cons hat1645 hP
  refine lv_bipush (v := 14) hx hb dX9_emit_19 (by decide) ?_
  refine ld_i (v := (f 14)) hx hb hN hP 0 rfl (vp_in_nI (n := 14) (N := 1383) (by omega) (by omega)) (by rw [(show (14 : Int32).toNatClampNeg = 14 from nI_clamp (n := 14) (by omega))]) dX9_emit_21 ?_
  refine tp_i (nI N) e14 ?_
  refine lv_iadd hx hb dX9_emit_22 ?_
  refine tp_i (nI (183 + N)) (nI_add 183 N) ?_
  refine lv_iload_n hx hb dX9_emit_23 rfl (lv_at hl 1 rfl) ?_
  have hB : Bx B0 D _ [(dr, .inl (cs 0, 1383, .inl f)), (w, .inr (9, [.int th, .ref bu, .int (nI ((κ w).2.2.1)), .int (nI tl), .int (nI pos), .int 0, .int ea, .int eo, .ref (κ w).2.2.2, .ref sd, .ref dr, .ref hi, .int (nI ud), .int ns, .int ne, .int se, .int td, .ref sk]))] [] _ _ := Bx.of (fun a => (κ a).1) hL hP (fa_c hb1645 (fa_c hb1644 fa_n)) (by simp only [List.map_cons, List.map_nil, hdT.1, hw.1]; decide)
  refine b_i hx hb hN hB 0 rfl (vp_in_nI (n := (183 + N)) (N := 1383) (by omega) (by omega)) (.inl rfl) dX9_emit_24 (fun H locs hB => ?_)
  rw [(show ((nI (183 + N)) : Int32).toNatClampNeg = (183 + N) from nI_clamp (n := (183 + N)) (by omega))] at hB
  have hB : Bx B0 D _ [(dr, .inl (cs 0, 1383, .inl (upd f (183 + N) x))), (w, .inr (9, [.int th, .ref bu, .int (nI ((κ w).2.2.1)), .int (nI tl), .int (nI pos), .int 0, .int ea, .int eo, .ref (κ w).2.2.2, .ref sd, .ref dr, .ref hi, .int (nI ud), .int ns, .int ne, .int se, .int td, .ref sk]))] [dr] _ _ := hB
  have z1646 := DRK.sf hq26 (k := (183 + N)) (by omega) (x := x)
  have e1647 := (pk_un (f := f) (x := x) (show 14 ≠ (183 + N) by omega)).trans e14
  refine lv_aload_n hx hb dX9_emit_25 rfl (lv_at hl 0 rfl) ?_
  refine va_get (D := D) (ci := 9) (v := .ref dr) (C := RX9) (T := TX9) (N := 18) hx hb hts iX9_emit_9 hown hN.1 hB.1 1 rfl rfl 10 (by decide) (hts _ mX9_emit_1) (fun _ h9 => h9) rfl dX9_emit_26 ?_
  refine lv_bipush (v := 14) hx hb dX9_emit_29 (by decide) ?_
  refine lv_dup2_11 hx hb dX9_emit_31 rfl rfl ?_
  refine ld_i (v := ((upd f (183 + N) x) 14)) hx hb hN hB.1 0 rfl (vp_in_nI (n := 14) (N := 1383) (by omega) (by omega)) (by rw [(show (14 : Int32).toNatClampNeg = 14 from nI_clamp (n := 14) (by omega))]) dX9_emit_32 ?_
  refine tp_i (nI N) e1647 ?_
  refine lv_iconst (v := 1) hx hb dX9_emit_33 (by decide) ?_
  refine lv_iadd hx hb dX9_emit_34 ?_
  refine tp_i (nI (N + 1)) (nI_add N 1) ?_
  refine b_i hx hb hN hB 0 rfl (show vp_in (14 : Int32) 1383 from vp_in_nI (n := 14) (N := 1383) (by omega) (by omega)) (.inr ⟨rfl, List.mem_of_getElem? (i := 0) rfl⟩) dX9_emit_35 (fun H locs hB => ?_)
  rw [(show (14 : Int32).toNatClampNeg = 14 from nI_clamp (n := 14) (by omega))] at hB
  have hB : Bx B0 D _ [(dr, .inl (cs 0, 1383, .inl (upd (upd f (183 + N) x) 14 (nI (N + 1))))), (w, .inr (9, [.int th, .ref bu, .int (nI ((κ w).2.2.1)), .int (nI tl), .int (nI pos), .int 0, .int ea, .int eo, .ref (κ w).2.2.2, .ref sd, .ref dr, .ref hi, .int (nI ud), .int ns, .int ne, .int se, .int td, .ref sk]))] [dr] _ _ := hB
  have z1648 := DRK.s14 z1646 (n := (N + 1)) (by omega)
  have hT : WT B0 D cs T κ _ := hT.close hB ⟨⟨0, _, rfl, ok_26 hdT.1 ⟨_, rfl, z1648⟩⟩, trivial⟩
  have hF : Fr B0 [17] κ H0 _ := hF.close hB (fa_c (by simp [hdT.2]) fa_n)
  have hL : OkL B0 _ := hB.2.2.2.2.2
  have hP : va_P D vwCl [(dr, .inl (cs 0, 1383, .inl (upd (upd f (183 + N) x) 14 (nI (N + 1))))), (w, .inr (9, [.int th, .ref bu, .int (nI ((κ w).2.2.1)), .int (nI tl), .int (nI pos), .int 0, .int ea, .int eo, .ref (κ w).2.2.2, .ref sd, .ref dr, .ref hi, .int (nI ud), .int ns, .int ne, .int se, .int td, .ref sk]))] _ := hB.1
  have hkm : va_at D vwCl (w, .inr (9, [.int th, .ref bu, .int (nI ((κ w).2.2.1)), .int (nI tl), .int (nI pos), .int 0, .int ea, .int eo, .ref (κ w).2.2.2, .ref sd, .ref dr, .ref hi, .int (nI ud), .int ns, .int ne, .int se, .int td, .ref sk])) _ := hP 1 _ rfl
  have hkb := hkb.kept (hB.2.2.2.1 _ hkb.lt (by simp only [List.mem_cons, List.not_mem_nil, or_false, not_or]; exact ne_c hbT.1 hdT.1 (by decide)))
  have hkd : va_at D vwCl (dr, .inl (cs 0, 1383, .inl (upd (upd f (183 + N) x) 14 (nI (N + 1))))) _ := hP 0 _ rfl
  have hq26 := f26 hT hdT hkd
  exact en_v hx hb hr hlocks hL (Nat.zero_le _) (Nat.zero_le _) dX9_emit_36 (⟨hT, hF, ⟨hkm, hkb, hkd⟩⟩)
