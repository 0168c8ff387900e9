set_option maxHeartbeats 4000000 in
set_option maxRecDepth 100000 in
theorem c_X6_delayOf_de {l : Launch} {D : va_G} {cs : Nat → ClassId} {B0 T : Nat} {κ : KM} {H0 : Heap} (hT : WT B0 D cs T κ H0) {x : Int32} {y : Int32} {sq ct of dr dl pl : Nat} {ne pa : Int32} {mg : Value} {tc fo fd fl : Nat → Int32} (hsu : T2 κ sq 7 11) (hpl : 1 ≤ pl ∧ pl ≤ 8) (hsx : SUX D cs sq H0 pl ne pa mg ct of dr dl tc fo fd fl) : KC l yX6_delayOf wsX6_delayOf 1 21 0 0 D cs B0 H0 [.ref sq, .int x, .int y] (Qi (fun r H => H = H0 ∧ (r = fl (plc x y)))) := by
  refine KC.of cX6_delayOf 3 (some .int) (by decide) rfl (Nat.le_of_ble_eq_true rfl) ?_
  intro p e s m below meth c ls hx hb hr hml hown hts hlocks hin hN hE hH0 hl
  have hown : s.vm.findClass RX6 = some m.cls := hown
  have hl : lv_has ls 3 [(0, .ref sq), (1, .int x), (2, .int y)] := hl
  have hL : OkL B0 [] := OkL.nil
  obtain ⟨hct, hof, hdr, hdl⟩ := SUX.t2 hT hsu hsx.1
  obtain ⟨hksq, hkct, hkof, hkdr, hkdl, hod⟩ := hsx
  have hq18 := f18 hT hct hkct
  have hq20 := f20 hT hdl hkdl
  refine lv_aload_n hx hb dX6_delayOf_0 rfl (lv_at hl 0 rfl) ?_
  obtain ⟨hb2606, e2606, hat2606, hk2606⟩ := hT.o7 hsu.1
  obtain ⟨f2606_0, f2606_1, f2606_2, f2606_3, f2606_4, f2606_5, f2606_6, f2606_7, rfl, c2606_0, c2606_3, c2606_mg, t2606_4, t2606_5, t2606_6, t2606_7⟩ := hk2606
  rw [hsu.2] at t2606_4
  rw [hsu.2] at t2606_5
  rw [hsu.2] at t2606_6
  rw [hsu.2] at t2606_7
  obtain ⟨rfl, rfl, rfl, rfl, rfl, rfl, rfl, rfl⟩ := eq7 hat2606 hksq (by omega)
  have hP : va_P D vwCl [(sq, .inr (6, [.int (nI pl), .int ne, .int pa, mg, .ref ct, .ref of, .ref dr, .ref dl]))] _ := va_P.cons hat2606 va_P.nil
  refine va_get (D := D) (ci := 6) (v := .ref dl) (C := RX6) (T := TX6) (N := 8) hx hb hts iX6_delayOf_6 hown hN.1 hP 0 rfl rfl 7 (by decide) (hts _ mX6_delayOf_1) (fun _ h9 => h9) rfl dX6_delayOf_1 ?_
  refine lv_iload_n hx hb dX6_delayOf_4 rfl (lv_at hl 1 rfl) ?_
  refine lv_iload_n hx hb dX6_delayOf_5 rfl (lv_at hl 2 rfl) ?_
  refine cs_i (As := [.int x, .int y]) (rest := [.ref dl]) ⟨hx, hb, hml, hown, hts⟩ (c_X6_place hT (x := x) (y := y)) (va_cwS 2 hts gX6_delayOf_X6_place rfl rfl rfl hdX6_place_o ⟨Nat.le_of_ble_eq_true rfl, Nat.le_of_ble_eq_true rfl⟩) hN hE hL rfl rfl hl.1 (Nat.le_of_ble_eq_true rfl) dX6_delayOf_6 (Nat.zero_le _) (Nat.zero_le _) (fun r2607 H1 locs hL hqr2607 => ?_)
  obtain ⟨h9, hqr2607⟩ := hqr2607; replace h9 := h9.symm; subst h9
  obtain rfl := hqr2607
  have hp2608 := plc_lt x y
  obtain ⟨hb2609, e2609, hat2609, hk2609⟩ := hT.o20 t2606_7.1
  have hat2609 := hkdl
  have hP : va_P D vwCl [(dl, .inl (cs 0, 64, .inl fl)), (sq, .inr (6, [.int (nI pl), .int ne, .int pa, mg, .ref ct, .ref of, .ref dr, .ref dl]))] _ := va_P.cons hat2609 hP
  refine ld_i (v := (fl (plc x y))) hx hb hN hP 0 rfl (vp_in_nI (n := (plc x y)) (N := 64) (by omega) (by omega)) (by rw [(show ((nI (plc x y)) : Int32).toNatClampNeg = (plc x y) from nI_clamp (n := (plc x y)) (by omega))]) dX6_delayOf_9 ?_
  obtain ⟨n2610, hn2610, en2610⟩ := hq20 (plc x y) (by omega)
  refine tp_i (nI n2610) en2610 ?_
  exact en_i hx hb hr hlocks hL rfl (Nat.zero_le _) (Nat.zero_le _) dX6_delayOf_10 (⟨rfl, en2610.symm⟩)
set_option maxHeartbeats 4000000 in
set_option maxRecDepth 100000 in
theorem c_X6_hasClock_de {l : Launch} {D : va_G} {cs : Nat → ClassId} {B0 T : Nat} {κ : KM} {H0 : Heap} (hT : WT B0 D cs T κ H0) {x : Int32} {sq ct of dr dl pl : Nat} {ne pa : Int32} {mg : Value} {tc fo fd fl : Nat → Int32} (hsu : T2 κ sq 7 11) (hpl : 1 ≤ pl ∧ pl ≤ 8) (hsx : SUX D cs sq H0 pl ne pa mg ct of dr dl tc fo fd fl) : KC l yX6_hasClock wsX6_hasClock 0 0 0 0 D cs B0 H0 [.ref sq, .int x] (Qi (fun r H => H = H0 ∧ (r = tc (m7 x)))) := by
  refine KC.of cX6_hasClock 2 (some .boolean) (by decide) rfl (Nat.le_of_ble_eq_true rfl) ?_
  intro p e s m below meth c ls hx hb hr hml hown hts hlocks hin hN hE hH0 hl
  have hown : s.vm.findClass RX6 = some m.cls := hown
  have hl : lv_has ls 2 [(0, .ref sq), (1, .int x)] := hl
  have hL : OkL B0 [] := OkL.nil
  obtain ⟨hct, hof, hdr, hdl⟩ := SUX.t2 hT hsu hsx.1
  obtain ⟨hksq, hkct, hkof, hkdr, hkdl, hod⟩ := hsx
  have hq18 := f18 hT hct hkct
  have hq20 := f20 hT hdl hkdl
  refine lv_aload_n hx hb dX6_hasClock_0 rfl (lv_at hl 0 rfl) ?_
  obtain ⟨hb2611, e2611, hat2611, hk2611⟩ := hT.o7 hsu.1
  obtain ⟨f2611_0, f2611_1, f2611_2, f2611_3, f2611_4, f2611_5, f2611_6, f2611_7, rfl, c2611_0, c2611_3, c2611_mg, t2611_4, t2611_5, t2611_6, t2611_7⟩ := hk2611
  rw [hsu.2] at t2611_4
  rw [hsu.2] at t2611_5
  rw [hsu.2] at t2611_6
  rw [hsu.2] at t2611_7
  obtain ⟨rfl, rfl, rfl, rfl, rfl, rfl, rfl, rfl⟩ := eq7 hat2611 hksq (by omega)
  have hP : va_P D vwCl [(sq, .inr (6, [.int (nI pl), .int ne, .int pa, mg, .ref ct, .ref of, .ref dr, .ref dl]))] _ := va_P.cons hat2611 va_P.nil
  refine va_get (D := D) (ci := 6) (v := .ref ct) (C := RX6) (T := TX6) (N := 8) hx hb hts iX6_hasClock_6 hown hN.1 hP 0 rfl rfl 4 (by decide) (hts _ mX6_hasClock_1) (fun _ h9 => h9) rfl dX6_hasClock_1 ?_
  refine lv_iload_n hx hb dX6_hasClock_4 rfl (lv_at hl 1 rfl) ?_
  refine lv_bipush (v := 7) hx hb dX6_hasClock_5 (by decide) ?_
  refine lv_iand hx hb dX6_hasClock_7 ?_
  have hj2612 := m7_lt x
  refine tp_i (nI (m7 x)) (and7 x) ?_
  obtain ⟨hb2613, e2613, hat2613, hk2613⟩ := hT.o18 t2611_4.1
  have hat2613 := hkct
  have hP : va_P D vwCl [(ct, .inl (cs 2, 8, .inl tc)), (sq, .inr (6, [.int (nI pl), .int ne, .int pa, mg, .ref ct, .ref of, .ref dr, .ref dl]))] _ := va_P.cons hat2613 hP
  refine ld_z (v := (tc (m7 x))) hx hb hN hP 0 rfl (vp_in_nI (n := (m7 x)) (N := 8) (by omega) (by omega)) (by rw [(show ((nI (m7 x)) : Int32).toNatClampNeg = (m7 x) from nI_clamp (n := (m7 x)) (by omega))]) dX6_hasClock_8 ?_
  exact en_i hx hb hr hlocks hL (nb (hq18 (m7 x) (by omega))) (Nat.zero_le _) (Nat.zero_le _) dX6_hasClock_9 (⟨rfl, rfl⟩)
set_option maxHeartbeats 4000000 in
set_option maxRecDepth 100000 in
theorem c_X6_setClock_de {l : Launch} {D : va_G} {cs : Nat → ClassId} {B0 T : Nat} {κ : KM} {H0 : Heap} (hT : WT B0 D cs T κ H0) {x : Int32} {y : Int32} {z : Int32} {sq ct of dr dl pl : Nat} {ne pa : Int32} {mg : Value} {tc fo fd fl : Nat → Int32} (hsu : T2 κ sq 7 11) (hpl : 1 ≤ pl ∧ pl ≤ 8) (hsx : SUX D cs sq H0 pl ne pa mg ct of dr dl tc fo fd fl) : KC l yX6_setClock wsX6_setClock 0 0 0 0 D cs B0 H0 [.ref sq, .int x, .int y, .int z] (Qv (fun H => WT B0 D cs T κ H ∧ Fr B0 [11] κ H0 H ∧ (SUX D cs sq H pl ne pa mg ct of dr dl (upd tc (m7 x) 1) (upd fo (m7 x) y) (upd fd (m7 x) z) fl))) := by
  refine KC.of cX6_setClock 4 none (by decide) rfl (Nat.le_of_ble_eq_true rfl) ?_
  intro p e s m below meth c ls hx hb hr hml hown hts hlocks hin hN hE hH0 hl
  have hown : s.vm.findClass RX6 = some m.cls := hown
  have hl : lv_has ls 4 [(0, .ref sq), (1, .int x), (2, .int y), (3, .int z)] := hl
  have hL : OkL B0 [] := OkL.nil
  have hF : Fr B0 [11] κ H0 H0 := Fr.rf
  obtain ⟨hct, hof, hdr, hdl⟩ := SUX.t2 hT hsu hsx.1
  obtain ⟨hksq, hkct, hkof, hkdr, hkdl, hod⟩ := hsx
  have hq18 := f18 hT hct hkct
  have hq20 := f20 hT hdl hkdl
  refine lv_aload_n hx hb dX6_setClock_0 rfl (lv_at hl 0 rfl) ?_
  obtain ⟨hb2614, e2614, hat2614, hk2614⟩ := hT.o7 hsu.1
  obtain ⟨f2614_0, f2614_1, f2614_2, f2614_3, f2614_4, f2614_5, f2614_6, f2614_7, rfl, c2614_0, c2614_3, c2614_mg, t2614_4, t2614_5, t2614_6, t2614_7⟩ := hk2614
  rw [hsu.2] at t2614_4
  rw [hsu.2] at t2614_5
  rw [hsu.2] at t2614_6
  rw [hsu.2] at t2614_7
  obtain ⟨rfl, rfl, rfl, rfl, rfl, rfl, rfl, rfl⟩ := eq7 hat2614 hksq (by omega)
  have hP : va_P D vwCl [(sq, .inr (6, [.int (nI pl), .int ne, .int pa, mg, .ref ct, .ref of, .ref dr, .ref dl]))] _ := va_P.cons hat2614 va_P.nil
  refine va_get (D := D) (ci := 6) (v := .ref ct) (C := RX6) (T := TX6) (N := 8) hx hb hts iX6_setClock_6 hown hN.1 hP 0 rfl rfl 4 (by decide) (hts _ mX6_setClock_1) (fun _ h9 => h9) rfl dX6_setClock_1 ?_
  refine lv_iload_n hx hb dX6_setClock_4 rfl (lv_at hl 1 rfl) ?_
  refine lv_bipush (v := 7) hx hb dX6_setClock_5 (by decide) ?_
  refine lv_iand hx hb dX6_setClock_7 ?_
  have hj2615 := m7_lt x
  refine tp_i (nI (m7 x)) (and7 x) ?_
  refine lv_iconst (v := 1) hx hb dX6_setClock_8 (by decide) ?_
  obtain ⟨hb2616, e2616, hat2616, hk2616⟩ := hT.o18 t2614_4.1
  have hat2616 := hkct
  have hP : va_P D vwCl [(ct, .inl (cs 2, 8, .inl tc)), (sq, .inr (6, [.int (nI pl), .int ne, .int pa, mg, .ref ct, .ref of, .ref dr, .ref dl]))] _ := va_P.cons hat2616 hP
  have hB : Bx B0 D _ [(ct, .inl (cs 2, 8, .inl tc)), (sq, .inr (6, [.int (nI pl), .int ne, .int pa, mg, .ref ct, .ref of, .ref dr, .ref dl]))] [] _ _ := Bx.of (fun a => (κ a).1) hL hP (fa_c hb2616 (fa_c hb2614 fa_n)) (by simp only [List.map_cons, List.map_nil, t2614_4.1, hsu.1]; decide)
  refine b_z hx hb hN hB 0 rfl (vp_in_nI (n := (m7 x)) (N := 8) (by omega) (by omega)) (.inl rfl) dX6_setClock_9 (fun H locs hB => ?_)
  rw [(show ((nI (m7 x)) : Int32).toNatClampNeg = (m7 x) from nI_clamp (n := (m7 x)) (by omega))] at hB
  have hB : Bx B0 D _ [(ct, .inl (cs 2, 8, .inl (upd tc (m7 x) (vp_nar .boolean 1)))), (sq, .inr (6, [.int (nI pl), .int ne, .int pa, mg, .ref ct, .ref of, .ref dr, .ref dl]))] [ct] _ _ := hB
  have hzg2617 := up01 hq18 ((m7 x)) (y := (vp_nar .boolean 1)) (by decide)
  refine lv_aload_n hx hb dX6_setClock_10 rfl (lv_at hl 0 rfl) ?_
  refine va_get (D := D) (ci := 6) (v := .ref of) (C := RX6) (T := TX6) (N := 8) hx hb hts iX6_setClock_6 hown hN.1 hB.1 1 rfl rfl 5 (by decide) (hts _ mX6_setClock_2) (fun _ h9 => h9) rfl dX6_setClock_11 ?_
  refine lv_iload_n hx hb dX6_setClock_14 rfl (lv_at hl 1 rfl) ?_
  refine lv_bipush (v := 7) hx hb dX6_setClock_15 (by decide) ?_
  refine lv_iand hx hb dX6_setClock_17 ?_
  have hj2618 := m7_lt x
  refine tp_i (nI (m7 x)) (and7 x) ?_
  refine lv_iload_n hx hb dX6_setClock_18 rfl (lv_at hl 2 rfl) ?_
  obtain ⟨hb2619, e2619, hat2619, hk2619⟩ := hT.o19 t2614_5.1
  have hat2619 := hkof
  have hB : Bx B0 D _ [(ct, .inl (cs 2, 8, .inl (upd tc (m7 x) (vp_nar .boolean 1)))), (sq, .inr (6, [.int (nI pl), .int ne, .int pa, mg, .ref ct, .ref of, .ref dr, .ref dl])), (of, .inl (cs 0, 8, .inl fo))] [ct] _ _ := hB.more hat2619 hb2619 (fa_c (ne_c t2614_4.1 t2614_5.1 (by decide))  (fa_c (ne_c hsu.1 t2614_5.1 (by decide)) fa_n)) (fa_c (ne_c t2614_4.1 t2614_5.1 (by decide)) fa_n)
  refine b_i hx hb hN hB 2 rfl (vp_in_nI (n := (m7 x)) (N := 8) (by omega) (by omega)) (.inl rfl) dX6_setClock_19 (fun H locs hB => ?_)
  rw [(show ((nI (m7 x)) : Int32).toNatClampNeg = (m7 x) from nI_clamp (n := (m7 x)) (by omega))] at hB
  have hB : Bx B0 D _ [(ct, .inl (cs 2, 8, .inl (upd tc (m7 x) (vp_nar .boolean 1)))), (sq, .inr (6, [.int (nI pl), .int ne, .int pa, mg, .ref ct, .ref of, .ref dr, .ref dl])), (of, .inl (cs 0, 8, .inl (upd fo (m7 x) y)))] [of, ct] _ _ := hB
  refine lv_aload_n hx hb dX6_setClock_20 rfl (lv_at hl 0 rfl) ?_
  refine va_get (D := D) (ci := 6) (v := .ref dr) (C := RX6) (T := TX6) (N := 8) hx hb hts iX6_setClock_6 hown hN.1 hB.1 1 rfl rfl 6 (by decide) (hts _ mX6_setClock_3) (fun _ h9 => h9) rfl dX6_setClock_21 ?_
  refine lv_iload_n hx hb dX6_setClock_24 rfl (lv_at hl 1 rfl) ?_
  refine lv_bipush (v := 7) hx hb dX6_setClock_25 (by decide) ?_
  refine lv_iand hx hb dX6_setClock_27 ?_
  have hj2621 := m7_lt x
  refine tp_i (nI (m7 x)) (and7 x) ?_
  refine lv_iload_n hx hb dX6_setClock_28 rfl (lv_at hl 3 rfl) ?_
  have hT : WT B0 D cs T κ _ := hT.close hB ⟨⟨2, _, rfl, ok_19 t2614_5.1 ⟨_, rfl⟩⟩, ⟨⟨0, _, rfl, ok_18 t2614_4.1 ⟨_, rfl, hzg2617⟩⟩, trivial⟩⟩
  have hF : Fr B0 [11] κ H0 _ := hF.close hB (fa_c (by simp [t2614_5.2]) (fa_c (by simp [t2614_4.2]) fa_n))
  have hL : OkL B0 _ := hB.2.2.2.2.2
  have hP : va_P D vwCl [(ct, .inl (cs 2, 8, .inl (upd tc (m7 x) (vp_nar .boolean 1)))), (sq, .inr (6, [.int (nI pl), .int ne, .int pa, mg, .ref ct, .ref of, .ref dr, .ref dl])), (of, .inl (cs 0, 8, .inl (upd fo (m7 x) y)))] _ := hB.1
  have hksq : va_at D vwCl (sq, .inr (6, [.int (nI pl), .int ne, .int pa, mg, .ref ct, .ref of, .ref dr, .ref dl])) _ := hP 1 _ rfl
  have hkct : va_at D vwCl (ct, .inl (cs 2, 8, .inl (upd tc (m7 x) (vp_nar .boolean 1)))) _ := hP 0 _ rfl
  have hq18 := f18 hT hct hkct
  have hkof : va_at D vwCl (of, .inl (cs 0, 8, .inl (upd fo (m7 x) y))) _ := hP 2 _ rfl
  have hkdr := hkdr.kept (hB.2.2.2.1 _ hkdr.lt (by simp only [List.mem_cons, List.not_mem_nil, or_false, not_or]; exact ⟨(Ne.symm hod), ne_c hdr.1 t2614_4.1 (by decide)⟩))
  have hkdl := hkdl.kept (hB.2.2.2.1 _ hkdl.lt (by simp only [List.mem_cons, List.not_mem_nil, or_false, not_or]; exact ⟨ne_c hdl.1 t2614_5.1 (by decide), ne_c hdl.1 t2614_4.1 (by decide)⟩))
  obtain ⟨hb2622, e2622, hat2622, hk2622⟩ := hT.o19 t2614_6.1
  have hat2622 := hkdr
  have hP : va_P D vwCl [(dr, .inl (cs 0, 8, .inl fd))] _ := va_P.cons hat2622 va_P.nil
  have hB : Bx B0 D _ [(dr, .inl (cs 0, 8, .inl fd))] [] _ _ := Bx.of (fun a => (κ a).1) hL hP (fa_c hb2622 fa_n) (by simp only [List.map_cons, List.map_nil, t2614_6.1]; decide)
  refine b_i hx hb hN hB 0 rfl (vp_in_nI (n := (m7 x)) (N := 8) (by omega) (by omega)) (.inl rfl) dX6_setClock_29 (fun H locs hB => ?_)
  rw [(show ((nI (m7 x)) : Int32).toNatClampNeg = (m7 x) from nI_clamp (n := (m7 x)) (by omega))] at hB
  have hB : Bx B0 D _ [(dr, .inl (cs 0, 8, .inl (upd fd (m7 x) z)))] [dr] _ _ := hB
  have hT : WT B0 D cs T κ _ := hT.close hB ⟨⟨0, _, rfl, ok_19 t2614_6.1 ⟨_, rfl⟩⟩, trivial⟩
  have hF : Fr B0 [11] κ H0 _ := hF.close hB (fa_c (by simp [t2614_6.2]) fa_n)
  have hL : OkL B0 _ := hB.2.2.2.2.2
  have hP : va_P D vwCl [(dr, .inl (cs 0, 8, .inl (upd fd (m7 x) z)))] _ := hB.1
  have hksq := hksq.kept (hB.2.2.2.1 _ hksq.lt (by simp only [List.mem_cons, List.not_mem_nil, or_false, not_or]; exact ne_c hsu.1 t2614_6.1 (by decide)))
  have hkct := hkct.kept (hB.2.2.2.1 _ hkct.lt (by simp only [List.mem_cons, List.not_mem_nil, or_false, not_or]; exact ne_c hct.1 t2614_6.1 (by decide)))
  have hkof := hkof.kept (hB.2.2.2.1 _ hkof.lt (by simp only [List.mem_cons, List.not_mem_nil, or_false, not_or]; exact hod))
  have hkdr : va_at D vwCl (dr, .inl (cs 0, 8, .inl (upd fd (m7 x) z))) _ := hP 0 _ rfl
  have hkdl := hkdl.kept (hB.2.2.2.1 _ hkdl.lt (by simp only [List.mem_cons, List.not_mem_nil, or_false, not_or]; exact ne_c hdl.1 t2614_6.1 (by decide)))
  exact en_v hx hb hr hlocks hL (Nat.zero_le _) (Nat.zero_le _) dX6_setClock_30 (⟨hT, hF, ⟨hksq, hkct, hkof, hkdr, hkdl, hod⟩⟩)
set_option maxHeartbeats 4000000 in
set_option maxRecDepth 100000 in
theorem c_X6_setDelay_de {l : Launch} {D : va_G} {cs : Nat → ClassId} {B0 T : Nat} {κ : KM} {H0 : Heap} (hT : WT B0 D cs T κ H0) {x : Int32} {y : Int32} {v : Nat} {sq ct of dr dl pl : Nat} {ne pa : Int32} {mg : Value} {tc fo fd fl : Nat → Int32} (hsu : T2 κ sq 7 11) (hpl : 1 ≤ pl ∧ pl ≤ 8) (hsx : SUX D cs sq H0 pl ne pa mg ct of dr dl tc fo fd fl) (hv : v ≤ 9) : KC l yX6_setDelay wsX6_setDelay 1 21 0 0 D cs B0 H0 [.ref sq, .int x, .int y, .int (nI v)] (Qv (fun H => WT B0 D cs T κ H ∧ Fr B0 [11] κ H0 H ∧ (SUX D cs sq H pl ne pa mg ct of dr dl tc fo fd (upd fl (plc x y) (nI v))))) := by
  refine KC.of cX6_setDelay 4 none (by decide) rfl (Nat.le_of_ble_eq_true rfl) ?_
  intro p e s m below meth c ls hx hb hr hml hown hts hlocks hin hN hE hH0 hl
  have hown : s.vm.findClass RX6 = some m.cls := hown
  have hl : lv_has ls 4 [(0, .ref sq), (1, .int x), (2, .int y), (3, .int (nI v))] := hl
  have hL : OkL B0 [] := OkL.nil
  have hF : Fr B0 [11] κ H0 H0 := Fr.rf
  obtain ⟨hct, hof, hdr, hdl⟩ := SUX.t2 hT hsu hsx.1
  obtain ⟨hksq, hkct, hkof, hkdr, hkdl, hod⟩ := hsx
  have hq18 := f18 hT hct hkct
  have hq20 := f20 hT hdl hkdl
  refine lv_aload_n hx hb dX6_setDelay_0 rfl (lv_at hl 0 rfl) ?_
  obtain ⟨hb2624, e2624, hat2624, hk2624⟩ := hT.o7 hsu.1
  obtain ⟨f2624_0, f2624_1, f2624_2, f2624_3, f2624_4, f2624_5, f2624_6, f2624_7, rfl, c2624_0, c2624_3, c2624_mg, t2624_4, t2624_5, t2624_6, t2624_7⟩ := hk2624
  rw [hsu.2] at t2624_4
  rw [hsu.2] at t2624_5
  rw [hsu.2] at t2624_6
  rw [hsu.2] at t2624_7
  obtain ⟨rfl, rfl, rfl, rfl, rfl, rfl, rfl, rfl⟩ := eq7 hat2624 hksq (by omega)
  have hP : va_P D vwCl [(sq, .inr (6, [.int (nI pl), .int ne, .int pa, mg, .ref ct, .ref of, .ref dr, .ref dl]))] _ := va_P.cons hat2624 va_P.nil
  refine va_get (D := D) (ci := 6) (v := .ref dl) (C := RX6) (T := TX6) (N := 8) hx hb hts iX6_setDelay_6 hown hN.1 hP 0 rfl rfl 7 (by decide) (hts _ mX6_setDelay_1) (fun _ h9 => h9) rfl dX6_setDelay_1 ?_
  refine lv_iload_n hx hb dX6_setDelay_4 rfl (lv_at hl 1 rfl) ?_
  refine lv_iload_n hx hb dX6_setDelay_5 rfl (lv_at hl 2 rfl) ?_
  refine cs_i (As := [.int x, .int y]) (rest := [.ref dl]) ⟨hx, hb, hml, hown, hts⟩ (c_X6_place hT (x := x) (y := y)) (va_cwS 2 hts gX6_setDelay_X6_place rfl rfl rfl hdX6_place_o ⟨Nat.le_of_ble_eq_true rfl, Nat.le_of_ble_eq_true rfl⟩) hN hE hL rfl rfl hl.1 (Nat.le_of_ble_eq_true rfl) dX6_setDelay_6 (Nat.zero_le _) (Nat.zero_le _) (fun r2625 H1 locs hL hqr2625 => ?_)
  obtain ⟨h9, hqr2625⟩ := hqr2625; replace h9 := h9.symm; subst h9
  obtain rfl := hqr2625
  have hp2626 := plc_lt x y
  refine lv_iload_n hx hb dX6_setDelay_9 rfl (lv_at hl 3 rfl) ?_
  obtain ⟨hb2627, e2627, hat2627, hk2627⟩ := hT.o20 t2624_7.1
  have hat2627 := hkdl
  have hP : va_P D vwCl [(dl, .inl (cs 0, 64, .inl fl)), (sq, .inr (6, [.int (nI pl), .int ne, .int pa, mg, .ref ct, .ref of, .ref dr, .ref dl]))] _ := va_P.cons hat2627 hP
  have hB : Bx B0 D _ [(dl, .inl (cs 0, 64, .inl fl)), (sq, .inr (6, [.int (nI pl), .int ne, .int pa, mg, .ref ct, .ref of, .ref dr, .ref dl]))] [] _ _ := Bx.of (fun a => (κ a).1) hL hP (fa_c hb2627 (fa_c hb2624 fa_n)) (by simp only [List.map_cons, List.map_nil, t2624_7.1, hsu.1]; decide)
  refine b_i hx hb hN hB 0 rfl (vp_in_nI (n := (plc x y)) (N := 64) (by omega) (by omega)) (.inl rfl) dX6_setDelay_10 (fun H locs hB => ?_)
  rw [(show ((nI (plc x y)) : Int32).toNatClampNeg = (plc x y) from nI_clamp (n := (plc x y)) (by omega))] at hB
  have hB : Bx B0 D _ [(dl, .inl (cs 0, 64, .inl (upd fl (plc x y) (nI v)))), (sq, .inr (6, [.int (nI pl), .int ne, .int pa, mg, .ref ct, .ref of, .ref dr, .ref dl]))] [dl] _ _ := hB
  have z2628 := upR hq20 ((plc x y)) (y := v) (by omega)
  have hT : WT B0 D cs T κ _ := hT.close hB ⟨⟨0, _, rfl, ok_20 t2624_7.1 ⟨_, rfl, z2628⟩⟩, trivial⟩
  have hF : Fr B0 [11] κ H0 _ := hF.close hB (fa_c (by simp [t2624_7.2]) fa_n)
  have hL : OkL B0 _ := hB.2.2.2.2.2
  have hP : va_P D vwCl [(dl, .inl (cs 0, 64, .inl (upd fl (plc x y) (nI v)))), (sq, .inr (6, [.int (nI pl), .int ne, .int pa, mg, .ref ct, .ref of, .ref dr, .ref dl]))] _ := hB.1
  have hksq : va_at D vwCl (sq, .inr (6, [.int (nI pl), .int ne, .int pa, mg, .ref ct, .ref of, .ref dr, .ref dl])) _ := hP 1 _ rfl
  have hkct := hkct.kept (hB.2.2.2.1 _ hkct.lt (by simp only [List.mem_cons, List.not_mem_nil, or_false, not_or]; exact ne_c hct.1 t2624_7.1 (by decide)))
  have hkof := hkof.kept (hB.2.2.2.1 _ hkof.lt (by simp only [List.mem_cons, List.not_mem_nil, or_false, not_or]; exact ne_c hof.1 t2624_7.1 (by decide)))
  have hkdr := hkdr.kept (hB.2.2.2.1 _ hkdr.lt (by simp only [List.mem_cons, List.not_mem_nil, or_false, not_or]; exact ne_c hdr.1 t2624_7.1 (by decide)))
  have hkdl : va_at D vwCl (dl, .inl (cs 0, 64, .inl (upd fl (plc x y) (nI v)))) _ := hP 0 _ rfl
  have hq20 := f20 hT hdl hkdl
  exact en_v hx hb hr hlocks hL (Nat.zero_le _) (Nat.zero_le _) dX6_setDelay_11 (⟨hT, hF, ⟨hksq, hkct, hkof, hkdr, hkdl, hod⟩⟩)
theorem mX5_readNeed_1 : (.fieldLink RX5 65 "OneBeat$Reader" "setup" "LOneBeat$Setup;" : Cond) ∈ wsX5_readNeed := List.mem_of_getElem? (i := 1) (by decide +kernel)
theorem iX5_readNeed_5 : ∀ w ∈ wsX50, w ∈ wsX5_readNeed := fun w h => List.mem_of_mem_drop (List.mem_of_mem_take ((show wsX50 = (wsX5_readNeed.drop 26).take 14 by decide +kernel) ▸ h))
theorem iX5_readNeed_6 : ∀ w ∈ wsX60, w ∈ wsX5_readNeed := fun w h => List.mem_of_mem_drop (List.mem_of_mem_take ((show wsX60 = (wsX5_readNeed.drop 40).take 8 by decide +kernel) ▸ h))
theorem mX5_readNeed_2 : (.fieldLink RX5 59 "OneBeat$Reader" "taken" "I" : Cond) ∈ wsX5_readNeed := List.mem_of_getElem? (i := 2) (by decide +kernel)
set_option maxHeartbeats 4000000 in
set_option maxRecDepth 100000 in
theorem c_X5_readNeed {l : Launch} {D : va_G} {cs : Nat → ClassId} {B0 T : Nat} {κ : KM} {H0 : Heap} (hT : WT B0 D cs T κ H0) {w : Nat} (hw : T2 κ w 6 10) {tx co tn cc : Nat} {f cf B : Nat → Int32} {ta tk ec es : Int32} (hY : BY B tn) (hf : TXB f B tn) (hcc : cc ≤ 600) {sq ct of dr dl pl : Nat} {ne pa : Int32} {mg : Value} {tc fo fd fl : Nat → Int32} (hsu : T2 κ sq 7 11) (hpl : 1 ≤ pl ∧ pl ≤ 8) (hsx : SUX D cs sq H0 pl ne pa mg ct of dr dl tc fo fd fl) {z : Nat} (hz : z ≤ tn) (hrs : RS D cs w H0 tx f co cf (κ w).2.2.1 tn (tkE B z) (tkK B z) z (tkV B z) ta tk cc (.ref sq) ec es) : KC l yX5_readNeed wsX5_readNeed 2 44 0 0 D cs B0 H0 [.ref w] (Qi (fun r H => WT B0 D cs T κ H ∧ Fr B0 [10, 11] κ H0 H ∧ ((r = 1 ∧ ∃ v1 q1 ta1 tk1, numB B 1 pl (skp B (tkE B z)) = .inr (v1, q1) ∧ z < q1 ∧ q1 ≤ tn ∧ RS D cs w H tx f co cf (κ w).2.2.1 tn (tkE B q1) (tkK B q1) q1 (tkV B q1) ta1 tk1 cc (.ref sq) ec es ∧ SUX D cs sq H pl (nI v1) pa mg ct of dr dl tc fo fd fl) ∨ (r = 0 ∧ ∃ c9 o9, numB B 1 pl (skp B (tkE B z)) = .inl (c9, o9) ∧ RE D cs w H tx f co (κ w).2.2.1 tn (.ref sq) c9 (nI o9))))) := by
  refine KC.of cX5_readNeed 1 (some .boolean) (by decide) rfl (Nat.le_of_ble_eq_true rfl) ?_
  intro p e s m below meth c ls hx hb hr hml hown hts hlocks hin hN hE hH0 hl
  have hown : s.vm.findClass RX5 = some m.cls := hown
  have hl : lv_has ls 1 [(0, .ref w)] := hl
  have hL : OkL B0 [] := OkL.nil
  have hF : Fr B0 [10, 11] κ H0 H0 := Fr.rf
  obtain ⟨hkw, hktx, hkco⟩ := hrs
  have h6n := hY.1
  obtain ⟨htx, hco⟩ : T2 κ tx 16 10 ∧ T2 κ co 17 10 := RS.t2 hT hw hkw
  have hzE := tkE_le hY (s := z) (by omega)
  obtain ⟨hct, hof, hdr, hdl⟩ := SUX.t2 hT hsu hsx.1
  obtain ⟨hksq, hkct, hkof, hkdr, hkdl, hod⟩ := hsx
  have hq18 := f18 hT hct hkct
  have hq20 := f20 hT hdl hkdl
  refine lv_aload_n hx hb dX5_readNeed_0 rfl (lv_at hl 0 rfl) ?_
  refine cv_v (As := []) (rest := []) (b := w) ⟨hx, hb, hml, hown, hts⟩ (c_X5_step hT (w := w) hw (by first | omega | decide | assumption) (by first | omega | decide | assumption) (by first | omega | decide | assumption) (by first | omega | decide | assumption) (by first | omega | decide | assumption) ⟨hkw, hktx, hkco⟩) (cwV 0 hts gX5_readNeed_X5_step rfl rfl rfl hdX5_step_v ⟨Nat.le_of_ble_eq_true rfl, Nat.le_of_ble_eq_true rfl⟩) hN hE hL (rcv6 hN hT hw.1) rfl rfl hl.1 (Nat.le_of_ble_eq_true rfl) dX5_readNeed_1 (Nat.zero_le _) (Nat.zero_le _) (fun H1 locs hL hqr2629 => ?_)
  obtain ⟨hT1, hF1, hqr2629⟩ := hqr2629
  have hksq := hF1.hP (va_P.cons hksq va_P.nil) (fa_c ⟨by rw [hsu.1]; decide, by rw [hsu.2]; first | decide | (simp; done) | (simp; omega)⟩ fa_n) 0 _ rfl
  have hkct := hF1.hP (va_P.cons hkct va_P.nil) (fa_c ⟨by rw [hct.1]; decide, by rw [hct.2]; first | decide | (simp; done) | (simp; omega)⟩ fa_n) 0 _ rfl
  have hkof := hF1.hP (va_P.cons hkof va_P.nil) (fa_c ⟨by rw [hof.1]; decide, by rw [hof.2]; first | decide | (simp; done) | (simp; omega)⟩ fa_n) 0 _ rfl
  have hkdr := hF1.hP (va_P.cons hkdr va_P.nil) (fa_c ⟨by rw [hdr.1]; decide, by rw [hdr.2]; first | decide | (simp; done) | (simp; omega)⟩ fa_n) 0 _ rfl
  have hkdl := hF1.hP (va_P.cons hkdl va_P.nil) (fa_c ⟨by rw [hdl.1]; decide, by rw [hdl.2]; first | decide | (simp; done) | (simp; omega)⟩ fa_n) 0 _ rfl
  have hF := hF.tr (hF1.mono (by simp))
  have hT := hT1
  have m2630 := hqr2629
  obtain ⟨z2631, hz2631⟩ : ∃ z9, z9 = skp B ((tkE B z)) := ⟨_, rfl⟩
  rw [← hz2631] at m2630
  have bz2631 : z2631 ≤ tn := by rw [hz2631]; exact run_ub hY (by decide) (by omega)
  have hzE := tkE_le hY (s := z2631) (by omega)
  obtain ⟨hkw, hktx, hkco⟩ := m2630
  have hz1 : z2631 = (skp B (tkE B z)) := hz2631
  have hz1b := skp_b hY (z := tkE B z) (by omega)
  rw [← hz1] at hz1b
  refine lv_aload_n hx hb dX5_readNeed_4 rfl (lv_at hl 0 rfl) ?_
  refine lv_iconst (v := 1) hx hb dX5_readNeed_5 (by decide) ?_
  refine lv_aload_n hx hb dX5_readNeed_6 rfl (lv_at hl 0 rfl) ?_
  obtain ⟨hb2632, e2632, hat2632, hk2632⟩ := hT.o6 hw.1
  obtain ⟨f2632_0, f2632_2, f2632_3, f2632_4, f2632_5, f2632_6, f2632_7, f2632_8, f2632_9, f2632_10, f2632_11, f2632_12, f2632_13, rfl, c2632_1, c2632_2, c2632_3, c2632_5, c2632_10, t2632_0, t2632_9, c2632_11, c2632_p2⟩ := hk2632
  obtain ⟨rfl, rfl, rfl, rfl, rfl, rfl, rfl, rfl, rfl, rfl, rfl, rfl, rfl⟩ := eq6 hat2632 hkw (by omega)
  have hP : va_P D vwCl [(w, .inr (5, [.ref tx, .int (nI ((κ w).2.2.1)), .int (nI tn), .int (nI ((tkE B z2631))), .int (tkK B z2631), .int (nI z2631), .int (tkV B z2631), .int ta, .int tk, .ref co, .int (nI cc), .ref sq, .int ec, .int es]))] _ := va_P.cons hat2632 va_P.nil
  refine va_get (D := D) (ci := 5) (v := .ref sq) (C := RX5) (T := TX5) (N := 14) hx hb hts iX5_readNeed_5 hown hN.1 hP 0 rfl rfl 11 (by decide) (hts _ mX5_readNeed_1) (fun _ h9 => h9) rfl dX5_readNeed_7 ?_
  obtain ⟨hb2633, e2633, hat2633, hk2633⟩ := hT.o7 hsu.1
  obtain ⟨f2633_0, f2633_1, f2633_2, f2633_3, f2633_4, f2633_5, f2633_6, f2633_7, rfl, c2633_0, c2633_3, c2633_mg, t2633_4, t2633_5, t2633_6, t2633_7⟩ := hk2633
  rw [hsu.2] at t2633_4
  rw [hsu.2] at t2633_5
  rw [hsu.2] at t2633_6
  rw [hsu.2] at t2633_7
  obtain ⟨rfl, rfl, rfl, rfl, rfl, rfl, rfl, rfl⟩ := eq7 hat2633 hksq (by omega)
  have hP : va_P D vwCl [(sq, .inr (6, [.int (nI pl), .int ne, .int pa, mg, .ref ct, .ref of, .ref dr, .ref dl])), (w, .inr (5, [.ref tx, .int (nI ((κ w).2.2.1)), .int (nI tn), .int (nI ((tkE B z2631))), .int (tkK B z2631), .int (nI z2631), .int (tkV B z2631), .int ta, .int tk, .ref co, .int (nI cc), .ref sq, .int ec, .int es]))] _ := va_P.cons hat2633 hP
  refine va_getN (D := D) (ci := 6) (v := .int (nI pl)) (C := RX6) (T := TX6) (N := 8) hx hb hts iX5_readNeed_6 hown hN.1 hP 0 rfl rfl 0 (by decide) (hN.f 38 rfl) (fun _ h9 => h9) rfl dX5_readNeed_10 ?_
  refine cv_i (As := [.int 1, .int (nI pl)]) (rest := []) (b := w) ⟨hx, hb, hml, hown, hts⟩ (c_X5_takeNumber hT (w := w) hw (aa := 1) (bb := pl) (by first | omega | decide | assumption) (by first | omega | decide | assumption) (by first | omega | decide | assumption) (by first | omega | decide | assumption) ⟨hkw, hktx, hkco⟩ (by first | omega | decide | assumption) (by first | omega | decide | assumption)) (cwV 2 hts gX5_readNeed_X5_takeNumber rfl rfl rfl hdX5_takeNumber_v ⟨Nat.le_of_ble_eq_true rfl, Nat.le_of_ble_eq_true rfl⟩) hN hE hL (rcv6 hN hT hw.1) rfl rfl hl.1 (Nat.le_of_ble_eq_true rfl) dX5_readNeed_13 (Nat.zero_le _) (Nat.zero_le _) (fun r2634 H1 locs hL hqr2634 => ?_)
  obtain ⟨hT1, hF1, hqr2634⟩ := hqr2634
  have hP : va_P D vwCl [(sq, .inr (6, [.int (nI pl), .int ne, .int pa, mg, .ref ct, .ref of, .ref dr, .ref dl]))] _ := hF1.hP (hP.sub [0] rfl) (fa_c ⟨by rw [hsu.1]; decide, by rw [hsu.2]; first | decide | (simp; done) | (simp [h15a, h15b, h15c]; done) | (simp; omega)⟩ fa_n)
  have hksq := hF1.hP (va_P.cons hksq va_P.nil) (fa_c ⟨by rw [hsu.1]; decide, by rw [hsu.2]; first | decide | (simp; done) | (simp; omega)⟩ fa_n) 0 _ rfl
  have hkct := hF1.hP (va_P.cons hkct va_P.nil) (fa_c ⟨by rw [hct.1]; decide, by rw [hct.2]; first | decide | (simp; done) | (simp; omega)⟩ fa_n) 0 _ rfl
  have hkof := hF1.hP (va_P.cons hkof va_P.nil) (fa_c ⟨by rw [hof.1]; decide, by rw [hof.2]; first | decide | (simp; done) | (simp; omega)⟩ fa_n) 0 _ rfl
  have hkdr := hF1.hP (va_P.cons hkdr va_P.nil) (fa_c ⟨by rw [hdr.1]; decide, by rw [hdr.2]; first | decide | (simp; done) | (simp; omega)⟩ fa_n) 0 _ rfl
  have hkdl := hF1.hP (va_P.cons hkdl va_P.nil) (fa_c ⟨by rw [hdl.1]; decide, by rw [hdl.2]; first | decide | (simp; done) | (simp; omega)⟩ fa_n) 0 _ rfl
  have hF := hF.tr (hF1.mono (by simp))
  have hT := hT1
  rcases hqr2634 with ⟨rfl, d2635, l2636, g2637, m2638⟩ | ⟨rfl, d2639, m2640⟩ | ⟨rfl, d2641, g2642, m2643⟩
  · obtain ⟨z2644, hz2644⟩ : ∃ z9, z9 = skp B (dgE B z2631) := ⟨_, rfl⟩
    rw [← hz2644] at m2638
    have bz2644 : z2644 ≤ tn := by rw [hz2644]; exact (dgE_lt hY d2635).2
    have hzE := tkE_le hY (s := z2644) (by omega)
    obtain ⟨hkw, hktx, hkco⟩ := m2638
    have e2645 : numB B 1 pl z2631 = .inr (nvl B z2631 0, z2644) := (num_ok d2635 l2636 g2637).trans (by rw [hz2644])
    have le2645 := numB_pg hY e2645
    refine lv_if_ne (tgt := 21) hx hb dX5_readNeed_16 (by decide) (fun _ => ?_) (fun c9 => absurd c9 (by decide))
    refine lv_aload_n hx hb dX5_readNeed_21 rfl (lv_at hl 0 rfl) ?_
    obtain ⟨hb2646, e2646, hat2646, hk2646⟩ := hT.o6 hw.1
    obtain ⟨f2646_0, f2646_2, f2646_3, f2646_4, f2646_5, f2646_6, f2646_7, f2646_8, f2646_9, f2646_10, f2646_11, f2646_12, f2646_13, rfl, c2646_1, c2646_2, c2646_3, c2646_5, c2646_10, t2646_0, t2646_9, c2646_11, c2646_p2⟩ := hk2646
    obtain ⟨rfl, rfl, rfl, rfl, rfl, rfl, rfl, rfl, rfl, rfl, rfl, rfl, rfl⟩ := eq6 hat2646 hkw (by omega)
    have hP : va_P D vwCl [(w, .inr (5, [.ref tx, .int (nI ((κ w).2.2.1)), .int (nI tn), .int (nI ((tkE B z2644))), .int (tkK B z2644), .int (nI z2644), .int (tkV B z2644), .int (nI ((nvl B z2631 0))), .int (nI z2631), .ref co, .int (nI cc), .ref sq, .int ec, .int es])), (sq, .inr (6, [.int (nI pl), .int ne, .int pa, mg, .ref ct, .ref of, .ref dr, .ref dl]))] _ := va_P.cons hat2646 hP
    refine va_get (D := D) (ci := 5) (v := .ref sq) (C := RX5) (T := TX5) (N := 14) hx hb hts iX5_readNeed_5 hown hN.1 hP 0 rfl rfl 11 (by decide) (hts _ mX5_readNeed_1) (fun _ h9 => h9) rfl dX5_readNeed_22 ?_
    refine lv_aload_n hx hb dX5_readNeed_25 rfl (lv_at hl 0 rfl) ?_
    refine va_get (D := D) (ci := 5) (v := .int (nI ((nvl B z2631 0)))) (C := RX5) (T := TX5) (N := 14) hx hb hts iX5_readNeed_5 hown hN.1 hP 0 rfl rfl 7 (by decide) (hts _ mX5_readNeed_2) (fun _ h9 => h9) rfl dX5_readNeed_26 ?_
    have hB : Bx B0 D _ [(w, .inr (5, [.ref tx, .int (nI ((κ w).2.2.1)), .int (nI tn), .int (nI ((tkE B z2644))), .int (tkK B z2644), .int (nI z2644), .int (tkV B z2644), .int (nI ((nvl B z2631 0))), .int (nI z2631), .ref co, .int (nI cc), .ref sq, .int ec, .int es])), (sq, .inr (6, [.int (nI pl), .int ne, .int pa, mg, .ref ct, .ref of, .ref dr, .ref dl]))] [] _ _ := Bx.of (fun a => (κ a).1) hL hP (fa_c hb2646 (fa_c hb2633 fa_n)) (by simp only [List.map_cons, List.map_nil, hw.1, hsu.1]; decide)
    refine b_putN (D := D) (ci := 6) (v := .int (nI ((nvl B z2631 0)))) (ty := .int) (C := RX6) (T := TX6) (N := 8) hx hb hts iX5_readNeed_6 tyX6 tyX6_ok nmX6 hown hN hB 1 rfl rfl 1 (by decide) (hN.f 40 rfl) (fun _ h9 => h9) rfl (by decide +kernel) rfl rfl (Nat.le_of_ble_eq_true rfl) (.inl rfl) dX5_readNeed_29 (fun H locs hB => ?_)
    have hB : Bx B0 D _ [(w, .inr (5, [.ref tx, .int (nI ((κ w).2.2.1)), .int (nI tn), .int (nI ((tkE B z2644))), .int (tkK B z2644), .int (nI z2644), .int (tkV B z2644), .int (nI ((nvl B z2631 0))), .int (nI z2631), .ref co, .int (nI cc), .ref sq, .int ec, .int es])), (sq, .inr (6, [.int (nI pl), .int (nI ((nvl B z2631 0))), .int pa, mg, .ref ct, .ref of, .ref dr, .ref dl]))] [sq] _ _ := hB
    refine lv_iconst (v := 1) hx hb dX5_readNeed_32 (by decide) ?_
    have hT : WT B0 D cs T κ _ := hT.close hB ⟨⟨1, _, rfl, ok_7 hsu.1 ⟨_, _, _, _, _, _, _, _, rfl, (by omega), c2633_3, c2633_mg, ⟨t2633_4.1, by rw [hsu.2]; exact t2633_4.2⟩, ⟨t2633_5.1, by rw [hsu.2]; exact t2633_5.2⟩, ⟨t2633_6.1, by rw [hsu.2]; exact t2633_6.2⟩, ⟨t2633_7.1, by rw [hsu.2]; exact t2633_7.2⟩⟩⟩, trivial⟩
    have hF : Fr B0 [10, 11] κ H0 _ := hF.close hB (fa_c (by simp [hsu.2]) fa_n)
    have hL : OkL B0 _ := hB.2.2.2.2.2
    have hP : va_P D vwCl [(w, .inr (5, [.ref tx, .int (nI ((κ w).2.2.1)), .int (nI tn), .int (nI ((tkE B z2644))), .int (tkK B z2644), .int (nI z2644), .int (tkV B z2644), .int (nI ((nvl B z2631 0))), .int (nI z2631), .ref co, .int (nI cc), .ref sq, .int ec, .int es])), (sq, .inr (6, [.int (nI pl), .int (nI ((nvl B z2631 0))), .int pa, mg, .ref ct, .ref of, .ref dr, .ref dl]))] _ := hB.1
    have hksq : va_at D vwCl (sq, .inr (6, [.int (nI pl), .int (nI ((nvl B z2631 0))), .int pa, mg, .ref ct, .ref of, .ref dr, .ref dl])) _ := hP 1 _ rfl
    have hkct := hkct.kept (hB.2.2.2.1 _ hkct.lt (by simp only [List.mem_cons, List.not_mem_nil, or_false, not_or]; exact ne_c hct.1 hsu.1 (by decide)))
    have hkof := hkof.kept (hB.2.2.2.1 _ hkof.lt (by simp only [List.mem_cons, List.not_mem_nil, or_false, not_or]; exact ne_c hof.1 hsu.1 (by decide)))
    have hkdr := hkdr.kept (hB.2.2.2.1 _ hkdr.lt (by simp only [List.mem_cons, List.not_mem_nil, or_false, not_or]; exact ne_c hdr.1 hsu.1 (by decide)))
    have hkdl := hkdl.kept (hB.2.2.2.1 _ hkdl.lt (by simp only [List.mem_cons, List.not_mem_nil, or_false, not_or]; exact ne_c hdl.1 hsu.1 (by decide)))
    have hkw : va_at D vwCl (w, .inr (5, [.ref tx, .int (nI ((κ w).2.2.1)), .int (nI tn), .int (nI ((tkE B z2644))), .int (tkK B z2644), .int (nI z2644), .int (tkV B z2644), .int (nI ((nvl B z2631 0))), .int (nI z2631), .ref co, .int (nI cc), .ref sq, .int ec, .int es])) _ := hP 0 _ rfl
    have hktx := hktx.kept (hB.2.2.2.1 _ hktx.lt (by simp only [List.mem_cons, List.not_mem_nil, or_false, not_or]; exact ne_c htx.1 hsu.1 (by decide)))
    have hkco := hkco.kept (hB.2.2.2.1 _ hkco.lt (by simp only [List.mem_cons, List.not_mem_nil, or_false, not_or]; exact ne_c hco.1 hsu.1 (by decide)))
    exact en_i hx hb hr hlocks hL rfl (Nat.zero_le _) (Nat.zero_le _) dX5_readNeed_33 (⟨hT, hF, Or.inl ⟨rfl, _, _, _, _, by rw [← hz1]; exact e2645, (by omega), (by omega), ⟨hkw, hktx, hkco⟩, ⟨hksq, hkct, hkof, hkdr, hkdl, hod⟩⟩⟩)
  · obtain ⟨hkw, hktx, hkco⟩ := m2640
    have e2647 : numB B 1 pl z2631 = .inl (-2, z2631) := num_nd d2639
    refine lv_if_ne (tgt := 21) hx hb dX5_readNeed_16 (by decide) (fun c9 => absurd (by decide) c9) (fun _ => ?_)
    refine lv_iconst (v := 0) hx hb dX5_readNeed_19 (by decide) ?_
    exact en_i hx hb hr hlocks hL rfl (Nat.zero_le _) (Nat.zero_le _) dX5_readNeed_20 (⟨hT, hF, Or.inr ⟨rfl, _, _, by rw [← hz1]; exact e2647, ⟨_, _, _, _, _, _, _, _, (by omega), (by omega), (by omega), hkw, hktx, hkco⟩⟩⟩)
  · obtain ⟨hkw, hktx, hkco⟩ := m2643
    have e2648 : numB B 1 pl z2631 = .inl (-3, z2631) := num_or d2641 g2642
    refine lv_if_ne (tgt := 21) hx hb dX5_readNeed_16 (by decide) (fun c9 => absurd (by decide) c9) (fun _ => ?_)
    refine lv_iconst (v := 0) hx hb dX5_readNeed_19 (by decide) ?_
    exact en_i hx hb hr hlocks hL rfl (Nat.zero_le _) (Nat.zero_le _) dX5_readNeed_20 (⟨hT, hF, Or.inr ⟨rfl, _, _, by rw [← hz1]; exact e2648, ⟨_, _, _, _, _, _, _, _, (by omega), (by omega), (by omega), hkw, hktx, hkco⟩⟩⟩)
theorem mX5_readPatience_1 : (.fieldLink RX5 65 "OneBeat$Reader" "setup" "LOneBeat$Setup;" : Cond) ∈ wsX5_readPatience := List.mem_of_getElem? (i := 1) (by decide +kernel)
theorem iX5_readPatience_5 : ∀ w ∈ wsX50, w ∈ wsX5_readPatience := fun w h => List.mem_of_mem_drop (List.mem_of_mem_take ((show wsX50 = (wsX5_readPatience.drop 26).take 14 by decide +kernel) ▸ h))
theorem mX5_readPatience_2 : (.fieldLink RX5 59 "OneBeat$Reader" "taken" "I" : Cond) ∈ wsX5_readPatience := List.mem_of_getElem? (i := 2) (by decide +kernel)
theorem iX5_readPatience_6 : ∀ w ∈ wsX60, w ∈ wsX5_readPatience := fun w h => List.mem_of_mem_drop (List.mem_of_mem_take ((show wsX60 = (wsX5_readPatience.drop 40).take 8 by decide +kernel) ▸ h))
set_option maxHeartbeats 4000000 in
set_option maxRecDepth 100000 in
theorem c_X5_readPatience {l : Launch} {D : va_G} {cs : Nat → ClassId} {B0 T : Nat} {κ : KM} {H0 : Heap} (hT : WT B0 D cs T κ H0) {w : Nat} (hw : T2 κ w 6 10) {tx co tn cc : Nat} {f cf B : Nat → Int32} {ta tk ec es : Int32} (hY : BY B tn) (hf : TXB f B tn) (hcc : cc ≤ 600) {sq ct of dr dl pl : Nat} {ne pa : Int32} {mg : Value} {tc fo fd fl : Nat → Int32} (hsu : T2 κ sq 7 11) (hpl : 1 ≤ pl ∧ pl ≤ 8) (hsx : SUX D cs sq H0 pl ne pa mg ct of dr dl tc fo fd fl) {z : Nat} (hz : z ≤ tn) (hrs : RS D cs w H0 tx f co cf (κ w).2.2.1 tn (tkE B z) (tkK B z) z (tkV B z) ta tk cc (.ref sq) ec es) : KC l yX5_readPatience wsX5_readPatience 2 44 0 0 D cs B0 H0 [.ref w] (Qi (fun r H => WT B0 D cs T κ H ∧ Fr B0 [10, 11] κ H0 H ∧ ((r = 1 ∧ ∃ v1 q1 ta1 tk1, numB B 1 200 (skp B (tkE B z)) = .inr (v1, q1) ∧ z < q1 ∧ q1 ≤ tn ∧ RS D cs w H tx f co cf (κ w).2.2.1 tn (tkE B q1) (tkK B q1) q1 (tkV B q1) ta1 tk1 cc (.ref sq) ec es ∧ SUX D cs sq H pl ne (nI v1) mg ct of dr dl tc fo fd fl) ∨ (r = 0 ∧ ∃ c9 o9, numB B 1 200 (skp B (tkE B z)) = .inl (c9, o9) ∧ RE D cs w H tx f co (κ w).2.2.1 tn (.ref sq) c9 (nI o9))))) := by
  refine KC.of cX5_readPatience 1 (some .boolean) (by decide) rfl (Nat.le_of_ble_eq_true rfl) ?_
  intro p e s m below meth c ls hx hb hr hml hown hts hlocks hin hN hE hH0 hl
  have hown : s.vm.findClass RX5 = some m.cls := hown
  have hl : lv_has ls 1 [(0, .ref w)] := hl
  have hL : OkL B0 [] := OkL.nil
  have hF : Fr B0 [10, 11] κ H0 H0 := Fr.rf
  obtain ⟨hkw, hktx, hkco⟩ := hrs
  have h6n := hY.1
  obtain ⟨htx, hco⟩ : T2 κ tx 16 10 ∧ T2 κ co 17 10 := RS.t2 hT hw hkw
  have hzE := tkE_le hY (s := z) (by omega)
  obtain ⟨hct, hof, hdr, hdl⟩ := SUX.t2 hT hsu hsx.1
  obtain ⟨hksq, hkct, hkof, hkdr, hkdl, hod⟩ := hsx
  have hq18 := f18 hT hct hkct
  have hq20 := f20 hT hdl hkdl
  refine lv_aload_n hx hb dX5_readPatience_0 rfl (lv_at hl 0 rfl) ?_
  refine cv_v (As := []) (rest := []) (b := w) ⟨hx, hb, hml, hown, hts⟩ (c_X5_step hT (w := w) hw (by first | omega | decide | assumption) (by first | omega | decide | assumption) (by first | omega | decide | assumption) (by first | omega | decide | assumption) (by first | omega | decide | assumption) ⟨hkw, hktx, hkco⟩) (cwV 0 hts gX5_readPatience_X5_step rfl rfl rfl hdX5_step_v ⟨Nat.le_of_ble_eq_true rfl, Nat.le_of_ble_eq_true rfl⟩) hN hE hL (rcv6 hN hT hw.1) rfl rfl hl.1 (Nat.le_of_ble_eq_true rfl) dX5_readPatience_1 (Nat.zero_le _) (Nat.zero_le _) (fun H1 locs hL hqr2649 => ?_)
  obtain ⟨hT1, hF1, hqr2649⟩ := hqr2649
  have hksq := hF1.hP (va_P.cons hksq va_P.nil) (fa_c ⟨by rw [hsu.1]; decide, by rw [hsu.2]; first | decide | (simp; done) | (simp; omega)⟩ fa_n) 0 _ rfl
  have hkct := hF1.hP (va_P.cons hkct va_P.nil) (fa_c ⟨by rw [hct.1]; decide, by rw [hct.2]; first | decide | (simp; done) | (simp; omega)⟩ fa_n) 0 _ rfl
  have hkof := hF1.hP (va_P.cons hkof va_P.nil) (fa_c ⟨by rw [hof.1]; decide, by rw [hof.2]; first | decide | (simp; done) | (simp; omega)⟩ fa_n) 0 _ rfl
  have hkdr := hF1.hP (va_P.cons hkdr va_P.nil) (fa_c ⟨by rw [hdr.1]; decide, by rw [hdr.2]; first | decide | (simp; done) | (simp; omega)⟩ fa_n) 0 _ rfl
  have hkdl := hF1.hP (va_P.cons hkdl va_P.nil) (fa_c ⟨by rw [hdl.1]; decide, by rw [hdl.2]; first | decide | (simp; done) | (simp; omega)⟩ fa_n) 0 _ rfl
  have hF := hF.tr (hF1.mono (by simp))
  have hT := hT1
  have m2650 := hqr2649
  obtain ⟨z2651, hz2651⟩ : ∃ z9, z9 = skp B ((tkE B z)) := ⟨_, rfl⟩
  rw [← hz2651] at m2650
  have bz2651 : z2651 ≤ tn := by rw [hz2651]; exact run_ub hY (by decide) (by omega)
  have hzE := tkE_le hY (s := z2651) (by omega)
  obtain ⟨hkw, hktx, hkco⟩ := m2650
  have hz1 : z2651 = (skp B (tkE B z)) := hz2651
  have hz1b := skp_b hY (z := tkE B z) (by omega)
  rw [← hz1] at hz1b
  refine lv_aload_n hx hb dX5_readPatience_4 rfl (lv_at hl 0 rfl) ?_
  refine lv_iconst (v := 1) hx hb dX5_readPatience_5 (by decide) ?_
  refine lv_sipush (v := 200) hx hb dX5_readPatience_6 (by decide) ?_
  refine cv_i (As := [.int 1, .int 200]) (rest := []) (b := w) ⟨hx, hb, hml, hown, hts⟩ (c_X5_takeNumber hT (w := w) hw (aa := 1) (bb := 200) (by first | omega | decide | assumption) (by first | omega | decide | assumption) (by first | omega | decide | assumption) (by first | omega | decide | assumption) ⟨hkw, hktx, hkco⟩ (by first | omega | decide | assumption) (by first | omega | decide | assumption)) (cwV 2 hts gX5_readPatience_X5_takeNumber rfl rfl rfl hdX5_takeNumber_v ⟨Nat.le_of_ble_eq_true rfl, Nat.le_of_ble_eq_true rfl⟩) hN hE hL (rcv6 hN hT hw.1) rfl rfl hl.1 (Nat.le_of_ble_eq_true rfl) dX5_readPatience_9 (Nat.zero_le _) (Nat.zero_le _) (fun r2652 H1 locs hL hqr2652 => ?_)
  obtain ⟨hT1, hF1, hqr2652⟩ := hqr2652
  have hksq := hF1.hP (va_P.cons hksq va_P.nil) (fa_c ⟨by rw [hsu.1]; decide, by rw [hsu.2]; first | decide | (simp; done) | (simp; omega)⟩ fa_n) 0 _ rfl
  have hkct := hF1.hP (va_P.cons hkct va_P.nil) (fa_c ⟨by rw [hct.1]; decide, by rw [hct.2]; first | decide | (simp; done) | (simp; omega)⟩ fa_n) 0 _ rfl
  have hkof := hF1.hP (va_P.cons hkof va_P.nil) (fa_c ⟨by rw [hof.1]; decide, by rw [hof.2]; first | decide | (simp; done) | (simp; omega)⟩ fa_n) 0 _ rfl
  have hkdr := hF1.hP (va_P.cons hkdr va_P.nil) (fa_c ⟨by rw [hdr.1]; decide, by rw [hdr.2]; first | decide | (simp; done) | (simp; omega)⟩ fa_n) 0 _ rfl
  have hkdl := hF1.hP (va_P.cons hkdl va_P.nil) (fa_c ⟨by rw [hdl.1]; decide, by rw [hdl.2]; first | decide | (simp; done) | (simp; omega)⟩ fa_n) 0 _ rfl
  have hF := hF.tr (hF1.mono (by simp))
  have hT := hT1
  rcases hqr2652 with ⟨rfl, d2653, l2654, g2655, m2656⟩ | ⟨rfl, d2657, m2658⟩ | ⟨rfl, d2659, g2660, m2661⟩
  · obtain ⟨z2662, hz2662⟩ : ∃ z9, z9 = skp B (dgE B z2651) := ⟨_, rfl⟩
    rw [← hz2662] at m2656
    have bz2662 : z2662 ≤ tn := by rw [hz2662]; exact (dgE_lt hY d2653).2
    have hzE := tkE_le hY (s := z2662) (by omega)
    obtain ⟨hkw, hktx, hkco⟩ := m2656
    have e2663 : numB B 1 200 z2651 = .inr (nvl B z2651 0, z2662) := (num_ok d2653 l2654 g2655).trans (by rw [hz2662])
    have le2663 := numB_pg hY e2663
    refine lv_if_ne (tgt := 17) hx hb dX5_readPatience_12 (by decide) (fun _ => ?_) (fun c9 => absurd c9 (by decide))
    refine lv_aload_n hx hb dX5_readPatience_17 rfl (lv_at hl 0 rfl) ?_
    obtain ⟨hb2664, e2664, hat2664, hk2664⟩ := hT.o6 hw.1
    obtain ⟨f2664_0, f2664_2, f2664_3, f2664_4, f2664_5, f2664_6, f2664_7, f2664_8, f2664_9, f2664_10, f2664_11, f2664_12, f2664_13, rfl, c2664_1, c2664_2, c2664_3, c2664_5, c2664_10, t2664_0, t2664_9, c2664_11, c2664_p2⟩ := hk2664
    obtain ⟨rfl, rfl, rfl, rfl, rfl, rfl, rfl, rfl, rfl, rfl, rfl, rfl, rfl⟩ := eq6 hat2664 hkw (by omega)
    have hP : va_P D vwCl [(w, .inr (5, [.ref tx, .int (nI ((κ w).2.2.1)), .int (nI tn), .int (nI ((tkE B z2662))), .int (tkK B z2662), .int (nI z2662), .int (tkV B z2662), .int (nI ((nvl B z2651 0))), .int (nI z2651), .ref co, .int (nI cc), .ref sq, .int ec, .int es]))] _ := va_P.cons hat2664 va_P.nil
    refine va_get (D := D) (ci := 5) (v := .ref sq) (C := RX5) (T := TX5) (N := 14) hx hb hts iX5_readPatience_5 hown hN.1 hP 0 rfl rfl 11 (by decide) (hts _ mX5_readPatience_1) (fun _ h9 => h9) rfl dX5_readPatience_18 ?_
    refine lv_aload_n hx hb dX5_readPatience_21 rfl (lv_at hl 0 rfl) ?_
    refine va_get (D := D) (ci := 5) (v := .int (nI ((nvl B z2651 0)))) (C := RX5) (T := TX5) (N := 14) hx hb hts iX5_readPatience_5 hown hN.1 hP 0 rfl rfl 7 (by decide) (hts _ mX5_readPatience_2) (fun _ h9 => h9) rfl dX5_readPatience_22 ?_
    obtain ⟨hb2665, e2665, hat2665, hk2665⟩ := hT.o7 hsu.1
    obtain ⟨f2665_0, f2665_1, f2665_2, f2665_3, f2665_4, f2665_5, f2665_6, f2665_7, rfl, c2665_0, c2665_3, c2665_mg, t2665_4, t2665_5, t2665_6, t2665_7⟩ := hk2665
    rw [hsu.2] at t2665_4
    rw [hsu.2] at t2665_5
    rw [hsu.2] at t2665_6
    rw [hsu.2] at t2665_7
    obtain ⟨rfl, rfl, rfl, rfl, rfl, rfl, rfl, rfl⟩ := eq7 hat2665 hksq (by omega)
    have hP : va_P D vwCl [(sq, .inr (6, [.int (nI pl), .int ne, .int pa, mg, .ref ct, .ref of, .ref dr, .ref dl])), (w, .inr (5, [.ref tx, .int (nI ((κ w).2.2.1)), .int (nI tn), .int (nI ((tkE B z2662))), .int (tkK B z2662), .int (nI z2662), .int (tkV B z2662), .int (nI ((nvl B z2651 0))), .int (nI z2651), .ref co, .int (nI cc), .ref sq, .int ec, .int es]))] _ := va_P.cons hat2665 hP
    have hB : Bx B0 D _ [(sq, .inr (6, [.int (nI pl), .int ne, .int pa, mg, .ref ct, .ref of, .ref dr, .ref dl])), (w, .inr (5, [.ref tx, .int (nI ((κ w).2.2.1)), .int (nI tn), .int (nI ((tkE B z2662))), .int (tkK B z2662), .int (nI z2662), .int (tkV B z2662), .int (nI ((nvl B z2651 0))), .int (nI z2651), .ref co, .int (nI cc), .ref sq, .int ec, .int es]))] [] _ _ := Bx.of (fun a => (κ a).1) hL hP (fa_c hb2665 (fa_c hb2664 fa_n)) (by simp only [List.map_cons, List.map_nil, hsu.1, hw.1]; decide)
    refine b_putN (D := D) (ci := 6) (v := .int (nI ((nvl B z2651 0)))) (ty := .int) (C := RX6) (T := TX6) (N := 8) hx hb hts iX5_readPatience_6 tyX6 tyX6_ok nmX6 hown hN hB 0 rfl rfl 2 (by decide) (hN.f 42 rfl) (fun _ h9 => h9) rfl (by decide +kernel) rfl rfl (Nat.le_of_ble_eq_true rfl) (.inl rfl) dX5_readPatience_25 (fun H locs hB => ?_)
    have hB : Bx B0 D _ [(sq, .inr (6, [.int (nI pl), .int ne, .int (nI ((nvl B z2651 0))), mg, .ref ct, .ref of, .ref dr, .ref dl])), (w, .inr (5, [.ref tx, .int (nI ((κ w).2.2.1)), .int (nI tn), .int (nI ((tkE B z2662))), .int (tkK B z2662), .int (nI z2662), .int (tkV B z2662), .int (nI ((nvl B z2651 0))), .int (nI z2651), .ref co, .int (nI cc), .ref sq, .int ec, .int es]))] [sq] _ _ := hB
    refine lv_iconst (v := 1) hx hb dX5_readPatience_28 (by decide) ?_
    have hT : WT B0 D cs T κ _ := hT.close hB ⟨⟨0, _, rfl, ok_7 hsu.1 ⟨_, _, _, _, _, _, _, _, rfl, (by omega), c2665_3, c2665_mg, ⟨t2665_4.1, by rw [hsu.2]; exact t2665_4.2⟩, ⟨t2665_5.1, by rw [hsu.2]; exact t2665_5.2⟩, ⟨t2665_6.1, by rw [hsu.2]; exact t2665_6.2⟩, ⟨t2665_7.1, by rw [hsu.2]; exact t2665_7.2⟩⟩⟩, trivial⟩
    have hF : Fr B0 [10, 11] κ H0 _ := hF.close hB (fa_c (by simp [hsu.2]) fa_n)
    have hL : OkL B0 _ := hB.2.2.2.2.2
    have hP : va_P D vwCl [(sq, .inr (6, [.int (nI pl), .int ne, .int (nI ((nvl B z2651 0))), mg, .ref ct, .ref of, .ref dr, .ref dl])), (w, .inr (5, [.ref tx, .int (nI ((κ w).2.2.1)), .int (nI tn), .int (nI ((tkE B z2662))), .int (tkK B z2662), .int (nI z2662), .int (tkV B z2662), .int (nI ((nvl B z2651 0))), .int (nI z2651), .ref co, .int (nI cc), .ref sq, .int ec, .int es]))] _ := hB.1
    have hksq : va_at D vwCl (sq, .inr (6, [.int (nI pl), .int ne, .int (nI ((nvl B z2651 0))), mg, .ref ct, .ref of, .ref dr, .ref dl])) _ := hP 0 _ rfl
    have hkct := hkct.kept (hB.2.2.2.1 _ hkct.lt (by simp only [List.mem_cons, List.not_mem_nil, or_false, not_or]; exact ne_c hct.1 hsu.1 (by decide)))
    have hkof := hkof.kept (hB.2.2.2.1 _ hkof.lt (by simp only [List.mem_cons, List.not_mem_nil, or_false, not_or]; exact ne_c hof.1 hsu.1 (by decide)))
    have hkdr := hkdr.kept (hB.2.2.2.1 _ hkdr.lt (by simp only [List.mem_cons, List.not_mem_nil, or_false, not_or]; exact ne_c hdr.1 hsu.1 (by decide)))
    have hkdl := hkdl.kept (hB.2.2.2.1 _ hkdl.lt (by simp only [List.mem_cons, List.not_mem_nil, or_false, not_or]; exact ne_c hdl.1 hsu.1 (by decide)))
    have hkw : va_at D vwCl (w, .inr (5, [.ref tx, .int (nI ((κ w).2.2.1)), .int (nI tn), .int (nI ((tkE B z2662))), .int (tkK B z2662), .int (nI z2662), .int (tkV B z2662), .int (nI ((nvl B z2651 0))), .int (nI z2651), .ref co, .int (nI cc), .ref sq, .int ec, .int es])) _ := hP 1 _ rfl
    have hktx := hktx.kept (hB.2.2.2.1 _ hktx.lt (by simp only [List.mem_cons, List.not_mem_nil, or_false, not_or]; exact ne_c htx.1 hsu.1 (by decide)))
    have hkco := hkco.kept (hB.2.2.2.1 _ hkco.lt (by simp only [List.mem_cons, List.not_mem_nil, or_false, not_or]; exact ne_c hco.1 hsu.1 (by decide)))
    exact en_i hx hb hr hlocks hL rfl (Nat.zero_le _) (Nat.zero_le _) dX5_readPatience_29 (⟨hT, hF, Or.inl ⟨rfl, _, _, _, _, by rw [← hz1]; exact e2663, (by omega), (by omega), ⟨hkw, hktx, hkco⟩, ⟨hksq, hkct, hkof, hkdr, hkdl, hod⟩⟩⟩)
  · obtain ⟨hkw, hktx, hkco⟩ := m2658
    have e2666 : numB B 1 200 z2651 = .inl (-2, z2651) := num_nd d2657
    refine lv_if_ne (tgt := 17) hx hb dX5_readPatience_12 (by decide) (fun c9 => absurd (by decide) c9) (fun _ => ?_)
    refine lv_iconst (v := 0) hx hb dX5_readPatience_15 (by decide) ?_
    exact en_i hx hb hr hlocks hL rfl (Nat.zero_le _) (Nat.zero_le _) dX5_readPatience_16 (⟨hT, hF, Or.inr ⟨rfl, _, _, by rw [← hz1]; exact e2666, ⟨_, _, _, _, _, _, _, _, (by omega), (by omega), (by omega), hkw, hktx, hkco⟩⟩⟩)
  · obtain ⟨hkw, hktx, hkco⟩ := m2661
    have e2667 : numB B 1 200 z2651 = .inl (-3, z2651) := num_or d2659 g2660
    refine lv_if_ne (tgt := 17) hx hb dX5_readPatience_12 (by decide) (fun c9 => absurd (by decide) c9) (fun _ => ?_)
    refine lv_iconst (v := 0) hx hb dX5_readPatience_15 (by decide) ?_
    exact en_i hx hb hr hlocks hL rfl (Nat.zero_le _) (Nat.zero_le _) dX5_readPatience_16 (⟨hT, hF, Or.inr ⟨rfl, _, _, by rw [← hz1]; exact e2667, ⟨_, _, _, _, _, _, _, _, (by omega), (by omega), (by omega), hkw, hktx, hkco⟩⟩⟩)
theorem mX5_readClock_1 : (.fieldLink RX5 65 "OneBeat$Reader" "setup" "LOneBeat$Setup;" : Cond) ∈ wsX5_readClock := List.mem_of_getElem? (i := 1) (by decide +kernel)
theorem iX5_readClock_5 : ∀ w ∈ wsX50, w ∈ wsX5_readClock := fun w h => List.mem_of_mem_drop (List.mem_of_mem_take ((show wsX50 = (wsX5_readClock.drop 46).take 14 by decide +kernel) ▸ h))
theorem iX5_readClock_6 : ∀ w ∈ wsX60, w ∈ wsX5_readClock := fun w h => List.mem_of_mem_drop (List.mem_of_mem_take ((show wsX60 = (wsX5_readClock.drop 60).take 8 by decide +kernel) ▸ h))
theorem mX5_readClock_2 : (.fieldLink RX5 59 "OneBeat$Reader" "taken" "I" : Cond) ∈ wsX5_readClock := List.mem_of_getElem? (i := 2) (by decide +kernel)
theorem hdX6_hasClock_v : yX6_hasClock.cls = RX6 ∧ yX6_hasClock.cls ≠ "java/lang/invoke/MethodHandle" ∧ yX6_hasClock.cls ≠ "java/lang/invoke/VarHandle" ∧ (parseMethodDescriptor yX6_hasClock.desc).map (fun d => d.parameters.length) = some 1 := by decide +kernel
theorem hdX5_takeSigned_v : yX5_takeSigned.cls = RX5 ∧ yX5_takeSigned.cls ≠ "java/lang/invoke/MethodHandle" ∧ yX5_takeSigned.cls ≠ "java/lang/invoke/VarHandle" ∧ (parseMethodDescriptor yX5_takeSigned.desc).map (fun d => d.parameters.length) = some 1 := by decide +kernel
theorem hdX6_setClock_v : yX6_setClock.cls = RX6 ∧ yX6_setClock.cls ≠ "java/lang/invoke/MethodHandle" ∧ yX6_setClock.cls ≠ "java/lang/invoke/VarHandle" ∧ (parseMethodDescriptor yX6_setClock.desc).map (fun d => d.parameters.length) = some 3 := by decide +kernel
theorem mX5_readClock_3 : (.fieldLink RX5 135 "OneBeat$Reader" "takenAt" "I" : Cond) ∈ wsX5_readClock := List.mem_of_getElem? (i := 3) (by decide +kernel)
set_option maxHeartbeats 4000000 in
set_option maxRecDepth 100000 in
theorem c_X5_readClock {l : Launch} {D : va_G} {cs : Nat → ClassId} {B0 T : Nat} {κ : KM} {H0 : Heap} (hT : WT B0 D cs T κ H0) {w : Nat} (hw : T2 κ w 6 10) {tx co tn cc : Nat} {f cf B : Nat → Int32} {ta tk ec es : Int32} (hY : BY B tn) (hf : TXB f B tn) (hcc : cc ≤ 600) {sq ct of dr dl pl : Nat} {ne pa : Int32} {mg : Value} {tc fo fd fl : Nat → Int32} (hsu : T2 κ sq 7 11) (hpl : 1 ≤ pl ∧ pl ≤ 8) (hsx : SUX D cs sq H0 pl ne pa mg ct of dr dl tc fo fd fl) {z : Nat} (hz : z ≤ tn) (hrs : RS D cs w H0 tx f co cf (κ w).2.2.1 tn (tkE B z) (tkK B z) z (tkV B z) ta tk cc (.ref sq) ec es) : KC l yX5_readClock wsX5_readClock 2 45 0 0 D cs B0 H0 [.ref w] (Qi (fun r H => WT B0 D cs T κ H ∧ Fr B0 [10, 11] κ H0 H ∧ ((r = 1 ∧ ∃ tc1 fo1 fd1 q1 ta1 tk1, clkB B pl tc fo fd (skp B (tkE B z)) = .inr ((tc1, fo1, fd1), q1) ∧ z < q1 ∧ q1 ≤ tn ∧ RS D cs w H tx f co cf (κ w).2.2.1 tn (tkE B q1) (tkK B q1) q1 (tkV B q1) ta1 tk1 cc (.ref sq) ec es ∧ SUX D cs sq H pl ne pa mg ct of dr dl tc1 fo1 fd1 fl) ∨ (r = 0 ∧ ∃ c9 o9, clkB B pl tc fo fd (skp B (tkE B z)) = .inl (c9, o9) ∧ RE D cs w H tx f co (κ w).2.2.1 tn (.ref sq) c9 (nI o9))))) := by
  refine KC.of cX5_readClock 3 (some .boolean) (by decide) rfl (Nat.le_of_ble_eq_true rfl) ?_
  intro p e s m below meth c ls hx hb hr hml hown hts hlocks hin hN hE hH0 hl
  have hown : s.vm.findClass RX5 = some m.cls := hown
  have hl : lv_has ls 3 [(0, .ref w)] := hl
  have hL : OkL B0 [] := OkL.nil
  have hF : Fr B0 [10, 11] κ H0 H0 := Fr.rf
  obtain ⟨hkw, hktx, hkco⟩ := hrs
  have h6n := hY.1
  obtain ⟨htx, hco⟩ : T2 κ tx 16 10 ∧ T2 κ co 17 10 := RS.t2 hT hw hkw
  have hzE := tkE_le hY (s := z) (by omega)
  obtain ⟨hct, hof, hdr, hdl⟩ := SUX.t2 hT hsu hsx.1
  obtain ⟨hksq, hkct, hkof, hkdr, hkdl, hod⟩ := hsx
  have hq18 := f18 hT hct hkct
  have hq20 := f20 hT hdl hkdl
  refine lv_aload_n hx hb dX5_readClock_0 rfl (lv_at hl 0 rfl) ?_
  refine cv_v (As := []) (rest := []) (b := w) ⟨hx, hb, hml, hown, hts⟩ (c_X5_step hT (w := w) hw (by first | omega | decide | assumption) (by first | omega | decide | assumption) (by first | omega | decide | assumption) (by first | omega | decide | assumption) (by first | omega | decide | assumption) ⟨hkw, hktx, hkco⟩) (cwV 0 hts gX5_readClock_X5_step rfl rfl rfl hdX5_step_v ⟨Nat.le_of_ble_eq_true rfl, Nat.le_of_ble_eq_true rfl⟩) hN hE hL (rcv6 hN hT hw.1) rfl rfl hl.1 (Nat.le_of_ble_eq_true rfl) dX5_readClock_1 (Nat.zero_le _) (Nat.zero_le _) (fun H1 locs hL hqr2668 => ?_)
  obtain ⟨hT1, hF1, hqr2668⟩ := hqr2668
  have hksq := hF1.hP (va_P.cons hksq va_P.nil) (fa_c ⟨by rw [hsu.1]; decide, by rw [hsu.2]; first | decide | (simp; done) | (simp; omega)⟩ fa_n) 0 _ rfl
  have hkct := hF1.hP (va_P.cons hkct va_P.nil) (fa_c ⟨by rw [hct.1]; decide, by rw [hct.2]; first | decide | (simp; done) | (simp; omega)⟩ fa_n) 0 _ rfl
  have hkof := hF1.hP (va_P.cons hkof va_P.nil) (fa_c ⟨by rw [hof.1]; decide, by rw [hof.2]; first | decide | (simp; done) | (simp; omega)⟩ fa_n) 0 _ rfl
  have hkdr := hF1.hP (va_P.cons hkdr va_P.nil) (fa_c ⟨by rw [hdr.1]; decide, by rw [hdr.2]; first | decide | (simp; done) | (simp; omega)⟩ fa_n) 0 _ rfl
  have hkdl := hF1.hP (va_P.cons hkdl va_P.nil) (fa_c ⟨by rw [hdl.1]; decide, by rw [hdl.2]; first | decide | (simp; done) | (simp; omega)⟩ fa_n) 0 _ rfl
  have hF := hF.tr (hF1.mono (by simp))
  have hT := hT1
  have m2669 := hqr2668
  obtain ⟨z2670, hz2670⟩ : ∃ z9, z9 = skp B ((tkE B z)) := ⟨_, rfl⟩
  rw [← hz2670] at m2669
  have bz2670 : z2670 ≤ tn := by rw [hz2670]; exact run_ub hY (by decide) (by omega)
  have hzE := tkE_le hY (s := z2670) (by omega)
  obtain ⟨hkw, hktx, hkco⟩ := m2669
  have hz1 : z2670 = (skp B (tkE B z)) := hz2670
  have hz1b := skp_b hY (z := tkE B z) (by omega)
  rw [← hz1] at hz1b
  refine lv_aload_n hx hb dX5_readClock_4 rfl (lv_at hl 0 rfl) ?_
  refine lv_iconst (v := 0) hx hb dX5_readClock_5 (by decide) ?_
  refine lv_aload_n hx hb dX5_readClock_6 rfl (lv_at hl 0 rfl) ?_
  obtain ⟨hb2671, e2671, hat2671, hk2671⟩ := hT.o6 hw.1
  obtain ⟨f2671_0, f2671_2, f2671_3, f2671_4, f2671_5, f2671_6, f2671_7, f2671_8, f2671_9, f2671_10, f2671_11, f2671_12, f2671_13, rfl, c2671_1, c2671_2, c2671_3, c2671_5, c2671_10, t2671_0, t2671_9, c2671_11, c2671_p2⟩ := hk2671
  obtain ⟨rfl, rfl, rfl, rfl, rfl, rfl, rfl, rfl, rfl, rfl, rfl, rfl, rfl⟩ := eq6 hat2671 hkw (by omega)
  have hP : va_P D vwCl [(w, .inr (5, [.ref tx, .int (nI ((κ w).2.2.1)), .int (nI tn), .int (nI ((tkE B z2670))), .int (tkK B z2670), .int (nI z2670), .int (tkV B z2670), .int ta, .int tk, .ref co, .int (nI cc), .ref sq, .int ec, .int es]))] _ := va_P.cons hat2671 va_P.nil
  refine va_get (D := D) (ci := 5) (v := .ref sq) (C := RX5) (T := TX5) (N := 14) hx hb hts iX5_readClock_5 hown hN.1 hP 0 rfl rfl 11 (by decide) (hts _ mX5_readClock_1) (fun _ h9 => h9) rfl dX5_readClock_7 ?_
  obtain ⟨hb2672, e2672, hat2672, hk2672⟩ := hT.o7 hsu.1
  obtain ⟨f2672_0, f2672_1, f2672_2, f2672_3, f2672_4, f2672_5, f2672_6, f2672_7, rfl, c2672_0, c2672_3, c2672_mg, t2672_4, t2672_5, t2672_6, t2672_7⟩ := hk2672
  rw [hsu.2] at t2672_4
  rw [hsu.2] at t2672_5
  rw [hsu.2] at t2672_6
  rw [hsu.2] at t2672_7
  obtain ⟨rfl, rfl, rfl, rfl, rfl, rfl, rfl, rfl⟩ := eq7 hat2672 hksq (by omega)
  have hP : va_P D vwCl [(sq, .inr (6, [.int (nI pl), .int ne, .int pa, mg, .ref ct, .ref of, .ref dr, .ref dl])), (w, .inr (5, [.ref tx, .int (nI ((κ w).2.2.1)), .int (nI tn), .int (nI ((tkE B z2670))), .int (tkK B z2670), .int (nI z2670), .int (tkV B z2670), .int ta, .int tk, .ref co, .int (nI cc), .ref sq, .int ec, .int es]))] _ := va_P.cons hat2672 hP
  refine va_getN (D := D) (ci := 6) (v := .int (nI pl)) (C := RX6) (T := TX6) (N := 8) hx hb hts iX5_readClock_6 hown hN.1 hP 0 rfl rfl 0 (by decide) (hN.f 38 rfl) (fun _ h9 => h9) rfl dX5_readClock_10 ?_
  refine lv_iconst (v := 1) hx hb dX5_readClock_13 (by decide) ?_
  refine lv_isub hx hb dX5_readClock_14 ?_
  refine tp_i (nI (pl - 1)) (nI_subN (a := pl) (b := 1) (by omega)) ?_
  refine cv_i (As := [.int 0, .int (nI (pl - 1))]) (rest := []) (b := w) ⟨hx, hb, hml, hown, hts⟩ (c_X5_takeNumber hT (w := w) hw (aa := 0) (bb := (pl - 1)) (by first | omega | decide | assumption) (by first | omega | decide | assumption) (by first | omega | decide | assumption) (by first | omega | decide | assumption) ⟨hkw, hktx, hkco⟩ (by first | omega | decide | assumption) (by first | omega | decide | assumption)) (cwV 2 hts gX5_readClock_X5_takeNumber rfl rfl rfl hdX5_takeNumber_v ⟨Nat.le_of_ble_eq_true rfl, Nat.le_of_ble_eq_true rfl⟩) hN hE hL (rcv6 hN hT hw.1) rfl rfl hl.1 (Nat.le_of_ble_eq_true rfl) dX5_readClock_15 (Nat.zero_le _) (Nat.zero_le _) (fun r2673 H1 locs hL hqr2673 => ?_)
  obtain ⟨hT1, hF1, hqr2673⟩ := hqr2673
  have hP : va_P D vwCl [(sq, .inr (6, [.int (nI pl), .int ne, .int pa, mg, .ref ct, .ref of, .ref dr, .ref dl]))] _ := hF1.hP (hP.sub [0] rfl) (fa_c ⟨by rw [hsu.1]; decide, by rw [hsu.2]; first | decide | (simp; done) | (simp [h15a, h15b, h15c]; done) | (simp; omega)⟩ fa_n)
  have hksq := hF1.hP (va_P.cons hksq va_P.nil) (fa_c ⟨by rw [hsu.1]; decide, by rw [hsu.2]; first | decide | (simp; done) | (simp; omega)⟩ fa_n) 0 _ rfl
  have hkct := hF1.hP (va_P.cons hkct va_P.nil) (fa_c ⟨by rw [hct.1]; decide, by rw [hct.2]; first | decide | (simp; done) | (simp; omega)⟩ fa_n) 0 _ rfl
  have hkof := hF1.hP (va_P.cons hkof va_P.nil) (fa_c ⟨by rw [hof.1]; decide, by rw [hof.2]; first | decide | (simp; done) | (simp; omega)⟩ fa_n) 0 _ rfl
  have hkdr := hF1.hP (va_P.cons hkdr va_P.nil) (fa_c ⟨by rw [hdr.1]; decide, by rw [hdr.2]; first | decide | (simp; done) | (simp; omega)⟩ fa_n) 0 _ rfl
  have hkdl := hF1.hP (va_P.cons hkdl va_P.nil) (fa_c ⟨by rw [hdl.1]; decide, by rw [hdl.2]; first | decide | (simp; done) | (simp; omega)⟩ fa_n) 0 _ rfl
  have hF := hF.tr (hF1.mono (by simp))
  have hT := hT1
  rcases hqr2673 with ⟨rfl, d2674, l2675, g2676, m2677⟩ | ⟨rfl, d2678, m2679⟩ | ⟨rfl, d2680, g2681, m2682⟩
  · obtain ⟨z2683, hz2683⟩ : ∃ z9, z9 = skp B (dgE B z2670) := ⟨_, rfl⟩
    rw [← hz2683] at m2677
    have bz2683 : z2683 ≤ tn := by rw [hz2683]; exact (dgE_lt hY d2674).2
    have hzE := tkE_le hY (s := z2683) (by omega)
    obtain ⟨hkw, hktx, hkco⟩ := m2677
    have e2684 : numB B 0 (pl - 1) z2670 = .inr (nvl B z2670 0, z2683) := (num_ok d2674 l2675 g2676).trans (by rw [hz2683])
    have le2684 := numB_pg hY e2684
    refine lv_if_ne (tgt := 23) hx hb dX5_readClock_18 (by decide) (fun _ => ?_) (fun c9 => absurd c9 (by decide))
    refine lv_aload_n hx hb dX5_readClock_23 rfl (lv_at hl 0 rfl) ?_
    obtain ⟨hb2685, e2685, hat2685, hk2685⟩ := hT.o6 hw.1
    obtain ⟨f2685_0, f2685_2, f2685_3, f2685_4, f2685_5, f2685_6, f2685_7, f2685_8, f2685_9, f2685_10, f2685_11, f2685_12, f2685_13, rfl, c2685_1, c2685_2, c2685_3, c2685_5, c2685_10, t2685_0, t2685_9, c2685_11, c2685_p2⟩ := hk2685
    obtain ⟨rfl, rfl, rfl, rfl, rfl, rfl, rfl, rfl, rfl, rfl, rfl, rfl, rfl⟩ := eq6 hat2685 hkw (by omega)
    have hP : va_P D vwCl [(w, .inr (5, [.ref tx, .int (nI ((κ w).2.2.1)), .int (nI tn), .int (nI ((tkE B z2683))), .int (tkK B z2683), .int (nI z2683), .int (tkV B z2683), .int (nI ((nvl B z2670 0))), .int (nI z2670), .ref co, .int (nI cc), .ref sq, .int ec, .int es])), (sq, .inr (6, [.int (nI pl), .int ne, .int pa, mg, .ref ct, .ref of, .ref dr, .ref dl]))] _ := va_P.cons hat2685 hP
    refine va_get (D := D) (ci := 5) (v := .int (nI ((nvl B z2670 0)))) (C := RX5) (T := TX5) (N := 14) hx hb hts iX5_readClock_5 hown hN.1 hP 0 rfl rfl 7 (by decide) (hts _ mX5_readClock_2) (fun _ h9 => h9) rfl dX5_readClock_24 ?_
    refine lv_istore_n (lv' := [(1, .int (nI ((nvl B z2670 0)))), (0, .ref w)]) hx hb dX5_readClock_27 rfl hl (by decide) rfl (fun ls hl => ?_)
    have hm7 := m7_n (k := nvl B z2670 0) (by omega)
    refine lv_aload_n hx hb dX5_readClock_28 rfl (lv_at hl 1 rfl) ?_
    refine va_get (D := D) (ci := 5) (v := .ref sq) (C := RX5) (T := TX5) (N := 14) hx hb hts iX5_readClock_5 hown hN.1 hP 0 rfl rfl 11 (by decide) (hts _ mX5_readClock_1) (fun _ h9 => h9) rfl dX5_readClock_29 ?_
    refine lv_iload_n hx hb dX5_readClock_32 rfl (lv_at hl 0 rfl) ?_
    refine cv_i (As := [.int (nI ((nvl B z2670 0)))]) (rest := []) (b := sq) ⟨hx, hb, hml, hown, hts⟩ (c_X6_hasClock_de hT (sq := sq) (x := (nI ((nvl B z2670 0)))) (by first | omega | decide | assumption) (by first | omega | decide | assumption) ⟨hksq, hkct, hkof, hkdr, hkdl, hod⟩) (cwV 1 hts gX5_readClock_X6_hasClock rfl rfl rfl hdX6_hasClock_v ⟨Nat.le_of_ble_eq_true rfl, Nat.le_of_ble_eq_true rfl⟩) hN hE hL (rcv7 hN hT hsu.1) rfl rfl hl.1 (Nat.le_of_ble_eq_true rfl) dX5_readClock_33 (Nat.zero_le _) (Nat.zero_le _) (fun r2686 H1 locs hL hqr2686 => ?_)
    obtain ⟨h9, hqr2686⟩ := hqr2686; replace h9 := h9.symm; subst h9
    obtain rfl := hqr2686
    refine lv_if_eq (tgt := 50) hx hb dX5_readClock_36 (by decide) (fun c2687 => ?_) (fun c2687 => ?_)
    · refine lv_aload_n hx hb dX5_readClock_50 rfl (lv_at hl 1 rfl) ?_
      refine lv_sipush (v := 999) hx hb dX5_readClock_51 (by decide) ?_
      refine cv_i (As := [.int 999]) (rest := []) (b := w) ⟨hx, hb, hml, hown, hts⟩ (c_X5_takeSigned hT (w := w) hw (mm := 999) (by first | omega | decide | assumption) (by first | omega | decide | assumption) (by first | omega | decide | assumption) (by first | omega | decide | assumption) ⟨hkw, hktx, hkco⟩ (by first | omega | decide | assumption)) (cwV 1 hts gX5_readClock_X5_takeSigned rfl rfl rfl hdX5_takeSigned_v ⟨Nat.le_of_ble_eq_true rfl, Nat.le_of_ble_eq_true rfl⟩) hN hE hL (rcv6 hN hT hw.1) rfl rfl hl.1 (Nat.le_of_ble_eq_true rfl) dX5_readClock_54 (Nat.zero_le _) (Nat.zero_le _) (fun r2688 H1 locs hL hqr2688 => ?_)
      obtain ⟨hT1, hF1, hqr2688⟩ := hqr2688
      have hP : va_P D vwCl [(sq, .inr (6, [.int (nI pl), .int ne, .int pa, mg, .ref ct, .ref of, .ref dr, .ref dl]))] _ := hF1.hP (hP.sub [1] rfl) (fa_c ⟨by rw [hsu.1]; decide, by rw [hsu.2]; first | decide | (simp; done) | (simp [h15a, h15b, h15c]; done) | (simp; omega)⟩ fa_n)
      have hksq := hF1.hP (va_P.cons hksq va_P.nil) (fa_c ⟨by rw [hsu.1]; decide, by rw [hsu.2]; first | decide | (simp; done) | (simp; omega)⟩ fa_n) 0 _ rfl
      have hkct := hF1.hP (va_P.cons hkct va_P.nil) (fa_c ⟨by rw [hct.1]; decide, by rw [hct.2]; first | decide | (simp; done) | (simp; omega)⟩ fa_n) 0 _ rfl
      have hkof := hF1.hP (va_P.cons hkof va_P.nil) (fa_c ⟨by rw [hof.1]; decide, by rw [hof.2]; first | decide | (simp; done) | (simp; omega)⟩ fa_n) 0 _ rfl
      have hkdr := hF1.hP (va_P.cons hkdr va_P.nil) (fa_c ⟨by rw [hdr.1]; decide, by rw [hdr.2]; first | decide | (simp; done) | (simp; omega)⟩ fa_n) 0 _ rfl
      have hkdl := hF1.hP (va_P.cons hkdl va_P.nil) (fa_c ⟨by rw [hdl.1]; decide, by rw [hdl.2]; first | decide | (simp; done) | (simp; omega)⟩ fa_n) 0 _ rfl
      have hF := hF.tr (hF1.mono (by simp))
      have hT := hT1
      rcases hqr2688 with ⟨rfl, d2689, l2690, m2691⟩ | ⟨rfl, d2692, m2693⟩ | ⟨rfl, d2694, g2695, m2696⟩
      · obtain ⟨z2697, hz2697⟩ : ∃ z9, z9 = skp B (dgE B (sgz B z2683)) := ⟨_, rfl⟩
        rw [← hz2697] at m2691
        have bz2697 : z2697 ≤ tn := by rw [hz2697]; exact (dgE_lt hY d2689).2
        have hzE := tkE_le hY (s := z2697) (by omega)
        obtain ⟨hkw, hktx, hkco⟩ := m2691
        have e2698 : sigB B 999 z2683 = .inr (sgv B z2683, z2697) := (sig_ok d2689 l2690).trans (by rw [hz2697])
        have le2698 := sigB_pg hY (by omega) e2698
        refine lv_if_ne (tgt := 62) hx hb dX5_readClock_57 (by decide) (fun _ => ?_) (fun c9 => absurd c9 (by decide))
        refine lv_aload_n hx hb dX5_readClock_62 rfl (lv_at hl 1 rfl) ?_
        obtain ⟨hb2699, e2699, hat2699, hk2699⟩ := hT.o6 hw.1
        obtain ⟨f2699_0, f2699_2, f2699_3, f2699_4, f2699_5, f2699_6, f2699_7, f2699_8, f2699_9, f2699_10, f2699_11, f2699_12, f2699_13, rfl, c2699_1, c2699_2, c2699_3, c2699_5, c2699_10, t2699_0, t2699_9, c2699_11, c2699_p2⟩ := hk2699
        obtain ⟨rfl, rfl, rfl, rfl, rfl, rfl, rfl, rfl, rfl, rfl, rfl, rfl, rfl⟩ := eq6 hat2699 hkw (by omega)
        have hP : va_P D vwCl [(w, .inr (5, [.ref tx, .int (nI ((κ w).2.2.1)), .int (nI tn), .int (nI ((tkE B z2697))), .int (tkK B z2697), .int (nI z2697), .int (tkV B z2697), .int (sgv B z2683), .int (nI z2670), .ref co, .int (nI cc), .ref sq, .int ec, .int es])), (sq, .inr (6, [.int (nI pl), .int ne, .int pa, mg, .ref ct, .ref of, .ref dr, .ref dl]))] _ := va_P.cons hat2699 hP
        refine va_get (D := D) (ci := 5) (v := .int (sgv B z2683)) (C := RX5) (T := TX5) (N := 14) hx hb hts iX5_readClock_5 hown hN.1 hP 0 rfl rfl 7 (by decide) (hts _ mX5_readClock_2) (fun _ h9 => h9) rfl dX5_readClock_63 ?_
        refine lv_istore_n (lv' := [(2, .int (sgv B z2683)), (1, .int (nI ((nvl B z2670 0)))), (0, .ref w)]) hx hb dX5_readClock_66 rfl hl (by decide) rfl (fun ls hl => ?_)
        refine lv_aload_n hx hb dX5_readClock_67 rfl (lv_at hl 2 rfl) ?_
        refine lv_bipush (v := 50) hx hb dX5_readClock_68 (by decide) ?_
        refine cv_i (As := [.int 50]) (rest := []) (b := w) ⟨hx, hb, hml, hown, hts⟩ (c_X5_takeSigned hT (w := w) hw (mm := 50) (by first | omega | decide | assumption) (by first | omega | decide | assumption) (by first | omega | decide | assumption) (by first | omega | decide | assumption) ⟨hkw, hktx, hkco⟩ (by first | omega | decide | assumption)) (cwV 1 hts gX5_readClock_X5_takeSigned rfl rfl rfl hdX5_takeSigned_v ⟨Nat.le_of_ble_eq_true rfl, Nat.le_of_ble_eq_true rfl⟩) hN hE hL (rcv6 hN hT hw.1) rfl rfl hl.1 (Nat.le_of_ble_eq_true rfl) dX5_readClock_70 (Nat.zero_le _) (Nat.zero_le _) (fun r2700 H1 locs hL hqr2700 => ?_)
        obtain ⟨hT1, hF1, hqr2700⟩ := hqr2700
        have hP : va_P D vwCl [(sq, .inr (6, [.int (nI pl), .int ne, .int pa, mg, .ref ct, .ref of, .ref dr, .ref dl]))] _ := hF1.hP (hP.sub [1] rfl) (fa_c ⟨by rw [hsu.1]; decide, by rw [hsu.2]; first | decide | (simp; done) | (simp [h15a, h15b, h15c]; done) | (simp; omega)⟩ fa_n)
        have hksq := hF1.hP (va_P.cons hksq va_P.nil) (fa_c ⟨by rw [hsu.1]; decide, by rw [hsu.2]; first | decide | (simp; done) | (simp; omega)⟩ fa_n) 0 _ rfl
        have hkct := hF1.hP (va_P.cons hkct va_P.nil) (fa_c ⟨by rw [hct.1]; decide, by rw [hct.2]; first | decide | (simp; done) | (simp; omega)⟩ fa_n) 0 _ rfl
        have hkof := hF1.hP (va_P.cons hkof va_P.nil) (fa_c ⟨by rw [hof.1]; decide, by rw [hof.2]; first | decide | (simp; done) | (simp; omega)⟩ fa_n) 0 _ rfl
        have hkdr := hF1.hP (va_P.cons hkdr va_P.nil) (fa_c ⟨by rw [hdr.1]; decide, by rw [hdr.2]; first | decide | (simp; done) | (simp; omega)⟩ fa_n) 0 _ rfl
        have hkdl := hF1.hP (va_P.cons hkdl va_P.nil) (fa_c ⟨by rw [hdl.1]; decide, by rw [hdl.2]; first | decide | (simp; done) | (simp; omega)⟩ fa_n) 0 _ rfl
        have hF := hF.tr (hF1.mono (by simp))
        have hT := hT1
        rcases hqr2700 with ⟨rfl, d2701, l2702, m2703⟩ | ⟨rfl, d2704, m2705⟩ | ⟨rfl, d2706, g2707, m2708⟩
        · obtain ⟨z2709, hz2709⟩ : ∃ z9, z9 = skp B (dgE B (sgz B z2697)) := ⟨_, rfl⟩
          rw [← hz2709] at m2703
          have bz2709 : z2709 ≤ tn := by rw [hz2709]; exact (dgE_lt hY d2701).2
          have hzE := tkE_le hY (s := z2709) (by omega)
          obtain ⟨hkw, hktx, hkco⟩ := m2703
          have e2710 : sigB B 50 z2697 = .inr (sgv B z2697, z2709) := (sig_ok d2701 l2702).trans (by rw [hz2709])
          have le2710 := sigB_pg hY (by omega) e2710
          refine lv_if_ne (tgt := 78) hx hb dX5_readClock_73 (by decide) (fun _ => ?_) (fun c9 => absurd c9 (by decide))
          refine lv_aload_n hx hb dX5_readClock_78 rfl (lv_at hl 2 rfl) ?_
          obtain ⟨hb2711, e2711, hat2711, hk2711⟩ := hT.o6 hw.1
          obtain ⟨f2711_0, f2711_2, f2711_3, f2711_4, f2711_5, f2711_6, f2711_7, f2711_8, f2711_9, f2711_10, f2711_11, f2711_12, f2711_13, rfl, c2711_1, c2711_2, c2711_3, c2711_5, c2711_10, t2711_0, t2711_9, c2711_11, c2711_p2⟩ := hk2711
          obtain ⟨rfl, rfl, rfl, rfl, rfl, rfl, rfl, rfl, rfl, rfl, rfl, rfl, rfl⟩ := eq6 hat2711 hkw (by omega)
          have hP : va_P D vwCl [(w, .inr (5, [.ref tx, .int (nI ((κ w).2.2.1)), .int (nI tn), .int (nI ((tkE B z2709))), .int (tkK B z2709), .int (nI z2709), .int (tkV B z2709), .int (sgv B z2697), .int (nI z2670), .ref co, .int (nI cc), .ref sq, .int ec, .int es])), (sq, .inr (6, [.int (nI pl), .int ne, .int pa, mg, .ref ct, .ref of, .ref dr, .ref dl]))] _ := va_P.cons hat2711 hP
          refine va_get (D := D) (ci := 5) (v := .ref sq) (C := RX5) (T := TX5) (N := 14) hx hb hts iX5_readClock_5 hown hN.1 hP 0 rfl rfl 11 (by decide) (hts _ mX5_readClock_1) (fun _ h9 => h9) rfl dX5_readClock_79 ?_
          refine lv_iload_n hx hb dX5_readClock_82 rfl (lv_at hl 1 rfl) ?_
          refine lv_iload_n hx hb dX5_readClock_83 rfl (lv_at hl 0 rfl) ?_
          refine lv_aload_n hx hb dX5_readClock_84 rfl (lv_at hl 2 rfl) ?_
          refine va_get (D := D) (ci := 5) (v := .int (sgv B z2697)) (C := RX5) (T := TX5) (N := 14) hx hb hts iX5_readClock_5 hown hN.1 hP 0 rfl rfl 7 (by decide) (hts _ mX5_readClock_2) (fun _ h9 => h9) rfl dX5_readClock_85 ?_
          refine cv_v (As := [.int (nI ((nvl B z2670 0))), .int (sgv B z2683), .int (sgv B z2697)]) (rest := []) (b := sq) ⟨hx, hb, hml, hown, hts⟩ (c_X6_setClock_de hT (sq := sq) (x := (nI ((nvl B z2670 0)))) (y := (sgv B z2683)) (z := (sgv B z2697)) (by first | omega | decide | assumption) (by first | omega | decide | assumption) ⟨hksq, hkct, hkof, hkdr, hkdl, hod⟩) (cwV 3 hts gX5_readClock_X6_setClock rfl rfl rfl hdX6_setClock_v ⟨Nat.le_of_ble_eq_true rfl, Nat.le_of_ble_eq_true rfl⟩) hN hE hL (rcv7 hN hT hsu.1) rfl rfl hl.1 (Nat.le_of_ble_eq_true rfl) dX5_readClock_88 (Nat.zero_le _) (Nat.zero_le _) (fun H1 locs hL hqr2712 => ?_)
          obtain ⟨hT1, hF1, hqr2712⟩ := hqr2712
          have hP : va_P D vwCl [(w, .inr (5, [.ref tx, .int (nI ((κ w).2.2.1)), .int (nI tn), .int (nI ((tkE B z2709))), .int (tkK B z2709), .int (nI z2709), .int (tkV B z2709), .int (sgv B z2697), .int (nI z2670), .ref co, .int (nI cc), .ref sq, .int ec, .int es]))] _ := hF1.hP (hP.sub [0] rfl) (fa_c ⟨by rw [hw.1]; decide, by rw [hw.2]; first | decide | (simp; done) | (simp [h15a, h15b, h15c]; done) | (simp; omega)⟩ fa_n)
          have hkw := hF1.hP (va_P.cons hkw va_P.nil) (fa_c ⟨by rw [hw.1]; decide, by rw [hw.2]; first | decide | (simp; done) | (simp; omega)⟩ fa_n) 0 _ rfl
          have hktx := hF1.hP (va_P.cons hktx va_P.nil) (fa_c ⟨by rw [htx.1]; decide, by rw [htx.2]; first | decide | (simp; done) | (simp; omega)⟩ fa_n) 0 _ rfl
          have hkco := hF1.hP (va_P.cons hkco va_P.nil) (fa_c ⟨by rw [hco.1]; decide, by rw [hco.2]; first | decide | (simp; done) | (simp; omega)⟩ fa_n) 0 _ rfl
          have hF := hF.tr (hF1.mono (by simp))
          have hT := hT1
          have m2713 := hqr2712
          obtain ⟨hksq, hkct, hkof, hkdr, hkdl, hod⟩ := m2713
          have hq18 := f18 hT hct hkct
          have hq20 := f20 hT hdl hkdl
          refine lv_iconst (v := 1) hx hb dX5_readClock_91 (by decide) ?_
          exact en_i hx hb hr hlocks hL rfl (Nat.zero_le _) (Nat.zero_le _) dX5_readClock_92 (⟨hT, hF, Or.inl ⟨rfl, _, _, _, _, _, _, by rw [← hz1]; exact (clk_5 e2684 (by rw [hm7] at c2687; exact c2687) e2698 e2710), (by omega), (by omega), ⟨hkw, hktx, hkco⟩, (by rw [← hm7]; exact ⟨hksq, hkct, hkof, hkdr, hkdl, hod⟩)⟩⟩)
        · obtain ⟨hkw, hktx, hkco⟩ := m2705
          have e2714 : sigB B 50 z2697 = .inl (-2, sgz B z2697) := sig_nd d2704
          have hsz := sgz_le hY (z := z2697) (by omega)
          have hse := tkE_le hY (s := sgz B z2697) (by omega)
          refine lv_if_ne (tgt := 78) hx hb dX5_readClock_73 (by decide) (fun c9 => absurd (by decide) c9) (fun _ => ?_)
          refine lv_iconst (v := 0) hx hb dX5_readClock_76 (by decide) ?_
          exact en_i hx hb hr hlocks hL rfl (Nat.zero_le _) (Nat.zero_le _) dX5_readClock_77 (⟨hT, hF, Or.inr ⟨rfl, _, _, by rw [← hz1]; exact (clk_4 e2684 (by rw [hm7] at c2687; exact c2687) e2698 e2714), ⟨_, _, _, _, _, _, _, _, (by omega), (by omega), (by omega), hkw, hktx, hkco⟩⟩⟩)
        · obtain ⟨hkw, hktx, hkco⟩ := m2708
          have e2715 : sigB B 50 z2697 = .inl (-3, z2697) := sig_or d2706 g2707
          have hsz := sgz_le hY (z := z2697) (by omega)
          have hse := tkE_le hY (s := sgz B z2697) (by omega)
          refine lv_if_ne (tgt := 78) hx hb dX5_readClock_73 (by decide) (fun c9 => absurd (by decide) c9) (fun _ => ?_)
          refine lv_iconst (v := 0) hx hb dX5_readClock_76 (by decide) ?_
          exact en_i hx hb hr hlocks hL rfl (Nat.zero_le _) (Nat.zero_le _) dX5_readClock_77 (⟨hT, hF, Or.inr ⟨rfl, _, _, by rw [← hz1]; exact (clk_4 e2684 (by rw [hm7] at c2687; exact c2687) e2698 e2715), ⟨_, _, _, _, _, _, _, _, (by omega), (by omega), (by omega), hkw, hktx, hkco⟩⟩⟩)
      · obtain ⟨hkw, hktx, hkco⟩ := m2693
        have e2716 : sigB B 999 z2683 = .inl (-2, sgz B z2683) := sig_nd d2692
        have hsz := sgz_le hY (z := z2683) (by omega)
        have hse := tkE_le hY (s := sgz B z2683) (by omega)
        refine lv_if_ne (tgt := 62) hx hb dX5_readClock_57 (by decide) (fun c9 => absurd (by decide) c9) (fun _ => ?_)
        refine lv_iconst (v := 0) hx hb dX5_readClock_60 (by decide) ?_
        exact en_i hx hb hr hlocks hL rfl (Nat.zero_le _) (Nat.zero_le _) dX5_readClock_61 (⟨hT, hF, Or.inr ⟨rfl, _, _, by rw [← hz1]; exact (clk_3 e2684 (by rw [hm7] at c2687; exact c2687) e2716), ⟨_, _, _, _, _, _, _, _, (by omega), (by omega), (by omega), hkw, hktx, hkco⟩⟩⟩)
      · obtain ⟨hkw, hktx, hkco⟩ := m2696
        have e2717 : sigB B 999 z2683 = .inl (-3, z2683) := sig_or d2694 g2695
        have hsz := sgz_le hY (z := z2683) (by omega)
        have hse := tkE_le hY (s := sgz B z2683) (by omega)
        refine lv_if_ne (tgt := 62) hx hb dX5_readClock_57 (by decide) (fun c9 => absurd (by decide) c9) (fun _ => ?_)
        refine lv_iconst (v := 0) hx hb dX5_readClock_60 (by decide) ?_
        exact en_i hx hb hr hlocks hL rfl (Nat.zero_le _) (Nat.zero_le _) dX5_readClock_61 (⟨hT, hF, Or.inr ⟨rfl, _, _, by rw [← hz1]; exact (clk_3 e2684 (by rw [hm7] at c2687; exact c2687) e2717), ⟨_, _, _, _, _, _, _, _, (by omega), (by omega), (by omega), hkw, hktx, hkco⟩⟩⟩)
    · refine lv_aload_n hx hb dX5_readClock_39 rfl (lv_at hl 1 rfl) ?_
      refine lv_bipush (v := (-4)) hx hb dX5_readClock_40 (by decide) ?_
      refine lv_aload_n hx hb dX5_readClock_42 rfl (lv_at hl 1 rfl) ?_
      refine va_get (D := D) (ci := 5) (v := .int (nI z2670)) (C := RX5) (T := TX5) (N := 14) hx hb hts iX5_readClock_5 hown hN.1 hP 0 rfl rfl 8 (by decide) (hts _ mX5_readClock_3) (fun _ h9 => h9) rfl dX5_readClock_43 ?_
      refine cv_i (As := [.int (-4), .int (nI z2670)]) (rest := []) (b := w) ⟨hx, hb, hml, hown, hts⟩ (c_X5_fail hT (w := w) hw (x := (-4)) (y := (nI z2670)) (by first | omega | decide | assumption) (by first | omega | decide | assumption) (by first | omega | decide | assumption) (by first | omega | decide | assumption) (by first | omega | decide | assumption) ⟨hkw, hktx, hkco⟩) (cwV 2 hts gX5_readClock_X5_fail rfl rfl rfl hdX5_fail_v ⟨Nat.le_of_ble_eq_true rfl, Nat.le_of_ble_eq_true rfl⟩) hN hE hL (rcv6 hN hT hw.1) rfl rfl hl.1 (Nat.le_of_ble_eq_true rfl) dX5_readClock_46 (Nat.zero_le _) (Nat.zero_le _) (fun r2718 H1 locs hL hqr2718 => ?_)
      obtain ⟨hT1, hF1, hqr2718⟩ := hqr2718
      have hP : va_P D vwCl [(sq, .inr (6, [.int (nI pl), .int ne, .int pa, mg, .ref ct, .ref of, .ref dr, .ref dl]))] _ := hF1.hP (hP.sub [1] rfl) (fa_c ⟨by rw [hsu.1]; decide, by rw [hsu.2]; first | decide | (simp; done) | (simp [h15a, h15b, h15c]; done) | (simp; omega)⟩ fa_n)
      have hksq := hF1.hP (va_P.cons hksq va_P.nil) (fa_c ⟨by rw [hsu.1]; decide, by rw [hsu.2]; first | decide | (simp; done) | (simp; omega)⟩ fa_n) 0 _ rfl
      have hkct := hF1.hP (va_P.cons hkct va_P.nil) (fa_c ⟨by rw [hct.1]; decide, by rw [hct.2]; first | decide | (simp; done) | (simp; omega)⟩ fa_n) 0 _ rfl
      have hkof := hF1.hP (va_P.cons hkof va_P.nil) (fa_c ⟨by rw [hof.1]; decide, by rw [hof.2]; first | decide | (simp; done) | (simp; omega)⟩ fa_n) 0 _ rfl
      have hkdr := hF1.hP (va_P.cons hkdr va_P.nil) (fa_c ⟨by rw [hdr.1]; decide, by rw [hdr.2]; first | decide | (simp; done) | (simp; omega)⟩ fa_n) 0 _ rfl
      have hkdl := hF1.hP (va_P.cons hkdl va_P.nil) (fa_c ⟨by rw [hdl.1]; decide, by rw [hdl.2]; first | decide | (simp; done) | (simp; omega)⟩ fa_n) 0 _ rfl
      have hF := hF.tr (hF1.mono (by simp))
      have hT := hT1
      obtain ⟨rfl, m2719⟩ := hqr2718
      obtain ⟨hkw, hktx, hkco⟩ := m2719
      exact en_i hx hb hr hlocks hL rfl (Nat.zero_le _) (Nat.zero_le _) dX5_readClock_49 (⟨hT, hF, Or.inr ⟨rfl, _, _, by rw [← hz1]; exact (clk_2 e2684 (by rw [hm7] at c2687; exact c2687)), ⟨_, _, _, _, _, _, _, _, (by omega), (by omega), (by omega), hkw, hktx, hkco⟩⟩⟩)
  · obtain ⟨hkw, hktx, hkco⟩ := m2679
    have e2720 : numB B 0 (pl - 1) z2670 = .inl (-2, z2670) := num_nd d2678
    refine lv_if_ne (tgt := 23) hx hb dX5_readClock_18 (by decide) (fun c9 => absurd (by decide) c9) (fun _ => ?_)
    refine lv_iconst (v := 0) hx hb dX5_readClock_21 (by decide) ?_
    exact en_i hx hb hr hlocks hL rfl (Nat.zero_le _) (Nat.zero_le _) dX5_readClock_22 (⟨hT, hF, Or.inr ⟨rfl, _, _, by rw [← hz1]; exact (clk_1 e2720), ⟨_, _, _, _, _, _, _, _, (by omega), (by omega), (by omega), hkw, hktx, hkco⟩⟩⟩)
  · obtain ⟨hkw, hktx, hkco⟩ := m2682
    have e2721 : numB B 0 (pl - 1) z2670 = .inl (-3, z2670) := num_or d2680 g2681
    refine lv_if_ne (tgt := 23) hx hb dX5_readClock_18 (by decide) (fun c9 => absurd (by decide) c9) (fun _ => ?_)
    refine lv_iconst (v := 0) hx hb dX5_readClock_21 (by decide) ?_
    exact en_i hx hb hr hlocks hL rfl (Nat.zero_le _) (Nat.zero_le _) dX5_readClock_22 (⟨hT, hF, Or.inr ⟨rfl, _, _, by rw [← hz1]; exact (clk_1 e2721), ⟨_, _, _, _, _, _, _, _, (by omega), (by omega), (by omega), hkw, hktx, hkco⟩⟩⟩)
theorem mX5_readLink_1 : (.fieldLink RX5 65 "OneBeat$Reader" "setup" "LOneBeat$Setup;" : Cond) ∈ wsX5_readLink := List.mem_of_getElem? (i := 1) (by decide +kernel)
theorem iX5_readLink_5 : ∀ w ∈ wsX50, w ∈ wsX5_readLink := fun w h => List.mem_of_mem_drop (List.mem_of_mem_take ((show wsX50 = (wsX5_readLink.drop 39).take 14 by decide +kernel) ▸ h))
theorem iX5_readLink_6 : ∀ w ∈ wsX60, w ∈ wsX5_readLink := fun w h => List.mem_of_mem_drop (List.mem_of_mem_take ((show wsX60 = (wsX5_readLink.drop 53).take 8 by decide +kernel) ▸ h))
theorem mX5_readLink_2 : (.fieldLink RX5 59 "OneBeat$Reader" "taken" "I" : Cond) ∈ wsX5_readLink := List.mem_of_getElem? (i := 2) (by decide +kernel)
theorem mX5_readLink_3 : (.fieldLink RX5 135 "OneBeat$Reader" "takenAt" "I" : Cond) ∈ wsX5_readLink := List.mem_of_getElem? (i := 3) (by decide +kernel)
theorem hdX6_setDelay_v : yX6_setDelay.cls = RX6 ∧ yX6_setDelay.cls ≠ "java/lang/invoke/MethodHandle" ∧ yX6_setDelay.cls ≠ "java/lang/invoke/VarHandle" ∧ (parseMethodDescriptor yX6_setDelay.desc).map (fun d => d.parameters.length) = some 3 := by decide +kernel
set_option maxHeartbeats 4000000 in
set_option maxRecDepth 100000 in
theorem c_X5_readLink {l : Launch} {D : va_G} {cs : Nat → ClassId} {B0 T : Nat} {κ : KM} {H0 : Heap} (hT : WT B0 D cs T κ H0) {w : Nat} (hw : T2 κ w 6 10) {tx co tn cc : Nat} {f cf B : Nat → Int32} {ta tk ec es : Int32} (hY : BY B tn) (hf : TXB f B tn) (hcc : cc ≤ 600) {sq ct of dr dl pl : Nat} {ne pa : Int32} {mg : Value} {tc fo fd fl : Nat → Int32} (hsu : T2 κ sq 7 11) (hpl : 1 ≤ pl ∧ pl ≤ 8) (hsx : SUX D cs sq H0 pl ne pa mg ct of dr dl tc fo fd fl) {z : Nat} (hz : z ≤ tn) (hrs : RS D cs w H0 tx f co cf (κ w).2.2.1 tn (tkE B z) (tkK B z) z (tkV B z) ta tk cc (.ref sq) ec es) : KC l yX5_readLink wsX5_readLink 2 44 0 0 D cs B0 H0 [.ref w] (Qi (fun r H => WT B0 D cs T κ H ∧ Fr B0 [10, 11] κ H0 H ∧ ((r = 1 ∧ ∃ fl1 q1 ta1 tk1, lnkB B pl fl (skp B (tkE B z)) = .inr (fl1, q1) ∧ z < q1 ∧ q1 ≤ tn ∧ RS D cs w H tx f co cf (κ w).2.2.1 tn (tkE B q1) (tkK B q1) q1 (tkV B q1) ta1 tk1 cc (.ref sq) ec es ∧ SUX D cs sq H pl ne pa mg ct of dr dl tc fo fd fl1) ∨ (r = 0 ∧ ∃ c9 o9, lnkB B pl fl (skp B (tkE B z)) = .inl (c9, o9) ∧ RE D cs w H tx f co (κ w).2.2.1 tn (.ref sq) c9 (nI o9))))) := by
  refine KC.of cX5_readLink 4 (some .boolean) (by decide) rfl (Nat.le_of_ble_eq_true rfl) ?_
  intro p e s m below meth c ls hx hb hr hml hown hts hlocks hin hN hE hH0 hl
  have hown : s.vm.findClass RX5 = some m.cls := hown
  have hl : lv_has ls 4 [(0, .ref w)] := hl
  have hL : OkL B0 [] := OkL.nil
  have hF : Fr B0 [10, 11] κ H0 H0 := Fr.rf
  obtain ⟨hkw, hktx, hkco⟩ := hrs
  have h6n := hY.1
  obtain ⟨htx, hco⟩ : T2 κ tx 16 10 ∧ T2 κ co 17 10 := RS.t2 hT hw hkw
  have hzE := tkE_le hY (s := z) (by omega)
  obtain ⟨hct, hof, hdr, hdl⟩ := SUX.t2 hT hsu hsx.1
  obtain ⟨hksq, hkct, hkof, hkdr, hkdl, hod⟩ := hsx
  have hq18 := f18 hT hct hkct
  have hq20 := f20 hT hdl hkdl
  refine lv_aload_n hx hb dX5_readLink_0 rfl (lv_at hl 0 rfl) ?_
  refine cv_v (As := []) (rest := []) (b := w) ⟨hx, hb, hml, hown, hts⟩ (c_X5_step hT (w := w) hw (by first | omega | decide | assumption) (by first | omega | decide | assumption) (by first | omega | decide | assumption) (by first | omega | decide | assumption) (by first | omega | decide | assumption) ⟨hkw, hktx, hkco⟩) (cwV 0 hts gX5_readLink_X5_step rfl rfl rfl hdX5_step_v ⟨Nat.le_of_ble_eq_true rfl, Nat.le_of_ble_eq_true rfl⟩) hN hE hL (rcv6 hN hT hw.1) rfl rfl hl.1 (Nat.le_of_ble_eq_true rfl) dX5_readLink_1 (Nat.zero_le _) (Nat.zero_le _) (fun H1 locs hL hqr2722 => ?_)
  obtain ⟨hT1, hF1, hqr2722⟩ := hqr2722
  have hksq := hF1.hP (va_P.cons hksq va_P.nil) (fa_c ⟨by rw [hsu.1]; decide, by rw [hsu.2]; first | decide | (simp; done) | (simp; omega)⟩ fa_n) 0 _ rfl
  have hkct := hF1.hP (va_P.cons hkct va_P.nil) (fa_c ⟨by rw [hct.1]; decide, by rw [hct.2]; first | decide | (simp; done) | (simp; omega)⟩ fa_n) 0 _ rfl
  have hkof := hF1.hP (va_P.cons hkof va_P.nil) (fa_c ⟨by rw [hof.1]; decide, by rw [hof.2]; first | decide | (simp; done) | (simp; omega)⟩ fa_n) 0 _ rfl
  have hkdr := hF1.hP (va_P.cons hkdr va_P.nil) (fa_c ⟨by rw [hdr.1]; decide, by rw [hdr.2]; first | decide | (simp; done) | (simp; omega)⟩ fa_n) 0 _ rfl
  have hkdl := hF1.hP (va_P.cons hkdl va_P.nil) (fa_c ⟨by rw [hdl.1]; decide, by rw [hdl.2]; first | decide | (simp; done) | (simp; omega)⟩ fa_n) 0 _ rfl
  have hF := hF.tr (hF1.mono (by simp))
  have hT := hT1
  have m2723 := hqr2722
  obtain ⟨z2724, hz2724⟩ : ∃ z9, z9 = skp B ((tkE B z)) := ⟨_, rfl⟩
  rw [← hz2724] at m2723
  have bz2724 : z2724 ≤ tn := by rw [hz2724]; exact run_ub hY (by decide) (by omega)
  have hzE := tkE_le hY (s := z2724) (by omega)
  obtain ⟨hkw, hktx, hkco⟩ := m2723
  have hz1 : z2724 = (skp B (tkE B z)) := hz2724
  have hz1b := skp_b hY (z := tkE B z) (by omega)
  rw [← hz1] at hz1b
  refine lv_aload_n hx hb dX5_readLink_4 rfl (lv_at hl 0 rfl) ?_
  refine lv_iconst (v := 0) hx hb dX5_readLink_5 (by decide) ?_
  refine lv_aload_n hx hb dX5_readLink_6 rfl (lv_at hl 0 rfl) ?_
  obtain ⟨hb2725, e2725, hat2725, hk2725⟩ := hT.o6 hw.1
  obtain ⟨f2725_0, f2725_2, f2725_3, f2725_4, f2725_5, f2725_6, f2725_7, f2725_8, f2725_9, f2725_10, f2725_11, f2725_12, f2725_13, rfl, c2725_1, c2725_2, c2725_3, c2725_5, c2725_10, t2725_0, t2725_9, c2725_11, c2725_p2⟩ := hk2725
  obtain ⟨rfl, rfl, rfl, rfl, rfl, rfl, rfl, rfl, rfl, rfl, rfl, rfl, rfl⟩ := eq6 hat2725 hkw (by omega)
  have hP : va_P D vwCl [(w, .inr (5, [.ref tx, .int (nI ((κ w).2.2.1)), .int (nI tn), .int (nI ((tkE B z2724))), .int (tkK B z2724), .int (nI z2724), .int (tkV B z2724), .int ta, .int tk, .ref co, .int (nI cc), .ref sq, .int ec, .int es]))] _ := va_P.cons hat2725 va_P.nil
  refine va_get (D := D) (ci := 5) (v := .ref sq) (C := RX5) (T := TX5) (N := 14) hx hb hts iX5_readLink_5 hown hN.1 hP 0 rfl rfl 11 (by decide) (hts _ mX5_readLink_1) (fun _ h9 => h9) rfl dX5_readLink_7 ?_
  obtain ⟨hb2726, e2726, hat2726, hk2726⟩ := hT.o7 hsu.1
  obtain ⟨f2726_0, f2726_1, f2726_2, f2726_3, f2726_4, f2726_5, f2726_6, f2726_7, rfl, c2726_0, c2726_3, c2726_mg, t2726_4, t2726_5, t2726_6, t2726_7⟩ := hk2726
  rw [hsu.2] at t2726_4
  rw [hsu.2] at t2726_5
  rw [hsu.2] at t2726_6
  rw [hsu.2] at t2726_7
  obtain ⟨rfl, rfl, rfl, rfl, rfl, rfl, rfl, rfl⟩ := eq7 hat2726 hksq (by omega)
  have hP : va_P D vwCl [(sq, .inr (6, [.int (nI pl), .int ne, .int pa, mg, .ref ct, .ref of, .ref dr, .ref dl])), (w, .inr (5, [.ref tx, .int (nI ((κ w).2.2.1)), .int (nI tn), .int (nI ((tkE B z2724))), .int (tkK B z2724), .int (nI z2724), .int (tkV B z2724), .int ta, .int tk, .ref co, .int (nI cc), .ref sq, .int ec, .int es]))] _ := va_P.cons hat2726 hP
  refine va_getN (D := D) (ci := 6) (v := .int (nI pl)) (C := RX6) (T := TX6) (N := 8) hx hb hts iX5_readLink_6 hown hN.1 hP 0 rfl rfl 0 (by decide) (hN.f 38 rfl) (fun _ h9 => h9) rfl dX5_readLink_10 ?_
  refine lv_iconst (v := 1) hx hb dX5_readLink_13 (by decide) ?_
  refine lv_isub hx hb dX5_readLink_14 ?_
  refine tp_i (nI (pl - 1)) (nI_subN (a := pl) (b := 1) (by omega)) ?_
  refine cv_i (As := [.int 0, .int (nI (pl - 1))]) (rest := []) (b := w) ⟨hx, hb, hml, hown, hts⟩ (c_X5_takeNumber hT (w := w) hw (aa := 0) (bb := (pl - 1)) (by first | omega | decide | assumption) (by first | omega | decide | assumption) (by first | omega | decide | assumption) (by first | omega | decide | assumption) ⟨hkw, hktx, hkco⟩ (by first | omega | decide | assumption) (by first | omega | decide | assumption)) (cwV 2 hts gX5_readLink_X5_takeNumber rfl rfl rfl hdX5_takeNumber_v ⟨Nat.le_of_ble_eq_true rfl, Nat.le_of_ble_eq_true rfl⟩) hN hE hL (rcv6 hN hT hw.1) rfl rfl hl.1 (Nat.le_of_ble_eq_true rfl) dX5_readLink_15 (Nat.zero_le _) (Nat.zero_le _) (fun r2727 H1 locs hL hqr2727 => ?_)
  obtain ⟨hT1, hF1, hqr2727⟩ := hqr2727
  have hP : va_P D vwCl [(sq, .inr (6, [.int (nI pl), .int ne, .int pa, mg, .ref ct, .ref of, .ref dr, .ref dl]))] _ := hF1.hP (hP.sub [0] rfl) (fa_c ⟨by rw [hsu.1]; decide, by rw [hsu.2]; first | decide | (simp; done) | (simp [h15a, h15b, h15c]; done) | (simp; omega)⟩ fa_n)
  have hksq := hF1.hP (va_P.cons hksq va_P.nil) (fa_c ⟨by rw [hsu.1]; decide, by rw [hsu.2]; first | decide | (simp; done) | (simp; omega)⟩ fa_n) 0 _ rfl
  have hkct := hF1.hP (va_P.cons hkct va_P.nil) (fa_c ⟨by rw [hct.1]; decide, by rw [hct.2]; first | decide | (simp; done) | (simp; omega)⟩ fa_n) 0 _ rfl
  have hkof := hF1.hP (va_P.cons hkof va_P.nil) (fa_c ⟨by rw [hof.1]; decide, by rw [hof.2]; first | decide | (simp; done) | (simp; omega)⟩ fa_n) 0 _ rfl
  have hkdr := hF1.hP (va_P.cons hkdr va_P.nil) (fa_c ⟨by rw [hdr.1]; decide, by rw [hdr.2]; first | decide | (simp; done) | (simp; omega)⟩ fa_n) 0 _ rfl
  have hkdl := hF1.hP (va_P.cons hkdl va_P.nil) (fa_c ⟨by rw [hdl.1]; decide, by rw [hdl.2]; first | decide | (simp; done) | (simp; omega)⟩ fa_n) 0 _ rfl
  have hF := hF.tr (hF1.mono (by simp))
  have hT := hT1
  rcases hqr2727 with ⟨rfl, d2728, l2729, g2730, m2731⟩ | ⟨rfl, d2732, m2733⟩ | ⟨rfl, d2734, g2735, m2736⟩
  · obtain ⟨z2737, hz2737⟩ : ∃ z9, z9 = skp B (dgE B z2724) := ⟨_, rfl⟩
    rw [← hz2737] at m2731
    have bz2737 : z2737 ≤ tn := by rw [hz2737]; exact (dgE_lt hY d2728).2
    have hzE := tkE_le hY (s := z2737) (by omega)
    obtain ⟨hkw, hktx, hkco⟩ := m2731
    have e2738 : numB B 0 (pl - 1) z2724 = .inr (nvl B z2724 0, z2737) := (num_ok d2728 l2729 g2730).trans (by rw [hz2737])
    have le2738 := numB_pg hY e2738
    refine lv_if_ne (tgt := 23) hx hb dX5_readLink_18 (by decide) (fun _ => ?_) (fun c9 => absurd c9 (by decide))
    refine lv_aload_n hx hb dX5_readLink_23 rfl (lv_at hl 0 rfl) ?_
    obtain ⟨hb2739, e2739, hat2739, hk2739⟩ := hT.o6 hw.1
    obtain ⟨f2739_0, f2739_2, f2739_3, f2739_4, f2739_5, f2739_6, f2739_7, f2739_8, f2739_9, f2739_10, f2739_11, f2739_12, f2739_13, rfl, c2739_1, c2739_2, c2739_3, c2739_5, c2739_10, t2739_0, t2739_9, c2739_11, c2739_p2⟩ := hk2739
    obtain ⟨rfl, rfl, rfl, rfl, rfl, rfl, rfl, rfl, rfl, rfl, rfl, rfl, rfl⟩ := eq6 hat2739 hkw (by omega)
    have hP : va_P D vwCl [(w, .inr (5, [.ref tx, .int (nI ((κ w).2.2.1)), .int (nI tn), .int (nI ((tkE B z2737))), .int (tkK B z2737), .int (nI z2737), .int (tkV B z2737), .int (nI ((nvl B z2724 0))), .int (nI z2724), .ref co, .int (nI cc), .ref sq, .int ec, .int es])), (sq, .inr (6, [.int (nI pl), .int ne, .int pa, mg, .ref ct, .ref of, .ref dr, .ref dl]))] _ := va_P.cons hat2739 hP
    refine va_get (D := D) (ci := 5) (v := .int (nI ((nvl B z2724 0)))) (C := RX5) (T := TX5) (N := 14) hx hb hts iX5_readLink_5 hown hN.1 hP 0 rfl rfl 7 (by decide) (hts _ mX5_readLink_2) (fun _ h9 => h9) rfl dX5_readLink_24 ?_
    refine lv_istore_n (lv' := [(1, .int (nI ((nvl B z2724 0)))), (0, .ref w)]) hx hb dX5_readLink_27 rfl hl (by decide) rfl (fun ls hl => ?_)
    refine lv_aload_n hx hb dX5_readLink_28 rfl (lv_at hl 1 rfl) ?_
    refine lv_iconst (v := 0) hx hb dX5_readLink_29 (by decide) ?_
    refine lv_aload_n hx hb dX5_readLink_30 rfl (lv_at hl 1 rfl) ?_
    refine va_get (D := D) (ci := 5) (v := .ref sq) (C := RX5) (T := TX5) (N := 14) hx hb hts iX5_readLink_5 hown hN.1 hP 0 rfl rfl 11 (by decide) (hts _ mX5_readLink_1) (fun _ h9 => h9) rfl dX5_readLink_31 ?_
    refine va_getN (D := D) (ci := 6) (v := .int (nI pl)) (C := RX6) (T := TX6) (N := 8) hx hb hts iX5_readLink_6 hown hN.1 hP 1 rfl rfl 0 (by decide) (hN.f 38 rfl) (fun _ h9 => h9) rfl dX5_readLink_34 ?_
    refine lv_iconst (v := 1) hx hb dX5_readLink_37 (by decide) ?_
    refine lv_isub hx hb dX5_readLink_38 ?_
    refine tp_i (nI (pl - 1)) (nI_subN (a := pl) (b := 1) (by omega)) ?_
    refine cv_i (As := [.int 0, .int (nI (pl - 1))]) (rest := []) (b := w) ⟨hx, hb, hml, hown, hts⟩ (c_X5_takeNumber hT (w := w) hw (aa := 0) (bb := (pl - 1)) (by first | omega | decide | assumption) (by first | omega | decide | assumption) (by first | omega | decide | assumption) (by first | omega | decide | assumption) ⟨hkw, hktx, hkco⟩ (by first | omega | decide | assumption) (by first | omega | decide | assumption)) (cwV 2 hts gX5_readLink_X5_takeNumber rfl rfl rfl hdX5_takeNumber_v ⟨Nat.le_of_ble_eq_true rfl, Nat.le_of_ble_eq_true rfl⟩) hN hE hL (rcv6 hN hT hw.1) rfl rfl hl.1 (Nat.le_of_ble_eq_true rfl) dX5_readLink_39 (Nat.zero_le _) (Nat.zero_le _) (fun r2740 H1 locs hL hqr2740 => ?_)
    obtain ⟨hT1, hF1, hqr2740⟩ := hqr2740
    have hP : va_P D vwCl [(sq, .inr (6, [.int (nI pl), .int ne, .int pa, mg, .ref ct, .ref of, .ref dr, .ref dl]))] _ := hF1.hP (hP.sub [1] rfl) (fa_c ⟨by rw [hsu.1]; decide, by rw [hsu.2]; first | decide | (simp; done) | (simp [h15a, h15b, h15c]; done) | (simp; omega)⟩ fa_n)
    have hksq := hF1.hP (va_P.cons hksq va_P.nil) (fa_c ⟨by rw [hsu.1]; decide, by rw [hsu.2]; first | decide | (simp; done) | (simp; omega)⟩ fa_n) 0 _ rfl
    have hkct := hF1.hP (va_P.cons hkct va_P.nil) (fa_c ⟨by rw [hct.1]; decide, by rw [hct.2]; first | decide | (simp; done) | (simp; omega)⟩ fa_n) 0 _ rfl
    have hkof := hF1.hP (va_P.cons hkof va_P.nil) (fa_c ⟨by rw [hof.1]; decide, by rw [hof.2]; first | decide | (simp; done) | (simp; omega)⟩ fa_n) 0 _ rfl
    have hkdr := hF1.hP (va_P.cons hkdr va_P.nil) (fa_c ⟨by rw [hdr.1]; decide, by rw [hdr.2]; first | decide | (simp; done) | (simp; omega)⟩ fa_n) 0 _ rfl
    have hkdl := hF1.hP (va_P.cons hkdl va_P.nil) (fa_c ⟨by rw [hdl.1]; decide, by rw [hdl.2]; first | decide | (simp; done) | (simp; omega)⟩ fa_n) 0 _ rfl
    have hF := hF.tr (hF1.mono (by simp))
    have hT := hT1
    rcases hqr2740 with ⟨rfl, d2741, l2742, g2743, m2744⟩ | ⟨rfl, d2745, m2746⟩ | ⟨rfl, d2747, g2748, m2749⟩
    · obtain ⟨z2750, hz2750⟩ : ∃ z9, z9 = skp B (dgE B z2737) := ⟨_, rfl⟩
      rw [← hz2750] at m2744
      have bz2750 : z2750 ≤ tn := by rw [hz2750]; exact (dgE_lt hY d2741).2
      have hzE := tkE_le hY (s := z2750) (by omega)
      obtain ⟨hkw, hktx, hkco⟩ := m2744
      have e2751 : numB B 0 (pl - 1) z2737 = .inr (nvl B z2737 0, z2750) := (num_ok d2741 l2742 g2743).trans (by rw [hz2750])
      have le2751 := numB_pg hY e2751
      refine lv_if_ne (tgt := 47) hx hb dX5_readLink_42 (by decide) (fun _ => ?_) (fun c9 => absurd c9 (by decide))
      refine lv_aload_n hx hb dX5_readLink_47 rfl (lv_at hl 1 rfl) ?_
      obtain ⟨hb2752, e2752, hat2752, hk2752⟩ := hT.o6 hw.1
      obtain ⟨f2752_0, f2752_2, f2752_3, f2752_4, f2752_5, f2752_6, f2752_7, f2752_8, f2752_9, f2752_10, f2752_11, f2752_12, f2752_13, rfl, c2752_1, c2752_2, c2752_3, c2752_5, c2752_10, t2752_0, t2752_9, c2752_11, c2752_p2⟩ := hk2752
      obtain ⟨rfl, rfl, rfl, rfl, rfl, rfl, rfl, rfl, rfl, rfl, rfl, rfl, rfl⟩ := eq6 hat2752 hkw (by omega)
      have hP : va_P D vwCl [(w, .inr (5, [.ref tx, .int (nI ((κ w).2.2.1)), .int (nI tn), .int (nI ((tkE B z2750))), .int (tkK B z2750), .int (nI z2750), .int (tkV B z2750), .int (nI ((nvl B z2737 0))), .int (nI z2737), .ref co, .int (nI cc), .ref sq, .int ec, .int es])), (sq, .inr (6, [.int (nI pl), .int ne, .int pa, mg, .ref ct, .ref of, .ref dr, .ref dl]))] _ := va_P.cons hat2752 hP
      refine va_get (D := D) (ci := 5) (v := .int (nI ((nvl B z2737 0)))) (C := RX5) (T := TX5) (N := 14) hx hb hts iX5_readLink_5 hown hN.1 hP 0 rfl rfl 7 (by decide) (hts _ mX5_readLink_2) (fun _ h9 => h9) rfl dX5_readLink_48 ?_
      refine lv_istore_n (lv' := [(2, .int (nI ((nvl B z2737 0)))), (1, .int (nI ((nvl B z2724 0)))), (0, .ref w)]) hx hb dX5_readLink_51 rfl hl (by decide) rfl (fun ls hl => ?_)
      have hp1 := plc_n (i := nvl B z2724 0) (j := nvl B z2737 0) (by omega) (by omega)
      have hp2 := plc_n (i := nvl B z2737 0) (j := nvl B z2724 0) (by omega) (by omega)
      refine lv_iload_n hx hb dX5_readLink_52 rfl (lv_at hl 1 rfl) ?_
      refine lv_iload_n hx hb dX5_readLink_53 rfl (lv_at hl 0 rfl) ?_
      refine lv_icmp_eq (tgt := 69) hx hb dX5_readLink_54 (by decide) (fun c2753 => ?_) (fun c2753 => ?_)
      · have c2753 : ((nvl B z2724 0)) = ((nvl B z2737 0)) := (nI_eq (a := ((nvl B z2724 0))) (b := ((nvl B z2737 0))) (by omega) (by omega)).mp c2753
        refine lv_aload_n hx hb dX5_readLink_69 rfl (lv_at hl 2 rfl) ?_
        refine lv_bipush (v := (-4)) hx hb dX5_readLink_70 (by decide) ?_
        refine lv_aload_n hx hb dX5_readLink_72 rfl (lv_at hl 2 rfl) ?_
        refine va_get (D := D) (ci := 5) (v := .int (nI z2737)) (C := RX5) (T := TX5) (N := 14) hx hb hts iX5_readLink_5 hown hN.1 hP 0 rfl rfl 8 (by decide) (hts _ mX5_readLink_3) (fun _ h9 => h9) rfl dX5_readLink_73 ?_
        refine cv_i (As := [.int (-4), .int (nI z2737)]) (rest := []) (b := w) ⟨hx, hb, hml, hown, hts⟩ (c_X5_fail hT (w := w) hw (x := (-4)) (y := (nI z2737)) (by first | omega | decide | assumption) (by first | omega | decide | assumption) (by first | omega | decide | assumption) (by first | omega | decide | assumption) (by first | omega | decide | assumption) ⟨hkw, hktx, hkco⟩) (cwV 2 hts gX5_readLink_X5_fail rfl rfl rfl hdX5_fail_v ⟨Nat.le_of_ble_eq_true rfl, Nat.le_of_ble_eq_true rfl⟩) hN hE hL (rcv6 hN hT hw.1) rfl rfl hl.1 (Nat.le_of_ble_eq_true rfl) dX5_readLink_76 (Nat.zero_le _) (Nat.zero_le _) (fun r2754 H1 locs hL hqr2754 => ?_)
        obtain ⟨hT1, hF1, hqr2754⟩ := hqr2754
        have hP : va_P D vwCl [(sq, .inr (6, [.int (nI pl), .int ne, .int pa, mg, .ref ct, .ref of, .ref dr, .ref dl]))] _ := hF1.hP (hP.sub [1] rfl) (fa_c ⟨by rw [hsu.1]; decide, by rw [hsu.2]; first | decide | (simp; done) | (simp [h15a, h15b, h15c]; done) | (simp; omega)⟩ fa_n)
        have hksq := hF1.hP (va_P.cons hksq va_P.nil) (fa_c ⟨by rw [hsu.1]; decide, by rw [hsu.2]; first | decide | (simp; done) | (simp; omega)⟩ fa_n) 0 _ rfl
        have hkct := hF1.hP (va_P.cons hkct va_P.nil) (fa_c ⟨by rw [hct.1]; decide, by rw [hct.2]; first | decide | (simp; done) | (simp; omega)⟩ fa_n) 0 _ rfl
        have hkof := hF1.hP (va_P.cons hkof va_P.nil) (fa_c ⟨by rw [hof.1]; decide, by rw [hof.2]; first | decide | (simp; done) | (simp; omega)⟩ fa_n) 0 _ rfl
        have hkdr := hF1.hP (va_P.cons hkdr va_P.nil) (fa_c ⟨by rw [hdr.1]; decide, by rw [hdr.2]; first | decide | (simp; done) | (simp; omega)⟩ fa_n) 0 _ rfl
        have hkdl := hF1.hP (va_P.cons hkdl va_P.nil) (fa_c ⟨by rw [hdl.1]; decide, by rw [hdl.2]; first | decide | (simp; done) | (simp; omega)⟩ fa_n) 0 _ rfl
        have hF := hF.tr (hF1.mono (by simp))
        have hT := hT1
        obtain ⟨rfl, m2755⟩ := hqr2754
        obtain ⟨hkw, hktx, hkco⟩ := m2755
        exact en_i hx hb hr hlocks hL rfl (Nat.zero_le _) (Nat.zero_le _) dX5_readLink_79 (⟨hT, hF, Or.inr ⟨rfl, _, _, by rw [← hz1]; exact (lnk_3 e2738 e2751 (Or.inl c2753)), ⟨_, _, _, _, _, _, _, _, (by omega), (by omega), (by omega), hkw, hktx, hkco⟩⟩⟩)
      · have c2753 : ¬ ((nvl B z2724 0)) = ((nvl B z2737 0)) := fun h9 => c2753 ((nI_eq (a := ((nvl B z2724 0))) (b := ((nvl B z2737 0))) (by omega) (by omega)).mpr h9)
        refine lv_aload_n hx hb dX5_readLink_57 rfl (lv_at hl 2 rfl) ?_
        refine va_get (D := D) (ci := 5) (v := .ref sq) (C := RX5) (T := TX5) (N := 14) hx hb hts iX5_readLink_5 hown hN.1 hP 0 rfl rfl 11 (by decide) (hts _ mX5_readLink_1) (fun _ h9 => h9) rfl dX5_readLink_58 ?_
        refine lv_iload_n hx hb dX5_readLink_61 rfl (lv_at hl 1 rfl) ?_
        refine lv_iload_n hx hb dX5_readLink_62 rfl (lv_at hl 0 rfl) ?_
        refine cv_i (As := [.int (nI ((nvl B z2724 0))), .int (nI ((nvl B z2737 0)))]) (rest := []) (b := sq) ⟨hx, hb, hml, hown, hts⟩ (c_X6_delayOf_de hT (sq := sq) (x := (nI ((nvl B z2724 0)))) (y := (nI ((nvl B z2737 0)))) (by first | omega | decide | assumption) (by first | omega | decide | assumption) ⟨hksq, hkct, hkof, hkdr, hkdl, hod⟩) (cwV 2 hts gX5_readLink_X6_delayOf rfl rfl rfl hdX6_delayOf_v ⟨Nat.le_of_ble_eq_true rfl, Nat.le_of_ble_eq_true rfl⟩) hN hE hL (rcv7 hN hT hsu.1) rfl rfl hl.1 (Nat.le_of_ble_eq_true rfl) dX5_readLink_63 (Nat.zero_le _) (Nat.zero_le _) (fun r2756 H1 locs hL hqr2756 => ?_)
        obtain ⟨h9, hqr2756⟩ := hqr2756; replace h9 := h9.symm; subst h9
        obtain rfl := hqr2756
        refine lv_if_eq (tgt := 80) hx hb dX5_readLink_66 (by decide) (fun c2757 => ?_) (fun c2757 => ?_)
        · refine lv_aload_n hx hb dX5_readLink_80 rfl (lv_at hl 2 rfl) ?_
          refine lv_iconst (v := 1) hx hb dX5_readLink_81 (by decide) ?_
          refine lv_bipush (v := 9) hx hb dX5_readLink_82 (by decide) ?_
          refine cv_i (As := [.int 1, .int 9]) (rest := []) (b := w) ⟨hx, hb, hml, hown, hts⟩ (c_X5_takeNumber hT (w := w) hw (aa := 1) (bb := 9) (by first | omega | decide | assumption) (by first | omega | decide | assumption) (by first | omega | decide | assumption) (by first | omega | decide | assumption) ⟨hkw, hktx, hkco⟩ (by first | omega | decide | assumption) (by first | omega | decide | assumption)) (cwV 2 hts gX5_readLink_X5_takeNumber rfl rfl rfl hdX5_takeNumber_v ⟨Nat.le_of_ble_eq_true rfl, Nat.le_of_ble_eq_true rfl⟩) hN hE hL (rcv6 hN hT hw.1) rfl rfl hl.1 (Nat.le_of_ble_eq_true rfl) dX5_readLink_84 (Nat.zero_le _) (Nat.zero_le _) (fun r2758 H1 locs hL hqr2758 => ?_)
          obtain ⟨hT1, hF1, hqr2758⟩ := hqr2758
          have hP : va_P D vwCl [(sq, .inr (6, [.int (nI pl), .int ne, .int pa, mg, .ref ct, .ref of, .ref dr, .ref dl]))] _ := hF1.hP (hP.sub [1] rfl) (fa_c ⟨by rw [hsu.1]; decide, by rw [hsu.2]; first | decide | (simp; done) | (simp [h15a, h15b, h15c]; done) | (simp; omega)⟩ fa_n)
          have hksq := hF1.hP (va_P.cons hksq va_P.nil) (fa_c ⟨by rw [hsu.1]; decide, by rw [hsu.2]; first | decide | (simp; done) | (simp; omega)⟩ fa_n) 0 _ rfl
          have hkct := hF1.hP (va_P.cons hkct va_P.nil) (fa_c ⟨by rw [hct.1]; decide, by rw [hct.2]; first | decide | (simp; done) | (simp; omega)⟩ fa_n) 0 _ rfl
          have hkof := hF1.hP (va_P.cons hkof va_P.nil) (fa_c ⟨by rw [hof.1]; decide, by rw [hof.2]; first | decide | (simp; done) | (simp; omega)⟩ fa_n) 0 _ rfl
          have hkdr := hF1.hP (va_P.cons hkdr va_P.nil) (fa_c ⟨by rw [hdr.1]; decide, by rw [hdr.2]; first | decide | (simp; done) | (simp; omega)⟩ fa_n) 0 _ rfl
          have hkdl := hF1.hP (va_P.cons hkdl va_P.nil) (fa_c ⟨by rw [hdl.1]; decide, by rw [hdl.2]; first | decide | (simp; done) | (simp; omega)⟩ fa_n) 0 _ rfl
          have hF := hF.tr (hF1.mono (by simp))
          have hT := hT1
          rcases hqr2758 with ⟨rfl, d2759, l2760, g2761, m2762⟩ | ⟨rfl, d2763, m2764⟩ | ⟨rfl, d2765, g2766, m2767⟩
          · obtain ⟨z2768, hz2768⟩ : ∃ z9, z9 = skp B (dgE B z2750) := ⟨_, rfl⟩
            rw [← hz2768] at m2762
            have bz2768 : z2768 ≤ tn := by rw [hz2768]; exact (dgE_lt hY d2759).2
            have hzE := tkE_le hY (s := z2768) (by omega)
            obtain ⟨hkw, hktx, hkco⟩ := m2762
            have e2769 : numB B 1 9 z2750 = .inr (nvl B z2750 0, z2768) := (num_ok d2759 l2760 g2761).trans (by rw [hz2768])
            have le2769 := numB_pg hY e2769
            refine lv_if_ne (tgt := 92) hx hb dX5_readLink_87 (by decide) (fun _ => ?_) (fun c9 => absurd c9 (by decide))
            refine lv_aload_n hx hb dX5_readLink_92 rfl (lv_at hl 2 rfl) ?_
            obtain ⟨hb2770, e2770, hat2770, hk2770⟩ := hT.o6 hw.1
            obtain ⟨f2770_0, f2770_2, f2770_3, f2770_4, f2770_5, f2770_6, f2770_7, f2770_8, f2770_9, f2770_10, f2770_11, f2770_12, f2770_13, rfl, c2770_1, c2770_2, c2770_3, c2770_5, c2770_10, t2770_0, t2770_9, c2770_11, c2770_p2⟩ := hk2770
            obtain ⟨rfl, rfl, rfl, rfl, rfl, rfl, rfl, rfl, rfl, rfl, rfl, rfl, rfl⟩ := eq6 hat2770 hkw (by omega)
            have hP : va_P D vwCl [(w, .inr (5, [.ref tx, .int (nI ((κ w).2.2.1)), .int (nI tn), .int (nI ((tkE B z2768))), .int (tkK B z2768), .int (nI z2768), .int (tkV B z2768), .int (nI ((nvl B z2750 0))), .int (nI z2750), .ref co, .int (nI cc), .ref sq, .int ec, .int es])), (sq, .inr (6, [.int (nI pl), .int ne, .int pa, mg, .ref ct, .ref of, .ref dr, .ref dl]))] _ := va_P.cons hat2770 hP
            refine va_get (D := D) (ci := 5) (v := .int (nI ((nvl B z2750 0)))) (C := RX5) (T := TX5) (N := 14) hx hb hts iX5_readLink_5 hown hN.1 hP 0 rfl rfl 7 (by decide) (hts _ mX5_readLink_2) (fun _ h9 => h9) rfl dX5_readLink_93 ?_
            refine lv_istore_n (lv' := [(3, .int (nI ((nvl B z2750 0)))), (2, .int (nI ((nvl B z2737 0)))), (1, .int (nI ((nvl B z2724 0)))), (0, .ref w)]) hx hb dX5_readLink_96 rfl hl (by decide) rfl (fun ls hl => ?_)
            refine lv_aload_n hx hb dX5_readLink_97 rfl (lv_at hl 3 rfl) ?_
            refine lv_iconst (v := 1) hx hb dX5_readLink_98 (by decide) ?_
            refine lv_bipush (v := 9) hx hb dX5_readLink_99 (by decide) ?_
            refine cv_i (As := [.int 1, .int 9]) (rest := []) (b := w) ⟨hx, hb, hml, hown, hts⟩ (c_X5_takeNumber hT (w := w) hw (aa := 1) (bb := 9) (by first | omega | decide | assumption) (by first | omega | decide | assumption) (by first | omega | decide | assumption) (by first | omega | decide | assumption) ⟨hkw, hktx, hkco⟩ (by first | omega | decide | assumption) (by first | omega | decide | assumption)) (cwV 2 hts gX5_readLink_X5_takeNumber rfl rfl rfl hdX5_takeNumber_v ⟨Nat.le_of_ble_eq_true rfl, Nat.le_of_ble_eq_true rfl⟩) hN hE hL (rcv6 hN hT hw.1) rfl rfl hl.1 (Nat.le_of_ble_eq_true rfl) dX5_readLink_101 (Nat.zero_le _) (Nat.zero_le _) (fun r2771 H1 locs hL hqr2771 => ?_)
            obtain ⟨hT1, hF1, hqr2771⟩ := hqr2771
            have hP : va_P D vwCl [(sq, .inr (6, [.int (nI pl), .int ne, .int pa, mg, .ref ct, .ref of, .ref dr, .ref dl]))] _ := hF1.hP (hP.sub [1] rfl) (fa_c ⟨by rw [hsu.1]; decide, by rw [hsu.2]; first | decide | (simp; done) | (simp [h15a, h15b, h15c]; done) | (simp; omega)⟩ fa_n)
            have hksq := hF1.hP (va_P.cons hksq va_P.nil) (fa_c ⟨by rw [hsu.1]; decide, by rw [hsu.2]; first | decide | (simp; done) | (simp; omega)⟩ fa_n) 0 _ rfl
            have hkct := hF1.hP (va_P.cons hkct va_P.nil) (fa_c ⟨by rw [hct.1]; decide, by rw [hct.2]; first | decide | (simp; done) | (simp; omega)⟩ fa_n) 0 _ rfl
            have hkof := hF1.hP (va_P.cons hkof va_P.nil) (fa_c ⟨by rw [hof.1]; decide, by rw [hof.2]; first | decide | (simp; done) | (simp; omega)⟩ fa_n) 0 _ rfl
            have hkdr := hF1.hP (va_P.cons hkdr va_P.nil) (fa_c ⟨by rw [hdr.1]; decide, by rw [hdr.2]; first | decide | (simp; done) | (simp; omega)⟩ fa_n) 0 _ rfl
            have hkdl := hF1.hP (va_P.cons hkdl va_P.nil) (fa_c ⟨by rw [hdl.1]; decide, by rw [hdl.2]; first | decide | (simp; done) | (simp; omega)⟩ fa_n) 0 _ rfl
            have hF := hF.tr (hF1.mono (by simp))
            have hT := hT1
            rcases hqr2771 with ⟨rfl, d2772, l2773, g2774, m2775⟩ | ⟨rfl, d2776, m2777⟩ | ⟨rfl, d2778, g2779, m2780⟩
            · obtain ⟨z2781, hz2781⟩ : ∃ z9, z9 = skp B (dgE B z2768) := ⟨_, rfl⟩
              rw [← hz2781] at m2775
              have bz2781 : z2781 ≤ tn := by rw [hz2781]; exact (dgE_lt hY d2772).2
              have hzE := tkE_le hY (s := z2781) (by omega)
              obtain ⟨hkw, hktx, hkco⟩ := m2775
              have e2782 : numB B 1 9 z2768 = .inr (nvl B z2768 0, z2781) := (num_ok d2772 l2773 g2774).trans (by rw [hz2781])
              have le2782 := numB_pg hY e2782
              refine lv_if_ne (tgt := 109) hx hb dX5_readLink_104 (by decide) (fun _ => ?_) (fun c9 => absurd c9 (by decide))
              refine lv_aload_n hx hb dX5_readLink_109 rfl (lv_at hl 3 rfl) ?_
              obtain ⟨hb2783, e2783, hat2783, hk2783⟩ := hT.o6 hw.1
              obtain ⟨f2783_0, f2783_2, f2783_3, f2783_4, f2783_5, f2783_6, f2783_7, f2783_8, f2783_9, f2783_10, f2783_11, f2783_12, f2783_13, rfl, c2783_1, c2783_2, c2783_3, c2783_5, c2783_10, t2783_0, t2783_9, c2783_11, c2783_p2⟩ := hk2783
              obtain ⟨rfl, rfl, rfl, rfl, rfl, rfl, rfl, rfl, rfl, rfl, rfl, rfl, rfl⟩ := eq6 hat2783 hkw (by omega)
              have hP : va_P D vwCl [(w, .inr (5, [.ref tx, .int (nI ((κ w).2.2.1)), .int (nI tn), .int (nI ((tkE B z2781))), .int (tkK B z2781), .int (nI z2781), .int (tkV B z2781), .int (nI ((nvl B z2768 0))), .int (nI z2768), .ref co, .int (nI cc), .ref sq, .int ec, .int es])), (sq, .inr (6, [.int (nI pl), .int ne, .int pa, mg, .ref ct, .ref of, .ref dr, .ref dl]))] _ := va_P.cons hat2783 hP
              refine va_get (D := D) (ci := 5) (v := .ref sq) (C := RX5) (T := TX5) (N := 14) hx hb hts iX5_readLink_5 hown hN.1 hP 0 rfl rfl 11 (by decide) (hts _ mX5_readLink_1) (fun _ h9 => h9) rfl dX5_readLink_110 ?_
              refine lv_iload_n hx hb dX5_readLink_113 rfl (lv_at hl 2 rfl) ?_
              refine lv_iload_n hx hb dX5_readLink_114 rfl (lv_at hl 1 rfl) ?_
              refine lv_iload_n hx hb dX5_readLink_115 rfl (lv_at hl 0 rfl) ?_
              refine cv_v (As := [.int (nI ((nvl B z2724 0))), .int (nI ((nvl B z2737 0))), .int (nI ((nvl B z2750 0)))]) (rest := []) (b := sq) ⟨hx, hb, hml, hown, hts⟩ (c_X6_setDelay_de hT (sq := sq) (x := (nI ((nvl B z2724 0)))) (y := (nI ((nvl B z2737 0)))) (v := ((nvl B z2750 0))) (by first | omega | decide | assumption) (by first | omega | decide | assumption) ⟨hksq, hkct, hkof, hkdr, hkdl, hod⟩ (by first | omega | decide | assumption)) (cwV 3 hts gX5_readLink_X6_setDelay rfl rfl rfl hdX6_setDelay_v ⟨Nat.le_of_ble_eq_true rfl, Nat.le_of_ble_eq_true rfl⟩) hN hE hL (rcv7 hN hT hsu.1) rfl rfl hl.1 (Nat.le_of_ble_eq_true rfl) dX5_readLink_116 (Nat.zero_le _) (Nat.zero_le _) (fun H1 locs hL hqr2784 => ?_)
              obtain ⟨hT1, hF1, hqr2784⟩ := hqr2784
              have hP : va_P D vwCl [(w, .inr (5, [.ref tx, .int (nI ((κ w).2.2.1)), .int (nI tn), .int (nI ((tkE B z2781))), .int (tkK B z2781), .int (nI z2781), .int (tkV B z2781), .int (nI ((nvl B z2768 0))), .int (nI z2768), .ref co, .int (nI cc), .ref sq, .int ec, .int es]))] _ := hF1.hP (hP.sub [0] rfl) (fa_c ⟨by rw [hw.1]; decide, by rw [hw.2]; first | decide | (simp; done) | (simp [h15a, h15b, h15c]; done) | (simp; omega)⟩ fa_n)
              have hkw := hF1.hP (va_P.cons hkw va_P.nil) (fa_c ⟨by rw [hw.1]; decide, by rw [hw.2]; first | decide | (simp; done) | (simp; omega)⟩ fa_n) 0 _ rfl
              have hktx := hF1.hP (va_P.cons hktx va_P.nil) (fa_c ⟨by rw [htx.1]; decide, by rw [htx.2]; first | decide | (simp; done) | (simp; omega)⟩ fa_n) 0 _ rfl
              have hkco := hF1.hP (va_P.cons hkco va_P.nil) (fa_c ⟨by rw [hco.1]; decide, by rw [hco.2]; first | decide | (simp; done) | (simp; omega)⟩ fa_n) 0 _ rfl
              have hF := hF.tr (hF1.mono (by simp))
              have hT := hT1
              have m2785 := hqr2784
              obtain ⟨hksq, hkct, hkof, hkdr, hkdl, hod⟩ := m2785
              have hq18 := f18 hT hct hkct
              have hq20 := f20 hT hdl hkdl
              refine lv_aload_n hx hb dX5_readLink_119 rfl (lv_at hl 3 rfl) ?_
              refine va_get (D := D) (ci := 5) (v := .ref sq) (C := RX5) (T := TX5) (N := 14) hx hb hts iX5_readLink_5 hown hN.1 hP 0 rfl rfl 11 (by decide) (hts _ mX5_readLink_1) (fun _ h9 => h9) rfl dX5_readLink_120 ?_
              refine lv_iload_n hx hb dX5_readLink_123 rfl (lv_at hl 1 rfl) ?_
              refine lv_iload_n hx hb dX5_readLink_124 rfl (lv_at hl 2 rfl) ?_
              refine lv_aload_n hx hb dX5_readLink_125 rfl (lv_at hl 3 rfl) ?_
              refine va_get (D := D) (ci := 5) (v := .int (nI ((nvl B z2768 0)))) (C := RX5) (T := TX5) (N := 14) hx hb hts iX5_readLink_5 hown hN.1 hP 0 rfl rfl 7 (by decide) (hts _ mX5_readLink_2) (fun _ h9 => h9) rfl dX5_readLink_126 ?_
              refine cv_v (As := [.int (nI ((nvl B z2737 0))), .int (nI ((nvl B z2724 0))), .int (nI ((nvl B z2768 0)))]) (rest := []) (b := sq) ⟨hx, hb, hml, hown, hts⟩ (c_X6_setDelay_de hT (sq := sq) (x := (nI ((nvl B z2737 0)))) (y := (nI ((nvl B z2724 0)))) (v := ((nvl B z2768 0))) (by first | omega | decide | assumption) (by first | omega | decide | assumption) ⟨hksq, hkct, hkof, hkdr, hkdl, hod⟩ (by first | omega | decide | assumption)) (cwV 3 hts gX5_readLink_X6_setDelay rfl rfl rfl hdX6_setDelay_v ⟨Nat.le_of_ble_eq_true rfl, Nat.le_of_ble_eq_true rfl⟩) hN hE hL (rcv7 hN hT hsu.1) rfl rfl hl.1 (Nat.le_of_ble_eq_true rfl) dX5_readLink_129 (Nat.zero_le _) (Nat.zero_le _) (fun H1 locs hL hqr2786 => ?_)
              obtain ⟨hT1, hF1, hqr2786⟩ := hqr2786
              have hP : va_P D vwCl [(w, .inr (5, [.ref tx, .int (nI ((κ w).2.2.1)), .int (nI tn), .int (nI ((tkE B z2781))), .int (tkK B z2781), .int (nI z2781), .int (tkV B z2781), .int (nI ((nvl B z2768 0))), .int (nI z2768), .ref co, .int (nI cc), .ref sq, .int ec, .int es]))] _ := hF1.hP (hP.sub [0] rfl) (fa_c ⟨by rw [hw.1]; decide, by rw [hw.2]; first | decide | (simp; done) | (simp [h15a, h15b, h15c]; done) | (simp; omega)⟩ fa_n)
              have hkw := hF1.hP (va_P.cons hkw va_P.nil) (fa_c ⟨by rw [hw.1]; decide, by rw [hw.2]; first | decide | (simp; done) | (simp; omega)⟩ fa_n) 0 _ rfl
              have hktx := hF1.hP (va_P.cons hktx va_P.nil) (fa_c ⟨by rw [htx.1]; decide, by rw [htx.2]; first | decide | (simp; done) | (simp; omega)⟩ fa_n) 0 _ rfl
              have hkco := hF1.hP (va_P.cons hkco va_P.nil) (fa_c ⟨by rw [hco.1]; decide, by rw [hco.2]; first | decide | (simp; done) | (simp; omega)⟩ fa_n) 0 _ rfl
              have hF := hF.tr (hF1.mono (by simp))
              have hT := hT1
              have m2787 := hqr2786
              obtain ⟨hksq, hkct, hkof, hkdr, hkdl, hod⟩ := m2787
              have hq18 := f18 hT hct hkct
              have hq20 := f20 hT hdl hkdl
              refine lv_iconst (v := 1) hx hb dX5_readLink_132 (by decide) ?_
              exact en_i hx hb hr hlocks hL rfl (Nat.zero_le _) (Nat.zero_le _) dX5_readLink_133 (⟨hT, hF, Or.inl ⟨rfl, _, _, _, _, by rw [← hz1]; exact (lnk_6 e2738 e2751 c2753 (by rw [← hp1]; exact c2757) e2769 e2782), (by omega), (by omega), ⟨hkw, hktx, hkco⟩, (by rw [← hp1, ← hp2]; exact ⟨hksq, hkct, hkof, hkdr, hkdl, hod⟩)⟩⟩)
            · obtain ⟨hkw, hktx, hkco⟩ := m2777
              have e2788 : numB B 1 9 z2768 = .inl (-2, z2768) := num_nd d2776
              refine lv_if_ne (tgt := 109) hx hb dX5_readLink_104 (by decide) (fun c9 => absurd (by decide) c9) (fun _ => ?_)
              refine lv_iconst (v := 0) hx hb dX5_readLink_107 (by decide) ?_
              exact en_i hx hb hr hlocks hL rfl (Nat.zero_le _) (Nat.zero_le _) dX5_readLink_108 (⟨hT, hF, Or.inr ⟨rfl, _, _, by rw [← hz1]; exact (lnk_5 e2738 e2751 c2753 (by rw [← hp1]; exact c2757) e2769 e2788), ⟨_, _, _, _, _, _, _, _, (by omega), (by omega), (by omega), hkw, hktx, hkco⟩⟩⟩)
            · obtain ⟨hkw, hktx, hkco⟩ := m2780
              have e2789 : numB B 1 9 z2768 = .inl (-3, z2768) := num_or d2778 g2779
              refine lv_if_ne (tgt := 109) hx hb dX5_readLink_104 (by decide) (fun c9 => absurd (by decide) c9) (fun _ => ?_)
              refine lv_iconst (v := 0) hx hb dX5_readLink_107 (by decide) ?_
              exact en_i hx hb hr hlocks hL rfl (Nat.zero_le _) (Nat.zero_le _) dX5_readLink_108 (⟨hT, hF, Or.inr ⟨rfl, _, _, by rw [← hz1]; exact (lnk_5 e2738 e2751 c2753 (by rw [← hp1]; exact c2757) e2769 e2789), ⟨_, _, _, _, _, _, _, _, (by omega), (by omega), (by omega), hkw, hktx, hkco⟩⟩⟩)
          · obtain ⟨hkw, hktx, hkco⟩ := m2764
            have e2790 : numB B 1 9 z2750 = .inl (-2, z2750) := num_nd d2763
            refine lv_if_ne (tgt := 92) hx hb dX5_readLink_87 (by decide) (fun c9 => absurd (by decide) c9) (fun _ => ?_)
            refine lv_iconst (v := 0) hx hb dX5_readLink_90 (by decide) ?_
            exact en_i hx hb hr hlocks hL rfl (Nat.zero_le _) (Nat.zero_le _) dX5_readLink_91 (⟨hT, hF, Or.inr ⟨rfl, _, _, by rw [← hz1]; exact (lnk_4 e2738 e2751 c2753 (by rw [← hp1]; exact c2757) e2790), ⟨_, _, _, _, _, _, _, _, (by omega), (by omega), (by omega), hkw, hktx, hkco⟩⟩⟩)
          · obtain ⟨hkw, hktx, hkco⟩ := m2767
            have e2791 : numB B 1 9 z2750 = .inl (-3, z2750) := num_or d2765 g2766
            refine lv_if_ne (tgt := 92) hx hb dX5_readLink_87 (by decide) (fun c9 => absurd (by decide) c9) (fun _ => ?_)
            refine lv_iconst (v := 0) hx hb dX5_readLink_90 (by decide) ?_
            exact en_i hx hb hr hlocks hL rfl (Nat.zero_le _) (Nat.zero_le _) dX5_readLink_91 (⟨hT, hF, Or.inr ⟨rfl, _, _, by rw [← hz1]; exact (lnk_4 e2738 e2751 c2753 (by rw [← hp1]; exact c2757) e2791), ⟨_, _, _, _, _, _, _, _, (by omega), (by omega), (by omega), hkw, hktx, hkco⟩⟩⟩)
        · refine lv_aload_n hx hb dX5_readLink_69 rfl (lv_at hl 2 rfl) ?_
          refine lv_bipush (v := (-4)) hx hb dX5_readLink_70 (by decide) ?_
          refine lv_aload_n hx hb dX5_readLink_72 rfl (lv_at hl 2 rfl) ?_
          refine va_get (D := D) (ci := 5) (v := .int (nI z2737)) (C := RX5) (T := TX5) (N := 14) hx hb hts iX5_readLink_5 hown hN.1 hP 0 rfl rfl 8 (by decide) (hts _ mX5_readLink_3) (fun _ h9 => h9) rfl dX5_readLink_73 ?_
          refine cv_i (As := [.int (-4), .int (nI z2737)]) (rest := []) (b := w) ⟨hx, hb, hml, hown, hts⟩ (c_X5_fail hT (w := w) hw (x := (-4)) (y := (nI z2737)) (by first | omega | decide | assumption) (by first | omega | decide | assumption) (by first | omega | decide | assumption) (by first | omega | decide | assumption) (by first | omega | decide | assumption) ⟨hkw, hktx, hkco⟩) (cwV 2 hts gX5_readLink_X5_fail rfl rfl rfl hdX5_fail_v ⟨Nat.le_of_ble_eq_true rfl, Nat.le_of_ble_eq_true rfl⟩) hN hE hL (rcv6 hN hT hw.1) rfl rfl hl.1 (Nat.le_of_ble_eq_true rfl) dX5_readLink_76 (Nat.zero_le _) (Nat.zero_le _) (fun r2792 H1 locs hL hqr2792 => ?_)
          obtain ⟨hT1, hF1, hqr2792⟩ := hqr2792
          have hP : va_P D vwCl [(sq, .inr (6, [.int (nI pl), .int ne, .int pa, mg, .ref ct, .ref of, .ref dr, .ref dl]))] _ := hF1.hP (hP.sub [1] rfl) (fa_c ⟨by rw [hsu.1]; decide, by rw [hsu.2]; first | decide | (simp; done) | (simp [h15a, h15b, h15c]; done) | (simp; omega)⟩ fa_n)
          have hksq := hF1.hP (va_P.cons hksq va_P.nil) (fa_c ⟨by rw [hsu.1]; decide, by rw [hsu.2]; first | decide | (simp; done) | (simp; omega)⟩ fa_n) 0 _ rfl
          have hkct := hF1.hP (va_P.cons hkct va_P.nil) (fa_c ⟨by rw [hct.1]; decide, by rw [hct.2]; first | decide | (simp; done) | (simp; omega)⟩ fa_n) 0 _ rfl
          have hkof := hF1.hP (va_P.cons hkof va_P.nil) (fa_c ⟨by rw [hof.1]; decide, by rw [hof.2]; first | decide | (simp; done) | (simp; omega)⟩ fa_n) 0 _ rfl
          have hkdr := hF1.hP (va_P.cons hkdr va_P.nil) (fa_c ⟨by rw [hdr.1]; decide, by rw [hdr.2]; first | decide | (simp; done) | (simp; omega)⟩ fa_n) 0 _ rfl
          have hkdl := hF1.hP (va_P.cons hkdl va_P.nil) (fa_c ⟨by rw [hdl.1]; decide, by rw [hdl.2]; first | decide | (simp; done) | (simp; omega)⟩ fa_n) 0 _ rfl
          have hF := hF.tr (hF1.mono (by simp))
          have hT := hT1
          obtain ⟨rfl, m2793⟩ := hqr2792
          obtain ⟨hkw, hktx, hkco⟩ := m2793
          exact en_i hx hb hr hlocks hL rfl (Nat.zero_le _) (Nat.zero_le _) dX5_readLink_79 (⟨hT, hF, Or.inr ⟨rfl, _, _, by rw [← hz1]; exact (lnk_3 e2738 e2751 (Or.inr (by rw [← hp1]; exact c2757))), ⟨_, _, _, _, _, _, _, _, (by omega), (by omega), (by omega), hkw, hktx, hkco⟩⟩⟩)
    · obtain ⟨hkw, hktx, hkco⟩ := m2746
      have e2794 : numB B 0 (pl - 1) z2737 = .inl (-2, z2737) := num_nd d2745
      refine lv_if_ne (tgt := 47) hx hb dX5_readLink_42 (by decide) (fun c9 => absurd (by decide) c9) (fun _ => ?_)
      refine lv_iconst (v := 0) hx hb dX5_readLink_45 (by decide) ?_
      exact en_i hx hb hr hlocks hL rfl (Nat.zero_le _) (Nat.zero_le _) dX5_readLink_46 (⟨hT, hF, Or.inr ⟨rfl, _, _, by rw [← hz1]; exact (lnk_2 e2738 e2794), ⟨_, _, _, _, _, _, _, _, (by omega), (by omega), (by omega), hkw, hktx, hkco⟩⟩⟩)
    · obtain ⟨hkw, hktx, hkco⟩ := m2749
      have e2795 : numB B 0 (pl - 1) z2737 = .inl (-3, z2737) := num_or d2747 g2748
      refine lv_if_ne (tgt := 47) hx hb dX5_readLink_42 (by decide) (fun c9 => absurd (by decide) c9) (fun _ => ?_)
      refine lv_iconst (v := 0) hx hb dX5_readLink_45 (by decide) ?_
      exact en_i hx hb hr hlocks hL rfl (Nat.zero_le _) (Nat.zero_le _) dX5_readLink_46 (⟨hT, hF, Or.inr ⟨rfl, _, _, by rw [← hz1]; exact (lnk_2 e2738 e2795), ⟨_, _, _, _, _, _, _, _, (by omega), (by omega), (by omega), hkw, hktx, hkco⟩⟩⟩)
  · obtain ⟨hkw, hktx, hkco⟩ := m2733
    have e2796 : numB B 0 (pl - 1) z2724 = .inl (-2, z2724) := num_nd d2732
    refine lv_if_ne (tgt := 23) hx hb dX5_readLink_18 (by decide) (fun c9 => absurd (by decide) c9) (fun _ => ?_)
    refine lv_iconst (v := 0) hx hb dX5_readLink_21 (by decide) ?_
    exact en_i hx hb hr hlocks hL rfl (Nat.zero_le _) (Nat.zero_le _) dX5_readLink_22 (⟨hT, hF, Or.inr ⟨rfl, _, _, by rw [← hz1]; exact (lnk_1 e2796), ⟨_, _, _, _, _, _, _, _, (by omega), (by omega), (by omega), hkw, hktx, hkco⟩⟩⟩)
  · obtain ⟨hkw, hktx, hkco⟩ := m2736
    have e2797 : numB B 0 (pl - 1) z2724 = .inl (-3, z2724) := num_or d2734 g2735
    refine lv_if_ne (tgt := 23) hx hb dX5_readLink_18 (by decide) (fun c9 => absurd (by decide) c9) (fun _ => ?_)
    refine lv_iconst (v := 0) hx hb dX5_readLink_21 (by decide) ?_
    exact en_i hx hb hr hlocks hL rfl (Nat.zero_le _) (Nat.zero_le _) dX5_readLink_22 (⟨hT, hF, Or.inr ⟨rfl, _, _, by rw [← hz1]; exact (lnk_1 e2797), ⟨_, _, _, _, _, _, _, _, (by omega), (by omega), (by omega), hkw, hktx, hkco⟩⟩⟩)
