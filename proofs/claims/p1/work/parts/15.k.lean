set_option maxHeartbeats 4000000 in
set_option maxRecDepth 100000 in
theorem k67_X8_state (l : Launch) (D : va_G) (cs : Nat → ClassId) (sz : Nat) (a0 a1 a2 a3 a4 a5 a6 a7 a8 a9 a10 a11 a12 : Nat) : KI l yX8_state wsX8_state 1 22 0 0 D cs sz [.ref a0, .int 3] [(a0, .inr (8, [.ref a3, .ref a1, .ref a4, .ref a5, .int 0, .int 0, .int (-1)])), (a1, .inr (7, [.ref a6, .ref a7, .ref a2, .ref a8, .ref a9, .ref a10, .long 0, .int 0, .int 0, .int 0, .int 0, .int 0, .int 0, .int 0, .int 0, .int 0])), (a2, .inr (2, [.ref a11, .ref a12, .int 0]))] (fun u => [(a0, .inr (8, [.ref a3, .ref a1, .ref a4, .ref a5, .int 0, .int 0, .int (-1)])), (a1, .inr (7, [.ref a6, .ref a7, .ref a2, .ref a8, .ref a9, .ref a10, .long 0, .int 0, .int 0, .int 0, .int 0, .int 0, .int 0, .int 0, .int 0, .int 0])), (a2, .inr (2, [.ref a11, .ref a12, .int 0]))]) (0) := by
  refine KI.of cX8_state 2 (some .int) (by decide) rfl (Nat.le_of_ble_eq_true rfl) ?_
  intro p e s m below meth c A ls hx hb hr hml hown hts hlocks hin hP hN hD hA hS hl
  have hown : s.vm.findClass RX8 = some m.cls := hown
  have hl : lv_has ls 2 [(0, .ref a0), (1, .int 3)] := hl
  refine lv_aload_n hx hb dX8_state_0 rfl (lv_at hl 0 rfl) ?_
  refine lv_iload_n hx hb dX8_state_1 rfl (lv_at hl 1 rfl) ?_
  refine lv_bipush (v := 12) hx hb dX8_state_2 (by decide) ?_
  refine cv_v (As := [.int 3, .int 12]) (rest := []) (b := a0) (wr := [(a1, .inr (7, [.ref a6, .ref a7, .ref a2, .ref a8, .ref a9, .ref a10, .long 0, .int 0, .int 0, .int 0, .int 0, .int 0, .int 0, .int 0, .int 0, .int 0])), (a2, .inr (2, [.ref a11, .ref a12, .int 0]))]) ⟨hx, hb, hml, hown, hts⟩ (fun sz => k65_X8_refuseWhatOutside l D cs sz a0 a3 a1 a4 a5) (cwV 2 hts gX8_state_X8_refuseWhatOutside rfl rfl rfl hdX8_refuseWhatOutside_v ⟨Nat.le_of_ble_eq_true rfl, Nat.le_of_ble_eq_true rfl⟩) hN hP hD hS hA [0] [1, 2] rfl rfl rfl rfl (by decide) (ci := 8) (q0 := 0) rfl rfl rfl rfl hl.1 (Nat.le_of_ble_eq_true rfl) dX8_state_4 (Nat.le_of_ble_eq_true rfl) (Nat.le_of_ble_eq_true rfl) (fun u0 H locs hP hD hS => ?_)
  have hP : va_P D vwCl [(a1, .inr (7, [.ref a6, .ref a7, .ref a2, .ref a8, .ref a9, .ref a10, .long 0, .int 0, .int 0, .int 0, .int 0, .int 0, .int 0, .int 0, .int 0, .int 0])), (a2, .inr (2, [.ref a11, .ref a12, .int 0])), (a0, .inr (8, [.ref a3, .ref a1, .ref a4, .ref a5, .int 0, .int 0, .int (-1)]))] H := hP
  have hD : va_D A [(a1, .inr (7, [.ref a6, .ref a7, .ref a2, .ref a8, .ref a9, .ref a10, .long 0, .int 0, .int 0, .int 0, .int 0, .int 0, .int 0, .int 0, .int 0, .int 0])), (a2, .inr (2, [.ref a11, .ref a12, .int 0])), (a0, .inr (8, [.ref a3, .ref a1, .ref a4, .ref a5, .int 0, .int 0, .int (-1)]))] := hD
  refine W.widen (k := 0) (n := 0) (Nat.le_of_ble_eq_true rfl) (Nat.le_of_ble_eq_true rfl) ?_
  refine lv_aload_n hx hb dX8_state_7 rfl (lv_at hl 0 rfl) ?_
  refine va_get (D := D) (ci := 8) (v := .ref a1) (C := RX8) (T := TX8) (N := 7) hx hb hts iX8_state_8 hown hN.1 hP 2 rfl rfl 1 (by decide) (hts _ mX8_state_1) (fun _ h9 => h9) rfl dX8_state_8 ?_
  refine lv_iload_n hx hb dX8_state_11 rfl (lv_at hl 1 rfl) ?_
  refine cv_i (As := [.int 3]) (rest := []) (b := a1) (wr := [(a0, .inr (8, [.ref a3, .ref a1, .ref a4, .ref a5, .int 0, .int 0, .int (-1)]))]) ⟨hx, hb, hml, hown, hts⟩ (fun sz => k66_X7_count l D cs sz a1 a2 a6 a7 a8 a9 a10 a11 a12) (cwV 1 hts gX8_state_X7_count rfl rfl rfl hdX7_count_v ⟨Nat.le_of_ble_eq_true rfl, Nat.le_of_ble_eq_true rfl⟩) hN hP hD hS hA [0, 1] [2] rfl rfl rfl rfl (by decide) (ci := 7) (q0 := 0) rfl rfl rfl rfl hl.1 (Nat.le_of_ble_eq_true rfl) dX8_state_12 (Nat.le_of_ble_eq_true rfl) (Nat.le_of_ble_eq_true rfl) (fun u1 H locs hP hD hS => ?_)
  have hP : va_P D vwCl [(a0, .inr (8, [.ref a3, .ref a1, .ref a4, .ref a5, .int 0, .int 0, .int (-1)])), (a1, .inr (7, [.ref a6, .ref a7, .ref a2, .ref a8, .ref a9, .ref a10, .long 0, .int 0, .int 0, .int 0, .int 0, .int 0, .int 0, .int 0, .int 0, .int 0])), (a2, .inr (2, [.ref a11, .ref a12, .int 0]))] H := hP
  have hD : va_D A [(a0, .inr (8, [.ref a3, .ref a1, .ref a4, .ref a5, .int 0, .int 0, .int (-1)])), (a1, .inr (7, [.ref a6, .ref a7, .ref a2, .ref a8, .ref a9, .ref a10, .long 0, .int 0, .int 0, .int 0, .int 0, .int 0, .int 0, .int 0, .int 0, .int 0])), (a2, .inr (2, [.ref a11, .ref a12, .int 0]))] := hD
  refine W.widen (k := 0) (n := 0) (Nat.le_of_ble_eq_true rfl) (Nat.le_of_ble_eq_true rfl) ?_
  exact en_i (fun k => ([] : List Nat).getD k 0) hx hb hr hlocks rfl rfl hP hD hS (Nat.le_of_ble_eq_true rfl) (Nat.le_of_ble_eq_true rfl) dX8_state_15
set_option maxHeartbeats 4000000 in
set_option maxRecDepth 100000 in
theorem k68_L_state (l : Launch) (D : va_G) (cs : Nat → ClassId) (sz : Nat) (hlt : l.stackTraces = false) (a0 a1 a2 a3 a4 a5 a6 a7 a8 a9 a10 a11 a12 a13 : Nat) : KH l yL_state wsL_state 2 43 0 0 D cs sz [.ref a0, .int 3, .ref a3] [(a0, .inr (8, [.ref a4, .ref a1, .ref a5, .ref a6, .int 0, .int 0, .int (-1)])), (a1, .inr (7, [.ref a7, .ref a8, .ref a2, .ref a9, .ref a10, .ref a11, .long 0, .int 0, .int 0, .int 0, .int 0, .int 0, .int 0, .int 0, .int 0, .int 0])), (a2, .inr (2, [.ref a12, .ref a13, .int 0])), (a3, .inl (cs 3, 1, .inr (.inl (fun _ => 0))))] (fun u => [(a3, .inl (cs 3, 1, .inr (.inl (fun _ => 0)))), (a0, .inr (8, [.ref a4, .ref a1, .ref a5, .ref a6, .int 0, .int 0, .int (-1)])), (a1, .inr (7, [.ref a7, .ref a8, .ref a2, .ref a9, .ref a10, .ref a11, .long 0, .int 0, .int 0, .int 0, .int 0, .int 0, .int 0, .int 0, .int 0, .int 0])), (a2, .inr (2, [.ref a12, .ref a13, .int 0]))]) (0) := by
  refine KH.of cL_state 4 (some .int) (by decide) rfl (Nat.le_of_ble_eq_true rfl) ?_
  intro p e s m below meth c A ls hx hb hr hml hown hts hlocks htab hP hN hD hA hS hl hZ
  have hown : s.vm.findClass RL = some m.cls := hown
  have hl : lv_has ls 4 [(0, .ref a0), (1, .int 3), (2, .ref a3)] := hl
  refine lv_aload_n hx hb dL_state_0 rfl (lv_at hl 2 rfl) ?_
  refine lv_iconst (v := 0) hx hb dL_state_1 (by decide) ?_
  refine lv_aload_n hx hb dL_state_2 rfl (lv_at hl 0 rfl) ?_
  refine lv_iload_n hx hb dL_state_3 rfl (lv_at hl 1 rfl) ?_
  refine cv_i (As := [.int 3]) (rest := [.int 0, .ref a3]) (b := a0) (wr := [(a3, .inl (cs 3, 1, .inr (.inl (fun _ => 0))))]) ⟨hx, hb, hml, hown, hts⟩ (fun sz => k67_X8_state l D cs sz a0 a1 a2 a4 a5 a6 a7 a8 a9 a10 a11 a12 a13) (cwV 1 hts gL_state_X8_state rfl rfl rfl hdX8_state_v ⟨Nat.le_of_ble_eq_true rfl, Nat.le_of_ble_eq_true rfl⟩) hN hP hD hS hA [0, 1, 2] [3] rfl rfl rfl rfl (by decide) (ci := 8) (q0 := 0) rfl rfl rfl rfl hl.1 (Nat.le_of_ble_eq_true rfl) dL_state_4 (Nat.le_of_ble_eq_true rfl) (Nat.le_of_ble_eq_true rfl) (fun u0 H locs hP hD hS => ?_)
  have hP : va_P D vwCl [(a3, .inl (cs 3, 1, .inr (.inl (fun _ => 0)))), (a0, .inr (8, [.ref a4, .ref a1, .ref a5, .ref a6, .int 0, .int 0, .int (-1)])), (a1, .inr (7, [.ref a7, .ref a8, .ref a2, .ref a9, .ref a10, .ref a11, .long 0, .int 0, .int 0, .int 0, .int 0, .int 0, .int 0, .int 0, .int 0, .int 0])), (a2, .inr (2, [.ref a12, .ref a13, .int 0]))] H := hP
  have hD : va_D A [(a3, .inl (cs 3, 1, .inr (.inl (fun _ => 0)))), (a0, .inr (8, [.ref a4, .ref a1, .ref a5, .ref a6, .int 0, .int 0, .int (-1)])), (a1, .inr (7, [.ref a7, .ref a8, .ref a2, .ref a9, .ref a10, .ref a11, .long 0, .int 0, .int 0, .int 0, .int 0, .int 0, .int 0, .int 0, .int 0, .int 0])), (a2, .inr (2, [.ref a12, .ref a13, .int 0]))] := hD
  refine W.widen (k := 0) (n := 0) (Nat.le_of_ble_eq_true rfl) (Nat.le_of_ble_eq_true rfl) ?_
  refine lv_i2l (v := 0) hx hb dL_state_7 (by decide) ?_
  refine st_l (g := (fun _ => 0)) hx hb hN hP hD hS 0 rfl (vin (by decide +kernel)) (funext (fun j9 => by unfold vp_updL; split <;> rename_i h9 <;> first | rfl | (subst h9; rfl))) dL_state_8 (fun H locs hP hD hS => ?_)
  have hP : va_P D vwCl [(a3, .inl (cs 3, 1, .inr (.inl (fun _ => 0)))), (a0, .inr (8, [.ref a4, .ref a1, .ref a5, .ref a6, .int 0, .int 0, .int (-1)])), (a1, .inr (7, [.ref a7, .ref a8, .ref a2, .ref a9, .ref a10, .ref a11, .long 0, .int 0, .int 0, .int 0, .int 0, .int 0, .int 0, .int 0, .int 0, .int 0])), (a2, .inr (2, [.ref a12, .ref a13, .int 0]))] H := hP
  have hD : va_D A [(a3, .inl (cs 3, 1, .inr (.inl (fun _ => 0)))), (a0, .inr (8, [.ref a4, .ref a1, .ref a5, .ref a6, .int 0, .int 0, .int (-1)])), (a1, .inr (7, [.ref a7, .ref a8, .ref a2, .ref a9, .ref a10, .ref a11, .long 0, .int 0, .int 0, .int 0, .int 0, .int 0, .int 0, .int 0, .int 0, .int 0])), (a2, .inr (2, [.ref a12, .ref a13, .int 0]))] := hD
  refine lv_goto (tgt := 15) hx hb dL_state_9 (by decide) ?_
  refine lv_iconst (v := 0) hx hb dL_state_15 (by decide) ?_
  exact en_i (fun k => ([] : List Nat).getD k 0) hx hb hr hlocks rfl rfl hP hD hS (Nat.le_of_ble_eq_true rfl) (Nat.le_of_ble_eq_true rfl) dL_state_16
set_option maxHeartbeats 4000000 in
set_option maxRecDepth 100000 in
theorem k69_X9_in (l : Launch) (D : va_G) (cs : Nat → ClassId) (sz : Nat) : KI l yX9_in wsX9_in 0 0 0 0 D cs sz [.int 3, .int 0, .int 12] [] (fun u => []) (1) := by
  refine KI.of cX9_in 3 (some .boolean) (by decide) rfl (Nat.le_of_ble_eq_true rfl) ?_
  intro p e s m below meth c A ls hx hb hr hml hown hts hlocks hin hP hN hD hA hS hl
  have hown : s.vm.findClass RX9 = some m.cls := hown
  have hl : lv_has ls 3 [(0, .int 3), (1, .int 0), (2, .int 12)] := hl
  refine lv_iload_n hx hb dX9_in_0 rfl (lv_at hl 0 rfl) ?_
  refine lv_iload_n hx hb dX9_in_1 rfl (lv_at hl 1 rfl) ?_
  refine lv_icmp_lt (tgt := 14) hx hb dX9_in_2 (by decide) (fun c9 => absurd c9 (by decide)) (fun _ => ?_)
  refine lv_iload_n hx hb dX9_in_5 rfl (lv_at hl 0 rfl) ?_
  refine lv_iload_n hx hb dX9_in_6 rfl (lv_at hl 2 rfl) ?_
  refine lv_icmp_gt (tgt := 14) hx hb dX9_in_7 (by decide) (fun c9 => absurd c9 (by decide)) (fun _ => ?_)
  refine lv_iconst (v := 1) hx hb dX9_in_10 (by decide) ?_
  refine lv_goto (tgt := 15) hx hb dX9_in_11 (by decide) ?_
  exact en_i (fun k => ([] : List Nat).getD k 0) hx hb hr hlocks rfl rfl hP hD hS (Nat.le_of_ble_eq_true rfl) (Nat.le_of_ble_eq_true rfl) dX9_in_15
set_option maxHeartbeats 4000000 in
set_option maxRecDepth 100000 in
theorem k70_X9_told (l : Launch) (D : va_G) (cs : Nat → ClassId) (sz : Nat) (a0 a1 a2 a3 a4 a5 a6 : Nat) : KI l yX9_told wsX9_told 0 0 0 0 D cs sz [.ref a0, .int 3] [(a0, .inr (9, [.int 0, .ref a2, .int 0, .int 0, .int 0, .int 0, .int 0, .int (-1), .ref a1, .ref a3, .ref a4, .ref a5, .int 0, .int 0, .int 0, .int 0, .int 0, .ref a6])), (a1, .inl (cs 0, 45783, .inl (layF (fun _ => 0) 1)))] (fun u => [(a0, .inr (9, [.int 0, .ref a2, .int 0, .int 0, .int 0, .int 0, .int 0, .int (-1), .ref a1, .ref a3, .ref a4, .ref a5, .int 0, .int 0, .int 0, .int 0, .int 0, .ref a6])), (a1, .inl (cs 0, 45783, .inl (layF (fun _ => 0) 1)))]) (0) := by
  refine KI.of cX9_told 2 (some .int) (by decide) rfl (Nat.le_of_ble_eq_true rfl) ?_
  intro p e s m below meth c A ls hx hb hr hml hown hts hlocks hin hP hN hD hA hS hl
  have hown : s.vm.findClass RX9 = some m.cls := hown
  have hl : lv_has ls 2 [(0, .ref a0), (1, .int 3)] := hl
  refine lv_iload_n hx hb dX9_told_0 rfl (lv_at hl 1 rfl) ?_
  refine lv_tableOut (tgt := 59) hx hb dX9_told_1 (by decide) (by decide) ?_
  refine lv_aload_n hx hb dX9_told_59 rfl (lv_at hl 0 rfl) ?_
  refine va_get (D := D) (ci := 9) (v := .ref a1) (C := RX9) (T := TX9) (N := 18) hx hb hts iX9_told_9 hown hN.1 hP 0 rfl rfl 8 (by decide) (hts _ mX9_told_1) (fun _ h9 => h9) rfl dX9_told_60 ?_
  refine lv_iload_n hx hb dX9_told_63 rfl (lv_at hl 1 rfl) ?_
  refine ld_i (v := 0) hx hb hN hP 1 rfl (vin (by decide +kernel)) (by first | rfl | decide +kernel) dX9_told_64 ?_
  exact en_i (fun k => ([] : List Nat).getD k 0) hx hb hr hlocks rfl rfl hP hD hS (Nat.le_of_ble_eq_true rfl) (Nat.le_of_ble_eq_true rfl) dX9_told_65
set_option maxHeartbeats 4000000 in
set_option maxRecDepth 100000 in
theorem k71_X9_state (l : Launch) (D : va_G) (cs : Nat → ClassId) (sz : Nat) (a0 a1 a2 a3 a4 a5 a6 : Nat) : KI l yX9_state wsX9_state 1 22 0 0 D cs sz [.ref a0, .int 3] [(a0, .inr (9, [.int 0, .ref a2, .int 0, .int 0, .int 0, .int 0, .int 0, .int (-1), .ref a1, .ref a3, .ref a4, .ref a5, .int 0, .int 0, .int 0, .int 0, .int 0, .ref a6])), (a1, .inl (cs 0, 45783, .inl (layF (fun _ => 0) 1)))] (fun u => [(a0, .inr (9, [.int 0, .ref a2, .int 0, .int 0, .int 0, .int 0, .int 0, .int (-1), .ref a1, .ref a3, .ref a4, .ref a5, .int 0, .int 0, .int 0, .int 0, .int 0, .ref a6])), (a1, .inl (cs 0, 45783, .inl (layF (fun _ => 0) 1)))]) (0) := by
  refine KI.of cX9_state 2 (some .int) (by decide) rfl (Nat.le_of_ble_eq_true rfl) ?_
  intro p e s m below meth c A ls hx hb hr hml hown hts hlocks hin hP hN hD hA hS hl
  have hown : s.vm.findClass RX9 = some m.cls := hown
  have hl : lv_has ls 2 [(0, .ref a0), (1, .int 3)] := hl
  refine lv_aload_n hx hb dX9_state_0 rfl (lv_at hl 0 rfl) ?_
  refine lv_iconst (v := 0) hx hb dX9_state_1 (by decide) ?_
  refine va_put (D := D) (ci := 9) (v := .int 0) (ty := .int) (C := RX9) (T := TX9) (N := 18) hx hb hts iX9_state_9 tyX9 tyX9_ok nmX9 hown hN.1 hP hD hS 0 rfl rfl 0 (by decide) (hts _ mX9_state_1) (fun _ h9 => h9) rfl (by decide +kernel) rfl rfl (Nat.le_of_ble_eq_true rfl) dX9_state_2 (fun H locs hP hD hS => ?_)
  have hP : va_P D vwCl [(a0, .inr (9, [.int 0, .ref a2, .int 0, .int 0, .int 0, .int 0, .int 0, .int (-1), .ref a1, .ref a3, .ref a4, .ref a5, .int 0, .int 0, .int 0, .int 0, .int 0, .ref a6])), (a1, .inl (cs 0, 45783, .inl (layF (fun _ => 0) 1)))] H := hP
  have hD : va_D A [(a0, .inr (9, [.int 0, .ref a2, .int 0, .int 0, .int 0, .int 0, .int 0, .int (-1), .ref a1, .ref a3, .ref a4, .ref a5, .int 0, .int 0, .int 0, .int 0, .int 0, .ref a6])), (a1, .inl (cs 0, 45783, .inl (layF (fun _ => 0) 1)))] := hD
  refine lv_aload_n hx hb dX9_state_5 rfl (lv_at hl 0 rfl) ?_
  refine lv_iload_n hx hb dX9_state_6 rfl (lv_at hl 1 rfl) ?_
  refine lv_iconst (v := 0) hx hb dX9_state_7 (by decide) ?_
  refine lv_bipush (v := 12) hx hb dX9_state_8 (by decide) ?_
  refine cs_i (As := [.int 3, .int 0, .int 12]) (rest := [.ref a0]) (wr := [(a0, .inr (9, [.int 0, .ref a2, .int 0, .int 0, .int 0, .int 0, .int 0, .int (-1), .ref a1, .ref a3, .ref a4, .ref a5, .int 0, .int 0, .int 0, .int 0, .int 0, .ref a6])), (a1, .inl (cs 0, 45783, .inl (layF (fun _ => 0) 1)))]) ⟨hx, hb, hml, hown, hts⟩ (fun sz => k69_X9_in l D cs sz ) (va_cwS 3 hts gX9_state_X9_in rfl rfl rfl hdX9_in_o ⟨Nat.le_of_ble_eq_true rfl, Nat.le_of_ble_eq_true rfl⟩) hN hP hD hS hA [] [0, 1] rfl rfl rfl rfl (by decide) rfl rfl hl.1 (Nat.le_of_ble_eq_true rfl) dX9_state_10 (Nat.le_of_ble_eq_true rfl) (Nat.le_of_ble_eq_true rfl) (fun u0 H locs hP hD hS => ?_)
  have hP : va_P D vwCl [(a0, .inr (9, [.int 0, .ref a2, .int 0, .int 0, .int 0, .int 0, .int 0, .int (-1), .ref a1, .ref a3, .ref a4, .ref a5, .int 0, .int 0, .int 0, .int 0, .int 0, .ref a6])), (a1, .inl (cs 0, 45783, .inl (layF (fun _ => 0) 1)))] H := hP
  have hD : va_D A [(a0, .inr (9, [.int 0, .ref a2, .int 0, .int 0, .int 0, .int 0, .int 0, .int (-1), .ref a1, .ref a3, .ref a4, .ref a5, .int 0, .int 0, .int 0, .int 0, .int 0, .ref a6])), (a1, .inl (cs 0, 45783, .inl (layF (fun _ => 0) 1)))] := hD
  refine W.widen (k := 0) (n := 0) (Nat.le_of_ble_eq_true rfl) (Nat.le_of_ble_eq_true rfl) ?_
  refine lv_if_ne (tgt := 20) hx hb dX9_state_13 (by decide) (fun _ => ?_) (fun c9 => absurd c9 (by decide))
  refine lv_iconst (v := 0) hx hb dX9_state_20 (by decide) ?_
  refine lv_iconst (v := 1) hx hb dX9_state_21 (by decide) ?_
  refine cv_i (As := [.int 0, .int 1]) (rest := []) (b := a0) (wr := [(a1, .inl (cs 0, 45783, .inl (layF (fun _ => 0) 1)))]) ⟨hx, hb, hml, hown, hts⟩ (fun sz => k47_X9_fails l D cs sz a0 a2 a1 a3 a4 a5 a6) (cwV 2 hts gX9_state_X9_fails rfl rfl rfl hdX9_fails_v ⟨Nat.le_of_ble_eq_true rfl, Nat.le_of_ble_eq_true rfl⟩) hN hP hD hS hA [0] [1] rfl rfl rfl rfl (by decide) (ci := 9) (q0 := 0) rfl rfl rfl rfl hl.1 (Nat.le_of_ble_eq_true rfl) dX9_state_22 (Nat.le_of_ble_eq_true rfl) (Nat.le_of_ble_eq_true rfl) (fun u1 H locs hP hD hS => ?_)
  have hP : va_P D vwCl [(a1, .inl (cs 0, 45783, .inl (layF (fun _ => 0) 1))), (a0, .inr (9, [.int 0, .ref a2, .int 0, .int 0, .int 0, .int 0, .int 0, .int (-1), .ref a1, .ref a3, .ref a4, .ref a5, .int 0, .int 0, .int 0, .int 0, .int 0, .ref a6]))] H := hP
  have hD : va_D A [(a1, .inl (cs 0, 45783, .inl (layF (fun _ => 0) 1))), (a0, .inr (9, [.int 0, .ref a2, .int 0, .int 0, .int 0, .int 0, .int 0, .int (-1), .ref a1, .ref a3, .ref a4, .ref a5, .int 0, .int 0, .int 0, .int 0, .int 0, .ref a6]))] := hD
  refine W.widen (k := 0) (n := 0) (Nat.le_of_ble_eq_true rfl) (Nat.le_of_ble_eq_true rfl) ?_
  refine lv_if_eq (tgt := 32) hx hb dX9_state_25 (by decide) (fun _ => ?_) (fun c9 => absurd (by decide) c9)
  refine lv_aload_n hx hb dX9_state_32 rfl (lv_at hl 0 rfl) ?_
  refine lv_iload_n hx hb dX9_state_33 rfl (lv_at hl 1 rfl) ?_
  refine cv_i (As := [.int 3]) (rest := []) (b := a0) (wr := []) ⟨hx, hb, hml, hown, hts⟩ (fun sz => k70_X9_told l D cs sz a0 a1 a2 a3 a4 a5 a6) (cwV 1 hts gX9_state_X9_told rfl rfl rfl hdX9_told_v ⟨Nat.le_of_ble_eq_true rfl, Nat.le_of_ble_eq_true rfl⟩) hN hP hD hS hA [1, 0] [] rfl rfl rfl rfl (by decide) (ci := 9) (q0 := 0) rfl rfl rfl rfl hl.1 (Nat.le_of_ble_eq_true rfl) dX9_state_34 (Nat.le_of_ble_eq_true rfl) (Nat.le_of_ble_eq_true rfl) (fun u2 H locs hP hD hS => ?_)
  have hP : va_P D vwCl [(a0, .inr (9, [.int 0, .ref a2, .int 0, .int 0, .int 0, .int 0, .int 0, .int (-1), .ref a1, .ref a3, .ref a4, .ref a5, .int 0, .int 0, .int 0, .int 0, .int 0, .ref a6])), (a1, .inl (cs 0, 45783, .inl (layF (fun _ => 0) 1)))] H := hP
  have hD : va_D A [(a0, .inr (9, [.int 0, .ref a2, .int 0, .int 0, .int 0, .int 0, .int 0, .int (-1), .ref a1, .ref a3, .ref a4, .ref a5, .int 0, .int 0, .int 0, .int 0, .int 0, .ref a6])), (a1, .inl (cs 0, 45783, .inl (layF (fun _ => 0) 1)))] := hD
  refine W.widen (k := 0) (n := 0) (Nat.le_of_ble_eq_true rfl) (Nat.le_of_ble_eq_true rfl) ?_
  exact en_i (fun k => ([] : List Nat).getD k 0) hx hb hr hlocks rfl rfl hP hD hS (Nat.le_of_ble_eq_true rfl) (Nat.le_of_ble_eq_true rfl) dX9_state_37
set_option maxHeartbeats 4000000 in
set_option maxRecDepth 100000 in
theorem law_3_3 {p : Program} {l : Launch} {e : Env} {s : State} {m : MethodId} {args : Array Value} {below : List Frame} {meth : Method} {c : Code} {Q : State → Prop} {D : va_G} {cs : Nat → ClassId} {A : Nat → Prop} {xs : Nat → Int32} {b : Nat} (hx : p.tables.exec = Jvm.exec) (hb : c.code = cL_law) (hml : c.maxLocals = 9) (hown : s.vm.findClass RL = some m.cls) (hts : ∀ w ∈ wsL_law, w.before args s = true) (hN : NK D cs s) (hX : va_X b 6 xs s s.heap) (hbl : b < s.heap.size) (hbA : ¬ A b) (hA : ∀ q : Nat, s.heap.size ≤ q → A q) (hZ : ZX A s s.heap) (hZS : ZS cs A s s.heap) (hlt : l.stackTraces = false)
    (kend : ∀ (H : Heap) (locs : List Loc) (ls : Array Slot), va_S A s.heap H locs → lv_has ls 9 [(0, .ref b), (4, .int 0)] → W p l e room_1 s m args below meth c H locs 600002 7302232 Q (F0 m 1169 ls []))
    (a0 a1 a2 a3 a4 a5 a6 a7 a8 a9 a10 a11 a12 a13 a14 a15 a16 a17 a18 a19 a20 : Nat) (hy1 : xs 1 = (3))  (H : Heap) (locs : List Loc) (ls : Array Slot) (hP : va_P D vwCl [(a0, .inr (8, [.ref a6, .ref a1, .ref a7, .ref a8, .int 0, .int 0, .int (-1)])), (a1, .inr (7, [.ref a9, .ref a10, .ref a2, .ref a11, .ref a12, .ref a13, .long 0, .int 0, .int 0, .int 0, .int 0, .int 0, .int 0, .int 0, .int 0, .int 0])), (a2, .inr (2, [.ref a14, .ref a15, .int 0])), (a3, .inr (9, [.int 0, .ref a16, .int 0, .int 0, .int 0, .int 0, .int 0, .int (-1), .ref a4, .ref a17, .ref a18, .ref a19, .int 0, .int 0, .int 0, .int 0, .int 0, .ref a20])), (a4, .inl (cs 0, 45783, .inl (layF (fun _ => 0) 1))), (a5, .inl (cs 3, 1, .inr (.inl (fun _ => 0))))] H) (hD : va_D A [(a0, .inr (8, [.ref a6, .ref a1, .ref a7, .ref a8, .int 0, .int 0, .int (-1)])), (a1, .inr (7, [.ref a9, .ref a10, .ref a2, .ref a11, .ref a12, .ref a13, .long 0, .int 0, .int 0, .int 0, .int 0, .int 0, .int 0, .int 0, .int 0, .int 0])), (a2, .inr (2, [.ref a14, .ref a15, .int 0])), (a3, .inr (9, [.int 0, .ref a16, .int 0, .int 0, .int 0, .int 0, .int 0, .int (-1), .ref a4, .ref a17, .ref a18, .ref a19, .int 0, .int 0, .int 0, .int 0, .int 0, .ref a20])), (a4, .inl (cs 0, 45783, .inl (layF (fun _ => 0) 1))), (a5, .inl (cs 3, 1, .inr (.inl (fun _ => 0))))]) (hS : va_S A s.heap H locs) (hl : lv_has ls 9 [(4, .int 0), (3, .ref a5), (2, .ref a3), (1, .ref a0), (0, .ref b)]) : W p l e room_1 s m args below meth c H locs 391 467079 Q (F0 m 278 ls []) := by
  refine lv_aload_n hx hb dL_law_278 rfl (lv_at hl 3 rfl) ?_
  refine lv_aload_n hx hb dL_law_279 rfl (lv_at hl 4 rfl) ?_
  refine lv_iload hx hb dL_law_280 (lv_at hl 0 rfl) ?_
  refine lv_iconst (v := 1) hx hb dL_law_282 (by decide) ?_
  refine lv_iadd hx hb dL_law_283 ?_
  refine tp_i (1) (by decide) ?_
  refine va_sld hx hb hX hbl hbA hS (vin (by decide +kernel)) dL_law_284 ?_
  refine tp_i (3) hy1 ?_
  refine lv_aload_n hx hb dL_law_285 rfl (lv_at hl 1 rfl) ?_
  refine ch_i (As := [.ref a0, .int 3, .ref a5]) (rest := []) (wr := [(a3, .inr (9, [.int 0, .ref a16, .int 0, .int 0, .int 0, .int 0, .int 0, .int (-1), .ref a4, .ref a17, .ref a18, .ref a19, .int 0, .int 0, .int 0, .int 0, .int 0, .ref a20])), (a4, .inl (cs 0, 45783, .inl (layF (fun _ => 0) 1)))]) ⟨hx, hb, hml, hown, hts⟩ (fun sz => k68_L_state l D cs sz hlt a0 a1 a2 a5 a6 a7 a8 a9 a10 a11 a12 a13 a14 a15) (vx_cwSW 3 hts gL_law_L_state rfl rfl rfl hdL_state_o ⟨Nat.le_of_ble_eq_true rfl, Nat.le_of_ble_eq_true rfl⟩) hN hP hD hS hA hZ [0, 1, 2, 5] [3, 4] rfl rfl rfl rfl (by decide) rfl rfl hl.1 (Nat.le_of_ble_eq_true rfl) dL_law_286 (Nat.le_of_ble_eq_true rfl) (Nat.le_of_ble_eq_true rfl) (fun u0 H locs hP hD hS => ?_)
  have hP : va_P D vwCl [(a3, .inr (9, [.int 0, .ref a16, .int 0, .int 0, .int 0, .int 0, .int 0, .int (-1), .ref a4, .ref a17, .ref a18, .ref a19, .int 0, .int 0, .int 0, .int 0, .int 0, .ref a20])), (a4, .inl (cs 0, 45783, .inl (layF (fun _ => 0) 1))), (a5, .inl (cs 3, 1, .inr (.inl (fun _ => 0)))), (a0, .inr (8, [.ref a6, .ref a1, .ref a7, .ref a8, .int 0, .int 0, .int (-1)])), (a1, .inr (7, [.ref a9, .ref a10, .ref a2, .ref a11, .ref a12, .ref a13, .long 0, .int 0, .int 0, .int 0, .int 0, .int 0, .int 0, .int 0, .int 0, .int 0])), (a2, .inr (2, [.ref a14, .ref a15, .int 0]))] H := hP
  have hD : va_D A [(a3, .inr (9, [.int 0, .ref a16, .int 0, .int 0, .int 0, .int 0, .int 0, .int (-1), .ref a4, .ref a17, .ref a18, .ref a19, .int 0, .int 0, .int 0, .int 0, .int 0, .ref a20])), (a4, .inl (cs 0, 45783, .inl (layF (fun _ => 0) 1))), (a5, .inl (cs 3, 1, .inr (.inl (fun _ => 0)))), (a0, .inr (8, [.ref a6, .ref a1, .ref a7, .ref a8, .int 0, .int 0, .int (-1)])), (a1, .inr (7, [.ref a9, .ref a10, .ref a2, .ref a11, .ref a12, .ref a13, .long 0, .int 0, .int 0, .int 0, .int 0, .int 0, .int 0, .int 0, .int 0, .int 0])), (a2, .inr (2, [.ref a14, .ref a15, .int 0]))] := hD
  refine W.widen (k := 391) (n := 467079) (Nat.le_of_ble_eq_true rfl) (Nat.le_of_ble_eq_true rfl) ?_
  refine lv_istore (lv' := [(5, .int 0), (4, .int 0), (3, .ref a5), (2, .ref a3), (1, .ref a0), (0, .ref b)]) hx hb dL_law_289 hl (by decide) rfl (fun ls hl => ?_)
  refine lv_aload_n hx hb dL_law_291 rfl (lv_at hl 3 rfl) ?_
  refine lv_aload_n hx hb dL_law_292 rfl (lv_at hl 5 rfl) ?_
  refine lv_iload hx hb dL_law_293 (lv_at hl 1 rfl) ?_
  refine lv_iconst (v := 1) hx hb dL_law_295 (by decide) ?_
  refine lv_iadd hx hb dL_law_296 ?_
  refine tp_i (1) (by decide) ?_
  refine va_sld hx hb hX hbl hbA hS (vin (by decide +kernel)) dL_law_297 ?_
  refine tp_i (3) hy1 ?_
  refine cv_i (As := [.int 3]) (rest := []) (b := a3) (wr := [(a5, .inl (cs 3, 1, .inr (.inl (fun _ => 0)))), (a0, .inr (8, [.ref a6, .ref a1, .ref a7, .ref a8, .int 0, .int 0, .int (-1)])), (a1, .inr (7, [.ref a9, .ref a10, .ref a2, .ref a11, .ref a12, .ref a13, .long 0, .int 0, .int 0, .int 0, .int 0, .int 0, .int 0, .int 0, .int 0, .int 0])), (a2, .inr (2, [.ref a14, .ref a15, .int 0]))]) ⟨hx, hb, hml, hown, hts⟩ (fun sz => k71_X9_state l D cs sz a3 a4 a16 a17 a18 a19 a20) (cwV 1 hts gL_law_X9_state rfl rfl rfl hdX9_state_v ⟨Nat.le_of_ble_eq_true rfl, Nat.le_of_ble_eq_true rfl⟩) hN hP hD hS hA [0, 1] [2, 3, 4, 5] rfl rfl rfl rfl (by decide) (ci := 9) (q0 := 0) rfl rfl rfl rfl hl.1 (Nat.le_of_ble_eq_true rfl) dL_law_298 (Nat.le_of_ble_eq_true rfl) (Nat.le_of_ble_eq_true rfl) (fun u1 H locs hP hD hS => ?_)
  have hP : va_P D vwCl [(a5, .inl (cs 3, 1, .inr (.inl (fun _ => 0)))), (a0, .inr (8, [.ref a6, .ref a1, .ref a7, .ref a8, .int 0, .int 0, .int (-1)])), (a1, .inr (7, [.ref a9, .ref a10, .ref a2, .ref a11, .ref a12, .ref a13, .long 0, .int 0, .int 0, .int 0, .int 0, .int 0, .int 0, .int 0, .int 0, .int 0])), (a2, .inr (2, [.ref a14, .ref a15, .int 0])), (a3, .inr (9, [.int 0, .ref a16, .int 0, .int 0, .int 0, .int 0, .int 0, .int (-1), .ref a4, .ref a17, .ref a18, .ref a19, .int 0, .int 0, .int 0, .int 0, .int 0, .ref a20])), (a4, .inl (cs 0, 45783, .inl (layF (fun _ => 0) 1)))] H := hP
  have hD : va_D A [(a5, .inl (cs 3, 1, .inr (.inl (fun _ => 0)))), (a0, .inr (8, [.ref a6, .ref a1, .ref a7, .ref a8, .int 0, .int 0, .int (-1)])), (a1, .inr (7, [.ref a9, .ref a10, .ref a2, .ref a11, .ref a12, .ref a13, .long 0, .int 0, .int 0, .int 0, .int 0, .int 0, .int 0, .int 0, .int 0, .int 0])), (a2, .inr (2, [.ref a14, .ref a15, .int 0])), (a3, .inr (9, [.int 0, .ref a16, .int 0, .int 0, .int 0, .int 0, .int 0, .int (-1), .ref a4, .ref a17, .ref a18, .ref a19, .int 0, .int 0, .int 0, .int 0, .int 0, .ref a20])), (a4, .inl (cs 0, 45783, .inl (layF (fun _ => 0) 1)))] := hD
  refine W.widen (k := 391) (n := 467079) (Nat.le_of_ble_eq_true rfl) (Nat.le_of_ble_eq_true rfl) ?_
  refine lv_istore (lv' := [(6, .int 0), (5, .int 0), (4, .int 0), (3, .ref a5), (2, .ref a3), (1, .ref a0), (0, .ref b)]) hx hb dL_law_301 hl (by decide) rfl (fun ls hl => ?_)
  refine lv_aload_n hx hb dL_law_303 rfl (lv_at hl 4 rfl) ?_
  refine cv_i (As := []) (rest := []) (b := a3) (wr := [(a5, .inl (cs 3, 1, .inr (.inl (fun _ => 0)))), (a0, .inr (8, [.ref a6, .ref a1, .ref a7, .ref a8, .int 0, .int 0, .int (-1)])), (a1, .inr (7, [.ref a9, .ref a10, .ref a2, .ref a11, .ref a12, .ref a13, .long 0, .int 0, .int 0, .int 0, .int 0, .int 0, .int 0, .int 0, .int 0, .int 0])), (a2, .inr (2, [.ref a14, .ref a15, .int 0])), (a4, .inl (cs 0, 45783, .inl (layF (fun _ => 0) 1)))]) ⟨hx, hb, hml, hown, hts⟩ (fun sz => k50_X9_thrown l D cs sz a3 a16 a4 a17 a18 a19 a20) (cwV 0 hts gL_law_X9_thrown rfl rfl rfl hdX9_thrown_v ⟨Nat.le_of_ble_eq_true rfl, Nat.le_of_ble_eq_true rfl⟩) hN hP hD hS hA [4] [0, 1, 2, 3, 5] rfl rfl rfl rfl (by decide) (ci := 9) (q0 := 0) rfl rfl rfl rfl hl.1 (Nat.le_of_ble_eq_true rfl) dL_law_304 (Nat.le_of_ble_eq_true rfl) (Nat.le_of_ble_eq_true rfl) (fun u2 H locs hP hD hS => ?_)
  have hP : va_P D vwCl [(a5, .inl (cs 3, 1, .inr (.inl (fun _ => 0)))), (a0, .inr (8, [.ref a6, .ref a1, .ref a7, .ref a8, .int 0, .int 0, .int (-1)])), (a1, .inr (7, [.ref a9, .ref a10, .ref a2, .ref a11, .ref a12, .ref a13, .long 0, .int 0, .int 0, .int 0, .int 0, .int 0, .int 0, .int 0, .int 0, .int 0])), (a2, .inr (2, [.ref a14, .ref a15, .int 0])), (a4, .inl (cs 0, 45783, .inl (layF (fun _ => 0) 1))), (a3, .inr (9, [.int 0, .ref a16, .int 0, .int 0, .int 0, .int 0, .int 0, .int (-1), .ref a4, .ref a17, .ref a18, .ref a19, .int 0, .int 0, .int 0, .int 0, .int 0, .ref a20]))] H := hP
  have hD : va_D A [(a5, .inl (cs 3, 1, .inr (.inl (fun _ => 0)))), (a0, .inr (8, [.ref a6, .ref a1, .ref a7, .ref a8, .int 0, .int 0, .int (-1)])), (a1, .inr (7, [.ref a9, .ref a10, .ref a2, .ref a11, .ref a12, .ref a13, .long 0, .int 0, .int 0, .int 0, .int 0, .int 0, .int 0, .int 0, .int 0, .int 0])), (a2, .inr (2, [.ref a14, .ref a15, .int 0])), (a4, .inl (cs 0, 45783, .inl (layF (fun _ => 0) 1))), (a3, .inr (9, [.int 0, .ref a16, .int 0, .int 0, .int 0, .int 0, .int 0, .int (-1), .ref a4, .ref a17, .ref a18, .ref a19, .int 0, .int 0, .int 0, .int 0, .int 0, .ref a20]))] := hD
  refine W.widen (k := 391) (n := 467079) (Nat.le_of_ble_eq_true rfl) (Nat.le_of_ble_eq_true rfl) ?_
  refine lv_iload hx hb dL_law_307 (lv_at hl 1 rfl) ?_
  refine lv_icmp_eq (tgt := 314) hx hb dL_law_309 (by decide) (fun _ => ?_) (fun c9 => absurd (by decide) c9)
  refine lv_iload hx hb dL_law_314 (lv_at hl 1 rfl) ?_
  refine lv_if_ne (tgt := 331) hx hb dL_law_316 (by decide) (fun c9 => absurd (by decide) c9) (fun _ => ?_)
  refine lv_aload_n hx hb dL_law_319 rfl (lv_at hl 3 rfl) ?_
  refine lv_iconst (v := 0) hx hb dL_law_320 (by decide) ?_
  refine ld_l (v := 0) hx hb hN hP 0 rfl (vin (by decide +kernel)) (by first | rfl | decide +kernel) dL_law_321 ?_
  refine lv_iload hx hb dL_law_322 (lv_at hl 0 rfl) ?_
  refine lv_i2l (v := 0) hx hb dL_law_324 (by decide) ?_
  refine W.lcmp hx hb dL_law_325 ?_
  refine tp_i (0) (by decide) ?_
  refine lv_if_eq (tgt := 331) hx hb dL_law_326 (by decide) (fun _ => ?_) (fun c9 => absurd (by decide) c9)
  refine lv_goto (tgt := 1169) hx hb dL_law_331 (by decide) ?_
  refine W.widen (k := 600002) (n := 7302232) (Nat.le_of_ble_eq_true rfl) (Nat.le_of_ble_eq_true rfl) ?_
  exact kend _ _ _ hS (lv_sub hl [6, 2] rfl)

set_option maxHeartbeats 4000000 in
set_option maxRecDepth 100000 in
theorem k72_X8_refuseWhatOutside (l : Launch) (D : va_G) (cs : Nat → ClassId) (sz : Nat) (a0 a1 a2 a3 a4 : Nat) : KV l yX8_refuseWhatOutside wsX8_refuseWhatOutside 0 0 0 0 D cs sz [.ref a0, .int 4, .int 12] [(a0, .inr (8, [.ref a1, .ref a2, .ref a3, .ref a4, .int 0, .int 0, .int (-1)]))] (fun u => [(a0, .inr (8, [.ref a1, .ref a2, .ref a3, .ref a4, .int 0, .int 0, .int (-1)]))]) := by
  refine KV.of cX8_refuseWhatOutside 3 none (by decide) rfl (Nat.le_of_ble_eq_true rfl) ?_
  intro p e s m below meth c A ls hx hb hr hml hown hts hlocks hin hP hN hD hA hS hl
  have hown : s.vm.findClass RX8 = some m.cls := hown
  have hl : lv_has ls 3 [(0, .ref a0), (1, .int 4), (2, .int 12)] := hl
  refine lv_iload_n hx hb dX8_refuseWhatOutside_0 rfl (lv_at hl 1 rfl) ?_
  refine lv_if_lt (tgt := 9) hx hb dX8_refuseWhatOutside_1 (by decide) (fun c9 => absurd c9 (by decide)) (fun _ => ?_)
  refine lv_iload_n hx hb dX8_refuseWhatOutside_4 rfl (lv_at hl 1 rfl) ?_
  refine lv_iload_n hx hb dX8_refuseWhatOutside_5 rfl (lv_at hl 2 rfl) ?_
  refine lv_icmp_le (tgt := 19) hx hb dX8_refuseWhatOutside_6 (by decide) (fun _ => ?_) (fun c9 => absurd (by decide) c9)
  exact en_v (fun k => ([] : List Nat).getD k 0) hx hb hr hlocks hP hD hS (Nat.le_of_ble_eq_true rfl) (Nat.le_of_ble_eq_true rfl) dX8_refuseWhatOutside_19
theorem mX7_count_5 : (.fieldLink RX7 71 "OneBeat$World" "sent" "I" : Cond) ∈ wsX7_count := List.mem_of_getElem? (i := 5) (by decide +kernel)
set_option maxHeartbeats 4000000 in
set_option maxRecDepth 100000 in
theorem k73_X7_count (l : Launch) (D : va_G) (cs : Nat → ClassId) (sz : Nat) (a0 a1 a2 a3 a4 a5 a6 : Nat) : KI l yX7_count wsX7_count 0 0 0 0 D cs sz [.ref a0, .int 4] [(a0, .inr (7, [.ref a1, .ref a2, .ref a3, .ref a4, .ref a5, .ref a6, .long 0, .int 0, .int 0, .int 0, .int 0, .int 0, .int 0, .int 0, .int 0, .int 0]))] (fun u => [(a0, .inr (7, [.ref a1, .ref a2, .ref a3, .ref a4, .ref a5, .ref a6, .long 0, .int 0, .int 0, .int 0, .int 0, .int 0, .int 0, .int 0, .int 0, .int 0]))]) (0) := by
  refine KI.of cX7_count 2 (some .int) (by decide) rfl (Nat.le_of_ble_eq_true rfl) ?_
  intro p e s m below meth c A ls hx hb hr hml hown hts hlocks hin hP hN hD hA hS hl
  have hown : s.vm.findClass RX7 = some m.cls := hown
  have hl : lv_has ls 2 [(0, .ref a0), (1, .int 4)] := hl
  refine lv_iload_n hx hb dX7_count_0 rfl (lv_at hl 1 rfl) ?_
  refine lv_tableIn (tgt := 90) (off := 89) hx hb dX7_count_1 (by decide) (by decide) (by decide) (by decide) ?_
  refine lv_aload_n hx hb dX7_count_90 rfl (lv_at hl 0 rfl) ?_
  refine va_get (D := D) (ci := 7) (v := .int 0) (C := RX7) (T := TX7) (N := 16) hx hb hts iX7_count_7 hown hN.1 hP 0 rfl rfl 9 (by decide) (hts _ mX7_count_5) (fun _ h9 => h9) rfl dX7_count_91 ?_
  exact en_i (fun k => ([] : List Nat).getD k 0) hx hb hr hlocks rfl rfl hP hD hS (Nat.le_of_ble_eq_true rfl) (Nat.le_of_ble_eq_true rfl) dX7_count_94
set_option maxHeartbeats 4000000 in
set_option maxRecDepth 100000 in
theorem k74_X8_state (l : Launch) (D : va_G) (cs : Nat → ClassId) (sz : Nat) (a0 a1 a2 a3 a4 a5 a6 a7 a8 a9 a10 : Nat) : KI l yX8_state wsX8_state 1 22 0 0 D cs sz [.ref a0, .int 4] [(a0, .inr (8, [.ref a2, .ref a1, .ref a3, .ref a4, .int 0, .int 0, .int (-1)])), (a1, .inr (7, [.ref a5, .ref a6, .ref a7, .ref a8, .ref a9, .ref a10, .long 0, .int 0, .int 0, .int 0, .int 0, .int 0, .int 0, .int 0, .int 0, .int 0]))] (fun u => [(a0, .inr (8, [.ref a2, .ref a1, .ref a3, .ref a4, .int 0, .int 0, .int (-1)])), (a1, .inr (7, [.ref a5, .ref a6, .ref a7, .ref a8, .ref a9, .ref a10, .long 0, .int 0, .int 0, .int 0, .int 0, .int 0, .int 0, .int 0, .int 0, .int 0]))]) (0) := by
  refine KI.of cX8_state 2 (some .int) (by decide) rfl (Nat.le_of_ble_eq_true rfl) ?_
  intro p e s m below meth c A ls hx hb hr hml hown hts hlocks hin hP hN hD hA hS hl
  have hown : s.vm.findClass RX8 = some m.cls := hown
  have hl : lv_has ls 2 [(0, .ref a0), (1, .int 4)] := hl
  refine lv_aload_n hx hb dX8_state_0 rfl (lv_at hl 0 rfl) ?_
  refine lv_iload_n hx hb dX8_state_1 rfl (lv_at hl 1 rfl) ?_
  refine lv_bipush (v := 12) hx hb dX8_state_2 (by decide) ?_
  refine cv_v (As := [.int 4, .int 12]) (rest := []) (b := a0) (wr := [(a1, .inr (7, [.ref a5, .ref a6, .ref a7, .ref a8, .ref a9, .ref a10, .long 0, .int 0, .int 0, .int 0, .int 0, .int 0, .int 0, .int 0, .int 0, .int 0]))]) ⟨hx, hb, hml, hown, hts⟩ (fun sz => k72_X8_refuseWhatOutside l D cs sz a0 a2 a1 a3 a4) (cwV 2 hts gX8_state_X8_refuseWhatOutside rfl rfl rfl hdX8_refuseWhatOutside_v ⟨Nat.le_of_ble_eq_true rfl, Nat.le_of_ble_eq_true rfl⟩) hN hP hD hS hA [0] [1] rfl rfl rfl rfl (by decide) (ci := 8) (q0 := 0) rfl rfl rfl rfl hl.1 (Nat.le_of_ble_eq_true rfl) dX8_state_4 (Nat.le_of_ble_eq_true rfl) (Nat.le_of_ble_eq_true rfl) (fun u0 H locs hP hD hS => ?_)
  have hP : va_P D vwCl [(a1, .inr (7, [.ref a5, .ref a6, .ref a7, .ref a8, .ref a9, .ref a10, .long 0, .int 0, .int 0, .int 0, .int 0, .int 0, .int 0, .int 0, .int 0, .int 0])), (a0, .inr (8, [.ref a2, .ref a1, .ref a3, .ref a4, .int 0, .int 0, .int (-1)]))] H := hP
  have hD : va_D A [(a1, .inr (7, [.ref a5, .ref a6, .ref a7, .ref a8, .ref a9, .ref a10, .long 0, .int 0, .int 0, .int 0, .int 0, .int 0, .int 0, .int 0, .int 0, .int 0])), (a0, .inr (8, [.ref a2, .ref a1, .ref a3, .ref a4, .int 0, .int 0, .int (-1)]))] := hD
  refine W.widen (k := 0) (n := 0) (Nat.le_of_ble_eq_true rfl) (Nat.le_of_ble_eq_true rfl) ?_
  refine lv_aload_n hx hb dX8_state_7 rfl (lv_at hl 0 rfl) ?_
  refine va_get (D := D) (ci := 8) (v := .ref a1) (C := RX8) (T := TX8) (N := 7) hx hb hts iX8_state_8 hown hN.1 hP 1 rfl rfl 1 (by decide) (hts _ mX8_state_1) (fun _ h9 => h9) rfl dX8_state_8 ?_
  refine lv_iload_n hx hb dX8_state_11 rfl (lv_at hl 1 rfl) ?_
  refine cv_i (As := [.int 4]) (rest := []) (b := a1) (wr := [(a0, .inr (8, [.ref a2, .ref a1, .ref a3, .ref a4, .int 0, .int 0, .int (-1)]))]) ⟨hx, hb, hml, hown, hts⟩ (fun sz => k73_X7_count l D cs sz a1 a5 a6 a7 a8 a9 a10) (cwV 1 hts gX8_state_X7_count rfl rfl rfl hdX7_count_v ⟨Nat.le_of_ble_eq_true rfl, Nat.le_of_ble_eq_true rfl⟩) hN hP hD hS hA [0] [1] rfl rfl rfl rfl (by decide) (ci := 7) (q0 := 0) rfl rfl rfl rfl hl.1 (Nat.le_of_ble_eq_true rfl) dX8_state_12 (Nat.le_of_ble_eq_true rfl) (Nat.le_of_ble_eq_true rfl) (fun u1 H locs hP hD hS => ?_)
  have hP : va_P D vwCl [(a0, .inr (8, [.ref a2, .ref a1, .ref a3, .ref a4, .int 0, .int 0, .int (-1)])), (a1, .inr (7, [.ref a5, .ref a6, .ref a7, .ref a8, .ref a9, .ref a10, .long 0, .int 0, .int 0, .int 0, .int 0, .int 0, .int 0, .int 0, .int 0, .int 0]))] H := hP
  have hD : va_D A [(a0, .inr (8, [.ref a2, .ref a1, .ref a3, .ref a4, .int 0, .int 0, .int (-1)])), (a1, .inr (7, [.ref a5, .ref a6, .ref a7, .ref a8, .ref a9, .ref a10, .long 0, .int 0, .int 0, .int 0, .int 0, .int 0, .int 0, .int 0, .int 0, .int 0]))] := hD
  refine W.widen (k := 0) (n := 0) (Nat.le_of_ble_eq_true rfl) (Nat.le_of_ble_eq_true rfl) ?_
  exact en_i (fun k => ([] : List Nat).getD k 0) hx hb hr hlocks rfl rfl hP hD hS (Nat.le_of_ble_eq_true rfl) (Nat.le_of_ble_eq_true rfl) dX8_state_15
set_option maxHeartbeats 4000000 in
set_option maxRecDepth 100000 in
theorem k75_L_state (l : Launch) (D : va_G) (cs : Nat → ClassId) (sz : Nat) (hlt : l.stackTraces = false) (a0 a1 a2 a3 a4 a5 a6 a7 a8 a9 a10 a11 : Nat) : KH l yL_state wsL_state 2 43 0 0 D cs sz [.ref a0, .int 4, .ref a2] [(a0, .inr (8, [.ref a3, .ref a1, .ref a4, .ref a5, .int 0, .int 0, .int (-1)])), (a1, .inr (7, [.ref a6, .ref a7, .ref a8, .ref a9, .ref a10, .ref a11, .long 0, .int 0, .int 0, .int 0, .int 0, .int 0, .int 0, .int 0, .int 0, .int 0])), (a2, .inl (cs 3, 1, .inr (.inl (fun _ => 0))))] (fun u => [(a2, .inl (cs 3, 1, .inr (.inl (fun _ => 0)))), (a0, .inr (8, [.ref a3, .ref a1, .ref a4, .ref a5, .int 0, .int 0, .int (-1)])), (a1, .inr (7, [.ref a6, .ref a7, .ref a8, .ref a9, .ref a10, .ref a11, .long 0, .int 0, .int 0, .int 0, .int 0, .int 0, .int 0, .int 0, .int 0, .int 0]))]) (0) := by
  refine KH.of cL_state 4 (some .int) (by decide) rfl (Nat.le_of_ble_eq_true rfl) ?_
  intro p e s m below meth c A ls hx hb hr hml hown hts hlocks htab hP hN hD hA hS hl hZ
  have hown : s.vm.findClass RL = some m.cls := hown
  have hl : lv_has ls 4 [(0, .ref a0), (1, .int 4), (2, .ref a2)] := hl
  refine lv_aload_n hx hb dL_state_0 rfl (lv_at hl 2 rfl) ?_
  refine lv_iconst (v := 0) hx hb dL_state_1 (by decide) ?_
  refine lv_aload_n hx hb dL_state_2 rfl (lv_at hl 0 rfl) ?_
  refine lv_iload_n hx hb dL_state_3 rfl (lv_at hl 1 rfl) ?_
  refine cv_i (As := [.int 4]) (rest := [.int 0, .ref a2]) (b := a0) (wr := [(a2, .inl (cs 3, 1, .inr (.inl (fun _ => 0))))]) ⟨hx, hb, hml, hown, hts⟩ (fun sz => k74_X8_state l D cs sz a0 a1 a3 a4 a5 a6 a7 a8 a9 a10 a11) (cwV 1 hts gL_state_X8_state rfl rfl rfl hdX8_state_v ⟨Nat.le_of_ble_eq_true rfl, Nat.le_of_ble_eq_true rfl⟩) hN hP hD hS hA [0, 1] [2] rfl rfl rfl rfl (by decide) (ci := 8) (q0 := 0) rfl rfl rfl rfl hl.1 (Nat.le_of_ble_eq_true rfl) dL_state_4 (Nat.le_of_ble_eq_true rfl) (Nat.le_of_ble_eq_true rfl) (fun u0 H locs hP hD hS => ?_)
  have hP : va_P D vwCl [(a2, .inl (cs 3, 1, .inr (.inl (fun _ => 0)))), (a0, .inr (8, [.ref a3, .ref a1, .ref a4, .ref a5, .int 0, .int 0, .int (-1)])), (a1, .inr (7, [.ref a6, .ref a7, .ref a8, .ref a9, .ref a10, .ref a11, .long 0, .int 0, .int 0, .int 0, .int 0, .int 0, .int 0, .int 0, .int 0, .int 0]))] H := hP
  have hD : va_D A [(a2, .inl (cs 3, 1, .inr (.inl (fun _ => 0)))), (a0, .inr (8, [.ref a3, .ref a1, .ref a4, .ref a5, .int 0, .int 0, .int (-1)])), (a1, .inr (7, [.ref a6, .ref a7, .ref a8, .ref a9, .ref a10, .ref a11, .long 0, .int 0, .int 0, .int 0, .int 0, .int 0, .int 0, .int 0, .int 0, .int 0]))] := hD
  refine W.widen (k := 0) (n := 0) (Nat.le_of_ble_eq_true rfl) (Nat.le_of_ble_eq_true rfl) ?_
  refine lv_i2l (v := 0) hx hb dL_state_7 (by decide) ?_
  refine st_l (g := (fun _ => 0)) hx hb hN hP hD hS 0 rfl (vin (by decide +kernel)) (funext (fun j9 => by unfold vp_updL; split <;> rename_i h9 <;> first | rfl | (subst h9; rfl))) dL_state_8 (fun H locs hP hD hS => ?_)
  have hP : va_P D vwCl [(a2, .inl (cs 3, 1, .inr (.inl (fun _ => 0)))), (a0, .inr (8, [.ref a3, .ref a1, .ref a4, .ref a5, .int 0, .int 0, .int (-1)])), (a1, .inr (7, [.ref a6, .ref a7, .ref a8, .ref a9, .ref a10, .ref a11, .long 0, .int 0, .int 0, .int 0, .int 0, .int 0, .int 0, .int 0, .int 0, .int 0]))] H := hP
  have hD : va_D A [(a2, .inl (cs 3, 1, .inr (.inl (fun _ => 0)))), (a0, .inr (8, [.ref a3, .ref a1, .ref a4, .ref a5, .int 0, .int 0, .int (-1)])), (a1, .inr (7, [.ref a6, .ref a7, .ref a8, .ref a9, .ref a10, .ref a11, .long 0, .int 0, .int 0, .int 0, .int 0, .int 0, .int 0, .int 0, .int 0, .int 0]))] := hD
  refine lv_goto (tgt := 15) hx hb dL_state_9 (by decide) ?_
  refine lv_iconst (v := 0) hx hb dL_state_15 (by decide) ?_
  exact en_i (fun k => ([] : List Nat).getD k 0) hx hb hr hlocks rfl rfl hP hD hS (Nat.le_of_ble_eq_true rfl) (Nat.le_of_ble_eq_true rfl) dL_state_16
set_option maxHeartbeats 4000000 in
set_option maxRecDepth 100000 in
theorem k76_X9_in (l : Launch) (D : va_G) (cs : Nat → ClassId) (sz : Nat) : KI l yX9_in wsX9_in 0 0 0 0 D cs sz [.int 4, .int 0, .int 12] [] (fun u => []) (1) := by
  refine KI.of cX9_in 3 (some .boolean) (by decide) rfl (Nat.le_of_ble_eq_true rfl) ?_
  intro p e s m below meth c A ls hx hb hr hml hown hts hlocks hin hP hN hD hA hS hl
  have hown : s.vm.findClass RX9 = some m.cls := hown
  have hl : lv_has ls 3 [(0, .int 4), (1, .int 0), (2, .int 12)] := hl
  refine lv_iload_n hx hb dX9_in_0 rfl (lv_at hl 0 rfl) ?_
  refine lv_iload_n hx hb dX9_in_1 rfl (lv_at hl 1 rfl) ?_
  refine lv_icmp_lt (tgt := 14) hx hb dX9_in_2 (by decide) (fun c9 => absurd c9 (by decide)) (fun _ => ?_)
  refine lv_iload_n hx hb dX9_in_5 rfl (lv_at hl 0 rfl) ?_
  refine lv_iload_n hx hb dX9_in_6 rfl (lv_at hl 2 rfl) ?_
  refine lv_icmp_gt (tgt := 14) hx hb dX9_in_7 (by decide) (fun c9 => absurd c9 (by decide)) (fun _ => ?_)
  refine lv_iconst (v := 1) hx hb dX9_in_10 (by decide) ?_
  refine lv_goto (tgt := 15) hx hb dX9_in_11 (by decide) ?_
  exact en_i (fun k => ([] : List Nat).getD k 0) hx hb hr hlocks rfl rfl hP hD hS (Nat.le_of_ble_eq_true rfl) (Nat.le_of_ble_eq_true rfl) dX9_in_15
set_option maxHeartbeats 4000000 in
set_option maxRecDepth 100000 in
theorem k77_X9_told (l : Launch) (D : va_G) (cs : Nat → ClassId) (sz : Nat) (a0 a1 a2 a3 a4 a5 a6 : Nat) : KI l yX9_told wsX9_told 0 0 0 0 D cs sz [.ref a0, .int 4] [(a0, .inr (9, [.int 0, .ref a2, .int 0, .int 0, .int 0, .int 0, .int 0, .int (-1), .ref a1, .ref a3, .ref a4, .ref a5, .int 0, .int 0, .int 0, .int 0, .int 0, .ref a6])), (a1, .inl (cs 0, 45783, .inl (layF (fun _ => 0) 1)))] (fun u => [(a0, .inr (9, [.int 0, .ref a2, .int 0, .int 0, .int 0, .int 0, .int 0, .int (-1), .ref a1, .ref a3, .ref a4, .ref a5, .int 0, .int 0, .int 0, .int 0, .int 0, .ref a6])), (a1, .inl (cs 0, 45783, .inl (layF (fun _ => 0) 1)))]) (0) := by
  refine KI.of cX9_told 2 (some .int) (by decide) rfl (Nat.le_of_ble_eq_true rfl) ?_
  intro p e s m below meth c A ls hx hb hr hml hown hts hlocks hin hP hN hD hA hS hl
  have hown : s.vm.findClass RX9 = some m.cls := hown
  have hl : lv_has ls 2 [(0, .ref a0), (1, .int 4)] := hl
  refine lv_iload_n hx hb dX9_told_0 rfl (lv_at hl 1 rfl) ?_
  refine lv_tableOut (tgt := 59) hx hb dX9_told_1 (by decide) (by decide) ?_
  refine lv_aload_n hx hb dX9_told_59 rfl (lv_at hl 0 rfl) ?_
  refine va_get (D := D) (ci := 9) (v := .ref a1) (C := RX9) (T := TX9) (N := 18) hx hb hts iX9_told_9 hown hN.1 hP 0 rfl rfl 8 (by decide) (hts _ mX9_told_1) (fun _ h9 => h9) rfl dX9_told_60 ?_
  refine lv_iload_n hx hb dX9_told_63 rfl (lv_at hl 1 rfl) ?_
  refine ld_i (v := 0) hx hb hN hP 1 rfl (vin (by decide +kernel)) (by first | rfl | decide +kernel) dX9_told_64 ?_
  exact en_i (fun k => ([] : List Nat).getD k 0) hx hb hr hlocks rfl rfl hP hD hS (Nat.le_of_ble_eq_true rfl) (Nat.le_of_ble_eq_true rfl) dX9_told_65
set_option maxHeartbeats 4000000 in
set_option maxRecDepth 100000 in
theorem k78_X9_state (l : Launch) (D : va_G) (cs : Nat → ClassId) (sz : Nat) (a0 a1 a2 a3 a4 a5 a6 : Nat) : KI l yX9_state wsX9_state 1 22 0 0 D cs sz [.ref a0, .int 4] [(a0, .inr (9, [.int 0, .ref a2, .int 0, .int 0, .int 0, .int 0, .int 0, .int (-1), .ref a1, .ref a3, .ref a4, .ref a5, .int 0, .int 0, .int 0, .int 0, .int 0, .ref a6])), (a1, .inl (cs 0, 45783, .inl (layF (fun _ => 0) 1)))] (fun u => [(a0, .inr (9, [.int 0, .ref a2, .int 0, .int 0, .int 0, .int 0, .int 0, .int (-1), .ref a1, .ref a3, .ref a4, .ref a5, .int 0, .int 0, .int 0, .int 0, .int 0, .ref a6])), (a1, .inl (cs 0, 45783, .inl (layF (fun _ => 0) 1)))]) (0) := by
  refine KI.of cX9_state 2 (some .int) (by decide) rfl (Nat.le_of_ble_eq_true rfl) ?_
  intro p e s m below meth c A ls hx hb hr hml hown hts hlocks hin hP hN hD hA hS hl
  have hown : s.vm.findClass RX9 = some m.cls := hown
  have hl : lv_has ls 2 [(0, .ref a0), (1, .int 4)] := hl
  refine lv_aload_n hx hb dX9_state_0 rfl (lv_at hl 0 rfl) ?_
  refine lv_iconst (v := 0) hx hb dX9_state_1 (by decide) ?_
  refine va_put (D := D) (ci := 9) (v := .int 0) (ty := .int) (C := RX9) (T := TX9) (N := 18) hx hb hts iX9_state_9 tyX9 tyX9_ok nmX9 hown hN.1 hP hD hS 0 rfl rfl 0 (by decide) (hts _ mX9_state_1) (fun _ h9 => h9) rfl (by decide +kernel) rfl rfl (Nat.le_of_ble_eq_true rfl) dX9_state_2 (fun H locs hP hD hS => ?_)
  have hP : va_P D vwCl [(a0, .inr (9, [.int 0, .ref a2, .int 0, .int 0, .int 0, .int 0, .int 0, .int (-1), .ref a1, .ref a3, .ref a4, .ref a5, .int 0, .int 0, .int 0, .int 0, .int 0, .ref a6])), (a1, .inl (cs 0, 45783, .inl (layF (fun _ => 0) 1)))] H := hP
  have hD : va_D A [(a0, .inr (9, [.int 0, .ref a2, .int 0, .int 0, .int 0, .int 0, .int 0, .int (-1), .ref a1, .ref a3, .ref a4, .ref a5, .int 0, .int 0, .int 0, .int 0, .int 0, .ref a6])), (a1, .inl (cs 0, 45783, .inl (layF (fun _ => 0) 1)))] := hD
  refine lv_aload_n hx hb dX9_state_5 rfl (lv_at hl 0 rfl) ?_
  refine lv_iload_n hx hb dX9_state_6 rfl (lv_at hl 1 rfl) ?_
  refine lv_iconst (v := 0) hx hb dX9_state_7 (by decide) ?_
  refine lv_bipush (v := 12) hx hb dX9_state_8 (by decide) ?_
  refine cs_i (As := [.int 4, .int 0, .int 12]) (rest := [.ref a0]) (wr := [(a0, .inr (9, [.int 0, .ref a2, .int 0, .int 0, .int 0, .int 0, .int 0, .int (-1), .ref a1, .ref a3, .ref a4, .ref a5, .int 0, .int 0, .int 0, .int 0, .int 0, .ref a6])), (a1, .inl (cs 0, 45783, .inl (layF (fun _ => 0) 1)))]) ⟨hx, hb, hml, hown, hts⟩ (fun sz => k76_X9_in l D cs sz ) (va_cwS 3 hts gX9_state_X9_in rfl rfl rfl hdX9_in_o ⟨Nat.le_of_ble_eq_true rfl, Nat.le_of_ble_eq_true rfl⟩) hN hP hD hS hA [] [0, 1] rfl rfl rfl rfl (by decide) rfl rfl hl.1 (Nat.le_of_ble_eq_true rfl) dX9_state_10 (Nat.le_of_ble_eq_true rfl) (Nat.le_of_ble_eq_true rfl) (fun u0 H locs hP hD hS => ?_)
  have hP : va_P D vwCl [(a0, .inr (9, [.int 0, .ref a2, .int 0, .int 0, .int 0, .int 0, .int 0, .int (-1), .ref a1, .ref a3, .ref a4, .ref a5, .int 0, .int 0, .int 0, .int 0, .int 0, .ref a6])), (a1, .inl (cs 0, 45783, .inl (layF (fun _ => 0) 1)))] H := hP
  have hD : va_D A [(a0, .inr (9, [.int 0, .ref a2, .int 0, .int 0, .int 0, .int 0, .int 0, .int (-1), .ref a1, .ref a3, .ref a4, .ref a5, .int 0, .int 0, .int 0, .int 0, .int 0, .ref a6])), (a1, .inl (cs 0, 45783, .inl (layF (fun _ => 0) 1)))] := hD
  refine W.widen (k := 0) (n := 0) (Nat.le_of_ble_eq_true rfl) (Nat.le_of_ble_eq_true rfl) ?_
  refine lv_if_ne (tgt := 20) hx hb dX9_state_13 (by decide) (fun _ => ?_) (fun c9 => absurd c9 (by decide))
  refine lv_iconst (v := 0) hx hb dX9_state_20 (by decide) ?_
  refine lv_iconst (v := 1) hx hb dX9_state_21 (by decide) ?_
  refine cv_i (As := [.int 0, .int 1]) (rest := []) (b := a0) (wr := [(a1, .inl (cs 0, 45783, .inl (layF (fun _ => 0) 1)))]) ⟨hx, hb, hml, hown, hts⟩ (fun sz => k47_X9_fails l D cs sz a0 a2 a1 a3 a4 a5 a6) (cwV 2 hts gX9_state_X9_fails rfl rfl rfl hdX9_fails_v ⟨Nat.le_of_ble_eq_true rfl, Nat.le_of_ble_eq_true rfl⟩) hN hP hD hS hA [0] [1] rfl rfl rfl rfl (by decide) (ci := 9) (q0 := 0) rfl rfl rfl rfl hl.1 (Nat.le_of_ble_eq_true rfl) dX9_state_22 (Nat.le_of_ble_eq_true rfl) (Nat.le_of_ble_eq_true rfl) (fun u1 H locs hP hD hS => ?_)
  have hP : va_P D vwCl [(a1, .inl (cs 0, 45783, .inl (layF (fun _ => 0) 1))), (a0, .inr (9, [.int 0, .ref a2, .int 0, .int 0, .int 0, .int 0, .int 0, .int (-1), .ref a1, .ref a3, .ref a4, .ref a5, .int 0, .int 0, .int 0, .int 0, .int 0, .ref a6]))] H := hP
  have hD : va_D A [(a1, .inl (cs 0, 45783, .inl (layF (fun _ => 0) 1))), (a0, .inr (9, [.int 0, .ref a2, .int 0, .int 0, .int 0, .int 0, .int 0, .int (-1), .ref a1, .ref a3, .ref a4, .ref a5, .int 0, .int 0, .int 0, .int 0, .int 0, .ref a6]))] := hD
  refine W.widen (k := 0) (n := 0) (Nat.le_of_ble_eq_true rfl) (Nat.le_of_ble_eq_true rfl) ?_
  refine lv_if_eq (tgt := 32) hx hb dX9_state_25 (by decide) (fun _ => ?_) (fun c9 => absurd (by decide) c9)
  refine lv_aload_n hx hb dX9_state_32 rfl (lv_at hl 0 rfl) ?_
  refine lv_iload_n hx hb dX9_state_33 rfl (lv_at hl 1 rfl) ?_
  refine cv_i (As := [.int 4]) (rest := []) (b := a0) (wr := []) ⟨hx, hb, hml, hown, hts⟩ (fun sz => k77_X9_told l D cs sz a0 a1 a2 a3 a4 a5 a6) (cwV 1 hts gX9_state_X9_told rfl rfl rfl hdX9_told_v ⟨Nat.le_of_ble_eq_true rfl, Nat.le_of_ble_eq_true rfl⟩) hN hP hD hS hA [1, 0] [] rfl rfl rfl rfl (by decide) (ci := 9) (q0 := 0) rfl rfl rfl rfl hl.1 (Nat.le_of_ble_eq_true rfl) dX9_state_34 (Nat.le_of_ble_eq_true rfl) (Nat.le_of_ble_eq_true rfl) (fun u2 H locs hP hD hS => ?_)
  have hP : va_P D vwCl [(a0, .inr (9, [.int 0, .ref a2, .int 0, .int 0, .int 0, .int 0, .int 0, .int (-1), .ref a1, .ref a3, .ref a4, .ref a5, .int 0, .int 0, .int 0, .int 0, .int 0, .ref a6])), (a1, .inl (cs 0, 45783, .inl (layF (fun _ => 0) 1)))] H := hP
  have hD : va_D A [(a0, .inr (9, [.int 0, .ref a2, .int 0, .int 0, .int 0, .int 0, .int 0, .int (-1), .ref a1, .ref a3, .ref a4, .ref a5, .int 0, .int 0, .int 0, .int 0, .int 0, .ref a6])), (a1, .inl (cs 0, 45783, .inl (layF (fun _ => 0) 1)))] := hD
  refine W.widen (k := 0) (n := 0) (Nat.le_of_ble_eq_true rfl) (Nat.le_of_ble_eq_true rfl) ?_
  exact en_i (fun k => ([] : List Nat).getD k 0) hx hb hr hlocks rfl rfl hP hD hS (Nat.le_of_ble_eq_true rfl) (Nat.le_of_ble_eq_true rfl) dX9_state_37
set_option maxHeartbeats 4000000 in
set_option maxRecDepth 100000 in
theorem law_3_4 {p : Program} {l : Launch} {e : Env} {s : State} {m : MethodId} {args : Array Value} {below : List Frame} {meth : Method} {c : Code} {Q : State → Prop} {D : va_G} {cs : Nat → ClassId} {A : Nat → Prop} {xs : Nat → Int32} {b : Nat} (hx : p.tables.exec = Jvm.exec) (hb : c.code = cL_law) (hml : c.maxLocals = 9) (hown : s.vm.findClass RL = some m.cls) (hts : ∀ w ∈ wsL_law, w.before args s = true) (hN : NK D cs s) (hX : va_X b 6 xs s s.heap) (hbl : b < s.heap.size) (hbA : ¬ A b) (hA : ∀ q : Nat, s.heap.size ≤ q → A q) (hZ : ZX A s s.heap) (hZS : ZS cs A s s.heap) (hlt : l.stackTraces = false)
    (kend : ∀ (H : Heap) (locs : List Loc) (ls : Array Slot), va_S A s.heap H locs → lv_has ls 9 [(0, .ref b), (4, .int 0)] → W p l e room_1 s m args below meth c H locs 600002 7302232 Q (F0 m 1169 ls []))
    (a0 a1 a2 a3 a4 a5 a6 a7 a8 a9 a10 a11 a12 a13 a14 a15 a16 a17 a18 : Nat) (hy1 : xs 1 = (4))  (H : Heap) (locs : List Loc) (ls : Array Slot) (hP : va_P D vwCl [(a0, .inr (8, [.ref a5, .ref a1, .ref a6, .ref a7, .int 0, .int 0, .int (-1)])), (a1, .inr (7, [.ref a8, .ref a9, .ref a10, .ref a11, .ref a12, .ref a13, .long 0, .int 0, .int 0, .int 0, .int 0, .int 0, .int 0, .int 0, .int 0, .int 0])), (a2, .inr (9, [.int 0, .ref a14, .int 0, .int 0, .int 0, .int 0, .int 0, .int (-1), .ref a3, .ref a15, .ref a16, .ref a17, .int 0, .int 0, .int 0, .int 0, .int 0, .ref a18])), (a3, .inl (cs 0, 45783, .inl (layF (fun _ => 0) 1))), (a4, .inl (cs 3, 1, .inr (.inl (fun _ => 0))))] H) (hD : va_D A [(a0, .inr (8, [.ref a5, .ref a1, .ref a6, .ref a7, .int 0, .int 0, .int (-1)])), (a1, .inr (7, [.ref a8, .ref a9, .ref a10, .ref a11, .ref a12, .ref a13, .long 0, .int 0, .int 0, .int 0, .int 0, .int 0, .int 0, .int 0, .int 0, .int 0])), (a2, .inr (9, [.int 0, .ref a14, .int 0, .int 0, .int 0, .int 0, .int 0, .int (-1), .ref a3, .ref a15, .ref a16, .ref a17, .int 0, .int 0, .int 0, .int 0, .int 0, .ref a18])), (a3, .inl (cs 0, 45783, .inl (layF (fun _ => 0) 1))), (a4, .inl (cs 3, 1, .inr (.inl (fun _ => 0))))]) (hS : va_S A s.heap H locs) (hl : lv_has ls 9 [(4, .int 0), (3, .ref a4), (2, .ref a2), (1, .ref a0), (0, .ref b)]) : W p l e room_1 s m args below meth c H locs 391 467079 Q (F0 m 278 ls []) := by
  refine lv_aload_n hx hb dL_law_278 rfl (lv_at hl 3 rfl) ?_
  refine lv_aload_n hx hb dL_law_279 rfl (lv_at hl 4 rfl) ?_
  refine lv_iload hx hb dL_law_280 (lv_at hl 0 rfl) ?_
  refine lv_iconst (v := 1) hx hb dL_law_282 (by decide) ?_
  refine lv_iadd hx hb dL_law_283 ?_
  refine tp_i (1) (by decide) ?_
  refine va_sld hx hb hX hbl hbA hS (vin (by decide +kernel)) dL_law_284 ?_
  refine tp_i (4) hy1 ?_
  refine lv_aload_n hx hb dL_law_285 rfl (lv_at hl 1 rfl) ?_
  refine ch_i (As := [.ref a0, .int 4, .ref a4]) (rest := []) (wr := [(a2, .inr (9, [.int 0, .ref a14, .int 0, .int 0, .int 0, .int 0, .int 0, .int (-1), .ref a3, .ref a15, .ref a16, .ref a17, .int 0, .int 0, .int 0, .int 0, .int 0, .ref a18])), (a3, .inl (cs 0, 45783, .inl (layF (fun _ => 0) 1)))]) ⟨hx, hb, hml, hown, hts⟩ (fun sz => k75_L_state l D cs sz hlt a0 a1 a4 a5 a6 a7 a8 a9 a10 a11 a12 a13) (vx_cwSW 3 hts gL_law_L_state rfl rfl rfl hdL_state_o ⟨Nat.le_of_ble_eq_true rfl, Nat.le_of_ble_eq_true rfl⟩) hN hP hD hS hA hZ [0, 1, 4] [2, 3] rfl rfl rfl rfl (by decide) rfl rfl hl.1 (Nat.le_of_ble_eq_true rfl) dL_law_286 (Nat.le_of_ble_eq_true rfl) (Nat.le_of_ble_eq_true rfl) (fun u0 H locs hP hD hS => ?_)
  have hP : va_P D vwCl [(a2, .inr (9, [.int 0, .ref a14, .int 0, .int 0, .int 0, .int 0, .int 0, .int (-1), .ref a3, .ref a15, .ref a16, .ref a17, .int 0, .int 0, .int 0, .int 0, .int 0, .ref a18])), (a3, .inl (cs 0, 45783, .inl (layF (fun _ => 0) 1))), (a4, .inl (cs 3, 1, .inr (.inl (fun _ => 0)))), (a0, .inr (8, [.ref a5, .ref a1, .ref a6, .ref a7, .int 0, .int 0, .int (-1)])), (a1, .inr (7, [.ref a8, .ref a9, .ref a10, .ref a11, .ref a12, .ref a13, .long 0, .int 0, .int 0, .int 0, .int 0, .int 0, .int 0, .int 0, .int 0, .int 0]))] H := hP
  have hD : va_D A [(a2, .inr (9, [.int 0, .ref a14, .int 0, .int 0, .int 0, .int 0, .int 0, .int (-1), .ref a3, .ref a15, .ref a16, .ref a17, .int 0, .int 0, .int 0, .int 0, .int 0, .ref a18])), (a3, .inl (cs 0, 45783, .inl (layF (fun _ => 0) 1))), (a4, .inl (cs 3, 1, .inr (.inl (fun _ => 0)))), (a0, .inr (8, [.ref a5, .ref a1, .ref a6, .ref a7, .int 0, .int 0, .int (-1)])), (a1, .inr (7, [.ref a8, .ref a9, .ref a10, .ref a11, .ref a12, .ref a13, .long 0, .int 0, .int 0, .int 0, .int 0, .int 0, .int 0, .int 0, .int 0, .int 0]))] := hD
  refine W.widen (k := 391) (n := 467079) (Nat.le_of_ble_eq_true rfl) (Nat.le_of_ble_eq_true rfl) ?_
  refine lv_istore (lv' := [(5, .int 0), (4, .int 0), (3, .ref a4), (2, .ref a2), (1, .ref a0), (0, .ref b)]) hx hb dL_law_289 hl (by decide) rfl (fun ls hl => ?_)
  refine lv_aload_n hx hb dL_law_291 rfl (lv_at hl 3 rfl) ?_
  refine lv_aload_n hx hb dL_law_292 rfl (lv_at hl 5 rfl) ?_
  refine lv_iload hx hb dL_law_293 (lv_at hl 1 rfl) ?_
  refine lv_iconst (v := 1) hx hb dL_law_295 (by decide) ?_
  refine lv_iadd hx hb dL_law_296 ?_
  refine tp_i (1) (by decide) ?_
  refine va_sld hx hb hX hbl hbA hS (vin (by decide +kernel)) dL_law_297 ?_
  refine tp_i (4) hy1 ?_
  refine cv_i (As := [.int 4]) (rest := []) (b := a2) (wr := [(a4, .inl (cs 3, 1, .inr (.inl (fun _ => 0)))), (a0, .inr (8, [.ref a5, .ref a1, .ref a6, .ref a7, .int 0, .int 0, .int (-1)])), (a1, .inr (7, [.ref a8, .ref a9, .ref a10, .ref a11, .ref a12, .ref a13, .long 0, .int 0, .int 0, .int 0, .int 0, .int 0, .int 0, .int 0, .int 0, .int 0]))]) ⟨hx, hb, hml, hown, hts⟩ (fun sz => k78_X9_state l D cs sz a2 a3 a14 a15 a16 a17 a18) (cwV 1 hts gL_law_X9_state rfl rfl rfl hdX9_state_v ⟨Nat.le_of_ble_eq_true rfl, Nat.le_of_ble_eq_true rfl⟩) hN hP hD hS hA [0, 1] [2, 3, 4] rfl rfl rfl rfl (by decide) (ci := 9) (q0 := 0) rfl rfl rfl rfl hl.1 (Nat.le_of_ble_eq_true rfl) dL_law_298 (Nat.le_of_ble_eq_true rfl) (Nat.le_of_ble_eq_true rfl) (fun u1 H locs hP hD hS => ?_)
  have hP : va_P D vwCl [(a4, .inl (cs 3, 1, .inr (.inl (fun _ => 0)))), (a0, .inr (8, [.ref a5, .ref a1, .ref a6, .ref a7, .int 0, .int 0, .int (-1)])), (a1, .inr (7, [.ref a8, .ref a9, .ref a10, .ref a11, .ref a12, .ref a13, .long 0, .int 0, .int 0, .int 0, .int 0, .int 0, .int 0, .int 0, .int 0, .int 0])), (a2, .inr (9, [.int 0, .ref a14, .int 0, .int 0, .int 0, .int 0, .int 0, .int (-1), .ref a3, .ref a15, .ref a16, .ref a17, .int 0, .int 0, .int 0, .int 0, .int 0, .ref a18])), (a3, .inl (cs 0, 45783, .inl (layF (fun _ => 0) 1)))] H := hP
  have hD : va_D A [(a4, .inl (cs 3, 1, .inr (.inl (fun _ => 0)))), (a0, .inr (8, [.ref a5, .ref a1, .ref a6, .ref a7, .int 0, .int 0, .int (-1)])), (a1, .inr (7, [.ref a8, .ref a9, .ref a10, .ref a11, .ref a12, .ref a13, .long 0, .int 0, .int 0, .int 0, .int 0, .int 0, .int 0, .int 0, .int 0, .int 0])), (a2, .inr (9, [.int 0, .ref a14, .int 0, .int 0, .int 0, .int 0, .int 0, .int (-1), .ref a3, .ref a15, .ref a16, .ref a17, .int 0, .int 0, .int 0, .int 0, .int 0, .ref a18])), (a3, .inl (cs 0, 45783, .inl (layF (fun _ => 0) 1)))] := hD
  refine W.widen (k := 391) (n := 467079) (Nat.le_of_ble_eq_true rfl) (Nat.le_of_ble_eq_true rfl) ?_
  refine lv_istore (lv' := [(6, .int 0), (5, .int 0), (4, .int 0), (3, .ref a4), (2, .ref a2), (1, .ref a0), (0, .ref b)]) hx hb dL_law_301 hl (by decide) rfl (fun ls hl => ?_)
  refine lv_aload_n hx hb dL_law_303 rfl (lv_at hl 4 rfl) ?_
  refine cv_i (As := []) (rest := []) (b := a2) (wr := [(a4, .inl (cs 3, 1, .inr (.inl (fun _ => 0)))), (a0, .inr (8, [.ref a5, .ref a1, .ref a6, .ref a7, .int 0, .int 0, .int (-1)])), (a1, .inr (7, [.ref a8, .ref a9, .ref a10, .ref a11, .ref a12, .ref a13, .long 0, .int 0, .int 0, .int 0, .int 0, .int 0, .int 0, .int 0, .int 0, .int 0])), (a3, .inl (cs 0, 45783, .inl (layF (fun _ => 0) 1)))]) ⟨hx, hb, hml, hown, hts⟩ (fun sz => k50_X9_thrown l D cs sz a2 a14 a3 a15 a16 a17 a18) (cwV 0 hts gL_law_X9_thrown rfl rfl rfl hdX9_thrown_v ⟨Nat.le_of_ble_eq_true rfl, Nat.le_of_ble_eq_true rfl⟩) hN hP hD hS hA [3] [0, 1, 2, 4] rfl rfl rfl rfl (by decide) (ci := 9) (q0 := 0) rfl rfl rfl rfl hl.1 (Nat.le_of_ble_eq_true rfl) dL_law_304 (Nat.le_of_ble_eq_true rfl) (Nat.le_of_ble_eq_true rfl) (fun u2 H locs hP hD hS => ?_)
  have hP : va_P D vwCl [(a4, .inl (cs 3, 1, .inr (.inl (fun _ => 0)))), (a0, .inr (8, [.ref a5, .ref a1, .ref a6, .ref a7, .int 0, .int 0, .int (-1)])), (a1, .inr (7, [.ref a8, .ref a9, .ref a10, .ref a11, .ref a12, .ref a13, .long 0, .int 0, .int 0, .int 0, .int 0, .int 0, .int 0, .int 0, .int 0, .int 0])), (a3, .inl (cs 0, 45783, .inl (layF (fun _ => 0) 1))), (a2, .inr (9, [.int 0, .ref a14, .int 0, .int 0, .int 0, .int 0, .int 0, .int (-1), .ref a3, .ref a15, .ref a16, .ref a17, .int 0, .int 0, .int 0, .int 0, .int 0, .ref a18]))] H := hP
  have hD : va_D A [(a4, .inl (cs 3, 1, .inr (.inl (fun _ => 0)))), (a0, .inr (8, [.ref a5, .ref a1, .ref a6, .ref a7, .int 0, .int 0, .int (-1)])), (a1, .inr (7, [.ref a8, .ref a9, .ref a10, .ref a11, .ref a12, .ref a13, .long 0, .int 0, .int 0, .int 0, .int 0, .int 0, .int 0, .int 0, .int 0, .int 0])), (a3, .inl (cs 0, 45783, .inl (layF (fun _ => 0) 1))), (a2, .inr (9, [.int 0, .ref a14, .int 0, .int 0, .int 0, .int 0, .int 0, .int (-1), .ref a3, .ref a15, .ref a16, .ref a17, .int 0, .int 0, .int 0, .int 0, .int 0, .ref a18]))] := hD
  refine W.widen (k := 391) (n := 467079) (Nat.le_of_ble_eq_true rfl) (Nat.le_of_ble_eq_true rfl) ?_
  refine lv_iload hx hb dL_law_307 (lv_at hl 1 rfl) ?_
  refine lv_icmp_eq (tgt := 314) hx hb dL_law_309 (by decide) (fun _ => ?_) (fun c9 => absurd (by decide) c9)
  refine lv_iload hx hb dL_law_314 (lv_at hl 1 rfl) ?_
  refine lv_if_ne (tgt := 331) hx hb dL_law_316 (by decide) (fun c9 => absurd (by decide) c9) (fun _ => ?_)
  refine lv_aload_n hx hb dL_law_319 rfl (lv_at hl 3 rfl) ?_
  refine lv_iconst (v := 0) hx hb dL_law_320 (by decide) ?_
  refine ld_l (v := 0) hx hb hN hP 0 rfl (vin (by decide +kernel)) (by first | rfl | decide +kernel) dL_law_321 ?_
  refine lv_iload hx hb dL_law_322 (lv_at hl 0 rfl) ?_
  refine lv_i2l (v := 0) hx hb dL_law_324 (by decide) ?_
  refine W.lcmp hx hb dL_law_325 ?_
  refine tp_i (0) (by decide) ?_
  refine lv_if_eq (tgt := 331) hx hb dL_law_326 (by decide) (fun _ => ?_) (fun c9 => absurd (by decide) c9)
  refine lv_goto (tgt := 1169) hx hb dL_law_331 (by decide) ?_
  refine W.widen (k := 600002) (n := 7302232) (Nat.le_of_ble_eq_true rfl) (Nat.le_of_ble_eq_true rfl) ?_
  exact kend _ _ _ hS (lv_sub hl [6, 2] rfl)

set_option maxHeartbeats 4000000 in
set_option maxRecDepth 100000 in
theorem k79_X8_refuseWhatOutside (l : Launch) (D : va_G) (cs : Nat → ClassId) (sz : Nat) (a0 a1 a2 a3 a4 : Nat) : KV l yX8_refuseWhatOutside wsX8_refuseWhatOutside 0 0 0 0 D cs sz [.ref a0, .int 5, .int 12] [(a0, .inr (8, [.ref a1, .ref a2, .ref a3, .ref a4, .int 0, .int 0, .int (-1)]))] (fun u => [(a0, .inr (8, [.ref a1, .ref a2, .ref a3, .ref a4, .int 0, .int 0, .int (-1)]))]) := by
  refine KV.of cX8_refuseWhatOutside 3 none (by decide) rfl (Nat.le_of_ble_eq_true rfl) ?_
  intro p e s m below meth c A ls hx hb hr hml hown hts hlocks hin hP hN hD hA hS hl
  have hown : s.vm.findClass RX8 = some m.cls := hown
  have hl : lv_has ls 3 [(0, .ref a0), (1, .int 5), (2, .int 12)] := hl
  refine lv_iload_n hx hb dX8_refuseWhatOutside_0 rfl (lv_at hl 1 rfl) ?_
  refine lv_if_lt (tgt := 9) hx hb dX8_refuseWhatOutside_1 (by decide) (fun c9 => absurd c9 (by decide)) (fun _ => ?_)
  refine lv_iload_n hx hb dX8_refuseWhatOutside_4 rfl (lv_at hl 1 rfl) ?_
  refine lv_iload_n hx hb dX8_refuseWhatOutside_5 rfl (lv_at hl 2 rfl) ?_
  refine lv_icmp_le (tgt := 19) hx hb dX8_refuseWhatOutside_6 (by decide) (fun _ => ?_) (fun c9 => absurd (by decide) c9)
  exact en_v (fun k => ([] : List Nat).getD k 0) hx hb hr hlocks hP hD hS (Nat.le_of_ble_eq_true rfl) (Nat.le_of_ble_eq_true rfl) dX8_refuseWhatOutside_19
theorem mX7_count_6 : (.fieldLink RX7 74 "OneBeat$World" "lost" "I" : Cond) ∈ wsX7_count := List.mem_of_getElem? (i := 6) (by decide +kernel)
set_option maxHeartbeats 4000000 in
set_option maxRecDepth 100000 in
theorem k80_X7_count (l : Launch) (D : va_G) (cs : Nat → ClassId) (sz : Nat) (a0 a1 a2 a3 a4 a5 a6 : Nat) : KI l yX7_count wsX7_count 0 0 0 0 D cs sz [.ref a0, .int 5] [(a0, .inr (7, [.ref a1, .ref a2, .ref a3, .ref a4, .ref a5, .ref a6, .long 0, .int 0, .int 0, .int 0, .int 0, .int 0, .int 0, .int 0, .int 0, .int 0]))] (fun u => [(a0, .inr (7, [.ref a1, .ref a2, .ref a3, .ref a4, .ref a5, .ref a6, .long 0, .int 0, .int 0, .int 0, .int 0, .int 0, .int 0, .int 0, .int 0, .int 0]))]) (0) := by
  refine KI.of cX7_count 2 (some .int) (by decide) rfl (Nat.le_of_ble_eq_true rfl) ?_
  intro p e s m below meth c A ls hx hb hr hml hown hts hlocks hin hP hN hD hA hS hl
  have hown : s.vm.findClass RX7 = some m.cls := hown
  have hl : lv_has ls 2 [(0, .ref a0), (1, .int 5)] := hl
  refine lv_iload_n hx hb dX7_count_0 rfl (lv_at hl 1 rfl) ?_
  refine lv_tableIn (tgt := 95) (off := 94) hx hb dX7_count_1 (by decide) (by decide) (by decide) (by decide) ?_
  refine lv_aload_n hx hb dX7_count_95 rfl (lv_at hl 0 rfl) ?_
  refine va_get (D := D) (ci := 7) (v := .int 0) (C := RX7) (T := TX7) (N := 16) hx hb hts iX7_count_7 hown hN.1 hP 0 rfl rfl 10 (by decide) (hts _ mX7_count_6) (fun _ h9 => h9) rfl dX7_count_96 ?_
  exact en_i (fun k => ([] : List Nat).getD k 0) hx hb hr hlocks rfl rfl hP hD hS (Nat.le_of_ble_eq_true rfl) (Nat.le_of_ble_eq_true rfl) dX7_count_99
set_option maxHeartbeats 4000000 in
set_option maxRecDepth 100000 in
theorem k81_X8_state (l : Launch) (D : va_G) (cs : Nat → ClassId) (sz : Nat) (a0 a1 a2 a3 a4 a5 a6 a7 a8 a9 a10 : Nat) : KI l yX8_state wsX8_state 1 22 0 0 D cs sz [.ref a0, .int 5] [(a0, .inr (8, [.ref a2, .ref a1, .ref a3, .ref a4, .int 0, .int 0, .int (-1)])), (a1, .inr (7, [.ref a5, .ref a6, .ref a7, .ref a8, .ref a9, .ref a10, .long 0, .int 0, .int 0, .int 0, .int 0, .int 0, .int 0, .int 0, .int 0, .int 0]))] (fun u => [(a0, .inr (8, [.ref a2, .ref a1, .ref a3, .ref a4, .int 0, .int 0, .int (-1)])), (a1, .inr (7, [.ref a5, .ref a6, .ref a7, .ref a8, .ref a9, .ref a10, .long 0, .int 0, .int 0, .int 0, .int 0, .int 0, .int 0, .int 0, .int 0, .int 0]))]) (0) := by
  refine KI.of cX8_state 2 (some .int) (by decide) rfl (Nat.le_of_ble_eq_true rfl) ?_
  intro p e s m below meth c A ls hx hb hr hml hown hts hlocks hin hP hN hD hA hS hl
  have hown : s.vm.findClass RX8 = some m.cls := hown
  have hl : lv_has ls 2 [(0, .ref a0), (1, .int 5)] := hl
  refine lv_aload_n hx hb dX8_state_0 rfl (lv_at hl 0 rfl) ?_
  refine lv_iload_n hx hb dX8_state_1 rfl (lv_at hl 1 rfl) ?_
  refine lv_bipush (v := 12) hx hb dX8_state_2 (by decide) ?_
  refine cv_v (As := [.int 5, .int 12]) (rest := []) (b := a0) (wr := [(a1, .inr (7, [.ref a5, .ref a6, .ref a7, .ref a8, .ref a9, .ref a10, .long 0, .int 0, .int 0, .int 0, .int 0, .int 0, .int 0, .int 0, .int 0, .int 0]))]) ⟨hx, hb, hml, hown, hts⟩ (fun sz => k79_X8_refuseWhatOutside l D cs sz a0 a2 a1 a3 a4) (cwV 2 hts gX8_state_X8_refuseWhatOutside rfl rfl rfl hdX8_refuseWhatOutside_v ⟨Nat.le_of_ble_eq_true rfl, Nat.le_of_ble_eq_true rfl⟩) hN hP hD hS hA [0] [1] rfl rfl rfl rfl (by decide) (ci := 8) (q0 := 0) rfl rfl rfl rfl hl.1 (Nat.le_of_ble_eq_true rfl) dX8_state_4 (Nat.le_of_ble_eq_true rfl) (Nat.le_of_ble_eq_true rfl) (fun u0 H locs hP hD hS => ?_)
  have hP : va_P D vwCl [(a1, .inr (7, [.ref a5, .ref a6, .ref a7, .ref a8, .ref a9, .ref a10, .long 0, .int 0, .int 0, .int 0, .int 0, .int 0, .int 0, .int 0, .int 0, .int 0])), (a0, .inr (8, [.ref a2, .ref a1, .ref a3, .ref a4, .int 0, .int 0, .int (-1)]))] H := hP
  have hD : va_D A [(a1, .inr (7, [.ref a5, .ref a6, .ref a7, .ref a8, .ref a9, .ref a10, .long 0, .int 0, .int 0, .int 0, .int 0, .int 0, .int 0, .int 0, .int 0, .int 0])), (a0, .inr (8, [.ref a2, .ref a1, .ref a3, .ref a4, .int 0, .int 0, .int (-1)]))] := hD
  refine W.widen (k := 0) (n := 0) (Nat.le_of_ble_eq_true rfl) (Nat.le_of_ble_eq_true rfl) ?_
  refine lv_aload_n hx hb dX8_state_7 rfl (lv_at hl 0 rfl) ?_
  refine va_get (D := D) (ci := 8) (v := .ref a1) (C := RX8) (T := TX8) (N := 7) hx hb hts iX8_state_8 hown hN.1 hP 1 rfl rfl 1 (by decide) (hts _ mX8_state_1) (fun _ h9 => h9) rfl dX8_state_8 ?_
  refine lv_iload_n hx hb dX8_state_11 rfl (lv_at hl 1 rfl) ?_
  refine cv_i (As := [.int 5]) (rest := []) (b := a1) (wr := [(a0, .inr (8, [.ref a2, .ref a1, .ref a3, .ref a4, .int 0, .int 0, .int (-1)]))]) ⟨hx, hb, hml, hown, hts⟩ (fun sz => k80_X7_count l D cs sz a1 a5 a6 a7 a8 a9 a10) (cwV 1 hts gX8_state_X7_count rfl rfl rfl hdX7_count_v ⟨Nat.le_of_ble_eq_true rfl, Nat.le_of_ble_eq_true rfl⟩) hN hP hD hS hA [0] [1] rfl rfl rfl rfl (by decide) (ci := 7) (q0 := 0) rfl rfl rfl rfl hl.1 (Nat.le_of_ble_eq_true rfl) dX8_state_12 (Nat.le_of_ble_eq_true rfl) (Nat.le_of_ble_eq_true rfl) (fun u1 H locs hP hD hS => ?_)
  have hP : va_P D vwCl [(a0, .inr (8, [.ref a2, .ref a1, .ref a3, .ref a4, .int 0, .int 0, .int (-1)])), (a1, .inr (7, [.ref a5, .ref a6, .ref a7, .ref a8, .ref a9, .ref a10, .long 0, .int 0, .int 0, .int 0, .int 0, .int 0, .int 0, .int 0, .int 0, .int 0]))] H := hP
  have hD : va_D A [(a0, .inr (8, [.ref a2, .ref a1, .ref a3, .ref a4, .int 0, .int 0, .int (-1)])), (a1, .inr (7, [.ref a5, .ref a6, .ref a7, .ref a8, .ref a9, .ref a10, .long 0, .int 0, .int 0, .int 0, .int 0, .int 0, .int 0, .int 0, .int 0, .int 0]))] := hD
  refine W.widen (k := 0) (n := 0) (Nat.le_of_ble_eq_true rfl) (Nat.le_of_ble_eq_true rfl) ?_
  exact en_i (fun k => ([] : List Nat).getD k 0) hx hb hr hlocks rfl rfl hP hD hS (Nat.le_of_ble_eq_true rfl) (Nat.le_of_ble_eq_true rfl) dX8_state_15
set_option maxHeartbeats 4000000 in
set_option maxRecDepth 100000 in
theorem k82_L_state (l : Launch) (D : va_G) (cs : Nat → ClassId) (sz : Nat) (hlt : l.stackTraces = false) (a0 a1 a2 a3 a4 a5 a6 a7 a8 a9 a10 a11 : Nat) : KH l yL_state wsL_state 2 43 0 0 D cs sz [.ref a0, .int 5, .ref a2] [(a0, .inr (8, [.ref a3, .ref a1, .ref a4, .ref a5, .int 0, .int 0, .int (-1)])), (a1, .inr (7, [.ref a6, .ref a7, .ref a8, .ref a9, .ref a10, .ref a11, .long 0, .int 0, .int 0, .int 0, .int 0, .int 0, .int 0, .int 0, .int 0, .int 0])), (a2, .inl (cs 3, 1, .inr (.inl (fun _ => 0))))] (fun u => [(a2, .inl (cs 3, 1, .inr (.inl (fun _ => 0)))), (a0, .inr (8, [.ref a3, .ref a1, .ref a4, .ref a5, .int 0, .int 0, .int (-1)])), (a1, .inr (7, [.ref a6, .ref a7, .ref a8, .ref a9, .ref a10, .ref a11, .long 0, .int 0, .int 0, .int 0, .int 0, .int 0, .int 0, .int 0, .int 0, .int 0]))]) (0) := by
  refine KH.of cL_state 4 (some .int) (by decide) rfl (Nat.le_of_ble_eq_true rfl) ?_
  intro p e s m below meth c A ls hx hb hr hml hown hts hlocks htab hP hN hD hA hS hl hZ
  have hown : s.vm.findClass RL = some m.cls := hown
  have hl : lv_has ls 4 [(0, .ref a0), (1, .int 5), (2, .ref a2)] := hl
  refine lv_aload_n hx hb dL_state_0 rfl (lv_at hl 2 rfl) ?_
  refine lv_iconst (v := 0) hx hb dL_state_1 (by decide) ?_
  refine lv_aload_n hx hb dL_state_2 rfl (lv_at hl 0 rfl) ?_
  refine lv_iload_n hx hb dL_state_3 rfl (lv_at hl 1 rfl) ?_
  refine cv_i (As := [.int 5]) (rest := [.int 0, .ref a2]) (b := a0) (wr := [(a2, .inl (cs 3, 1, .inr (.inl (fun _ => 0))))]) ⟨hx, hb, hml, hown, hts⟩ (fun sz => k81_X8_state l D cs sz a0 a1 a3 a4 a5 a6 a7 a8 a9 a10 a11) (cwV 1 hts gL_state_X8_state rfl rfl rfl hdX8_state_v ⟨Nat.le_of_ble_eq_true rfl, Nat.le_of_ble_eq_true rfl⟩) hN hP hD hS hA [0, 1] [2] rfl rfl rfl rfl (by decide) (ci := 8) (q0 := 0) rfl rfl rfl rfl hl.1 (Nat.le_of_ble_eq_true rfl) dL_state_4 (Nat.le_of_ble_eq_true rfl) (Nat.le_of_ble_eq_true rfl) (fun u0 H locs hP hD hS => ?_)
  have hP : va_P D vwCl [(a2, .inl (cs 3, 1, .inr (.inl (fun _ => 0)))), (a0, .inr (8, [.ref a3, .ref a1, .ref a4, .ref a5, .int 0, .int 0, .int (-1)])), (a1, .inr (7, [.ref a6, .ref a7, .ref a8, .ref a9, .ref a10, .ref a11, .long 0, .int 0, .int 0, .int 0, .int 0, .int 0, .int 0, .int 0, .int 0, .int 0]))] H := hP
  have hD : va_D A [(a2, .inl (cs 3, 1, .inr (.inl (fun _ => 0)))), (a0, .inr (8, [.ref a3, .ref a1, .ref a4, .ref a5, .int 0, .int 0, .int (-1)])), (a1, .inr (7, [.ref a6, .ref a7, .ref a8, .ref a9, .ref a10, .ref a11, .long 0, .int 0, .int 0, .int 0, .int 0, .int 0, .int 0, .int 0, .int 0, .int 0]))] := hD
  refine W.widen (k := 0) (n := 0) (Nat.le_of_ble_eq_true rfl) (Nat.le_of_ble_eq_true rfl) ?_
  refine lv_i2l (v := 0) hx hb dL_state_7 (by decide) ?_
  refine st_l (g := (fun _ => 0)) hx hb hN hP hD hS 0 rfl (vin (by decide +kernel)) (funext (fun j9 => by unfold vp_updL; split <;> rename_i h9 <;> first | rfl | (subst h9; rfl))) dL_state_8 (fun H locs hP hD hS => ?_)
  have hP : va_P D vwCl [(a2, .inl (cs 3, 1, .inr (.inl (fun _ => 0)))), (a0, .inr (8, [.ref a3, .ref a1, .ref a4, .ref a5, .int 0, .int 0, .int (-1)])), (a1, .inr (7, [.ref a6, .ref a7, .ref a8, .ref a9, .ref a10, .ref a11, .long 0, .int 0, .int 0, .int 0, .int 0, .int 0, .int 0, .int 0, .int 0, .int 0]))] H := hP
  have hD : va_D A [(a2, .inl (cs 3, 1, .inr (.inl (fun _ => 0)))), (a0, .inr (8, [.ref a3, .ref a1, .ref a4, .ref a5, .int 0, .int 0, .int (-1)])), (a1, .inr (7, [.ref a6, .ref a7, .ref a8, .ref a9, .ref a10, .ref a11, .long 0, .int 0, .int 0, .int 0, .int 0, .int 0, .int 0, .int 0, .int 0, .int 0]))] := hD
  refine lv_goto (tgt := 15) hx hb dL_state_9 (by decide) ?_
  refine lv_iconst (v := 0) hx hb dL_state_15 (by decide) ?_
  exact en_i (fun k => ([] : List Nat).getD k 0) hx hb hr hlocks rfl rfl hP hD hS (Nat.le_of_ble_eq_true rfl) (Nat.le_of_ble_eq_true rfl) dL_state_16
set_option maxHeartbeats 4000000 in
set_option maxRecDepth 100000 in
theorem k83_X9_in (l : Launch) (D : va_G) (cs : Nat → ClassId) (sz : Nat) : KI l yX9_in wsX9_in 0 0 0 0 D cs sz [.int 5, .int 0, .int 12] [] (fun u => []) (1) := by
  refine KI.of cX9_in 3 (some .boolean) (by decide) rfl (Nat.le_of_ble_eq_true rfl) ?_
  intro p e s m below meth c A ls hx hb hr hml hown hts hlocks hin hP hN hD hA hS hl
  have hown : s.vm.findClass RX9 = some m.cls := hown
  have hl : lv_has ls 3 [(0, .int 5), (1, .int 0), (2, .int 12)] := hl
  refine lv_iload_n hx hb dX9_in_0 rfl (lv_at hl 0 rfl) ?_
  refine lv_iload_n hx hb dX9_in_1 rfl (lv_at hl 1 rfl) ?_
  refine lv_icmp_lt (tgt := 14) hx hb dX9_in_2 (by decide) (fun c9 => absurd c9 (by decide)) (fun _ => ?_)
  refine lv_iload_n hx hb dX9_in_5 rfl (lv_at hl 0 rfl) ?_
  refine lv_iload_n hx hb dX9_in_6 rfl (lv_at hl 2 rfl) ?_
  refine lv_icmp_gt (tgt := 14) hx hb dX9_in_7 (by decide) (fun c9 => absurd c9 (by decide)) (fun _ => ?_)
  refine lv_iconst (v := 1) hx hb dX9_in_10 (by decide) ?_
  refine lv_goto (tgt := 15) hx hb dX9_in_11 (by decide) ?_
  exact en_i (fun k => ([] : List Nat).getD k 0) hx hb hr hlocks rfl rfl hP hD hS (Nat.le_of_ble_eq_true rfl) (Nat.le_of_ble_eq_true rfl) dX9_in_15
set_option maxHeartbeats 4000000 in
set_option maxRecDepth 100000 in
theorem k84_X9_told (l : Launch) (D : va_G) (cs : Nat → ClassId) (sz : Nat) (a0 a1 a2 a3 a4 a5 a6 : Nat) : KI l yX9_told wsX9_told 0 0 0 0 D cs sz [.ref a0, .int 5] [(a0, .inr (9, [.int 0, .ref a2, .int 0, .int 0, .int 0, .int 0, .int 0, .int (-1), .ref a1, .ref a3, .ref a4, .ref a5, .int 0, .int 0, .int 0, .int 0, .int 0, .ref a6])), (a1, .inl (cs 0, 45783, .inl (layF (fun _ => 0) 1)))] (fun u => [(a0, .inr (9, [.int 0, .ref a2, .int 0, .int 0, .int 0, .int 0, .int 0, .int (-1), .ref a1, .ref a3, .ref a4, .ref a5, .int 0, .int 0, .int 0, .int 0, .int 0, .ref a6])), (a1, .inl (cs 0, 45783, .inl (layF (fun _ => 0) 1)))]) (0) := by
  refine KI.of cX9_told 2 (some .int) (by decide) rfl (Nat.le_of_ble_eq_true rfl) ?_
  intro p e s m below meth c A ls hx hb hr hml hown hts hlocks hin hP hN hD hA hS hl
  have hown : s.vm.findClass RX9 = some m.cls := hown
  have hl : lv_has ls 2 [(0, .ref a0), (1, .int 5)] := hl
  refine lv_iload_n hx hb dX9_told_0 rfl (lv_at hl 1 rfl) ?_
  refine lv_tableOut (tgt := 59) hx hb dX9_told_1 (by decide) (by decide) ?_
  refine lv_aload_n hx hb dX9_told_59 rfl (lv_at hl 0 rfl) ?_
  refine va_get (D := D) (ci := 9) (v := .ref a1) (C := RX9) (T := TX9) (N := 18) hx hb hts iX9_told_9 hown hN.1 hP 0 rfl rfl 8 (by decide) (hts _ mX9_told_1) (fun _ h9 => h9) rfl dX9_told_60 ?_
  refine lv_iload_n hx hb dX9_told_63 rfl (lv_at hl 1 rfl) ?_
  refine ld_i (v := 0) hx hb hN hP 1 rfl (vin (by decide +kernel)) (by first | rfl | decide +kernel) dX9_told_64 ?_
  exact en_i (fun k => ([] : List Nat).getD k 0) hx hb hr hlocks rfl rfl hP hD hS (Nat.le_of_ble_eq_true rfl) (Nat.le_of_ble_eq_true rfl) dX9_told_65
set_option maxHeartbeats 4000000 in
set_option maxRecDepth 100000 in
theorem k85_X9_state (l : Launch) (D : va_G) (cs : Nat → ClassId) (sz : Nat) (a0 a1 a2 a3 a4 a5 a6 : Nat) : KI l yX9_state wsX9_state 1 22 0 0 D cs sz [.ref a0, .int 5] [(a0, .inr (9, [.int 0, .ref a2, .int 0, .int 0, .int 0, .int 0, .int 0, .int (-1), .ref a1, .ref a3, .ref a4, .ref a5, .int 0, .int 0, .int 0, .int 0, .int 0, .ref a6])), (a1, .inl (cs 0, 45783, .inl (layF (fun _ => 0) 1)))] (fun u => [(a0, .inr (9, [.int 0, .ref a2, .int 0, .int 0, .int 0, .int 0, .int 0, .int (-1), .ref a1, .ref a3, .ref a4, .ref a5, .int 0, .int 0, .int 0, .int 0, .int 0, .ref a6])), (a1, .inl (cs 0, 45783, .inl (layF (fun _ => 0) 1)))]) (0) := by
  refine KI.of cX9_state 2 (some .int) (by decide) rfl (Nat.le_of_ble_eq_true rfl) ?_
  intro p e s m below meth c A ls hx hb hr hml hown hts hlocks hin hP hN hD hA hS hl
  have hown : s.vm.findClass RX9 = some m.cls := hown
  have hl : lv_has ls 2 [(0, .ref a0), (1, .int 5)] := hl
  refine lv_aload_n hx hb dX9_state_0 rfl (lv_at hl 0 rfl) ?_
  refine lv_iconst (v := 0) hx hb dX9_state_1 (by decide) ?_
  refine va_put (D := D) (ci := 9) (v := .int 0) (ty := .int) (C := RX9) (T := TX9) (N := 18) hx hb hts iX9_state_9 tyX9 tyX9_ok nmX9 hown hN.1 hP hD hS 0 rfl rfl 0 (by decide) (hts _ mX9_state_1) (fun _ h9 => h9) rfl (by decide +kernel) rfl rfl (Nat.le_of_ble_eq_true rfl) dX9_state_2 (fun H locs hP hD hS => ?_)
  have hP : va_P D vwCl [(a0, .inr (9, [.int 0, .ref a2, .int 0, .int 0, .int 0, .int 0, .int 0, .int (-1), .ref a1, .ref a3, .ref a4, .ref a5, .int 0, .int 0, .int 0, .int 0, .int 0, .ref a6])), (a1, .inl (cs 0, 45783, .inl (layF (fun _ => 0) 1)))] H := hP
  have hD : va_D A [(a0, .inr (9, [.int 0, .ref a2, .int 0, .int 0, .int 0, .int 0, .int 0, .int (-1), .ref a1, .ref a3, .ref a4, .ref a5, .int 0, .int 0, .int 0, .int 0, .int 0, .ref a6])), (a1, .inl (cs 0, 45783, .inl (layF (fun _ => 0) 1)))] := hD
  refine lv_aload_n hx hb dX9_state_5 rfl (lv_at hl 0 rfl) ?_
  refine lv_iload_n hx hb dX9_state_6 rfl (lv_at hl 1 rfl) ?_
  refine lv_iconst (v := 0) hx hb dX9_state_7 (by decide) ?_
  refine lv_bipush (v := 12) hx hb dX9_state_8 (by decide) ?_
  refine cs_i (As := [.int 5, .int 0, .int 12]) (rest := [.ref a0]) (wr := [(a0, .inr (9, [.int 0, .ref a2, .int 0, .int 0, .int 0, .int 0, .int 0, .int (-1), .ref a1, .ref a3, .ref a4, .ref a5, .int 0, .int 0, .int 0, .int 0, .int 0, .ref a6])), (a1, .inl (cs 0, 45783, .inl (layF (fun _ => 0) 1)))]) ⟨hx, hb, hml, hown, hts⟩ (fun sz => k83_X9_in l D cs sz ) (va_cwS 3 hts gX9_state_X9_in rfl rfl rfl hdX9_in_o ⟨Nat.le_of_ble_eq_true rfl, Nat.le_of_ble_eq_true rfl⟩) hN hP hD hS hA [] [0, 1] rfl rfl rfl rfl (by decide) rfl rfl hl.1 (Nat.le_of_ble_eq_true rfl) dX9_state_10 (Nat.le_of_ble_eq_true rfl) (Nat.le_of_ble_eq_true rfl) (fun u0 H locs hP hD hS => ?_)
  have hP : va_P D vwCl [(a0, .inr (9, [.int 0, .ref a2, .int 0, .int 0, .int 0, .int 0, .int 0, .int (-1), .ref a1, .ref a3, .ref a4, .ref a5, .int 0, .int 0, .int 0, .int 0, .int 0, .ref a6])), (a1, .inl (cs 0, 45783, .inl (layF (fun _ => 0) 1)))] H := hP
  have hD : va_D A [(a0, .inr (9, [.int 0, .ref a2, .int 0, .int 0, .int 0, .int 0, .int 0, .int (-1), .ref a1, .ref a3, .ref a4, .ref a5, .int 0, .int 0, .int 0, .int 0, .int 0, .ref a6])), (a1, .inl (cs 0, 45783, .inl (layF (fun _ => 0) 1)))] := hD
  refine W.widen (k := 0) (n := 0) (Nat.le_of_ble_eq_true rfl) (Nat.le_of_ble_eq_true rfl) ?_
  refine lv_if_ne (tgt := 20) hx hb dX9_state_13 (by decide) (fun _ => ?_) (fun c9 => absurd c9 (by decide))
  refine lv_iconst (v := 0) hx hb dX9_state_20 (by decide) ?_
  refine lv_iconst (v := 1) hx hb dX9_state_21 (by decide) ?_
  refine cv_i (As := [.int 0, .int 1]) (rest := []) (b := a0) (wr := [(a1, .inl (cs 0, 45783, .inl (layF (fun _ => 0) 1)))]) ⟨hx, hb, hml, hown, hts⟩ (fun sz => k47_X9_fails l D cs sz a0 a2 a1 a3 a4 a5 a6) (cwV 2 hts gX9_state_X9_fails rfl rfl rfl hdX9_fails_v ⟨Nat.le_of_ble_eq_true rfl, Nat.le_of_ble_eq_true rfl⟩) hN hP hD hS hA [0] [1] rfl rfl rfl rfl (by decide) (ci := 9) (q0 := 0) rfl rfl rfl rfl hl.1 (Nat.le_of_ble_eq_true rfl) dX9_state_22 (Nat.le_of_ble_eq_true rfl) (Nat.le_of_ble_eq_true rfl) (fun u1 H locs hP hD hS => ?_)
  have hP : va_P D vwCl [(a1, .inl (cs 0, 45783, .inl (layF (fun _ => 0) 1))), (a0, .inr (9, [.int 0, .ref a2, .int 0, .int 0, .int 0, .int 0, .int 0, .int (-1), .ref a1, .ref a3, .ref a4, .ref a5, .int 0, .int 0, .int 0, .int 0, .int 0, .ref a6]))] H := hP
  have hD : va_D A [(a1, .inl (cs 0, 45783, .inl (layF (fun _ => 0) 1))), (a0, .inr (9, [.int 0, .ref a2, .int 0, .int 0, .int 0, .int 0, .int 0, .int (-1), .ref a1, .ref a3, .ref a4, .ref a5, .int 0, .int 0, .int 0, .int 0, .int 0, .ref a6]))] := hD
  refine W.widen (k := 0) (n := 0) (Nat.le_of_ble_eq_true rfl) (Nat.le_of_ble_eq_true rfl) ?_
  refine lv_if_eq (tgt := 32) hx hb dX9_state_25 (by decide) (fun _ => ?_) (fun c9 => absurd (by decide) c9)
  refine lv_aload_n hx hb dX9_state_32 rfl (lv_at hl 0 rfl) ?_
  refine lv_iload_n hx hb dX9_state_33 rfl (lv_at hl 1 rfl) ?_
  refine cv_i (As := [.int 5]) (rest := []) (b := a0) (wr := []) ⟨hx, hb, hml, hown, hts⟩ (fun sz => k84_X9_told l D cs sz a0 a1 a2 a3 a4 a5 a6) (cwV 1 hts gX9_state_X9_told rfl rfl rfl hdX9_told_v ⟨Nat.le_of_ble_eq_true rfl, Nat.le_of_ble_eq_true rfl⟩) hN hP hD hS hA [1, 0] [] rfl rfl rfl rfl (by decide) (ci := 9) (q0 := 0) rfl rfl rfl rfl hl.1 (Nat.le_of_ble_eq_true rfl) dX9_state_34 (Nat.le_of_ble_eq_true rfl) (Nat.le_of_ble_eq_true rfl) (fun u2 H locs hP hD hS => ?_)
  have hP : va_P D vwCl [(a0, .inr (9, [.int 0, .ref a2, .int 0, .int 0, .int 0, .int 0, .int 0, .int (-1), .ref a1, .ref a3, .ref a4, .ref a5, .int 0, .int 0, .int 0, .int 0, .int 0, .ref a6])), (a1, .inl (cs 0, 45783, .inl (layF (fun _ => 0) 1)))] H := hP
  have hD : va_D A [(a0, .inr (9, [.int 0, .ref a2, .int 0, .int 0, .int 0, .int 0, .int 0, .int (-1), .ref a1, .ref a3, .ref a4, .ref a5, .int 0, .int 0, .int 0, .int 0, .int 0, .ref a6])), (a1, .inl (cs 0, 45783, .inl (layF (fun _ => 0) 1)))] := hD
  refine W.widen (k := 0) (n := 0) (Nat.le_of_ble_eq_true rfl) (Nat.le_of_ble_eq_true rfl) ?_
  exact en_i (fun k => ([] : List Nat).getD k 0) hx hb hr hlocks rfl rfl hP hD hS (Nat.le_of_ble_eq_true rfl) (Nat.le_of_ble_eq_true rfl) dX9_state_37
set_option maxHeartbeats 4000000 in
set_option maxRecDepth 100000 in
theorem law_3_5 {p : Program} {l : Launch} {e : Env} {s : State} {m : MethodId} {args : Array Value} {below : List Frame} {meth : Method} {c : Code} {Q : State → Prop} {D : va_G} {cs : Nat → ClassId} {A : Nat → Prop} {xs : Nat → Int32} {b : Nat} (hx : p.tables.exec = Jvm.exec) (hb : c.code = cL_law) (hml : c.maxLocals = 9) (hown : s.vm.findClass RL = some m.cls) (hts : ∀ w ∈ wsL_law, w.before args s = true) (hN : NK D cs s) (hX : va_X b 6 xs s s.heap) (hbl : b < s.heap.size) (hbA : ¬ A b) (hA : ∀ q : Nat, s.heap.size ≤ q → A q) (hZ : ZX A s s.heap) (hZS : ZS cs A s s.heap) (hlt : l.stackTraces = false)
    (kend : ∀ (H : Heap) (locs : List Loc) (ls : Array Slot), va_S A s.heap H locs → lv_has ls 9 [(0, .ref b), (4, .int 0)] → W p l e room_1 s m args below meth c H locs 600002 7302232 Q (F0 m 1169 ls []))
    (a0 a1 a2 a3 a4 a5 a6 a7 a8 a9 a10 a11 a12 a13 a14 a15 a16 a17 a18 : Nat) (hy1 : xs 1 = (5))  (H : Heap) (locs : List Loc) (ls : Array Slot) (hP : va_P D vwCl [(a0, .inr (8, [.ref a5, .ref a1, .ref a6, .ref a7, .int 0, .int 0, .int (-1)])), (a1, .inr (7, [.ref a8, .ref a9, .ref a10, .ref a11, .ref a12, .ref a13, .long 0, .int 0, .int 0, .int 0, .int 0, .int 0, .int 0, .int 0, .int 0, .int 0])), (a2, .inr (9, [.int 0, .ref a14, .int 0, .int 0, .int 0, .int 0, .int 0, .int (-1), .ref a3, .ref a15, .ref a16, .ref a17, .int 0, .int 0, .int 0, .int 0, .int 0, .ref a18])), (a3, .inl (cs 0, 45783, .inl (layF (fun _ => 0) 1))), (a4, .inl (cs 3, 1, .inr (.inl (fun _ => 0))))] H) (hD : va_D A [(a0, .inr (8, [.ref a5, .ref a1, .ref a6, .ref a7, .int 0, .int 0, .int (-1)])), (a1, .inr (7, [.ref a8, .ref a9, .ref a10, .ref a11, .ref a12, .ref a13, .long 0, .int 0, .int 0, .int 0, .int 0, .int 0, .int 0, .int 0, .int 0, .int 0])), (a2, .inr (9, [.int 0, .ref a14, .int 0, .int 0, .int 0, .int 0, .int 0, .int (-1), .ref a3, .ref a15, .ref a16, .ref a17, .int 0, .int 0, .int 0, .int 0, .int 0, .ref a18])), (a3, .inl (cs 0, 45783, .inl (layF (fun _ => 0) 1))), (a4, .inl (cs 3, 1, .inr (.inl (fun _ => 0))))]) (hS : va_S A s.heap H locs) (hl : lv_has ls 9 [(4, .int 0), (3, .ref a4), (2, .ref a2), (1, .ref a0), (0, .ref b)]) : W p l e room_1 s m args below meth c H locs 391 467079 Q (F0 m 278 ls []) := by
  refine lv_aload_n hx hb dL_law_278 rfl (lv_at hl 3 rfl) ?_
  refine lv_aload_n hx hb dL_law_279 rfl (lv_at hl 4 rfl) ?_
  refine lv_iload hx hb dL_law_280 (lv_at hl 0 rfl) ?_
  refine lv_iconst (v := 1) hx hb dL_law_282 (by decide) ?_
  refine lv_iadd hx hb dL_law_283 ?_
  refine tp_i (1) (by decide) ?_
  refine va_sld hx hb hX hbl hbA hS (vin (by decide +kernel)) dL_law_284 ?_
  refine tp_i (5) hy1 ?_
  refine lv_aload_n hx hb dL_law_285 rfl (lv_at hl 1 rfl) ?_
  refine ch_i (As := [.ref a0, .int 5, .ref a4]) (rest := []) (wr := [(a2, .inr (9, [.int 0, .ref a14, .int 0, .int 0, .int 0, .int 0, .int 0, .int (-1), .ref a3, .ref a15, .ref a16, .ref a17, .int 0, .int 0, .int 0, .int 0, .int 0, .ref a18])), (a3, .inl (cs 0, 45783, .inl (layF (fun _ => 0) 1)))]) ⟨hx, hb, hml, hown, hts⟩ (fun sz => k82_L_state l D cs sz hlt a0 a1 a4 a5 a6 a7 a8 a9 a10 a11 a12 a13) (vx_cwSW 3 hts gL_law_L_state rfl rfl rfl hdL_state_o ⟨Nat.le_of_ble_eq_true rfl, Nat.le_of_ble_eq_true rfl⟩) hN hP hD hS hA hZ [0, 1, 4] [2, 3] rfl rfl rfl rfl (by decide) rfl rfl hl.1 (Nat.le_of_ble_eq_true rfl) dL_law_286 (Nat.le_of_ble_eq_true rfl) (Nat.le_of_ble_eq_true rfl) (fun u0 H locs hP hD hS => ?_)
  have hP : va_P D vwCl [(a2, .inr (9, [.int 0, .ref a14, .int 0, .int 0, .int 0, .int 0, .int 0, .int (-1), .ref a3, .ref a15, .ref a16, .ref a17, .int 0, .int 0, .int 0, .int 0, .int 0, .ref a18])), (a3, .inl (cs 0, 45783, .inl (layF (fun _ => 0) 1))), (a4, .inl (cs 3, 1, .inr (.inl (fun _ => 0)))), (a0, .inr (8, [.ref a5, .ref a1, .ref a6, .ref a7, .int 0, .int 0, .int (-1)])), (a1, .inr (7, [.ref a8, .ref a9, .ref a10, .ref a11, .ref a12, .ref a13, .long 0, .int 0, .int 0, .int 0, .int 0, .int 0, .int 0, .int 0, .int 0, .int 0]))] H := hP
  have hD : va_D A [(a2, .inr (9, [.int 0, .ref a14, .int 0, .int 0, .int 0, .int 0, .int 0, .int (-1), .ref a3, .ref a15, .ref a16, .ref a17, .int 0, .int 0, .int 0, .int 0, .int 0, .ref a18])), (a3, .inl (cs 0, 45783, .inl (layF (fun _ => 0) 1))), (a4, .inl (cs 3, 1, .inr (.inl (fun _ => 0)))), (a0, .inr (8, [.ref a5, .ref a1, .ref a6, .ref a7, .int 0, .int 0, .int (-1)])), (a1, .inr (7, [.ref a8, .ref a9, .ref a10, .ref a11, .ref a12, .ref a13, .long 0, .int 0, .int 0, .int 0, .int 0, .int 0, .int 0, .int 0, .int 0, .int 0]))] := hD
  refine W.widen (k := 391) (n := 467079) (Nat.le_of_ble_eq_true rfl) (Nat.le_of_ble_eq_true rfl) ?_
  refine lv_istore (lv' := [(5, .int 0), (4, .int 0), (3, .ref a4), (2, .ref a2), (1, .ref a0), (0, .ref b)]) hx hb dL_law_289 hl (by decide) rfl (fun ls hl => ?_)
  refine lv_aload_n hx hb dL_law_291 rfl (lv_at hl 3 rfl) ?_
  refine lv_aload_n hx hb dL_law_292 rfl (lv_at hl 5 rfl) ?_
  refine lv_iload hx hb dL_law_293 (lv_at hl 1 rfl) ?_
  refine lv_iconst (v := 1) hx hb dL_law_295 (by decide) ?_
  refine lv_iadd hx hb dL_law_296 ?_
  refine tp_i (1) (by decide) ?_
  refine va_sld hx hb hX hbl hbA hS (vin (by decide +kernel)) dL_law_297 ?_
  refine tp_i (5) hy1 ?_
  refine cv_i (As := [.int 5]) (rest := []) (b := a2) (wr := [(a4, .inl (cs 3, 1, .inr (.inl (fun _ => 0)))), (a0, .inr (8, [.ref a5, .ref a1, .ref a6, .ref a7, .int 0, .int 0, .int (-1)])), (a1, .inr (7, [.ref a8, .ref a9, .ref a10, .ref a11, .ref a12, .ref a13, .long 0, .int 0, .int 0, .int 0, .int 0, .int 0, .int 0, .int 0, .int 0, .int 0]))]) ⟨hx, hb, hml, hown, hts⟩ (fun sz => k85_X9_state l D cs sz a2 a3 a14 a15 a16 a17 a18) (cwV 1 hts gL_law_X9_state rfl rfl rfl hdX9_state_v ⟨Nat.le_of_ble_eq_true rfl, Nat.le_of_ble_eq_true rfl⟩) hN hP hD hS hA [0, 1] [2, 3, 4] rfl rfl rfl rfl (by decide) (ci := 9) (q0 := 0) rfl rfl rfl rfl hl.1 (Nat.le_of_ble_eq_true rfl) dL_law_298 (Nat.le_of_ble_eq_true rfl) (Nat.le_of_ble_eq_true rfl) (fun u1 H locs hP hD hS => ?_)
  have hP : va_P D vwCl [(a4, .inl (cs 3, 1, .inr (.inl (fun _ => 0)))), (a0, .inr (8, [.ref a5, .ref a1, .ref a6, .ref a7, .int 0, .int 0, .int (-1)])), (a1, .inr (7, [.ref a8, .ref a9, .ref a10, .ref a11, .ref a12, .ref a13, .long 0, .int 0, .int 0, .int 0, .int 0, .int 0, .int 0, .int 0, .int 0, .int 0])), (a2, .inr (9, [.int 0, .ref a14, .int 0, .int 0, .int 0, .int 0, .int 0, .int (-1), .ref a3, .ref a15, .ref a16, .ref a17, .int 0, .int 0, .int 0, .int 0, .int 0, .ref a18])), (a3, .inl (cs 0, 45783, .inl (layF (fun _ => 0) 1)))] H := hP
  have hD : va_D A [(a4, .inl (cs 3, 1, .inr (.inl (fun _ => 0)))), (a0, .inr (8, [.ref a5, .ref a1, .ref a6, .ref a7, .int 0, .int 0, .int (-1)])), (a1, .inr (7, [.ref a8, .ref a9, .ref a10, .ref a11, .ref a12, .ref a13, .long 0, .int 0, .int 0, .int 0, .int 0, .int 0, .int 0, .int 0, .int 0, .int 0])), (a2, .inr (9, [.int 0, .ref a14, .int 0, .int 0, .int 0, .int 0, .int 0, .int (-1), .ref a3, .ref a15, .ref a16, .ref a17, .int 0, .int 0, .int 0, .int 0, .int 0, .ref a18])), (a3, .inl (cs 0, 45783, .inl (layF (fun _ => 0) 1)))] := hD
  refine W.widen (k := 391) (n := 467079) (Nat.le_of_ble_eq_true rfl) (Nat.le_of_ble_eq_true rfl) ?_
  refine lv_istore (lv' := [(6, .int 0), (5, .int 0), (4, .int 0), (3, .ref a4), (2, .ref a2), (1, .ref a0), (0, .ref b)]) hx hb dL_law_301 hl (by decide) rfl (fun ls hl => ?_)
  refine lv_aload_n hx hb dL_law_303 rfl (lv_at hl 4 rfl) ?_
  refine cv_i (As := []) (rest := []) (b := a2) (wr := [(a4, .inl (cs 3, 1, .inr (.inl (fun _ => 0)))), (a0, .inr (8, [.ref a5, .ref a1, .ref a6, .ref a7, .int 0, .int 0, .int (-1)])), (a1, .inr (7, [.ref a8, .ref a9, .ref a10, .ref a11, .ref a12, .ref a13, .long 0, .int 0, .int 0, .int 0, .int 0, .int 0, .int 0, .int 0, .int 0, .int 0])), (a3, .inl (cs 0, 45783, .inl (layF (fun _ => 0) 1)))]) ⟨hx, hb, hml, hown, hts⟩ (fun sz => k50_X9_thrown l D cs sz a2 a14 a3 a15 a16 a17 a18) (cwV 0 hts gL_law_X9_thrown rfl rfl rfl hdX9_thrown_v ⟨Nat.le_of_ble_eq_true rfl, Nat.le_of_ble_eq_true rfl⟩) hN hP hD hS hA [3] [0, 1, 2, 4] rfl rfl rfl rfl (by decide) (ci := 9) (q0 := 0) rfl rfl rfl rfl hl.1 (Nat.le_of_ble_eq_true rfl) dL_law_304 (Nat.le_of_ble_eq_true rfl) (Nat.le_of_ble_eq_true rfl) (fun u2 H locs hP hD hS => ?_)
  have hP : va_P D vwCl [(a4, .inl (cs 3, 1, .inr (.inl (fun _ => 0)))), (a0, .inr (8, [.ref a5, .ref a1, .ref a6, .ref a7, .int 0, .int 0, .int (-1)])), (a1, .inr (7, [.ref a8, .ref a9, .ref a10, .ref a11, .ref a12, .ref a13, .long 0, .int 0, .int 0, .int 0, .int 0, .int 0, .int 0, .int 0, .int 0, .int 0])), (a3, .inl (cs 0, 45783, .inl (layF (fun _ => 0) 1))), (a2, .inr (9, [.int 0, .ref a14, .int 0, .int 0, .int 0, .int 0, .int 0, .int (-1), .ref a3, .ref a15, .ref a16, .ref a17, .int 0, .int 0, .int 0, .int 0, .int 0, .ref a18]))] H := hP
  have hD : va_D A [(a4, .inl (cs 3, 1, .inr (.inl (fun _ => 0)))), (a0, .inr (8, [.ref a5, .ref a1, .ref a6, .ref a7, .int 0, .int 0, .int (-1)])), (a1, .inr (7, [.ref a8, .ref a9, .ref a10, .ref a11, .ref a12, .ref a13, .long 0, .int 0, .int 0, .int 0, .int 0, .int 0, .int 0, .int 0, .int 0, .int 0])), (a3, .inl (cs 0, 45783, .inl (layF (fun _ => 0) 1))), (a2, .inr (9, [.int 0, .ref a14, .int 0, .int 0, .int 0, .int 0, .int 0, .int (-1), .ref a3, .ref a15, .ref a16, .ref a17, .int 0, .int 0, .int 0, .int 0, .int 0, .ref a18]))] := hD
  refine W.widen (k := 391) (n := 467079) (Nat.le_of_ble_eq_true rfl) (Nat.le_of_ble_eq_true rfl) ?_
  refine lv_iload hx hb dL_law_307 (lv_at hl 1 rfl) ?_
  refine lv_icmp_eq (tgt := 314) hx hb dL_law_309 (by decide) (fun _ => ?_) (fun c9 => absurd (by decide) c9)
  refine lv_iload hx hb dL_law_314 (lv_at hl 1 rfl) ?_
  refine lv_if_ne (tgt := 331) hx hb dL_law_316 (by decide) (fun c9 => absurd (by decide) c9) (fun _ => ?_)
  refine lv_aload_n hx hb dL_law_319 rfl (lv_at hl 3 rfl) ?_
  refine lv_iconst (v := 0) hx hb dL_law_320 (by decide) ?_
  refine ld_l (v := 0) hx hb hN hP 0 rfl (vin (by decide +kernel)) (by first | rfl | decide +kernel) dL_law_321 ?_
  refine lv_iload hx hb dL_law_322 (lv_at hl 0 rfl) ?_
  refine lv_i2l (v := 0) hx hb dL_law_324 (by decide) ?_
  refine W.lcmp hx hb dL_law_325 ?_
  refine tp_i (0) (by decide) ?_
  refine lv_if_eq (tgt := 331) hx hb dL_law_326 (by decide) (fun _ => ?_) (fun c9 => absurd (by decide) c9)
  refine lv_goto (tgt := 1169) hx hb dL_law_331 (by decide) ?_
  refine W.widen (k := 600002) (n := 7302232) (Nat.le_of_ble_eq_true rfl) (Nat.le_of_ble_eq_true rfl) ?_
  exact kend _ _ _ hS (lv_sub hl [6, 2] rfl)

set_option maxHeartbeats 4000000 in
set_option maxRecDepth 100000 in
theorem k86_X8_refuseWhatOutside (l : Launch) (D : va_G) (cs : Nat → ClassId) (sz : Nat) (a0 a1 a2 a3 a4 : Nat) : KV l yX8_refuseWhatOutside wsX8_refuseWhatOutside 0 0 0 0 D cs sz [.ref a0, .int 6, .int 12] [(a0, .inr (8, [.ref a1, .ref a2, .ref a3, .ref a4, .int 0, .int 0, .int (-1)]))] (fun u => [(a0, .inr (8, [.ref a1, .ref a2, .ref a3, .ref a4, .int 0, .int 0, .int (-1)]))]) := by
  refine KV.of cX8_refuseWhatOutside 3 none (by decide) rfl (Nat.le_of_ble_eq_true rfl) ?_
  intro p e s m below meth c A ls hx hb hr hml hown hts hlocks hin hP hN hD hA hS hl
  have hown : s.vm.findClass RX8 = some m.cls := hown
  have hl : lv_has ls 3 [(0, .ref a0), (1, .int 6), (2, .int 12)] := hl
  refine lv_iload_n hx hb dX8_refuseWhatOutside_0 rfl (lv_at hl 1 rfl) ?_
  refine lv_if_lt (tgt := 9) hx hb dX8_refuseWhatOutside_1 (by decide) (fun c9 => absurd c9 (by decide)) (fun _ => ?_)
  refine lv_iload_n hx hb dX8_refuseWhatOutside_4 rfl (lv_at hl 1 rfl) ?_
  refine lv_iload_n hx hb dX8_refuseWhatOutside_5 rfl (lv_at hl 2 rfl) ?_
  refine lv_icmp_le (tgt := 19) hx hb dX8_refuseWhatOutside_6 (by decide) (fun _ => ?_) (fun c9 => absurd (by decide) c9)
  exact en_v (fun k => ([] : List Nat).getD k 0) hx hb hr hlocks hP hD hS (Nat.le_of_ble_eq_true rfl) (Nat.le_of_ble_eq_true rfl) dX8_refuseWhatOutside_19
theorem mX7_count_7 : (.fieldLink RX7 77 "OneBeat$World" "made" "I" : Cond) ∈ wsX7_count := List.mem_of_getElem? (i := 7) (by decide +kernel)
set_option maxHeartbeats 4000000 in
set_option maxRecDepth 100000 in
theorem k87_X7_count (l : Launch) (D : va_G) (cs : Nat → ClassId) (sz : Nat) (a0 a1 a2 a3 a4 a5 a6 : Nat) : KI l yX7_count wsX7_count 0 0 0 0 D cs sz [.ref a0, .int 6] [(a0, .inr (7, [.ref a1, .ref a2, .ref a3, .ref a4, .ref a5, .ref a6, .long 0, .int 0, .int 0, .int 0, .int 0, .int 0, .int 0, .int 0, .int 0, .int 0]))] (fun u => [(a0, .inr (7, [.ref a1, .ref a2, .ref a3, .ref a4, .ref a5, .ref a6, .long 0, .int 0, .int 0, .int 0, .int 0, .int 0, .int 0, .int 0, .int 0, .int 0]))]) (0) := by
  refine KI.of cX7_count 2 (some .int) (by decide) rfl (Nat.le_of_ble_eq_true rfl) ?_
  intro p e s m below meth c A ls hx hb hr hml hown hts hlocks hin hP hN hD hA hS hl
  have hown : s.vm.findClass RX7 = some m.cls := hown
  have hl : lv_has ls 2 [(0, .ref a0), (1, .int 6)] := hl
  refine lv_iload_n hx hb dX7_count_0 rfl (lv_at hl 1 rfl) ?_
  refine lv_tableIn (tgt := 100) (off := 99) hx hb dX7_count_1 (by decide) (by decide) (by decide) (by decide) ?_
  refine lv_aload_n hx hb dX7_count_100 rfl (lv_at hl 0 rfl) ?_
  refine va_get (D := D) (ci := 7) (v := .int 0) (C := RX7) (T := TX7) (N := 16) hx hb hts iX7_count_7 hown hN.1 hP 0 rfl rfl 11 (by decide) (hts _ mX7_count_7) (fun _ h9 => h9) rfl dX7_count_101 ?_
  exact en_i (fun k => ([] : List Nat).getD k 0) hx hb hr hlocks rfl rfl hP hD hS (Nat.le_of_ble_eq_true rfl) (Nat.le_of_ble_eq_true rfl) dX7_count_104
set_option maxHeartbeats 4000000 in
set_option maxRecDepth 100000 in
theorem k88_X8_state (l : Launch) (D : va_G) (cs : Nat → ClassId) (sz : Nat) (a0 a1 a2 a3 a4 a5 a6 a7 a8 a9 a10 : Nat) : KI l yX8_state wsX8_state 1 22 0 0 D cs sz [.ref a0, .int 6] [(a0, .inr (8, [.ref a2, .ref a1, .ref a3, .ref a4, .int 0, .int 0, .int (-1)])), (a1, .inr (7, [.ref a5, .ref a6, .ref a7, .ref a8, .ref a9, .ref a10, .long 0, .int 0, .int 0, .int 0, .int 0, .int 0, .int 0, .int 0, .int 0, .int 0]))] (fun u => [(a0, .inr (8, [.ref a2, .ref a1, .ref a3, .ref a4, .int 0, .int 0, .int (-1)])), (a1, .inr (7, [.ref a5, .ref a6, .ref a7, .ref a8, .ref a9, .ref a10, .long 0, .int 0, .int 0, .int 0, .int 0, .int 0, .int 0, .int 0, .int 0, .int 0]))]) (0) := by
  refine KI.of cX8_state 2 (some .int) (by decide) rfl (Nat.le_of_ble_eq_true rfl) ?_
  intro p e s m below meth c A ls hx hb hr hml hown hts hlocks hin hP hN hD hA hS hl
  have hown : s.vm.findClass RX8 = some m.cls := hown
  have hl : lv_has ls 2 [(0, .ref a0), (1, .int 6)] := hl
  refine lv_aload_n hx hb dX8_state_0 rfl (lv_at hl 0 rfl) ?_
  refine lv_iload_n hx hb dX8_state_1 rfl (lv_at hl 1 rfl) ?_
  refine lv_bipush (v := 12) hx hb dX8_state_2 (by decide) ?_
  refine cv_v (As := [.int 6, .int 12]) (rest := []) (b := a0) (wr := [(a1, .inr (7, [.ref a5, .ref a6, .ref a7, .ref a8, .ref a9, .ref a10, .long 0, .int 0, .int 0, .int 0, .int 0, .int 0, .int 0, .int 0, .int 0, .int 0]))]) ⟨hx, hb, hml, hown, hts⟩ (fun sz => k86_X8_refuseWhatOutside l D cs sz a0 a2 a1 a3 a4) (cwV 2 hts gX8_state_X8_refuseWhatOutside rfl rfl rfl hdX8_refuseWhatOutside_v ⟨Nat.le_of_ble_eq_true rfl, Nat.le_of_ble_eq_true rfl⟩) hN hP hD hS hA [0] [1] rfl rfl rfl rfl (by decide) (ci := 8) (q0 := 0) rfl rfl rfl rfl hl.1 (Nat.le_of_ble_eq_true rfl) dX8_state_4 (Nat.le_of_ble_eq_true rfl) (Nat.le_of_ble_eq_true rfl) (fun u0 H locs hP hD hS => ?_)
  have hP : va_P D vwCl [(a1, .inr (7, [.ref a5, .ref a6, .ref a7, .ref a8, .ref a9, .ref a10, .long 0, .int 0, .int 0, .int 0, .int 0, .int 0, .int 0, .int 0, .int 0, .int 0])), (a0, .inr (8, [.ref a2, .ref a1, .ref a3, .ref a4, .int 0, .int 0, .int (-1)]))] H := hP
  have hD : va_D A [(a1, .inr (7, [.ref a5, .ref a6, .ref a7, .ref a8, .ref a9, .ref a10, .long 0, .int 0, .int 0, .int 0, .int 0, .int 0, .int 0, .int 0, .int 0, .int 0])), (a0, .inr (8, [.ref a2, .ref a1, .ref a3, .ref a4, .int 0, .int 0, .int (-1)]))] := hD
  refine W.widen (k := 0) (n := 0) (Nat.le_of_ble_eq_true rfl) (Nat.le_of_ble_eq_true rfl) ?_
  refine lv_aload_n hx hb dX8_state_7 rfl (lv_at hl 0 rfl) ?_
  refine va_get (D := D) (ci := 8) (v := .ref a1) (C := RX8) (T := TX8) (N := 7) hx hb hts iX8_state_8 hown hN.1 hP 1 rfl rfl 1 (by decide) (hts _ mX8_state_1) (fun _ h9 => h9) rfl dX8_state_8 ?_
  refine lv_iload_n hx hb dX8_state_11 rfl (lv_at hl 1 rfl) ?_
  refine cv_i (As := [.int 6]) (rest := []) (b := a1) (wr := [(a0, .inr (8, [.ref a2, .ref a1, .ref a3, .ref a4, .int 0, .int 0, .int (-1)]))]) ⟨hx, hb, hml, hown, hts⟩ (fun sz => k87_X7_count l D cs sz a1 a5 a6 a7 a8 a9 a10) (cwV 1 hts gX8_state_X7_count rfl rfl rfl hdX7_count_v ⟨Nat.le_of_ble_eq_true rfl, Nat.le_of_ble_eq_true rfl⟩) hN hP hD hS hA [0] [1] rfl rfl rfl rfl (by decide) (ci := 7) (q0 := 0) rfl rfl rfl rfl hl.1 (Nat.le_of_ble_eq_true rfl) dX8_state_12 (Nat.le_of_ble_eq_true rfl) (Nat.le_of_ble_eq_true rfl) (fun u1 H locs hP hD hS => ?_)
  have hP : va_P D vwCl [(a0, .inr (8, [.ref a2, .ref a1, .ref a3, .ref a4, .int 0, .int 0, .int (-1)])), (a1, .inr (7, [.ref a5, .ref a6, .ref a7, .ref a8, .ref a9, .ref a10, .long 0, .int 0, .int 0, .int 0, .int 0, .int 0, .int 0, .int 0, .int 0, .int 0]))] H := hP
  have hD : va_D A [(a0, .inr (8, [.ref a2, .ref a1, .ref a3, .ref a4, .int 0, .int 0, .int (-1)])), (a1, .inr (7, [.ref a5, .ref a6, .ref a7, .ref a8, .ref a9, .ref a10, .long 0, .int 0, .int 0, .int 0, .int 0, .int 0, .int 0, .int 0, .int 0, .int 0]))] := hD
  refine W.widen (k := 0) (n := 0) (Nat.le_of_ble_eq_true rfl) (Nat.le_of_ble_eq_true rfl) ?_
  exact en_i (fun k => ([] : List Nat).getD k 0) hx hb hr hlocks rfl rfl hP hD hS (Nat.le_of_ble_eq_true rfl) (Nat.le_of_ble_eq_true rfl) dX8_state_15
set_option maxHeartbeats 4000000 in
set_option maxRecDepth 100000 in
theorem k89_L_state (l : Launch) (D : va_G) (cs : Nat → ClassId) (sz : Nat) (hlt : l.stackTraces = false) (a0 a1 a2 a3 a4 a5 a6 a7 a8 a9 a10 a11 : Nat) : KH l yL_state wsL_state 2 43 0 0 D cs sz [.ref a0, .int 6, .ref a2] [(a0, .inr (8, [.ref a3, .ref a1, .ref a4, .ref a5, .int 0, .int 0, .int (-1)])), (a1, .inr (7, [.ref a6, .ref a7, .ref a8, .ref a9, .ref a10, .ref a11, .long 0, .int 0, .int 0, .int 0, .int 0, .int 0, .int 0, .int 0, .int 0, .int 0])), (a2, .inl (cs 3, 1, .inr (.inl (fun _ => 0))))] (fun u => [(a2, .inl (cs 3, 1, .inr (.inl (fun _ => 0)))), (a0, .inr (8, [.ref a3, .ref a1, .ref a4, .ref a5, .int 0, .int 0, .int (-1)])), (a1, .inr (7, [.ref a6, .ref a7, .ref a8, .ref a9, .ref a10, .ref a11, .long 0, .int 0, .int 0, .int 0, .int 0, .int 0, .int 0, .int 0, .int 0, .int 0]))]) (0) := by
  refine KH.of cL_state 4 (some .int) (by decide) rfl (Nat.le_of_ble_eq_true rfl) ?_
  intro p e s m below meth c A ls hx hb hr hml hown hts hlocks htab hP hN hD hA hS hl hZ
  have hown : s.vm.findClass RL = some m.cls := hown
  have hl : lv_has ls 4 [(0, .ref a0), (1, .int 6), (2, .ref a2)] := hl
  refine lv_aload_n hx hb dL_state_0 rfl (lv_at hl 2 rfl) ?_
  refine lv_iconst (v := 0) hx hb dL_state_1 (by decide) ?_
  refine lv_aload_n hx hb dL_state_2 rfl (lv_at hl 0 rfl) ?_
  refine lv_iload_n hx hb dL_state_3 rfl (lv_at hl 1 rfl) ?_
  refine cv_i (As := [.int 6]) (rest := [.int 0, .ref a2]) (b := a0) (wr := [(a2, .inl (cs 3, 1, .inr (.inl (fun _ => 0))))]) ⟨hx, hb, hml, hown, hts⟩ (fun sz => k88_X8_state l D cs sz a0 a1 a3 a4 a5 a6 a7 a8 a9 a10 a11) (cwV 1 hts gL_state_X8_state rfl rfl rfl hdX8_state_v ⟨Nat.le_of_ble_eq_true rfl, Nat.le_of_ble_eq_true rfl⟩) hN hP hD hS hA [0, 1] [2] rfl rfl rfl rfl (by decide) (ci := 8) (q0 := 0) rfl rfl rfl rfl hl.1 (Nat.le_of_ble_eq_true rfl) dL_state_4 (Nat.le_of_ble_eq_true rfl) (Nat.le_of_ble_eq_true rfl) (fun u0 H locs hP hD hS => ?_)
  have hP : va_P D vwCl [(a2, .inl (cs 3, 1, .inr (.inl (fun _ => 0)))), (a0, .inr (8, [.ref a3, .ref a1, .ref a4, .ref a5, .int 0, .int 0, .int (-1)])), (a1, .inr (7, [.ref a6, .ref a7, .ref a8, .ref a9, .ref a10, .ref a11, .long 0, .int 0, .int 0, .int 0, .int 0, .int 0, .int 0, .int 0, .int 0, .int 0]))] H := hP
  have hD : va_D A [(a2, .inl (cs 3, 1, .inr (.inl (fun _ => 0)))), (a0, .inr (8, [.ref a3, .ref a1, .ref a4, .ref a5, .int 0, .int 0, .int (-1)])), (a1, .inr (7, [.ref a6, .ref a7, .ref a8, .ref a9, .ref a10, .ref a11, .long 0, .int 0, .int 0, .int 0, .int 0, .int 0, .int 0, .int 0, .int 0, .int 0]))] := hD
  refine W.widen (k := 0) (n := 0) (Nat.le_of_ble_eq_true rfl) (Nat.le_of_ble_eq_true rfl) ?_
  refine lv_i2l (v := 0) hx hb dL_state_7 (by decide) ?_
  refine st_l (g := (fun _ => 0)) hx hb hN hP hD hS 0 rfl (vin (by decide +kernel)) (funext (fun j9 => by unfold vp_updL; split <;> rename_i h9 <;> first | rfl | (subst h9; rfl))) dL_state_8 (fun H locs hP hD hS => ?_)
  have hP : va_P D vwCl [(a2, .inl (cs 3, 1, .inr (.inl (fun _ => 0)))), (a0, .inr (8, [.ref a3, .ref a1, .ref a4, .ref a5, .int 0, .int 0, .int (-1)])), (a1, .inr (7, [.ref a6, .ref a7, .ref a8, .ref a9, .ref a10, .ref a11, .long 0, .int 0, .int 0, .int 0, .int 0, .int 0, .int 0, .int 0, .int 0, .int 0]))] H := hP
  have hD : va_D A [(a2, .inl (cs 3, 1, .inr (.inl (fun _ => 0)))), (a0, .inr (8, [.ref a3, .ref a1, .ref a4, .ref a5, .int 0, .int 0, .int (-1)])), (a1, .inr (7, [.ref a6, .ref a7, .ref a8, .ref a9, .ref a10, .ref a11, .long 0, .int 0, .int 0, .int 0, .int 0, .int 0, .int 0, .int 0, .int 0, .int 0]))] := hD
  refine lv_goto (tgt := 15) hx hb dL_state_9 (by decide) ?_
  refine lv_iconst (v := 0) hx hb dL_state_15 (by decide) ?_
  exact en_i (fun k => ([] : List Nat).getD k 0) hx hb hr hlocks rfl rfl hP hD hS (Nat.le_of_ble_eq_true rfl) (Nat.le_of_ble_eq_true rfl) dL_state_16
set_option maxHeartbeats 4000000 in
set_option maxRecDepth 100000 in
theorem k90_X9_in (l : Launch) (D : va_G) (cs : Nat → ClassId) (sz : Nat) : KI l yX9_in wsX9_in 0 0 0 0 D cs sz [.int 6, .int 0, .int 12] [] (fun u => []) (1) := by
  refine KI.of cX9_in 3 (some .boolean) (by decide) rfl (Nat.le_of_ble_eq_true rfl) ?_
  intro p e s m below meth c A ls hx hb hr hml hown hts hlocks hin hP hN hD hA hS hl
  have hown : s.vm.findClass RX9 = some m.cls := hown
  have hl : lv_has ls 3 [(0, .int 6), (1, .int 0), (2, .int 12)] := hl
  refine lv_iload_n hx hb dX9_in_0 rfl (lv_at hl 0 rfl) ?_
  refine lv_iload_n hx hb dX9_in_1 rfl (lv_at hl 1 rfl) ?_
  refine lv_icmp_lt (tgt := 14) hx hb dX9_in_2 (by decide) (fun c9 => absurd c9 (by decide)) (fun _ => ?_)
  refine lv_iload_n hx hb dX9_in_5 rfl (lv_at hl 0 rfl) ?_
  refine lv_iload_n hx hb dX9_in_6 rfl (lv_at hl 2 rfl) ?_
  refine lv_icmp_gt (tgt := 14) hx hb dX9_in_7 (by decide) (fun c9 => absurd c9 (by decide)) (fun _ => ?_)
  refine lv_iconst (v := 1) hx hb dX9_in_10 (by decide) ?_
  refine lv_goto (tgt := 15) hx hb dX9_in_11 (by decide) ?_
  exact en_i (fun k => ([] : List Nat).getD k 0) hx hb hr hlocks rfl rfl hP hD hS (Nat.le_of_ble_eq_true rfl) (Nat.le_of_ble_eq_true rfl) dX9_in_15
set_option maxHeartbeats 4000000 in
set_option maxRecDepth 100000 in
theorem k91_X9_told (l : Launch) (D : va_G) (cs : Nat → ClassId) (sz : Nat) (a0 a1 a2 a3 a4 a5 a6 : Nat) : KI l yX9_told wsX9_told 0 0 0 0 D cs sz [.ref a0, .int 6] [(a0, .inr (9, [.int 0, .ref a2, .int 0, .int 0, .int 0, .int 0, .int 0, .int (-1), .ref a1, .ref a3, .ref a4, .ref a5, .int 0, .int 0, .int 0, .int 0, .int 0, .ref a6])), (a1, .inl (cs 0, 45783, .inl (layF (fun _ => 0) 1)))] (fun u => [(a0, .inr (9, [.int 0, .ref a2, .int 0, .int 0, .int 0, .int 0, .int 0, .int (-1), .ref a1, .ref a3, .ref a4, .ref a5, .int 0, .int 0, .int 0, .int 0, .int 0, .ref a6])), (a1, .inl (cs 0, 45783, .inl (layF (fun _ => 0) 1)))]) (0) := by
  refine KI.of cX9_told 2 (some .int) (by decide) rfl (Nat.le_of_ble_eq_true rfl) ?_
  intro p e s m below meth c A ls hx hb hr hml hown hts hlocks hin hP hN hD hA hS hl
  have hown : s.vm.findClass RX9 = some m.cls := hown
  have hl : lv_has ls 2 [(0, .ref a0), (1, .int 6)] := hl
  refine lv_iload_n hx hb dX9_told_0 rfl (lv_at hl 1 rfl) ?_
  refine lv_tableOut (tgt := 59) hx hb dX9_told_1 (by decide) (by decide) ?_
  refine lv_aload_n hx hb dX9_told_59 rfl (lv_at hl 0 rfl) ?_
  refine va_get (D := D) (ci := 9) (v := .ref a1) (C := RX9) (T := TX9) (N := 18) hx hb hts iX9_told_9 hown hN.1 hP 0 rfl rfl 8 (by decide) (hts _ mX9_told_1) (fun _ h9 => h9) rfl dX9_told_60 ?_
  refine lv_iload_n hx hb dX9_told_63 rfl (lv_at hl 1 rfl) ?_
  refine ld_i (v := 0) hx hb hN hP 1 rfl (vin (by decide +kernel)) (by first | rfl | decide +kernel) dX9_told_64 ?_
  exact en_i (fun k => ([] : List Nat).getD k 0) hx hb hr hlocks rfl rfl hP hD hS (Nat.le_of_ble_eq_true rfl) (Nat.le_of_ble_eq_true rfl) dX9_told_65
set_option maxHeartbeats 4000000 in
set_option maxRecDepth 100000 in
theorem k92_X9_state (l : Launch) (D : va_G) (cs : Nat → ClassId) (sz : Nat) (a0 a1 a2 a3 a4 a5 a6 : Nat) : KI l yX9_state wsX9_state 1 22 0 0 D cs sz [.ref a0, .int 6] [(a0, .inr (9, [.int 0, .ref a2, .int 0, .int 0, .int 0, .int 0, .int 0, .int (-1), .ref a1, .ref a3, .ref a4, .ref a5, .int 0, .int 0, .int 0, .int 0, .int 0, .ref a6])), (a1, .inl (cs 0, 45783, .inl (layF (fun _ => 0) 1)))] (fun u => [(a0, .inr (9, [.int 0, .ref a2, .int 0, .int 0, .int 0, .int 0, .int 0, .int (-1), .ref a1, .ref a3, .ref a4, .ref a5, .int 0, .int 0, .int 0, .int 0, .int 0, .ref a6])), (a1, .inl (cs 0, 45783, .inl (layF (fun _ => 0) 1)))]) (0) := by
  refine KI.of cX9_state 2 (some .int) (by decide) rfl (Nat.le_of_ble_eq_true rfl) ?_
  intro p e s m below meth c A ls hx hb hr hml hown hts hlocks hin hP hN hD hA hS hl
  have hown : s.vm.findClass RX9 = some m.cls := hown
  have hl : lv_has ls 2 [(0, .ref a0), (1, .int 6)] := hl
  refine lv_aload_n hx hb dX9_state_0 rfl (lv_at hl 0 rfl) ?_
  refine lv_iconst (v := 0) hx hb dX9_state_1 (by decide) ?_
  refine va_put (D := D) (ci := 9) (v := .int 0) (ty := .int) (C := RX9) (T := TX9) (N := 18) hx hb hts iX9_state_9 tyX9 tyX9_ok nmX9 hown hN.1 hP hD hS 0 rfl rfl 0 (by decide) (hts _ mX9_state_1) (fun _ h9 => h9) rfl (by decide +kernel) rfl rfl (Nat.le_of_ble_eq_true rfl) dX9_state_2 (fun H locs hP hD hS => ?_)
  have hP : va_P D vwCl [(a0, .inr (9, [.int 0, .ref a2, .int 0, .int 0, .int 0, .int 0, .int 0, .int (-1), .ref a1, .ref a3, .ref a4, .ref a5, .int 0, .int 0, .int 0, .int 0, .int 0, .ref a6])), (a1, .inl (cs 0, 45783, .inl (layF (fun _ => 0) 1)))] H := hP
  have hD : va_D A [(a0, .inr (9, [.int 0, .ref a2, .int 0, .int 0, .int 0, .int 0, .int 0, .int (-1), .ref a1, .ref a3, .ref a4, .ref a5, .int 0, .int 0, .int 0, .int 0, .int 0, .ref a6])), (a1, .inl (cs 0, 45783, .inl (layF (fun _ => 0) 1)))] := hD
  refine lv_aload_n hx hb dX9_state_5 rfl (lv_at hl 0 rfl) ?_
  refine lv_iload_n hx hb dX9_state_6 rfl (lv_at hl 1 rfl) ?_
  refine lv_iconst (v := 0) hx hb dX9_state_7 (by decide) ?_
  refine lv_bipush (v := 12) hx hb dX9_state_8 (by decide) ?_
  refine cs_i (As := [.int 6, .int 0, .int 12]) (rest := [.ref a0]) (wr := [(a0, .inr (9, [.int 0, .ref a2, .int 0, .int 0, .int 0, .int 0, .int 0, .int (-1), .ref a1, .ref a3, .ref a4, .ref a5, .int 0, .int 0, .int 0, .int 0, .int 0, .ref a6])), (a1, .inl (cs 0, 45783, .inl (layF (fun _ => 0) 1)))]) ⟨hx, hb, hml, hown, hts⟩ (fun sz => k90_X9_in l D cs sz ) (va_cwS 3 hts gX9_state_X9_in rfl rfl rfl hdX9_in_o ⟨Nat.le_of_ble_eq_true rfl, Nat.le_of_ble_eq_true rfl⟩) hN hP hD hS hA [] [0, 1] rfl rfl rfl rfl (by decide) rfl rfl hl.1 (Nat.le_of_ble_eq_true rfl) dX9_state_10 (Nat.le_of_ble_eq_true rfl) (Nat.le_of_ble_eq_true rfl) (fun u0 H locs hP hD hS => ?_)
  have hP : va_P D vwCl [(a0, .inr (9, [.int 0, .ref a2, .int 0, .int 0, .int 0, .int 0, .int 0, .int (-1), .ref a1, .ref a3, .ref a4, .ref a5, .int 0, .int 0, .int 0, .int 0, .int 0, .ref a6])), (a1, .inl (cs 0, 45783, .inl (layF (fun _ => 0) 1)))] H := hP
  have hD : va_D A [(a0, .inr (9, [.int 0, .ref a2, .int 0, .int 0, .int 0, .int 0, .int 0, .int (-1), .ref a1, .ref a3, .ref a4, .ref a5, .int 0, .int 0, .int 0, .int 0, .int 0, .ref a6])), (a1, .inl (cs 0, 45783, .inl (layF (fun _ => 0) 1)))] := hD
  refine W.widen (k := 0) (n := 0) (Nat.le_of_ble_eq_true rfl) (Nat.le_of_ble_eq_true rfl) ?_
  refine lv_if_ne (tgt := 20) hx hb dX9_state_13 (by decide) (fun _ => ?_) (fun c9 => absurd c9 (by decide))
  refine lv_iconst (v := 0) hx hb dX9_state_20 (by decide) ?_
  refine lv_iconst (v := 1) hx hb dX9_state_21 (by decide) ?_
  refine cv_i (As := [.int 0, .int 1]) (rest := []) (b := a0) (wr := [(a1, .inl (cs 0, 45783, .inl (layF (fun _ => 0) 1)))]) ⟨hx, hb, hml, hown, hts⟩ (fun sz => k47_X9_fails l D cs sz a0 a2 a1 a3 a4 a5 a6) (cwV 2 hts gX9_state_X9_fails rfl rfl rfl hdX9_fails_v ⟨Nat.le_of_ble_eq_true rfl, Nat.le_of_ble_eq_true rfl⟩) hN hP hD hS hA [0] [1] rfl rfl rfl rfl (by decide) (ci := 9) (q0 := 0) rfl rfl rfl rfl hl.1 (Nat.le_of_ble_eq_true rfl) dX9_state_22 (Nat.le_of_ble_eq_true rfl) (Nat.le_of_ble_eq_true rfl) (fun u1 H locs hP hD hS => ?_)
  have hP : va_P D vwCl [(a1, .inl (cs 0, 45783, .inl (layF (fun _ => 0) 1))), (a0, .inr (9, [.int 0, .ref a2, .int 0, .int 0, .int 0, .int 0, .int 0, .int (-1), .ref a1, .ref a3, .ref a4, .ref a5, .int 0, .int 0, .int 0, .int 0, .int 0, .ref a6]))] H := hP
  have hD : va_D A [(a1, .inl (cs 0, 45783, .inl (layF (fun _ => 0) 1))), (a0, .inr (9, [.int 0, .ref a2, .int 0, .int 0, .int 0, .int 0, .int 0, .int (-1), .ref a1, .ref a3, .ref a4, .ref a5, .int 0, .int 0, .int 0, .int 0, .int 0, .ref a6]))] := hD
  refine W.widen (k := 0) (n := 0) (Nat.le_of_ble_eq_true rfl) (Nat.le_of_ble_eq_true rfl) ?_
  refine lv_if_eq (tgt := 32) hx hb dX9_state_25 (by decide) (fun _ => ?_) (fun c9 => absurd (by decide) c9)
  refine lv_aload_n hx hb dX9_state_32 rfl (lv_at hl 0 rfl) ?_
  refine lv_iload_n hx hb dX9_state_33 rfl (lv_at hl 1 rfl) ?_
  refine cv_i (As := [.int 6]) (rest := []) (b := a0) (wr := []) ⟨hx, hb, hml, hown, hts⟩ (fun sz => k91_X9_told l D cs sz a0 a1 a2 a3 a4 a5 a6) (cwV 1 hts gX9_state_X9_told rfl rfl rfl hdX9_told_v ⟨Nat.le_of_ble_eq_true rfl, Nat.le_of_ble_eq_true rfl⟩) hN hP hD hS hA [1, 0] [] rfl rfl rfl rfl (by decide) (ci := 9) (q0 := 0) rfl rfl rfl rfl hl.1 (Nat.le_of_ble_eq_true rfl) dX9_state_34 (Nat.le_of_ble_eq_true rfl) (Nat.le_of_ble_eq_true rfl) (fun u2 H locs hP hD hS => ?_)
  have hP : va_P D vwCl [(a0, .inr (9, [.int 0, .ref a2, .int 0, .int 0, .int 0, .int 0, .int 0, .int (-1), .ref a1, .ref a3, .ref a4, .ref a5, .int 0, .int 0, .int 0, .int 0, .int 0, .ref a6])), (a1, .inl (cs 0, 45783, .inl (layF (fun _ => 0) 1)))] H := hP
  have hD : va_D A [(a0, .inr (9, [.int 0, .ref a2, .int 0, .int 0, .int 0, .int 0, .int 0, .int (-1), .ref a1, .ref a3, .ref a4, .ref a5, .int 0, .int 0, .int 0, .int 0, .int 0, .ref a6])), (a1, .inl (cs 0, 45783, .inl (layF (fun _ => 0) 1)))] := hD
  refine W.widen (k := 0) (n := 0) (Nat.le_of_ble_eq_true rfl) (Nat.le_of_ble_eq_true rfl) ?_
  exact en_i (fun k => ([] : List Nat).getD k 0) hx hb hr hlocks rfl rfl hP hD hS (Nat.le_of_ble_eq_true rfl) (Nat.le_of_ble_eq_true rfl) dX9_state_37
set_option maxHeartbeats 4000000 in
set_option maxRecDepth 100000 in
theorem law_3_6 {p : Program} {l : Launch} {e : Env} {s : State} {m : MethodId} {args : Array Value} {below : List Frame} {meth : Method} {c : Code} {Q : State → Prop} {D : va_G} {cs : Nat → ClassId} {A : Nat → Prop} {xs : Nat → Int32} {b : Nat} (hx : p.tables.exec = Jvm.exec) (hb : c.code = cL_law) (hml : c.maxLocals = 9) (hown : s.vm.findClass RL = some m.cls) (hts : ∀ w ∈ wsL_law, w.before args s = true) (hN : NK D cs s) (hX : va_X b 6 xs s s.heap) (hbl : b < s.heap.size) (hbA : ¬ A b) (hA : ∀ q : Nat, s.heap.size ≤ q → A q) (hZ : ZX A s s.heap) (hZS : ZS cs A s s.heap) (hlt : l.stackTraces = false)
    (kend : ∀ (H : Heap) (locs : List Loc) (ls : Array Slot), va_S A s.heap H locs → lv_has ls 9 [(0, .ref b), (4, .int 0)] → W p l e room_1 s m args below meth c H locs 600002 7302232 Q (F0 m 1169 ls []))
    (a0 a1 a2 a3 a4 a5 a6 a7 a8 a9 a10 a11 a12 a13 a14 a15 a16 a17 a18 : Nat) (hy1 : xs 1 = (6))  (H : Heap) (locs : List Loc) (ls : Array Slot) (hP : va_P D vwCl [(a0, .inr (8, [.ref a5, .ref a1, .ref a6, .ref a7, .int 0, .int 0, .int (-1)])), (a1, .inr (7, [.ref a8, .ref a9, .ref a10, .ref a11, .ref a12, .ref a13, .long 0, .int 0, .int 0, .int 0, .int 0, .int 0, .int 0, .int 0, .int 0, .int 0])), (a2, .inr (9, [.int 0, .ref a14, .int 0, .int 0, .int 0, .int 0, .int 0, .int (-1), .ref a3, .ref a15, .ref a16, .ref a17, .int 0, .int 0, .int 0, .int 0, .int 0, .ref a18])), (a3, .inl (cs 0, 45783, .inl (layF (fun _ => 0) 1))), (a4, .inl (cs 3, 1, .inr (.inl (fun _ => 0))))] H) (hD : va_D A [(a0, .inr (8, [.ref a5, .ref a1, .ref a6, .ref a7, .int 0, .int 0, .int (-1)])), (a1, .inr (7, [.ref a8, .ref a9, .ref a10, .ref a11, .ref a12, .ref a13, .long 0, .int 0, .int 0, .int 0, .int 0, .int 0, .int 0, .int 0, .int 0, .int 0])), (a2, .inr (9, [.int 0, .ref a14, .int 0, .int 0, .int 0, .int 0, .int 0, .int (-1), .ref a3, .ref a15, .ref a16, .ref a17, .int 0, .int 0, .int 0, .int 0, .int 0, .ref a18])), (a3, .inl (cs 0, 45783, .inl (layF (fun _ => 0) 1))), (a4, .inl (cs 3, 1, .inr (.inl (fun _ => 0))))]) (hS : va_S A s.heap H locs) (hl : lv_has ls 9 [(4, .int 0), (3, .ref a4), (2, .ref a2), (1, .ref a0), (0, .ref b)]) : W p l e room_1 s m args below meth c H locs 391 467079 Q (F0 m 278 ls []) := by
  refine lv_aload_n hx hb dL_law_278 rfl (lv_at hl 3 rfl) ?_
  refine lv_aload_n hx hb dL_law_279 rfl (lv_at hl 4 rfl) ?_
  refine lv_iload hx hb dL_law_280 (lv_at hl 0 rfl) ?_
  refine lv_iconst (v := 1) hx hb dL_law_282 (by decide) ?_
  refine lv_iadd hx hb dL_law_283 ?_
  refine tp_i (1) (by decide) ?_
  refine va_sld hx hb hX hbl hbA hS (vin (by decide +kernel)) dL_law_284 ?_
  refine tp_i (6) hy1 ?_
  refine lv_aload_n hx hb dL_law_285 rfl (lv_at hl 1 rfl) ?_
  refine ch_i (As := [.ref a0, .int 6, .ref a4]) (rest := []) (wr := [(a2, .inr (9, [.int 0, .ref a14, .int 0, .int 0, .int 0, .int 0, .int 0, .int (-1), .ref a3, .ref a15, .ref a16, .ref a17, .int 0, .int 0, .int 0, .int 0, .int 0, .ref a18])), (a3, .inl (cs 0, 45783, .inl (layF (fun _ => 0) 1)))]) ⟨hx, hb, hml, hown, hts⟩ (fun sz => k89_L_state l D cs sz hlt a0 a1 a4 a5 a6 a7 a8 a9 a10 a11 a12 a13) (vx_cwSW 3 hts gL_law_L_state rfl rfl rfl hdL_state_o ⟨Nat.le_of_ble_eq_true rfl, Nat.le_of_ble_eq_true rfl⟩) hN hP hD hS hA hZ [0, 1, 4] [2, 3] rfl rfl rfl rfl (by decide) rfl rfl hl.1 (Nat.le_of_ble_eq_true rfl) dL_law_286 (Nat.le_of_ble_eq_true rfl) (Nat.le_of_ble_eq_true rfl) (fun u0 H locs hP hD hS => ?_)
  have hP : va_P D vwCl [(a2, .inr (9, [.int 0, .ref a14, .int 0, .int 0, .int 0, .int 0, .int 0, .int (-1), .ref a3, .ref a15, .ref a16, .ref a17, .int 0, .int 0, .int 0, .int 0, .int 0, .ref a18])), (a3, .inl (cs 0, 45783, .inl (layF (fun _ => 0) 1))), (a4, .inl (cs 3, 1, .inr (.inl (fun _ => 0)))), (a0, .inr (8, [.ref a5, .ref a1, .ref a6, .ref a7, .int 0, .int 0, .int (-1)])), (a1, .inr (7, [.ref a8, .ref a9, .ref a10, .ref a11, .ref a12, .ref a13, .long 0, .int 0, .int 0, .int 0, .int 0, .int 0, .int 0, .int 0, .int 0, .int 0]))] H := hP
  have hD : va_D A [(a2, .inr (9, [.int 0, .ref a14, .int 0, .int 0, .int 0, .int 0, .int 0, .int (-1), .ref a3, .ref a15, .ref a16, .ref a17, .int 0, .int 0, .int 0, .int 0, .int 0, .ref a18])), (a3, .inl (cs 0, 45783, .inl (layF (fun _ => 0) 1))), (a4, .inl (cs 3, 1, .inr (.inl (fun _ => 0)))), (a0, .inr (8, [.ref a5, .ref a1, .ref a6, .ref a7, .int 0, .int 0, .int (-1)])), (a1, .inr (7, [.ref a8, .ref a9, .ref a10, .ref a11, .ref a12, .ref a13, .long 0, .int 0, .int 0, .int 0, .int 0, .int 0, .int 0, .int 0, .int 0, .int 0]))] := hD
  refine W.widen (k := 391) (n := 467079) (Nat.le_of_ble_eq_true rfl) (Nat.le_of_ble_eq_true rfl) ?_
  refine lv_istore (lv' := [(5, .int 0), (4, .int 0), (3, .ref a4), (2, .ref a2), (1, .ref a0), (0, .ref b)]) hx hb dL_law_289 hl (by decide) rfl (fun ls hl => ?_)
  refine lv_aload_n hx hb dL_law_291 rfl (lv_at hl 3 rfl) ?_
  refine lv_aload_n hx hb dL_law_292 rfl (lv_at hl 5 rfl) ?_
  refine lv_iload hx hb dL_law_293 (lv_at hl 1 rfl) ?_
  refine lv_iconst (v := 1) hx hb dL_law_295 (by decide) ?_
  refine lv_iadd hx hb dL_law_296 ?_
  refine tp_i (1) (by decide) ?_
  refine va_sld hx hb hX hbl hbA hS (vin (by decide +kernel)) dL_law_297 ?_
  refine tp_i (6) hy1 ?_
  refine cv_i (As := [.int 6]) (rest := []) (b := a2) (wr := [(a4, .inl (cs 3, 1, .inr (.inl (fun _ => 0)))), (a0, .inr (8, [.ref a5, .ref a1, .ref a6, .ref a7, .int 0, .int 0, .int (-1)])), (a1, .inr (7, [.ref a8, .ref a9, .ref a10, .ref a11, .ref a12, .ref a13, .long 0, .int 0, .int 0, .int 0, .int 0, .int 0, .int 0, .int 0, .int 0, .int 0]))]) ⟨hx, hb, hml, hown, hts⟩ (fun sz => k92_X9_state l D cs sz a2 a3 a14 a15 a16 a17 a18) (cwV 1 hts gL_law_X9_state rfl rfl rfl hdX9_state_v ⟨Nat.le_of_ble_eq_true rfl, Nat.le_of_ble_eq_true rfl⟩) hN hP hD hS hA [0, 1] [2, 3, 4] rfl rfl rfl rfl (by decide) (ci := 9) (q0 := 0) rfl rfl rfl rfl hl.1 (Nat.le_of_ble_eq_true rfl) dL_law_298 (Nat.le_of_ble_eq_true rfl) (Nat.le_of_ble_eq_true rfl) (fun u1 H locs hP hD hS => ?_)
  have hP : va_P D vwCl [(a4, .inl (cs 3, 1, .inr (.inl (fun _ => 0)))), (a0, .inr (8, [.ref a5, .ref a1, .ref a6, .ref a7, .int 0, .int 0, .int (-1)])), (a1, .inr (7, [.ref a8, .ref a9, .ref a10, .ref a11, .ref a12, .ref a13, .long 0, .int 0, .int 0, .int 0, .int 0, .int 0, .int 0, .int 0, .int 0, .int 0])), (a2, .inr (9, [.int 0, .ref a14, .int 0, .int 0, .int 0, .int 0, .int 0, .int (-1), .ref a3, .ref a15, .ref a16, .ref a17, .int 0, .int 0, .int 0, .int 0, .int 0, .ref a18])), (a3, .inl (cs 0, 45783, .inl (layF (fun _ => 0) 1)))] H := hP
  have hD : va_D A [(a4, .inl (cs 3, 1, .inr (.inl (fun _ => 0)))), (a0, .inr (8, [.ref a5, .ref a1, .ref a6, .ref a7, .int 0, .int 0, .int (-1)])), (a1, .inr (7, [.ref a8, .ref a9, .ref a10, .ref a11, .ref a12, .ref a13, .long 0, .int 0, .int 0, .int 0, .int 0, .int 0, .int 0, .int 0, .int 0, .int 0])), (a2, .inr (9, [.int 0, .ref a14, .int 0, .int 0, .int 0, .int 0, .int 0, .int (-1), .ref a3, .ref a15, .ref a16, .ref a17, .int 0, .int 0, .int 0, .int 0, .int 0, .ref a18])), (a3, .inl (cs 0, 45783, .inl (layF (fun _ => 0) 1)))] := hD
  refine W.widen (k := 391) (n := 467079) (Nat.le_of_ble_eq_true rfl) (Nat.le_of_ble_eq_true rfl) ?_
  refine lv_istore (lv' := [(6, .int 0), (5, .int 0), (4, .int 0), (3, .ref a4), (2, .ref a2), (1, .ref a0), (0, .ref b)]) hx hb dL_law_301 hl (by decide) rfl (fun ls hl => ?_)
  refine lv_aload_n hx hb dL_law_303 rfl (lv_at hl 4 rfl) ?_
  refine cv_i (As := []) (rest := []) (b := a2) (wr := [(a4, .inl (cs 3, 1, .inr (.inl (fun _ => 0)))), (a0, .inr (8, [.ref a5, .ref a1, .ref a6, .ref a7, .int 0, .int 0, .int (-1)])), (a1, .inr (7, [.ref a8, .ref a9, .ref a10, .ref a11, .ref a12, .ref a13, .long 0, .int 0, .int 0, .int 0, .int 0, .int 0, .int 0, .int 0, .int 0, .int 0])), (a3, .inl (cs 0, 45783, .inl (layF (fun _ => 0) 1)))]) ⟨hx, hb, hml, hown, hts⟩ (fun sz => k50_X9_thrown l D cs sz a2 a14 a3 a15 a16 a17 a18) (cwV 0 hts gL_law_X9_thrown rfl rfl rfl hdX9_thrown_v ⟨Nat.le_of_ble_eq_true rfl, Nat.le_of_ble_eq_true rfl⟩) hN hP hD hS hA [3] [0, 1, 2, 4] rfl rfl rfl rfl (by decide) (ci := 9) (q0 := 0) rfl rfl rfl rfl hl.1 (Nat.le_of_ble_eq_true rfl) dL_law_304 (Nat.le_of_ble_eq_true rfl) (Nat.le_of_ble_eq_true rfl) (fun u2 H locs hP hD hS => ?_)
  have hP : va_P D vwCl [(a4, .inl (cs 3, 1, .inr (.inl (fun _ => 0)))), (a0, .inr (8, [.ref a5, .ref a1, .ref a6, .ref a7, .int 0, .int 0, .int (-1)])), (a1, .inr (7, [.ref a8, .ref a9, .ref a10, .ref a11, .ref a12, .ref a13, .long 0, .int 0, .int 0, .int 0, .int 0, .int 0, .int 0, .int 0, .int 0, .int 0])), (a3, .inl (cs 0, 45783, .inl (layF (fun _ => 0) 1))), (a2, .inr (9, [.int 0, .ref a14, .int 0, .int 0, .int 0, .int 0, .int 0, .int (-1), .ref a3, .ref a15, .ref a16, .ref a17, .int 0, .int 0, .int 0, .int 0, .int 0, .ref a18]))] H := hP
  have hD : va_D A [(a4, .inl (cs 3, 1, .inr (.inl (fun _ => 0)))), (a0, .inr (8, [.ref a5, .ref a1, .ref a6, .ref a7, .int 0, .int 0, .int (-1)])), (a1, .inr (7, [.ref a8, .ref a9, .ref a10, .ref a11, .ref a12, .ref a13, .long 0, .int 0, .int 0, .int 0, .int 0, .int 0, .int 0, .int 0, .int 0, .int 0])), (a3, .inl (cs 0, 45783, .inl (layF (fun _ => 0) 1))), (a2, .inr (9, [.int 0, .ref a14, .int 0, .int 0, .int 0, .int 0, .int 0, .int (-1), .ref a3, .ref a15, .ref a16, .ref a17, .int 0, .int 0, .int 0, .int 0, .int 0, .ref a18]))] := hD
  refine W.widen (k := 391) (n := 467079) (Nat.le_of_ble_eq_true rfl) (Nat.le_of_ble_eq_true rfl) ?_
  refine lv_iload hx hb dL_law_307 (lv_at hl 1 rfl) ?_
  refine lv_icmp_eq (tgt := 314) hx hb dL_law_309 (by decide) (fun _ => ?_) (fun c9 => absurd (by decide) c9)
  refine lv_iload hx hb dL_law_314 (lv_at hl 1 rfl) ?_
  refine lv_if_ne (tgt := 331) hx hb dL_law_316 (by decide) (fun c9 => absurd (by decide) c9) (fun _ => ?_)
  refine lv_aload_n hx hb dL_law_319 rfl (lv_at hl 3 rfl) ?_
  refine lv_iconst (v := 0) hx hb dL_law_320 (by decide) ?_
  refine ld_l (v := 0) hx hb hN hP 0 rfl (vin (by decide +kernel)) (by first | rfl | decide +kernel) dL_law_321 ?_
  refine lv_iload hx hb dL_law_322 (lv_at hl 0 rfl) ?_
  refine lv_i2l (v := 0) hx hb dL_law_324 (by decide) ?_
  refine W.lcmp hx hb dL_law_325 ?_
  refine tp_i (0) (by decide) ?_
  refine lv_if_eq (tgt := 331) hx hb dL_law_326 (by decide) (fun _ => ?_) (fun c9 => absurd (by decide) c9)
  refine lv_goto (tgt := 1169) hx hb dL_law_331 (by decide) ?_
  refine W.widen (k := 600002) (n := 7302232) (Nat.le_of_ble_eq_true rfl) (Nat.le_of_ble_eq_true rfl) ?_
  exact kend _ _ _ hS (lv_sub hl [6, 2] rfl)

set_option maxHeartbeats 4000000 in
set_option maxRecDepth 100000 in
theorem k93_X8_refuseWhatOutside (l : Launch) (D : va_G) (cs : Nat → ClassId) (sz : Nat) (a0 a1 a2 a3 a4 : Nat) : KV l yX8_refuseWhatOutside wsX8_refuseWhatOutside 0 0 0 0 D cs sz [.ref a0, .int 7, .int 12] [(a0, .inr (8, [.ref a1, .ref a2, .ref a3, .ref a4, .int 0, .int 0, .int (-1)]))] (fun u => [(a0, .inr (8, [.ref a1, .ref a2, .ref a3, .ref a4, .int 0, .int 0, .int (-1)]))]) := by
  refine KV.of cX8_refuseWhatOutside 3 none (by decide) rfl (Nat.le_of_ble_eq_true rfl) ?_
  intro p e s m below meth c A ls hx hb hr hml hown hts hlocks hin hP hN hD hA hS hl
  have hown : s.vm.findClass RX8 = some m.cls := hown
  have hl : lv_has ls 3 [(0, .ref a0), (1, .int 7), (2, .int 12)] := hl
  refine lv_iload_n hx hb dX8_refuseWhatOutside_0 rfl (lv_at hl 1 rfl) ?_
  refine lv_if_lt (tgt := 9) hx hb dX8_refuseWhatOutside_1 (by decide) (fun c9 => absurd c9 (by decide)) (fun _ => ?_)
  refine lv_iload_n hx hb dX8_refuseWhatOutside_4 rfl (lv_at hl 1 rfl) ?_
  refine lv_iload_n hx hb dX8_refuseWhatOutside_5 rfl (lv_at hl 2 rfl) ?_
  refine lv_icmp_le (tgt := 19) hx hb dX8_refuseWhatOutside_6 (by decide) (fun _ => ?_) (fun c9 => absurd (by decide) c9)
  exact en_v (fun k => ([] : List Nat).getD k 0) hx hb hr hlocks hP hD hS (Nat.le_of_ble_eq_true rfl) (Nat.le_of_ble_eq_true rfl) dX8_refuseWhatOutside_19
theorem mX7_count_8 : (.fieldLink RX7 80 "OneBeat$World" "committed" "I" : Cond) ∈ wsX7_count := List.mem_of_getElem? (i := 8) (by decide +kernel)
set_option maxHeartbeats 4000000 in
set_option maxRecDepth 100000 in
theorem k94_X7_count (l : Launch) (D : va_G) (cs : Nat → ClassId) (sz : Nat) (a0 a1 a2 a3 a4 a5 a6 : Nat) : KI l yX7_count wsX7_count 0 0 0 0 D cs sz [.ref a0, .int 7] [(a0, .inr (7, [.ref a1, .ref a2, .ref a3, .ref a4, .ref a5, .ref a6, .long 0, .int 0, .int 0, .int 0, .int 0, .int 0, .int 0, .int 0, .int 0, .int 0]))] (fun u => [(a0, .inr (7, [.ref a1, .ref a2, .ref a3, .ref a4, .ref a5, .ref a6, .long 0, .int 0, .int 0, .int 0, .int 0, .int 0, .int 0, .int 0, .int 0, .int 0]))]) (0) := by
  refine KI.of cX7_count 2 (some .int) (by decide) rfl (Nat.le_of_ble_eq_true rfl) ?_
  intro p e s m below meth c A ls hx hb hr hml hown hts hlocks hin hP hN hD hA hS hl
  have hown : s.vm.findClass RX7 = some m.cls := hown
  have hl : lv_has ls 2 [(0, .ref a0), (1, .int 7)] := hl
  refine lv_iload_n hx hb dX7_count_0 rfl (lv_at hl 1 rfl) ?_
  refine lv_tableIn (tgt := 105) (off := 104) hx hb dX7_count_1 (by decide) (by decide) (by decide) (by decide) ?_
  refine lv_aload_n hx hb dX7_count_105 rfl (lv_at hl 0 rfl) ?_
  refine va_get (D := D) (ci := 7) (v := .int 0) (C := RX7) (T := TX7) (N := 16) hx hb hts iX7_count_7 hown hN.1 hP 0 rfl rfl 12 (by decide) (hts _ mX7_count_8) (fun _ h9 => h9) rfl dX7_count_106 ?_
  exact en_i (fun k => ([] : List Nat).getD k 0) hx hb hr hlocks rfl rfl hP hD hS (Nat.le_of_ble_eq_true rfl) (Nat.le_of_ble_eq_true rfl) dX7_count_109
set_option maxHeartbeats 4000000 in
set_option maxRecDepth 100000 in
theorem k95_X8_state (l : Launch) (D : va_G) (cs : Nat → ClassId) (sz : Nat) (a0 a1 a2 a3 a4 a5 a6 a7 a8 a9 a10 : Nat) : KI l yX8_state wsX8_state 1 22 0 0 D cs sz [.ref a0, .int 7] [(a0, .inr (8, [.ref a2, .ref a1, .ref a3, .ref a4, .int 0, .int 0, .int (-1)])), (a1, .inr (7, [.ref a5, .ref a6, .ref a7, .ref a8, .ref a9, .ref a10, .long 0, .int 0, .int 0, .int 0, .int 0, .int 0, .int 0, .int 0, .int 0, .int 0]))] (fun u => [(a0, .inr (8, [.ref a2, .ref a1, .ref a3, .ref a4, .int 0, .int 0, .int (-1)])), (a1, .inr (7, [.ref a5, .ref a6, .ref a7, .ref a8, .ref a9, .ref a10, .long 0, .int 0, .int 0, .int 0, .int 0, .int 0, .int 0, .int 0, .int 0, .int 0]))]) (0) := by
  refine KI.of cX8_state 2 (some .int) (by decide) rfl (Nat.le_of_ble_eq_true rfl) ?_
  intro p e s m below meth c A ls hx hb hr hml hown hts hlocks hin hP hN hD hA hS hl
  have hown : s.vm.findClass RX8 = some m.cls := hown
  have hl : lv_has ls 2 [(0, .ref a0), (1, .int 7)] := hl
  refine lv_aload_n hx hb dX8_state_0 rfl (lv_at hl 0 rfl) ?_
  refine lv_iload_n hx hb dX8_state_1 rfl (lv_at hl 1 rfl) ?_
  refine lv_bipush (v := 12) hx hb dX8_state_2 (by decide) ?_
  refine cv_v (As := [.int 7, .int 12]) (rest := []) (b := a0) (wr := [(a1, .inr (7, [.ref a5, .ref a6, .ref a7, .ref a8, .ref a9, .ref a10, .long 0, .int 0, .int 0, .int 0, .int 0, .int 0, .int 0, .int 0, .int 0, .int 0]))]) ⟨hx, hb, hml, hown, hts⟩ (fun sz => k93_X8_refuseWhatOutside l D cs sz a0 a2 a1 a3 a4) (cwV 2 hts gX8_state_X8_refuseWhatOutside rfl rfl rfl hdX8_refuseWhatOutside_v ⟨Nat.le_of_ble_eq_true rfl, Nat.le_of_ble_eq_true rfl⟩) hN hP hD hS hA [0] [1] rfl rfl rfl rfl (by decide) (ci := 8) (q0 := 0) rfl rfl rfl rfl hl.1 (Nat.le_of_ble_eq_true rfl) dX8_state_4 (Nat.le_of_ble_eq_true rfl) (Nat.le_of_ble_eq_true rfl) (fun u0 H locs hP hD hS => ?_)
  have hP : va_P D vwCl [(a1, .inr (7, [.ref a5, .ref a6, .ref a7, .ref a8, .ref a9, .ref a10, .long 0, .int 0, .int 0, .int 0, .int 0, .int 0, .int 0, .int 0, .int 0, .int 0])), (a0, .inr (8, [.ref a2, .ref a1, .ref a3, .ref a4, .int 0, .int 0, .int (-1)]))] H := hP
  have hD : va_D A [(a1, .inr (7, [.ref a5, .ref a6, .ref a7, .ref a8, .ref a9, .ref a10, .long 0, .int 0, .int 0, .int 0, .int 0, .int 0, .int 0, .int 0, .int 0, .int 0])), (a0, .inr (8, [.ref a2, .ref a1, .ref a3, .ref a4, .int 0, .int 0, .int (-1)]))] := hD
  refine W.widen (k := 0) (n := 0) (Nat.le_of_ble_eq_true rfl) (Nat.le_of_ble_eq_true rfl) ?_
  refine lv_aload_n hx hb dX8_state_7 rfl (lv_at hl 0 rfl) ?_
  refine va_get (D := D) (ci := 8) (v := .ref a1) (C := RX8) (T := TX8) (N := 7) hx hb hts iX8_state_8 hown hN.1 hP 1 rfl rfl 1 (by decide) (hts _ mX8_state_1) (fun _ h9 => h9) rfl dX8_state_8 ?_
  refine lv_iload_n hx hb dX8_state_11 rfl (lv_at hl 1 rfl) ?_
  refine cv_i (As := [.int 7]) (rest := []) (b := a1) (wr := [(a0, .inr (8, [.ref a2, .ref a1, .ref a3, .ref a4, .int 0, .int 0, .int (-1)]))]) ⟨hx, hb, hml, hown, hts⟩ (fun sz => k94_X7_count l D cs sz a1 a5 a6 a7 a8 a9 a10) (cwV 1 hts gX8_state_X7_count rfl rfl rfl hdX7_count_v ⟨Nat.le_of_ble_eq_true rfl, Nat.le_of_ble_eq_true rfl⟩) hN hP hD hS hA [0] [1] rfl rfl rfl rfl (by decide) (ci := 7) (q0 := 0) rfl rfl rfl rfl hl.1 (Nat.le_of_ble_eq_true rfl) dX8_state_12 (Nat.le_of_ble_eq_true rfl) (Nat.le_of_ble_eq_true rfl) (fun u1 H locs hP hD hS => ?_)
  have hP : va_P D vwCl [(a0, .inr (8, [.ref a2, .ref a1, .ref a3, .ref a4, .int 0, .int 0, .int (-1)])), (a1, .inr (7, [.ref a5, .ref a6, .ref a7, .ref a8, .ref a9, .ref a10, .long 0, .int 0, .int 0, .int 0, .int 0, .int 0, .int 0, .int 0, .int 0, .int 0]))] H := hP
  have hD : va_D A [(a0, .inr (8, [.ref a2, .ref a1, .ref a3, .ref a4, .int 0, .int 0, .int (-1)])), (a1, .inr (7, [.ref a5, .ref a6, .ref a7, .ref a8, .ref a9, .ref a10, .long 0, .int 0, .int 0, .int 0, .int 0, .int 0, .int 0, .int 0, .int 0, .int 0]))] := hD
  refine W.widen (k := 0) (n := 0) (Nat.le_of_ble_eq_true rfl) (Nat.le_of_ble_eq_true rfl) ?_
  exact en_i (fun k => ([] : List Nat).getD k 0) hx hb hr hlocks rfl rfl hP hD hS (Nat.le_of_ble_eq_true rfl) (Nat.le_of_ble_eq_true rfl) dX8_state_15
set_option maxHeartbeats 4000000 in
set_option maxRecDepth 100000 in
theorem k96_L_state (l : Launch) (D : va_G) (cs : Nat → ClassId) (sz : Nat) (hlt : l.stackTraces = false) (a0 a1 a2 a3 a4 a5 a6 a7 a8 a9 a10 a11 : Nat) : KH l yL_state wsL_state 2 43 0 0 D cs sz [.ref a0, .int 7, .ref a2] [(a0, .inr (8, [.ref a3, .ref a1, .ref a4, .ref a5, .int 0, .int 0, .int (-1)])), (a1, .inr (7, [.ref a6, .ref a7, .ref a8, .ref a9, .ref a10, .ref a11, .long 0, .int 0, .int 0, .int 0, .int 0, .int 0, .int 0, .int 0, .int 0, .int 0])), (a2, .inl (cs 3, 1, .inr (.inl (fun _ => 0))))] (fun u => [(a2, .inl (cs 3, 1, .inr (.inl (fun _ => 0)))), (a0, .inr (8, [.ref a3, .ref a1, .ref a4, .ref a5, .int 0, .int 0, .int (-1)])), (a1, .inr (7, [.ref a6, .ref a7, .ref a8, .ref a9, .ref a10, .ref a11, .long 0, .int 0, .int 0, .int 0, .int 0, .int 0, .int 0, .int 0, .int 0, .int 0]))]) (0) := by
  refine KH.of cL_state 4 (some .int) (by decide) rfl (Nat.le_of_ble_eq_true rfl) ?_
  intro p e s m below meth c A ls hx hb hr hml hown hts hlocks htab hP hN hD hA hS hl hZ
  have hown : s.vm.findClass RL = some m.cls := hown
  have hl : lv_has ls 4 [(0, .ref a0), (1, .int 7), (2, .ref a2)] := hl
  refine lv_aload_n hx hb dL_state_0 rfl (lv_at hl 2 rfl) ?_
  refine lv_iconst (v := 0) hx hb dL_state_1 (by decide) ?_
  refine lv_aload_n hx hb dL_state_2 rfl (lv_at hl 0 rfl) ?_
  refine lv_iload_n hx hb dL_state_3 rfl (lv_at hl 1 rfl) ?_
  refine cv_i (As := [.int 7]) (rest := [.int 0, .ref a2]) (b := a0) (wr := [(a2, .inl (cs 3, 1, .inr (.inl (fun _ => 0))))]) ⟨hx, hb, hml, hown, hts⟩ (fun sz => k95_X8_state l D cs sz a0 a1 a3 a4 a5 a6 a7 a8 a9 a10 a11) (cwV 1 hts gL_state_X8_state rfl rfl rfl hdX8_state_v ⟨Nat.le_of_ble_eq_true rfl, Nat.le_of_ble_eq_true rfl⟩) hN hP hD hS hA [0, 1] [2] rfl rfl rfl rfl (by decide) (ci := 8) (q0 := 0) rfl rfl rfl rfl hl.1 (Nat.le_of_ble_eq_true rfl) dL_state_4 (Nat.le_of_ble_eq_true rfl) (Nat.le_of_ble_eq_true rfl) (fun u0 H locs hP hD hS => ?_)
  have hP : va_P D vwCl [(a2, .inl (cs 3, 1, .inr (.inl (fun _ => 0)))), (a0, .inr (8, [.ref a3, .ref a1, .ref a4, .ref a5, .int 0, .int 0, .int (-1)])), (a1, .inr (7, [.ref a6, .ref a7, .ref a8, .ref a9, .ref a10, .ref a11, .long 0, .int 0, .int 0, .int 0, .int 0, .int 0, .int 0, .int 0, .int 0, .int 0]))] H := hP
  have hD : va_D A [(a2, .inl (cs 3, 1, .inr (.inl (fun _ => 0)))), (a0, .inr (8, [.ref a3, .ref a1, .ref a4, .ref a5, .int 0, .int 0, .int (-1)])), (a1, .inr (7, [.ref a6, .ref a7, .ref a8, .ref a9, .ref a10, .ref a11, .long 0, .int 0, .int 0, .int 0, .int 0, .int 0, .int 0, .int 0, .int 0, .int 0]))] := hD
  refine W.widen (k := 0) (n := 0) (Nat.le_of_ble_eq_true rfl) (Nat.le_of_ble_eq_true rfl) ?_
  refine lv_i2l (v := 0) hx hb dL_state_7 (by decide) ?_
  refine st_l (g := (fun _ => 0)) hx hb hN hP hD hS 0 rfl (vin (by decide +kernel)) (funext (fun j9 => by unfold vp_updL; split <;> rename_i h9 <;> first | rfl | (subst h9; rfl))) dL_state_8 (fun H locs hP hD hS => ?_)
  have hP : va_P D vwCl [(a2, .inl (cs 3, 1, .inr (.inl (fun _ => 0)))), (a0, .inr (8, [.ref a3, .ref a1, .ref a4, .ref a5, .int 0, .int 0, .int (-1)])), (a1, .inr (7, [.ref a6, .ref a7, .ref a8, .ref a9, .ref a10, .ref a11, .long 0, .int 0, .int 0, .int 0, .int 0, .int 0, .int 0, .int 0, .int 0, .int 0]))] H := hP
  have hD : va_D A [(a2, .inl (cs 3, 1, .inr (.inl (fun _ => 0)))), (a0, .inr (8, [.ref a3, .ref a1, .ref a4, .ref a5, .int 0, .int 0, .int (-1)])), (a1, .inr (7, [.ref a6, .ref a7, .ref a8, .ref a9, .ref a10, .ref a11, .long 0, .int 0, .int 0, .int 0, .int 0, .int 0, .int 0, .int 0, .int 0, .int 0]))] := hD
  refine lv_goto (tgt := 15) hx hb dL_state_9 (by decide) ?_
  refine lv_iconst (v := 0) hx hb dL_state_15 (by decide) ?_
  exact en_i (fun k => ([] : List Nat).getD k 0) hx hb hr hlocks rfl rfl hP hD hS (Nat.le_of_ble_eq_true rfl) (Nat.le_of_ble_eq_true rfl) dL_state_16
set_option maxHeartbeats 4000000 in
set_option maxRecDepth 100000 in
theorem k97_X9_in (l : Launch) (D : va_G) (cs : Nat → ClassId) (sz : Nat) : KI l yX9_in wsX9_in 0 0 0 0 D cs sz [.int 7, .int 0, .int 12] [] (fun u => []) (1) := by
  refine KI.of cX9_in 3 (some .boolean) (by decide) rfl (Nat.le_of_ble_eq_true rfl) ?_
  intro p e s m below meth c A ls hx hb hr hml hown hts hlocks hin hP hN hD hA hS hl
  have hown : s.vm.findClass RX9 = some m.cls := hown
  have hl : lv_has ls 3 [(0, .int 7), (1, .int 0), (2, .int 12)] := hl
  refine lv_iload_n hx hb dX9_in_0 rfl (lv_at hl 0 rfl) ?_
  refine lv_iload_n hx hb dX9_in_1 rfl (lv_at hl 1 rfl) ?_
  refine lv_icmp_lt (tgt := 14) hx hb dX9_in_2 (by decide) (fun c9 => absurd c9 (by decide)) (fun _ => ?_)
  refine lv_iload_n hx hb dX9_in_5 rfl (lv_at hl 0 rfl) ?_
  refine lv_iload_n hx hb dX9_in_6 rfl (lv_at hl 2 rfl) ?_
  refine lv_icmp_gt (tgt := 14) hx hb dX9_in_7 (by decide) (fun c9 => absurd c9 (by decide)) (fun _ => ?_)
  refine lv_iconst (v := 1) hx hb dX9_in_10 (by decide) ?_
  refine lv_goto (tgt := 15) hx hb dX9_in_11 (by decide) ?_
  exact en_i (fun k => ([] : List Nat).getD k 0) hx hb hr hlocks rfl rfl hP hD hS (Nat.le_of_ble_eq_true rfl) (Nat.le_of_ble_eq_true rfl) dX9_in_15
set_option maxHeartbeats 4000000 in
set_option maxRecDepth 100000 in
theorem k98_X9_told (l : Launch) (D : va_G) (cs : Nat → ClassId) (sz : Nat) (a0 a1 a2 a3 a4 a5 a6 : Nat) : KI l yX9_told wsX9_told 0 0 0 0 D cs sz [.ref a0, .int 7] [(a0, .inr (9, [.int 0, .ref a2, .int 0, .int 0, .int 0, .int 0, .int 0, .int (-1), .ref a1, .ref a3, .ref a4, .ref a5, .int 0, .int 0, .int 0, .int 0, .int 0, .ref a6])), (a1, .inl (cs 0, 45783, .inl (layF (fun _ => 0) 1)))] (fun u => [(a0, .inr (9, [.int 0, .ref a2, .int 0, .int 0, .int 0, .int 0, .int 0, .int (-1), .ref a1, .ref a3, .ref a4, .ref a5, .int 0, .int 0, .int 0, .int 0, .int 0, .ref a6])), (a1, .inl (cs 0, 45783, .inl (layF (fun _ => 0) 1)))]) (0) := by
  refine KI.of cX9_told 2 (some .int) (by decide) rfl (Nat.le_of_ble_eq_true rfl) ?_
  intro p e s m below meth c A ls hx hb hr hml hown hts hlocks hin hP hN hD hA hS hl
  have hown : s.vm.findClass RX9 = some m.cls := hown
  have hl : lv_has ls 2 [(0, .ref a0), (1, .int 7)] := hl
  refine lv_iload_n hx hb dX9_told_0 rfl (lv_at hl 1 rfl) ?_
  refine lv_tableOut (tgt := 59) hx hb dX9_told_1 (by decide) (by decide) ?_
  refine lv_aload_n hx hb dX9_told_59 rfl (lv_at hl 0 rfl) ?_
  refine va_get (D := D) (ci := 9) (v := .ref a1) (C := RX9) (T := TX9) (N := 18) hx hb hts iX9_told_9 hown hN.1 hP 0 rfl rfl 8 (by decide) (hts _ mX9_told_1) (fun _ h9 => h9) rfl dX9_told_60 ?_
  refine lv_iload_n hx hb dX9_told_63 rfl (lv_at hl 1 rfl) ?_
  refine ld_i (v := 0) hx hb hN hP 1 rfl (vin (by decide +kernel)) (by first | rfl | decide +kernel) dX9_told_64 ?_
  exact en_i (fun k => ([] : List Nat).getD k 0) hx hb hr hlocks rfl rfl hP hD hS (Nat.le_of_ble_eq_true rfl) (Nat.le_of_ble_eq_true rfl) dX9_told_65
set_option maxHeartbeats 4000000 in
set_option maxRecDepth 100000 in
theorem k99_X9_state (l : Launch) (D : va_G) (cs : Nat → ClassId) (sz : Nat) (a0 a1 a2 a3 a4 a5 a6 : Nat) : KI l yX9_state wsX9_state 1 22 0 0 D cs sz [.ref a0, .int 7] [(a0, .inr (9, [.int 0, .ref a2, .int 0, .int 0, .int 0, .int 0, .int 0, .int (-1), .ref a1, .ref a3, .ref a4, .ref a5, .int 0, .int 0, .int 0, .int 0, .int 0, .ref a6])), (a1, .inl (cs 0, 45783, .inl (layF (fun _ => 0) 1)))] (fun u => [(a0, .inr (9, [.int 0, .ref a2, .int 0, .int 0, .int 0, .int 0, .int 0, .int (-1), .ref a1, .ref a3, .ref a4, .ref a5, .int 0, .int 0, .int 0, .int 0, .int 0, .ref a6])), (a1, .inl (cs 0, 45783, .inl (layF (fun _ => 0) 1)))]) (0) := by
  refine KI.of cX9_state 2 (some .int) (by decide) rfl (Nat.le_of_ble_eq_true rfl) ?_
  intro p e s m below meth c A ls hx hb hr hml hown hts hlocks hin hP hN hD hA hS hl
  have hown : s.vm.findClass RX9 = some m.cls := hown
  have hl : lv_has ls 2 [(0, .ref a0), (1, .int 7)] := hl
  refine lv_aload_n hx hb dX9_state_0 rfl (lv_at hl 0 rfl) ?_
  refine lv_iconst (v := 0) hx hb dX9_state_1 (by decide) ?_
  refine va_put (D := D) (ci := 9) (v := .int 0) (ty := .int) (C := RX9) (T := TX9) (N := 18) hx hb hts iX9_state_9 tyX9 tyX9_ok nmX9 hown hN.1 hP hD hS 0 rfl rfl 0 (by decide) (hts _ mX9_state_1) (fun _ h9 => h9) rfl (by decide +kernel) rfl rfl (Nat.le_of_ble_eq_true rfl) dX9_state_2 (fun H locs hP hD hS => ?_)
  have hP : va_P D vwCl [(a0, .inr (9, [.int 0, .ref a2, .int 0, .int 0, .int 0, .int 0, .int 0, .int (-1), .ref a1, .ref a3, .ref a4, .ref a5, .int 0, .int 0, .int 0, .int 0, .int 0, .ref a6])), (a1, .inl (cs 0, 45783, .inl (layF (fun _ => 0) 1)))] H := hP
  have hD : va_D A [(a0, .inr (9, [.int 0, .ref a2, .int 0, .int 0, .int 0, .int 0, .int 0, .int (-1), .ref a1, .ref a3, .ref a4, .ref a5, .int 0, .int 0, .int 0, .int 0, .int 0, .ref a6])), (a1, .inl (cs 0, 45783, .inl (layF (fun _ => 0) 1)))] := hD
  refine lv_aload_n hx hb dX9_state_5 rfl (lv_at hl 0 rfl) ?_
  refine lv_iload_n hx hb dX9_state_6 rfl (lv_at hl 1 rfl) ?_
  refine lv_iconst (v := 0) hx hb dX9_state_7 (by decide) ?_
  refine lv_bipush (v := 12) hx hb dX9_state_8 (by decide) ?_
  refine cs_i (As := [.int 7, .int 0, .int 12]) (rest := [.ref a0]) (wr := [(a0, .inr (9, [.int 0, .ref a2, .int 0, .int 0, .int 0, .int 0, .int 0, .int (-1), .ref a1, .ref a3, .ref a4, .ref a5, .int 0, .int 0, .int 0, .int 0, .int 0, .ref a6])), (a1, .inl (cs 0, 45783, .inl (layF (fun _ => 0) 1)))]) ⟨hx, hb, hml, hown, hts⟩ (fun sz => k97_X9_in l D cs sz ) (va_cwS 3 hts gX9_state_X9_in rfl rfl rfl hdX9_in_o ⟨Nat.le_of_ble_eq_true rfl, Nat.le_of_ble_eq_true rfl⟩) hN hP hD hS hA [] [0, 1] rfl rfl rfl rfl (by decide) rfl rfl hl.1 (Nat.le_of_ble_eq_true rfl) dX9_state_10 (Nat.le_of_ble_eq_true rfl) (Nat.le_of_ble_eq_true rfl) (fun u0 H locs hP hD hS => ?_)
  have hP : va_P D vwCl [(a0, .inr (9, [.int 0, .ref a2, .int 0, .int 0, .int 0, .int 0, .int 0, .int (-1), .ref a1, .ref a3, .ref a4, .ref a5, .int 0, .int 0, .int 0, .int 0, .int 0, .ref a6])), (a1, .inl (cs 0, 45783, .inl (layF (fun _ => 0) 1)))] H := hP
  have hD : va_D A [(a0, .inr (9, [.int 0, .ref a2, .int 0, .int 0, .int 0, .int 0, .int 0, .int (-1), .ref a1, .ref a3, .ref a4, .ref a5, .int 0, .int 0, .int 0, .int 0, .int 0, .ref a6])), (a1, .inl (cs 0, 45783, .inl (layF (fun _ => 0) 1)))] := hD
  refine W.widen (k := 0) (n := 0) (Nat.le_of_ble_eq_true rfl) (Nat.le_of_ble_eq_true rfl) ?_
  refine lv_if_ne (tgt := 20) hx hb dX9_state_13 (by decide) (fun _ => ?_) (fun c9 => absurd c9 (by decide))
  refine lv_iconst (v := 0) hx hb dX9_state_20 (by decide) ?_
  refine lv_iconst (v := 1) hx hb dX9_state_21 (by decide) ?_
  refine cv_i (As := [.int 0, .int 1]) (rest := []) (b := a0) (wr := [(a1, .inl (cs 0, 45783, .inl (layF (fun _ => 0) 1)))]) ⟨hx, hb, hml, hown, hts⟩ (fun sz => k47_X9_fails l D cs sz a0 a2 a1 a3 a4 a5 a6) (cwV 2 hts gX9_state_X9_fails rfl rfl rfl hdX9_fails_v ⟨Nat.le_of_ble_eq_true rfl, Nat.le_of_ble_eq_true rfl⟩) hN hP hD hS hA [0] [1] rfl rfl rfl rfl (by decide) (ci := 9) (q0 := 0) rfl rfl rfl rfl hl.1 (Nat.le_of_ble_eq_true rfl) dX9_state_22 (Nat.le_of_ble_eq_true rfl) (Nat.le_of_ble_eq_true rfl) (fun u1 H locs hP hD hS => ?_)
  have hP : va_P D vwCl [(a1, .inl (cs 0, 45783, .inl (layF (fun _ => 0) 1))), (a0, .inr (9, [.int 0, .ref a2, .int 0, .int 0, .int 0, .int 0, .int 0, .int (-1), .ref a1, .ref a3, .ref a4, .ref a5, .int 0, .int 0, .int 0, .int 0, .int 0, .ref a6]))] H := hP
  have hD : va_D A [(a1, .inl (cs 0, 45783, .inl (layF (fun _ => 0) 1))), (a0, .inr (9, [.int 0, .ref a2, .int 0, .int 0, .int 0, .int 0, .int 0, .int (-1), .ref a1, .ref a3, .ref a4, .ref a5, .int 0, .int 0, .int 0, .int 0, .int 0, .ref a6]))] := hD
  refine W.widen (k := 0) (n := 0) (Nat.le_of_ble_eq_true rfl) (Nat.le_of_ble_eq_true rfl) ?_
  refine lv_if_eq (tgt := 32) hx hb dX9_state_25 (by decide) (fun _ => ?_) (fun c9 => absurd (by decide) c9)
  refine lv_aload_n hx hb dX9_state_32 rfl (lv_at hl 0 rfl) ?_
  refine lv_iload_n hx hb dX9_state_33 rfl (lv_at hl 1 rfl) ?_
  refine cv_i (As := [.int 7]) (rest := []) (b := a0) (wr := []) ⟨hx, hb, hml, hown, hts⟩ (fun sz => k98_X9_told l D cs sz a0 a1 a2 a3 a4 a5 a6) (cwV 1 hts gX9_state_X9_told rfl rfl rfl hdX9_told_v ⟨Nat.le_of_ble_eq_true rfl, Nat.le_of_ble_eq_true rfl⟩) hN hP hD hS hA [1, 0] [] rfl rfl rfl rfl (by decide) (ci := 9) (q0 := 0) rfl rfl rfl rfl hl.1 (Nat.le_of_ble_eq_true rfl) dX9_state_34 (Nat.le_of_ble_eq_true rfl) (Nat.le_of_ble_eq_true rfl) (fun u2 H locs hP hD hS => ?_)
  have hP : va_P D vwCl [(a0, .inr (9, [.int 0, .ref a2, .int 0, .int 0, .int 0, .int 0, .int 0, .int (-1), .ref a1, .ref a3, .ref a4, .ref a5, .int 0, .int 0, .int 0, .int 0, .int 0, .ref a6])), (a1, .inl (cs 0, 45783, .inl (layF (fun _ => 0) 1)))] H := hP
  have hD : va_D A [(a0, .inr (9, [.int 0, .ref a2, .int 0, .int 0, .int 0, .int 0, .int 0, .int (-1), .ref a1, .ref a3, .ref a4, .ref a5, .int 0, .int 0, .int 0, .int 0, .int 0, .ref a6])), (a1, .inl (cs 0, 45783, .inl (layF (fun _ => 0) 1)))] := hD
  refine W.widen (k := 0) (n := 0) (Nat.le_of_ble_eq_true rfl) (Nat.le_of_ble_eq_true rfl) ?_
  exact en_i (fun k => ([] : List Nat).getD k 0) hx hb hr hlocks rfl rfl hP hD hS (Nat.le_of_ble_eq_true rfl) (Nat.le_of_ble_eq_true rfl) dX9_state_37
set_option maxHeartbeats 4000000 in
set_option maxRecDepth 100000 in
theorem law_3_7 {p : Program} {l : Launch} {e : Env} {s : State} {m : MethodId} {args : Array Value} {below : List Frame} {meth : Method} {c : Code} {Q : State → Prop} {D : va_G} {cs : Nat → ClassId} {A : Nat → Prop} {xs : Nat → Int32} {b : Nat} (hx : p.tables.exec = Jvm.exec) (hb : c.code = cL_law) (hml : c.maxLocals = 9) (hown : s.vm.findClass RL = some m.cls) (hts : ∀ w ∈ wsL_law, w.before args s = true) (hN : NK D cs s) (hX : va_X b 6 xs s s.heap) (hbl : b < s.heap.size) (hbA : ¬ A b) (hA : ∀ q : Nat, s.heap.size ≤ q → A q) (hZ : ZX A s s.heap) (hZS : ZS cs A s s.heap) (hlt : l.stackTraces = false)
    (kend : ∀ (H : Heap) (locs : List Loc) (ls : Array Slot), va_S A s.heap H locs → lv_has ls 9 [(0, .ref b), (4, .int 0)] → W p l e room_1 s m args below meth c H locs 600002 7302232 Q (F0 m 1169 ls []))
    (a0 a1 a2 a3 a4 a5 a6 a7 a8 a9 a10 a11 a12 a13 a14 a15 a16 a17 a18 : Nat) (hy1 : xs 1 = (7))  (H : Heap) (locs : List Loc) (ls : Array Slot) (hP : va_P D vwCl [(a0, .inr (8, [.ref a5, .ref a1, .ref a6, .ref a7, .int 0, .int 0, .int (-1)])), (a1, .inr (7, [.ref a8, .ref a9, .ref a10, .ref a11, .ref a12, .ref a13, .long 0, .int 0, .int 0, .int 0, .int 0, .int 0, .int 0, .int 0, .int 0, .int 0])), (a2, .inr (9, [.int 0, .ref a14, .int 0, .int 0, .int 0, .int 0, .int 0, .int (-1), .ref a3, .ref a15, .ref a16, .ref a17, .int 0, .int 0, .int 0, .int 0, .int 0, .ref a18])), (a3, .inl (cs 0, 45783, .inl (layF (fun _ => 0) 1))), (a4, .inl (cs 3, 1, .inr (.inl (fun _ => 0))))] H) (hD : va_D A [(a0, .inr (8, [.ref a5, .ref a1, .ref a6, .ref a7, .int 0, .int 0, .int (-1)])), (a1, .inr (7, [.ref a8, .ref a9, .ref a10, .ref a11, .ref a12, .ref a13, .long 0, .int 0, .int 0, .int 0, .int 0, .int 0, .int 0, .int 0, .int 0, .int 0])), (a2, .inr (9, [.int 0, .ref a14, .int 0, .int 0, .int 0, .int 0, .int 0, .int (-1), .ref a3, .ref a15, .ref a16, .ref a17, .int 0, .int 0, .int 0, .int 0, .int 0, .ref a18])), (a3, .inl (cs 0, 45783, .inl (layF (fun _ => 0) 1))), (a4, .inl (cs 3, 1, .inr (.inl (fun _ => 0))))]) (hS : va_S A s.heap H locs) (hl : lv_has ls 9 [(4, .int 0), (3, .ref a4), (2, .ref a2), (1, .ref a0), (0, .ref b)]) : W p l e room_1 s m args below meth c H locs 391 467079 Q (F0 m 278 ls []) := by
  refine lv_aload_n hx hb dL_law_278 rfl (lv_at hl 3 rfl) ?_
  refine lv_aload_n hx hb dL_law_279 rfl (lv_at hl 4 rfl) ?_
  refine lv_iload hx hb dL_law_280 (lv_at hl 0 rfl) ?_
  refine lv_iconst (v := 1) hx hb dL_law_282 (by decide) ?_
  refine lv_iadd hx hb dL_law_283 ?_
  refine tp_i (1) (by decide) ?_
  refine va_sld hx hb hX hbl hbA hS (vin (by decide +kernel)) dL_law_284 ?_
  refine tp_i (7) hy1 ?_
  refine lv_aload_n hx hb dL_law_285 rfl (lv_at hl 1 rfl) ?_
  refine ch_i (As := [.ref a0, .int 7, .ref a4]) (rest := []) (wr := [(a2, .inr (9, [.int 0, .ref a14, .int 0, .int 0, .int 0, .int 0, .int 0, .int (-1), .ref a3, .ref a15, .ref a16, .ref a17, .int 0, .int 0, .int 0, .int 0, .int 0, .ref a18])), (a3, .inl (cs 0, 45783, .inl (layF (fun _ => 0) 1)))]) ⟨hx, hb, hml, hown, hts⟩ (fun sz => k96_L_state l D cs sz hlt a0 a1 a4 a5 a6 a7 a8 a9 a10 a11 a12 a13) (vx_cwSW 3 hts gL_law_L_state rfl rfl rfl hdL_state_o ⟨Nat.le_of_ble_eq_true rfl, Nat.le_of_ble_eq_true rfl⟩) hN hP hD hS hA hZ [0, 1, 4] [2, 3] rfl rfl rfl rfl (by decide) rfl rfl hl.1 (Nat.le_of_ble_eq_true rfl) dL_law_286 (Nat.le_of_ble_eq_true rfl) (Nat.le_of_ble_eq_true rfl) (fun u0 H locs hP hD hS => ?_)
  have hP : va_P D vwCl [(a2, .inr (9, [.int 0, .ref a14, .int 0, .int 0, .int 0, .int 0, .int 0, .int (-1), .ref a3, .ref a15, .ref a16, .ref a17, .int 0, .int 0, .int 0, .int 0, .int 0, .ref a18])), (a3, .inl (cs 0, 45783, .inl (layF (fun _ => 0) 1))), (a4, .inl (cs 3, 1, .inr (.inl (fun _ => 0)))), (a0, .inr (8, [.ref a5, .ref a1, .ref a6, .ref a7, .int 0, .int 0, .int (-1)])), (a1, .inr (7, [.ref a8, .ref a9, .ref a10, .ref a11, .ref a12, .ref a13, .long 0, .int 0, .int 0, .int 0, .int 0, .int 0, .int 0, .int 0, .int 0, .int 0]))] H := hP
  have hD : va_D A [(a2, .inr (9, [.int 0, .ref a14, .int 0, .int 0, .int 0, .int 0, .int 0, .int (-1), .ref a3, .ref a15, .ref a16, .ref a17, .int 0, .int 0, .int 0, .int 0, .int 0, .ref a18])), (a3, .inl (cs 0, 45783, .inl (layF (fun _ => 0) 1))), (a4, .inl (cs 3, 1, .inr (.inl (fun _ => 0)))), (a0, .inr (8, [.ref a5, .ref a1, .ref a6, .ref a7, .int 0, .int 0, .int (-1)])), (a1, .inr (7, [.ref a8, .ref a9, .ref a10, .ref a11, .ref a12, .ref a13, .long 0, .int 0, .int 0, .int 0, .int 0, .int 0, .int 0, .int 0, .int 0, .int 0]))] := hD
  refine W.widen (k := 391) (n := 467079) (Nat.le_of_ble_eq_true rfl) (Nat.le_of_ble_eq_true rfl) ?_
  refine lv_istore (lv' := [(5, .int 0), (4, .int 0), (3, .ref a4), (2, .ref a2), (1, .ref a0), (0, .ref b)]) hx hb dL_law_289 hl (by decide) rfl (fun ls hl => ?_)
  refine lv_aload_n hx hb dL_law_291 rfl (lv_at hl 3 rfl) ?_
  refine lv_aload_n hx hb dL_law_292 rfl (lv_at hl 5 rfl) ?_
  refine lv_iload hx hb dL_law_293 (lv_at hl 1 rfl) ?_
  refine lv_iconst (v := 1) hx hb dL_law_295 (by decide) ?_
  refine lv_iadd hx hb dL_law_296 ?_
  refine tp_i (1) (by decide) ?_
  refine va_sld hx hb hX hbl hbA hS (vin (by decide +kernel)) dL_law_297 ?_
  refine tp_i (7) hy1 ?_
  refine cv_i (As := [.int 7]) (rest := []) (b := a2) (wr := [(a4, .inl (cs 3, 1, .inr (.inl (fun _ => 0)))), (a0, .inr (8, [.ref a5, .ref a1, .ref a6, .ref a7, .int 0, .int 0, .int (-1)])), (a1, .inr (7, [.ref a8, .ref a9, .ref a10, .ref a11, .ref a12, .ref a13, .long 0, .int 0, .int 0, .int 0, .int 0, .int 0, .int 0, .int 0, .int 0, .int 0]))]) ⟨hx, hb, hml, hown, hts⟩ (fun sz => k99_X9_state l D cs sz a2 a3 a14 a15 a16 a17 a18) (cwV 1 hts gL_law_X9_state rfl rfl rfl hdX9_state_v ⟨Nat.le_of_ble_eq_true rfl, Nat.le_of_ble_eq_true rfl⟩) hN hP hD hS hA [0, 1] [2, 3, 4] rfl rfl rfl rfl (by decide) (ci := 9) (q0 := 0) rfl rfl rfl rfl hl.1 (Nat.le_of_ble_eq_true rfl) dL_law_298 (Nat.le_of_ble_eq_true rfl) (Nat.le_of_ble_eq_true rfl) (fun u1 H locs hP hD hS => ?_)
  have hP : va_P D vwCl [(a4, .inl (cs 3, 1, .inr (.inl (fun _ => 0)))), (a0, .inr (8, [.ref a5, .ref a1, .ref a6, .ref a7, .int 0, .int 0, .int (-1)])), (a1, .inr (7, [.ref a8, .ref a9, .ref a10, .ref a11, .ref a12, .ref a13, .long 0, .int 0, .int 0, .int 0, .int 0, .int 0, .int 0, .int 0, .int 0, .int 0])), (a2, .inr (9, [.int 0, .ref a14, .int 0, .int 0, .int 0, .int 0, .int 0, .int (-1), .ref a3, .ref a15, .ref a16, .ref a17, .int 0, .int 0, .int 0, .int 0, .int 0, .ref a18])), (a3, .inl (cs 0, 45783, .inl (layF (fun _ => 0) 1)))] H := hP
  have hD : va_D A [(a4, .inl (cs 3, 1, .inr (.inl (fun _ => 0)))), (a0, .inr (8, [.ref a5, .ref a1, .ref a6, .ref a7, .int 0, .int 0, .int (-1)])), (a1, .inr (7, [.ref a8, .ref a9, .ref a10, .ref a11, .ref a12, .ref a13, .long 0, .int 0, .int 0, .int 0, .int 0, .int 0, .int 0, .int 0, .int 0, .int 0])), (a2, .inr (9, [.int 0, .ref a14, .int 0, .int 0, .int 0, .int 0, .int 0, .int (-1), .ref a3, .ref a15, .ref a16, .ref a17, .int 0, .int 0, .int 0, .int 0, .int 0, .ref a18])), (a3, .inl (cs 0, 45783, .inl (layF (fun _ => 0) 1)))] := hD
  refine W.widen (k := 391) (n := 467079) (Nat.le_of_ble_eq_true rfl) (Nat.le_of_ble_eq_true rfl) ?_
  refine lv_istore (lv' := [(6, .int 0), (5, .int 0), (4, .int 0), (3, .ref a4), (2, .ref a2), (1, .ref a0), (0, .ref b)]) hx hb dL_law_301 hl (by decide) rfl (fun ls hl => ?_)
  refine lv_aload_n hx hb dL_law_303 rfl (lv_at hl 4 rfl) ?_
  refine cv_i (As := []) (rest := []) (b := a2) (wr := [(a4, .inl (cs 3, 1, .inr (.inl (fun _ => 0)))), (a0, .inr (8, [.ref a5, .ref a1, .ref a6, .ref a7, .int 0, .int 0, .int (-1)])), (a1, .inr (7, [.ref a8, .ref a9, .ref a10, .ref a11, .ref a12, .ref a13, .long 0, .int 0, .int 0, .int 0, .int 0, .int 0, .int 0, .int 0, .int 0, .int 0])), (a3, .inl (cs 0, 45783, .inl (layF (fun _ => 0) 1)))]) ⟨hx, hb, hml, hown, hts⟩ (fun sz => k50_X9_thrown l D cs sz a2 a14 a3 a15 a16 a17 a18) (cwV 0 hts gL_law_X9_thrown rfl rfl rfl hdX9_thrown_v ⟨Nat.le_of_ble_eq_true rfl, Nat.le_of_ble_eq_true rfl⟩) hN hP hD hS hA [3] [0, 1, 2, 4] rfl rfl rfl rfl (by decide) (ci := 9) (q0 := 0) rfl rfl rfl rfl hl.1 (Nat.le_of_ble_eq_true rfl) dL_law_304 (Nat.le_of_ble_eq_true rfl) (Nat.le_of_ble_eq_true rfl) (fun u2 H locs hP hD hS => ?_)
  have hP : va_P D vwCl [(a4, .inl (cs 3, 1, .inr (.inl (fun _ => 0)))), (a0, .inr (8, [.ref a5, .ref a1, .ref a6, .ref a7, .int 0, .int 0, .int (-1)])), (a1, .inr (7, [.ref a8, .ref a9, .ref a10, .ref a11, .ref a12, .ref a13, .long 0, .int 0, .int 0, .int 0, .int 0, .int 0, .int 0, .int 0, .int 0, .int 0])), (a3, .inl (cs 0, 45783, .inl (layF (fun _ => 0) 1))), (a2, .inr (9, [.int 0, .ref a14, .int 0, .int 0, .int 0, .int 0, .int 0, .int (-1), .ref a3, .ref a15, .ref a16, .ref a17, .int 0, .int 0, .int 0, .int 0, .int 0, .ref a18]))] H := hP
  have hD : va_D A [(a4, .inl (cs 3, 1, .inr (.inl (fun _ => 0)))), (a0, .inr (8, [.ref a5, .ref a1, .ref a6, .ref a7, .int 0, .int 0, .int (-1)])), (a1, .inr (7, [.ref a8, .ref a9, .ref a10, .ref a11, .ref a12, .ref a13, .long 0, .int 0, .int 0, .int 0, .int 0, .int 0, .int 0, .int 0, .int 0, .int 0])), (a3, .inl (cs 0, 45783, .inl (layF (fun _ => 0) 1))), (a2, .inr (9, [.int 0, .ref a14, .int 0, .int 0, .int 0, .int 0, .int 0, .int (-1), .ref a3, .ref a15, .ref a16, .ref a17, .int 0, .int 0, .int 0, .int 0, .int 0, .ref a18]))] := hD
  refine W.widen (k := 391) (n := 467079) (Nat.le_of_ble_eq_true rfl) (Nat.le_of_ble_eq_true rfl) ?_
  refine lv_iload hx hb dL_law_307 (lv_at hl 1 rfl) ?_
  refine lv_icmp_eq (tgt := 314) hx hb dL_law_309 (by decide) (fun _ => ?_) (fun c9 => absurd (by decide) c9)
  refine lv_iload hx hb dL_law_314 (lv_at hl 1 rfl) ?_
  refine lv_if_ne (tgt := 331) hx hb dL_law_316 (by decide) (fun c9 => absurd (by decide) c9) (fun _ => ?_)
  refine lv_aload_n hx hb dL_law_319 rfl (lv_at hl 3 rfl) ?_
  refine lv_iconst (v := 0) hx hb dL_law_320 (by decide) ?_
  refine ld_l (v := 0) hx hb hN hP 0 rfl (vin (by decide +kernel)) (by first | rfl | decide +kernel) dL_law_321 ?_
  refine lv_iload hx hb dL_law_322 (lv_at hl 0 rfl) ?_
  refine lv_i2l (v := 0) hx hb dL_law_324 (by decide) ?_
  refine W.lcmp hx hb dL_law_325 ?_
  refine tp_i (0) (by decide) ?_
  refine lv_if_eq (tgt := 331) hx hb dL_law_326 (by decide) (fun _ => ?_) (fun c9 => absurd (by decide) c9)
  refine lv_goto (tgt := 1169) hx hb dL_law_331 (by decide) ?_
  refine W.widen (k := 600002) (n := 7302232) (Nat.le_of_ble_eq_true rfl) (Nat.le_of_ble_eq_true rfl) ?_
  exact kend _ _ _ hS (lv_sub hl [6, 2] rfl)

set_option maxHeartbeats 4000000 in
set_option maxRecDepth 100000 in
theorem k100_X8_refuseWhatOutside (l : Launch) (D : va_G) (cs : Nat → ClassId) (sz : Nat) (a0 a1 a2 a3 a4 : Nat) : KV l yX8_refuseWhatOutside wsX8_refuseWhatOutside 0 0 0 0 D cs sz [.ref a0, .int 8, .int 12] [(a0, .inr (8, [.ref a1, .ref a2, .ref a3, .ref a4, .int 0, .int 0, .int (-1)]))] (fun u => [(a0, .inr (8, [.ref a1, .ref a2, .ref a3, .ref a4, .int 0, .int 0, .int (-1)]))]) := by
  refine KV.of cX8_refuseWhatOutside 3 none (by decide) rfl (Nat.le_of_ble_eq_true rfl) ?_
  intro p e s m below meth c A ls hx hb hr hml hown hts hlocks hin hP hN hD hA hS hl
  have hown : s.vm.findClass RX8 = some m.cls := hown
  have hl : lv_has ls 3 [(0, .ref a0), (1, .int 8), (2, .int 12)] := hl
  refine lv_iload_n hx hb dX8_refuseWhatOutside_0 rfl (lv_at hl 1 rfl) ?_
  refine lv_if_lt (tgt := 9) hx hb dX8_refuseWhatOutside_1 (by decide) (fun c9 => absurd c9 (by decide)) (fun _ => ?_)
  refine lv_iload_n hx hb dX8_refuseWhatOutside_4 rfl (lv_at hl 1 rfl) ?_
  refine lv_iload_n hx hb dX8_refuseWhatOutside_5 rfl (lv_at hl 2 rfl) ?_
  refine lv_icmp_le (tgt := 19) hx hb dX8_refuseWhatOutside_6 (by decide) (fun _ => ?_) (fun c9 => absurd (by decide) c9)
  exact en_v (fun k => ([] : List Nat).getD k 0) hx hb hr hlocks hP hD hS (Nat.le_of_ble_eq_true rfl) (Nat.le_of_ble_eq_true rfl) dX8_refuseWhatOutside_19
theorem mX7_count_9 : (.fieldLink RX7 83 "OneBeat$World" "givenUp" "I" : Cond) ∈ wsX7_count := List.mem_of_getElem? (i := 9) (by decide +kernel)
set_option maxHeartbeats 4000000 in
set_option maxRecDepth 100000 in
theorem k101_X7_count (l : Launch) (D : va_G) (cs : Nat → ClassId) (sz : Nat) (a0 a1 a2 a3 a4 a5 a6 : Nat) : KI l yX7_count wsX7_count 0 0 0 0 D cs sz [.ref a0, .int 8] [(a0, .inr (7, [.ref a1, .ref a2, .ref a3, .ref a4, .ref a5, .ref a6, .long 0, .int 0, .int 0, .int 0, .int 0, .int 0, .int 0, .int 0, .int 0, .int 0]))] (fun u => [(a0, .inr (7, [.ref a1, .ref a2, .ref a3, .ref a4, .ref a5, .ref a6, .long 0, .int 0, .int 0, .int 0, .int 0, .int 0, .int 0, .int 0, .int 0, .int 0]))]) (0) := by
  refine KI.of cX7_count 2 (some .int) (by decide) rfl (Nat.le_of_ble_eq_true rfl) ?_
  intro p e s m below meth c A ls hx hb hr hml hown hts hlocks hin hP hN hD hA hS hl
  have hown : s.vm.findClass RX7 = some m.cls := hown
  have hl : lv_has ls 2 [(0, .ref a0), (1, .int 8)] := hl
  refine lv_iload_n hx hb dX7_count_0 rfl (lv_at hl 1 rfl) ?_
  refine lv_tableIn (tgt := 110) (off := 109) hx hb dX7_count_1 (by decide) (by decide) (by decide) (by decide) ?_
  refine lv_aload_n hx hb dX7_count_110 rfl (lv_at hl 0 rfl) ?_
  refine va_get (D := D) (ci := 7) (v := .int 0) (C := RX7) (T := TX7) (N := 16) hx hb hts iX7_count_7 hown hN.1 hP 0 rfl rfl 13 (by decide) (hts _ mX7_count_9) (fun _ h9 => h9) rfl dX7_count_111 ?_
  exact en_i (fun k => ([] : List Nat).getD k 0) hx hb hr hlocks rfl rfl hP hD hS (Nat.le_of_ble_eq_true rfl) (Nat.le_of_ble_eq_true rfl) dX7_count_114
set_option maxHeartbeats 4000000 in
set_option maxRecDepth 100000 in
theorem k102_X8_state (l : Launch) (D : va_G) (cs : Nat → ClassId) (sz : Nat) (a0 a1 a2 a3 a4 a5 a6 a7 a8 a9 a10 : Nat) : KI l yX8_state wsX8_state 1 22 0 0 D cs sz [.ref a0, .int 8] [(a0, .inr (8, [.ref a2, .ref a1, .ref a3, .ref a4, .int 0, .int 0, .int (-1)])), (a1, .inr (7, [.ref a5, .ref a6, .ref a7, .ref a8, .ref a9, .ref a10, .long 0, .int 0, .int 0, .int 0, .int 0, .int 0, .int 0, .int 0, .int 0, .int 0]))] (fun u => [(a0, .inr (8, [.ref a2, .ref a1, .ref a3, .ref a4, .int 0, .int 0, .int (-1)])), (a1, .inr (7, [.ref a5, .ref a6, .ref a7, .ref a8, .ref a9, .ref a10, .long 0, .int 0, .int 0, .int 0, .int 0, .int 0, .int 0, .int 0, .int 0, .int 0]))]) (0) := by
  refine KI.of cX8_state 2 (some .int) (by decide) rfl (Nat.le_of_ble_eq_true rfl) ?_
  intro p e s m below meth c A ls hx hb hr hml hown hts hlocks hin hP hN hD hA hS hl
  have hown : s.vm.findClass RX8 = some m.cls := hown
  have hl : lv_has ls 2 [(0, .ref a0), (1, .int 8)] := hl
  refine lv_aload_n hx hb dX8_state_0 rfl (lv_at hl 0 rfl) ?_
  refine lv_iload_n hx hb dX8_state_1 rfl (lv_at hl 1 rfl) ?_
  refine lv_bipush (v := 12) hx hb dX8_state_2 (by decide) ?_
  refine cv_v (As := [.int 8, .int 12]) (rest := []) (b := a0) (wr := [(a1, .inr (7, [.ref a5, .ref a6, .ref a7, .ref a8, .ref a9, .ref a10, .long 0, .int 0, .int 0, .int 0, .int 0, .int 0, .int 0, .int 0, .int 0, .int 0]))]) ⟨hx, hb, hml, hown, hts⟩ (fun sz => k100_X8_refuseWhatOutside l D cs sz a0 a2 a1 a3 a4) (cwV 2 hts gX8_state_X8_refuseWhatOutside rfl rfl rfl hdX8_refuseWhatOutside_v ⟨Nat.le_of_ble_eq_true rfl, Nat.le_of_ble_eq_true rfl⟩) hN hP hD hS hA [0] [1] rfl rfl rfl rfl (by decide) (ci := 8) (q0 := 0) rfl rfl rfl rfl hl.1 (Nat.le_of_ble_eq_true rfl) dX8_state_4 (Nat.le_of_ble_eq_true rfl) (Nat.le_of_ble_eq_true rfl) (fun u0 H locs hP hD hS => ?_)
  have hP : va_P D vwCl [(a1, .inr (7, [.ref a5, .ref a6, .ref a7, .ref a8, .ref a9, .ref a10, .long 0, .int 0, .int 0, .int 0, .int 0, .int 0, .int 0, .int 0, .int 0, .int 0])), (a0, .inr (8, [.ref a2, .ref a1, .ref a3, .ref a4, .int 0, .int 0, .int (-1)]))] H := hP
  have hD : va_D A [(a1, .inr (7, [.ref a5, .ref a6, .ref a7, .ref a8, .ref a9, .ref a10, .long 0, .int 0, .int 0, .int 0, .int 0, .int 0, .int 0, .int 0, .int 0, .int 0])), (a0, .inr (8, [.ref a2, .ref a1, .ref a3, .ref a4, .int 0, .int 0, .int (-1)]))] := hD
  refine W.widen (k := 0) (n := 0) (Nat.le_of_ble_eq_true rfl) (Nat.le_of_ble_eq_true rfl) ?_
  refine lv_aload_n hx hb dX8_state_7 rfl (lv_at hl 0 rfl) ?_
  refine va_get (D := D) (ci := 8) (v := .ref a1) (C := RX8) (T := TX8) (N := 7) hx hb hts iX8_state_8 hown hN.1 hP 1 rfl rfl 1 (by decide) (hts _ mX8_state_1) (fun _ h9 => h9) rfl dX8_state_8 ?_
  refine lv_iload_n hx hb dX8_state_11 rfl (lv_at hl 1 rfl) ?_
  refine cv_i (As := [.int 8]) (rest := []) (b := a1) (wr := [(a0, .inr (8, [.ref a2, .ref a1, .ref a3, .ref a4, .int 0, .int 0, .int (-1)]))]) ⟨hx, hb, hml, hown, hts⟩ (fun sz => k101_X7_count l D cs sz a1 a5 a6 a7 a8 a9 a10) (cwV 1 hts gX8_state_X7_count rfl rfl rfl hdX7_count_v ⟨Nat.le_of_ble_eq_true rfl, Nat.le_of_ble_eq_true rfl⟩) hN hP hD hS hA [0] [1] rfl rfl rfl rfl (by decide) (ci := 7) (q0 := 0) rfl rfl rfl rfl hl.1 (Nat.le_of_ble_eq_true rfl) dX8_state_12 (Nat.le_of_ble_eq_true rfl) (Nat.le_of_ble_eq_true rfl) (fun u1 H locs hP hD hS => ?_)
  have hP : va_P D vwCl [(a0, .inr (8, [.ref a2, .ref a1, .ref a3, .ref a4, .int 0, .int 0, .int (-1)])), (a1, .inr (7, [.ref a5, .ref a6, .ref a7, .ref a8, .ref a9, .ref a10, .long 0, .int 0, .int 0, .int 0, .int 0, .int 0, .int 0, .int 0, .int 0, .int 0]))] H := hP
  have hD : va_D A [(a0, .inr (8, [.ref a2, .ref a1, .ref a3, .ref a4, .int 0, .int 0, .int (-1)])), (a1, .inr (7, [.ref a5, .ref a6, .ref a7, .ref a8, .ref a9, .ref a10, .long 0, .int 0, .int 0, .int 0, .int 0, .int 0, .int 0, .int 0, .int 0, .int 0]))] := hD
  refine W.widen (k := 0) (n := 0) (Nat.le_of_ble_eq_true rfl) (Nat.le_of_ble_eq_true rfl) ?_
  exact en_i (fun k => ([] : List Nat).getD k 0) hx hb hr hlocks rfl rfl hP hD hS (Nat.le_of_ble_eq_true rfl) (Nat.le_of_ble_eq_true rfl) dX8_state_15
set_option maxHeartbeats 4000000 in
set_option maxRecDepth 100000 in
theorem k103_L_state (l : Launch) (D : va_G) (cs : Nat → ClassId) (sz : Nat) (hlt : l.stackTraces = false) (a0 a1 a2 a3 a4 a5 a6 a7 a8 a9 a10 a11 : Nat) : KH l yL_state wsL_state 2 43 0 0 D cs sz [.ref a0, .int 8, .ref a2] [(a0, .inr (8, [.ref a3, .ref a1, .ref a4, .ref a5, .int 0, .int 0, .int (-1)])), (a1, .inr (7, [.ref a6, .ref a7, .ref a8, .ref a9, .ref a10, .ref a11, .long 0, .int 0, .int 0, .int 0, .int 0, .int 0, .int 0, .int 0, .int 0, .int 0])), (a2, .inl (cs 3, 1, .inr (.inl (fun _ => 0))))] (fun u => [(a2, .inl (cs 3, 1, .inr (.inl (fun _ => 0)))), (a0, .inr (8, [.ref a3, .ref a1, .ref a4, .ref a5, .int 0, .int 0, .int (-1)])), (a1, .inr (7, [.ref a6, .ref a7, .ref a8, .ref a9, .ref a10, .ref a11, .long 0, .int 0, .int 0, .int 0, .int 0, .int 0, .int 0, .int 0, .int 0, .int 0]))]) (0) := by
  refine KH.of cL_state 4 (some .int) (by decide) rfl (Nat.le_of_ble_eq_true rfl) ?_
  intro p e s m below meth c A ls hx hb hr hml hown hts hlocks htab hP hN hD hA hS hl hZ
  have hown : s.vm.findClass RL = some m.cls := hown
  have hl : lv_has ls 4 [(0, .ref a0), (1, .int 8), (2, .ref a2)] := hl
  refine lv_aload_n hx hb dL_state_0 rfl (lv_at hl 2 rfl) ?_
  refine lv_iconst (v := 0) hx hb dL_state_1 (by decide) ?_
  refine lv_aload_n hx hb dL_state_2 rfl (lv_at hl 0 rfl) ?_
  refine lv_iload_n hx hb dL_state_3 rfl (lv_at hl 1 rfl) ?_
  refine cv_i (As := [.int 8]) (rest := [.int 0, .ref a2]) (b := a0) (wr := [(a2, .inl (cs 3, 1, .inr (.inl (fun _ => 0))))]) ⟨hx, hb, hml, hown, hts⟩ (fun sz => k102_X8_state l D cs sz a0 a1 a3 a4 a5 a6 a7 a8 a9 a10 a11) (cwV 1 hts gL_state_X8_state rfl rfl rfl hdX8_state_v ⟨Nat.le_of_ble_eq_true rfl, Nat.le_of_ble_eq_true rfl⟩) hN hP hD hS hA [0, 1] [2] rfl rfl rfl rfl (by decide) (ci := 8) (q0 := 0) rfl rfl rfl rfl hl.1 (Nat.le_of_ble_eq_true rfl) dL_state_4 (Nat.le_of_ble_eq_true rfl) (Nat.le_of_ble_eq_true rfl) (fun u0 H locs hP hD hS => ?_)
  have hP : va_P D vwCl [(a2, .inl (cs 3, 1, .inr (.inl (fun _ => 0)))), (a0, .inr (8, [.ref a3, .ref a1, .ref a4, .ref a5, .int 0, .int 0, .int (-1)])), (a1, .inr (7, [.ref a6, .ref a7, .ref a8, .ref a9, .ref a10, .ref a11, .long 0, .int 0, .int 0, .int 0, .int 0, .int 0, .int 0, .int 0, .int 0, .int 0]))] H := hP
  have hD : va_D A [(a2, .inl (cs 3, 1, .inr (.inl (fun _ => 0)))), (a0, .inr (8, [.ref a3, .ref a1, .ref a4, .ref a5, .int 0, .int 0, .int (-1)])), (a1, .inr (7, [.ref a6, .ref a7, .ref a8, .ref a9, .ref a10, .ref a11, .long 0, .int 0, .int 0, .int 0, .int 0, .int 0, .int 0, .int 0, .int 0, .int 0]))] := hD
  refine W.widen (k := 0) (n := 0) (Nat.le_of_ble_eq_true rfl) (Nat.le_of_ble_eq_true rfl) ?_
  refine lv_i2l (v := 0) hx hb dL_state_7 (by decide) ?_
  refine st_l (g := (fun _ => 0)) hx hb hN hP hD hS 0 rfl (vin (by decide +kernel)) (funext (fun j9 => by unfold vp_updL; split <;> rename_i h9 <;> first | rfl | (subst h9; rfl))) dL_state_8 (fun H locs hP hD hS => ?_)
  have hP : va_P D vwCl [(a2, .inl (cs 3, 1, .inr (.inl (fun _ => 0)))), (a0, .inr (8, [.ref a3, .ref a1, .ref a4, .ref a5, .int 0, .int 0, .int (-1)])), (a1, .inr (7, [.ref a6, .ref a7, .ref a8, .ref a9, .ref a10, .ref a11, .long 0, .int 0, .int 0, .int 0, .int 0, .int 0, .int 0, .int 0, .int 0, .int 0]))] H := hP
  have hD : va_D A [(a2, .inl (cs 3, 1, .inr (.inl (fun _ => 0)))), (a0, .inr (8, [.ref a3, .ref a1, .ref a4, .ref a5, .int 0, .int 0, .int (-1)])), (a1, .inr (7, [.ref a6, .ref a7, .ref a8, .ref a9, .ref a10, .ref a11, .long 0, .int 0, .int 0, .int 0, .int 0, .int 0, .int 0, .int 0, .int 0, .int 0]))] := hD
  refine lv_goto (tgt := 15) hx hb dL_state_9 (by decide) ?_
  refine lv_iconst (v := 0) hx hb dL_state_15 (by decide) ?_
  exact en_i (fun k => ([] : List Nat).getD k 0) hx hb hr hlocks rfl rfl hP hD hS (Nat.le_of_ble_eq_true rfl) (Nat.le_of_ble_eq_true rfl) dL_state_16
set_option maxHeartbeats 4000000 in
set_option maxRecDepth 100000 in
theorem k104_X9_in (l : Launch) (D : va_G) (cs : Nat → ClassId) (sz : Nat) : KI l yX9_in wsX9_in 0 0 0 0 D cs sz [.int 8, .int 0, .int 12] [] (fun u => []) (1) := by
  refine KI.of cX9_in 3 (some .boolean) (by decide) rfl (Nat.le_of_ble_eq_true rfl) ?_
  intro p e s m below meth c A ls hx hb hr hml hown hts hlocks hin hP hN hD hA hS hl
  have hown : s.vm.findClass RX9 = some m.cls := hown
  have hl : lv_has ls 3 [(0, .int 8), (1, .int 0), (2, .int 12)] := hl
  refine lv_iload_n hx hb dX9_in_0 rfl (lv_at hl 0 rfl) ?_
  refine lv_iload_n hx hb dX9_in_1 rfl (lv_at hl 1 rfl) ?_
  refine lv_icmp_lt (tgt := 14) hx hb dX9_in_2 (by decide) (fun c9 => absurd c9 (by decide)) (fun _ => ?_)
  refine lv_iload_n hx hb dX9_in_5 rfl (lv_at hl 0 rfl) ?_
  refine lv_iload_n hx hb dX9_in_6 rfl (lv_at hl 2 rfl) ?_
  refine lv_icmp_gt (tgt := 14) hx hb dX9_in_7 (by decide) (fun c9 => absurd c9 (by decide)) (fun _ => ?_)
  refine lv_iconst (v := 1) hx hb dX9_in_10 (by decide) ?_
  refine lv_goto (tgt := 15) hx hb dX9_in_11 (by decide) ?_
  exact en_i (fun k => ([] : List Nat).getD k 0) hx hb hr hlocks rfl rfl hP hD hS (Nat.le_of_ble_eq_true rfl) (Nat.le_of_ble_eq_true rfl) dX9_in_15
set_option maxHeartbeats 4000000 in
set_option maxRecDepth 100000 in
theorem k105_X9_told (l : Launch) (D : va_G) (cs : Nat → ClassId) (sz : Nat) (a0 a1 a2 a3 a4 a5 a6 : Nat) : KI l yX9_told wsX9_told 0 0 0 0 D cs sz [.ref a0, .int 8] [(a0, .inr (9, [.int 0, .ref a2, .int 0, .int 0, .int 0, .int 0, .int 0, .int (-1), .ref a1, .ref a3, .ref a4, .ref a5, .int 0, .int 0, .int 0, .int 0, .int 0, .ref a6])), (a1, .inl (cs 0, 45783, .inl (layF (fun _ => 0) 1)))] (fun u => [(a0, .inr (9, [.int 0, .ref a2, .int 0, .int 0, .int 0, .int 0, .int 0, .int (-1), .ref a1, .ref a3, .ref a4, .ref a5, .int 0, .int 0, .int 0, .int 0, .int 0, .ref a6])), (a1, .inl (cs 0, 45783, .inl (layF (fun _ => 0) 1)))]) (0) := by
  refine KI.of cX9_told 2 (some .int) (by decide) rfl (Nat.le_of_ble_eq_true rfl) ?_
  intro p e s m below meth c A ls hx hb hr hml hown hts hlocks hin hP hN hD hA hS hl
  have hown : s.vm.findClass RX9 = some m.cls := hown
  have hl : lv_has ls 2 [(0, .ref a0), (1, .int 8)] := hl
  refine lv_iload_n hx hb dX9_told_0 rfl (lv_at hl 1 rfl) ?_
  refine lv_tableOut (tgt := 59) hx hb dX9_told_1 (by decide) (by decide) ?_
  refine lv_aload_n hx hb dX9_told_59 rfl (lv_at hl 0 rfl) ?_
  refine va_get (D := D) (ci := 9) (v := .ref a1) (C := RX9) (T := TX9) (N := 18) hx hb hts iX9_told_9 hown hN.1 hP 0 rfl rfl 8 (by decide) (hts _ mX9_told_1) (fun _ h9 => h9) rfl dX9_told_60 ?_
  refine lv_iload_n hx hb dX9_told_63 rfl (lv_at hl 1 rfl) ?_
  refine ld_i (v := 0) hx hb hN hP 1 rfl (vin (by decide +kernel)) (by first | rfl | decide +kernel) dX9_told_64 ?_
  exact en_i (fun k => ([] : List Nat).getD k 0) hx hb hr hlocks rfl rfl hP hD hS (Nat.le_of_ble_eq_true rfl) (Nat.le_of_ble_eq_true rfl) dX9_told_65
set_option maxHeartbeats 4000000 in
set_option maxRecDepth 100000 in
theorem k106_X9_state (l : Launch) (D : va_G) (cs : Nat → ClassId) (sz : Nat) (a0 a1 a2 a3 a4 a5 a6 : Nat) : KI l yX9_state wsX9_state 1 22 0 0 D cs sz [.ref a0, .int 8] [(a0, .inr (9, [.int 0, .ref a2, .int 0, .int 0, .int 0, .int 0, .int 0, .int (-1), .ref a1, .ref a3, .ref a4, .ref a5, .int 0, .int 0, .int 0, .int 0, .int 0, .ref a6])), (a1, .inl (cs 0, 45783, .inl (layF (fun _ => 0) 1)))] (fun u => [(a0, .inr (9, [.int 0, .ref a2, .int 0, .int 0, .int 0, .int 0, .int 0, .int (-1), .ref a1, .ref a3, .ref a4, .ref a5, .int 0, .int 0, .int 0, .int 0, .int 0, .ref a6])), (a1, .inl (cs 0, 45783, .inl (layF (fun _ => 0) 1)))]) (0) := by
  refine KI.of cX9_state 2 (some .int) (by decide) rfl (Nat.le_of_ble_eq_true rfl) ?_
  intro p e s m below meth c A ls hx hb hr hml hown hts hlocks hin hP hN hD hA hS hl
  have hown : s.vm.findClass RX9 = some m.cls := hown
  have hl : lv_has ls 2 [(0, .ref a0), (1, .int 8)] := hl
  refine lv_aload_n hx hb dX9_state_0 rfl (lv_at hl 0 rfl) ?_
  refine lv_iconst (v := 0) hx hb dX9_state_1 (by decide) ?_
  refine va_put (D := D) (ci := 9) (v := .int 0) (ty := .int) (C := RX9) (T := TX9) (N := 18) hx hb hts iX9_state_9 tyX9 tyX9_ok nmX9 hown hN.1 hP hD hS 0 rfl rfl 0 (by decide) (hts _ mX9_state_1) (fun _ h9 => h9) rfl (by decide +kernel) rfl rfl (Nat.le_of_ble_eq_true rfl) dX9_state_2 (fun H locs hP hD hS => ?_)
  have hP : va_P D vwCl [(a0, .inr (9, [.int 0, .ref a2, .int 0, .int 0, .int 0, .int 0, .int 0, .int (-1), .ref a1, .ref a3, .ref a4, .ref a5, .int 0, .int 0, .int 0, .int 0, .int 0, .ref a6])), (a1, .inl (cs 0, 45783, .inl (layF (fun _ => 0) 1)))] H := hP
  have hD : va_D A [(a0, .inr (9, [.int 0, .ref a2, .int 0, .int 0, .int 0, .int 0, .int 0, .int (-1), .ref a1, .ref a3, .ref a4, .ref a5, .int 0, .int 0, .int 0, .int 0, .int 0, .ref a6])), (a1, .inl (cs 0, 45783, .inl (layF (fun _ => 0) 1)))] := hD
  refine lv_aload_n hx hb dX9_state_5 rfl (lv_at hl 0 rfl) ?_
  refine lv_iload_n hx hb dX9_state_6 rfl (lv_at hl 1 rfl) ?_
  refine lv_iconst (v := 0) hx hb dX9_state_7 (by decide) ?_
  refine lv_bipush (v := 12) hx hb dX9_state_8 (by decide) ?_
  refine cs_i (As := [.int 8, .int 0, .int 12]) (rest := [.ref a0]) (wr := [(a0, .inr (9, [.int 0, .ref a2, .int 0, .int 0, .int 0, .int 0, .int 0, .int (-1), .ref a1, .ref a3, .ref a4, .ref a5, .int 0, .int 0, .int 0, .int 0, .int 0, .ref a6])), (a1, .inl (cs 0, 45783, .inl (layF (fun _ => 0) 1)))]) ⟨hx, hb, hml, hown, hts⟩ (fun sz => k104_X9_in l D cs sz ) (va_cwS 3 hts gX9_state_X9_in rfl rfl rfl hdX9_in_o ⟨Nat.le_of_ble_eq_true rfl, Nat.le_of_ble_eq_true rfl⟩) hN hP hD hS hA [] [0, 1] rfl rfl rfl rfl (by decide) rfl rfl hl.1 (Nat.le_of_ble_eq_true rfl) dX9_state_10 (Nat.le_of_ble_eq_true rfl) (Nat.le_of_ble_eq_true rfl) (fun u0 H locs hP hD hS => ?_)
  have hP : va_P D vwCl [(a0, .inr (9, [.int 0, .ref a2, .int 0, .int 0, .int 0, .int 0, .int 0, .int (-1), .ref a1, .ref a3, .ref a4, .ref a5, .int 0, .int 0, .int 0, .int 0, .int 0, .ref a6])), (a1, .inl (cs 0, 45783, .inl (layF (fun _ => 0) 1)))] H := hP
  have hD : va_D A [(a0, .inr (9, [.int 0, .ref a2, .int 0, .int 0, .int 0, .int 0, .int 0, .int (-1), .ref a1, .ref a3, .ref a4, .ref a5, .int 0, .int 0, .int 0, .int 0, .int 0, .ref a6])), (a1, .inl (cs 0, 45783, .inl (layF (fun _ => 0) 1)))] := hD
  refine W.widen (k := 0) (n := 0) (Nat.le_of_ble_eq_true rfl) (Nat.le_of_ble_eq_true rfl) ?_
  refine lv_if_ne (tgt := 20) hx hb dX9_state_13 (by decide) (fun _ => ?_) (fun c9 => absurd c9 (by decide))
  refine lv_iconst (v := 0) hx hb dX9_state_20 (by decide) ?_
  refine lv_iconst (v := 1) hx hb dX9_state_21 (by decide) ?_
  refine cv_i (As := [.int 0, .int 1]) (rest := []) (b := a0) (wr := [(a1, .inl (cs 0, 45783, .inl (layF (fun _ => 0) 1)))]) ⟨hx, hb, hml, hown, hts⟩ (fun sz => k47_X9_fails l D cs sz a0 a2 a1 a3 a4 a5 a6) (cwV 2 hts gX9_state_X9_fails rfl rfl rfl hdX9_fails_v ⟨Nat.le_of_ble_eq_true rfl, Nat.le_of_ble_eq_true rfl⟩) hN hP hD hS hA [0] [1] rfl rfl rfl rfl (by decide) (ci := 9) (q0 := 0) rfl rfl rfl rfl hl.1 (Nat.le_of_ble_eq_true rfl) dX9_state_22 (Nat.le_of_ble_eq_true rfl) (Nat.le_of_ble_eq_true rfl) (fun u1 H locs hP hD hS => ?_)
  have hP : va_P D vwCl [(a1, .inl (cs 0, 45783, .inl (layF (fun _ => 0) 1))), (a0, .inr (9, [.int 0, .ref a2, .int 0, .int 0, .int 0, .int 0, .int 0, .int (-1), .ref a1, .ref a3, .ref a4, .ref a5, .int 0, .int 0, .int 0, .int 0, .int 0, .ref a6]))] H := hP
  have hD : va_D A [(a1, .inl (cs 0, 45783, .inl (layF (fun _ => 0) 1))), (a0, .inr (9, [.int 0, .ref a2, .int 0, .int 0, .int 0, .int 0, .int 0, .int (-1), .ref a1, .ref a3, .ref a4, .ref a5, .int 0, .int 0, .int 0, .int 0, .int 0, .ref a6]))] := hD
  refine W.widen (k := 0) (n := 0) (Nat.le_of_ble_eq_true rfl) (Nat.le_of_ble_eq_true rfl) ?_
  refine lv_if_eq (tgt := 32) hx hb dX9_state_25 (by decide) (fun _ => ?_) (fun c9 => absurd (by decide) c9)
  refine lv_aload_n hx hb dX9_state_32 rfl (lv_at hl 0 rfl) ?_
  refine lv_iload_n hx hb dX9_state_33 rfl (lv_at hl 1 rfl) ?_
  refine cv_i (As := [.int 8]) (rest := []) (b := a0) (wr := []) ⟨hx, hb, hml, hown, hts⟩ (fun sz => k105_X9_told l D cs sz a0 a1 a2 a3 a4 a5 a6) (cwV 1 hts gX9_state_X9_told rfl rfl rfl hdX9_told_v ⟨Nat.le_of_ble_eq_true rfl, Nat.le_of_ble_eq_true rfl⟩) hN hP hD hS hA [1, 0] [] rfl rfl rfl rfl (by decide) (ci := 9) (q0 := 0) rfl rfl rfl rfl hl.1 (Nat.le_of_ble_eq_true rfl) dX9_state_34 (Nat.le_of_ble_eq_true rfl) (Nat.le_of_ble_eq_true rfl) (fun u2 H locs hP hD hS => ?_)
  have hP : va_P D vwCl [(a0, .inr (9, [.int 0, .ref a2, .int 0, .int 0, .int 0, .int 0, .int 0, .int (-1), .ref a1, .ref a3, .ref a4, .ref a5, .int 0, .int 0, .int 0, .int 0, .int 0, .ref a6])), (a1, .inl (cs 0, 45783, .inl (layF (fun _ => 0) 1)))] H := hP
  have hD : va_D A [(a0, .inr (9, [.int 0, .ref a2, .int 0, .int 0, .int 0, .int 0, .int 0, .int (-1), .ref a1, .ref a3, .ref a4, .ref a5, .int 0, .int 0, .int 0, .int 0, .int 0, .ref a6])), (a1, .inl (cs 0, 45783, .inl (layF (fun _ => 0) 1)))] := hD
  refine W.widen (k := 0) (n := 0) (Nat.le_of_ble_eq_true rfl) (Nat.le_of_ble_eq_true rfl) ?_
  exact en_i (fun k => ([] : List Nat).getD k 0) hx hb hr hlocks rfl rfl hP hD hS (Nat.le_of_ble_eq_true rfl) (Nat.le_of_ble_eq_true rfl) dX9_state_37
set_option maxHeartbeats 4000000 in
set_option maxRecDepth 100000 in
theorem law_3_8 {p : Program} {l : Launch} {e : Env} {s : State} {m : MethodId} {args : Array Value} {below : List Frame} {meth : Method} {c : Code} {Q : State → Prop} {D : va_G} {cs : Nat → ClassId} {A : Nat → Prop} {xs : Nat → Int32} {b : Nat} (hx : p.tables.exec = Jvm.exec) (hb : c.code = cL_law) (hml : c.maxLocals = 9) (hown : s.vm.findClass RL = some m.cls) (hts : ∀ w ∈ wsL_law, w.before args s = true) (hN : NK D cs s) (hX : va_X b 6 xs s s.heap) (hbl : b < s.heap.size) (hbA : ¬ A b) (hA : ∀ q : Nat, s.heap.size ≤ q → A q) (hZ : ZX A s s.heap) (hZS : ZS cs A s s.heap) (hlt : l.stackTraces = false)
    (kend : ∀ (H : Heap) (locs : List Loc) (ls : Array Slot), va_S A s.heap H locs → lv_has ls 9 [(0, .ref b), (4, .int 0)] → W p l e room_1 s m args below meth c H locs 600002 7302232 Q (F0 m 1169 ls []))
    (a0 a1 a2 a3 a4 a5 a6 a7 a8 a9 a10 a11 a12 a13 a14 a15 a16 a17 a18 : Nat) (hy1 : xs 1 = (8))  (H : Heap) (locs : List Loc) (ls : Array Slot) (hP : va_P D vwCl [(a0, .inr (8, [.ref a5, .ref a1, .ref a6, .ref a7, .int 0, .int 0, .int (-1)])), (a1, .inr (7, [.ref a8, .ref a9, .ref a10, .ref a11, .ref a12, .ref a13, .long 0, .int 0, .int 0, .int 0, .int 0, .int 0, .int 0, .int 0, .int 0, .int 0])), (a2, .inr (9, [.int 0, .ref a14, .int 0, .int 0, .int 0, .int 0, .int 0, .int (-1), .ref a3, .ref a15, .ref a16, .ref a17, .int 0, .int 0, .int 0, .int 0, .int 0, .ref a18])), (a3, .inl (cs 0, 45783, .inl (layF (fun _ => 0) 1))), (a4, .inl (cs 3, 1, .inr (.inl (fun _ => 0))))] H) (hD : va_D A [(a0, .inr (8, [.ref a5, .ref a1, .ref a6, .ref a7, .int 0, .int 0, .int (-1)])), (a1, .inr (7, [.ref a8, .ref a9, .ref a10, .ref a11, .ref a12, .ref a13, .long 0, .int 0, .int 0, .int 0, .int 0, .int 0, .int 0, .int 0, .int 0, .int 0])), (a2, .inr (9, [.int 0, .ref a14, .int 0, .int 0, .int 0, .int 0, .int 0, .int (-1), .ref a3, .ref a15, .ref a16, .ref a17, .int 0, .int 0, .int 0, .int 0, .int 0, .ref a18])), (a3, .inl (cs 0, 45783, .inl (layF (fun _ => 0) 1))), (a4, .inl (cs 3, 1, .inr (.inl (fun _ => 0))))]) (hS : va_S A s.heap H locs) (hl : lv_has ls 9 [(4, .int 0), (3, .ref a4), (2, .ref a2), (1, .ref a0), (0, .ref b)]) : W p l e room_1 s m args below meth c H locs 391 467079 Q (F0 m 278 ls []) := by
  refine lv_aload_n hx hb dL_law_278 rfl (lv_at hl 3 rfl) ?_
  refine lv_aload_n hx hb dL_law_279 rfl (lv_at hl 4 rfl) ?_
  refine lv_iload hx hb dL_law_280 (lv_at hl 0 rfl) ?_
  refine lv_iconst (v := 1) hx hb dL_law_282 (by decide) ?_
  refine lv_iadd hx hb dL_law_283 ?_
  refine tp_i (1) (by decide) ?_
  refine va_sld hx hb hX hbl hbA hS (vin (by decide +kernel)) dL_law_284 ?_
  refine tp_i (8) hy1 ?_
  refine lv_aload_n hx hb dL_law_285 rfl (lv_at hl 1 rfl) ?_
  refine ch_i (As := [.ref a0, .int 8, .ref a4]) (rest := []) (wr := [(a2, .inr (9, [.int 0, .ref a14, .int 0, .int 0, .int 0, .int 0, .int 0, .int (-1), .ref a3, .ref a15, .ref a16, .ref a17, .int 0, .int 0, .int 0, .int 0, .int 0, .ref a18])), (a3, .inl (cs 0, 45783, .inl (layF (fun _ => 0) 1)))]) ⟨hx, hb, hml, hown, hts⟩ (fun sz => k103_L_state l D cs sz hlt a0 a1 a4 a5 a6 a7 a8 a9 a10 a11 a12 a13) (vx_cwSW 3 hts gL_law_L_state rfl rfl rfl hdL_state_o ⟨Nat.le_of_ble_eq_true rfl, Nat.le_of_ble_eq_true rfl⟩) hN hP hD hS hA hZ [0, 1, 4] [2, 3] rfl rfl rfl rfl (by decide) rfl rfl hl.1 (Nat.le_of_ble_eq_true rfl) dL_law_286 (Nat.le_of_ble_eq_true rfl) (Nat.le_of_ble_eq_true rfl) (fun u0 H locs hP hD hS => ?_)
  have hP : va_P D vwCl [(a2, .inr (9, [.int 0, .ref a14, .int 0, .int 0, .int 0, .int 0, .int 0, .int (-1), .ref a3, .ref a15, .ref a16, .ref a17, .int 0, .int 0, .int 0, .int 0, .int 0, .ref a18])), (a3, .inl (cs 0, 45783, .inl (layF (fun _ => 0) 1))), (a4, .inl (cs 3, 1, .inr (.inl (fun _ => 0)))), (a0, .inr (8, [.ref a5, .ref a1, .ref a6, .ref a7, .int 0, .int 0, .int (-1)])), (a1, .inr (7, [.ref a8, .ref a9, .ref a10, .ref a11, .ref a12, .ref a13, .long 0, .int 0, .int 0, .int 0, .int 0, .int 0, .int 0, .int 0, .int 0, .int 0]))] H := hP
  have hD : va_D A [(a2, .inr (9, [.int 0, .ref a14, .int 0, .int 0, .int 0, .int 0, .int 0, .int (-1), .ref a3, .ref a15, .ref a16, .ref a17, .int 0, .int 0, .int 0, .int 0, .int 0, .ref a18])), (a3, .inl (cs 0, 45783, .inl (layF (fun _ => 0) 1))), (a4, .inl (cs 3, 1, .inr (.inl (fun _ => 0)))), (a0, .inr (8, [.ref a5, .ref a1, .ref a6, .ref a7, .int 0, .int 0, .int (-1)])), (a1, .inr (7, [.ref a8, .ref a9, .ref a10, .ref a11, .ref a12, .ref a13, .long 0, .int 0, .int 0, .int 0, .int 0, .int 0, .int 0, .int 0, .int 0, .int 0]))] := hD
  refine W.widen (k := 391) (n := 467079) (Nat.le_of_ble_eq_true rfl) (Nat.le_of_ble_eq_true rfl) ?_
  refine lv_istore (lv' := [(5, .int 0), (4, .int 0), (3, .ref a4), (2, .ref a2), (1, .ref a0), (0, .ref b)]) hx hb dL_law_289 hl (by decide) rfl (fun ls hl => ?_)
  refine lv_aload_n hx hb dL_law_291 rfl (lv_at hl 3 rfl) ?_
  refine lv_aload_n hx hb dL_law_292 rfl (lv_at hl 5 rfl) ?_
  refine lv_iload hx hb dL_law_293 (lv_at hl 1 rfl) ?_
  refine lv_iconst (v := 1) hx hb dL_law_295 (by decide) ?_
  refine lv_iadd hx hb dL_law_296 ?_
  refine tp_i (1) (by decide) ?_
  refine va_sld hx hb hX hbl hbA hS (vin (by decide +kernel)) dL_law_297 ?_
  refine tp_i (8) hy1 ?_
  refine cv_i (As := [.int 8]) (rest := []) (b := a2) (wr := [(a4, .inl (cs 3, 1, .inr (.inl (fun _ => 0)))), (a0, .inr (8, [.ref a5, .ref a1, .ref a6, .ref a7, .int 0, .int 0, .int (-1)])), (a1, .inr (7, [.ref a8, .ref a9, .ref a10, .ref a11, .ref a12, .ref a13, .long 0, .int 0, .int 0, .int 0, .int 0, .int 0, .int 0, .int 0, .int 0, .int 0]))]) ⟨hx, hb, hml, hown, hts⟩ (fun sz => k106_X9_state l D cs sz a2 a3 a14 a15 a16 a17 a18) (cwV 1 hts gL_law_X9_state rfl rfl rfl hdX9_state_v ⟨Nat.le_of_ble_eq_true rfl, Nat.le_of_ble_eq_true rfl⟩) hN hP hD hS hA [0, 1] [2, 3, 4] rfl rfl rfl rfl (by decide) (ci := 9) (q0 := 0) rfl rfl rfl rfl hl.1 (Nat.le_of_ble_eq_true rfl) dL_law_298 (Nat.le_of_ble_eq_true rfl) (Nat.le_of_ble_eq_true rfl) (fun u1 H locs hP hD hS => ?_)
  have hP : va_P D vwCl [(a4, .inl (cs 3, 1, .inr (.inl (fun _ => 0)))), (a0, .inr (8, [.ref a5, .ref a1, .ref a6, .ref a7, .int 0, .int 0, .int (-1)])), (a1, .inr (7, [.ref a8, .ref a9, .ref a10, .ref a11, .ref a12, .ref a13, .long 0, .int 0, .int 0, .int 0, .int 0, .int 0, .int 0, .int 0, .int 0, .int 0])), (a2, .inr (9, [.int 0, .ref a14, .int 0, .int 0, .int 0, .int 0, .int 0, .int (-1), .ref a3, .ref a15, .ref a16, .ref a17, .int 0, .int 0, .int 0, .int 0, .int 0, .ref a18])), (a3, .inl (cs 0, 45783, .inl (layF (fun _ => 0) 1)))] H := hP
  have hD : va_D A [(a4, .inl (cs 3, 1, .inr (.inl (fun _ => 0)))), (a0, .inr (8, [.ref a5, .ref a1, .ref a6, .ref a7, .int 0, .int 0, .int (-1)])), (a1, .inr (7, [.ref a8, .ref a9, .ref a10, .ref a11, .ref a12, .ref a13, .long 0, .int 0, .int 0, .int 0, .int 0, .int 0, .int 0, .int 0, .int 0, .int 0])), (a2, .inr (9, [.int 0, .ref a14, .int 0, .int 0, .int 0, .int 0, .int 0, .int (-1), .ref a3, .ref a15, .ref a16, .ref a17, .int 0, .int 0, .int 0, .int 0, .int 0, .ref a18])), (a3, .inl (cs 0, 45783, .inl (layF (fun _ => 0) 1)))] := hD
  refine W.widen (k := 391) (n := 467079) (Nat.le_of_ble_eq_true rfl) (Nat.le_of_ble_eq_true rfl) ?_
  refine lv_istore (lv' := [(6, .int 0), (5, .int 0), (4, .int 0), (3, .ref a4), (2, .ref a2), (1, .ref a0), (0, .ref b)]) hx hb dL_law_301 hl (by decide) rfl (fun ls hl => ?_)
  refine lv_aload_n hx hb dL_law_303 rfl (lv_at hl 4 rfl) ?_
  refine cv_i (As := []) (rest := []) (b := a2) (wr := [(a4, .inl (cs 3, 1, .inr (.inl (fun _ => 0)))), (a0, .inr (8, [.ref a5, .ref a1, .ref a6, .ref a7, .int 0, .int 0, .int (-1)])), (a1, .inr (7, [.ref a8, .ref a9, .ref a10, .ref a11, .ref a12, .ref a13, .long 0, .int 0, .int 0, .int 0, .int 0, .int 0, .int 0, .int 0, .int 0, .int 0])), (a3, .inl (cs 0, 45783, .inl (layF (fun _ => 0) 1)))]) ⟨hx, hb, hml, hown, hts⟩ (fun sz => k50_X9_thrown l D cs sz a2 a14 a3 a15 a16 a17 a18) (cwV 0 hts gL_law_X9_thrown rfl rfl rfl hdX9_thrown_v ⟨Nat.le_of_ble_eq_true rfl, Nat.le_of_ble_eq_true rfl⟩) hN hP hD hS hA [3] [0, 1, 2, 4] rfl rfl rfl rfl (by decide) (ci := 9) (q0 := 0) rfl rfl rfl rfl hl.1 (Nat.le_of_ble_eq_true rfl) dL_law_304 (Nat.le_of_ble_eq_true rfl) (Nat.le_of_ble_eq_true rfl) (fun u2 H locs hP hD hS => ?_)
  have hP : va_P D vwCl [(a4, .inl (cs 3, 1, .inr (.inl (fun _ => 0)))), (a0, .inr (8, [.ref a5, .ref a1, .ref a6, .ref a7, .int 0, .int 0, .int (-1)])), (a1, .inr (7, [.ref a8, .ref a9, .ref a10, .ref a11, .ref a12, .ref a13, .long 0, .int 0, .int 0, .int 0, .int 0, .int 0, .int 0, .int 0, .int 0, .int 0])), (a3, .inl (cs 0, 45783, .inl (layF (fun _ => 0) 1))), (a2, .inr (9, [.int 0, .ref a14, .int 0, .int 0, .int 0, .int 0, .int 0, .int (-1), .ref a3, .ref a15, .ref a16, .ref a17, .int 0, .int 0, .int 0, .int 0, .int 0, .ref a18]))] H := hP
  have hD : va_D A [(a4, .inl (cs 3, 1, .inr (.inl (fun _ => 0)))), (a0, .inr (8, [.ref a5, .ref a1, .ref a6, .ref a7, .int 0, .int 0, .int (-1)])), (a1, .inr (7, [.ref a8, .ref a9, .ref a10, .ref a11, .ref a12, .ref a13, .long 0, .int 0, .int 0, .int 0, .int 0, .int 0, .int 0, .int 0, .int 0, .int 0])), (a3, .inl (cs 0, 45783, .inl (layF (fun _ => 0) 1))), (a2, .inr (9, [.int 0, .ref a14, .int 0, .int 0, .int 0, .int 0, .int 0, .int (-1), .ref a3, .ref a15, .ref a16, .ref a17, .int 0, .int 0, .int 0, .int 0, .int 0, .ref a18]))] := hD
  refine W.widen (k := 391) (n := 467079) (Nat.le_of_ble_eq_true rfl) (Nat.le_of_ble_eq_true rfl) ?_
  refine lv_iload hx hb dL_law_307 (lv_at hl 1 rfl) ?_
  refine lv_icmp_eq (tgt := 314) hx hb dL_law_309 (by decide) (fun _ => ?_) (fun c9 => absurd (by decide) c9)
  refine lv_iload hx hb dL_law_314 (lv_at hl 1 rfl) ?_
  refine lv_if_ne (tgt := 331) hx hb dL_law_316 (by decide) (fun c9 => absurd (by decide) c9) (fun _ => ?_)
  refine lv_aload_n hx hb dL_law_319 rfl (lv_at hl 3 rfl) ?_
  refine lv_iconst (v := 0) hx hb dL_law_320 (by decide) ?_
  refine ld_l (v := 0) hx hb hN hP 0 rfl (vin (by decide +kernel)) (by first | rfl | decide +kernel) dL_law_321 ?_
  refine lv_iload hx hb dL_law_322 (lv_at hl 0 rfl) ?_
  refine lv_i2l (v := 0) hx hb dL_law_324 (by decide) ?_
  refine W.lcmp hx hb dL_law_325 ?_
  refine tp_i (0) (by decide) ?_
  refine lv_if_eq (tgt := 331) hx hb dL_law_326 (by decide) (fun _ => ?_) (fun c9 => absurd (by decide) c9)
  refine lv_goto (tgt := 1169) hx hb dL_law_331 (by decide) ?_
  refine W.widen (k := 600002) (n := 7302232) (Nat.le_of_ble_eq_true rfl) (Nat.le_of_ble_eq_true rfl) ?_
  exact kend _ _ _ hS (lv_sub hl [6, 2] rfl)

set_option maxHeartbeats 4000000 in
set_option maxRecDepth 100000 in
theorem k107_X8_refuseWhatOutside (l : Launch) (D : va_G) (cs : Nat → ClassId) (sz : Nat) (a0 a1 a2 a3 a4 : Nat) : KV l yX8_refuseWhatOutside wsX8_refuseWhatOutside 0 0 0 0 D cs sz [.ref a0, .int 9, .int 12] [(a0, .inr (8, [.ref a1, .ref a2, .ref a3, .ref a4, .int 0, .int 0, .int (-1)]))] (fun u => [(a0, .inr (8, [.ref a1, .ref a2, .ref a3, .ref a4, .int 0, .int 0, .int (-1)]))]) := by
  refine KV.of cX8_refuseWhatOutside 3 none (by decide) rfl (Nat.le_of_ble_eq_true rfl) ?_
  intro p e s m below meth c A ls hx hb hr hml hown hts hlocks hin hP hN hD hA hS hl
  have hown : s.vm.findClass RX8 = some m.cls := hown
  have hl : lv_has ls 3 [(0, .ref a0), (1, .int 9), (2, .int 12)] := hl
  refine lv_iload_n hx hb dX8_refuseWhatOutside_0 rfl (lv_at hl 1 rfl) ?_
  refine lv_if_lt (tgt := 9) hx hb dX8_refuseWhatOutside_1 (by decide) (fun c9 => absurd c9 (by decide)) (fun _ => ?_)
  refine lv_iload_n hx hb dX8_refuseWhatOutside_4 rfl (lv_at hl 1 rfl) ?_
  refine lv_iload_n hx hb dX8_refuseWhatOutside_5 rfl (lv_at hl 2 rfl) ?_
  refine lv_icmp_le (tgt := 19) hx hb dX8_refuseWhatOutside_6 (by decide) (fun _ => ?_) (fun c9 => absurd (by decide) c9)
  exact en_v (fun k => ([] : List Nat).getD k 0) hx hb hr hlocks hP hD hS (Nat.le_of_ble_eq_true rfl) (Nat.le_of_ble_eq_true rfl) dX8_refuseWhatOutside_19
theorem mX7_countSongs_1 : (.fieldLink RX7 52 "OneBeat$World" "setup" "LOneBeat$Setup;" : Cond) ∈ wsX7_countSongs := List.mem_of_getElem? (i := 1) (by decide +kernel)
theorem iX7_countSongs_7 : ∀ w ∈ wsX70, w ∈ wsX7_countSongs := fun w h => List.mem_of_mem_drop (List.mem_of_mem_take ((show wsX70 = (wsX7_countSongs.drop 12).take 16 by decide +kernel) ▸ h))
theorem iX7_countSongs_6 : ∀ w ∈ wsX60, w ∈ wsX7_countSongs := fun w h => List.mem_of_mem_drop (List.mem_of_mem_take ((show wsX60 = (wsX7_countSongs.drop 28).take 8 by decide +kernel) ▸ h))
theorem mX7_at_1 : (.fieldLink RX7 11 "OneBeat$World" "players" "[LOneBeat$Player;" : Cond) ∈ wsX7_at := List.mem_of_getElem? (i := 1) (by decide +kernel)
theorem iX7_at_7 : ∀ w ∈ wsX70, w ∈ wsX7_at := fun w h => List.mem_of_mem_drop (List.mem_of_mem_take ((show wsX70 = (wsX7_at.drop 2).take 16 by decide +kernel) ▸ h))
set_option maxHeartbeats 4000000 in
set_option maxRecDepth 100000 in
theorem k108_X7_at (l : Launch) (D : va_G) (cs : Nat → ClassId) (sz : Nat) (a0 a1 a2 a3 a4 a5 a6 a7 a8 a9 a10 a11 a12 a13 a14 : Nat) : KQ l yX7_at wsX7_at 0 0 0 0 D cs sz [.ref a0, .int 0] [(a0, .inr (7, [.ref a2, .ref a1, .ref a3, .ref a4, .ref a5, .ref a6, .long 0, .int 0, .int 0, .int 0, .int 0, .int 0, .int 0, .int 0, .int 0, .int 0])), (a1, .inl (cs 4, 8, .inr (.inr (.inr (.inr (va_up (va_up (va_up (va_up (va_up (va_up (va_up (va_up (fun _ => none) 0 (some a7)) 1 (some a8)) 2 (some a9)) 3 (some a10)) 4 (some a11)) 5 (some a12)) 6 (some a13)) 7 (some a14)))))))] (fun u => [(a0, .inr (7, [.ref a2, .ref a1, .ref a3, .ref a4, .ref a5, .ref a6, .long 0, .int 0, .int 0, .int 0, .int 0, .int 0, .int 0, .int 0, .int 0, .int 0])), (a1, .inl (cs 4, 8, .inr (.inr (.inr (.inr (va_up (va_up (va_up (va_up (va_up (va_up (va_up (va_up (fun _ => none) 0 (some a7)) 1 (some a8)) 2 (some a9)) 3 (some a10)) 4 (some a11)) 5 (some a12)) 6 (some a13)) 7 (some a14)))))))]) (fun u => some a7) := by
  refine KQ.of cX7_at 2 (some (.object "OneBeat$Player")) (by decide) rfl (Nat.le_of_ble_eq_true rfl) ?_
  intro p e s m below meth c A ls hx hb hr hml hown hts hlocks hin hP hN hD hA hS hl
  have hown : s.vm.findClass RX7 = some m.cls := hown
  have hl : lv_has ls 2 [(0, .ref a0), (1, .int 0)] := hl
  refine lv_aload_n hx hb dX7_at_0 rfl (lv_at hl 0 rfl) ?_
  refine va_get (D := D) (ci := 7) (v := .ref a1) (C := RX7) (T := TX7) (N := 16) hx hb hts iX7_at_7 hown hN.1 hP 0 rfl rfl 1 (by decide) (hts _ mX7_at_1) (fun _ h9 => h9) rfl dX7_at_1 ?_
  refine lv_iload_n hx hb dX7_at_4 rfl (lv_at hl 1 rfl) ?_
  refine lv_bipush (v := 7) hx hb dX7_at_5 (by decide) ?_
  refine lv_iand hx hb dX7_at_7 ?_
  refine tp_i (0) (by decide) ?_
  refine ld_p (v := (.ref a7)) hx hb hN hP 1 rfl (vin (by decide +kernel)) (by first | rfl | decide +kernel) dX7_at_8 ?_
  exact en_q (fun k => ([] : List Nat).getD k 0) (x := (some a7)) hx hb hr hlocks (by first | exact Or.inl ⟨_, rfl⟩ | exact Or.inr ⟨_, rfl⟩) rfl hP hD hS (Nat.le_of_ble_eq_true rfl) (Nat.le_of_ble_eq_true rfl) dX7_at_9
theorem iX7_countSongs_3 : ∀ w ∈ wsX30, w ∈ wsX7_countSongs := fun w h => List.mem_of_mem_drop (List.mem_of_mem_take ((show wsX30 = (wsX7_countSongs.drop 36).take 10 by decide +kernel) ▸ h))
set_option maxHeartbeats 4000000 in
set_option maxRecDepth 100000 in
theorem k109_X7_isFirstWithItsSong (l : Launch) (D : va_G) (cs : Nat → ClassId) (sz : Nat) (a0 a1 a2 a3 a4 a5 a6 : Nat) : KI l yX7_isFirstWithItsSong wsX7_isFirstWithItsSong 0 0 0 0 D cs sz [.ref a0, .int 0] [(a0, .inr (7, [.ref a1, .ref a2, .ref a3, .ref a4, .ref a5, .ref a6, .long 0, .int 0, .int 0, .int 0, .int 0, .int 0, .int 0, .int 0, .int 0, .int 0]))] (fun u => [(a0, .inr (7, [.ref a1, .ref a2, .ref a3, .ref a4, .ref a5, .ref a6, .long 0, .int 0, .int 0, .int 0, .int 0, .int 0, .int 0, .int 0, .int 0, .int 0]))]) (1) := by
  refine KI.of cX7_isFirstWithItsSong 3 (some .boolean) (by decide) rfl (Nat.le_of_ble_eq_true rfl) ?_
  intro p e s m below meth c A ls hx hb hr hml hown hts hlocks hin hP hN hD hA hS hl
  have hown : s.vm.findClass RX7 = some m.cls := hown
  have hl : lv_has ls 3 [(0, .ref a0), (1, .int 0)] := hl
  refine lv_iconst (v := 0) hx hb dX7_isFirstWithItsSong_0 (by decide) ?_
  refine lv_istore_n (lv' := [(2, .int 0), (0, .ref a0), (1, .int 0)]) hx hb dX7_isFirstWithItsSong_1 rfl hl (by decide) rfl (fun ls hl => ?_)
  refine lv_iload_n hx hb dX7_isFirstWithItsSong_2 rfl (lv_at hl 0 rfl) ?_
  refine lv_iload_n hx hb dX7_isFirstWithItsSong_3 rfl (lv_at hl 2 rfl) ?_
  refine lv_icmp_ge (tgt := 45) hx hb dX7_isFirstWithItsSong_4 (by decide) (fun _ => ?_) (fun c9 => absurd (by decide) c9)
  refine lv_iconst (v := 1) hx hb dX7_isFirstWithItsSong_45 (by decide) ?_
  exact en_i (fun k => ([] : List Nat).getD k 0) hx hb hr hlocks rfl rfl hP hD hS (Nat.le_of_ble_eq_true rfl) (Nat.le_of_ble_eq_true rfl) dX7_isFirstWithItsSong_46
theorem hdX7_at_v : yX7_at.cls = RX7 ∧ yX7_at.cls ≠ "java/lang/invoke/MethodHandle" ∧ yX7_at.cls ≠ "java/lang/invoke/VarHandle" ∧ (parseMethodDescriptor yX7_at.desc).map (fun d => d.parameters.length) = some 1 := by decide +kernel
theorem hdX7_isFirstWithItsSong_v : yX7_isFirstWithItsSong.cls = RX7 ∧ yX7_isFirstWithItsSong.cls ≠ "java/lang/invoke/MethodHandle" ∧ yX7_isFirstWithItsSong.cls ≠ "java/lang/invoke/VarHandle" ∧ (parseMethodDescriptor yX7_isFirstWithItsSong.desc).map (fun d => d.parameters.length) = some 1 := by decide +kernel
set_option maxHeartbeats 4000000 in
set_option maxRecDepth 100000 in
theorem k110_X7_countSongs (l : Launch) (D : va_G) (cs : Nat → ClassId) (sz : Nat) (a0 a1 a2 a3 a4 a5 a6 a7 a8 a9 a10 a11 a12 a13 a14 a15 a16 a17 a18 : Nat) : KI l yX7_countSongs wsX7_countSongs 1 22 0 0 D cs sz [.ref a0] [(a0, .inr (7, [.ref a1, .ref a2, .ref a4, .ref a5, .ref a6, .ref a7, .long 0, .int 0, .int 0, .int 0, .int 0, .int 0, .int 0, .int 0, .int 0, .int 0])), (a1, .inr (6, [.int 1, .int 1, .int 50, .null, .ref a8, .ref a9, .ref a10, .ref a11])), (a2, .inl (cs 4, 8, .inr (.inr (.inr (.inr (va_up (va_up (va_up (va_up (va_up (va_up (va_up (va_up (fun _ => none) 0 (some a3)) 1 (some a12)) 2 (some a13)) 3 (some a14)) 4 (some a15)) 5 (some a16)) 6 (some a17)) 7 (some a18))))))), (a3, .inr (3, [.int 1, .int 0, .int 0, .int 0, .int (-1), .int 0, .int 0, .int 0, .int 0, .int (-1)]))] (fun u => [(a1, .inr (6, [.int 1, .int 1, .int 50, .null, .ref a8, .ref a9, .ref a10, .ref a11])), (a3, .inr (3, [.int 1, .int 0, .int 0, .int 0, .int (-1), .int 0, .int 0, .int 0, .int 0, .int (-1)])), (a2, .inl (cs 4, 8, .inr (.inr (.inr (.inr (va_up (va_up (va_up (va_up (va_up (va_up (va_up (va_up (fun _ => none) 0 (some a3)) 1 (some a12)) 2 (some a13)) 3 (some a14)) 4 (some a15)) 5 (some a16)) 6 (some a17)) 7 (some a18))))))), (a0, .inr (7, [.ref a1, .ref a2, .ref a4, .ref a5, .ref a6, .ref a7, .long 0, .int 0, .int 0, .int 0, .int 0, .int 0, .int 0, .int 0, .int 0, .int 0]))]) (1) := by
  refine KI.of cX7_countSongs 3 (some .int) (by decide) rfl (Nat.le_of_ble_eq_true rfl) ?_
  intro p e s m below meth c A ls hx hb hr hml hown hts hlocks hin hP hN hD hA hS hl
  have hown : s.vm.findClass RX7 = some m.cls := hown
  have hl : lv_has ls 3 [(0, .ref a0)] := hl
  refine lv_iconst (v := 0) hx hb dX7_countSongs_0 (by decide) ?_
  refine lv_istore_n (lv' := [(1, .int 0), (0, .ref a0)]) hx hb dX7_countSongs_1 rfl hl (by decide) rfl (fun ls hl => ?_)
  refine lv_iconst (v := 0) hx hb dX7_countSongs_2 (by decide) ?_
  refine lv_istore_n (lv' := [(2, .int 0), (1, .int 0), (0, .ref a0)]) hx hb dX7_countSongs_3 rfl hl (by decide) rfl (fun ls hl => ?_)
  refine lv_iload_n hx hb dX7_countSongs_4 rfl (lv_at hl 0 rfl) ?_
  refine lv_aload_n hx hb dX7_countSongs_5 rfl (lv_at hl 2 rfl) ?_
  refine va_get (D := D) (ci := 7) (v := .ref a1) (C := RX7) (T := TX7) (N := 16) hx hb hts iX7_countSongs_7 hown hN.1 hP 0 rfl rfl 0 (by decide) (hts _ mX7_countSongs_1) (fun _ h9 => h9) rfl dX7_countSongs_6 ?_
  refine va_getN (D := D) (ci := 6) (v := .int 1) (C := RX6) (T := TX6) (N := 8) hx hb hts iX7_countSongs_6 hown hN.1 hP 1 rfl rfl 0 (by decide) (hN.f 39 rfl) (fun _ h9 => h9) rfl dX7_countSongs_9 ?_
  refine lv_icmp_ge (tgt := 43) hx hb dX7_countSongs_12 (by decide) (fun c9 => absurd c9 (by decide)) (fun _ => ?_)
  refine lv_aload_n hx hb dX7_countSongs_15 rfl (lv_at hl 2 rfl) ?_
  refine lv_iload_n hx hb dX7_countSongs_16 rfl (lv_at hl 0 rfl) ?_
  refine cv_q (As := [.int 0]) (rest := []) (b := a0) (wr := [(a1, .inr (6, [.int 1, .int 1, .int 50, .null, .ref a8, .ref a9, .ref a10, .ref a11])), (a3, .inr (3, [.int 1, .int 0, .int 0, .int 0, .int (-1), .int 0, .int 0, .int 0, .int 0, .int (-1)]))]) ⟨hx, hb, hml, hown, hts⟩ (fun sz => k108_X7_at l D cs sz a0 a2 a1 a4 a5 a6 a7 a3 a12 a13 a14 a15 a16 a17 a18) (cwV 1 hts gX7_countSongs_X7_at rfl rfl rfl hdX7_at_v ⟨Nat.le_of_ble_eq_true rfl, Nat.le_of_ble_eq_true rfl⟩) hN hP hD hS hA [0, 2] [1, 3] rfl rfl rfl rfl (by decide) (ci := 7) (q0 := 0) rfl rfl rfl rfl hl.1 (Nat.le_of_ble_eq_true rfl) dX7_countSongs_17 (Nat.le_of_ble_eq_true rfl) (Nat.le_of_ble_eq_true rfl) (fun u0 H locs hP hD hS => ?_)
  have hP : va_P D vwCl [(a1, .inr (6, [.int 1, .int 1, .int 50, .null, .ref a8, .ref a9, .ref a10, .ref a11])), (a3, .inr (3, [.int 1, .int 0, .int 0, .int 0, .int (-1), .int 0, .int 0, .int 0, .int 0, .int (-1)])), (a0, .inr (7, [.ref a1, .ref a2, .ref a4, .ref a5, .ref a6, .ref a7, .long 0, .int 0, .int 0, .int 0, .int 0, .int 0, .int 0, .int 0, .int 0, .int 0])), (a2, .inl (cs 4, 8, .inr (.inr (.inr (.inr (va_up (va_up (va_up (va_up (va_up (va_up (va_up (va_up (fun _ => none) 0 (some a3)) 1 (some a12)) 2 (some a13)) 3 (some a14)) 4 (some a15)) 5 (some a16)) 6 (some a17)) 7 (some a18)))))))] H := hP
  have hD : va_D A [(a1, .inr (6, [.int 1, .int 1, .int 50, .null, .ref a8, .ref a9, .ref a10, .ref a11])), (a3, .inr (3, [.int 1, .int 0, .int 0, .int 0, .int (-1), .int 0, .int 0, .int 0, .int 0, .int (-1)])), (a0, .inr (7, [.ref a1, .ref a2, .ref a4, .ref a5, .ref a6, .ref a7, .long 0, .int 0, .int 0, .int 0, .int 0, .int 0, .int 0, .int 0, .int 0, .int 0])), (a2, .inl (cs 4, 8, .inr (.inr (.inr (.inr (va_up (va_up (va_up (va_up (va_up (va_up (va_up (va_up (fun _ => none) 0 (some a3)) 1 (some a12)) 2 (some a13)) 3 (some a14)) 4 (some a15)) 5 (some a16)) 6 (some a17)) 7 (some a18)))))))] := hD
  refine W.widen (k := 0) (n := 0) (Nat.le_of_ble_eq_true rfl) (Nat.le_of_ble_eq_true rfl) ?_
  refine tp_r (v := .ref a3) rfl ?_
  refine va_getN (D := D) (ci := 3) (v := .int 1) (C := RX3) (T := TX3) (N := 10) hx hb hts iX7_countSongs_3 hown hN.1 hP 1 rfl rfl 0 (by decide) (hN.f 27 rfl) (fun _ h9 => h9) rfl dX7_countSongs_20 ?_
  refine lv_if_eq (tgt := 37) hx hb dX7_countSongs_23 (by decide) (fun c9 => absurd c9 (by decide)) (fun _ => ?_)
  refine lv_aload_n hx hb dX7_countSongs_26 rfl (lv_at hl 2 rfl) ?_
  refine lv_iload_n hx hb dX7_countSongs_27 rfl (lv_at hl 0 rfl) ?_
  refine cv_i (As := [.int 0]) (rest := []) (b := a0) (wr := [(a1, .inr (6, [.int 1, .int 1, .int 50, .null, .ref a8, .ref a9, .ref a10, .ref a11])), (a3, .inr (3, [.int 1, .int 0, .int 0, .int 0, .int (-1), .int 0, .int 0, .int 0, .int 0, .int (-1)])), (a2, .inl (cs 4, 8, .inr (.inr (.inr (.inr (va_up (va_up (va_up (va_up (va_up (va_up (va_up (va_up (fun _ => none) 0 (some a3)) 1 (some a12)) 2 (some a13)) 3 (some a14)) 4 (some a15)) 5 (some a16)) 6 (some a17)) 7 (some a18)))))))]) ⟨hx, hb, hml, hown, hts⟩ (fun sz => k109_X7_isFirstWithItsSong l D cs sz a0 a1 a2 a4 a5 a6 a7) (cwV 1 hts gX7_countSongs_X7_isFirstWithItsSong rfl rfl rfl hdX7_isFirstWithItsSong_v ⟨Nat.le_of_ble_eq_true rfl, Nat.le_of_ble_eq_true rfl⟩) hN hP hD hS hA [2] [0, 1, 3] rfl rfl rfl rfl (by decide) (ci := 7) (q0 := 0) rfl rfl rfl rfl hl.1 (Nat.le_of_ble_eq_true rfl) dX7_countSongs_28 (Nat.le_of_ble_eq_true rfl) (Nat.le_of_ble_eq_true rfl) (fun u1 H locs hP hD hS => ?_)
  have hP : va_P D vwCl [(a1, .inr (6, [.int 1, .int 1, .int 50, .null, .ref a8, .ref a9, .ref a10, .ref a11])), (a3, .inr (3, [.int 1, .int 0, .int 0, .int 0, .int (-1), .int 0, .int 0, .int 0, .int 0, .int (-1)])), (a2, .inl (cs 4, 8, .inr (.inr (.inr (.inr (va_up (va_up (va_up (va_up (va_up (va_up (va_up (va_up (fun _ => none) 0 (some a3)) 1 (some a12)) 2 (some a13)) 3 (some a14)) 4 (some a15)) 5 (some a16)) 6 (some a17)) 7 (some a18))))))), (a0, .inr (7, [.ref a1, .ref a2, .ref a4, .ref a5, .ref a6, .ref a7, .long 0, .int 0, .int 0, .int 0, .int 0, .int 0, .int 0, .int 0, .int 0, .int 0]))] H := hP
  have hD : va_D A [(a1, .inr (6, [.int 1, .int 1, .int 50, .null, .ref a8, .ref a9, .ref a10, .ref a11])), (a3, .inr (3, [.int 1, .int 0, .int 0, .int 0, .int (-1), .int 0, .int 0, .int 0, .int 0, .int (-1)])), (a2, .inl (cs 4, 8, .inr (.inr (.inr (.inr (va_up (va_up (va_up (va_up (va_up (va_up (va_up (va_up (fun _ => none) 0 (some a3)) 1 (some a12)) 2 (some a13)) 3 (some a14)) 4 (some a15)) 5 (some a16)) 6 (some a17)) 7 (some a18))))))), (a0, .inr (7, [.ref a1, .ref a2, .ref a4, .ref a5, .ref a6, .ref a7, .long 0, .int 0, .int 0, .int 0, .int 0, .int 0, .int 0, .int 0, .int 0, .int 0]))] := hD
  refine W.widen (k := 0) (n := 0) (Nat.le_of_ble_eq_true rfl) (Nat.le_of_ble_eq_true rfl) ?_
  refine lv_if_eq (tgt := 37) hx hb dX7_countSongs_31 (by decide) (fun c9 => absurd c9 (by decide)) (fun _ => ?_)
  refine lv_iinc (v := 1) (lv' := [(1, .int 1), (2, .int 0), (0, .ref a0)]) hx hb dX7_countSongs_34 hl (k := 1) rfl (by decide) (by decide) rfl (fun ls hl => ?_)
  refine lv_iinc (v := 1) (lv' := [(2, .int 1), (1, .int 1), (0, .ref a0)]) hx hb dX7_countSongs_37 hl (k := 1) rfl (by decide) (by decide) rfl (fun ls hl => ?_)
  refine lv_goto (tgt := 4) hx hb dX7_countSongs_40 (by decide) ?_
  refine lv_iload_n hx hb dX7_countSongs_4 rfl (lv_at hl 0 rfl) ?_
  refine lv_aload_n hx hb dX7_countSongs_5 rfl (lv_at hl 2 rfl) ?_
  refine va_get (D := D) (ci := 7) (v := .ref a1) (C := RX7) (T := TX7) (N := 16) hx hb hts iX7_countSongs_7 hown hN.1 hP 3 rfl rfl 0 (by decide) (hts _ mX7_countSongs_1) (fun _ h9 => h9) rfl dX7_countSongs_6 ?_
  refine va_getN (D := D) (ci := 6) (v := .int 1) (C := RX6) (T := TX6) (N := 8) hx hb hts iX7_countSongs_6 hown hN.1 hP 0 rfl rfl 0 (by decide) (hN.f 39 rfl) (fun _ h9 => h9) rfl dX7_countSongs_9 ?_
  refine lv_icmp_ge (tgt := 43) hx hb dX7_countSongs_12 (by decide) (fun _ => ?_) (fun c9 => absurd (by decide) c9)
  refine lv_iload_n hx hb dX7_countSongs_43 rfl (lv_at hl 1 rfl) ?_
  exact en_i (fun k => ([] : List Nat).getD k 0) hx hb hr hlocks rfl rfl hP hD hS (Nat.le_of_ble_eq_true rfl) (Nat.le_of_ble_eq_true rfl) dX7_countSongs_44
theorem hdX7_countSongs_v : yX7_countSongs.cls = RX7 ∧ yX7_countSongs.cls ≠ "java/lang/invoke/MethodHandle" ∧ yX7_countSongs.cls ≠ "java/lang/invoke/VarHandle" ∧ (parseMethodDescriptor yX7_countSongs.desc).map (fun d => d.parameters.length) = some 0 := by decide +kernel
set_option maxHeartbeats 4000000 in
set_option maxRecDepth 100000 in
theorem k111_X7_count (l : Launch) (D : va_G) (cs : Nat → ClassId) (sz : Nat) (a0 a1 a2 a3 a4 a5 a6 a7 a8 a9 a10 a11 a12 a13 a14 a15 a16 a17 a18 : Nat) : KI l yX7_count wsX7_count 2 44 0 0 D cs sz [.ref a0, .int 9] [(a0, .inr (7, [.ref a1, .ref a2, .ref a4, .ref a5, .ref a6, .ref a7, .long 0, .int 0, .int 0, .int 0, .int 0, .int 0, .int 0, .int 0, .int 0, .int 0])), (a1, .inr (6, [.int 1, .int 1, .int 50, .null, .ref a8, .ref a9, .ref a10, .ref a11])), (a2, .inl (cs 4, 8, .inr (.inr (.inr (.inr (va_up (va_up (va_up (va_up (va_up (va_up (va_up (va_up (fun _ => none) 0 (some a3)) 1 (some a12)) 2 (some a13)) 3 (some a14)) 4 (some a15)) 5 (some a16)) 6 (some a17)) 7 (some a18))))))), (a3, .inr (3, [.int 1, .int 0, .int 0, .int 0, .int (-1), .int 0, .int 0, .int 0, .int 0, .int (-1)]))] (fun u => [(a1, .inr (6, [.int 1, .int 1, .int 50, .null, .ref a8, .ref a9, .ref a10, .ref a11])), (a3, .inr (3, [.int 1, .int 0, .int 0, .int 0, .int (-1), .int 0, .int 0, .int 0, .int 0, .int (-1)])), (a2, .inl (cs 4, 8, .inr (.inr (.inr (.inr (va_up (va_up (va_up (va_up (va_up (va_up (va_up (va_up (fun _ => none) 0 (some a3)) 1 (some a12)) 2 (some a13)) 3 (some a14)) 4 (some a15)) 5 (some a16)) 6 (some a17)) 7 (some a18))))))), (a0, .inr (7, [.ref a1, .ref a2, .ref a4, .ref a5, .ref a6, .ref a7, .long 0, .int 0, .int 0, .int 0, .int 0, .int 0, .int 0, .int 0, .int 0, .int 0]))]) (1) := by
  refine KI.of cX7_count 2 (some .int) (by decide) rfl (Nat.le_of_ble_eq_true rfl) ?_
  intro p e s m below meth c A ls hx hb hr hml hown hts hlocks hin hP hN hD hA hS hl
  have hown : s.vm.findClass RX7 = some m.cls := hown
  have hl : lv_has ls 2 [(0, .ref a0), (1, .int 9)] := hl
  refine lv_iload_n hx hb dX7_count_0 rfl (lv_at hl 1 rfl) ?_
  refine lv_tableIn (tgt := 115) (off := 114) hx hb dX7_count_1 (by decide) (by decide) (by decide) (by decide) ?_
  refine lv_aload_n hx hb dX7_count_115 rfl (lv_at hl 0 rfl) ?_
  refine cv_i (As := []) (rest := []) (b := a0) (wr := []) ⟨hx, hb, hml, hown, hts⟩ (fun sz => k110_X7_countSongs l D cs sz a0 a1 a2 a3 a4 a5 a6 a7 a8 a9 a10 a11 a12 a13 a14 a15 a16 a17 a18) (cwV 0 hts gX7_count_X7_countSongs rfl rfl rfl hdX7_countSongs_v ⟨Nat.le_of_ble_eq_true rfl, Nat.le_of_ble_eq_true rfl⟩) hN hP hD hS hA [0, 1, 2, 3] [] rfl rfl rfl rfl (by decide) (ci := 7) (q0 := 0) rfl rfl rfl rfl hl.1 (Nat.le_of_ble_eq_true rfl) dX7_count_116 (Nat.le_of_ble_eq_true rfl) (Nat.le_of_ble_eq_true rfl) (fun u0 H locs hP hD hS => ?_)
  have hP : va_P D vwCl [(a1, .inr (6, [.int 1, .int 1, .int 50, .null, .ref a8, .ref a9, .ref a10, .ref a11])), (a3, .inr (3, [.int 1, .int 0, .int 0, .int 0, .int (-1), .int 0, .int 0, .int 0, .int 0, .int (-1)])), (a2, .inl (cs 4, 8, .inr (.inr (.inr (.inr (va_up (va_up (va_up (va_up (va_up (va_up (va_up (va_up (fun _ => none) 0 (some a3)) 1 (some a12)) 2 (some a13)) 3 (some a14)) 4 (some a15)) 5 (some a16)) 6 (some a17)) 7 (some a18))))))), (a0, .inr (7, [.ref a1, .ref a2, .ref a4, .ref a5, .ref a6, .ref a7, .long 0, .int 0, .int 0, .int 0, .int 0, .int 0, .int 0, .int 0, .int 0, .int 0]))] H := hP
  have hD : va_D A [(a1, .inr (6, [.int 1, .int 1, .int 50, .null, .ref a8, .ref a9, .ref a10, .ref a11])), (a3, .inr (3, [.int 1, .int 0, .int 0, .int 0, .int (-1), .int 0, .int 0, .int 0, .int 0, .int (-1)])), (a2, .inl (cs 4, 8, .inr (.inr (.inr (.inr (va_up (va_up (va_up (va_up (va_up (va_up (va_up (va_up (fun _ => none) 0 (some a3)) 1 (some a12)) 2 (some a13)) 3 (some a14)) 4 (some a15)) 5 (some a16)) 6 (some a17)) 7 (some a18))))))), (a0, .inr (7, [.ref a1, .ref a2, .ref a4, .ref a5, .ref a6, .ref a7, .long 0, .int 0, .int 0, .int 0, .int 0, .int 0, .int 0, .int 0, .int 0, .int 0]))] := hD
  refine W.widen (k := 0) (n := 0) (Nat.le_of_ble_eq_true rfl) (Nat.le_of_ble_eq_true rfl) ?_
  exact en_i (fun k => ([] : List Nat).getD k 0) hx hb hr hlocks rfl rfl hP hD hS (Nat.le_of_ble_eq_true rfl) (Nat.le_of_ble_eq_true rfl) dX7_count_119
set_option maxHeartbeats 4000000 in
set_option maxRecDepth 100000 in
theorem k112_X8_state (l : Launch) (D : va_G) (cs : Nat → ClassId) (sz : Nat) (a0 a1 a2 a3 a4 a5 a6 a7 a8 a9 a10 a11 a12 a13 a14 a15 a16 a17 a18 a19 a20 a21 a22 : Nat) : KI l yX8_state wsX8_state 3 65 0 0 D cs sz [.ref a0, .int 9] [(a0, .inr (8, [.ref a5, .ref a1, .ref a6, .ref a7, .int 0, .int 0, .int (-1)])), (a1, .inr (7, [.ref a2, .ref a3, .ref a8, .ref a9, .ref a10, .ref a11, .long 0, .int 0, .int 0, .int 0, .int 0, .int 0, .int 0, .int 0, .int 0, .int 0])), (a2, .inr (6, [.int 1, .int 1, .int 50, .null, .ref a12, .ref a13, .ref a14, .ref a15])), (a3, .inl (cs 4, 8, .inr (.inr (.inr (.inr (va_up (va_up (va_up (va_up (va_up (va_up (va_up (va_up (fun _ => none) 0 (some a4)) 1 (some a16)) 2 (some a17)) 3 (some a18)) 4 (some a19)) 5 (some a20)) 6 (some a21)) 7 (some a22))))))), (a4, .inr (3, [.int 1, .int 0, .int 0, .int 0, .int (-1), .int 0, .int 0, .int 0, .int 0, .int (-1)]))] (fun u => [(a0, .inr (8, [.ref a5, .ref a1, .ref a6, .ref a7, .int 0, .int 0, .int (-1)])), (a2, .inr (6, [.int 1, .int 1, .int 50, .null, .ref a12, .ref a13, .ref a14, .ref a15])), (a4, .inr (3, [.int 1, .int 0, .int 0, .int 0, .int (-1), .int 0, .int 0, .int 0, .int 0, .int (-1)])), (a3, .inl (cs 4, 8, .inr (.inr (.inr (.inr (va_up (va_up (va_up (va_up (va_up (va_up (va_up (va_up (fun _ => none) 0 (some a4)) 1 (some a16)) 2 (some a17)) 3 (some a18)) 4 (some a19)) 5 (some a20)) 6 (some a21)) 7 (some a22))))))), (a1, .inr (7, [.ref a2, .ref a3, .ref a8, .ref a9, .ref a10, .ref a11, .long 0, .int 0, .int 0, .int 0, .int 0, .int 0, .int 0, .int 0, .int 0, .int 0]))]) (1) := by
  refine KI.of cX8_state 2 (some .int) (by decide) rfl (Nat.le_of_ble_eq_true rfl) ?_
  intro p e s m below meth c A ls hx hb hr hml hown hts hlocks hin hP hN hD hA hS hl
  have hown : s.vm.findClass RX8 = some m.cls := hown
  have hl : lv_has ls 2 [(0, .ref a0), (1, .int 9)] := hl
  refine lv_aload_n hx hb dX8_state_0 rfl (lv_at hl 0 rfl) ?_
  refine lv_iload_n hx hb dX8_state_1 rfl (lv_at hl 1 rfl) ?_
  refine lv_bipush (v := 12) hx hb dX8_state_2 (by decide) ?_
  refine cv_v (As := [.int 9, .int 12]) (rest := []) (b := a0) (wr := [(a1, .inr (7, [.ref a2, .ref a3, .ref a8, .ref a9, .ref a10, .ref a11, .long 0, .int 0, .int 0, .int 0, .int 0, .int 0, .int 0, .int 0, .int 0, .int 0])), (a2, .inr (6, [.int 1, .int 1, .int 50, .null, .ref a12, .ref a13, .ref a14, .ref a15])), (a3, .inl (cs 4, 8, .inr (.inr (.inr (.inr (va_up (va_up (va_up (va_up (va_up (va_up (va_up (va_up (fun _ => none) 0 (some a4)) 1 (some a16)) 2 (some a17)) 3 (some a18)) 4 (some a19)) 5 (some a20)) 6 (some a21)) 7 (some a22))))))), (a4, .inr (3, [.int 1, .int 0, .int 0, .int 0, .int (-1), .int 0, .int 0, .int 0, .int 0, .int (-1)]))]) ⟨hx, hb, hml, hown, hts⟩ (fun sz => k107_X8_refuseWhatOutside l D cs sz a0 a5 a1 a6 a7) (cwV 2 hts gX8_state_X8_refuseWhatOutside rfl rfl rfl hdX8_refuseWhatOutside_v ⟨Nat.le_of_ble_eq_true rfl, Nat.le_of_ble_eq_true rfl⟩) hN hP hD hS hA [0] [1, 2, 3, 4] rfl rfl rfl rfl (by decide) (ci := 8) (q0 := 0) rfl rfl rfl rfl hl.1 (Nat.le_of_ble_eq_true rfl) dX8_state_4 (Nat.le_of_ble_eq_true rfl) (Nat.le_of_ble_eq_true rfl) (fun u0 H locs hP hD hS => ?_)
  have hP : va_P D vwCl [(a1, .inr (7, [.ref a2, .ref a3, .ref a8, .ref a9, .ref a10, .ref a11, .long 0, .int 0, .int 0, .int 0, .int 0, .int 0, .int 0, .int 0, .int 0, .int 0])), (a2, .inr (6, [.int 1, .int 1, .int 50, .null, .ref a12, .ref a13, .ref a14, .ref a15])), (a3, .inl (cs 4, 8, .inr (.inr (.inr (.inr (va_up (va_up (va_up (va_up (va_up (va_up (va_up (va_up (fun _ => none) 0 (some a4)) 1 (some a16)) 2 (some a17)) 3 (some a18)) 4 (some a19)) 5 (some a20)) 6 (some a21)) 7 (some a22))))))), (a4, .inr (3, [.int 1, .int 0, .int 0, .int 0, .int (-1), .int 0, .int 0, .int 0, .int 0, .int (-1)])), (a0, .inr (8, [.ref a5, .ref a1, .ref a6, .ref a7, .int 0, .int 0, .int (-1)]))] H := hP
  have hD : va_D A [(a1, .inr (7, [.ref a2, .ref a3, .ref a8, .ref a9, .ref a10, .ref a11, .long 0, .int 0, .int 0, .int 0, .int 0, .int 0, .int 0, .int 0, .int 0, .int 0])), (a2, .inr (6, [.int 1, .int 1, .int 50, .null, .ref a12, .ref a13, .ref a14, .ref a15])), (a3, .inl (cs 4, 8, .inr (.inr (.inr (.inr (va_up (va_up (va_up (va_up (va_up (va_up (va_up (va_up (fun _ => none) 0 (some a4)) 1 (some a16)) 2 (some a17)) 3 (some a18)) 4 (some a19)) 5 (some a20)) 6 (some a21)) 7 (some a22))))))), (a4, .inr (3, [.int 1, .int 0, .int 0, .int 0, .int (-1), .int 0, .int 0, .int 0, .int 0, .int (-1)])), (a0, .inr (8, [.ref a5, .ref a1, .ref a6, .ref a7, .int 0, .int 0, .int (-1)]))] := hD
  refine W.widen (k := 0) (n := 0) (Nat.le_of_ble_eq_true rfl) (Nat.le_of_ble_eq_true rfl) ?_
  refine lv_aload_n hx hb dX8_state_7 rfl (lv_at hl 0 rfl) ?_
  refine va_get (D := D) (ci := 8) (v := .ref a1) (C := RX8) (T := TX8) (N := 7) hx hb hts iX8_state_8 hown hN.1 hP 4 rfl rfl 1 (by decide) (hts _ mX8_state_1) (fun _ h9 => h9) rfl dX8_state_8 ?_
  refine lv_iload_n hx hb dX8_state_11 rfl (lv_at hl 1 rfl) ?_
  refine cv_i (As := [.int 9]) (rest := []) (b := a1) (wr := [(a0, .inr (8, [.ref a5, .ref a1, .ref a6, .ref a7, .int 0, .int 0, .int (-1)]))]) ⟨hx, hb, hml, hown, hts⟩ (fun sz => k111_X7_count l D cs sz a1 a2 a3 a4 a8 a9 a10 a11 a12 a13 a14 a15 a16 a17 a18 a19 a20 a21 a22) (cwV 1 hts gX8_state_X7_count rfl rfl rfl hdX7_count_v ⟨Nat.le_of_ble_eq_true rfl, Nat.le_of_ble_eq_true rfl⟩) hN hP hD hS hA [0, 1, 2, 3] [4] rfl rfl rfl rfl (by decide) (ci := 7) (q0 := 0) rfl rfl rfl rfl hl.1 (Nat.le_of_ble_eq_true rfl) dX8_state_12 (Nat.le_of_ble_eq_true rfl) (Nat.le_of_ble_eq_true rfl) (fun u1 H locs hP hD hS => ?_)
  have hP : va_P D vwCl [(a0, .inr (8, [.ref a5, .ref a1, .ref a6, .ref a7, .int 0, .int 0, .int (-1)])), (a2, .inr (6, [.int 1, .int 1, .int 50, .null, .ref a12, .ref a13, .ref a14, .ref a15])), (a4, .inr (3, [.int 1, .int 0, .int 0, .int 0, .int (-1), .int 0, .int 0, .int 0, .int 0, .int (-1)])), (a3, .inl (cs 4, 8, .inr (.inr (.inr (.inr (va_up (va_up (va_up (va_up (va_up (va_up (va_up (va_up (fun _ => none) 0 (some a4)) 1 (some a16)) 2 (some a17)) 3 (some a18)) 4 (some a19)) 5 (some a20)) 6 (some a21)) 7 (some a22))))))), (a1, .inr (7, [.ref a2, .ref a3, .ref a8, .ref a9, .ref a10, .ref a11, .long 0, .int 0, .int 0, .int 0, .int 0, .int 0, .int 0, .int 0, .int 0, .int 0]))] H := hP
  have hD : va_D A [(a0, .inr (8, [.ref a5, .ref a1, .ref a6, .ref a7, .int 0, .int 0, .int (-1)])), (a2, .inr (6, [.int 1, .int 1, .int 50, .null, .ref a12, .ref a13, .ref a14, .ref a15])), (a4, .inr (3, [.int 1, .int 0, .int 0, .int 0, .int (-1), .int 0, .int 0, .int 0, .int 0, .int (-1)])), (a3, .inl (cs 4, 8, .inr (.inr (.inr (.inr (va_up (va_up (va_up (va_up (va_up (va_up (va_up (va_up (fun _ => none) 0 (some a4)) 1 (some a16)) 2 (some a17)) 3 (some a18)) 4 (some a19)) 5 (some a20)) 6 (some a21)) 7 (some a22))))))), (a1, .inr (7, [.ref a2, .ref a3, .ref a8, .ref a9, .ref a10, .ref a11, .long 0, .int 0, .int 0, .int 0, .int 0, .int 0, .int 0, .int 0, .int 0, .int 0]))] := hD
  refine W.widen (k := 0) (n := 0) (Nat.le_of_ble_eq_true rfl) (Nat.le_of_ble_eq_true rfl) ?_
  exact en_i (fun k => ([] : List Nat).getD k 0) hx hb hr hlocks rfl rfl hP hD hS (Nat.le_of_ble_eq_true rfl) (Nat.le_of_ble_eq_true rfl) dX8_state_15
set_option maxHeartbeats 4000000 in
set_option maxRecDepth 100000 in
theorem k113_L_state (l : Launch) (D : va_G) (cs : Nat → ClassId) (sz : Nat) (hlt : l.stackTraces = false) (a0 a1 a2 a3 a4 a5 a6 a7 a8 a9 a10 a11 a12 a13 a14 a15 a16 a17 a18 a19 a20 a21 a22 a23 : Nat) : KH l yL_state wsL_state 4 86 0 0 D cs sz [.ref a0, .int 9, .ref a5] [(a0, .inr (8, [.ref a6, .ref a1, .ref a7, .ref a8, .int 0, .int 0, .int (-1)])), (a1, .inr (7, [.ref a2, .ref a3, .ref a9, .ref a10, .ref a11, .ref a12, .long 0, .int 0, .int 0, .int 0, .int 0, .int 0, .int 0, .int 0, .int 0, .int 0])), (a2, .inr (6, [.int 1, .int 1, .int 50, .null, .ref a13, .ref a14, .ref a15, .ref a16])), (a3, .inl (cs 4, 8, .inr (.inr (.inr (.inr (va_up (va_up (va_up (va_up (va_up (va_up (va_up (va_up (fun _ => none) 0 (some a4)) 1 (some a17)) 2 (some a18)) 3 (some a19)) 4 (some a20)) 5 (some a21)) 6 (some a22)) 7 (some a23))))))), (a4, .inr (3, [.int 1, .int 0, .int 0, .int 0, .int (-1), .int 0, .int 0, .int 0, .int 0, .int (-1)])), (a5, .inl (cs 3, 1, .inr (.inl (fun _ => 0))))] (fun u => [(a5, .inl (cs 3, 1, .inr (.inl (vp_updL (fun _ => 0) 0 1)))), (a0, .inr (8, [.ref a6, .ref a1, .ref a7, .ref a8, .int 0, .int 0, .int (-1)])), (a2, .inr (6, [.int 1, .int 1, .int 50, .null, .ref a13, .ref a14, .ref a15, .ref a16])), (a4, .inr (3, [.int 1, .int 0, .int 0, .int 0, .int (-1), .int 0, .int 0, .int 0, .int 0, .int (-1)])), (a3, .inl (cs 4, 8, .inr (.inr (.inr (.inr (va_up (va_up (va_up (va_up (va_up (va_up (va_up (va_up (fun _ => none) 0 (some a4)) 1 (some a17)) 2 (some a18)) 3 (some a19)) 4 (some a20)) 5 (some a21)) 6 (some a22)) 7 (some a23))))))), (a1, .inr (7, [.ref a2, .ref a3, .ref a9, .ref a10, .ref a11, .ref a12, .long 0, .int 0, .int 0, .int 0, .int 0, .int 0, .int 0, .int 0, .int 0, .int 0]))]) (0) := by
  refine KH.of cL_state 4 (some .int) (by decide) rfl (Nat.le_of_ble_eq_true rfl) ?_
  intro p e s m below meth c A ls hx hb hr hml hown hts hlocks htab hP hN hD hA hS hl hZ
  have hown : s.vm.findClass RL = some m.cls := hown
  have hl : lv_has ls 4 [(0, .ref a0), (1, .int 9), (2, .ref a5)] := hl
  refine lv_aload_n hx hb dL_state_0 rfl (lv_at hl 2 rfl) ?_
  refine lv_iconst (v := 0) hx hb dL_state_1 (by decide) ?_
  refine lv_aload_n hx hb dL_state_2 rfl (lv_at hl 0 rfl) ?_
  refine lv_iload_n hx hb dL_state_3 rfl (lv_at hl 1 rfl) ?_
  refine cv_i (As := [.int 9]) (rest := [.int 0, .ref a5]) (b := a0) (wr := [(a5, .inl (cs 3, 1, .inr (.inl (fun _ => 0))))]) ⟨hx, hb, hml, hown, hts⟩ (fun sz => k112_X8_state l D cs sz a0 a1 a2 a3 a4 a6 a7 a8 a9 a10 a11 a12 a13 a14 a15 a16 a17 a18 a19 a20 a21 a22 a23) (cwV 1 hts gL_state_X8_state rfl rfl rfl hdX8_state_v ⟨Nat.le_of_ble_eq_true rfl, Nat.le_of_ble_eq_true rfl⟩) hN hP hD hS hA [0, 1, 2, 3, 4] [5] rfl rfl rfl rfl (by decide) (ci := 8) (q0 := 0) rfl rfl rfl rfl hl.1 (Nat.le_of_ble_eq_true rfl) dL_state_4 (Nat.le_of_ble_eq_true rfl) (Nat.le_of_ble_eq_true rfl) (fun u0 H locs hP hD hS => ?_)
  have hP : va_P D vwCl [(a5, .inl (cs 3, 1, .inr (.inl (fun _ => 0)))), (a0, .inr (8, [.ref a6, .ref a1, .ref a7, .ref a8, .int 0, .int 0, .int (-1)])), (a2, .inr (6, [.int 1, .int 1, .int 50, .null, .ref a13, .ref a14, .ref a15, .ref a16])), (a4, .inr (3, [.int 1, .int 0, .int 0, .int 0, .int (-1), .int 0, .int 0, .int 0, .int 0, .int (-1)])), (a3, .inl (cs 4, 8, .inr (.inr (.inr (.inr (va_up (va_up (va_up (va_up (va_up (va_up (va_up (va_up (fun _ => none) 0 (some a4)) 1 (some a17)) 2 (some a18)) 3 (some a19)) 4 (some a20)) 5 (some a21)) 6 (some a22)) 7 (some a23))))))), (a1, .inr (7, [.ref a2, .ref a3, .ref a9, .ref a10, .ref a11, .ref a12, .long 0, .int 0, .int 0, .int 0, .int 0, .int 0, .int 0, .int 0, .int 0, .int 0]))] H := hP
  have hD : va_D A [(a5, .inl (cs 3, 1, .inr (.inl (fun _ => 0)))), (a0, .inr (8, [.ref a6, .ref a1, .ref a7, .ref a8, .int 0, .int 0, .int (-1)])), (a2, .inr (6, [.int 1, .int 1, .int 50, .null, .ref a13, .ref a14, .ref a15, .ref a16])), (a4, .inr (3, [.int 1, .int 0, .int 0, .int 0, .int (-1), .int 0, .int 0, .int 0, .int 0, .int (-1)])), (a3, .inl (cs 4, 8, .inr (.inr (.inr (.inr (va_up (va_up (va_up (va_up (va_up (va_up (va_up (va_up (fun _ => none) 0 (some a4)) 1 (some a17)) 2 (some a18)) 3 (some a19)) 4 (some a20)) 5 (some a21)) 6 (some a22)) 7 (some a23))))))), (a1, .inr (7, [.ref a2, .ref a3, .ref a9, .ref a10, .ref a11, .ref a12, .long 0, .int 0, .int 0, .int 0, .int 0, .int 0, .int 0, .int 0, .int 0, .int 0]))] := hD
  refine W.widen (k := 0) (n := 0) (Nat.le_of_ble_eq_true rfl) (Nat.le_of_ble_eq_true rfl) ?_
  refine lv_i2l (v := 1) hx hb dL_state_7 (by decide) ?_
  refine st_l (g := (vp_updL (fun _ => 0) 0 1)) hx hb hN hP hD hS 0 rfl (vin (by decide +kernel)) rfl dL_state_8 (fun H locs hP hD hS => ?_)
  have hP : va_P D vwCl [(a5, .inl (cs 3, 1, .inr (.inl (vp_updL (fun _ => 0) 0 1)))), (a0, .inr (8, [.ref a6, .ref a1, .ref a7, .ref a8, .int 0, .int 0, .int (-1)])), (a2, .inr (6, [.int 1, .int 1, .int 50, .null, .ref a13, .ref a14, .ref a15, .ref a16])), (a4, .inr (3, [.int 1, .int 0, .int 0, .int 0, .int (-1), .int 0, .int 0, .int 0, .int 0, .int (-1)])), (a3, .inl (cs 4, 8, .inr (.inr (.inr (.inr (va_up (va_up (va_up (va_up (va_up (va_up (va_up (va_up (fun _ => none) 0 (some a4)) 1 (some a17)) 2 (some a18)) 3 (some a19)) 4 (some a20)) 5 (some a21)) 6 (some a22)) 7 (some a23))))))), (a1, .inr (7, [.ref a2, .ref a3, .ref a9, .ref a10, .ref a11, .ref a12, .long 0, .int 0, .int 0, .int 0, .int 0, .int 0, .int 0, .int 0, .int 0, .int 0]))] H := hP
  have hD : va_D A [(a5, .inl (cs 3, 1, .inr (.inl (vp_updL (fun _ => 0) 0 1)))), (a0, .inr (8, [.ref a6, .ref a1, .ref a7, .ref a8, .int 0, .int 0, .int (-1)])), (a2, .inr (6, [.int 1, .int 1, .int 50, .null, .ref a13, .ref a14, .ref a15, .ref a16])), (a4, .inr (3, [.int 1, .int 0, .int 0, .int 0, .int (-1), .int 0, .int 0, .int 0, .int 0, .int (-1)])), (a3, .inl (cs 4, 8, .inr (.inr (.inr (.inr (va_up (va_up (va_up (va_up (va_up (va_up (va_up (va_up (fun _ => none) 0 (some a4)) 1 (some a17)) 2 (some a18)) 3 (some a19)) 4 (some a20)) 5 (some a21)) 6 (some a22)) 7 (some a23))))))), (a1, .inr (7, [.ref a2, .ref a3, .ref a9, .ref a10, .ref a11, .ref a12, .long 0, .int 0, .int 0, .int 0, .int 0, .int 0, .int 0, .int 0, .int 0, .int 0]))] := hD
  refine lv_goto (tgt := 15) hx hb dL_state_9 (by decide) ?_
  refine lv_iconst (v := 0) hx hb dL_state_15 (by decide) ?_
  exact en_i (fun k => ([] : List Nat).getD k 0) hx hb hr hlocks rfl rfl hP hD hS (Nat.le_of_ble_eq_true rfl) (Nat.le_of_ble_eq_true rfl) dL_state_16
set_option maxHeartbeats 4000000 in
set_option maxRecDepth 100000 in
theorem k114_X9_in (l : Launch) (D : va_G) (cs : Nat → ClassId) (sz : Nat) : KI l yX9_in wsX9_in 0 0 0 0 D cs sz [.int 9, .int 0, .int 12] [] (fun u => []) (1) := by
  refine KI.of cX9_in 3 (some .boolean) (by decide) rfl (Nat.le_of_ble_eq_true rfl) ?_
  intro p e s m below meth c A ls hx hb hr hml hown hts hlocks hin hP hN hD hA hS hl
  have hown : s.vm.findClass RX9 = some m.cls := hown
  have hl : lv_has ls 3 [(0, .int 9), (1, .int 0), (2, .int 12)] := hl
  refine lv_iload_n hx hb dX9_in_0 rfl (lv_at hl 0 rfl) ?_
  refine lv_iload_n hx hb dX9_in_1 rfl (lv_at hl 1 rfl) ?_
  refine lv_icmp_lt (tgt := 14) hx hb dX9_in_2 (by decide) (fun c9 => absurd c9 (by decide)) (fun _ => ?_)
  refine lv_iload_n hx hb dX9_in_5 rfl (lv_at hl 0 rfl) ?_
  refine lv_iload_n hx hb dX9_in_6 rfl (lv_at hl 2 rfl) ?_
  refine lv_icmp_gt (tgt := 14) hx hb dX9_in_7 (by decide) (fun c9 => absurd c9 (by decide)) (fun _ => ?_)
  refine lv_iconst (v := 1) hx hb dX9_in_10 (by decide) ?_
  refine lv_goto (tgt := 15) hx hb dX9_in_11 (by decide) ?_
  exact en_i (fun k => ([] : List Nat).getD k 0) hx hb hr hlocks rfl rfl hP hD hS (Nat.le_of_ble_eq_true rfl) (Nat.le_of_ble_eq_true rfl) dX9_in_15
theorem mX9_songs_1 : (.fieldLink RX9 18 "OneBeatModel" "data" "[I" : Cond) ∈ wsX9_songs := List.mem_of_getElem? (i := 1) (by decide +kernel)
theorem iX9_songs_9 : ∀ w ∈ wsX90, w ∈ wsX9_songs := fun w h => List.mem_of_mem_drop (List.mem_of_mem_take ((show wsX90 = (wsX9_songs.drop 14).take 18 by decide +kernel) ▸ h))
theorem mX9_of_1 : (.fieldLink RX9 18 "OneBeatModel" "data" "[I" : Cond) ∈ wsX9_of := List.mem_of_getElem? (i := 1) (by decide +kernel)
theorem iX9_of_9 : ∀ w ∈ wsX90, w ∈ wsX9_of := fun w h => List.mem_of_mem_drop (List.mem_of_mem_take ((show wsX90 = (wsX9_of.drop 6).take 18 by decide +kernel) ▸ h))
set_option maxHeartbeats 4000000 in
set_option maxRecDepth 100000 in
theorem k115_X9_of (l : Launch) (D : va_G) (cs : Nat → ClassId) (sz : Nat) (a0 a1 a2 a3 a4 a5 a6 : Nat) : KI l yX9_of wsX9_of 1 20 0 0 D cs sz [.ref a0, .int 0, .int 0] [(a0, .inr (9, [.int 0, .ref a2, .int 0, .int 0, .int 0, .int 0, .int 0, .int (-1), .ref a1, .ref a3, .ref a4, .ref a5, .int 0, .int 0, .int 0, .int 0, .int 0, .ref a6])), (a1, .inl (cs 0, 45783, .inl (layF (fun _ => 0) 1)))] (fun u => [(a0, .inr (9, [.int 0, .ref a2, .int 0, .int 0, .int 0, .int 0, .int 0, .int (-1), .ref a1, .ref a3, .ref a4, .ref a5, .int 0, .int 0, .int 0, .int 0, .int 0, .ref a6])), (a1, .inl (cs 0, 45783, .inl (layF (fun _ => 0) 1)))]) (1) := by
  refine KI.of cX9_of 3 (some .int) (by decide) rfl (Nat.le_of_ble_eq_true rfl) ?_
  intro p e s m below meth c A ls hx hb hr hml hown hts hlocks hin hP hN hD hA hS hl
  have hown : s.vm.findClass RX9 = some m.cls := hown
  have hl : lv_has ls 3 [(0, .ref a0), (1, .int 0), (2, .int 0)] := hl
  refine lv_aload_n hx hb dX9_of_0 rfl (lv_at hl 0 rfl) ?_
  refine va_get (D := D) (ci := 9) (v := .ref a1) (C := RX9) (T := TX9) (N := 18) hx hb hts iX9_of_9 hown hN.1 hP 0 rfl rfl 8 (by decide) (hts _ mX9_of_1) (fun _ h9 => h9) rfl dX9_of_1 ?_
  refine lv_iload_n hx hb dX9_of_4 rfl (lv_at hl 1 rfl) ?_
  refine cs_i (As := [.int 0]) (rest := [.ref a1]) (wr := [(a0, .inr (9, [.int 0, .ref a2, .int 0, .int 0, .int 0, .int 0, .int 0, .int (-1), .ref a1, .ref a3, .ref a4, .ref a5, .int 0, .int 0, .int 0, .int 0, .int 0, .ref a6])), (a1, .inl (cs 0, 45783, .inl (layF (fun _ => 0) 1)))]) ⟨hx, hb, hml, hown, hts⟩ (fun sz => k16_X9_playerAt l D cs sz ) (va_cwS 1 hts gX9_of_X9_playerAt rfl rfl rfl hdX9_playerAt_o ⟨Nat.le_of_ble_eq_true rfl, Nat.le_of_ble_eq_true rfl⟩) hN hP hD hS hA [] [0, 1] rfl rfl rfl rfl (by decide) rfl rfl hl.1 (Nat.le_of_ble_eq_true rfl) dX9_of_5 (Nat.le_of_ble_eq_true rfl) (Nat.le_of_ble_eq_true rfl) (fun u0 H locs hP hD hS => ?_)
  have hP : va_P D vwCl [(a0, .inr (9, [.int 0, .ref a2, .int 0, .int 0, .int 0, .int 0, .int 0, .int (-1), .ref a1, .ref a3, .ref a4, .ref a5, .int 0, .int 0, .int 0, .int 0, .int 0, .ref a6])), (a1, .inl (cs 0, 45783, .inl (layF (fun _ => 0) 1)))] H := hP
  have hD : va_D A [(a0, .inr (9, [.int 0, .ref a2, .int 0, .int 0, .int 0, .int 0, .int 0, .int (-1), .ref a1, .ref a3, .ref a4, .ref a5, .int 0, .int 0, .int 0, .int 0, .int 0, .ref a6])), (a1, .inl (cs 0, 45783, .inl (layF (fun _ => 0) 1)))] := hD
  refine W.widen (k := 0) (n := 0) (Nat.le_of_ble_eq_true rfl) (Nat.le_of_ble_eq_true rfl) ?_
  refine lv_iload_n hx hb dX9_of_8 rfl (lv_at hl 2 rfl) ?_
  refine lv_iadd hx hb dX9_of_9 ?_
  refine tp_i (23) (by decide) ?_
  refine ld_i (v := 1) hx hb hN hP 1 rfl (vin (by decide +kernel)) (by first | rfl | decide +kernel) dX9_of_10 ?_
  exact en_i (fun k => ([] : List Nat).getD k 0) hx hb hr hlocks rfl rfl hP hD hS (Nat.le_of_ble_eq_true rfl) (Nat.le_of_ble_eq_true rfl) dX9_of_11
theorem hdX9_of_v : yX9_of.cls = RX9 ∧ yX9_of.cls ≠ "java/lang/invoke/MethodHandle" ∧ yX9_of.cls ≠ "java/lang/invoke/VarHandle" ∧ (parseMethodDescriptor yX9_of.desc).map (fun d => d.parameters.length) = some 2 := by decide +kernel
set_option maxHeartbeats 4000000 in
set_option maxRecDepth 100000 in
theorem k116_X9_isUp (l : Launch) (D : va_G) (cs : Nat → ClassId) (sz : Nat) (a0 a1 a2 a3 a4 a5 a6 : Nat) : KI l yX9_isUp wsX9_isUp 2 42 0 0 D cs sz [.ref a0, .int 0] [(a0, .inr (9, [.int 0, .ref a2, .int 0, .int 0, .int 0, .int 0, .int 0, .int (-1), .ref a1, .ref a3, .ref a4, .ref a5, .int 0, .int 0, .int 0, .int 0, .int 0, .ref a6])), (a1, .inl (cs 0, 45783, .inl (layF (fun _ => 0) 1)))] (fun u => [(a0, .inr (9, [.int 0, .ref a2, .int 0, .int 0, .int 0, .int 0, .int 0, .int (-1), .ref a1, .ref a3, .ref a4, .ref a5, .int 0, .int 0, .int 0, .int 0, .int 0, .ref a6])), (a1, .inl (cs 0, 45783, .inl (layF (fun _ => 0) 1)))]) (1) := by
  refine KI.of cX9_isUp 2 (some .boolean) (by decide) rfl (Nat.le_of_ble_eq_true rfl) ?_
  intro p e s m below meth c A ls hx hb hr hml hown hts hlocks hin hP hN hD hA hS hl
  have hown : s.vm.findClass RX9 = some m.cls := hown
  have hl : lv_has ls 2 [(0, .ref a0), (1, .int 0)] := hl
  refine lv_aload_n hx hb dX9_isUp_0 rfl (lv_at hl 0 rfl) ?_
  refine lv_iload_n hx hb dX9_isUp_1 rfl (lv_at hl 1 rfl) ?_
  refine lv_iconst (v := 0) hx hb dX9_isUp_2 (by decide) ?_
  refine cv_i (As := [.int 0, .int 0]) (rest := []) (b := a0) (wr := []) ⟨hx, hb, hml, hown, hts⟩ (fun sz => k115_X9_of l D cs sz a0 a1 a2 a3 a4 a5 a6) (cwV 2 hts gX9_isUp_X9_of rfl rfl rfl hdX9_of_v ⟨Nat.le_of_ble_eq_true rfl, Nat.le_of_ble_eq_true rfl⟩) hN hP hD hS hA [0, 1] [] rfl rfl rfl rfl (by decide) (ci := 9) (q0 := 0) rfl rfl rfl rfl hl.1 (Nat.le_of_ble_eq_true rfl) dX9_isUp_3 (Nat.le_of_ble_eq_true rfl) (Nat.le_of_ble_eq_true rfl) (fun u0 H locs hP hD hS => ?_)
  have hP : va_P D vwCl [(a0, .inr (9, [.int 0, .ref a2, .int 0, .int 0, .int 0, .int 0, .int 0, .int (-1), .ref a1, .ref a3, .ref a4, .ref a5, .int 0, .int 0, .int 0, .int 0, .int 0, .ref a6])), (a1, .inl (cs 0, 45783, .inl (layF (fun _ => 0) 1)))] H := hP
  have hD : va_D A [(a0, .inr (9, [.int 0, .ref a2, .int 0, .int 0, .int 0, .int 0, .int 0, .int (-1), .ref a1, .ref a3, .ref a4, .ref a5, .int 0, .int 0, .int 0, .int 0, .int 0, .ref a6])), (a1, .inl (cs 0, 45783, .inl (layF (fun _ => 0) 1)))] := hD
  refine W.widen (k := 0) (n := 0) (Nat.le_of_ble_eq_true rfl) (Nat.le_of_ble_eq_true rfl) ?_
  refine lv_iconst (v := 1) hx hb dX9_isUp_6 (by decide) ?_
  refine lv_icmp_ne (tgt := 14) hx hb dX9_isUp_7 (by decide) (fun c9 => absurd (by decide) c9) (fun _ => ?_)
  refine lv_iconst (v := 1) hx hb dX9_isUp_10 (by decide) ?_
  refine lv_goto (tgt := 15) hx hb dX9_isUp_11 (by decide) ?_
  exact en_i (fun k => ([] : List Nat).getD k 0) hx hb hr hlocks rfl rfl hP hD hS (Nat.le_of_ble_eq_true rfl) (Nat.le_of_ble_eq_true rfl) dX9_isUp_15
theorem hdX9_isUp_v : yX9_isUp.cls = RX9 ∧ yX9_isUp.cls ≠ "java/lang/invoke/MethodHandle" ∧ yX9_isUp.cls ≠ "java/lang/invoke/VarHandle" ∧ (parseMethodDescriptor yX9_isUp.desc).map (fun d => d.parameters.length) = some 1 := by decide +kernel
set_option maxHeartbeats 4000000 in
set_option maxRecDepth 100000 in
theorem k117_X9_songs (l : Launch) (D : va_G) (cs : Nat → ClassId) (sz : Nat) (a0 a1 a2 a3 a4 a5 a6 : Nat) : KI l yX9_songs wsX9_songs 3 63 0 0 D cs sz [.ref a0] [(a0, .inr (9, [.int 0, .ref a2, .int 0, .int 0, .int 0, .int 0, .int 0, .int (-1), .ref a1, .ref a3, .ref a4, .ref a5, .int 0, .int 0, .int 0, .int 0, .int 0, .ref a6])), (a1, .inl (cs 0, 45783, .inl (layF (fun _ => 0) 1)))] (fun u => [(a0, .inr (9, [.int 0, .ref a2, .int 0, .int 0, .int 0, .int 0, .int 0, .int (-1), .ref a1, .ref a3, .ref a4, .ref a5, .int 0, .int 0, .int 0, .int 0, .int 0, .ref a6])), (a1, .inl (cs 0, 45783, .inl (layF (fun _ => 0) 1)))]) (1) := by
  refine KI.of cX9_songs 5 (some .int) (by decide) rfl (Nat.le_of_ble_eq_true rfl) ?_
  intro p e s m below meth c A ls hx hb hr hml hown hts hlocks hin hP hN hD hA hS hl
  have hown : s.vm.findClass RX9 = some m.cls := hown
  have hl : lv_has ls 5 [(0, .ref a0)] := hl
  refine lv_iconst (v := 0) hx hb dX9_songs_0 (by decide) ?_
  refine lv_istore_n (lv' := [(1, .int 0), (0, .ref a0)]) hx hb dX9_songs_1 rfl hl (by decide) rfl (fun ls hl => ?_)
  refine lv_iconst (v := 0) hx hb dX9_songs_2 (by decide) ?_
  refine lv_istore_n (lv' := [(2, .int 0), (1, .int 0), (0, .ref a0)]) hx hb dX9_songs_3 rfl hl (by decide) rfl (fun ls hl => ?_)
  refine lv_iload_n hx hb dX9_songs_4 rfl (lv_at hl 0 rfl) ?_
  refine lv_aload_n hx hb dX9_songs_5 rfl (lv_at hl 2 rfl) ?_
  refine va_get (D := D) (ci := 9) (v := .ref a1) (C := RX9) (T := TX9) (N := 18) hx hb hts iX9_songs_9 hown hN.1 hP 0 rfl rfl 8 (by decide) (hts _ mX9_songs_1) (fun _ h9 => h9) rfl dX9_songs_6 ?_
  refine lv_iconst (v := 0) hx hb dX9_songs_9 (by decide) ?_
  refine ld_i (v := 1) hx hb hN hP 1 rfl (vin (by decide +kernel)) (by first | rfl | decide +kernel) dX9_songs_10 ?_
  refine lv_icmp_ge (tgt := 86) hx hb dX9_songs_11 (by decide) (fun c9 => absurd c9 (by decide)) (fun _ => ?_)
  refine lv_aload_n hx hb dX9_songs_14 rfl (lv_at hl 2 rfl) ?_
  refine lv_iload_n hx hb dX9_songs_15 rfl (lv_at hl 0 rfl) ?_
  refine cv_i (As := [.int 0]) (rest := []) (b := a0) (wr := []) ⟨hx, hb, hml, hown, hts⟩ (fun sz => k116_X9_isUp l D cs sz a0 a1 a2 a3 a4 a5 a6) (cwV 1 hts gX9_songs_X9_isUp rfl rfl rfl hdX9_isUp_v ⟨Nat.le_of_ble_eq_true rfl, Nat.le_of_ble_eq_true rfl⟩) hN hP hD hS hA [0, 1] [] rfl rfl rfl rfl (by decide) (ci := 9) (q0 := 0) rfl rfl rfl rfl hl.1 (Nat.le_of_ble_eq_true rfl) dX9_songs_16 (Nat.le_of_ble_eq_true rfl) (Nat.le_of_ble_eq_true rfl) (fun u0 H locs hP hD hS => ?_)
  have hP : va_P D vwCl [(a0, .inr (9, [.int 0, .ref a2, .int 0, .int 0, .int 0, .int 0, .int 0, .int (-1), .ref a1, .ref a3, .ref a4, .ref a5, .int 0, .int 0, .int 0, .int 0, .int 0, .ref a6])), (a1, .inl (cs 0, 45783, .inl (layF (fun _ => 0) 1)))] H := hP
  have hD : va_D A [(a0, .inr (9, [.int 0, .ref a2, .int 0, .int 0, .int 0, .int 0, .int 0, .int (-1), .ref a1, .ref a3, .ref a4, .ref a5, .int 0, .int 0, .int 0, .int 0, .int 0, .ref a6])), (a1, .inl (cs 0, 45783, .inl (layF (fun _ => 0) 1)))] := hD
  refine W.widen (k := 0) (n := 0) (Nat.le_of_ble_eq_true rfl) (Nat.le_of_ble_eq_true rfl) ?_
  refine lv_istore_n (lv' := [(3, .int 1), (2, .int 0), (1, .int 0), (0, .ref a0)]) hx hb dX9_songs_19 rfl hl (by decide) rfl (fun ls hl => ?_)
  refine lv_iconst (v := 0) hx hb dX9_songs_20 (by decide) ?_
  refine lv_istore (lv' := [(4, .int 0), (3, .int 1), (2, .int 0), (1, .int 0), (0, .ref a0)]) hx hb dX9_songs_21 hl (by decide) rfl (fun ls hl => ?_)
  refine lv_iload hx hb dX9_songs_23 (lv_at hl 0 rfl) ?_
  refine lv_iload_n hx hb dX9_songs_25 rfl (lv_at hl 2 rfl) ?_
  refine lv_icmp_ge (tgt := 68) hx hb dX9_songs_26 (by decide) (fun _ => ?_) (fun c9 => absurd (by decide) c9)
  refine lv_iload_n hx hb dX9_songs_68 rfl (lv_at hl 3 rfl) ?_
  refine lv_iload_n hx hb dX9_songs_69 rfl (lv_at hl 1 rfl) ?_
  refine lv_if_eq (tgt := 77) hx hb dX9_songs_70 (by decide) (fun c9 => absurd c9 (by decide)) (fun _ => ?_)
  refine lv_iconst (v := 1) hx hb dX9_songs_73 (by decide) ?_
  refine lv_goto (tgt := 78) hx hb dX9_songs_74 (by decide) ?_
  refine lv_iadd hx hb dX9_songs_78 ?_
  refine tp_i (1) (by decide) ?_
  refine lv_istore_n (lv' := [(1, .int 1), (4, .int 0), (3, .int 1), (2, .int 0), (0, .ref a0)]) hx hb dX9_songs_79 rfl hl (by decide) rfl (fun ls hl => ?_)
  refine lv_iinc (v := 1) (lv' := [(2, .int 1), (1, .int 1), (4, .int 0), (3, .int 1), (0, .ref a0)]) hx hb dX9_songs_80 hl (k := 3) rfl (by decide) (by decide) rfl (fun ls hl => ?_)
  refine lv_goto (tgt := 4) hx hb dX9_songs_83 (by decide) ?_
  refine lv_iload_n hx hb dX9_songs_4 rfl (lv_at hl 0 rfl) ?_
  refine lv_aload_n hx hb dX9_songs_5 rfl (lv_at hl 4 rfl) ?_
  refine va_get (D := D) (ci := 9) (v := .ref a1) (C := RX9) (T := TX9) (N := 18) hx hb hts iX9_songs_9 hown hN.1 hP 0 rfl rfl 8 (by decide) (hts _ mX9_songs_1) (fun _ h9 => h9) rfl dX9_songs_6 ?_
  refine lv_iconst (v := 0) hx hb dX9_songs_9 (by decide) ?_
  refine ld_i (v := 1) hx hb hN hP 1 rfl (vin (by decide +kernel)) (by first | rfl | decide +kernel) dX9_songs_10 ?_
  refine lv_icmp_ge (tgt := 86) hx hb dX9_songs_11 (by decide) (fun _ => ?_) (fun c9 => absurd (by decide) c9)
  refine lv_iload_n hx hb dX9_songs_86 rfl (lv_at hl 1 rfl) ?_
  exact en_i (fun k => ([] : List Nat).getD k 0) hx hb hr hlocks rfl rfl hP hD hS (Nat.le_of_ble_eq_true rfl) (Nat.le_of_ble_eq_true rfl) dX9_songs_87
theorem hdX9_songs_v : yX9_songs.cls = RX9 ∧ yX9_songs.cls ≠ "java/lang/invoke/MethodHandle" ∧ yX9_songs.cls ≠ "java/lang/invoke/VarHandle" ∧ (parseMethodDescriptor yX9_songs.desc).map (fun d => d.parameters.length) = some 0 := by decide +kernel
set_option maxHeartbeats 4000000 in
set_option maxRecDepth 100000 in
theorem k118_X9_told (l : Launch) (D : va_G) (cs : Nat → ClassId) (sz : Nat) (a0 a1 a2 a3 a4 a5 a6 : Nat) : KI l yX9_told wsX9_told 4 87 0 0 D cs sz [.ref a0, .int 9] [(a0, .inr (9, [.int 0, .ref a2, .int 0, .int 0, .int 0, .int 0, .int 0, .int (-1), .ref a1, .ref a3, .ref a4, .ref a5, .int 0, .int 0, .int 0, .int 0, .int 0, .ref a6])), (a1, .inl (cs 0, 45783, .inl (layF (fun _ => 0) 1)))] (fun u => [(a0, .inr (9, [.int 0, .ref a2, .int 0, .int 0, .int 0, .int 0, .int 0, .int (-1), .ref a1, .ref a3, .ref a4, .ref a5, .int 0, .int 0, .int 0, .int 0, .int 0, .ref a6])), (a1, .inl (cs 0, 45783, .inl (layF (fun _ => 0) 1)))]) (1) := by
  refine KI.of cX9_told 2 (some .int) (by decide) rfl (Nat.le_of_ble_eq_true rfl) ?_
  intro p e s m below meth c A ls hx hb hr hml hown hts hlocks hin hP hN hD hA hS hl
  have hown : s.vm.findClass RX9 = some m.cls := hown
  have hl : lv_has ls 2 [(0, .ref a0), (1, .int 9)] := hl
  refine lv_iload_n hx hb dX9_told_0 rfl (lv_at hl 1 rfl) ?_
  refine lv_tableIn (tgt := 32) (off := 31) hx hb dX9_told_1 (by decide) (by decide) (by decide) (by decide) ?_
  refine lv_aload_n hx hb dX9_told_32 rfl (lv_at hl 0 rfl) ?_
  refine cv_i (As := []) (rest := []) (b := a0) (wr := []) ⟨hx, hb, hml, hown, hts⟩ (fun sz => k117_X9_songs l D cs sz a0 a1 a2 a3 a4 a5 a6) (cwV 0 hts gX9_told_X9_songs rfl rfl rfl hdX9_songs_v ⟨Nat.le_of_ble_eq_true rfl, Nat.le_of_ble_eq_true rfl⟩) hN hP hD hS hA [0, 1] [] rfl rfl rfl rfl (by decide) (ci := 9) (q0 := 0) rfl rfl rfl rfl hl.1 (Nat.le_of_ble_eq_true rfl) dX9_told_33 (Nat.le_of_ble_eq_true rfl) (Nat.le_of_ble_eq_true rfl) (fun u0 H locs hP hD hS => ?_)
  have hP : va_P D vwCl [(a0, .inr (9, [.int 0, .ref a2, .int 0, .int 0, .int 0, .int 0, .int 0, .int (-1), .ref a1, .ref a3, .ref a4, .ref a5, .int 0, .int 0, .int 0, .int 0, .int 0, .ref a6])), (a1, .inl (cs 0, 45783, .inl (layF (fun _ => 0) 1)))] H := hP
  have hD : va_D A [(a0, .inr (9, [.int 0, .ref a2, .int 0, .int 0, .int 0, .int 0, .int 0, .int (-1), .ref a1, .ref a3, .ref a4, .ref a5, .int 0, .int 0, .int 0, .int 0, .int 0, .ref a6])), (a1, .inl (cs 0, 45783, .inl (layF (fun _ => 0) 1)))] := hD
  refine W.widen (k := 0) (n := 0) (Nat.le_of_ble_eq_true rfl) (Nat.le_of_ble_eq_true rfl) ?_
  exact en_i (fun k => ([] : List Nat).getD k 0) hx hb hr hlocks rfl rfl hP hD hS (Nat.le_of_ble_eq_true rfl) (Nat.le_of_ble_eq_true rfl) dX9_told_36
set_option maxHeartbeats 4000000 in
set_option maxRecDepth 100000 in
theorem k119_X9_state (l : Launch) (D : va_G) (cs : Nat → ClassId) (sz : Nat) (a0 a1 a2 a3 a4 a5 a6 : Nat) : KI l yX9_state wsX9_state 5 108 0 0 D cs sz [.ref a0, .int 9] [(a0, .inr (9, [.int 0, .ref a2, .int 0, .int 0, .int 0, .int 0, .int 0, .int (-1), .ref a1, .ref a3, .ref a4, .ref a5, .int 0, .int 0, .int 0, .int 0, .int 0, .ref a6])), (a1, .inl (cs 0, 45783, .inl (layF (fun _ => 0) 1)))] (fun u => [(a0, .inr (9, [.int 0, .ref a2, .int 0, .int 0, .int 0, .int 0, .int 0, .int (-1), .ref a1, .ref a3, .ref a4, .ref a5, .int 0, .int 0, .int 0, .int 0, .int 0, .ref a6])), (a1, .inl (cs 0, 45783, .inl (layF (fun _ => 0) 1)))]) (1) := by
  refine KI.of cX9_state 2 (some .int) (by decide) rfl (Nat.le_of_ble_eq_true rfl) ?_
  intro p e s m below meth c A ls hx hb hr hml hown hts hlocks hin hP hN hD hA hS hl
  have hown : s.vm.findClass RX9 = some m.cls := hown
  have hl : lv_has ls 2 [(0, .ref a0), (1, .int 9)] := hl
  refine lv_aload_n hx hb dX9_state_0 rfl (lv_at hl 0 rfl) ?_
  refine lv_iconst (v := 0) hx hb dX9_state_1 (by decide) ?_
  refine va_put (D := D) (ci := 9) (v := .int 0) (ty := .int) (C := RX9) (T := TX9) (N := 18) hx hb hts iX9_state_9 tyX9 tyX9_ok nmX9 hown hN.1 hP hD hS 0 rfl rfl 0 (by decide) (hts _ mX9_state_1) (fun _ h9 => h9) rfl (by decide +kernel) rfl rfl (Nat.le_of_ble_eq_true rfl) dX9_state_2 (fun H locs hP hD hS => ?_)
  have hP : va_P D vwCl [(a0, .inr (9, [.int 0, .ref a2, .int 0, .int 0, .int 0, .int 0, .int 0, .int (-1), .ref a1, .ref a3, .ref a4, .ref a5, .int 0, .int 0, .int 0, .int 0, .int 0, .ref a6])), (a1, .inl (cs 0, 45783, .inl (layF (fun _ => 0) 1)))] H := hP
  have hD : va_D A [(a0, .inr (9, [.int 0, .ref a2, .int 0, .int 0, .int 0, .int 0, .int 0, .int (-1), .ref a1, .ref a3, .ref a4, .ref a5, .int 0, .int 0, .int 0, .int 0, .int 0, .ref a6])), (a1, .inl (cs 0, 45783, .inl (layF (fun _ => 0) 1)))] := hD
  refine lv_aload_n hx hb dX9_state_5 rfl (lv_at hl 0 rfl) ?_
  refine lv_iload_n hx hb dX9_state_6 rfl (lv_at hl 1 rfl) ?_
  refine lv_iconst (v := 0) hx hb dX9_state_7 (by decide) ?_
  refine lv_bipush (v := 12) hx hb dX9_state_8 (by decide) ?_
  refine cs_i (As := [.int 9, .int 0, .int 12]) (rest := [.ref a0]) (wr := [(a0, .inr (9, [.int 0, .ref a2, .int 0, .int 0, .int 0, .int 0, .int 0, .int (-1), .ref a1, .ref a3, .ref a4, .ref a5, .int 0, .int 0, .int 0, .int 0, .int 0, .ref a6])), (a1, .inl (cs 0, 45783, .inl (layF (fun _ => 0) 1)))]) ⟨hx, hb, hml, hown, hts⟩ (fun sz => k114_X9_in l D cs sz ) (va_cwS 3 hts gX9_state_X9_in rfl rfl rfl hdX9_in_o ⟨Nat.le_of_ble_eq_true rfl, Nat.le_of_ble_eq_true rfl⟩) hN hP hD hS hA [] [0, 1] rfl rfl rfl rfl (by decide) rfl rfl hl.1 (Nat.le_of_ble_eq_true rfl) dX9_state_10 (Nat.le_of_ble_eq_true rfl) (Nat.le_of_ble_eq_true rfl) (fun u0 H locs hP hD hS => ?_)
  have hP : va_P D vwCl [(a0, .inr (9, [.int 0, .ref a2, .int 0, .int 0, .int 0, .int 0, .int 0, .int (-1), .ref a1, .ref a3, .ref a4, .ref a5, .int 0, .int 0, .int 0, .int 0, .int 0, .ref a6])), (a1, .inl (cs 0, 45783, .inl (layF (fun _ => 0) 1)))] H := hP
  have hD : va_D A [(a0, .inr (9, [.int 0, .ref a2, .int 0, .int 0, .int 0, .int 0, .int 0, .int (-1), .ref a1, .ref a3, .ref a4, .ref a5, .int 0, .int 0, .int 0, .int 0, .int 0, .ref a6])), (a1, .inl (cs 0, 45783, .inl (layF (fun _ => 0) 1)))] := hD
  refine W.widen (k := 0) (n := 0) (Nat.le_of_ble_eq_true rfl) (Nat.le_of_ble_eq_true rfl) ?_
  refine lv_if_ne (tgt := 20) hx hb dX9_state_13 (by decide) (fun _ => ?_) (fun c9 => absurd c9 (by decide))
  refine lv_iconst (v := 0) hx hb dX9_state_20 (by decide) ?_
  refine lv_iconst (v := 1) hx hb dX9_state_21 (by decide) ?_
  refine cv_i (As := [.int 0, .int 1]) (rest := []) (b := a0) (wr := [(a1, .inl (cs 0, 45783, .inl (layF (fun _ => 0) 1)))]) ⟨hx, hb, hml, hown, hts⟩ (fun sz => k47_X9_fails l D cs sz a0 a2 a1 a3 a4 a5 a6) (cwV 2 hts gX9_state_X9_fails rfl rfl rfl hdX9_fails_v ⟨Nat.le_of_ble_eq_true rfl, Nat.le_of_ble_eq_true rfl⟩) hN hP hD hS hA [0] [1] rfl rfl rfl rfl (by decide) (ci := 9) (q0 := 0) rfl rfl rfl rfl hl.1 (Nat.le_of_ble_eq_true rfl) dX9_state_22 (Nat.le_of_ble_eq_true rfl) (Nat.le_of_ble_eq_true rfl) (fun u1 H locs hP hD hS => ?_)
  have hP : va_P D vwCl [(a1, .inl (cs 0, 45783, .inl (layF (fun _ => 0) 1))), (a0, .inr (9, [.int 0, .ref a2, .int 0, .int 0, .int 0, .int 0, .int 0, .int (-1), .ref a1, .ref a3, .ref a4, .ref a5, .int 0, .int 0, .int 0, .int 0, .int 0, .ref a6]))] H := hP
  have hD : va_D A [(a1, .inl (cs 0, 45783, .inl (layF (fun _ => 0) 1))), (a0, .inr (9, [.int 0, .ref a2, .int 0, .int 0, .int 0, .int 0, .int 0, .int (-1), .ref a1, .ref a3, .ref a4, .ref a5, .int 0, .int 0, .int 0, .int 0, .int 0, .ref a6]))] := hD
  refine W.widen (k := 0) (n := 0) (Nat.le_of_ble_eq_true rfl) (Nat.le_of_ble_eq_true rfl) ?_
  refine lv_if_eq (tgt := 32) hx hb dX9_state_25 (by decide) (fun _ => ?_) (fun c9 => absurd (by decide) c9)
  refine lv_aload_n hx hb dX9_state_32 rfl (lv_at hl 0 rfl) ?_
  refine lv_iload_n hx hb dX9_state_33 rfl (lv_at hl 1 rfl) ?_
  refine cv_i (As := [.int 9]) (rest := []) (b := a0) (wr := []) ⟨hx, hb, hml, hown, hts⟩ (fun sz => k118_X9_told l D cs sz a0 a1 a2 a3 a4 a5 a6) (cwV 1 hts gX9_state_X9_told rfl rfl rfl hdX9_told_v ⟨Nat.le_of_ble_eq_true rfl, Nat.le_of_ble_eq_true rfl⟩) hN hP hD hS hA [1, 0] [] rfl rfl rfl rfl (by decide) (ci := 9) (q0 := 0) rfl rfl rfl rfl hl.1 (Nat.le_of_ble_eq_true rfl) dX9_state_34 (Nat.le_of_ble_eq_true rfl) (Nat.le_of_ble_eq_true rfl) (fun u2 H locs hP hD hS => ?_)
  have hP : va_P D vwCl [(a0, .inr (9, [.int 0, .ref a2, .int 0, .int 0, .int 0, .int 0, .int 0, .int (-1), .ref a1, .ref a3, .ref a4, .ref a5, .int 0, .int 0, .int 0, .int 0, .int 0, .ref a6])), (a1, .inl (cs 0, 45783, .inl (layF (fun _ => 0) 1)))] H := hP
  have hD : va_D A [(a0, .inr (9, [.int 0, .ref a2, .int 0, .int 0, .int 0, .int 0, .int 0, .int (-1), .ref a1, .ref a3, .ref a4, .ref a5, .int 0, .int 0, .int 0, .int 0, .int 0, .ref a6])), (a1, .inl (cs 0, 45783, .inl (layF (fun _ => 0) 1)))] := hD
  refine W.widen (k := 0) (n := 0) (Nat.le_of_ble_eq_true rfl) (Nat.le_of_ble_eq_true rfl) ?_
  exact en_i (fun k => ([] : List Nat).getD k 0) hx hb hr hlocks rfl rfl hP hD hS (Nat.le_of_ble_eq_true rfl) (Nat.le_of_ble_eq_true rfl) dX9_state_37
set_option maxHeartbeats 4000000 in
set_option maxRecDepth 100000 in
theorem law_3_9 {p : Program} {l : Launch} {e : Env} {s : State} {m : MethodId} {args : Array Value} {below : List Frame} {meth : Method} {c : Code} {Q : State → Prop} {D : va_G} {cs : Nat → ClassId} {A : Nat → Prop} {xs : Nat → Int32} {b : Nat} (hx : p.tables.exec = Jvm.exec) (hb : c.code = cL_law) (hml : c.maxLocals = 9) (hown : s.vm.findClass RL = some m.cls) (hts : ∀ w ∈ wsL_law, w.before args s = true) (hN : NK D cs s) (hX : va_X b 6 xs s s.heap) (hbl : b < s.heap.size) (hbA : ¬ A b) (hA : ∀ q : Nat, s.heap.size ≤ q → A q) (hZ : ZX A s s.heap) (hZS : ZS cs A s s.heap) (hlt : l.stackTraces = false)
    (kend : ∀ (H : Heap) (locs : List Loc) (ls : Array Slot), va_S A s.heap H locs → lv_has ls 9 [(0, .ref b), (4, .int 0)] → W p l e room_1 s m args below meth c H locs 600002 7302232 Q (F0 m 1169 ls []))
    (a0 a1 a2 a3 a4 a5 a6 a7 a8 a9 a10 a11 a12 a13 a14 a15 a16 a17 a18 a19 a20 a21 a22 a23 a24 a25 a26 a27 a28 a29 a30 : Nat) (hy1 : xs 1 = (9))  (H : Heap) (locs : List Loc) (ls : Array Slot) (hP : va_P D vwCl [(a0, .inr (8, [.ref a8, .ref a2, .ref a9, .ref a10, .int 0, .int 0, .int (-1)])), (a1, .inr (6, [.int 1, .int 1, .int 50, .null, .ref a11, .ref a12, .ref a13, .ref a14])), (a2, .inr (7, [.ref a1, .ref a3, .ref a15, .ref a16, .ref a17, .ref a18, .long 0, .int 0, .int 0, .int 0, .int 0, .int 0, .int 0, .int 0, .int 0, .int 0])), (a3, .inl (cs 4, 8, .inr (.inr (.inr (.inr (va_up (va_up (va_up (va_up (va_up (va_up (va_up (va_up (fun _ => none) 0 (some a4)) 1 (some a19)) 2 (some a20)) 3 (some a21)) 4 (some a22)) 5 (some a23)) 6 (some a24)) 7 (some a25))))))), (a4, .inr (3, [.int 1, .int 0, .int 0, .int 0, .int (-1), .int 0, .int 0, .int 0, .int 0, .int (-1)])), (a5, .inr (9, [.int 0, .ref a26, .int 0, .int 0, .int 0, .int 0, .int 0, .int (-1), .ref a6, .ref a27, .ref a28, .ref a29, .int 0, .int 0, .int 0, .int 0, .int 0, .ref a30])), (a6, .inl (cs 0, 45783, .inl (layF (fun _ => 0) 1))), (a7, .inl (cs 3, 1, .inr (.inl (fun _ => 0))))] H) (hD : va_D A [(a0, .inr (8, [.ref a8, .ref a2, .ref a9, .ref a10, .int 0, .int 0, .int (-1)])), (a1, .inr (6, [.int 1, .int 1, .int 50, .null, .ref a11, .ref a12, .ref a13, .ref a14])), (a2, .inr (7, [.ref a1, .ref a3, .ref a15, .ref a16, .ref a17, .ref a18, .long 0, .int 0, .int 0, .int 0, .int 0, .int 0, .int 0, .int 0, .int 0, .int 0])), (a3, .inl (cs 4, 8, .inr (.inr (.inr (.inr (va_up (va_up (va_up (va_up (va_up (va_up (va_up (va_up (fun _ => none) 0 (some a4)) 1 (some a19)) 2 (some a20)) 3 (some a21)) 4 (some a22)) 5 (some a23)) 6 (some a24)) 7 (some a25))))))), (a4, .inr (3, [.int 1, .int 0, .int 0, .int 0, .int (-1), .int 0, .int 0, .int 0, .int 0, .int (-1)])), (a5, .inr (9, [.int 0, .ref a26, .int 0, .int 0, .int 0, .int 0, .int 0, .int (-1), .ref a6, .ref a27, .ref a28, .ref a29, .int 0, .int 0, .int 0, .int 0, .int 0, .ref a30])), (a6, .inl (cs 0, 45783, .inl (layF (fun _ => 0) 1))), (a7, .inl (cs 3, 1, .inr (.inl (fun _ => 0))))]) (hS : va_S A s.heap H locs) (hl : lv_has ls 9 [(4, .int 0), (3, .ref a7), (2, .ref a5), (1, .ref a0), (0, .ref b)]) : W p l e room_1 s m args below meth c H locs 391 467079 Q (F0 m 278 ls []) := by
  refine lv_aload_n hx hb dL_law_278 rfl (lv_at hl 3 rfl) ?_
  refine lv_aload_n hx hb dL_law_279 rfl (lv_at hl 4 rfl) ?_
  refine lv_iload hx hb dL_law_280 (lv_at hl 0 rfl) ?_
  refine lv_iconst (v := 1) hx hb dL_law_282 (by decide) ?_
  refine lv_iadd hx hb dL_law_283 ?_
  refine tp_i (1) (by decide) ?_
  refine va_sld hx hb hX hbl hbA hS (vin (by decide +kernel)) dL_law_284 ?_
  refine tp_i (9) hy1 ?_
  refine lv_aload_n hx hb dL_law_285 rfl (lv_at hl 1 rfl) ?_
  refine ch_i (As := [.ref a0, .int 9, .ref a7]) (rest := []) (wr := [(a5, .inr (9, [.int 0, .ref a26, .int 0, .int 0, .int 0, .int 0, .int 0, .int (-1), .ref a6, .ref a27, .ref a28, .ref a29, .int 0, .int 0, .int 0, .int 0, .int 0, .ref a30])), (a6, .inl (cs 0, 45783, .inl (layF (fun _ => 0) 1)))]) ⟨hx, hb, hml, hown, hts⟩ (fun sz => k113_L_state l D cs sz hlt a0 a2 a1 a3 a4 a7 a8 a9 a10 a15 a16 a17 a18 a11 a12 a13 a14 a19 a20 a21 a22 a23 a24 a25) (vx_cwSW 3 hts gL_law_L_state rfl rfl rfl hdL_state_o ⟨Nat.le_of_ble_eq_true rfl, Nat.le_of_ble_eq_true rfl⟩) hN hP hD hS hA hZ [0, 2, 1, 3, 4, 7] [5, 6] rfl rfl rfl rfl (by decide) rfl rfl hl.1 (Nat.le_of_ble_eq_true rfl) dL_law_286 (Nat.le_of_ble_eq_true rfl) (Nat.le_of_ble_eq_true rfl) (fun u0 H locs hP hD hS => ?_)
  have hP : va_P D vwCl [(a5, .inr (9, [.int 0, .ref a26, .int 0, .int 0, .int 0, .int 0, .int 0, .int (-1), .ref a6, .ref a27, .ref a28, .ref a29, .int 0, .int 0, .int 0, .int 0, .int 0, .ref a30])), (a6, .inl (cs 0, 45783, .inl (layF (fun _ => 0) 1))), (a7, .inl (cs 3, 1, .inr (.inl (vp_updL (fun _ => 0) 0 1)))), (a0, .inr (8, [.ref a8, .ref a2, .ref a9, .ref a10, .int 0, .int 0, .int (-1)])), (a1, .inr (6, [.int 1, .int 1, .int 50, .null, .ref a11, .ref a12, .ref a13, .ref a14])), (a4, .inr (3, [.int 1, .int 0, .int 0, .int 0, .int (-1), .int 0, .int 0, .int 0, .int 0, .int (-1)])), (a3, .inl (cs 4, 8, .inr (.inr (.inr (.inr (va_up (va_up (va_up (va_up (va_up (va_up (va_up (va_up (fun _ => none) 0 (some a4)) 1 (some a19)) 2 (some a20)) 3 (some a21)) 4 (some a22)) 5 (some a23)) 6 (some a24)) 7 (some a25))))))), (a2, .inr (7, [.ref a1, .ref a3, .ref a15, .ref a16, .ref a17, .ref a18, .long 0, .int 0, .int 0, .int 0, .int 0, .int 0, .int 0, .int 0, .int 0, .int 0]))] H := hP
  have hD : va_D A [(a5, .inr (9, [.int 0, .ref a26, .int 0, .int 0, .int 0, .int 0, .int 0, .int (-1), .ref a6, .ref a27, .ref a28, .ref a29, .int 0, .int 0, .int 0, .int 0, .int 0, .ref a30])), (a6, .inl (cs 0, 45783, .inl (layF (fun _ => 0) 1))), (a7, .inl (cs 3, 1, .inr (.inl (vp_updL (fun _ => 0) 0 1)))), (a0, .inr (8, [.ref a8, .ref a2, .ref a9, .ref a10, .int 0, .int 0, .int (-1)])), (a1, .inr (6, [.int 1, .int 1, .int 50, .null, .ref a11, .ref a12, .ref a13, .ref a14])), (a4, .inr (3, [.int 1, .int 0, .int 0, .int 0, .int (-1), .int 0, .int 0, .int 0, .int 0, .int (-1)])), (a3, .inl (cs 4, 8, .inr (.inr (.inr (.inr (va_up (va_up (va_up (va_up (va_up (va_up (va_up (va_up (fun _ => none) 0 (some a4)) 1 (some a19)) 2 (some a20)) 3 (some a21)) 4 (some a22)) 5 (some a23)) 6 (some a24)) 7 (some a25))))))), (a2, .inr (7, [.ref a1, .ref a3, .ref a15, .ref a16, .ref a17, .ref a18, .long 0, .int 0, .int 0, .int 0, .int 0, .int 0, .int 0, .int 0, .int 0, .int 0]))] := hD
  refine W.widen (k := 391) (n := 467079) (Nat.le_of_ble_eq_true rfl) (Nat.le_of_ble_eq_true rfl) ?_
  refine lv_istore (lv' := [(5, .int 0), (4, .int 0), (3, .ref a7), (2, .ref a5), (1, .ref a0), (0, .ref b)]) hx hb dL_law_289 hl (by decide) rfl (fun ls hl => ?_)
  refine lv_aload_n hx hb dL_law_291 rfl (lv_at hl 3 rfl) ?_
  refine lv_aload_n hx hb dL_law_292 rfl (lv_at hl 5 rfl) ?_
  refine lv_iload hx hb dL_law_293 (lv_at hl 1 rfl) ?_
  refine lv_iconst (v := 1) hx hb dL_law_295 (by decide) ?_
  refine lv_iadd hx hb dL_law_296 ?_
  refine tp_i (1) (by decide) ?_
  refine va_sld hx hb hX hbl hbA hS (vin (by decide +kernel)) dL_law_297 ?_
  refine tp_i (9) hy1 ?_
  refine cv_i (As := [.int 9]) (rest := []) (b := a5) (wr := [(a7, .inl (cs 3, 1, .inr (.inl (vp_updL (fun _ => 0) 0 1)))), (a0, .inr (8, [.ref a8, .ref a2, .ref a9, .ref a10, .int 0, .int 0, .int (-1)])), (a1, .inr (6, [.int 1, .int 1, .int 50, .null, .ref a11, .ref a12, .ref a13, .ref a14])), (a4, .inr (3, [.int 1, .int 0, .int 0, .int 0, .int (-1), .int 0, .int 0, .int 0, .int 0, .int (-1)])), (a3, .inl (cs 4, 8, .inr (.inr (.inr (.inr (va_up (va_up (va_up (va_up (va_up (va_up (va_up (va_up (fun _ => none) 0 (some a4)) 1 (some a19)) 2 (some a20)) 3 (some a21)) 4 (some a22)) 5 (some a23)) 6 (some a24)) 7 (some a25))))))), (a2, .inr (7, [.ref a1, .ref a3, .ref a15, .ref a16, .ref a17, .ref a18, .long 0, .int 0, .int 0, .int 0, .int 0, .int 0, .int 0, .int 0, .int 0, .int 0]))]) ⟨hx, hb, hml, hown, hts⟩ (fun sz => k119_X9_state l D cs sz a5 a6 a26 a27 a28 a29 a30) (cwV 1 hts gL_law_X9_state rfl rfl rfl hdX9_state_v ⟨Nat.le_of_ble_eq_true rfl, Nat.le_of_ble_eq_true rfl⟩) hN hP hD hS hA [0, 1] [2, 3, 4, 5, 6, 7] rfl rfl rfl rfl (by decide) (ci := 9) (q0 := 0) rfl rfl rfl rfl hl.1 (Nat.le_of_ble_eq_true rfl) dL_law_298 (Nat.le_of_ble_eq_true rfl) (Nat.le_of_ble_eq_true rfl) (fun u1 H locs hP hD hS => ?_)
  have hP : va_P D vwCl [(a7, .inl (cs 3, 1, .inr (.inl (vp_updL (fun _ => 0) 0 1)))), (a0, .inr (8, [.ref a8, .ref a2, .ref a9, .ref a10, .int 0, .int 0, .int (-1)])), (a1, .inr (6, [.int 1, .int 1, .int 50, .null, .ref a11, .ref a12, .ref a13, .ref a14])), (a4, .inr (3, [.int 1, .int 0, .int 0, .int 0, .int (-1), .int 0, .int 0, .int 0, .int 0, .int (-1)])), (a3, .inl (cs 4, 8, .inr (.inr (.inr (.inr (va_up (va_up (va_up (va_up (va_up (va_up (va_up (va_up (fun _ => none) 0 (some a4)) 1 (some a19)) 2 (some a20)) 3 (some a21)) 4 (some a22)) 5 (some a23)) 6 (some a24)) 7 (some a25))))))), (a2, .inr (7, [.ref a1, .ref a3, .ref a15, .ref a16, .ref a17, .ref a18, .long 0, .int 0, .int 0, .int 0, .int 0, .int 0, .int 0, .int 0, .int 0, .int 0])), (a5, .inr (9, [.int 0, .ref a26, .int 0, .int 0, .int 0, .int 0, .int 0, .int (-1), .ref a6, .ref a27, .ref a28, .ref a29, .int 0, .int 0, .int 0, .int 0, .int 0, .ref a30])), (a6, .inl (cs 0, 45783, .inl (layF (fun _ => 0) 1)))] H := hP
  have hD : va_D A [(a7, .inl (cs 3, 1, .inr (.inl (vp_updL (fun _ => 0) 0 1)))), (a0, .inr (8, [.ref a8, .ref a2, .ref a9, .ref a10, .int 0, .int 0, .int (-1)])), (a1, .inr (6, [.int 1, .int 1, .int 50, .null, .ref a11, .ref a12, .ref a13, .ref a14])), (a4, .inr (3, [.int 1, .int 0, .int 0, .int 0, .int (-1), .int 0, .int 0, .int 0, .int 0, .int (-1)])), (a3, .inl (cs 4, 8, .inr (.inr (.inr (.inr (va_up (va_up (va_up (va_up (va_up (va_up (va_up (va_up (fun _ => none) 0 (some a4)) 1 (some a19)) 2 (some a20)) 3 (some a21)) 4 (some a22)) 5 (some a23)) 6 (some a24)) 7 (some a25))))))), (a2, .inr (7, [.ref a1, .ref a3, .ref a15, .ref a16, .ref a17, .ref a18, .long 0, .int 0, .int 0, .int 0, .int 0, .int 0, .int 0, .int 0, .int 0, .int 0])), (a5, .inr (9, [.int 0, .ref a26, .int 0, .int 0, .int 0, .int 0, .int 0, .int (-1), .ref a6, .ref a27, .ref a28, .ref a29, .int 0, .int 0, .int 0, .int 0, .int 0, .ref a30])), (a6, .inl (cs 0, 45783, .inl (layF (fun _ => 0) 1)))] := hD
  refine W.widen (k := 391) (n := 467079) (Nat.le_of_ble_eq_true rfl) (Nat.le_of_ble_eq_true rfl) ?_
  refine lv_istore (lv' := [(6, .int 1), (5, .int 0), (4, .int 0), (3, .ref a7), (2, .ref a5), (1, .ref a0), (0, .ref b)]) hx hb dL_law_301 hl (by decide) rfl (fun ls hl => ?_)
  refine lv_aload_n hx hb dL_law_303 rfl (lv_at hl 4 rfl) ?_
  refine cv_i (As := []) (rest := []) (b := a5) (wr := [(a7, .inl (cs 3, 1, .inr (.inl (vp_updL (fun _ => 0) 0 1)))), (a0, .inr (8, [.ref a8, .ref a2, .ref a9, .ref a10, .int 0, .int 0, .int (-1)])), (a1, .inr (6, [.int 1, .int 1, .int 50, .null, .ref a11, .ref a12, .ref a13, .ref a14])), (a4, .inr (3, [.int 1, .int 0, .int 0, .int 0, .int (-1), .int 0, .int 0, .int 0, .int 0, .int (-1)])), (a3, .inl (cs 4, 8, .inr (.inr (.inr (.inr (va_up (va_up (va_up (va_up (va_up (va_up (va_up (va_up (fun _ => none) 0 (some a4)) 1 (some a19)) 2 (some a20)) 3 (some a21)) 4 (some a22)) 5 (some a23)) 6 (some a24)) 7 (some a25))))))), (a2, .inr (7, [.ref a1, .ref a3, .ref a15, .ref a16, .ref a17, .ref a18, .long 0, .int 0, .int 0, .int 0, .int 0, .int 0, .int 0, .int 0, .int 0, .int 0])), (a6, .inl (cs 0, 45783, .inl (layF (fun _ => 0) 1)))]) ⟨hx, hb, hml, hown, hts⟩ (fun sz => k50_X9_thrown l D cs sz a5 a26 a6 a27 a28 a29 a30) (cwV 0 hts gL_law_X9_thrown rfl rfl rfl hdX9_thrown_v ⟨Nat.le_of_ble_eq_true rfl, Nat.le_of_ble_eq_true rfl⟩) hN hP hD hS hA [6] [0, 1, 2, 3, 4, 5, 7] rfl rfl rfl rfl (by decide) (ci := 9) (q0 := 0) rfl rfl rfl rfl hl.1 (Nat.le_of_ble_eq_true rfl) dL_law_304 (Nat.le_of_ble_eq_true rfl) (Nat.le_of_ble_eq_true rfl) (fun u2 H locs hP hD hS => ?_)
  have hP : va_P D vwCl [(a7, .inl (cs 3, 1, .inr (.inl (vp_updL (fun _ => 0) 0 1)))), (a0, .inr (8, [.ref a8, .ref a2, .ref a9, .ref a10, .int 0, .int 0, .int (-1)])), (a1, .inr (6, [.int 1, .int 1, .int 50, .null, .ref a11, .ref a12, .ref a13, .ref a14])), (a4, .inr (3, [.int 1, .int 0, .int 0, .int 0, .int (-1), .int 0, .int 0, .int 0, .int 0, .int (-1)])), (a3, .inl (cs 4, 8, .inr (.inr (.inr (.inr (va_up (va_up (va_up (va_up (va_up (va_up (va_up (va_up (fun _ => none) 0 (some a4)) 1 (some a19)) 2 (some a20)) 3 (some a21)) 4 (some a22)) 5 (some a23)) 6 (some a24)) 7 (some a25))))))), (a2, .inr (7, [.ref a1, .ref a3, .ref a15, .ref a16, .ref a17, .ref a18, .long 0, .int 0, .int 0, .int 0, .int 0, .int 0, .int 0, .int 0, .int 0, .int 0])), (a6, .inl (cs 0, 45783, .inl (layF (fun _ => 0) 1))), (a5, .inr (9, [.int 0, .ref a26, .int 0, .int 0, .int 0, .int 0, .int 0, .int (-1), .ref a6, .ref a27, .ref a28, .ref a29, .int 0, .int 0, .int 0, .int 0, .int 0, .ref a30]))] H := hP
  have hD : va_D A [(a7, .inl (cs 3, 1, .inr (.inl (vp_updL (fun _ => 0) 0 1)))), (a0, .inr (8, [.ref a8, .ref a2, .ref a9, .ref a10, .int 0, .int 0, .int (-1)])), (a1, .inr (6, [.int 1, .int 1, .int 50, .null, .ref a11, .ref a12, .ref a13, .ref a14])), (a4, .inr (3, [.int 1, .int 0, .int 0, .int 0, .int (-1), .int 0, .int 0, .int 0, .int 0, .int (-1)])), (a3, .inl (cs 4, 8, .inr (.inr (.inr (.inr (va_up (va_up (va_up (va_up (va_up (va_up (va_up (va_up (fun _ => none) 0 (some a4)) 1 (some a19)) 2 (some a20)) 3 (some a21)) 4 (some a22)) 5 (some a23)) 6 (some a24)) 7 (some a25))))))), (a2, .inr (7, [.ref a1, .ref a3, .ref a15, .ref a16, .ref a17, .ref a18, .long 0, .int 0, .int 0, .int 0, .int 0, .int 0, .int 0, .int 0, .int 0, .int 0])), (a6, .inl (cs 0, 45783, .inl (layF (fun _ => 0) 1))), (a5, .inr (9, [.int 0, .ref a26, .int 0, .int 0, .int 0, .int 0, .int 0, .int (-1), .ref a6, .ref a27, .ref a28, .ref a29, .int 0, .int 0, .int 0, .int 0, .int 0, .ref a30]))] := hD
  refine W.widen (k := 391) (n := 467079) (Nat.le_of_ble_eq_true rfl) (Nat.le_of_ble_eq_true rfl) ?_
  refine lv_iload hx hb dL_law_307 (lv_at hl 1 rfl) ?_
  refine lv_icmp_eq (tgt := 314) hx hb dL_law_309 (by decide) (fun _ => ?_) (fun c9 => absurd (by decide) c9)
  refine lv_iload hx hb dL_law_314 (lv_at hl 1 rfl) ?_
  refine lv_if_ne (tgt := 331) hx hb dL_law_316 (by decide) (fun c9 => absurd (by decide) c9) (fun _ => ?_)
  refine lv_aload_n hx hb dL_law_319 rfl (lv_at hl 3 rfl) ?_
  refine lv_iconst (v := 0) hx hb dL_law_320 (by decide) ?_
  refine ld_l (v := 1) hx hb hN hP 0 rfl (vin (by decide +kernel)) (by first | rfl | decide +kernel) dL_law_321 ?_
  refine lv_iload hx hb dL_law_322 (lv_at hl 0 rfl) ?_
  refine lv_i2l (v := 1) hx hb dL_law_324 (by decide) ?_
  refine W.lcmp hx hb dL_law_325 ?_
  refine tp_i (0) (by decide) ?_
  refine lv_if_eq (tgt := 331) hx hb dL_law_326 (by decide) (fun _ => ?_) (fun c9 => absurd (by decide) c9)
  refine lv_goto (tgt := 1169) hx hb dL_law_331 (by decide) ?_
  refine W.widen (k := 600002) (n := 7302232) (Nat.le_of_ble_eq_true rfl) (Nat.le_of_ble_eq_true rfl) ?_
  exact kend _ _ _ hS (lv_sub hl [6, 2] rfl)

set_option maxHeartbeats 4000000 in
set_option maxRecDepth 100000 in
theorem k120_X8_refuseWhatOutside (l : Launch) (D : va_G) (cs : Nat → ClassId) (sz : Nat) (a0 a1 a2 a3 a4 : Nat) : KV l yX8_refuseWhatOutside wsX8_refuseWhatOutside 0 0 0 0 D cs sz [.ref a0, .int 10, .int 12] [(a0, .inr (8, [.ref a1, .ref a2, .ref a3, .ref a4, .int 0, .int 0, .int (-1)]))] (fun u => [(a0, .inr (8, [.ref a1, .ref a2, .ref a3, .ref a4, .int 0, .int 0, .int (-1)]))]) := by
  refine KV.of cX8_refuseWhatOutside 3 none (by decide) rfl (Nat.le_of_ble_eq_true rfl) ?_
  intro p e s m below meth c A ls hx hb hr hml hown hts hlocks hin hP hN hD hA hS hl
  have hown : s.vm.findClass RX8 = some m.cls := hown
  have hl : lv_has ls 3 [(0, .ref a0), (1, .int 10), (2, .int 12)] := hl
  refine lv_iload_n hx hb dX8_refuseWhatOutside_0 rfl (lv_at hl 1 rfl) ?_
  refine lv_if_lt (tgt := 9) hx hb dX8_refuseWhatOutside_1 (by decide) (fun c9 => absurd c9 (by decide)) (fun _ => ?_)
  refine lv_iload_n hx hb dX8_refuseWhatOutside_4 rfl (lv_at hl 1 rfl) ?_
  refine lv_iload_n hx hb dX8_refuseWhatOutside_5 rfl (lv_at hl 2 rfl) ?_
  refine lv_icmp_le (tgt := 19) hx hb dX8_refuseWhatOutside_6 (by decide) (fun _ => ?_) (fun c9 => absurd (by decide) c9)
  exact en_v (fun k => ([] : List Nat).getD k 0) hx hb hr hlocks hP hD hS (Nat.le_of_ble_eq_true rfl) (Nat.le_of_ble_eq_true rfl) dX8_refuseWhatOutside_19
theorem mX7_count_10 : (.fieldLink RX7 86 "OneBeat$World" "changes" "I" : Cond) ∈ wsX7_count := List.mem_of_getElem? (i := 10) (by decide +kernel)
set_option maxHeartbeats 4000000 in
set_option maxRecDepth 100000 in
theorem k121_X7_count (l : Launch) (D : va_G) (cs : Nat → ClassId) (sz : Nat) (a0 a1 a2 a3 a4 a5 a6 : Nat) : KI l yX7_count wsX7_count 0 0 0 0 D cs sz [.ref a0, .int 10] [(a0, .inr (7, [.ref a1, .ref a2, .ref a3, .ref a4, .ref a5, .ref a6, .long 0, .int 0, .int 0, .int 0, .int 0, .int 0, .int 0, .int 0, .int 0, .int 0]))] (fun u => [(a0, .inr (7, [.ref a1, .ref a2, .ref a3, .ref a4, .ref a5, .ref a6, .long 0, .int 0, .int 0, .int 0, .int 0, .int 0, .int 0, .int 0, .int 0, .int 0]))]) (0) := by
  refine KI.of cX7_count 2 (some .int) (by decide) rfl (Nat.le_of_ble_eq_true rfl) ?_
  intro p e s m below meth c A ls hx hb hr hml hown hts hlocks hin hP hN hD hA hS hl
  have hown : s.vm.findClass RX7 = some m.cls := hown
  have hl : lv_has ls 2 [(0, .ref a0), (1, .int 10)] := hl
  refine lv_iload_n hx hb dX7_count_0 rfl (lv_at hl 1 rfl) ?_
  refine lv_tableIn (tgt := 120) (off := 119) hx hb dX7_count_1 (by decide) (by decide) (by decide) (by decide) ?_
  refine lv_aload_n hx hb dX7_count_120 rfl (lv_at hl 0 rfl) ?_
  refine va_get (D := D) (ci := 7) (v := .int 0) (C := RX7) (T := TX7) (N := 16) hx hb hts iX7_count_7 hown hN.1 hP 0 rfl rfl 14 (by decide) (hts _ mX7_count_10) (fun _ h9 => h9) rfl dX7_count_121 ?_
  exact en_i (fun k => ([] : List Nat).getD k 0) hx hb hr hlocks rfl rfl hP hD hS (Nat.le_of_ble_eq_true rfl) (Nat.le_of_ble_eq_true rfl) dX7_count_124
set_option maxHeartbeats 4000000 in
set_option maxRecDepth 100000 in
theorem k122_X8_state (l : Launch) (D : va_G) (cs : Nat → ClassId) (sz : Nat) (a0 a1 a2 a3 a4 a5 a6 a7 a8 a9 a10 : Nat) : KI l yX8_state wsX8_state 1 22 0 0 D cs sz [.ref a0, .int 10] [(a0, .inr (8, [.ref a2, .ref a1, .ref a3, .ref a4, .int 0, .int 0, .int (-1)])), (a1, .inr (7, [.ref a5, .ref a6, .ref a7, .ref a8, .ref a9, .ref a10, .long 0, .int 0, .int 0, .int 0, .int 0, .int 0, .int 0, .int 0, .int 0, .int 0]))] (fun u => [(a0, .inr (8, [.ref a2, .ref a1, .ref a3, .ref a4, .int 0, .int 0, .int (-1)])), (a1, .inr (7, [.ref a5, .ref a6, .ref a7, .ref a8, .ref a9, .ref a10, .long 0, .int 0, .int 0, .int 0, .int 0, .int 0, .int 0, .int 0, .int 0, .int 0]))]) (0) := by
  refine KI.of cX8_state 2 (some .int) (by decide) rfl (Nat.le_of_ble_eq_true rfl) ?_
  intro p e s m below meth c A ls hx hb hr hml hown hts hlocks hin hP hN hD hA hS hl
  have hown : s.vm.findClass RX8 = some m.cls := hown
  have hl : lv_has ls 2 [(0, .ref a0), (1, .int 10)] := hl
  refine lv_aload_n hx hb dX8_state_0 rfl (lv_at hl 0 rfl) ?_
  refine lv_iload_n hx hb dX8_state_1 rfl (lv_at hl 1 rfl) ?_
  refine lv_bipush (v := 12) hx hb dX8_state_2 (by decide) ?_
  refine cv_v (As := [.int 10, .int 12]) (rest := []) (b := a0) (wr := [(a1, .inr (7, [.ref a5, .ref a6, .ref a7, .ref a8, .ref a9, .ref a10, .long 0, .int 0, .int 0, .int 0, .int 0, .int 0, .int 0, .int 0, .int 0, .int 0]))]) ⟨hx, hb, hml, hown, hts⟩ (fun sz => k120_X8_refuseWhatOutside l D cs sz a0 a2 a1 a3 a4) (cwV 2 hts gX8_state_X8_refuseWhatOutside rfl rfl rfl hdX8_refuseWhatOutside_v ⟨Nat.le_of_ble_eq_true rfl, Nat.le_of_ble_eq_true rfl⟩) hN hP hD hS hA [0] [1] rfl rfl rfl rfl (by decide) (ci := 8) (q0 := 0) rfl rfl rfl rfl hl.1 (Nat.le_of_ble_eq_true rfl) dX8_state_4 (Nat.le_of_ble_eq_true rfl) (Nat.le_of_ble_eq_true rfl) (fun u0 H locs hP hD hS => ?_)
  have hP : va_P D vwCl [(a1, .inr (7, [.ref a5, .ref a6, .ref a7, .ref a8, .ref a9, .ref a10, .long 0, .int 0, .int 0, .int 0, .int 0, .int 0, .int 0, .int 0, .int 0, .int 0])), (a0, .inr (8, [.ref a2, .ref a1, .ref a3, .ref a4, .int 0, .int 0, .int (-1)]))] H := hP
  have hD : va_D A [(a1, .inr (7, [.ref a5, .ref a6, .ref a7, .ref a8, .ref a9, .ref a10, .long 0, .int 0, .int 0, .int 0, .int 0, .int 0, .int 0, .int 0, .int 0, .int 0])), (a0, .inr (8, [.ref a2, .ref a1, .ref a3, .ref a4, .int 0, .int 0, .int (-1)]))] := hD
  refine W.widen (k := 0) (n := 0) (Nat.le_of_ble_eq_true rfl) (Nat.le_of_ble_eq_true rfl) ?_
  refine lv_aload_n hx hb dX8_state_7 rfl (lv_at hl 0 rfl) ?_
  refine va_get (D := D) (ci := 8) (v := .ref a1) (C := RX8) (T := TX8) (N := 7) hx hb hts iX8_state_8 hown hN.1 hP 1 rfl rfl 1 (by decide) (hts _ mX8_state_1) (fun _ h9 => h9) rfl dX8_state_8 ?_
  refine lv_iload_n hx hb dX8_state_11 rfl (lv_at hl 1 rfl) ?_
  refine cv_i (As := [.int 10]) (rest := []) (b := a1) (wr := [(a0, .inr (8, [.ref a2, .ref a1, .ref a3, .ref a4, .int 0, .int 0, .int (-1)]))]) ⟨hx, hb, hml, hown, hts⟩ (fun sz => k121_X7_count l D cs sz a1 a5 a6 a7 a8 a9 a10) (cwV 1 hts gX8_state_X7_count rfl rfl rfl hdX7_count_v ⟨Nat.le_of_ble_eq_true rfl, Nat.le_of_ble_eq_true rfl⟩) hN hP hD hS hA [0] [1] rfl rfl rfl rfl (by decide) (ci := 7) (q0 := 0) rfl rfl rfl rfl hl.1 (Nat.le_of_ble_eq_true rfl) dX8_state_12 (Nat.le_of_ble_eq_true rfl) (Nat.le_of_ble_eq_true rfl) (fun u1 H locs hP hD hS => ?_)
  have hP : va_P D vwCl [(a0, .inr (8, [.ref a2, .ref a1, .ref a3, .ref a4, .int 0, .int 0, .int (-1)])), (a1, .inr (7, [.ref a5, .ref a6, .ref a7, .ref a8, .ref a9, .ref a10, .long 0, .int 0, .int 0, .int 0, .int 0, .int 0, .int 0, .int 0, .int 0, .int 0]))] H := hP
  have hD : va_D A [(a0, .inr (8, [.ref a2, .ref a1, .ref a3, .ref a4, .int 0, .int 0, .int (-1)])), (a1, .inr (7, [.ref a5, .ref a6, .ref a7, .ref a8, .ref a9, .ref a10, .long 0, .int 0, .int 0, .int 0, .int 0, .int 0, .int 0, .int 0, .int 0, .int 0]))] := hD
  refine W.widen (k := 0) (n := 0) (Nat.le_of_ble_eq_true rfl) (Nat.le_of_ble_eq_true rfl) ?_
  exact en_i (fun k => ([] : List Nat).getD k 0) hx hb hr hlocks rfl rfl hP hD hS (Nat.le_of_ble_eq_true rfl) (Nat.le_of_ble_eq_true rfl) dX8_state_15
set_option maxHeartbeats 4000000 in
set_option maxRecDepth 100000 in
theorem k123_L_state (l : Launch) (D : va_G) (cs : Nat → ClassId) (sz : Nat) (hlt : l.stackTraces = false) (a0 a1 a2 a3 a4 a5 a6 a7 a8 a9 a10 a11 : Nat) : KH l yL_state wsL_state 2 43 0 0 D cs sz [.ref a0, .int 10, .ref a2] [(a0, .inr (8, [.ref a3, .ref a1, .ref a4, .ref a5, .int 0, .int 0, .int (-1)])), (a1, .inr (7, [.ref a6, .ref a7, .ref a8, .ref a9, .ref a10, .ref a11, .long 0, .int 0, .int 0, .int 0, .int 0, .int 0, .int 0, .int 0, .int 0, .int 0])), (a2, .inl (cs 3, 1, .inr (.inl (fun _ => 0))))] (fun u => [(a2, .inl (cs 3, 1, .inr (.inl (fun _ => 0)))), (a0, .inr (8, [.ref a3, .ref a1, .ref a4, .ref a5, .int 0, .int 0, .int (-1)])), (a1, .inr (7, [.ref a6, .ref a7, .ref a8, .ref a9, .ref a10, .ref a11, .long 0, .int 0, .int 0, .int 0, .int 0, .int 0, .int 0, .int 0, .int 0, .int 0]))]) (0) := by
  refine KH.of cL_state 4 (some .int) (by decide) rfl (Nat.le_of_ble_eq_true rfl) ?_
  intro p e s m below meth c A ls hx hb hr hml hown hts hlocks htab hP hN hD hA hS hl hZ
  have hown : s.vm.findClass RL = some m.cls := hown
  have hl : lv_has ls 4 [(0, .ref a0), (1, .int 10), (2, .ref a2)] := hl
  refine lv_aload_n hx hb dL_state_0 rfl (lv_at hl 2 rfl) ?_
  refine lv_iconst (v := 0) hx hb dL_state_1 (by decide) ?_
  refine lv_aload_n hx hb dL_state_2 rfl (lv_at hl 0 rfl) ?_
  refine lv_iload_n hx hb dL_state_3 rfl (lv_at hl 1 rfl) ?_
  refine cv_i (As := [.int 10]) (rest := [.int 0, .ref a2]) (b := a0) (wr := [(a2, .inl (cs 3, 1, .inr (.inl (fun _ => 0))))]) ⟨hx, hb, hml, hown, hts⟩ (fun sz => k122_X8_state l D cs sz a0 a1 a3 a4 a5 a6 a7 a8 a9 a10 a11) (cwV 1 hts gL_state_X8_state rfl rfl rfl hdX8_state_v ⟨Nat.le_of_ble_eq_true rfl, Nat.le_of_ble_eq_true rfl⟩) hN hP hD hS hA [0, 1] [2] rfl rfl rfl rfl (by decide) (ci := 8) (q0 := 0) rfl rfl rfl rfl hl.1 (Nat.le_of_ble_eq_true rfl) dL_state_4 (Nat.le_of_ble_eq_true rfl) (Nat.le_of_ble_eq_true rfl) (fun u0 H locs hP hD hS => ?_)
  have hP : va_P D vwCl [(a2, .inl (cs 3, 1, .inr (.inl (fun _ => 0)))), (a0, .inr (8, [.ref a3, .ref a1, .ref a4, .ref a5, .int 0, .int 0, .int (-1)])), (a1, .inr (7, [.ref a6, .ref a7, .ref a8, .ref a9, .ref a10, .ref a11, .long 0, .int 0, .int 0, .int 0, .int 0, .int 0, .int 0, .int 0, .int 0, .int 0]))] H := hP
  have hD : va_D A [(a2, .inl (cs 3, 1, .inr (.inl (fun _ => 0)))), (a0, .inr (8, [.ref a3, .ref a1, .ref a4, .ref a5, .int 0, .int 0, .int (-1)])), (a1, .inr (7, [.ref a6, .ref a7, .ref a8, .ref a9, .ref a10, .ref a11, .long 0, .int 0, .int 0, .int 0, .int 0, .int 0, .int 0, .int 0, .int 0, .int 0]))] := hD
  refine W.widen (k := 0) (n := 0) (Nat.le_of_ble_eq_true rfl) (Nat.le_of_ble_eq_true rfl) ?_
  refine lv_i2l (v := 0) hx hb dL_state_7 (by decide) ?_
  refine st_l (g := (fun _ => 0)) hx hb hN hP hD hS 0 rfl (vin (by decide +kernel)) (funext (fun j9 => by unfold vp_updL; split <;> rename_i h9 <;> first | rfl | (subst h9; rfl))) dL_state_8 (fun H locs hP hD hS => ?_)
  have hP : va_P D vwCl [(a2, .inl (cs 3, 1, .inr (.inl (fun _ => 0)))), (a0, .inr (8, [.ref a3, .ref a1, .ref a4, .ref a5, .int 0, .int 0, .int (-1)])), (a1, .inr (7, [.ref a6, .ref a7, .ref a8, .ref a9, .ref a10, .ref a11, .long 0, .int 0, .int 0, .int 0, .int 0, .int 0, .int 0, .int 0, .int 0, .int 0]))] H := hP
  have hD : va_D A [(a2, .inl (cs 3, 1, .inr (.inl (fun _ => 0)))), (a0, .inr (8, [.ref a3, .ref a1, .ref a4, .ref a5, .int 0, .int 0, .int (-1)])), (a1, .inr (7, [.ref a6, .ref a7, .ref a8, .ref a9, .ref a10, .ref a11, .long 0, .int 0, .int 0, .int 0, .int 0, .int 0, .int 0, .int 0, .int 0, .int 0]))] := hD
  refine lv_goto (tgt := 15) hx hb dL_state_9 (by decide) ?_
  refine lv_iconst (v := 0) hx hb dL_state_15 (by decide) ?_
  exact en_i (fun k => ([] : List Nat).getD k 0) hx hb hr hlocks rfl rfl hP hD hS (Nat.le_of_ble_eq_true rfl) (Nat.le_of_ble_eq_true rfl) dL_state_16
set_option maxHeartbeats 4000000 in
set_option maxRecDepth 100000 in
theorem k124_X9_in (l : Launch) (D : va_G) (cs : Nat → ClassId) (sz : Nat) : KI l yX9_in wsX9_in 0 0 0 0 D cs sz [.int 10, .int 0, .int 12] [] (fun u => []) (1) := by
  refine KI.of cX9_in 3 (some .boolean) (by decide) rfl (Nat.le_of_ble_eq_true rfl) ?_
  intro p e s m below meth c A ls hx hb hr hml hown hts hlocks hin hP hN hD hA hS hl
  have hown : s.vm.findClass RX9 = some m.cls := hown
  have hl : lv_has ls 3 [(0, .int 10), (1, .int 0), (2, .int 12)] := hl
  refine lv_iload_n hx hb dX9_in_0 rfl (lv_at hl 0 rfl) ?_
  refine lv_iload_n hx hb dX9_in_1 rfl (lv_at hl 1 rfl) ?_
  refine lv_icmp_lt (tgt := 14) hx hb dX9_in_2 (by decide) (fun c9 => absurd c9 (by decide)) (fun _ => ?_)
  refine lv_iload_n hx hb dX9_in_5 rfl (lv_at hl 0 rfl) ?_
  refine lv_iload_n hx hb dX9_in_6 rfl (lv_at hl 2 rfl) ?_
  refine lv_icmp_gt (tgt := 14) hx hb dX9_in_7 (by decide) (fun c9 => absurd c9 (by decide)) (fun _ => ?_)
  refine lv_iconst (v := 1) hx hb dX9_in_10 (by decide) ?_
  refine lv_goto (tgt := 15) hx hb dX9_in_11 (by decide) ?_
  exact en_i (fun k => ([] : List Nat).getD k 0) hx hb hr hlocks rfl rfl hP hD hS (Nat.le_of_ble_eq_true rfl) (Nat.le_of_ble_eq_true rfl) dX9_in_15
set_option maxHeartbeats 4000000 in
set_option maxRecDepth 100000 in
theorem k125_X9_told (l : Launch) (D : va_G) (cs : Nat → ClassId) (sz : Nat) (a0 a1 a2 a3 a4 a5 a6 : Nat) : KI l yX9_told wsX9_told 0 0 0 0 D cs sz [.ref a0, .int 10] [(a0, .inr (9, [.int 0, .ref a2, .int 0, .int 0, .int 0, .int 0, .int 0, .int (-1), .ref a1, .ref a3, .ref a4, .ref a5, .int 0, .int 0, .int 0, .int 0, .int 0, .ref a6])), (a1, .inl (cs 0, 45783, .inl (layF (fun _ => 0) 1)))] (fun u => [(a0, .inr (9, [.int 0, .ref a2, .int 0, .int 0, .int 0, .int 0, .int 0, .int (-1), .ref a1, .ref a3, .ref a4, .ref a5, .int 0, .int 0, .int 0, .int 0, .int 0, .ref a6])), (a1, .inl (cs 0, 45783, .inl (layF (fun _ => 0) 1)))]) (0) := by
  refine KI.of cX9_told 2 (some .int) (by decide) rfl (Nat.le_of_ble_eq_true rfl) ?_
  intro p e s m below meth c A ls hx hb hr hml hown hts hlocks hin hP hN hD hA hS hl
  have hown : s.vm.findClass RX9 = some m.cls := hown
  have hl : lv_has ls 2 [(0, .ref a0), (1, .int 10)] := hl
  refine lv_iload_n hx hb dX9_told_0 rfl (lv_at hl 1 rfl) ?_
  refine lv_tableIn (tgt := 37) (off := 36) hx hb dX9_told_1 (by decide) (by decide) (by decide) (by decide) ?_
  refine lv_aload_n hx hb dX9_told_37 rfl (lv_at hl 0 rfl) ?_
  refine va_get (D := D) (ci := 9) (v := .ref a1) (C := RX9) (T := TX9) (N := 18) hx hb hts iX9_told_9 hown hN.1 hP 0 rfl rfl 8 (by decide) (hts _ mX9_told_1) (fun _ h9 => h9) rfl dX9_told_38 ?_
  refine lv_bipush (v := 9) hx hb dX9_told_41 (by decide) ?_
  refine ld_i (v := 0) hx hb hN hP 1 rfl (vin (by decide +kernel)) (by first | rfl | decide +kernel) dX9_told_43 ?_
  exact en_i (fun k => ([] : List Nat).getD k 0) hx hb hr hlocks rfl rfl hP hD hS (Nat.le_of_ble_eq_true rfl) (Nat.le_of_ble_eq_true rfl) dX9_told_44
set_option maxHeartbeats 4000000 in
set_option maxRecDepth 100000 in
theorem k126_X9_state (l : Launch) (D : va_G) (cs : Nat → ClassId) (sz : Nat) (a0 a1 a2 a3 a4 a5 a6 : Nat) : KI l yX9_state wsX9_state 1 22 0 0 D cs sz [.ref a0, .int 10] [(a0, .inr (9, [.int 0, .ref a2, .int 0, .int 0, .int 0, .int 0, .int 0, .int (-1), .ref a1, .ref a3, .ref a4, .ref a5, .int 0, .int 0, .int 0, .int 0, .int 0, .ref a6])), (a1, .inl (cs 0, 45783, .inl (layF (fun _ => 0) 1)))] (fun u => [(a0, .inr (9, [.int 0, .ref a2, .int 0, .int 0, .int 0, .int 0, .int 0, .int (-1), .ref a1, .ref a3, .ref a4, .ref a5, .int 0, .int 0, .int 0, .int 0, .int 0, .ref a6])), (a1, .inl (cs 0, 45783, .inl (layF (fun _ => 0) 1)))]) (0) := by
  refine KI.of cX9_state 2 (some .int) (by decide) rfl (Nat.le_of_ble_eq_true rfl) ?_
  intro p e s m below meth c A ls hx hb hr hml hown hts hlocks hin hP hN hD hA hS hl
  have hown : s.vm.findClass RX9 = some m.cls := hown
  have hl : lv_has ls 2 [(0, .ref a0), (1, .int 10)] := hl
  refine lv_aload_n hx hb dX9_state_0 rfl (lv_at hl 0 rfl) ?_
  refine lv_iconst (v := 0) hx hb dX9_state_1 (by decide) ?_
  refine va_put (D := D) (ci := 9) (v := .int 0) (ty := .int) (C := RX9) (T := TX9) (N := 18) hx hb hts iX9_state_9 tyX9 tyX9_ok nmX9 hown hN.1 hP hD hS 0 rfl rfl 0 (by decide) (hts _ mX9_state_1) (fun _ h9 => h9) rfl (by decide +kernel) rfl rfl (Nat.le_of_ble_eq_true rfl) dX9_state_2 (fun H locs hP hD hS => ?_)
  have hP : va_P D vwCl [(a0, .inr (9, [.int 0, .ref a2, .int 0, .int 0, .int 0, .int 0, .int 0, .int (-1), .ref a1, .ref a3, .ref a4, .ref a5, .int 0, .int 0, .int 0, .int 0, .int 0, .ref a6])), (a1, .inl (cs 0, 45783, .inl (layF (fun _ => 0) 1)))] H := hP
  have hD : va_D A [(a0, .inr (9, [.int 0, .ref a2, .int 0, .int 0, .int 0, .int 0, .int 0, .int (-1), .ref a1, .ref a3, .ref a4, .ref a5, .int 0, .int 0, .int 0, .int 0, .int 0, .ref a6])), (a1, .inl (cs 0, 45783, .inl (layF (fun _ => 0) 1)))] := hD
  refine lv_aload_n hx hb dX9_state_5 rfl (lv_at hl 0 rfl) ?_
  refine lv_iload_n hx hb dX9_state_6 rfl (lv_at hl 1 rfl) ?_
  refine lv_iconst (v := 0) hx hb dX9_state_7 (by decide) ?_
  refine lv_bipush (v := 12) hx hb dX9_state_8 (by decide) ?_
  refine cs_i (As := [.int 10, .int 0, .int 12]) (rest := [.ref a0]) (wr := [(a0, .inr (9, [.int 0, .ref a2, .int 0, .int 0, .int 0, .int 0, .int 0, .int (-1), .ref a1, .ref a3, .ref a4, .ref a5, .int 0, .int 0, .int 0, .int 0, .int 0, .ref a6])), (a1, .inl (cs 0, 45783, .inl (layF (fun _ => 0) 1)))]) ⟨hx, hb, hml, hown, hts⟩ (fun sz => k124_X9_in l D cs sz ) (va_cwS 3 hts gX9_state_X9_in rfl rfl rfl hdX9_in_o ⟨Nat.le_of_ble_eq_true rfl, Nat.le_of_ble_eq_true rfl⟩) hN hP hD hS hA [] [0, 1] rfl rfl rfl rfl (by decide) rfl rfl hl.1 (Nat.le_of_ble_eq_true rfl) dX9_state_10 (Nat.le_of_ble_eq_true rfl) (Nat.le_of_ble_eq_true rfl) (fun u0 H locs hP hD hS => ?_)
  have hP : va_P D vwCl [(a0, .inr (9, [.int 0, .ref a2, .int 0, .int 0, .int 0, .int 0, .int 0, .int (-1), .ref a1, .ref a3, .ref a4, .ref a5, .int 0, .int 0, .int 0, .int 0, .int 0, .ref a6])), (a1, .inl (cs 0, 45783, .inl (layF (fun _ => 0) 1)))] H := hP
  have hD : va_D A [(a0, .inr (9, [.int 0, .ref a2, .int 0, .int 0, .int 0, .int 0, .int 0, .int (-1), .ref a1, .ref a3, .ref a4, .ref a5, .int 0, .int 0, .int 0, .int 0, .int 0, .ref a6])), (a1, .inl (cs 0, 45783, .inl (layF (fun _ => 0) 1)))] := hD
  refine W.widen (k := 0) (n := 0) (Nat.le_of_ble_eq_true rfl) (Nat.le_of_ble_eq_true rfl) ?_
  refine lv_if_ne (tgt := 20) hx hb dX9_state_13 (by decide) (fun _ => ?_) (fun c9 => absurd c9 (by decide))
  refine lv_iconst (v := 0) hx hb dX9_state_20 (by decide) ?_
  refine lv_iconst (v := 1) hx hb dX9_state_21 (by decide) ?_
  refine cv_i (As := [.int 0, .int 1]) (rest := []) (b := a0) (wr := [(a1, .inl (cs 0, 45783, .inl (layF (fun _ => 0) 1)))]) ⟨hx, hb, hml, hown, hts⟩ (fun sz => k47_X9_fails l D cs sz a0 a2 a1 a3 a4 a5 a6) (cwV 2 hts gX9_state_X9_fails rfl rfl rfl hdX9_fails_v ⟨Nat.le_of_ble_eq_true rfl, Nat.le_of_ble_eq_true rfl⟩) hN hP hD hS hA [0] [1] rfl rfl rfl rfl (by decide) (ci := 9) (q0 := 0) rfl rfl rfl rfl hl.1 (Nat.le_of_ble_eq_true rfl) dX9_state_22 (Nat.le_of_ble_eq_true rfl) (Nat.le_of_ble_eq_true rfl) (fun u1 H locs hP hD hS => ?_)
  have hP : va_P D vwCl [(a1, .inl (cs 0, 45783, .inl (layF (fun _ => 0) 1))), (a0, .inr (9, [.int 0, .ref a2, .int 0, .int 0, .int 0, .int 0, .int 0, .int (-1), .ref a1, .ref a3, .ref a4, .ref a5, .int 0, .int 0, .int 0, .int 0, .int 0, .ref a6]))] H := hP
  have hD : va_D A [(a1, .inl (cs 0, 45783, .inl (layF (fun _ => 0) 1))), (a0, .inr (9, [.int 0, .ref a2, .int 0, .int 0, .int 0, .int 0, .int 0, .int (-1), .ref a1, .ref a3, .ref a4, .ref a5, .int 0, .int 0, .int 0, .int 0, .int 0, .ref a6]))] := hD
  refine W.widen (k := 0) (n := 0) (Nat.le_of_ble_eq_true rfl) (Nat.le_of_ble_eq_true rfl) ?_
  refine lv_if_eq (tgt := 32) hx hb dX9_state_25 (by decide) (fun _ => ?_) (fun c9 => absurd (by decide) c9)
  refine lv_aload_n hx hb dX9_state_32 rfl (lv_at hl 0 rfl) ?_
  refine lv_iload_n hx hb dX9_state_33 rfl (lv_at hl 1 rfl) ?_
  refine cv_i (As := [.int 10]) (rest := []) (b := a0) (wr := []) ⟨hx, hb, hml, hown, hts⟩ (fun sz => k125_X9_told l D cs sz a0 a1 a2 a3 a4 a5 a6) (cwV 1 hts gX9_state_X9_told rfl rfl rfl hdX9_told_v ⟨Nat.le_of_ble_eq_true rfl, Nat.le_of_ble_eq_true rfl⟩) hN hP hD hS hA [1, 0] [] rfl rfl rfl rfl (by decide) (ci := 9) (q0 := 0) rfl rfl rfl rfl hl.1 (Nat.le_of_ble_eq_true rfl) dX9_state_34 (Nat.le_of_ble_eq_true rfl) (Nat.le_of_ble_eq_true rfl) (fun u2 H locs hP hD hS => ?_)
  have hP : va_P D vwCl [(a0, .inr (9, [.int 0, .ref a2, .int 0, .int 0, .int 0, .int 0, .int 0, .int (-1), .ref a1, .ref a3, .ref a4, .ref a5, .int 0, .int 0, .int 0, .int 0, .int 0, .ref a6])), (a1, .inl (cs 0, 45783, .inl (layF (fun _ => 0) 1)))] H := hP
  have hD : va_D A [(a0, .inr (9, [.int 0, .ref a2, .int 0, .int 0, .int 0, .int 0, .int 0, .int (-1), .ref a1, .ref a3, .ref a4, .ref a5, .int 0, .int 0, .int 0, .int 0, .int 0, .ref a6])), (a1, .inl (cs 0, 45783, .inl (layF (fun _ => 0) 1)))] := hD
  refine W.widen (k := 0) (n := 0) (Nat.le_of_ble_eq_true rfl) (Nat.le_of_ble_eq_true rfl) ?_
  exact en_i (fun k => ([] : List Nat).getD k 0) hx hb hr hlocks rfl rfl hP hD hS (Nat.le_of_ble_eq_true rfl) (Nat.le_of_ble_eq_true rfl) dX9_state_37
set_option maxHeartbeats 4000000 in
set_option maxRecDepth 100000 in
theorem law_3_10 {p : Program} {l : Launch} {e : Env} {s : State} {m : MethodId} {args : Array Value} {below : List Frame} {meth : Method} {c : Code} {Q : State → Prop} {D : va_G} {cs : Nat → ClassId} {A : Nat → Prop} {xs : Nat → Int32} {b : Nat} (hx : p.tables.exec = Jvm.exec) (hb : c.code = cL_law) (hml : c.maxLocals = 9) (hown : s.vm.findClass RL = some m.cls) (hts : ∀ w ∈ wsL_law, w.before args s = true) (hN : NK D cs s) (hX : va_X b 6 xs s s.heap) (hbl : b < s.heap.size) (hbA : ¬ A b) (hA : ∀ q : Nat, s.heap.size ≤ q → A q) (hZ : ZX A s s.heap) (hZS : ZS cs A s s.heap) (hlt : l.stackTraces = false)
    (kend : ∀ (H : Heap) (locs : List Loc) (ls : Array Slot), va_S A s.heap H locs → lv_has ls 9 [(0, .ref b), (4, .int 0)] → W p l e room_1 s m args below meth c H locs 600002 7302232 Q (F0 m 1169 ls []))
    (a0 a1 a2 a3 a4 a5 a6 a7 a8 a9 a10 a11 a12 a13 a14 a15 a16 a17 a18 : Nat) (hy1 : xs 1 = (10))  (H : Heap) (locs : List Loc) (ls : Array Slot) (hP : va_P D vwCl [(a0, .inr (8, [.ref a5, .ref a1, .ref a6, .ref a7, .int 0, .int 0, .int (-1)])), (a1, .inr (7, [.ref a8, .ref a9, .ref a10, .ref a11, .ref a12, .ref a13, .long 0, .int 0, .int 0, .int 0, .int 0, .int 0, .int 0, .int 0, .int 0, .int 0])), (a2, .inr (9, [.int 0, .ref a14, .int 0, .int 0, .int 0, .int 0, .int 0, .int (-1), .ref a3, .ref a15, .ref a16, .ref a17, .int 0, .int 0, .int 0, .int 0, .int 0, .ref a18])), (a3, .inl (cs 0, 45783, .inl (layF (fun _ => 0) 1))), (a4, .inl (cs 3, 1, .inr (.inl (fun _ => 0))))] H) (hD : va_D A [(a0, .inr (8, [.ref a5, .ref a1, .ref a6, .ref a7, .int 0, .int 0, .int (-1)])), (a1, .inr (7, [.ref a8, .ref a9, .ref a10, .ref a11, .ref a12, .ref a13, .long 0, .int 0, .int 0, .int 0, .int 0, .int 0, .int 0, .int 0, .int 0, .int 0])), (a2, .inr (9, [.int 0, .ref a14, .int 0, .int 0, .int 0, .int 0, .int 0, .int (-1), .ref a3, .ref a15, .ref a16, .ref a17, .int 0, .int 0, .int 0, .int 0, .int 0, .ref a18])), (a3, .inl (cs 0, 45783, .inl (layF (fun _ => 0) 1))), (a4, .inl (cs 3, 1, .inr (.inl (fun _ => 0))))]) (hS : va_S A s.heap H locs) (hl : lv_has ls 9 [(4, .int 0), (3, .ref a4), (2, .ref a2), (1, .ref a0), (0, .ref b)]) : W p l e room_1 s m args below meth c H locs 391 467079 Q (F0 m 278 ls []) := by
  refine lv_aload_n hx hb dL_law_278 rfl (lv_at hl 3 rfl) ?_
  refine lv_aload_n hx hb dL_law_279 rfl (lv_at hl 4 rfl) ?_
  refine lv_iload hx hb dL_law_280 (lv_at hl 0 rfl) ?_
  refine lv_iconst (v := 1) hx hb dL_law_282 (by decide) ?_
  refine lv_iadd hx hb dL_law_283 ?_
  refine tp_i (1) (by decide) ?_
  refine va_sld hx hb hX hbl hbA hS (vin (by decide +kernel)) dL_law_284 ?_
  refine tp_i (10) hy1 ?_
  refine lv_aload_n hx hb dL_law_285 rfl (lv_at hl 1 rfl) ?_
  refine ch_i (As := [.ref a0, .int 10, .ref a4]) (rest := []) (wr := [(a2, .inr (9, [.int 0, .ref a14, .int 0, .int 0, .int 0, .int 0, .int 0, .int (-1), .ref a3, .ref a15, .ref a16, .ref a17, .int 0, .int 0, .int 0, .int 0, .int 0, .ref a18])), (a3, .inl (cs 0, 45783, .inl (layF (fun _ => 0) 1)))]) ⟨hx, hb, hml, hown, hts⟩ (fun sz => k123_L_state l D cs sz hlt a0 a1 a4 a5 a6 a7 a8 a9 a10 a11 a12 a13) (vx_cwSW 3 hts gL_law_L_state rfl rfl rfl hdL_state_o ⟨Nat.le_of_ble_eq_true rfl, Nat.le_of_ble_eq_true rfl⟩) hN hP hD hS hA hZ [0, 1, 4] [2, 3] rfl rfl rfl rfl (by decide) rfl rfl hl.1 (Nat.le_of_ble_eq_true rfl) dL_law_286 (Nat.le_of_ble_eq_true rfl) (Nat.le_of_ble_eq_true rfl) (fun u0 H locs hP hD hS => ?_)
  have hP : va_P D vwCl [(a2, .inr (9, [.int 0, .ref a14, .int 0, .int 0, .int 0, .int 0, .int 0, .int (-1), .ref a3, .ref a15, .ref a16, .ref a17, .int 0, .int 0, .int 0, .int 0, .int 0, .ref a18])), (a3, .inl (cs 0, 45783, .inl (layF (fun _ => 0) 1))), (a4, .inl (cs 3, 1, .inr (.inl (fun _ => 0)))), (a0, .inr (8, [.ref a5, .ref a1, .ref a6, .ref a7, .int 0, .int 0, .int (-1)])), (a1, .inr (7, [.ref a8, .ref a9, .ref a10, .ref a11, .ref a12, .ref a13, .long 0, .int 0, .int 0, .int 0, .int 0, .int 0, .int 0, .int 0, .int 0, .int 0]))] H := hP
  have hD : va_D A [(a2, .inr (9, [.int 0, .ref a14, .int 0, .int 0, .int 0, .int 0, .int 0, .int (-1), .ref a3, .ref a15, .ref a16, .ref a17, .int 0, .int 0, .int 0, .int 0, .int 0, .ref a18])), (a3, .inl (cs 0, 45783, .inl (layF (fun _ => 0) 1))), (a4, .inl (cs 3, 1, .inr (.inl (fun _ => 0)))), (a0, .inr (8, [.ref a5, .ref a1, .ref a6, .ref a7, .int 0, .int 0, .int (-1)])), (a1, .inr (7, [.ref a8, .ref a9, .ref a10, .ref a11, .ref a12, .ref a13, .long 0, .int 0, .int 0, .int 0, .int 0, .int 0, .int 0, .int 0, .int 0, .int 0]))] := hD
  refine W.widen (k := 391) (n := 467079) (Nat.le_of_ble_eq_true rfl) (Nat.le_of_ble_eq_true rfl) ?_
  refine lv_istore (lv' := [(5, .int 0), (4, .int 0), (3, .ref a4), (2, .ref a2), (1, .ref a0), (0, .ref b)]) hx hb dL_law_289 hl (by decide) rfl (fun ls hl => ?_)
  refine lv_aload_n hx hb dL_law_291 rfl (lv_at hl 3 rfl) ?_
  refine lv_aload_n hx hb dL_law_292 rfl (lv_at hl 5 rfl) ?_
  refine lv_iload hx hb dL_law_293 (lv_at hl 1 rfl) ?_
  refine lv_iconst (v := 1) hx hb dL_law_295 (by decide) ?_
  refine lv_iadd hx hb dL_law_296 ?_
  refine tp_i (1) (by decide) ?_
  refine va_sld hx hb hX hbl hbA hS (vin (by decide +kernel)) dL_law_297 ?_
  refine tp_i (10) hy1 ?_
  refine cv_i (As := [.int 10]) (rest := []) (b := a2) (wr := [(a4, .inl (cs 3, 1, .inr (.inl (fun _ => 0)))), (a0, .inr (8, [.ref a5, .ref a1, .ref a6, .ref a7, .int 0, .int 0, .int (-1)])), (a1, .inr (7, [.ref a8, .ref a9, .ref a10, .ref a11, .ref a12, .ref a13, .long 0, .int 0, .int 0, .int 0, .int 0, .int 0, .int 0, .int 0, .int 0, .int 0]))]) ⟨hx, hb, hml, hown, hts⟩ (fun sz => k126_X9_state l D cs sz a2 a3 a14 a15 a16 a17 a18) (cwV 1 hts gL_law_X9_state rfl rfl rfl hdX9_state_v ⟨Nat.le_of_ble_eq_true rfl, Nat.le_of_ble_eq_true rfl⟩) hN hP hD hS hA [0, 1] [2, 3, 4] rfl rfl rfl rfl (by decide) (ci := 9) (q0 := 0) rfl rfl rfl rfl hl.1 (Nat.le_of_ble_eq_true rfl) dL_law_298 (Nat.le_of_ble_eq_true rfl) (Nat.le_of_ble_eq_true rfl) (fun u1 H locs hP hD hS => ?_)
  have hP : va_P D vwCl [(a4, .inl (cs 3, 1, .inr (.inl (fun _ => 0)))), (a0, .inr (8, [.ref a5, .ref a1, .ref a6, .ref a7, .int 0, .int 0, .int (-1)])), (a1, .inr (7, [.ref a8, .ref a9, .ref a10, .ref a11, .ref a12, .ref a13, .long 0, .int 0, .int 0, .int 0, .int 0, .int 0, .int 0, .int 0, .int 0, .int 0])), (a2, .inr (9, [.int 0, .ref a14, .int 0, .int 0, .int 0, .int 0, .int 0, .int (-1), .ref a3, .ref a15, .ref a16, .ref a17, .int 0, .int 0, .int 0, .int 0, .int 0, .ref a18])), (a3, .inl (cs 0, 45783, .inl (layF (fun _ => 0) 1)))] H := hP
  have hD : va_D A [(a4, .inl (cs 3, 1, .inr (.inl (fun _ => 0)))), (a0, .inr (8, [.ref a5, .ref a1, .ref a6, .ref a7, .int 0, .int 0, .int (-1)])), (a1, .inr (7, [.ref a8, .ref a9, .ref a10, .ref a11, .ref a12, .ref a13, .long 0, .int 0, .int 0, .int 0, .int 0, .int 0, .int 0, .int 0, .int 0, .int 0])), (a2, .inr (9, [.int 0, .ref a14, .int 0, .int 0, .int 0, .int 0, .int 0, .int (-1), .ref a3, .ref a15, .ref a16, .ref a17, .int 0, .int 0, .int 0, .int 0, .int 0, .ref a18])), (a3, .inl (cs 0, 45783, .inl (layF (fun _ => 0) 1)))] := hD
  refine W.widen (k := 391) (n := 467079) (Nat.le_of_ble_eq_true rfl) (Nat.le_of_ble_eq_true rfl) ?_
  refine lv_istore (lv' := [(6, .int 0), (5, .int 0), (4, .int 0), (3, .ref a4), (2, .ref a2), (1, .ref a0), (0, .ref b)]) hx hb dL_law_301 hl (by decide) rfl (fun ls hl => ?_)
  refine lv_aload_n hx hb dL_law_303 rfl (lv_at hl 4 rfl) ?_
  refine cv_i (As := []) (rest := []) (b := a2) (wr := [(a4, .inl (cs 3, 1, .inr (.inl (fun _ => 0)))), (a0, .inr (8, [.ref a5, .ref a1, .ref a6, .ref a7, .int 0, .int 0, .int (-1)])), (a1, .inr (7, [.ref a8, .ref a9, .ref a10, .ref a11, .ref a12, .ref a13, .long 0, .int 0, .int 0, .int 0, .int 0, .int 0, .int 0, .int 0, .int 0, .int 0])), (a3, .inl (cs 0, 45783, .inl (layF (fun _ => 0) 1)))]) ⟨hx, hb, hml, hown, hts⟩ (fun sz => k50_X9_thrown l D cs sz a2 a14 a3 a15 a16 a17 a18) (cwV 0 hts gL_law_X9_thrown rfl rfl rfl hdX9_thrown_v ⟨Nat.le_of_ble_eq_true rfl, Nat.le_of_ble_eq_true rfl⟩) hN hP hD hS hA [3] [0, 1, 2, 4] rfl rfl rfl rfl (by decide) (ci := 9) (q0 := 0) rfl rfl rfl rfl hl.1 (Nat.le_of_ble_eq_true rfl) dL_law_304 (Nat.le_of_ble_eq_true rfl) (Nat.le_of_ble_eq_true rfl) (fun u2 H locs hP hD hS => ?_)
  have hP : va_P D vwCl [(a4, .inl (cs 3, 1, .inr (.inl (fun _ => 0)))), (a0, .inr (8, [.ref a5, .ref a1, .ref a6, .ref a7, .int 0, .int 0, .int (-1)])), (a1, .inr (7, [.ref a8, .ref a9, .ref a10, .ref a11, .ref a12, .ref a13, .long 0, .int 0, .int 0, .int 0, .int 0, .int 0, .int 0, .int 0, .int 0, .int 0])), (a3, .inl (cs 0, 45783, .inl (layF (fun _ => 0) 1))), (a2, .inr (9, [.int 0, .ref a14, .int 0, .int 0, .int 0, .int 0, .int 0, .int (-1), .ref a3, .ref a15, .ref a16, .ref a17, .int 0, .int 0, .int 0, .int 0, .int 0, .ref a18]))] H := hP
  have hD : va_D A [(a4, .inl (cs 3, 1, .inr (.inl (fun _ => 0)))), (a0, .inr (8, [.ref a5, .ref a1, .ref a6, .ref a7, .int 0, .int 0, .int (-1)])), (a1, .inr (7, [.ref a8, .ref a9, .ref a10, .ref a11, .ref a12, .ref a13, .long 0, .int 0, .int 0, .int 0, .int 0, .int 0, .int 0, .int 0, .int 0, .int 0])), (a3, .inl (cs 0, 45783, .inl (layF (fun _ => 0) 1))), (a2, .inr (9, [.int 0, .ref a14, .int 0, .int 0, .int 0, .int 0, .int 0, .int (-1), .ref a3, .ref a15, .ref a16, .ref a17, .int 0, .int 0, .int 0, .int 0, .int 0, .ref a18]))] := hD
  refine W.widen (k := 391) (n := 467079) (Nat.le_of_ble_eq_true rfl) (Nat.le_of_ble_eq_true rfl) ?_
  refine lv_iload hx hb dL_law_307 (lv_at hl 1 rfl) ?_
  refine lv_icmp_eq (tgt := 314) hx hb dL_law_309 (by decide) (fun _ => ?_) (fun c9 => absurd (by decide) c9)
  refine lv_iload hx hb dL_law_314 (lv_at hl 1 rfl) ?_
  refine lv_if_ne (tgt := 331) hx hb dL_law_316 (by decide) (fun c9 => absurd (by decide) c9) (fun _ => ?_)
  refine lv_aload_n hx hb dL_law_319 rfl (lv_at hl 3 rfl) ?_
  refine lv_iconst (v := 0) hx hb dL_law_320 (by decide) ?_
  refine ld_l (v := 0) hx hb hN hP 0 rfl (vin (by decide +kernel)) (by first | rfl | decide +kernel) dL_law_321 ?_
  refine lv_iload hx hb dL_law_322 (lv_at hl 0 rfl) ?_
  refine lv_i2l (v := 0) hx hb dL_law_324 (by decide) ?_
  refine W.lcmp hx hb dL_law_325 ?_
  refine tp_i (0) (by decide) ?_
  refine lv_if_eq (tgt := 331) hx hb dL_law_326 (by decide) (fun _ => ?_) (fun c9 => absurd (by decide) c9)
  refine lv_goto (tgt := 1169) hx hb dL_law_331 (by decide) ?_
  refine W.widen (k := 600002) (n := 7302232) (Nat.le_of_ble_eq_true rfl) (Nat.le_of_ble_eq_true rfl) ?_
  exact kend _ _ _ hS (lv_sub hl [6, 2] rfl)

set_option maxHeartbeats 4000000 in
set_option maxRecDepth 100000 in
theorem k127_X8_refuseWhatOutside (l : Launch) (D : va_G) (cs : Nat → ClassId) (sz : Nat) (a0 a1 a2 a3 a4 : Nat) : KV l yX8_refuseWhatOutside wsX8_refuseWhatOutside 0 0 0 0 D cs sz [.ref a0, .int 11, .int 12] [(a0, .inr (8, [.ref a1, .ref a2, .ref a3, .ref a4, .int 0, .int 0, .int (-1)]))] (fun u => [(a0, .inr (8, [.ref a1, .ref a2, .ref a3, .ref a4, .int 0, .int 0, .int (-1)]))]) := by
  refine KV.of cX8_refuseWhatOutside 3 none (by decide) rfl (Nat.le_of_ble_eq_true rfl) ?_
  intro p e s m below meth c A ls hx hb hr hml hown hts hlocks hin hP hN hD hA hS hl
  have hown : s.vm.findClass RX8 = some m.cls := hown
  have hl : lv_has ls 3 [(0, .ref a0), (1, .int 11), (2, .int 12)] := hl
  refine lv_iload_n hx hb dX8_refuseWhatOutside_0 rfl (lv_at hl 1 rfl) ?_
  refine lv_if_lt (tgt := 9) hx hb dX8_refuseWhatOutside_1 (by decide) (fun c9 => absurd c9 (by decide)) (fun _ => ?_)
  refine lv_iload_n hx hb dX8_refuseWhatOutside_4 rfl (lv_at hl 1 rfl) ?_
  refine lv_iload_n hx hb dX8_refuseWhatOutside_5 rfl (lv_at hl 2 rfl) ?_
  refine lv_icmp_le (tgt := 19) hx hb dX8_refuseWhatOutside_6 (by decide) (fun _ => ?_) (fun c9 => absurd (by decide) c9)
  exact en_v (fun k => ([] : List Nat).getD k 0) hx hb hr hlocks hP hD hS (Nat.le_of_ble_eq_true rfl) (Nat.le_of_ble_eq_true rfl) dX8_refuseWhatOutside_19
theorem mX7_count_11 : (.fieldLink RX7 89 "OneBeat$World" "late" "I" : Cond) ∈ wsX7_count := List.mem_of_getElem? (i := 11) (by decide +kernel)
set_option maxHeartbeats 4000000 in
set_option maxRecDepth 100000 in
theorem k128_X7_count (l : Launch) (D : va_G) (cs : Nat → ClassId) (sz : Nat) (a0 a1 a2 a3 a4 a5 a6 : Nat) : KI l yX7_count wsX7_count 0 0 0 0 D cs sz [.ref a0, .int 11] [(a0, .inr (7, [.ref a1, .ref a2, .ref a3, .ref a4, .ref a5, .ref a6, .long 0, .int 0, .int 0, .int 0, .int 0, .int 0, .int 0, .int 0, .int 0, .int 0]))] (fun u => [(a0, .inr (7, [.ref a1, .ref a2, .ref a3, .ref a4, .ref a5, .ref a6, .long 0, .int 0, .int 0, .int 0, .int 0, .int 0, .int 0, .int 0, .int 0, .int 0]))]) (0) := by
  refine KI.of cX7_count 2 (some .int) (by decide) rfl (Nat.le_of_ble_eq_true rfl) ?_
  intro p e s m below meth c A ls hx hb hr hml hown hts hlocks hin hP hN hD hA hS hl
  have hown : s.vm.findClass RX7 = some m.cls := hown
  have hl : lv_has ls 2 [(0, .ref a0), (1, .int 11)] := hl
  refine lv_iload_n hx hb dX7_count_0 rfl (lv_at hl 1 rfl) ?_
  refine lv_tableIn (tgt := 125) (off := 124) hx hb dX7_count_1 (by decide) (by decide) (by decide) (by decide) ?_
  refine lv_aload_n hx hb dX7_count_125 rfl (lv_at hl 0 rfl) ?_
  refine va_get (D := D) (ci := 7) (v := .int 0) (C := RX7) (T := TX7) (N := 16) hx hb hts iX7_count_7 hown hN.1 hP 0 rfl rfl 15 (by decide) (hts _ mX7_count_11) (fun _ h9 => h9) rfl dX7_count_126 ?_
  exact en_i (fun k => ([] : List Nat).getD k 0) hx hb hr hlocks rfl rfl hP hD hS (Nat.le_of_ble_eq_true rfl) (Nat.le_of_ble_eq_true rfl) dX7_count_129
set_option maxHeartbeats 4000000 in
set_option maxRecDepth 100000 in
theorem k129_X8_state (l : Launch) (D : va_G) (cs : Nat → ClassId) (sz : Nat) (a0 a1 a2 a3 a4 a5 a6 a7 a8 a9 a10 : Nat) : KI l yX8_state wsX8_state 1 22 0 0 D cs sz [.ref a0, .int 11] [(a0, .inr (8, [.ref a2, .ref a1, .ref a3, .ref a4, .int 0, .int 0, .int (-1)])), (a1, .inr (7, [.ref a5, .ref a6, .ref a7, .ref a8, .ref a9, .ref a10, .long 0, .int 0, .int 0, .int 0, .int 0, .int 0, .int 0, .int 0, .int 0, .int 0]))] (fun u => [(a0, .inr (8, [.ref a2, .ref a1, .ref a3, .ref a4, .int 0, .int 0, .int (-1)])), (a1, .inr (7, [.ref a5, .ref a6, .ref a7, .ref a8, .ref a9, .ref a10, .long 0, .int 0, .int 0, .int 0, .int 0, .int 0, .int 0, .int 0, .int 0, .int 0]))]) (0) := by
  refine KI.of cX8_state 2 (some .int) (by decide) rfl (Nat.le_of_ble_eq_true rfl) ?_
  intro p e s m below meth c A ls hx hb hr hml hown hts hlocks hin hP hN hD hA hS hl
  have hown : s.vm.findClass RX8 = some m.cls := hown
  have hl : lv_has ls 2 [(0, .ref a0), (1, .int 11)] := hl
  refine lv_aload_n hx hb dX8_state_0 rfl (lv_at hl 0 rfl) ?_
  refine lv_iload_n hx hb dX8_state_1 rfl (lv_at hl 1 rfl) ?_
  refine lv_bipush (v := 12) hx hb dX8_state_2 (by decide) ?_
  refine cv_v (As := [.int 11, .int 12]) (rest := []) (b := a0) (wr := [(a1, .inr (7, [.ref a5, .ref a6, .ref a7, .ref a8, .ref a9, .ref a10, .long 0, .int 0, .int 0, .int 0, .int 0, .int 0, .int 0, .int 0, .int 0, .int 0]))]) ⟨hx, hb, hml, hown, hts⟩ (fun sz => k127_X8_refuseWhatOutside l D cs sz a0 a2 a1 a3 a4) (cwV 2 hts gX8_state_X8_refuseWhatOutside rfl rfl rfl hdX8_refuseWhatOutside_v ⟨Nat.le_of_ble_eq_true rfl, Nat.le_of_ble_eq_true rfl⟩) hN hP hD hS hA [0] [1] rfl rfl rfl rfl (by decide) (ci := 8) (q0 := 0) rfl rfl rfl rfl hl.1 (Nat.le_of_ble_eq_true rfl) dX8_state_4 (Nat.le_of_ble_eq_true rfl) (Nat.le_of_ble_eq_true rfl) (fun u0 H locs hP hD hS => ?_)
  have hP : va_P D vwCl [(a1, .inr (7, [.ref a5, .ref a6, .ref a7, .ref a8, .ref a9, .ref a10, .long 0, .int 0, .int 0, .int 0, .int 0, .int 0, .int 0, .int 0, .int 0, .int 0])), (a0, .inr (8, [.ref a2, .ref a1, .ref a3, .ref a4, .int 0, .int 0, .int (-1)]))] H := hP
  have hD : va_D A [(a1, .inr (7, [.ref a5, .ref a6, .ref a7, .ref a8, .ref a9, .ref a10, .long 0, .int 0, .int 0, .int 0, .int 0, .int 0, .int 0, .int 0, .int 0, .int 0])), (a0, .inr (8, [.ref a2, .ref a1, .ref a3, .ref a4, .int 0, .int 0, .int (-1)]))] := hD
  refine W.widen (k := 0) (n := 0) (Nat.le_of_ble_eq_true rfl) (Nat.le_of_ble_eq_true rfl) ?_
  refine lv_aload_n hx hb dX8_state_7 rfl (lv_at hl 0 rfl) ?_
  refine va_get (D := D) (ci := 8) (v := .ref a1) (C := RX8) (T := TX8) (N := 7) hx hb hts iX8_state_8 hown hN.1 hP 1 rfl rfl 1 (by decide) (hts _ mX8_state_1) (fun _ h9 => h9) rfl dX8_state_8 ?_
  refine lv_iload_n hx hb dX8_state_11 rfl (lv_at hl 1 rfl) ?_
  refine cv_i (As := [.int 11]) (rest := []) (b := a1) (wr := [(a0, .inr (8, [.ref a2, .ref a1, .ref a3, .ref a4, .int 0, .int 0, .int (-1)]))]) ⟨hx, hb, hml, hown, hts⟩ (fun sz => k128_X7_count l D cs sz a1 a5 a6 a7 a8 a9 a10) (cwV 1 hts gX8_state_X7_count rfl rfl rfl hdX7_count_v ⟨Nat.le_of_ble_eq_true rfl, Nat.le_of_ble_eq_true rfl⟩) hN hP hD hS hA [0] [1] rfl rfl rfl rfl (by decide) (ci := 7) (q0 := 0) rfl rfl rfl rfl hl.1 (Nat.le_of_ble_eq_true rfl) dX8_state_12 (Nat.le_of_ble_eq_true rfl) (Nat.le_of_ble_eq_true rfl) (fun u1 H locs hP hD hS => ?_)
  have hP : va_P D vwCl [(a0, .inr (8, [.ref a2, .ref a1, .ref a3, .ref a4, .int 0, .int 0, .int (-1)])), (a1, .inr (7, [.ref a5, .ref a6, .ref a7, .ref a8, .ref a9, .ref a10, .long 0, .int 0, .int 0, .int 0, .int 0, .int 0, .int 0, .int 0, .int 0, .int 0]))] H := hP
  have hD : va_D A [(a0, .inr (8, [.ref a2, .ref a1, .ref a3, .ref a4, .int 0, .int 0, .int (-1)])), (a1, .inr (7, [.ref a5, .ref a6, .ref a7, .ref a8, .ref a9, .ref a10, .long 0, .int 0, .int 0, .int 0, .int 0, .int 0, .int 0, .int 0, .int 0, .int 0]))] := hD
  refine W.widen (k := 0) (n := 0) (Nat.le_of_ble_eq_true rfl) (Nat.le_of_ble_eq_true rfl) ?_
  exact en_i (fun k => ([] : List Nat).getD k 0) hx hb hr hlocks rfl rfl hP hD hS (Nat.le_of_ble_eq_true rfl) (Nat.le_of_ble_eq_true rfl) dX8_state_15
set_option maxHeartbeats 4000000 in
set_option maxRecDepth 100000 in
theorem k130_L_state (l : Launch) (D : va_G) (cs : Nat → ClassId) (sz : Nat) (hlt : l.stackTraces = false) (a0 a1 a2 a3 a4 a5 a6 a7 a8 a9 a10 a11 : Nat) : KH l yL_state wsL_state 2 43 0 0 D cs sz [.ref a0, .int 11, .ref a2] [(a0, .inr (8, [.ref a3, .ref a1, .ref a4, .ref a5, .int 0, .int 0, .int (-1)])), (a1, .inr (7, [.ref a6, .ref a7, .ref a8, .ref a9, .ref a10, .ref a11, .long 0, .int 0, .int 0, .int 0, .int 0, .int 0, .int 0, .int 0, .int 0, .int 0])), (a2, .inl (cs 3, 1, .inr (.inl (fun _ => 0))))] (fun u => [(a2, .inl (cs 3, 1, .inr (.inl (fun _ => 0)))), (a0, .inr (8, [.ref a3, .ref a1, .ref a4, .ref a5, .int 0, .int 0, .int (-1)])), (a1, .inr (7, [.ref a6, .ref a7, .ref a8, .ref a9, .ref a10, .ref a11, .long 0, .int 0, .int 0, .int 0, .int 0, .int 0, .int 0, .int 0, .int 0, .int 0]))]) (0) := by
  refine KH.of cL_state 4 (some .int) (by decide) rfl (Nat.le_of_ble_eq_true rfl) ?_
  intro p e s m below meth c A ls hx hb hr hml hown hts hlocks htab hP hN hD hA hS hl hZ
  have hown : s.vm.findClass RL = some m.cls := hown
  have hl : lv_has ls 4 [(0, .ref a0), (1, .int 11), (2, .ref a2)] := hl
  refine lv_aload_n hx hb dL_state_0 rfl (lv_at hl 2 rfl) ?_
  refine lv_iconst (v := 0) hx hb dL_state_1 (by decide) ?_
  refine lv_aload_n hx hb dL_state_2 rfl (lv_at hl 0 rfl) ?_
  refine lv_iload_n hx hb dL_state_3 rfl (lv_at hl 1 rfl) ?_
  refine cv_i (As := [.int 11]) (rest := [.int 0, .ref a2]) (b := a0) (wr := [(a2, .inl (cs 3, 1, .inr (.inl (fun _ => 0))))]) ⟨hx, hb, hml, hown, hts⟩ (fun sz => k129_X8_state l D cs sz a0 a1 a3 a4 a5 a6 a7 a8 a9 a10 a11) (cwV 1 hts gL_state_X8_state rfl rfl rfl hdX8_state_v ⟨Nat.le_of_ble_eq_true rfl, Nat.le_of_ble_eq_true rfl⟩) hN hP hD hS hA [0, 1] [2] rfl rfl rfl rfl (by decide) (ci := 8) (q0 := 0) rfl rfl rfl rfl hl.1 (Nat.le_of_ble_eq_true rfl) dL_state_4 (Nat.le_of_ble_eq_true rfl) (Nat.le_of_ble_eq_true rfl) (fun u0 H locs hP hD hS => ?_)
  have hP : va_P D vwCl [(a2, .inl (cs 3, 1, .inr (.inl (fun _ => 0)))), (a0, .inr (8, [.ref a3, .ref a1, .ref a4, .ref a5, .int 0, .int 0, .int (-1)])), (a1, .inr (7, [.ref a6, .ref a7, .ref a8, .ref a9, .ref a10, .ref a11, .long 0, .int 0, .int 0, .int 0, .int 0, .int 0, .int 0, .int 0, .int 0, .int 0]))] H := hP
  have hD : va_D A [(a2, .inl (cs 3, 1, .inr (.inl (fun _ => 0)))), (a0, .inr (8, [.ref a3, .ref a1, .ref a4, .ref a5, .int 0, .int 0, .int (-1)])), (a1, .inr (7, [.ref a6, .ref a7, .ref a8, .ref a9, .ref a10, .ref a11, .long 0, .int 0, .int 0, .int 0, .int 0, .int 0, .int 0, .int 0, .int 0, .int 0]))] := hD
  refine W.widen (k := 0) (n := 0) (Nat.le_of_ble_eq_true rfl) (Nat.le_of_ble_eq_true rfl) ?_
  refine lv_i2l (v := 0) hx hb dL_state_7 (by decide) ?_
  refine st_l (g := (fun _ => 0)) hx hb hN hP hD hS 0 rfl (vin (by decide +kernel)) (funext (fun j9 => by unfold vp_updL; split <;> rename_i h9 <;> first | rfl | (subst h9; rfl))) dL_state_8 (fun H locs hP hD hS => ?_)
  have hP : va_P D vwCl [(a2, .inl (cs 3, 1, .inr (.inl (fun _ => 0)))), (a0, .inr (8, [.ref a3, .ref a1, .ref a4, .ref a5, .int 0, .int 0, .int (-1)])), (a1, .inr (7, [.ref a6, .ref a7, .ref a8, .ref a9, .ref a10, .ref a11, .long 0, .int 0, .int 0, .int 0, .int 0, .int 0, .int 0, .int 0, .int 0, .int 0]))] H := hP
  have hD : va_D A [(a2, .inl (cs 3, 1, .inr (.inl (fun _ => 0)))), (a0, .inr (8, [.ref a3, .ref a1, .ref a4, .ref a5, .int 0, .int 0, .int (-1)])), (a1, .inr (7, [.ref a6, .ref a7, .ref a8, .ref a9, .ref a10, .ref a11, .long 0, .int 0, .int 0, .int 0, .int 0, .int 0, .int 0, .int 0, .int 0, .int 0]))] := hD
  refine lv_goto (tgt := 15) hx hb dL_state_9 (by decide) ?_
  refine lv_iconst (v := 0) hx hb dL_state_15 (by decide) ?_
  exact en_i (fun k => ([] : List Nat).getD k 0) hx hb hr hlocks rfl rfl hP hD hS (Nat.le_of_ble_eq_true rfl) (Nat.le_of_ble_eq_true rfl) dL_state_16
set_option maxHeartbeats 4000000 in
set_option maxRecDepth 100000 in
theorem k131_X9_in (l : Launch) (D : va_G) (cs : Nat → ClassId) (sz : Nat) : KI l yX9_in wsX9_in 0 0 0 0 D cs sz [.int 11, .int 0, .int 12] [] (fun u => []) (1) := by
  refine KI.of cX9_in 3 (some .boolean) (by decide) rfl (Nat.le_of_ble_eq_true rfl) ?_
  intro p e s m below meth c A ls hx hb hr hml hown hts hlocks hin hP hN hD hA hS hl
  have hown : s.vm.findClass RX9 = some m.cls := hown
  have hl : lv_has ls 3 [(0, .int 11), (1, .int 0), (2, .int 12)] := hl
  refine lv_iload_n hx hb dX9_in_0 rfl (lv_at hl 0 rfl) ?_
  refine lv_iload_n hx hb dX9_in_1 rfl (lv_at hl 1 rfl) ?_
  refine lv_icmp_lt (tgt := 14) hx hb dX9_in_2 (by decide) (fun c9 => absurd c9 (by decide)) (fun _ => ?_)
  refine lv_iload_n hx hb dX9_in_5 rfl (lv_at hl 0 rfl) ?_
  refine lv_iload_n hx hb dX9_in_6 rfl (lv_at hl 2 rfl) ?_
  refine lv_icmp_gt (tgt := 14) hx hb dX9_in_7 (by decide) (fun c9 => absurd c9 (by decide)) (fun _ => ?_)
  refine lv_iconst (v := 1) hx hb dX9_in_10 (by decide) ?_
  refine lv_goto (tgt := 15) hx hb dX9_in_11 (by decide) ?_
  exact en_i (fun k => ([] : List Nat).getD k 0) hx hb hr hlocks rfl rfl hP hD hS (Nat.le_of_ble_eq_true rfl) (Nat.le_of_ble_eq_true rfl) dX9_in_15
set_option maxHeartbeats 4000000 in
set_option maxRecDepth 100000 in
theorem k132_X9_told (l : Launch) (D : va_G) (cs : Nat → ClassId) (sz : Nat) (a0 a1 a2 a3 a4 a5 a6 : Nat) : KI l yX9_told wsX9_told 0 0 0 0 D cs sz [.ref a0, .int 11] [(a0, .inr (9, [.int 0, .ref a2, .int 0, .int 0, .int 0, .int 0, .int 0, .int (-1), .ref a1, .ref a3, .ref a4, .ref a5, .int 0, .int 0, .int 0, .int 0, .int 0, .ref a6])), (a1, .inl (cs 0, 45783, .inl (layF (fun _ => 0) 1)))] (fun u => [(a0, .inr (9, [.int 0, .ref a2, .int 0, .int 0, .int 0, .int 0, .int 0, .int (-1), .ref a1, .ref a3, .ref a4, .ref a5, .int 0, .int 0, .int 0, .int 0, .int 0, .ref a6])), (a1, .inl (cs 0, 45783, .inl (layF (fun _ => 0) 1)))]) (0) := by
  refine KI.of cX9_told 2 (some .int) (by decide) rfl (Nat.le_of_ble_eq_true rfl) ?_
  intro p e s m below meth c A ls hx hb hr hml hown hts hlocks hin hP hN hD hA hS hl
  have hown : s.vm.findClass RX9 = some m.cls := hown
  have hl : lv_has ls 2 [(0, .ref a0), (1, .int 11)] := hl
  refine lv_iload_n hx hb dX9_told_0 rfl (lv_at hl 1 rfl) ?_
  refine lv_tableIn (tgt := 45) (off := 44) hx hb dX9_told_1 (by decide) (by decide) (by decide) (by decide) ?_
  refine lv_aload_n hx hb dX9_told_45 rfl (lv_at hl 0 rfl) ?_
  refine va_get (D := D) (ci := 9) (v := .ref a1) (C := RX9) (T := TX9) (N := 18) hx hb hts iX9_told_9 hown hN.1 hP 0 rfl rfl 8 (by decide) (hts _ mX9_told_1) (fun _ h9 => h9) rfl dX9_told_46 ?_
  refine lv_bipush (v := 10) hx hb dX9_told_49 (by decide) ?_
  refine ld_i (v := 0) hx hb hN hP 1 rfl (vin (by decide +kernel)) (by first | rfl | decide +kernel) dX9_told_51 ?_
  exact en_i (fun k => ([] : List Nat).getD k 0) hx hb hr hlocks rfl rfl hP hD hS (Nat.le_of_ble_eq_true rfl) (Nat.le_of_ble_eq_true rfl) dX9_told_52
