set_option maxHeartbeats 4000000 in
set_option maxRecDepth 100000 in
theorem k393_X9_plan (l : Launch) (D : va_G) (cs : Nat → ClassId) (sz : Nat) (a0 a1 a2 a3 a4 a5 a6 : Nat) : KV l yX9_plan wsX9_plan 2 43 0 0 D cs sz [.ref a0, .int 0, .int 1, .int 0, .int 1, .int 1] [(a0, .inr (9, [.int 0, .ref a2, .int 0, .int 0, .int 0, .int 0, .int 0, .int (-1), .ref a1, .ref a3, .ref a4, .ref a5, .int 0, .int 0, .int 0, .int 0, .int 0, .ref a6])), (a1, .inl (cs 0, 45783, .inl (upd (upd (upd (upd (layF (fun _ => 0) 1) 6 1) 15 1) 16 1) 17 50)))] (fun u => [(a0, .inr (9, [.int 0, .ref a2, .int 0, .int 0, .int 0, .int 0, .int 0, .int (-1), .ref a1, .ref a3, .ref a4, .ref a5, .int 0, .int 0, .int 0, .int 0, .int 0, .ref a6])), (a1, .inl (cs 0, 45783, .inl (upd (upd (upd (upd (upd (upd (upd (upd (layF (fun _ => 0) 1) 6 1) 15 1) 16 1) 17 50) 28 1) 29 0) 31 1) 30 1)))]) := by
  refine KV.of cX9_plan 6 none (by decide) rfl (Nat.le_of_ble_eq_true rfl) ?_
  intro p e s m below meth c A ls hx hb hr hml hown hts hlocks hin hP hN hD hA hS hl
  have hown : s.vm.findClass RX9 = some m.cls := hown
  have hl : lv_has ls 6 [(0, .ref a0), (1, .int 0), (2, .int 1), (3, .int 0), (4, .int 1), (5, .int 1)] := hl
  refine lv_aload_n hx hb dX9_plan_0 rfl (lv_at hl 0 rfl) ?_
  refine lv_iload_n hx hb dX9_plan_1 rfl (lv_at hl 1 rfl) ?_
  refine lv_iconst (v := 5) hx hb dX9_plan_2 (by decide) ?_
  refine cv_i (As := [.int 0, .int 5]) (rest := []) (b := a0) (wr := []) ⟨hx, hb, hml, hown, hts⟩ (fun sz => k388_X9_of l D cs sz a0 a1 a2 a3 a4 a5 a6) (cwV 2 hts gX9_plan_X9_of rfl rfl rfl hdX9_of_v ⟨Nat.le_of_ble_eq_true rfl, Nat.le_of_ble_eq_true rfl⟩) hN hP hD hS hA [0, 1] [] rfl rfl rfl rfl (by decide) (ci := 9) (q0 := 0) rfl rfl rfl rfl hl.1 (Nat.le_of_ble_eq_true rfl) dX9_plan_3 (Nat.le_of_ble_eq_true rfl) (Nat.le_of_ble_eq_true rfl) (fun u0 H locs hP hD hS => ?_)
  have hP : va_P D vwCl [(a0, .inr (9, [.int 0, .ref a2, .int 0, .int 0, .int 0, .int 0, .int 0, .int (-1), .ref a1, .ref a3, .ref a4, .ref a5, .int 0, .int 0, .int 0, .int 0, .int 0, .ref a6])), (a1, .inl (cs 0, 45783, .inl (upd (upd (upd (upd (layF (fun _ => 0) 1) 6 1) 15 1) 16 1) 17 50)))] H := hP
  have hD : va_D A [(a0, .inr (9, [.int 0, .ref a2, .int 0, .int 0, .int 0, .int 0, .int 0, .int (-1), .ref a1, .ref a3, .ref a4, .ref a5, .int 0, .int 0, .int 0, .int 0, .int 0, .ref a6])), (a1, .inl (cs 0, 45783, .inl (upd (upd (upd (upd (layF (fun _ => 0) 1) 6 1) 15 1) 16 1) 17 50)))] := hD
  refine W.widen (k := 0) (n := 0) (Nat.le_of_ble_eq_true rfl) (Nat.le_of_ble_eq_true rfl) ?_
  refine lv_if_eq (tgt := 21) hx hb dX9_plan_6 (by decide) (fun _ => ?_) (fun c9 => absurd (by decide) c9)
  refine lv_aload_n hx hb dX9_plan_21 rfl (lv_at hl 0 rfl) ?_
  refine lv_iload_n hx hb dX9_plan_22 rfl (lv_at hl 1 rfl) ?_
  refine lv_iconst (v := 5) hx hb dX9_plan_23 (by decide) ?_
  refine lv_iload_n hx hb dX9_plan_24 rfl (lv_at hl 2 rfl) ?_
  refine cv_v (As := [.int 0, .int 5, .int 1]) (rest := []) (b := a0) (wr := []) ⟨hx, hb, hml, hown, hts⟩ (fun sz => k389_X9_set l D cs sz a0 a1 a2 a3 a4 a5 a6) (cwV 3 hts gX9_plan_X9_set rfl rfl rfl hdX9_set_v ⟨Nat.le_of_ble_eq_true rfl, Nat.le_of_ble_eq_true rfl⟩) hN hP hD hS hA [0, 1] [] rfl rfl rfl rfl (by decide) (ci := 9) (q0 := 0) rfl rfl rfl rfl hl.1 (Nat.le_of_ble_eq_true rfl) dX9_plan_25 (Nat.le_of_ble_eq_true rfl) (Nat.le_of_ble_eq_true rfl) (fun u1 H locs hP hD hS => ?_)
  have hP : va_P D vwCl [(a0, .inr (9, [.int 0, .ref a2, .int 0, .int 0, .int 0, .int 0, .int 0, .int (-1), .ref a1, .ref a3, .ref a4, .ref a5, .int 0, .int 0, .int 0, .int 0, .int 0, .ref a6])), (a1, .inl (cs 0, 45783, .inl (upd (upd (upd (upd (upd (layF (fun _ => 0) 1) 6 1) 15 1) 16 1) 17 50) 28 1)))] H := hP
  have hD : va_D A [(a0, .inr (9, [.int 0, .ref a2, .int 0, .int 0, .int 0, .int 0, .int 0, .int (-1), .ref a1, .ref a3, .ref a4, .ref a5, .int 0, .int 0, .int 0, .int 0, .int 0, .ref a6])), (a1, .inl (cs 0, 45783, .inl (upd (upd (upd (upd (upd (layF (fun _ => 0) 1) 6 1) 15 1) 16 1) 17 50) 28 1)))] := hD
  refine W.widen (k := 0) (n := 0) (Nat.le_of_ble_eq_true rfl) (Nat.le_of_ble_eq_true rfl) ?_
  refine lv_aload_n hx hb dX9_plan_28 rfl (lv_at hl 0 rfl) ?_
  refine lv_iload_n hx hb dX9_plan_29 rfl (lv_at hl 1 rfl) ?_
  refine lv_bipush (v := 6) hx hb dX9_plan_30 (by decide) ?_
  refine lv_iload_n hx hb dX9_plan_32 rfl (lv_at hl 3 rfl) ?_
  refine cv_v (As := [.int 0, .int 6, .int 0]) (rest := []) (b := a0) (wr := []) ⟨hx, hb, hml, hown, hts⟩ (fun sz => k390_X9_set l D cs sz a0 a1 a2 a3 a4 a5 a6) (cwV 3 hts gX9_plan_X9_set rfl rfl rfl hdX9_set_v ⟨Nat.le_of_ble_eq_true rfl, Nat.le_of_ble_eq_true rfl⟩) hN hP hD hS hA [0, 1] [] rfl rfl rfl rfl (by decide) (ci := 9) (q0 := 0) rfl rfl rfl rfl hl.1 (Nat.le_of_ble_eq_true rfl) dX9_plan_33 (Nat.le_of_ble_eq_true rfl) (Nat.le_of_ble_eq_true rfl) (fun u2 H locs hP hD hS => ?_)
  have hP : va_P D vwCl [(a0, .inr (9, [.int 0, .ref a2, .int 0, .int 0, .int 0, .int 0, .int 0, .int (-1), .ref a1, .ref a3, .ref a4, .ref a5, .int 0, .int 0, .int 0, .int 0, .int 0, .ref a6])), (a1, .inl (cs 0, 45783, .inl (upd (upd (upd (upd (upd (upd (layF (fun _ => 0) 1) 6 1) 15 1) 16 1) 17 50) 28 1) 29 0)))] H := hP
  have hD : va_D A [(a0, .inr (9, [.int 0, .ref a2, .int 0, .int 0, .int 0, .int 0, .int 0, .int (-1), .ref a1, .ref a3, .ref a4, .ref a5, .int 0, .int 0, .int 0, .int 0, .int 0, .ref a6])), (a1, .inl (cs 0, 45783, .inl (upd (upd (upd (upd (upd (upd (layF (fun _ => 0) 1) 6 1) 15 1) 16 1) 17 50) 28 1) 29 0)))] := hD
  refine W.widen (k := 0) (n := 0) (Nat.le_of_ble_eq_true rfl) (Nat.le_of_ble_eq_true rfl) ?_
  refine lv_aload_n hx hb dX9_plan_36 rfl (lv_at hl 0 rfl) ?_
  refine lv_iload_n hx hb dX9_plan_37 rfl (lv_at hl 1 rfl) ?_
  refine lv_bipush (v := 8) hx hb dX9_plan_38 (by decide) ?_
  refine lv_iload hx hb dX9_plan_40 (lv_at hl 4 rfl) ?_
  refine cv_v (As := [.int 0, .int 8, .int 1]) (rest := []) (b := a0) (wr := []) ⟨hx, hb, hml, hown, hts⟩ (fun sz => k391_X9_set l D cs sz a0 a1 a2 a3 a4 a5 a6) (cwV 3 hts gX9_plan_X9_set rfl rfl rfl hdX9_set_v ⟨Nat.le_of_ble_eq_true rfl, Nat.le_of_ble_eq_true rfl⟩) hN hP hD hS hA [0, 1] [] rfl rfl rfl rfl (by decide) (ci := 9) (q0 := 0) rfl rfl rfl rfl hl.1 (Nat.le_of_ble_eq_true rfl) dX9_plan_42 (Nat.le_of_ble_eq_true rfl) (Nat.le_of_ble_eq_true rfl) (fun u3 H locs hP hD hS => ?_)
  have hP : va_P D vwCl [(a0, .inr (9, [.int 0, .ref a2, .int 0, .int 0, .int 0, .int 0, .int 0, .int (-1), .ref a1, .ref a3, .ref a4, .ref a5, .int 0, .int 0, .int 0, .int 0, .int 0, .ref a6])), (a1, .inl (cs 0, 45783, .inl (upd (upd (upd (upd (upd (upd (upd (layF (fun _ => 0) 1) 6 1) 15 1) 16 1) 17 50) 28 1) 29 0) 31 1)))] H := hP
  have hD : va_D A [(a0, .inr (9, [.int 0, .ref a2, .int 0, .int 0, .int 0, .int 0, .int 0, .int (-1), .ref a1, .ref a3, .ref a4, .ref a5, .int 0, .int 0, .int 0, .int 0, .int 0, .ref a6])), (a1, .inl (cs 0, 45783, .inl (upd (upd (upd (upd (upd (upd (upd (layF (fun _ => 0) 1) 6 1) 15 1) 16 1) 17 50) 28 1) 29 0) 31 1)))] := hD
  refine W.widen (k := 0) (n := 0) (Nat.le_of_ble_eq_true rfl) (Nat.le_of_ble_eq_true rfl) ?_
  refine lv_aload_n hx hb dX9_plan_45 rfl (lv_at hl 0 rfl) ?_
  refine lv_iload_n hx hb dX9_plan_46 rfl (lv_at hl 1 rfl) ?_
  refine lv_bipush (v := 7) hx hb dX9_plan_47 (by decide) ?_
  refine lv_iload hx hb dX9_plan_49 (lv_at hl 5 rfl) ?_
  refine cv_v (As := [.int 0, .int 7, .int 1]) (rest := []) (b := a0) (wr := []) ⟨hx, hb, hml, hown, hts⟩ (fun sz => k392_X9_set l D cs sz a0 a1 a2 a3 a4 a5 a6) (cwV 3 hts gX9_plan_X9_set rfl rfl rfl hdX9_set_v ⟨Nat.le_of_ble_eq_true rfl, Nat.le_of_ble_eq_true rfl⟩) hN hP hD hS hA [0, 1] [] rfl rfl rfl rfl (by decide) (ci := 9) (q0 := 0) rfl rfl rfl rfl hl.1 (Nat.le_of_ble_eq_true rfl) dX9_plan_51 (Nat.le_of_ble_eq_true rfl) (Nat.le_of_ble_eq_true rfl) (fun u4 H locs hP hD hS => ?_)
  have hP : va_P D vwCl [(a0, .inr (9, [.int 0, .ref a2, .int 0, .int 0, .int 0, .int 0, .int 0, .int (-1), .ref a1, .ref a3, .ref a4, .ref a5, .int 0, .int 0, .int 0, .int 0, .int 0, .ref a6])), (a1, .inl (cs 0, 45783, .inl (upd (upd (upd (upd (upd (upd (upd (upd (layF (fun _ => 0) 1) 6 1) 15 1) 16 1) 17 50) 28 1) 29 0) 31 1) 30 1)))] H := hP
  have hD : va_D A [(a0, .inr (9, [.int 0, .ref a2, .int 0, .int 0, .int 0, .int 0, .int 0, .int (-1), .ref a1, .ref a3, .ref a4, .ref a5, .int 0, .int 0, .int 0, .int 0, .int 0, .ref a6])), (a1, .inl (cs 0, 45783, .inl (upd (upd (upd (upd (upd (upd (upd (upd (layF (fun _ => 0) 1) 6 1) 15 1) 16 1) 17 50) 28 1) 29 0) 31 1) 30 1)))] := hD
  refine W.widen (k := 0) (n := 0) (Nat.le_of_ble_eq_true rfl) (Nat.le_of_ble_eq_true rfl) ?_
  exact en_v (fun k => ([] : List Nat).getD k 0) hx hb hr hlocks hP hD hS (Nat.le_of_ble_eq_true rfl) (Nat.le_of_ble_eq_true rfl) dX9_plan_54
theorem mX9_sendToOthers_1 : (.fieldLink RX9 18 "OneBeatModel" "data" "[I" : Cond) ∈ wsX9_sendToOthers := List.mem_of_getElem? (i := 1) (by decide +kernel)
theorem iX9_sendToOthers_9 : ∀ w ∈ wsX90, w ∈ wsX9_sendToOthers := fun w h => List.mem_of_mem_drop (List.mem_of_mem_take ((show wsX90 = (wsX9_sendToOthers.drop 10).take 18 by decide +kernel) ▸ h))
set_option maxHeartbeats 4000000 in
set_option maxRecDepth 100000 in
theorem k394_X9_sendToOthers (l : Launch) (D : va_G) (cs : Nat → ClassId) (sz : Nat) (a0 a1 a2 a3 a4 a5 a6 : Nat) : KV l yX9_sendToOthers wsX9_sendToOthers 0 0 0 0 D cs sz [.ref a0, .int 2, .int 0, .int 0, .int 1, .int 1] [(a0, .inr (9, [.int 0, .ref a2, .int 0, .int 0, .int 0, .int 0, .int 0, .int (-1), .ref a1, .ref a3, .ref a4, .ref a5, .int 0, .int 0, .int 0, .int 0, .int 0, .ref a6])), (a1, .inl (cs 0, 45783, .inl (upd (upd (upd (upd (upd (upd (upd (upd (layF (fun _ => 0) 1) 6 1) 15 1) 16 1) 17 50) 28 1) 29 0) 31 1) 30 1)))] (fun u => [(a0, .inr (9, [.int 0, .ref a2, .int 0, .int 0, .int 0, .int 0, .int 0, .int (-1), .ref a1, .ref a3, .ref a4, .ref a5, .int 0, .int 0, .int 0, .int 0, .int 0, .ref a6])), (a1, .inl (cs 0, 45783, .inl (upd (upd (upd (upd (upd (upd (upd (upd (layF (fun _ => 0) 1) 6 1) 15 1) 16 1) 17 50) 28 1) 29 0) 31 1) 30 1)))]) := by
  refine KV.of cX9_sendToOthers 7 none (by decide) rfl (Nat.le_of_ble_eq_true rfl) ?_
  intro p e s m below meth c A ls hx hb hr hml hown hts hlocks hin hP hN hD hA hS hl
  have hown : s.vm.findClass RX9 = some m.cls := hown
  have hl : lv_has ls 7 [(0, .ref a0), (1, .int 2), (2, .int 0), (3, .int 0), (4, .int 1), (5, .int 1)] := hl
  refine lv_iconst (v := 0) hx hb dX9_sendToOthers_0 (by decide) ?_
  refine lv_istore (lv' := [(6, .int 0), (0, .ref a0), (1, .int 2), (2, .int 0), (3, .int 0), (4, .int 1), (5, .int 1)]) hx hb dX9_sendToOthers_1 hl (by decide) rfl (fun ls hl => ?_)
  refine lv_iload hx hb dX9_sendToOthers_3 (lv_at hl 0 rfl) ?_
  refine lv_aload_n hx hb dX9_sendToOthers_5 rfl (lv_at hl 1 rfl) ?_
  refine va_get (D := D) (ci := 9) (v := .ref a1) (C := RX9) (T := TX9) (N := 18) hx hb hts iX9_sendToOthers_9 hown hN.1 hP 0 rfl rfl 8 (by decide) (hts _ mX9_sendToOthers_1) (fun _ h9 => h9) rfl dX9_sendToOthers_6 ?_
  refine lv_iconst (v := 0) hx hb dX9_sendToOthers_9 (by decide) ?_
  refine ld_i (v := 1) hx hb hN hP 1 rfl (vin (by decide +kernel)) (by first | rfl | decide +kernel) dX9_sendToOthers_10 ?_
  refine lv_icmp_ge (tgt := 40) hx hb dX9_sendToOthers_11 (by decide) (fun c9 => absurd c9 (by decide)) (fun _ => ?_)
  refine lv_iload hx hb dX9_sendToOthers_14 (lv_at hl 0 rfl) ?_
  refine lv_iload_n hx hb dX9_sendToOthers_16 rfl (lv_at hl 3 rfl) ?_
  refine lv_icmp_eq (tgt := 34) hx hb dX9_sendToOthers_17 (by decide) (fun _ => ?_) (fun c9 => absurd (by decide) c9)
  refine lv_iinc (v := 1) (lv' := [(6, .int 1), (0, .ref a0), (1, .int 2), (2, .int 0), (3, .int 0), (4, .int 1), (5, .int 1)]) hx hb dX9_sendToOthers_34 hl (k := 0) rfl (by decide) (by decide) rfl (fun ls hl => ?_)
  refine lv_goto (tgt := 3) hx hb dX9_sendToOthers_37 (by decide) ?_
  refine lv_iload hx hb dX9_sendToOthers_3 (lv_at hl 0 rfl) ?_
  refine lv_aload_n hx hb dX9_sendToOthers_5 rfl (lv_at hl 1 rfl) ?_
  refine va_get (D := D) (ci := 9) (v := .ref a1) (C := RX9) (T := TX9) (N := 18) hx hb hts iX9_sendToOthers_9 hown hN.1 hP 0 rfl rfl 8 (by decide) (hts _ mX9_sendToOthers_1) (fun _ h9 => h9) rfl dX9_sendToOthers_6 ?_
  refine lv_iconst (v := 0) hx hb dX9_sendToOthers_9 (by decide) ?_
  refine ld_i (v := 1) hx hb hN hP 1 rfl (vin (by decide +kernel)) (by first | rfl | decide +kernel) dX9_sendToOthers_10 ?_
  refine lv_icmp_ge (tgt := 40) hx hb dX9_sendToOthers_11 (by decide) (fun _ => ?_) (fun c9 => absurd (by decide) c9)
  exact en_v (fun k => ([] : List Nat).getD k 0) hx hb hr hlocks hP hD hS (Nat.le_of_ble_eq_true rfl) (Nat.le_of_ble_eq_true rfl) dX9_sendToOthers_40
theorem mX9_vote_1 : (.fieldLink RX9 18 "OneBeatModel" "data" "[I" : Cond) ∈ wsX9_vote := List.mem_of_getElem? (i := 1) (by decide +kernel)
theorem iX9_vote_9 : ∀ w ∈ wsX90, w ∈ wsX9_vote := fun w h => List.mem_of_mem_drop (List.mem_of_mem_take ((show wsX90 = (wsX9_vote.drop 29).take 18 by decide +kernel) ▸ h))
set_option maxHeartbeats 4000000 in
set_option maxRecDepth 100000 in
theorem k395_X9_of (l : Launch) (D : va_G) (cs : Nat → ClassId) (sz : Nat) (a0 a1 a2 a3 a4 a5 a6 : Nat) : KI l yX9_of wsX9_of 1 20 0 0 D cs sz [.ref a0, .int 0, .int 5] [(a0, .inr (9, [.int 0, .ref a2, .int 0, .int 0, .int 0, .int 0, .int 0, .int (-1), .ref a1, .ref a3, .ref a4, .ref a5, .int 0, .int 0, .int 0, .int 0, .int 0, .ref a6])), (a1, .inl (cs 0, 45783, .inl (upd (upd (upd (upd (upd (upd (upd (upd (upd (upd (upd (layF (fun _ => 0) 1) 6 1) 15 1) 16 1) 17 50) 28 1) 29 0) 31 1) 30 1) 19 1) 20 1) 7 1)))] (fun u => [(a0, .inr (9, [.int 0, .ref a2, .int 0, .int 0, .int 0, .int 0, .int 0, .int (-1), .ref a1, .ref a3, .ref a4, .ref a5, .int 0, .int 0, .int 0, .int 0, .int 0, .ref a6])), (a1, .inl (cs 0, 45783, .inl (upd (upd (upd (upd (upd (upd (upd (upd (upd (upd (upd (layF (fun _ => 0) 1) 6 1) 15 1) 16 1) 17 50) 28 1) 29 0) 31 1) 30 1) 19 1) 20 1) 7 1)))]) (1) := by
  refine KI.of cX9_of 3 (some .int) (by decide) rfl (Nat.le_of_ble_eq_true rfl) ?_
  intro p e s m below meth c A ls hx hb hr hml hown hts hlocks hin hP hN hD hA hS hl
  have hown : s.vm.findClass RX9 = some m.cls := hown
  have hl : lv_has ls 3 [(0, .ref a0), (1, .int 0), (2, .int 5)] := hl
  refine lv_aload_n hx hb dX9_of_0 rfl (lv_at hl 0 rfl) ?_
  refine va_get (D := D) (ci := 9) (v := .ref a1) (C := RX9) (T := TX9) (N := 18) hx hb hts iX9_of_9 hown hN.1 hP 0 rfl rfl 8 (by decide) (hts _ mX9_of_1) (fun _ h9 => h9) rfl dX9_of_1 ?_
  refine lv_iload_n hx hb dX9_of_4 rfl (lv_at hl 1 rfl) ?_
  refine cs_i (As := [.int 0]) (rest := [.ref a1]) (wr := [(a0, .inr (9, [.int 0, .ref a2, .int 0, .int 0, .int 0, .int 0, .int 0, .int (-1), .ref a1, .ref a3, .ref a4, .ref a5, .int 0, .int 0, .int 0, .int 0, .int 0, .ref a6])), (a1, .inl (cs 0, 45783, .inl (upd (upd (upd (upd (upd (upd (upd (upd (upd (upd (upd (layF (fun _ => 0) 1) 6 1) 15 1) 16 1) 17 50) 28 1) 29 0) 31 1) 30 1) 19 1) 20 1) 7 1)))]) ⟨hx, hb, hml, hown, hts⟩ (fun sz => k16_X9_playerAt l D cs sz ) (va_cwS 1 hts gX9_of_X9_playerAt rfl rfl rfl hdX9_playerAt_o ⟨Nat.le_of_ble_eq_true rfl, Nat.le_of_ble_eq_true rfl⟩) hN hP hD hS hA [] [0, 1] rfl rfl rfl rfl (by decide) rfl rfl hl.1 (Nat.le_of_ble_eq_true rfl) dX9_of_5 (Nat.le_of_ble_eq_true rfl) (Nat.le_of_ble_eq_true rfl) (fun u0 H locs hP hD hS => ?_)
  have hP : va_P D vwCl [(a0, .inr (9, [.int 0, .ref a2, .int 0, .int 0, .int 0, .int 0, .int 0, .int (-1), .ref a1, .ref a3, .ref a4, .ref a5, .int 0, .int 0, .int 0, .int 0, .int 0, .ref a6])), (a1, .inl (cs 0, 45783, .inl (upd (upd (upd (upd (upd (upd (upd (upd (upd (upd (upd (layF (fun _ => 0) 1) 6 1) 15 1) 16 1) 17 50) 28 1) 29 0) 31 1) 30 1) 19 1) 20 1) 7 1)))] H := hP
  have hD : va_D A [(a0, .inr (9, [.int 0, .ref a2, .int 0, .int 0, .int 0, .int 0, .int 0, .int (-1), .ref a1, .ref a3, .ref a4, .ref a5, .int 0, .int 0, .int 0, .int 0, .int 0, .ref a6])), (a1, .inl (cs 0, 45783, .inl (upd (upd (upd (upd (upd (upd (upd (upd (upd (upd (upd (layF (fun _ => 0) 1) 6 1) 15 1) 16 1) 17 50) 28 1) 29 0) 31 1) 30 1) 19 1) 20 1) 7 1)))] := hD
  refine W.widen (k := 0) (n := 0) (Nat.le_of_ble_eq_true rfl) (Nat.le_of_ble_eq_true rfl) ?_
  refine lv_iload_n hx hb dX9_of_8 rfl (lv_at hl 2 rfl) ?_
  refine lv_iadd hx hb dX9_of_9 ?_
  refine tp_i (28) (by decide) ?_
  refine ld_i (v := 1) hx hb hN hP 1 rfl (vin (by decide +kernel)) (by first | rfl | decide +kernel) dX9_of_10 ?_
  exact en_i (fun k => ([] : List Nat).getD k 0) hx hb hr hlocks rfl rfl hP hD hS (Nat.le_of_ble_eq_true rfl) (Nat.le_of_ble_eq_true rfl) dX9_of_11
set_option maxHeartbeats 4000000 in
set_option maxRecDepth 100000 in
theorem k396_X9_of (l : Launch) (D : va_G) (cs : Nat → ClassId) (sz : Nat) (a0 a1 a2 a3 a4 a5 a6 : Nat) : KI l yX9_of wsX9_of 1 20 0 0 D cs sz [.ref a0, .int 0, .int 6] [(a0, .inr (9, [.int 0, .ref a2, .int 0, .int 0, .int 0, .int 0, .int 0, .int (-1), .ref a1, .ref a3, .ref a4, .ref a5, .int 0, .int 0, .int 0, .int 0, .int 0, .ref a6])), (a1, .inl (cs 0, 45783, .inl (upd (upd (upd (upd (upd (upd (upd (upd (upd (upd (upd (layF (fun _ => 0) 1) 6 1) 15 1) 16 1) 17 50) 28 1) 29 0) 31 1) 30 1) 19 1) 20 1) 7 1)))] (fun u => [(a0, .inr (9, [.int 0, .ref a2, .int 0, .int 0, .int 0, .int 0, .int 0, .int (-1), .ref a1, .ref a3, .ref a4, .ref a5, .int 0, .int 0, .int 0, .int 0, .int 0, .ref a6])), (a1, .inl (cs 0, 45783, .inl (upd (upd (upd (upd (upd (upd (upd (upd (upd (upd (upd (layF (fun _ => 0) 1) 6 1) 15 1) 16 1) 17 50) 28 1) 29 0) 31 1) 30 1) 19 1) 20 1) 7 1)))]) (0) := by
  refine KI.of cX9_of 3 (some .int) (by decide) rfl (Nat.le_of_ble_eq_true rfl) ?_
  intro p e s m below meth c A ls hx hb hr hml hown hts hlocks hin hP hN hD hA hS hl
  have hown : s.vm.findClass RX9 = some m.cls := hown
  have hl : lv_has ls 3 [(0, .ref a0), (1, .int 0), (2, .int 6)] := hl
  refine lv_aload_n hx hb dX9_of_0 rfl (lv_at hl 0 rfl) ?_
  refine va_get (D := D) (ci := 9) (v := .ref a1) (C := RX9) (T := TX9) (N := 18) hx hb hts iX9_of_9 hown hN.1 hP 0 rfl rfl 8 (by decide) (hts _ mX9_of_1) (fun _ h9 => h9) rfl dX9_of_1 ?_
  refine lv_iload_n hx hb dX9_of_4 rfl (lv_at hl 1 rfl) ?_
  refine cs_i (As := [.int 0]) (rest := [.ref a1]) (wr := [(a0, .inr (9, [.int 0, .ref a2, .int 0, .int 0, .int 0, .int 0, .int 0, .int (-1), .ref a1, .ref a3, .ref a4, .ref a5, .int 0, .int 0, .int 0, .int 0, .int 0, .ref a6])), (a1, .inl (cs 0, 45783, .inl (upd (upd (upd (upd (upd (upd (upd (upd (upd (upd (upd (layF (fun _ => 0) 1) 6 1) 15 1) 16 1) 17 50) 28 1) 29 0) 31 1) 30 1) 19 1) 20 1) 7 1)))]) ⟨hx, hb, hml, hown, hts⟩ (fun sz => k16_X9_playerAt l D cs sz ) (va_cwS 1 hts gX9_of_X9_playerAt rfl rfl rfl hdX9_playerAt_o ⟨Nat.le_of_ble_eq_true rfl, Nat.le_of_ble_eq_true rfl⟩) hN hP hD hS hA [] [0, 1] rfl rfl rfl rfl (by decide) rfl rfl hl.1 (Nat.le_of_ble_eq_true rfl) dX9_of_5 (Nat.le_of_ble_eq_true rfl) (Nat.le_of_ble_eq_true rfl) (fun u0 H locs hP hD hS => ?_)
  have hP : va_P D vwCl [(a0, .inr (9, [.int 0, .ref a2, .int 0, .int 0, .int 0, .int 0, .int 0, .int (-1), .ref a1, .ref a3, .ref a4, .ref a5, .int 0, .int 0, .int 0, .int 0, .int 0, .ref a6])), (a1, .inl (cs 0, 45783, .inl (upd (upd (upd (upd (upd (upd (upd (upd (upd (upd (upd (layF (fun _ => 0) 1) 6 1) 15 1) 16 1) 17 50) 28 1) 29 0) 31 1) 30 1) 19 1) 20 1) 7 1)))] H := hP
  have hD : va_D A [(a0, .inr (9, [.int 0, .ref a2, .int 0, .int 0, .int 0, .int 0, .int 0, .int (-1), .ref a1, .ref a3, .ref a4, .ref a5, .int 0, .int 0, .int 0, .int 0, .int 0, .ref a6])), (a1, .inl (cs 0, 45783, .inl (upd (upd (upd (upd (upd (upd (upd (upd (upd (upd (upd (layF (fun _ => 0) 1) 6 1) 15 1) 16 1) 17 50) 28 1) 29 0) 31 1) 30 1) 19 1) 20 1) 7 1)))] := hD
  refine W.widen (k := 0) (n := 0) (Nat.le_of_ble_eq_true rfl) (Nat.le_of_ble_eq_true rfl) ?_
  refine lv_iload_n hx hb dX9_of_8 rfl (lv_at hl 2 rfl) ?_
  refine lv_iadd hx hb dX9_of_9 ?_
  refine tp_i (29) (by decide) ?_
  refine ld_i (v := 0) hx hb hN hP 1 rfl (vin (by decide +kernel)) (by first | rfl | decide +kernel) dX9_of_10 ?_
  exact en_i (fun k => ([] : List Nat).getD k 0) hx hb hr hlocks rfl rfl hP hD hS (Nat.le_of_ble_eq_true rfl) (Nat.le_of_ble_eq_true rfl) dX9_of_11
set_option maxHeartbeats 4000000 in
set_option maxRecDepth 100000 in
theorem k397_X9_set (l : Launch) (D : va_G) (cs : Nat → ClassId) (sz : Nat) (a0 a1 a2 a3 a4 a5 a6 : Nat) : KV l yX9_set wsX9_set 1 20 0 0 D cs sz [.ref a0, .int 0, .int 5, .int 2] [(a0, .inr (9, [.int 0, .ref a2, .int 0, .int 0, .int 0, .int 0, .int 0, .int (-1), .ref a1, .ref a3, .ref a4, .ref a5, .int 0, .int 0, .int 0, .int 0, .int 0, .ref a6])), (a1, .inl (cs 0, 45783, .inl (upd (upd (upd (upd (upd (upd (upd (upd (upd (upd (upd (layF (fun _ => 0) 1) 6 1) 15 1) 16 1) 17 50) 28 1) 29 0) 31 1) 30 1) 19 1) 20 1) 7 1)))] (fun u => [(a0, .inr (9, [.int 0, .ref a2, .int 0, .int 0, .int 0, .int 0, .int 0, .int (-1), .ref a1, .ref a3, .ref a4, .ref a5, .int 0, .int 0, .int 0, .int 0, .int 0, .ref a6])), (a1, .inl (cs 0, 45783, .inl (upd (upd (upd (upd (upd (upd (upd (upd (upd (upd (upd (upd (layF (fun _ => 0) 1) 6 1) 15 1) 16 1) 17 50) 28 1) 29 0) 31 1) 30 1) 19 1) 20 1) 7 1) 28 2)))]) := by
  refine KV.of cX9_set 4 none (by decide) rfl (Nat.le_of_ble_eq_true rfl) ?_
  intro p e s m below meth c A ls hx hb hr hml hown hts hlocks hin hP hN hD hA hS hl
  have hown : s.vm.findClass RX9 = some m.cls := hown
  have hl : lv_has ls 4 [(0, .ref a0), (1, .int 0), (2, .int 5), (3, .int 2)] := hl
  refine lv_aload_n hx hb dX9_set_0 rfl (lv_at hl 0 rfl) ?_
  refine va_get (D := D) (ci := 9) (v := .ref a1) (C := RX9) (T := TX9) (N := 18) hx hb hts iX9_set_9 hown hN.1 hP 0 rfl rfl 8 (by decide) (hts _ mX9_set_1) (fun _ h9 => h9) rfl dX9_set_1 ?_
  refine lv_iload_n hx hb dX9_set_4 rfl (lv_at hl 1 rfl) ?_
  refine cs_i (As := [.int 0]) (rest := [.ref a1]) (wr := [(a0, .inr (9, [.int 0, .ref a2, .int 0, .int 0, .int 0, .int 0, .int 0, .int (-1), .ref a1, .ref a3, .ref a4, .ref a5, .int 0, .int 0, .int 0, .int 0, .int 0, .ref a6])), (a1, .inl (cs 0, 45783, .inl (upd (upd (upd (upd (upd (upd (upd (upd (upd (upd (upd (layF (fun _ => 0) 1) 6 1) 15 1) 16 1) 17 50) 28 1) 29 0) 31 1) 30 1) 19 1) 20 1) 7 1)))]) ⟨hx, hb, hml, hown, hts⟩ (fun sz => k16_X9_playerAt l D cs sz ) (va_cwS 1 hts gX9_set_X9_playerAt rfl rfl rfl hdX9_playerAt_o ⟨Nat.le_of_ble_eq_true rfl, Nat.le_of_ble_eq_true rfl⟩) hN hP hD hS hA [] [0, 1] rfl rfl rfl rfl (by decide) rfl rfl hl.1 (Nat.le_of_ble_eq_true rfl) dX9_set_5 (Nat.le_of_ble_eq_true rfl) (Nat.le_of_ble_eq_true rfl) (fun u0 H locs hP hD hS => ?_)
  have hP : va_P D vwCl [(a0, .inr (9, [.int 0, .ref a2, .int 0, .int 0, .int 0, .int 0, .int 0, .int (-1), .ref a1, .ref a3, .ref a4, .ref a5, .int 0, .int 0, .int 0, .int 0, .int 0, .ref a6])), (a1, .inl (cs 0, 45783, .inl (upd (upd (upd (upd (upd (upd (upd (upd (upd (upd (upd (layF (fun _ => 0) 1) 6 1) 15 1) 16 1) 17 50) 28 1) 29 0) 31 1) 30 1) 19 1) 20 1) 7 1)))] H := hP
  have hD : va_D A [(a0, .inr (9, [.int 0, .ref a2, .int 0, .int 0, .int 0, .int 0, .int 0, .int (-1), .ref a1, .ref a3, .ref a4, .ref a5, .int 0, .int 0, .int 0, .int 0, .int 0, .ref a6])), (a1, .inl (cs 0, 45783, .inl (upd (upd (upd (upd (upd (upd (upd (upd (upd (upd (upd (layF (fun _ => 0) 1) 6 1) 15 1) 16 1) 17 50) 28 1) 29 0) 31 1) 30 1) 19 1) 20 1) 7 1)))] := hD
  refine W.widen (k := 0) (n := 0) (Nat.le_of_ble_eq_true rfl) (Nat.le_of_ble_eq_true rfl) ?_
  refine lv_iload_n hx hb dX9_set_8 rfl (lv_at hl 2 rfl) ?_
  refine lv_iadd hx hb dX9_set_9 ?_
  refine tp_i (28) (by decide) ?_
  refine lv_iload_n hx hb dX9_set_10 rfl (lv_at hl 3 rfl) ?_
  refine st_i (g := (upd (upd (upd (upd (upd (upd (upd (upd (upd (upd (upd (upd (layF (fun _ => 0) 1) 6 1) 15 1) 16 1) 17 50) 28 1) 29 0) 31 1) 30 1) 19 1) 20 1) 7 1) 28 2)) hx hb hN hP hD hS 1 rfl (vin (by decide +kernel)) rfl dX9_set_11 (fun H locs hP hD hS => ?_)
  have hP : va_P D vwCl [(a0, .inr (9, [.int 0, .ref a2, .int 0, .int 0, .int 0, .int 0, .int 0, .int (-1), .ref a1, .ref a3, .ref a4, .ref a5, .int 0, .int 0, .int 0, .int 0, .int 0, .ref a6])), (a1, .inl (cs 0, 45783, .inl (upd (upd (upd (upd (upd (upd (upd (upd (upd (upd (upd (upd (layF (fun _ => 0) 1) 6 1) 15 1) 16 1) 17 50) 28 1) 29 0) 31 1) 30 1) 19 1) 20 1) 7 1) 28 2)))] H := hP
  have hD : va_D A [(a0, .inr (9, [.int 0, .ref a2, .int 0, .int 0, .int 0, .int 0, .int 0, .int (-1), .ref a1, .ref a3, .ref a4, .ref a5, .int 0, .int 0, .int 0, .int 0, .int 0, .ref a6])), (a1, .inl (cs 0, 45783, .inl (upd (upd (upd (upd (upd (upd (upd (upd (upd (upd (upd (upd (layF (fun _ => 0) 1) 6 1) 15 1) 16 1) 17 50) 28 1) 29 0) 31 1) 30 1) 19 1) 20 1) 7 1) 28 2)))] := hD
  exact en_v (fun k => ([] : List Nat).getD k 0) hx hb hr hlocks hP hD hS (Nat.le_of_ble_eq_true rfl) (Nat.le_of_ble_eq_true rfl) dX9_set_12
set_option maxHeartbeats 4000000 in
set_option maxRecDepth 100000 in
theorem k398_X9_set (l : Launch) (D : va_G) (cs : Nat → ClassId) (sz : Nat) (a0 a1 a2 a3 a4 a5 a6 : Nat) : KV l yX9_set wsX9_set 1 20 0 0 D cs sz [.ref a0, .int 0, .int 6, .int 0] [(a0, .inr (9, [.int 0, .ref a2, .int 0, .int 0, .int 0, .int 0, .int 0, .int (-1), .ref a1, .ref a3, .ref a4, .ref a5, .int 0, .int 0, .int 0, .int 0, .int 0, .ref a6])), (a1, .inl (cs 0, 45783, .inl (upd (upd (upd (upd (upd (upd (upd (upd (upd (upd (upd (upd (layF (fun _ => 0) 1) 6 1) 15 1) 16 1) 17 50) 28 1) 29 0) 31 1) 30 1) 19 1) 20 1) 7 1) 28 2)))] (fun u => [(a0, .inr (9, [.int 0, .ref a2, .int 0, .int 0, .int 0, .int 0, .int 0, .int (-1), .ref a1, .ref a3, .ref a4, .ref a5, .int 0, .int 0, .int 0, .int 0, .int 0, .ref a6])), (a1, .inl (cs 0, 45783, .inl (upd (upd (upd (upd (upd (upd (upd (upd (upd (upd (upd (upd (layF (fun _ => 0) 1) 6 1) 15 1) 16 1) 17 50) 28 1) 29 0) 31 1) 30 1) 19 1) 20 1) 7 1) 28 2)))]) := by
  refine KV.of cX9_set 4 none (by decide) rfl (Nat.le_of_ble_eq_true rfl) ?_
  intro p e s m below meth c A ls hx hb hr hml hown hts hlocks hin hP hN hD hA hS hl
  have hown : s.vm.findClass RX9 = some m.cls := hown
  have hl : lv_has ls 4 [(0, .ref a0), (1, .int 0), (2, .int 6), (3, .int 0)] := hl
  refine lv_aload_n hx hb dX9_set_0 rfl (lv_at hl 0 rfl) ?_
  refine va_get (D := D) (ci := 9) (v := .ref a1) (C := RX9) (T := TX9) (N := 18) hx hb hts iX9_set_9 hown hN.1 hP 0 rfl rfl 8 (by decide) (hts _ mX9_set_1) (fun _ h9 => h9) rfl dX9_set_1 ?_
  refine lv_iload_n hx hb dX9_set_4 rfl (lv_at hl 1 rfl) ?_
  refine cs_i (As := [.int 0]) (rest := [.ref a1]) (wr := [(a0, .inr (9, [.int 0, .ref a2, .int 0, .int 0, .int 0, .int 0, .int 0, .int (-1), .ref a1, .ref a3, .ref a4, .ref a5, .int 0, .int 0, .int 0, .int 0, .int 0, .ref a6])), (a1, .inl (cs 0, 45783, .inl (upd (upd (upd (upd (upd (upd (upd (upd (upd (upd (upd (upd (layF (fun _ => 0) 1) 6 1) 15 1) 16 1) 17 50) 28 1) 29 0) 31 1) 30 1) 19 1) 20 1) 7 1) 28 2)))]) ⟨hx, hb, hml, hown, hts⟩ (fun sz => k16_X9_playerAt l D cs sz ) (va_cwS 1 hts gX9_set_X9_playerAt rfl rfl rfl hdX9_playerAt_o ⟨Nat.le_of_ble_eq_true rfl, Nat.le_of_ble_eq_true rfl⟩) hN hP hD hS hA [] [0, 1] rfl rfl rfl rfl (by decide) rfl rfl hl.1 (Nat.le_of_ble_eq_true rfl) dX9_set_5 (Nat.le_of_ble_eq_true rfl) (Nat.le_of_ble_eq_true rfl) (fun u0 H locs hP hD hS => ?_)
  have hP : va_P D vwCl [(a0, .inr (9, [.int 0, .ref a2, .int 0, .int 0, .int 0, .int 0, .int 0, .int (-1), .ref a1, .ref a3, .ref a4, .ref a5, .int 0, .int 0, .int 0, .int 0, .int 0, .ref a6])), (a1, .inl (cs 0, 45783, .inl (upd (upd (upd (upd (upd (upd (upd (upd (upd (upd (upd (upd (layF (fun _ => 0) 1) 6 1) 15 1) 16 1) 17 50) 28 1) 29 0) 31 1) 30 1) 19 1) 20 1) 7 1) 28 2)))] H := hP
  have hD : va_D A [(a0, .inr (9, [.int 0, .ref a2, .int 0, .int 0, .int 0, .int 0, .int 0, .int (-1), .ref a1, .ref a3, .ref a4, .ref a5, .int 0, .int 0, .int 0, .int 0, .int 0, .ref a6])), (a1, .inl (cs 0, 45783, .inl (upd (upd (upd (upd (upd (upd (upd (upd (upd (upd (upd (upd (layF (fun _ => 0) 1) 6 1) 15 1) 16 1) 17 50) 28 1) 29 0) 31 1) 30 1) 19 1) 20 1) 7 1) 28 2)))] := hD
  refine W.widen (k := 0) (n := 0) (Nat.le_of_ble_eq_true rfl) (Nat.le_of_ble_eq_true rfl) ?_
  refine lv_iload_n hx hb dX9_set_8 rfl (lv_at hl 2 rfl) ?_
  refine lv_iadd hx hb dX9_set_9 ?_
  refine tp_i (29) (by decide) ?_
  refine lv_iload_n hx hb dX9_set_10 rfl (lv_at hl 3 rfl) ?_
  refine st_i (g := (upd (upd (upd (upd (upd (upd (upd (upd (upd (upd (upd (upd (layF (fun _ => 0) 1) 6 1) 15 1) 16 1) 17 50) 28 1) 29 0) 31 1) 30 1) 19 1) 20 1) 7 1) 28 2)) hx hb hN hP hD hS 1 rfl (vin (by decide +kernel)) (upd_id (by first | rfl | decide +kernel)) dX9_set_11 (fun H locs hP hD hS => ?_)
  have hP : va_P D vwCl [(a0, .inr (9, [.int 0, .ref a2, .int 0, .int 0, .int 0, .int 0, .int 0, .int (-1), .ref a1, .ref a3, .ref a4, .ref a5, .int 0, .int 0, .int 0, .int 0, .int 0, .ref a6])), (a1, .inl (cs 0, 45783, .inl (upd (upd (upd (upd (upd (upd (upd (upd (upd (upd (upd (upd (layF (fun _ => 0) 1) 6 1) 15 1) 16 1) 17 50) 28 1) 29 0) 31 1) 30 1) 19 1) 20 1) 7 1) 28 2)))] H := hP
  have hD : va_D A [(a0, .inr (9, [.int 0, .ref a2, .int 0, .int 0, .int 0, .int 0, .int 0, .int (-1), .ref a1, .ref a3, .ref a4, .ref a5, .int 0, .int 0, .int 0, .int 0, .int 0, .ref a6])), (a1, .inl (cs 0, 45783, .inl (upd (upd (upd (upd (upd (upd (upd (upd (upd (upd (upd (upd (layF (fun _ => 0) 1) 6 1) 15 1) 16 1) 17 50) 28 1) 29 0) 31 1) 30 1) 19 1) 20 1) 7 1) 28 2)))] := hD
  exact en_v (fun k => ([] : List Nat).getD k 0) hx hb hr hlocks hP hD hS (Nat.le_of_ble_eq_true rfl) (Nat.le_of_ble_eq_true rfl) dX9_set_12
set_option maxHeartbeats 4000000 in
set_option maxRecDepth 100000 in
theorem k399_X9_set (l : Launch) (D : va_G) (cs : Nat → ClassId) (sz : Nat) (a0 a1 a2 a3 a4 a5 a6 : Nat) : KV l yX9_set wsX9_set 1 20 0 0 D cs sz [.ref a0, .int 0, .int 8, .int 1] [(a0, .inr (9, [.int 0, .ref a2, .int 0, .int 0, .int 0, .int 0, .int 0, .int (-1), .ref a1, .ref a3, .ref a4, .ref a5, .int 0, .int 0, .int 0, .int 0, .int 0, .ref a6])), (a1, .inl (cs 0, 45783, .inl (upd (upd (upd (upd (upd (upd (upd (upd (upd (upd (upd (upd (layF (fun _ => 0) 1) 6 1) 15 1) 16 1) 17 50) 28 1) 29 0) 31 1) 30 1) 19 1) 20 1) 7 1) 28 2)))] (fun u => [(a0, .inr (9, [.int 0, .ref a2, .int 0, .int 0, .int 0, .int 0, .int 0, .int (-1), .ref a1, .ref a3, .ref a4, .ref a5, .int 0, .int 0, .int 0, .int 0, .int 0, .ref a6])), (a1, .inl (cs 0, 45783, .inl (upd (upd (upd (upd (upd (upd (upd (upd (upd (upd (upd (upd (layF (fun _ => 0) 1) 6 1) 15 1) 16 1) 17 50) 28 1) 29 0) 31 1) 30 1) 19 1) 20 1) 7 1) 28 2)))]) := by
  refine KV.of cX9_set 4 none (by decide) rfl (Nat.le_of_ble_eq_true rfl) ?_
  intro p e s m below meth c A ls hx hb hr hml hown hts hlocks hin hP hN hD hA hS hl
  have hown : s.vm.findClass RX9 = some m.cls := hown
  have hl : lv_has ls 4 [(0, .ref a0), (1, .int 0), (2, .int 8), (3, .int 1)] := hl
  refine lv_aload_n hx hb dX9_set_0 rfl (lv_at hl 0 rfl) ?_
  refine va_get (D := D) (ci := 9) (v := .ref a1) (C := RX9) (T := TX9) (N := 18) hx hb hts iX9_set_9 hown hN.1 hP 0 rfl rfl 8 (by decide) (hts _ mX9_set_1) (fun _ h9 => h9) rfl dX9_set_1 ?_
  refine lv_iload_n hx hb dX9_set_4 rfl (lv_at hl 1 rfl) ?_
  refine cs_i (As := [.int 0]) (rest := [.ref a1]) (wr := [(a0, .inr (9, [.int 0, .ref a2, .int 0, .int 0, .int 0, .int 0, .int 0, .int (-1), .ref a1, .ref a3, .ref a4, .ref a5, .int 0, .int 0, .int 0, .int 0, .int 0, .ref a6])), (a1, .inl (cs 0, 45783, .inl (upd (upd (upd (upd (upd (upd (upd (upd (upd (upd (upd (upd (layF (fun _ => 0) 1) 6 1) 15 1) 16 1) 17 50) 28 1) 29 0) 31 1) 30 1) 19 1) 20 1) 7 1) 28 2)))]) ⟨hx, hb, hml, hown, hts⟩ (fun sz => k16_X9_playerAt l D cs sz ) (va_cwS 1 hts gX9_set_X9_playerAt rfl rfl rfl hdX9_playerAt_o ⟨Nat.le_of_ble_eq_true rfl, Nat.le_of_ble_eq_true rfl⟩) hN hP hD hS hA [] [0, 1] rfl rfl rfl rfl (by decide) rfl rfl hl.1 (Nat.le_of_ble_eq_true rfl) dX9_set_5 (Nat.le_of_ble_eq_true rfl) (Nat.le_of_ble_eq_true rfl) (fun u0 H locs hP hD hS => ?_)
  have hP : va_P D vwCl [(a0, .inr (9, [.int 0, .ref a2, .int 0, .int 0, .int 0, .int 0, .int 0, .int (-1), .ref a1, .ref a3, .ref a4, .ref a5, .int 0, .int 0, .int 0, .int 0, .int 0, .ref a6])), (a1, .inl (cs 0, 45783, .inl (upd (upd (upd (upd (upd (upd (upd (upd (upd (upd (upd (upd (layF (fun _ => 0) 1) 6 1) 15 1) 16 1) 17 50) 28 1) 29 0) 31 1) 30 1) 19 1) 20 1) 7 1) 28 2)))] H := hP
  have hD : va_D A [(a0, .inr (9, [.int 0, .ref a2, .int 0, .int 0, .int 0, .int 0, .int 0, .int (-1), .ref a1, .ref a3, .ref a4, .ref a5, .int 0, .int 0, .int 0, .int 0, .int 0, .ref a6])), (a1, .inl (cs 0, 45783, .inl (upd (upd (upd (upd (upd (upd (upd (upd (upd (upd (upd (upd (layF (fun _ => 0) 1) 6 1) 15 1) 16 1) 17 50) 28 1) 29 0) 31 1) 30 1) 19 1) 20 1) 7 1) 28 2)))] := hD
  refine W.widen (k := 0) (n := 0) (Nat.le_of_ble_eq_true rfl) (Nat.le_of_ble_eq_true rfl) ?_
  refine lv_iload_n hx hb dX9_set_8 rfl (lv_at hl 2 rfl) ?_
  refine lv_iadd hx hb dX9_set_9 ?_
  refine tp_i (31) (by decide) ?_
  refine lv_iload_n hx hb dX9_set_10 rfl (lv_at hl 3 rfl) ?_
  refine st_i (g := (upd (upd (upd (upd (upd (upd (upd (upd (upd (upd (upd (upd (layF (fun _ => 0) 1) 6 1) 15 1) 16 1) 17 50) 28 1) 29 0) 31 1) 30 1) 19 1) 20 1) 7 1) 28 2)) hx hb hN hP hD hS 1 rfl (vin (by decide +kernel)) (upd_id (by first | rfl | decide +kernel)) dX9_set_11 (fun H locs hP hD hS => ?_)
  have hP : va_P D vwCl [(a0, .inr (9, [.int 0, .ref a2, .int 0, .int 0, .int 0, .int 0, .int 0, .int (-1), .ref a1, .ref a3, .ref a4, .ref a5, .int 0, .int 0, .int 0, .int 0, .int 0, .ref a6])), (a1, .inl (cs 0, 45783, .inl (upd (upd (upd (upd (upd (upd (upd (upd (upd (upd (upd (upd (layF (fun _ => 0) 1) 6 1) 15 1) 16 1) 17 50) 28 1) 29 0) 31 1) 30 1) 19 1) 20 1) 7 1) 28 2)))] H := hP
  have hD : va_D A [(a0, .inr (9, [.int 0, .ref a2, .int 0, .int 0, .int 0, .int 0, .int 0, .int (-1), .ref a1, .ref a3, .ref a4, .ref a5, .int 0, .int 0, .int 0, .int 0, .int 0, .ref a6])), (a1, .inl (cs 0, 45783, .inl (upd (upd (upd (upd (upd (upd (upd (upd (upd (upd (upd (upd (layF (fun _ => 0) 1) 6 1) 15 1) 16 1) 17 50) 28 1) 29 0) 31 1) 30 1) 19 1) 20 1) 7 1) 28 2)))] := hD
  exact en_v (fun k => ([] : List Nat).getD k 0) hx hb hr hlocks hP hD hS (Nat.le_of_ble_eq_true rfl) (Nat.le_of_ble_eq_true rfl) dX9_set_12
set_option maxHeartbeats 4000000 in
set_option maxRecDepth 100000 in
theorem k400_X9_set (l : Launch) (D : va_G) (cs : Nat → ClassId) (sz : Nat) (a0 a1 a2 a3 a4 a5 a6 : Nat) : KV l yX9_set wsX9_set 1 20 0 0 D cs sz [.ref a0, .int 0, .int 7, .int 1] [(a0, .inr (9, [.int 0, .ref a2, .int 0, .int 0, .int 0, .int 0, .int 0, .int (-1), .ref a1, .ref a3, .ref a4, .ref a5, .int 0, .int 0, .int 0, .int 0, .int 0, .ref a6])), (a1, .inl (cs 0, 45783, .inl (upd (upd (upd (upd (upd (upd (upd (upd (upd (upd (upd (upd (layF (fun _ => 0) 1) 6 1) 15 1) 16 1) 17 50) 28 1) 29 0) 31 1) 30 1) 19 1) 20 1) 7 1) 28 2)))] (fun u => [(a0, .inr (9, [.int 0, .ref a2, .int 0, .int 0, .int 0, .int 0, .int 0, .int (-1), .ref a1, .ref a3, .ref a4, .ref a5, .int 0, .int 0, .int 0, .int 0, .int 0, .ref a6])), (a1, .inl (cs 0, 45783, .inl (upd (upd (upd (upd (upd (upd (upd (upd (upd (upd (upd (upd (layF (fun _ => 0) 1) 6 1) 15 1) 16 1) 17 50) 28 1) 29 0) 31 1) 30 1) 19 1) 20 1) 7 1) 28 2)))]) := by
  refine KV.of cX9_set 4 none (by decide) rfl (Nat.le_of_ble_eq_true rfl) ?_
  intro p e s m below meth c A ls hx hb hr hml hown hts hlocks hin hP hN hD hA hS hl
  have hown : s.vm.findClass RX9 = some m.cls := hown
  have hl : lv_has ls 4 [(0, .ref a0), (1, .int 0), (2, .int 7), (3, .int 1)] := hl
  refine lv_aload_n hx hb dX9_set_0 rfl (lv_at hl 0 rfl) ?_
  refine va_get (D := D) (ci := 9) (v := .ref a1) (C := RX9) (T := TX9) (N := 18) hx hb hts iX9_set_9 hown hN.1 hP 0 rfl rfl 8 (by decide) (hts _ mX9_set_1) (fun _ h9 => h9) rfl dX9_set_1 ?_
  refine lv_iload_n hx hb dX9_set_4 rfl (lv_at hl 1 rfl) ?_
  refine cs_i (As := [.int 0]) (rest := [.ref a1]) (wr := [(a0, .inr (9, [.int 0, .ref a2, .int 0, .int 0, .int 0, .int 0, .int 0, .int (-1), .ref a1, .ref a3, .ref a4, .ref a5, .int 0, .int 0, .int 0, .int 0, .int 0, .ref a6])), (a1, .inl (cs 0, 45783, .inl (upd (upd (upd (upd (upd (upd (upd (upd (upd (upd (upd (upd (layF (fun _ => 0) 1) 6 1) 15 1) 16 1) 17 50) 28 1) 29 0) 31 1) 30 1) 19 1) 20 1) 7 1) 28 2)))]) ⟨hx, hb, hml, hown, hts⟩ (fun sz => k16_X9_playerAt l D cs sz ) (va_cwS 1 hts gX9_set_X9_playerAt rfl rfl rfl hdX9_playerAt_o ⟨Nat.le_of_ble_eq_true rfl, Nat.le_of_ble_eq_true rfl⟩) hN hP hD hS hA [] [0, 1] rfl rfl rfl rfl (by decide) rfl rfl hl.1 (Nat.le_of_ble_eq_true rfl) dX9_set_5 (Nat.le_of_ble_eq_true rfl) (Nat.le_of_ble_eq_true rfl) (fun u0 H locs hP hD hS => ?_)
  have hP : va_P D vwCl [(a0, .inr (9, [.int 0, .ref a2, .int 0, .int 0, .int 0, .int 0, .int 0, .int (-1), .ref a1, .ref a3, .ref a4, .ref a5, .int 0, .int 0, .int 0, .int 0, .int 0, .ref a6])), (a1, .inl (cs 0, 45783, .inl (upd (upd (upd (upd (upd (upd (upd (upd (upd (upd (upd (upd (layF (fun _ => 0) 1) 6 1) 15 1) 16 1) 17 50) 28 1) 29 0) 31 1) 30 1) 19 1) 20 1) 7 1) 28 2)))] H := hP
  have hD : va_D A [(a0, .inr (9, [.int 0, .ref a2, .int 0, .int 0, .int 0, .int 0, .int 0, .int (-1), .ref a1, .ref a3, .ref a4, .ref a5, .int 0, .int 0, .int 0, .int 0, .int 0, .ref a6])), (a1, .inl (cs 0, 45783, .inl (upd (upd (upd (upd (upd (upd (upd (upd (upd (upd (upd (upd (layF (fun _ => 0) 1) 6 1) 15 1) 16 1) 17 50) 28 1) 29 0) 31 1) 30 1) 19 1) 20 1) 7 1) 28 2)))] := hD
  refine W.widen (k := 0) (n := 0) (Nat.le_of_ble_eq_true rfl) (Nat.le_of_ble_eq_true rfl) ?_
  refine lv_iload_n hx hb dX9_set_8 rfl (lv_at hl 2 rfl) ?_
  refine lv_iadd hx hb dX9_set_9 ?_
  refine tp_i (30) (by decide) ?_
  refine lv_iload_n hx hb dX9_set_10 rfl (lv_at hl 3 rfl) ?_
  refine st_i (g := (upd (upd (upd (upd (upd (upd (upd (upd (upd (upd (upd (upd (layF (fun _ => 0) 1) 6 1) 15 1) 16 1) 17 50) 28 1) 29 0) 31 1) 30 1) 19 1) 20 1) 7 1) 28 2)) hx hb hN hP hD hS 1 rfl (vin (by decide +kernel)) (upd_id (by first | rfl | decide +kernel)) dX9_set_11 (fun H locs hP hD hS => ?_)
  have hP : va_P D vwCl [(a0, .inr (9, [.int 0, .ref a2, .int 0, .int 0, .int 0, .int 0, .int 0, .int (-1), .ref a1, .ref a3, .ref a4, .ref a5, .int 0, .int 0, .int 0, .int 0, .int 0, .ref a6])), (a1, .inl (cs 0, 45783, .inl (upd (upd (upd (upd (upd (upd (upd (upd (upd (upd (upd (upd (layF (fun _ => 0) 1) 6 1) 15 1) 16 1) 17 50) 28 1) 29 0) 31 1) 30 1) 19 1) 20 1) 7 1) 28 2)))] H := hP
  have hD : va_D A [(a0, .inr (9, [.int 0, .ref a2, .int 0, .int 0, .int 0, .int 0, .int 0, .int (-1), .ref a1, .ref a3, .ref a4, .ref a5, .int 0, .int 0, .int 0, .int 0, .int 0, .ref a6])), (a1, .inl (cs 0, 45783, .inl (upd (upd (upd (upd (upd (upd (upd (upd (upd (upd (upd (upd (layF (fun _ => 0) 1) 6 1) 15 1) 16 1) 17 50) 28 1) 29 0) 31 1) 30 1) 19 1) 20 1) 7 1) 28 2)))] := hD
  exact en_v (fun k => ([] : List Nat).getD k 0) hx hb hr hlocks hP hD hS (Nat.le_of_ble_eq_true rfl) (Nat.le_of_ble_eq_true rfl) dX9_set_12
set_option maxHeartbeats 4000000 in
set_option maxRecDepth 100000 in
theorem k401_X9_plan (l : Launch) (D : va_G) (cs : Nat → ClassId) (sz : Nat) (a0 a1 a2 a3 a4 a5 a6 : Nat) : KV l yX9_plan wsX9_plan 2 43 0 0 D cs sz [.ref a0, .int 0, .int 2, .int 0, .int 1, .int 1] [(a0, .inr (9, [.int 0, .ref a2, .int 0, .int 0, .int 0, .int 0, .int 0, .int (-1), .ref a1, .ref a3, .ref a4, .ref a5, .int 0, .int 0, .int 0, .int 0, .int 0, .ref a6])), (a1, .inl (cs 0, 45783, .inl (upd (upd (upd (upd (upd (upd (upd (upd (upd (upd (upd (layF (fun _ => 0) 1) 6 1) 15 1) 16 1) 17 50) 28 1) 29 0) 31 1) 30 1) 19 1) 20 1) 7 1)))] (fun u => [(a0, .inr (9, [.int 0, .ref a2, .int 0, .int 0, .int 0, .int 0, .int 0, .int (-1), .ref a1, .ref a3, .ref a4, .ref a5, .int 0, .int 0, .int 0, .int 0, .int 0, .ref a6])), (a1, .inl (cs 0, 45783, .inl (upd (upd (upd (upd (upd (upd (upd (upd (upd (upd (upd (upd (layF (fun _ => 0) 1) 6 1) 15 1) 16 1) 17 50) 28 1) 29 0) 31 1) 30 1) 19 1) 20 1) 7 1) 28 2)))]) := by
  refine KV.of cX9_plan 6 none (by decide) rfl (Nat.le_of_ble_eq_true rfl) ?_
  intro p e s m below meth c A ls hx hb hr hml hown hts hlocks hin hP hN hD hA hS hl
  have hown : s.vm.findClass RX9 = some m.cls := hown
  have hl : lv_has ls 6 [(0, .ref a0), (1, .int 0), (2, .int 2), (3, .int 0), (4, .int 1), (5, .int 1)] := hl
  refine lv_aload_n hx hb dX9_plan_0 rfl (lv_at hl 0 rfl) ?_
  refine lv_iload_n hx hb dX9_plan_1 rfl (lv_at hl 1 rfl) ?_
  refine lv_iconst (v := 5) hx hb dX9_plan_2 (by decide) ?_
  refine cv_i (As := [.int 0, .int 5]) (rest := []) (b := a0) (wr := []) ⟨hx, hb, hml, hown, hts⟩ (fun sz => k395_X9_of l D cs sz a0 a1 a2 a3 a4 a5 a6) (cwV 2 hts gX9_plan_X9_of rfl rfl rfl hdX9_of_v ⟨Nat.le_of_ble_eq_true rfl, Nat.le_of_ble_eq_true rfl⟩) hN hP hD hS hA [0, 1] [] rfl rfl rfl rfl (by decide) (ci := 9) (q0 := 0) rfl rfl rfl rfl hl.1 (Nat.le_of_ble_eq_true rfl) dX9_plan_3 (Nat.le_of_ble_eq_true rfl) (Nat.le_of_ble_eq_true rfl) (fun u0 H locs hP hD hS => ?_)
  have hP : va_P D vwCl [(a0, .inr (9, [.int 0, .ref a2, .int 0, .int 0, .int 0, .int 0, .int 0, .int (-1), .ref a1, .ref a3, .ref a4, .ref a5, .int 0, .int 0, .int 0, .int 0, .int 0, .ref a6])), (a1, .inl (cs 0, 45783, .inl (upd (upd (upd (upd (upd (upd (upd (upd (upd (upd (upd (layF (fun _ => 0) 1) 6 1) 15 1) 16 1) 17 50) 28 1) 29 0) 31 1) 30 1) 19 1) 20 1) 7 1)))] H := hP
  have hD : va_D A [(a0, .inr (9, [.int 0, .ref a2, .int 0, .int 0, .int 0, .int 0, .int 0, .int (-1), .ref a1, .ref a3, .ref a4, .ref a5, .int 0, .int 0, .int 0, .int 0, .int 0, .ref a6])), (a1, .inl (cs 0, 45783, .inl (upd (upd (upd (upd (upd (upd (upd (upd (upd (upd (upd (layF (fun _ => 0) 1) 6 1) 15 1) 16 1) 17 50) 28 1) 29 0) 31 1) 30 1) 19 1) 20 1) 7 1)))] := hD
  refine W.widen (k := 0) (n := 0) (Nat.le_of_ble_eq_true rfl) (Nat.le_of_ble_eq_true rfl) ?_
  refine lv_if_eq (tgt := 21) hx hb dX9_plan_6 (by decide) (fun c9 => absurd c9 (by decide)) (fun _ => ?_)
  refine lv_aload_n hx hb dX9_plan_9 rfl (lv_at hl 0 rfl) ?_
  refine lv_iload_n hx hb dX9_plan_10 rfl (lv_at hl 1 rfl) ?_
  refine lv_bipush (v := 6) hx hb dX9_plan_11 (by decide) ?_
  refine cv_i (As := [.int 0, .int 6]) (rest := []) (b := a0) (wr := []) ⟨hx, hb, hml, hown, hts⟩ (fun sz => k396_X9_of l D cs sz a0 a1 a2 a3 a4 a5 a6) (cwV 2 hts gX9_plan_X9_of rfl rfl rfl hdX9_of_v ⟨Nat.le_of_ble_eq_true rfl, Nat.le_of_ble_eq_true rfl⟩) hN hP hD hS hA [0, 1] [] rfl rfl rfl rfl (by decide) (ci := 9) (q0 := 0) rfl rfl rfl rfl hl.1 (Nat.le_of_ble_eq_true rfl) dX9_plan_13 (Nat.le_of_ble_eq_true rfl) (Nat.le_of_ble_eq_true rfl) (fun u1 H locs hP hD hS => ?_)
  have hP : va_P D vwCl [(a0, .inr (9, [.int 0, .ref a2, .int 0, .int 0, .int 0, .int 0, .int 0, .int (-1), .ref a1, .ref a3, .ref a4, .ref a5, .int 0, .int 0, .int 0, .int 0, .int 0, .ref a6])), (a1, .inl (cs 0, 45783, .inl (upd (upd (upd (upd (upd (upd (upd (upd (upd (upd (upd (layF (fun _ => 0) 1) 6 1) 15 1) 16 1) 17 50) 28 1) 29 0) 31 1) 30 1) 19 1) 20 1) 7 1)))] H := hP
  have hD : va_D A [(a0, .inr (9, [.int 0, .ref a2, .int 0, .int 0, .int 0, .int 0, .int 0, .int (-1), .ref a1, .ref a3, .ref a4, .ref a5, .int 0, .int 0, .int 0, .int 0, .int 0, .ref a6])), (a1, .inl (cs 0, 45783, .inl (upd (upd (upd (upd (upd (upd (upd (upd (upd (upd (upd (layF (fun _ => 0) 1) 6 1) 15 1) 16 1) 17 50) 28 1) 29 0) 31 1) 30 1) 19 1) 20 1) 7 1)))] := hD
  refine W.widen (k := 0) (n := 0) (Nat.le_of_ble_eq_true rfl) (Nat.le_of_ble_eq_true rfl) ?_
  refine lv_iload_n hx hb dX9_plan_16 rfl (lv_at hl 3 rfl) ?_
  refine lv_icmp_le (tgt := 21) hx hb dX9_plan_17 (by decide) (fun _ => ?_) (fun c9 => absurd (by decide) c9)
  refine lv_aload_n hx hb dX9_plan_21 rfl (lv_at hl 0 rfl) ?_
  refine lv_iload_n hx hb dX9_plan_22 rfl (lv_at hl 1 rfl) ?_
  refine lv_iconst (v := 5) hx hb dX9_plan_23 (by decide) ?_
  refine lv_iload_n hx hb dX9_plan_24 rfl (lv_at hl 2 rfl) ?_
  refine cv_v (As := [.int 0, .int 5, .int 2]) (rest := []) (b := a0) (wr := []) ⟨hx, hb, hml, hown, hts⟩ (fun sz => k397_X9_set l D cs sz a0 a1 a2 a3 a4 a5 a6) (cwV 3 hts gX9_plan_X9_set rfl rfl rfl hdX9_set_v ⟨Nat.le_of_ble_eq_true rfl, Nat.le_of_ble_eq_true rfl⟩) hN hP hD hS hA [0, 1] [] rfl rfl rfl rfl (by decide) (ci := 9) (q0 := 0) rfl rfl rfl rfl hl.1 (Nat.le_of_ble_eq_true rfl) dX9_plan_25 (Nat.le_of_ble_eq_true rfl) (Nat.le_of_ble_eq_true rfl) (fun u2 H locs hP hD hS => ?_)
  have hP : va_P D vwCl [(a0, .inr (9, [.int 0, .ref a2, .int 0, .int 0, .int 0, .int 0, .int 0, .int (-1), .ref a1, .ref a3, .ref a4, .ref a5, .int 0, .int 0, .int 0, .int 0, .int 0, .ref a6])), (a1, .inl (cs 0, 45783, .inl (upd (upd (upd (upd (upd (upd (upd (upd (upd (upd (upd (upd (layF (fun _ => 0) 1) 6 1) 15 1) 16 1) 17 50) 28 1) 29 0) 31 1) 30 1) 19 1) 20 1) 7 1) 28 2)))] H := hP
  have hD : va_D A [(a0, .inr (9, [.int 0, .ref a2, .int 0, .int 0, .int 0, .int 0, .int 0, .int (-1), .ref a1, .ref a3, .ref a4, .ref a5, .int 0, .int 0, .int 0, .int 0, .int 0, .ref a6])), (a1, .inl (cs 0, 45783, .inl (upd (upd (upd (upd (upd (upd (upd (upd (upd (upd (upd (upd (layF (fun _ => 0) 1) 6 1) 15 1) 16 1) 17 50) 28 1) 29 0) 31 1) 30 1) 19 1) 20 1) 7 1) 28 2)))] := hD
  refine W.widen (k := 0) (n := 0) (Nat.le_of_ble_eq_true rfl) (Nat.le_of_ble_eq_true rfl) ?_
  refine lv_aload_n hx hb dX9_plan_28 rfl (lv_at hl 0 rfl) ?_
  refine lv_iload_n hx hb dX9_plan_29 rfl (lv_at hl 1 rfl) ?_
  refine lv_bipush (v := 6) hx hb dX9_plan_30 (by decide) ?_
  refine lv_iload_n hx hb dX9_plan_32 rfl (lv_at hl 3 rfl) ?_
  refine cv_v (As := [.int 0, .int 6, .int 0]) (rest := []) (b := a0) (wr := []) ⟨hx, hb, hml, hown, hts⟩ (fun sz => k398_X9_set l D cs sz a0 a1 a2 a3 a4 a5 a6) (cwV 3 hts gX9_plan_X9_set rfl rfl rfl hdX9_set_v ⟨Nat.le_of_ble_eq_true rfl, Nat.le_of_ble_eq_true rfl⟩) hN hP hD hS hA [0, 1] [] rfl rfl rfl rfl (by decide) (ci := 9) (q0 := 0) rfl rfl rfl rfl hl.1 (Nat.le_of_ble_eq_true rfl) dX9_plan_33 (Nat.le_of_ble_eq_true rfl) (Nat.le_of_ble_eq_true rfl) (fun u3 H locs hP hD hS => ?_)
  have hP : va_P D vwCl [(a0, .inr (9, [.int 0, .ref a2, .int 0, .int 0, .int 0, .int 0, .int 0, .int (-1), .ref a1, .ref a3, .ref a4, .ref a5, .int 0, .int 0, .int 0, .int 0, .int 0, .ref a6])), (a1, .inl (cs 0, 45783, .inl (upd (upd (upd (upd (upd (upd (upd (upd (upd (upd (upd (upd (layF (fun _ => 0) 1) 6 1) 15 1) 16 1) 17 50) 28 1) 29 0) 31 1) 30 1) 19 1) 20 1) 7 1) 28 2)))] H := hP
  have hD : va_D A [(a0, .inr (9, [.int 0, .ref a2, .int 0, .int 0, .int 0, .int 0, .int 0, .int (-1), .ref a1, .ref a3, .ref a4, .ref a5, .int 0, .int 0, .int 0, .int 0, .int 0, .ref a6])), (a1, .inl (cs 0, 45783, .inl (upd (upd (upd (upd (upd (upd (upd (upd (upd (upd (upd (upd (layF (fun _ => 0) 1) 6 1) 15 1) 16 1) 17 50) 28 1) 29 0) 31 1) 30 1) 19 1) 20 1) 7 1) 28 2)))] := hD
  refine W.widen (k := 0) (n := 0) (Nat.le_of_ble_eq_true rfl) (Nat.le_of_ble_eq_true rfl) ?_
  refine lv_aload_n hx hb dX9_plan_36 rfl (lv_at hl 0 rfl) ?_
  refine lv_iload_n hx hb dX9_plan_37 rfl (lv_at hl 1 rfl) ?_
  refine lv_bipush (v := 8) hx hb dX9_plan_38 (by decide) ?_
  refine lv_iload hx hb dX9_plan_40 (lv_at hl 4 rfl) ?_
  refine cv_v (As := [.int 0, .int 8, .int 1]) (rest := []) (b := a0) (wr := []) ⟨hx, hb, hml, hown, hts⟩ (fun sz => k399_X9_set l D cs sz a0 a1 a2 a3 a4 a5 a6) (cwV 3 hts gX9_plan_X9_set rfl rfl rfl hdX9_set_v ⟨Nat.le_of_ble_eq_true rfl, Nat.le_of_ble_eq_true rfl⟩) hN hP hD hS hA [0, 1] [] rfl rfl rfl rfl (by decide) (ci := 9) (q0 := 0) rfl rfl rfl rfl hl.1 (Nat.le_of_ble_eq_true rfl) dX9_plan_42 (Nat.le_of_ble_eq_true rfl) (Nat.le_of_ble_eq_true rfl) (fun u4 H locs hP hD hS => ?_)
  have hP : va_P D vwCl [(a0, .inr (9, [.int 0, .ref a2, .int 0, .int 0, .int 0, .int 0, .int 0, .int (-1), .ref a1, .ref a3, .ref a4, .ref a5, .int 0, .int 0, .int 0, .int 0, .int 0, .ref a6])), (a1, .inl (cs 0, 45783, .inl (upd (upd (upd (upd (upd (upd (upd (upd (upd (upd (upd (upd (layF (fun _ => 0) 1) 6 1) 15 1) 16 1) 17 50) 28 1) 29 0) 31 1) 30 1) 19 1) 20 1) 7 1) 28 2)))] H := hP
  have hD : va_D A [(a0, .inr (9, [.int 0, .ref a2, .int 0, .int 0, .int 0, .int 0, .int 0, .int (-1), .ref a1, .ref a3, .ref a4, .ref a5, .int 0, .int 0, .int 0, .int 0, .int 0, .ref a6])), (a1, .inl (cs 0, 45783, .inl (upd (upd (upd (upd (upd (upd (upd (upd (upd (upd (upd (upd (layF (fun _ => 0) 1) 6 1) 15 1) 16 1) 17 50) 28 1) 29 0) 31 1) 30 1) 19 1) 20 1) 7 1) 28 2)))] := hD
  refine W.widen (k := 0) (n := 0) (Nat.le_of_ble_eq_true rfl) (Nat.le_of_ble_eq_true rfl) ?_
  refine lv_aload_n hx hb dX9_plan_45 rfl (lv_at hl 0 rfl) ?_
  refine lv_iload_n hx hb dX9_plan_46 rfl (lv_at hl 1 rfl) ?_
  refine lv_bipush (v := 7) hx hb dX9_plan_47 (by decide) ?_
  refine lv_iload hx hb dX9_plan_49 (lv_at hl 5 rfl) ?_
  refine cv_v (As := [.int 0, .int 7, .int 1]) (rest := []) (b := a0) (wr := []) ⟨hx, hb, hml, hown, hts⟩ (fun sz => k400_X9_set l D cs sz a0 a1 a2 a3 a4 a5 a6) (cwV 3 hts gX9_plan_X9_set rfl rfl rfl hdX9_set_v ⟨Nat.le_of_ble_eq_true rfl, Nat.le_of_ble_eq_true rfl⟩) hN hP hD hS hA [0, 1] [] rfl rfl rfl rfl (by decide) (ci := 9) (q0 := 0) rfl rfl rfl rfl hl.1 (Nat.le_of_ble_eq_true rfl) dX9_plan_51 (Nat.le_of_ble_eq_true rfl) (Nat.le_of_ble_eq_true rfl) (fun u5 H locs hP hD hS => ?_)
  have hP : va_P D vwCl [(a0, .inr (9, [.int 0, .ref a2, .int 0, .int 0, .int 0, .int 0, .int 0, .int (-1), .ref a1, .ref a3, .ref a4, .ref a5, .int 0, .int 0, .int 0, .int 0, .int 0, .ref a6])), (a1, .inl (cs 0, 45783, .inl (upd (upd (upd (upd (upd (upd (upd (upd (upd (upd (upd (upd (layF (fun _ => 0) 1) 6 1) 15 1) 16 1) 17 50) 28 1) 29 0) 31 1) 30 1) 19 1) 20 1) 7 1) 28 2)))] H := hP
  have hD : va_D A [(a0, .inr (9, [.int 0, .ref a2, .int 0, .int 0, .int 0, .int 0, .int 0, .int (-1), .ref a1, .ref a3, .ref a4, .ref a5, .int 0, .int 0, .int 0, .int 0, .int 0, .ref a6])), (a1, .inl (cs 0, 45783, .inl (upd (upd (upd (upd (upd (upd (upd (upd (upd (upd (upd (upd (layF (fun _ => 0) 1) 6 1) 15 1) 16 1) 17 50) 28 1) 29 0) 31 1) 30 1) 19 1) 20 1) 7 1) 28 2)))] := hD
  refine W.widen (k := 0) (n := 0) (Nat.le_of_ble_eq_true rfl) (Nat.le_of_ble_eq_true rfl) ?_
  exact en_v (fun k => ([] : List Nat).getD k 0) hx hb hr hlocks hP hD hS (Nat.le_of_ble_eq_true rfl) (Nat.le_of_ble_eq_true rfl) dX9_plan_54
set_option maxHeartbeats 4000000 in
set_option maxRecDepth 100000 in
theorem k402_X9_sendToOthers (l : Launch) (D : va_G) (cs : Nat → ClassId) (sz : Nat) (a0 a1 a2 a3 a4 a5 a6 : Nat) : KV l yX9_sendToOthers wsX9_sendToOthers 0 0 0 0 D cs sz [.ref a0, .int 4, .int 0, .int 0, .int 1, .int 1] [(a0, .inr (9, [.int 0, .ref a2, .int 0, .int 0, .int 0, .int 0, .int 0, .int (-1), .ref a1, .ref a3, .ref a4, .ref a5, .int 0, .int 0, .int 0, .int 0, .int 0, .ref a6])), (a1, .inl (cs 0, 45783, .inl (upd (upd (upd (upd (upd (upd (upd (upd (upd (upd (upd (upd (layF (fun _ => 0) 1) 6 1) 15 1) 16 1) 17 50) 28 1) 29 0) 31 1) 30 1) 19 1) 20 1) 7 1) 28 2)))] (fun u => [(a0, .inr (9, [.int 0, .ref a2, .int 0, .int 0, .int 0, .int 0, .int 0, .int (-1), .ref a1, .ref a3, .ref a4, .ref a5, .int 0, .int 0, .int 0, .int 0, .int 0, .ref a6])), (a1, .inl (cs 0, 45783, .inl (upd (upd (upd (upd (upd (upd (upd (upd (upd (upd (upd (upd (layF (fun _ => 0) 1) 6 1) 15 1) 16 1) 17 50) 28 1) 29 0) 31 1) 30 1) 19 1) 20 1) 7 1) 28 2)))]) := by
  refine KV.of cX9_sendToOthers 7 none (by decide) rfl (Nat.le_of_ble_eq_true rfl) ?_
  intro p e s m below meth c A ls hx hb hr hml hown hts hlocks hin hP hN hD hA hS hl
  have hown : s.vm.findClass RX9 = some m.cls := hown
  have hl : lv_has ls 7 [(0, .ref a0), (1, .int 4), (2, .int 0), (3, .int 0), (4, .int 1), (5, .int 1)] := hl
  refine lv_iconst (v := 0) hx hb dX9_sendToOthers_0 (by decide) ?_
  refine lv_istore (lv' := [(6, .int 0), (0, .ref a0), (1, .int 4), (2, .int 0), (3, .int 0), (4, .int 1), (5, .int 1)]) hx hb dX9_sendToOthers_1 hl (by decide) rfl (fun ls hl => ?_)
  refine lv_iload hx hb dX9_sendToOthers_3 (lv_at hl 0 rfl) ?_
  refine lv_aload_n hx hb dX9_sendToOthers_5 rfl (lv_at hl 1 rfl) ?_
  refine va_get (D := D) (ci := 9) (v := .ref a1) (C := RX9) (T := TX9) (N := 18) hx hb hts iX9_sendToOthers_9 hown hN.1 hP 0 rfl rfl 8 (by decide) (hts _ mX9_sendToOthers_1) (fun _ h9 => h9) rfl dX9_sendToOthers_6 ?_
  refine lv_iconst (v := 0) hx hb dX9_sendToOthers_9 (by decide) ?_
  refine ld_i (v := 1) hx hb hN hP 1 rfl (vin (by decide +kernel)) (by first | rfl | decide +kernel) dX9_sendToOthers_10 ?_
  refine lv_icmp_ge (tgt := 40) hx hb dX9_sendToOthers_11 (by decide) (fun c9 => absurd c9 (by decide)) (fun _ => ?_)
  refine lv_iload hx hb dX9_sendToOthers_14 (lv_at hl 0 rfl) ?_
  refine lv_iload_n hx hb dX9_sendToOthers_16 rfl (lv_at hl 3 rfl) ?_
  refine lv_icmp_eq (tgt := 34) hx hb dX9_sendToOthers_17 (by decide) (fun _ => ?_) (fun c9 => absurd (by decide) c9)
  refine lv_iinc (v := 1) (lv' := [(6, .int 1), (0, .ref a0), (1, .int 4), (2, .int 0), (3, .int 0), (4, .int 1), (5, .int 1)]) hx hb dX9_sendToOthers_34 hl (k := 0) rfl (by decide) (by decide) rfl (fun ls hl => ?_)
  refine lv_goto (tgt := 3) hx hb dX9_sendToOthers_37 (by decide) ?_
  refine lv_iload hx hb dX9_sendToOthers_3 (lv_at hl 0 rfl) ?_
  refine lv_aload_n hx hb dX9_sendToOthers_5 rfl (lv_at hl 1 rfl) ?_
  refine va_get (D := D) (ci := 9) (v := .ref a1) (C := RX9) (T := TX9) (N := 18) hx hb hts iX9_sendToOthers_9 hown hN.1 hP 0 rfl rfl 8 (by decide) (hts _ mX9_sendToOthers_1) (fun _ h9 => h9) rfl dX9_sendToOthers_6 ?_
  refine lv_iconst (v := 0) hx hb dX9_sendToOthers_9 (by decide) ?_
  refine ld_i (v := 1) hx hb hN hP 1 rfl (vin (by decide +kernel)) (by first | rfl | decide +kernel) dX9_sendToOthers_10 ?_
  refine lv_icmp_ge (tgt := 40) hx hb dX9_sendToOthers_11 (by decide) (fun _ => ?_) (fun c9 => absurd (by decide) c9)
  exact en_v (fun k => ([] : List Nat).getD k 0) hx hb hr hlocks hP hD hS (Nat.le_of_ble_eq_true rfl) (Nat.le_of_ble_eq_true rfl) dX9_sendToOthers_40
theorem hdX9_plan_v : yX9_plan.cls = RX9 ∧ yX9_plan.cls ≠ "java/lang/invoke/MethodHandle" ∧ yX9_plan.cls ≠ "java/lang/invoke/VarHandle" ∧ (parseMethodDescriptor yX9_plan.desc).map (fun d => d.parameters.length) = some 5 := by decide +kernel
theorem hdX9_sendToOthers_v : yX9_sendToOthers.cls = RX9 ∧ yX9_sendToOthers.cls ≠ "java/lang/invoke/MethodHandle" ∧ yX9_sendToOthers.cls ≠ "java/lang/invoke/VarHandle" ∧ (parseMethodDescriptor yX9_sendToOthers.desc).map (fun d => d.parameters.length) = some 5 := by decide +kernel
set_option maxHeartbeats 4000000 in
set_option maxRecDepth 100000 in
theorem k403_X9_vote (l : Launch) (D : va_G) (cs : Nat → ClassId) (sz : Nat) (a0 a1 a2 a3 a4 a5 a6 : Nat) : KV l yX9_vote wsX9_vote 3 68 0 0 D cs sz [.ref a0] [(a0, .inr (9, [.int 0, .ref a2, .int 0, .int 0, .int 0, .int 0, .int 0, .int (-1), .ref a1, .ref a3, .ref a4, .ref a5, .int 0, .int 0, .int 0, .int 0, .int 0, .ref a6])), (a1, .inl (cs 0, 45783, .inl (upd (upd (upd (upd (upd (upd (upd (upd (layF (fun _ => 0) 1) 6 1) 15 1) 16 1) 17 50) 28 1) 29 0) 31 1) 30 1)))] (fun u => [(a0, .inr (9, [.int 0, .ref a2, .int 0, .int 0, .int 0, .int 0, .int 0, .int (-1), .ref a1, .ref a3, .ref a4, .ref a5, .int 0, .int 0, .int 0, .int 0, .int 0, .ref a6])), (a1, .inl (cs 0, 45783, .inl (upd (upd (upd (upd (upd (upd (upd (upd (upd (upd (upd (upd (layF (fun _ => 0) 1) 6 1) 15 1) 16 1) 17 50) 28 1) 29 0) 31 1) 30 1) 19 1) 20 1) 7 1) 28 2)))]) := by
  refine KV.of cX9_vote 1 none (by decide) rfl (Nat.le_of_ble_eq_true rfl) ?_
  intro p e s m below meth c A ls hx hb hr hml hown hts hlocks hin hP hN hD hA hS hl
  have hown : s.vm.findClass RX9 = some m.cls := hown
  have hl : lv_has ls 1 [(0, .ref a0)] := hl
  refine lv_aload_n hx hb dX9_vote_0 rfl (lv_at hl 0 rfl) ?_
  refine va_get (D := D) (ci := 9) (v := .ref a1) (C := RX9) (T := TX9) (N := 18) hx hb hts iX9_vote_9 hown hN.1 hP 0 rfl rfl 8 (by decide) (hts _ mX9_vote_1) (fun _ h9 => h9) rfl dX9_vote_1 ?_
  refine lv_bipush (v := 19) hx hb dX9_vote_4 (by decide) ?_
  refine lv_dup2_11 hx hb dX9_vote_6 rfl rfl ?_
  refine ld_i (v := 0) hx hb hN hP 1 rfl (vin (by decide +kernel)) (by first | rfl | decide +kernel) dX9_vote_7 ?_
  refine lv_iconst (v := 1) hx hb dX9_vote_8 (by decide) ?_
  refine lv_iadd hx hb dX9_vote_9 ?_
  refine tp_i (1) (by decide) ?_
  refine st_i (g := (upd (upd (upd (upd (upd (upd (upd (upd (upd (layF (fun _ => 0) 1) 6 1) 15 1) 16 1) 17 50) 28 1) 29 0) 31 1) 30 1) 19 1)) hx hb hN hP hD hS 1 rfl (vin (by decide +kernel)) rfl dX9_vote_10 (fun H locs hP hD hS => ?_)
  have hP : va_P D vwCl [(a0, .inr (9, [.int 0, .ref a2, .int 0, .int 0, .int 0, .int 0, .int 0, .int (-1), .ref a1, .ref a3, .ref a4, .ref a5, .int 0, .int 0, .int 0, .int 0, .int 0, .ref a6])), (a1, .inl (cs 0, 45783, .inl (upd (upd (upd (upd (upd (upd (upd (upd (upd (layF (fun _ => 0) 1) 6 1) 15 1) 16 1) 17 50) 28 1) 29 0) 31 1) 30 1) 19 1)))] H := hP
  have hD : va_D A [(a0, .inr (9, [.int 0, .ref a2, .int 0, .int 0, .int 0, .int 0, .int 0, .int (-1), .ref a1, .ref a3, .ref a4, .ref a5, .int 0, .int 0, .int 0, .int 0, .int 0, .ref a6])), (a1, .inl (cs 0, 45783, .inl (upd (upd (upd (upd (upd (upd (upd (upd (upd (layF (fun _ => 0) 1) 6 1) 15 1) 16 1) 17 50) 28 1) 29 0) 31 1) 30 1) 19 1)))] := hD
  refine lv_aload_n hx hb dX9_vote_11 rfl (lv_at hl 0 rfl) ?_
  refine va_get (D := D) (ci := 9) (v := .ref a1) (C := RX9) (T := TX9) (N := 18) hx hb hts iX9_vote_9 hown hN.1 hP 0 rfl rfl 8 (by decide) (hts _ mX9_vote_1) (fun _ h9 => h9) rfl dX9_vote_12 ?_
  refine lv_bipush (v := 19) hx hb dX9_vote_15 (by decide) ?_
  refine ld_i (v := 1) hx hb hN hP 1 rfl (vin (by decide +kernel)) (by first | rfl | decide +kernel) dX9_vote_17 ?_
  refine lv_aload_n hx hb dX9_vote_18 rfl (lv_at hl 0 rfl) ?_
  refine va_get (D := D) (ci := 9) (v := .ref a1) (C := RX9) (T := TX9) (N := 18) hx hb hts iX9_vote_9 hown hN.1 hP 0 rfl rfl 8 (by decide) (hts _ mX9_vote_1) (fun _ h9 => h9) rfl dX9_vote_19 ?_
  refine lv_bipush (v := 11) hx hb dX9_vote_22 (by decide) ?_
  refine ld_i (v := 1) hx hb hN hP 1 rfl (vin (by decide +kernel)) (by first | rfl | decide +kernel) dX9_vote_24 ?_
  refine lv_icmp_ge (tgt := 29) hx hb dX9_vote_25 (by decide) (fun _ => ?_) (fun c9 => absurd (by decide) c9)
  refine lv_aload_n hx hb dX9_vote_29 rfl (lv_at hl 0 rfl) ?_
  refine va_get (D := D) (ci := 9) (v := .ref a1) (C := RX9) (T := TX9) (N := 18) hx hb hts iX9_vote_9 hown hN.1 hP 0 rfl rfl 8 (by decide) (hts _ mX9_vote_1) (fun _ h9 => h9) rfl dX9_vote_30 ?_
  refine lv_bipush (v := 20) hx hb dX9_vote_33 (by decide) ?_
  refine lv_iconst (v := 1) hx hb dX9_vote_35 (by decide) ?_
  refine st_i (g := (upd (upd (upd (upd (upd (upd (upd (upd (upd (upd (layF (fun _ => 0) 1) 6 1) 15 1) 16 1) 17 50) 28 1) 29 0) 31 1) 30 1) 19 1) 20 1)) hx hb hN hP hD hS 1 rfl (vin (by decide +kernel)) rfl dX9_vote_36 (fun H locs hP hD hS => ?_)
  have hP : va_P D vwCl [(a0, .inr (9, [.int 0, .ref a2, .int 0, .int 0, .int 0, .int 0, .int 0, .int (-1), .ref a1, .ref a3, .ref a4, .ref a5, .int 0, .int 0, .int 0, .int 0, .int 0, .ref a6])), (a1, .inl (cs 0, 45783, .inl (upd (upd (upd (upd (upd (upd (upd (upd (upd (upd (layF (fun _ => 0) 1) 6 1) 15 1) 16 1) 17 50) 28 1) 29 0) 31 1) 30 1) 19 1) 20 1)))] H := hP
  have hD : va_D A [(a0, .inr (9, [.int 0, .ref a2, .int 0, .int 0, .int 0, .int 0, .int 0, .int (-1), .ref a1, .ref a3, .ref a4, .ref a5, .int 0, .int 0, .int 0, .int 0, .int 0, .ref a6])), (a1, .inl (cs 0, 45783, .inl (upd (upd (upd (upd (upd (upd (upd (upd (upd (upd (layF (fun _ => 0) 1) 6 1) 15 1) 16 1) 17 50) 28 1) 29 0) 31 1) 30 1) 19 1) 20 1)))] := hD
  refine lv_aload_n hx hb dX9_vote_37 rfl (lv_at hl 0 rfl) ?_
  refine va_get (D := D) (ci := 9) (v := .ref a1) (C := RX9) (T := TX9) (N := 18) hx hb hts iX9_vote_9 hown hN.1 hP 0 rfl rfl 8 (by decide) (hts _ mX9_vote_1) (fun _ h9 => h9) rfl dX9_vote_38 ?_
  refine lv_bipush (v := 7) hx hb dX9_vote_41 (by decide) ?_
  refine lv_dup2_11 hx hb dX9_vote_43 rfl rfl ?_
  refine ld_i (v := 0) hx hb hN hP 1 rfl (vin (by decide +kernel)) (by first | rfl | decide +kernel) dX9_vote_44 ?_
  refine lv_iconst (v := 1) hx hb dX9_vote_45 (by decide) ?_
  refine lv_iadd hx hb dX9_vote_46 ?_
  refine tp_i (1) (by decide) ?_
  refine st_i (g := (upd (upd (upd (upd (upd (upd (upd (upd (upd (upd (upd (layF (fun _ => 0) 1) 6 1) 15 1) 16 1) 17 50) 28 1) 29 0) 31 1) 30 1) 19 1) 20 1) 7 1)) hx hb hN hP hD hS 1 rfl (vin (by decide +kernel)) rfl dX9_vote_47 (fun H locs hP hD hS => ?_)
  have hP : va_P D vwCl [(a0, .inr (9, [.int 0, .ref a2, .int 0, .int 0, .int 0, .int 0, .int 0, .int (-1), .ref a1, .ref a3, .ref a4, .ref a5, .int 0, .int 0, .int 0, .int 0, .int 0, .ref a6])), (a1, .inl (cs 0, 45783, .inl (upd (upd (upd (upd (upd (upd (upd (upd (upd (upd (upd (layF (fun _ => 0) 1) 6 1) 15 1) 16 1) 17 50) 28 1) 29 0) 31 1) 30 1) 19 1) 20 1) 7 1)))] H := hP
  have hD : va_D A [(a0, .inr (9, [.int 0, .ref a2, .int 0, .int 0, .int 0, .int 0, .int 0, .int (-1), .ref a1, .ref a3, .ref a4, .ref a5, .int 0, .int 0, .int 0, .int 0, .int 0, .ref a6])), (a1, .inl (cs 0, 45783, .inl (upd (upd (upd (upd (upd (upd (upd (upd (upd (upd (upd (layF (fun _ => 0) 1) 6 1) 15 1) 16 1) 17 50) 28 1) 29 0) 31 1) 30 1) 19 1) 20 1) 7 1)))] := hD
  refine lv_aload_n hx hb dX9_vote_48 rfl (lv_at hl 0 rfl) ?_
  refine lv_aload_n hx hb dX9_vote_49 rfl (lv_at hl 0 rfl) ?_
  refine va_get (D := D) (ci := 9) (v := .ref a1) (C := RX9) (T := TX9) (N := 18) hx hb hts iX9_vote_9 hown hN.1 hP 0 rfl rfl 8 (by decide) (hts _ mX9_vote_1) (fun _ h9 => h9) rfl dX9_vote_50 ?_
  refine lv_bipush (v := 18) hx hb dX9_vote_53 (by decide) ?_
  refine ld_i (v := 0) hx hb hN hP 1 rfl (vin (by decide +kernel)) (by first | rfl | decide +kernel) dX9_vote_55 ?_
  refine lv_iconst (v := 2) hx hb dX9_vote_56 (by decide) ?_
  refine lv_aload_n hx hb dX9_vote_57 rfl (lv_at hl 0 rfl) ?_
  refine va_get (D := D) (ci := 9) (v := .ref a1) (C := RX9) (T := TX9) (N := 18) hx hb hts iX9_vote_9 hown hN.1 hP 0 rfl rfl 8 (by decide) (hts _ mX9_vote_1) (fun _ h9 => h9) rfl dX9_vote_58 ?_
  refine lv_bipush (v := 6) hx hb dX9_vote_61 (by decide) ?_
  refine ld_i (v := 1) hx hb hN hP 1 rfl (vin (by decide +kernel)) (by first | rfl | decide +kernel) dX9_vote_63 ?_
  refine lv_iconst (v := 1) hx hb dX9_vote_64 (by decide) ?_
  refine lv_isub hx hb dX9_vote_65 ?_
  refine tp_i (0) (by decide) ?_
  refine lv_aload_n hx hb dX9_vote_66 rfl (lv_at hl 0 rfl) ?_
  refine va_get (D := D) (ci := 9) (v := .ref a1) (C := RX9) (T := TX9) (N := 18) hx hb hts iX9_vote_9 hown hN.1 hP 0 rfl rfl 8 (by decide) (hts _ mX9_vote_1) (fun _ h9 => h9) rfl dX9_vote_67 ?_
  refine lv_bipush (v := 16) hx hb dX9_vote_70 (by decide) ?_
  refine ld_i (v := 1) hx hb hN hP 1 rfl (vin (by decide +kernel)) (by first | rfl | decide +kernel) dX9_vote_72 ?_
  refine lv_aload_n hx hb dX9_vote_73 rfl (lv_at hl 0 rfl) ?_
  refine va_get (D := D) (ci := 9) (v := .ref a1) (C := RX9) (T := TX9) (N := 18) hx hb hts iX9_vote_9 hown hN.1 hP 0 rfl rfl 8 (by decide) (hts _ mX9_vote_1) (fun _ h9 => h9) rfl dX9_vote_74 ?_
  refine lv_bipush (v := 15) hx hb dX9_vote_77 (by decide) ?_
  refine ld_i (v := 1) hx hb hN hP 1 rfl (vin (by decide +kernel)) (by first | rfl | decide +kernel) dX9_vote_79 ?_
  refine cv_v (As := [.int 0, .int 2, .int 0, .int 1, .int 1]) (rest := []) (b := a0) (wr := []) ⟨hx, hb, hml, hown, hts⟩ (fun sz => k401_X9_plan l D cs sz a0 a1 a2 a3 a4 a5 a6) (cwV 5 hts gX9_vote_X9_plan rfl rfl rfl hdX9_plan_v ⟨Nat.le_of_ble_eq_true rfl, Nat.le_of_ble_eq_true rfl⟩) hN hP hD hS hA [0, 1] [] rfl rfl rfl rfl (by decide) (ci := 9) (q0 := 0) rfl rfl rfl rfl hl.1 (Nat.le_of_ble_eq_true rfl) dX9_vote_80 (Nat.le_of_ble_eq_true rfl) (Nat.le_of_ble_eq_true rfl) (fun u0 H locs hP hD hS => ?_)
  have hP : va_P D vwCl [(a0, .inr (9, [.int 0, .ref a2, .int 0, .int 0, .int 0, .int 0, .int 0, .int (-1), .ref a1, .ref a3, .ref a4, .ref a5, .int 0, .int 0, .int 0, .int 0, .int 0, .ref a6])), (a1, .inl (cs 0, 45783, .inl (upd (upd (upd (upd (upd (upd (upd (upd (upd (upd (upd (upd (layF (fun _ => 0) 1) 6 1) 15 1) 16 1) 17 50) 28 1) 29 0) 31 1) 30 1) 19 1) 20 1) 7 1) 28 2)))] H := hP
  have hD : va_D A [(a0, .inr (9, [.int 0, .ref a2, .int 0, .int 0, .int 0, .int 0, .int 0, .int (-1), .ref a1, .ref a3, .ref a4, .ref a5, .int 0, .int 0, .int 0, .int 0, .int 0, .ref a6])), (a1, .inl (cs 0, 45783, .inl (upd (upd (upd (upd (upd (upd (upd (upd (upd (upd (upd (upd (layF (fun _ => 0) 1) 6 1) 15 1) 16 1) 17 50) 28 1) 29 0) 31 1) 30 1) 19 1) 20 1) 7 1) 28 2)))] := hD
  refine W.widen (k := 0) (n := 0) (Nat.le_of_ble_eq_true rfl) (Nat.le_of_ble_eq_true rfl) ?_
  refine lv_aload_n hx hb dX9_vote_83 rfl (lv_at hl 0 rfl) ?_
  refine lv_iconst (v := 4) hx hb dX9_vote_84 (by decide) ?_
  refine lv_aload_n hx hb dX9_vote_85 rfl (lv_at hl 0 rfl) ?_
  refine va_get (D := D) (ci := 9) (v := .ref a1) (C := RX9) (T := TX9) (N := 18) hx hb hts iX9_vote_9 hown hN.1 hP 0 rfl rfl 8 (by decide) (hts _ mX9_vote_1) (fun _ h9 => h9) rfl dX9_vote_86 ?_
  refine lv_bipush (v := 18) hx hb dX9_vote_89 (by decide) ?_
  refine ld_i (v := 0) hx hb hN hP 1 rfl (vin (by decide +kernel)) (by first | rfl | decide +kernel) dX9_vote_91 ?_
  refine lv_aload_n hx hb dX9_vote_92 rfl (lv_at hl 0 rfl) ?_
  refine va_get (D := D) (ci := 9) (v := .ref a1) (C := RX9) (T := TX9) (N := 18) hx hb hts iX9_vote_9 hown hN.1 hP 0 rfl rfl 8 (by decide) (hts _ mX9_vote_1) (fun _ h9 => h9) rfl dX9_vote_93 ?_
  refine lv_bipush (v := 6) hx hb dX9_vote_96 (by decide) ?_
  refine ld_i (v := 1) hx hb hN hP 1 rfl (vin (by decide +kernel)) (by first | rfl | decide +kernel) dX9_vote_98 ?_
  refine lv_iconst (v := 1) hx hb dX9_vote_99 (by decide) ?_
  refine lv_isub hx hb dX9_vote_100 ?_
  refine tp_i (0) (by decide) ?_
  refine lv_aload_n hx hb dX9_vote_101 rfl (lv_at hl 0 rfl) ?_
  refine va_get (D := D) (ci := 9) (v := .ref a1) (C := RX9) (T := TX9) (N := 18) hx hb hts iX9_vote_9 hown hN.1 hP 0 rfl rfl 8 (by decide) (hts _ mX9_vote_1) (fun _ h9 => h9) rfl dX9_vote_102 ?_
  refine lv_bipush (v := 16) hx hb dX9_vote_105 (by decide) ?_
  refine ld_i (v := 1) hx hb hN hP 1 rfl (vin (by decide +kernel)) (by first | rfl | decide +kernel) dX9_vote_107 ?_
  refine lv_aload_n hx hb dX9_vote_108 rfl (lv_at hl 0 rfl) ?_
  refine va_get (D := D) (ci := 9) (v := .ref a1) (C := RX9) (T := TX9) (N := 18) hx hb hts iX9_vote_9 hown hN.1 hP 0 rfl rfl 8 (by decide) (hts _ mX9_vote_1) (fun _ h9 => h9) rfl dX9_vote_109 ?_
  refine lv_bipush (v := 15) hx hb dX9_vote_112 (by decide) ?_
  refine ld_i (v := 1) hx hb hN hP 1 rfl (vin (by decide +kernel)) (by first | rfl | decide +kernel) dX9_vote_114 ?_
  refine cv_v (As := [.int 4, .int 0, .int 0, .int 1, .int 1]) (rest := []) (b := a0) (wr := []) ⟨hx, hb, hml, hown, hts⟩ (fun sz => k402_X9_sendToOthers l D cs sz a0 a1 a2 a3 a4 a5 a6) (cwV 5 hts gX9_vote_X9_sendToOthers rfl rfl rfl hdX9_sendToOthers_v ⟨Nat.le_of_ble_eq_true rfl, Nat.le_of_ble_eq_true rfl⟩) hN hP hD hS hA [0, 1] [] rfl rfl rfl rfl (by decide) (ci := 9) (q0 := 0) rfl rfl rfl rfl hl.1 (Nat.le_of_ble_eq_true rfl) dX9_vote_115 (Nat.le_of_ble_eq_true rfl) (Nat.le_of_ble_eq_true rfl) (fun u1 H locs hP hD hS => ?_)
  have hP : va_P D vwCl [(a0, .inr (9, [.int 0, .ref a2, .int 0, .int 0, .int 0, .int 0, .int 0, .int (-1), .ref a1, .ref a3, .ref a4, .ref a5, .int 0, .int 0, .int 0, .int 0, .int 0, .ref a6])), (a1, .inl (cs 0, 45783, .inl (upd (upd (upd (upd (upd (upd (upd (upd (upd (upd (upd (upd (layF (fun _ => 0) 1) 6 1) 15 1) 16 1) 17 50) 28 1) 29 0) 31 1) 30 1) 19 1) 20 1) 7 1) 28 2)))] H := hP
  have hD : va_D A [(a0, .inr (9, [.int 0, .ref a2, .int 0, .int 0, .int 0, .int 0, .int 0, .int (-1), .ref a1, .ref a3, .ref a4, .ref a5, .int 0, .int 0, .int 0, .int 0, .int 0, .ref a6])), (a1, .inl (cs 0, 45783, .inl (upd (upd (upd (upd (upd (upd (upd (upd (upd (upd (upd (upd (layF (fun _ => 0) 1) 6 1) 15 1) 16 1) 17 50) 28 1) 29 0) 31 1) 30 1) 19 1) 20 1) 7 1) 28 2)))] := hD
  refine W.widen (k := 0) (n := 0) (Nat.le_of_ble_eq_true rfl) (Nat.le_of_ble_eq_true rfl) ?_
  exact en_v (fun k => ([] : List Nat).getD k 0) hx hb hr hlocks hP hD hS (Nat.le_of_ble_eq_true rfl) (Nat.le_of_ble_eq_true rfl) dX9_vote_118
theorem hdX9_vote_v : yX9_vote.cls = RX9 ∧ yX9_vote.cls ≠ "java/lang/invoke/MethodHandle" ∧ yX9_vote.cls ≠ "java/lang/invoke/VarHandle" ∧ (parseMethodDescriptor yX9_vote.desc).map (fun d => d.parameters.length) = some 0 := by decide +kernel
set_option maxHeartbeats 4000000 in
set_option maxRecDepth 100000 in
theorem k404_X9_proposeNow (l : Launch) (D : va_G) (cs : Nat → ClassId) (sz : Nat) (a0 a1 a2 a3 a4 a5 a6 : Nat) : KI l yX9_proposeNow wsX9_proposeNow 4 88 0 0 D cs sz [.ref a0, .int 1, .int 1] [(a0, .inr (9, [.int 0, .ref a2, .int 0, .int 0, .int 0, .int 0, .int 0, .int (-1), .ref a1, .ref a3, .ref a4, .ref a5, .int 0, .int 0, .int 0, .int 0, .int 0, .ref a6])), (a1, .inl (cs 0, 45783, .inl (layF (fun _ => 0) 1)))] (fun u => [(a0, .inr (9, [.int 0, .ref a2, .int 0, .int 0, .int 0, .int 0, .int 0, .int (-1), .ref a1, .ref a3, .ref a4, .ref a5, .int 0, .int 0, .int 0, .int 0, .int 0, .ref a6])), (a1, .inl (cs 0, 45783, .inl (upd (upd (upd (upd (upd (upd (upd (upd (upd (upd (upd (upd (layF (fun _ => 0) 1) 6 1) 15 1) 16 1) 17 50) 28 1) 29 0) 31 1) 30 1) 19 1) 20 1) 7 1) 28 2)))]) (1) := by
  refine KI.of cX9_proposeNow 5 (some .int) (by decide) rfl (Nat.le_of_ble_eq_true rfl) ?_
  intro p e s m below meth c A ls hx hb hr hml hown hts hlocks hin hP hN hD hA hS hl
  have hown : s.vm.findClass RX9 = some m.cls := hown
  have hl : lv_has ls 5 [(0, .ref a0), (1, .int 1), (2, .int 1)] := hl
  refine lv_aload_n hx hb dX9_proposeNow_0 rfl (lv_at hl 0 rfl) ?_
  refine va_get (D := D) (ci := 9) (v := .ref a1) (C := RX9) (T := TX9) (N := 18) hx hb hts iX9_proposeNow_9 hown hN.1 hP 0 rfl rfl 8 (by decide) (hts _ mX9_proposeNow_1) (fun _ h9 => h9) rfl dX9_proposeNow_1 ?_
  refine lv_iconst (v := 2) hx hb dX9_proposeNow_4 (by decide) ?_
  refine ld_i (v := 0) hx hb hN hP 1 rfl (vin (by decide +kernel)) (by first | rfl | decide +kernel) dX9_proposeNow_5 ?_
  refine lv_istore_n (lv' := [(3, .int 0), (0, .ref a0), (1, .int 1), (2, .int 1)]) hx hb dX9_proposeNow_6 rfl hl (by decide) rfl (fun ls hl => ?_)
  refine lv_aload_n hx hb dX9_proposeNow_7 rfl (lv_at hl 1 rfl) ?_
  refine va_get (D := D) (ci := 9) (v := .ref a1) (C := RX9) (T := TX9) (N := 18) hx hb hts iX9_proposeNow_9 hown hN.1 hP 0 rfl rfl 8 (by decide) (hts _ mX9_proposeNow_1) (fun _ h9 => h9) rfl dX9_proposeNow_8 ?_
  refine lv_bipush (v := 6) hx hb dX9_proposeNow_11 (by decide) ?_
  refine ld_i (v := 0) hx hb hN hP 1 rfl (vin (by decide +kernel)) (by first | rfl | decide +kernel) dX9_proposeNow_13 ?_
  refine lv_istore (lv' := [(4, .int 0), (3, .int 0), (0, .ref a0), (1, .int 1), (2, .int 1)]) hx hb dX9_proposeNow_14 hl (by decide) rfl (fun ls hl => ?_)
  refine lv_aload_n hx hb dX9_proposeNow_16 rfl (lv_at hl 2 rfl) ?_
  refine va_get (D := D) (ci := 9) (v := .ref a1) (C := RX9) (T := TX9) (N := 18) hx hb hts iX9_proposeNow_9 hown hN.1 hP 0 rfl rfl 8 (by decide) (hts _ mX9_proposeNow_1) (fun _ h9 => h9) rfl dX9_proposeNow_17 ?_
  refine lv_bipush (v := 6) hx hb dX9_proposeNow_20 (by decide) ?_
  refine lv_dup2_11 hx hb dX9_proposeNow_22 rfl rfl ?_
  refine ld_i (v := 0) hx hb hN hP 1 rfl (vin (by decide +kernel)) (by first | rfl | decide +kernel) dX9_proposeNow_23 ?_
  refine lv_iconst (v := 1) hx hb dX9_proposeNow_24 (by decide) ?_
  refine lv_iadd hx hb dX9_proposeNow_25 ?_
  refine tp_i (1) (by decide) ?_
  refine st_i (g := (upd (layF (fun _ => 0) 1) 6 1)) hx hb hN hP hD hS 1 rfl (vin (by decide +kernel)) rfl dX9_proposeNow_26 (fun H locs hP hD hS => ?_)
  have hP : va_P D vwCl [(a0, .inr (9, [.int 0, .ref a2, .int 0, .int 0, .int 0, .int 0, .int 0, .int (-1), .ref a1, .ref a3, .ref a4, .ref a5, .int 0, .int 0, .int 0, .int 0, .int 0, .ref a6])), (a1, .inl (cs 0, 45783, .inl (upd (layF (fun _ => 0) 1) 6 1)))] H := hP
  have hD : va_D A [(a0, .inr (9, [.int 0, .ref a2, .int 0, .int 0, .int 0, .int 0, .int 0, .int (-1), .ref a1, .ref a3, .ref a4, .ref a5, .int 0, .int 0, .int 0, .int 0, .int 0, .ref a6])), (a1, .inl (cs 0, 45783, .inl (upd (layF (fun _ => 0) 1) 6 1)))] := hD
  refine lv_aload_n hx hb dX9_proposeNow_27 rfl (lv_at hl 2 rfl) ?_
  refine va_get (D := D) (ci := 9) (v := .ref a1) (C := RX9) (T := TX9) (N := 18) hx hb hts iX9_proposeNow_9 hown hN.1 hP 0 rfl rfl 8 (by decide) (hts _ mX9_proposeNow_1) (fun _ h9 => h9) rfl dX9_proposeNow_28 ?_
  refine lv_bipush (v := 15) hx hb dX9_proposeNow_31 (by decide) ?_
  refine lv_iload_n hx hb dX9_proposeNow_33 rfl (lv_at hl 3 rfl) ?_
  refine st_i (g := (upd (upd (layF (fun _ => 0) 1) 6 1) 15 1)) hx hb hN hP hD hS 1 rfl (vin (by decide +kernel)) rfl dX9_proposeNow_34 (fun H locs hP hD hS => ?_)
  have hP : va_P D vwCl [(a0, .inr (9, [.int 0, .ref a2, .int 0, .int 0, .int 0, .int 0, .int 0, .int (-1), .ref a1, .ref a3, .ref a4, .ref a5, .int 0, .int 0, .int 0, .int 0, .int 0, .ref a6])), (a1, .inl (cs 0, 45783, .inl (upd (upd (layF (fun _ => 0) 1) 6 1) 15 1)))] H := hP
  have hD : va_D A [(a0, .inr (9, [.int 0, .ref a2, .int 0, .int 0, .int 0, .int 0, .int 0, .int (-1), .ref a1, .ref a3, .ref a4, .ref a5, .int 0, .int 0, .int 0, .int 0, .int 0, .ref a6])), (a1, .inl (cs 0, 45783, .inl (upd (upd (layF (fun _ => 0) 1) 6 1) 15 1)))] := hD
  refine lv_aload_n hx hb dX9_proposeNow_35 rfl (lv_at hl 2 rfl) ?_
  refine va_get (D := D) (ci := 9) (v := .ref a1) (C := RX9) (T := TX9) (N := 18) hx hb hts iX9_proposeNow_9 hown hN.1 hP 0 rfl rfl 8 (by decide) (hts _ mX9_proposeNow_1) (fun _ h9 => h9) rfl dX9_proposeNow_36 ?_
  refine lv_bipush (v := 16) hx hb dX9_proposeNow_39 (by decide) ?_
  refine lv_aload_n hx hb dX9_proposeNow_41 rfl (lv_at hl 2 rfl) ?_
  refine lv_iload_n hx hb dX9_proposeNow_42 rfl (lv_at hl 1 rfl) ?_
  refine cv_i (As := [.int 0]) (rest := [.int 16, .ref a1]) (b := a0) (wr := []) ⟨hx, hb, hml, hown, hts⟩ (fun sz => k387_X9_clock l D cs sz a0 a1 a2 a3 a4 a5 a6) (cwV 1 hts gX9_proposeNow_X9_clock rfl rfl rfl hdX9_clock_v ⟨Nat.le_of_ble_eq_true rfl, Nat.le_of_ble_eq_true rfl⟩) hN hP hD hS hA [0, 1] [] rfl rfl rfl rfl (by decide) (ci := 9) (q0 := 0) rfl rfl rfl rfl hl.1 (Nat.le_of_ble_eq_true rfl) dX9_proposeNow_43 (Nat.le_of_ble_eq_true rfl) (Nat.le_of_ble_eq_true rfl) (fun u0 H locs hP hD hS => ?_)
  have hP : va_P D vwCl [(a0, .inr (9, [.int 0, .ref a2, .int 0, .int 0, .int 0, .int 0, .int 0, .int (-1), .ref a1, .ref a3, .ref a4, .ref a5, .int 0, .int 0, .int 0, .int 0, .int 0, .ref a6])), (a1, .inl (cs 0, 45783, .inl (upd (upd (layF (fun _ => 0) 1) 6 1) 15 1)))] H := hP
  have hD : va_D A [(a0, .inr (9, [.int 0, .ref a2, .int 0, .int 0, .int 0, .int 0, .int 0, .int (-1), .ref a1, .ref a3, .ref a4, .ref a5, .int 0, .int 0, .int 0, .int 0, .int 0, .ref a6])), (a1, .inl (cs 0, 45783, .inl (upd (upd (layF (fun _ => 0) 1) 6 1) 15 1)))] := hD
  refine W.widen (k := 0) (n := 0) (Nat.le_of_ble_eq_true rfl) (Nat.le_of_ble_eq_true rfl) ?_
  refine lv_iload_n hx hb dX9_proposeNow_46 rfl (lv_at hl 4 rfl) ?_
  refine lv_iadd hx hb dX9_proposeNow_47 ?_
  refine tp_i (1) (by decide) ?_
  refine st_i (g := (upd (upd (upd (layF (fun _ => 0) 1) 6 1) 15 1) 16 1)) hx hb hN hP hD hS 1 rfl (vin (by decide +kernel)) rfl dX9_proposeNow_48 (fun H locs hP hD hS => ?_)
  have hP : va_P D vwCl [(a0, .inr (9, [.int 0, .ref a2, .int 0, .int 0, .int 0, .int 0, .int 0, .int (-1), .ref a1, .ref a3, .ref a4, .ref a5, .int 0, .int 0, .int 0, .int 0, .int 0, .ref a6])), (a1, .inl (cs 0, 45783, .inl (upd (upd (upd (layF (fun _ => 0) 1) 6 1) 15 1) 16 1)))] H := hP
  have hD : va_D A [(a0, .inr (9, [.int 0, .ref a2, .int 0, .int 0, .int 0, .int 0, .int 0, .int (-1), .ref a1, .ref a3, .ref a4, .ref a5, .int 0, .int 0, .int 0, .int 0, .int 0, .ref a6])), (a1, .inl (cs 0, 45783, .inl (upd (upd (upd (layF (fun _ => 0) 1) 6 1) 15 1) 16 1)))] := hD
  refine lv_aload_n hx hb dX9_proposeNow_49 rfl (lv_at hl 2 rfl) ?_
  refine va_get (D := D) (ci := 9) (v := .ref a1) (C := RX9) (T := TX9) (N := 18) hx hb hts iX9_proposeNow_9 hown hN.1 hP 0 rfl rfl 8 (by decide) (hts _ mX9_proposeNow_1) (fun _ h9 => h9) rfl dX9_proposeNow_50 ?_
  refine lv_bipush (v := 17) hx hb dX9_proposeNow_53 (by decide) ?_
  refine lv_aload_n hx hb dX9_proposeNow_55 rfl (lv_at hl 2 rfl) ?_
  refine va_get (D := D) (ci := 9) (v := .ref a1) (C := RX9) (T := TX9) (N := 18) hx hb hts iX9_proposeNow_9 hown hN.1 hP 0 rfl rfl 8 (by decide) (hts _ mX9_proposeNow_1) (fun _ h9 => h9) rfl dX9_proposeNow_56 ?_
  refine lv_iconst (v := 1) hx hb dX9_proposeNow_59 (by decide) ?_
  refine ld_i (v := 0) hx hb hN hP 1 rfl (vin (by decide +kernel)) (by first | rfl | decide +kernel) dX9_proposeNow_60 ?_
  refine lv_aload_n hx hb dX9_proposeNow_61 rfl (lv_at hl 2 rfl) ?_
  refine va_get (D := D) (ci := 9) (v := .ref a1) (C := RX9) (T := TX9) (N := 18) hx hb hts iX9_proposeNow_9 hown hN.1 hP 0 rfl rfl 8 (by decide) (hts _ mX9_proposeNow_1) (fun _ h9 => h9) rfl dX9_proposeNow_62 ?_
  refine lv_bipush (v := 12) hx hb dX9_proposeNow_65 (by decide) ?_
  refine ld_i (v := 50) hx hb hN hP 1 rfl (vin (by decide +kernel)) (by first | rfl | decide +kernel) dX9_proposeNow_67 ?_
  refine lv_iadd hx hb dX9_proposeNow_68 ?_
  refine tp_i (50) (by decide) ?_
  refine st_i (g := (upd (upd (upd (upd (layF (fun _ => 0) 1) 6 1) 15 1) 16 1) 17 50)) hx hb hN hP hD hS 1 rfl (vin (by decide +kernel)) rfl dX9_proposeNow_69 (fun H locs hP hD hS => ?_)
  have hP : va_P D vwCl [(a0, .inr (9, [.int 0, .ref a2, .int 0, .int 0, .int 0, .int 0, .int 0, .int (-1), .ref a1, .ref a3, .ref a4, .ref a5, .int 0, .int 0, .int 0, .int 0, .int 0, .ref a6])), (a1, .inl (cs 0, 45783, .inl (upd (upd (upd (upd (layF (fun _ => 0) 1) 6 1) 15 1) 16 1) 17 50)))] H := hP
  have hD : va_D A [(a0, .inr (9, [.int 0, .ref a2, .int 0, .int 0, .int 0, .int 0, .int 0, .int (-1), .ref a1, .ref a3, .ref a4, .ref a5, .int 0, .int 0, .int 0, .int 0, .int 0, .ref a6])), (a1, .inl (cs 0, 45783, .inl (upd (upd (upd (upd (layF (fun _ => 0) 1) 6 1) 15 1) 16 1) 17 50)))] := hD
  refine lv_aload_n hx hb dX9_proposeNow_70 rfl (lv_at hl 2 rfl) ?_
  refine va_get (D := D) (ci := 9) (v := .ref a1) (C := RX9) (T := TX9) (N := 18) hx hb hts iX9_proposeNow_9 hown hN.1 hP 0 rfl rfl 8 (by decide) (hts _ mX9_proposeNow_1) (fun _ h9 => h9) rfl dX9_proposeNow_71 ?_
  refine lv_bipush (v := 18) hx hb dX9_proposeNow_74 (by decide) ?_
  refine lv_iload_n hx hb dX9_proposeNow_76 rfl (lv_at hl 1 rfl) ?_
  refine st_i (g := (upd (upd (upd (upd (layF (fun _ => 0) 1) 6 1) 15 1) 16 1) 17 50)) hx hb hN hP hD hS 1 rfl (vin (by decide +kernel)) (upd_id (by first | rfl | decide +kernel)) dX9_proposeNow_77 (fun H locs hP hD hS => ?_)
  have hP : va_P D vwCl [(a0, .inr (9, [.int 0, .ref a2, .int 0, .int 0, .int 0, .int 0, .int 0, .int (-1), .ref a1, .ref a3, .ref a4, .ref a5, .int 0, .int 0, .int 0, .int 0, .int 0, .ref a6])), (a1, .inl (cs 0, 45783, .inl (upd (upd (upd (upd (layF (fun _ => 0) 1) 6 1) 15 1) 16 1) 17 50)))] H := hP
  have hD : va_D A [(a0, .inr (9, [.int 0, .ref a2, .int 0, .int 0, .int 0, .int 0, .int 0, .int (-1), .ref a1, .ref a3, .ref a4, .ref a5, .int 0, .int 0, .int 0, .int 0, .int 0, .ref a6])), (a1, .inl (cs 0, 45783, .inl (upd (upd (upd (upd (layF (fun _ => 0) 1) 6 1) 15 1) 16 1) 17 50)))] := hD
  refine lv_aload_n hx hb dX9_proposeNow_78 rfl (lv_at hl 2 rfl) ?_
  refine va_get (D := D) (ci := 9) (v := .ref a1) (C := RX9) (T := TX9) (N := 18) hx hb hts iX9_proposeNow_9 hown hN.1 hP 0 rfl rfl 8 (by decide) (hts _ mX9_proposeNow_1) (fun _ h9 => h9) rfl dX9_proposeNow_79 ?_
  refine lv_bipush (v := 19) hx hb dX9_proposeNow_82 (by decide) ?_
  refine lv_iconst (v := 0) hx hb dX9_proposeNow_84 (by decide) ?_
  refine st_i (g := (upd (upd (upd (upd (layF (fun _ => 0) 1) 6 1) 15 1) 16 1) 17 50)) hx hb hN hP hD hS 1 rfl (vin (by decide +kernel)) (upd_id (by first | rfl | decide +kernel)) dX9_proposeNow_85 (fun H locs hP hD hS => ?_)
  have hP : va_P D vwCl [(a0, .inr (9, [.int 0, .ref a2, .int 0, .int 0, .int 0, .int 0, .int 0, .int (-1), .ref a1, .ref a3, .ref a4, .ref a5, .int 0, .int 0, .int 0, .int 0, .int 0, .ref a6])), (a1, .inl (cs 0, 45783, .inl (upd (upd (upd (upd (layF (fun _ => 0) 1) 6 1) 15 1) 16 1) 17 50)))] H := hP
  have hD : va_D A [(a0, .inr (9, [.int 0, .ref a2, .int 0, .int 0, .int 0, .int 0, .int 0, .int (-1), .ref a1, .ref a3, .ref a4, .ref a5, .int 0, .int 0, .int 0, .int 0, .int 0, .ref a6])), (a1, .inl (cs 0, 45783, .inl (upd (upd (upd (upd (layF (fun _ => 0) 1) 6 1) 15 1) 16 1) 17 50)))] := hD
  refine lv_aload_n hx hb dX9_proposeNow_86 rfl (lv_at hl 2 rfl) ?_
  refine va_get (D := D) (ci := 9) (v := .ref a1) (C := RX9) (T := TX9) (N := 18) hx hb hts iX9_proposeNow_9 hown hN.1 hP 0 rfl rfl 8 (by decide) (hts _ mX9_proposeNow_1) (fun _ h9 => h9) rfl dX9_proposeNow_87 ?_
  refine lv_bipush (v := 20) hx hb dX9_proposeNow_90 (by decide) ?_
  refine lv_iconst (v := 0) hx hb dX9_proposeNow_92 (by decide) ?_
  refine st_i (g := (upd (upd (upd (upd (layF (fun _ => 0) 1) 6 1) 15 1) 16 1) 17 50)) hx hb hN hP hD hS 1 rfl (vin (by decide +kernel)) (upd_id (by first | rfl | decide +kernel)) dX9_proposeNow_93 (fun H locs hP hD hS => ?_)
  have hP : va_P D vwCl [(a0, .inr (9, [.int 0, .ref a2, .int 0, .int 0, .int 0, .int 0, .int 0, .int (-1), .ref a1, .ref a3, .ref a4, .ref a5, .int 0, .int 0, .int 0, .int 0, .int 0, .ref a6])), (a1, .inl (cs 0, 45783, .inl (upd (upd (upd (upd (layF (fun _ => 0) 1) 6 1) 15 1) 16 1) 17 50)))] H := hP
  have hD : va_D A [(a0, .inr (9, [.int 0, .ref a2, .int 0, .int 0, .int 0, .int 0, .int 0, .int (-1), .ref a1, .ref a3, .ref a4, .ref a5, .int 0, .int 0, .int 0, .int 0, .int 0, .ref a6])), (a1, .inl (cs 0, 45783, .inl (upd (upd (upd (upd (layF (fun _ => 0) 1) 6 1) 15 1) 16 1) 17 50)))] := hD
  refine lv_aload_n hx hb dX9_proposeNow_94 rfl (lv_at hl 2 rfl) ?_
  refine va_get (D := D) (ci := 9) (v := .ref a1) (C := RX9) (T := TX9) (N := 18) hx hb hts iX9_proposeNow_9 hown hN.1 hP 0 rfl rfl 8 (by decide) (hts _ mX9_proposeNow_1) (fun _ h9 => h9) rfl dX9_proposeNow_95 ?_
  refine lv_bipush (v := 21) hx hb dX9_proposeNow_98 (by decide) ?_
  refine lv_iconst (v := (-1)) hx hb dX9_proposeNow_100 (by decide) ?_
  refine st_i (g := (upd (upd (upd (upd (layF (fun _ => 0) 1) 6 1) 15 1) 16 1) 17 50)) hx hb hN hP hD hS 1 rfl (vin (by decide +kernel)) (upd_id (by first | rfl | decide +kernel)) dX9_proposeNow_101 (fun H locs hP hD hS => ?_)
  have hP : va_P D vwCl [(a0, .inr (9, [.int 0, .ref a2, .int 0, .int 0, .int 0, .int 0, .int 0, .int (-1), .ref a1, .ref a3, .ref a4, .ref a5, .int 0, .int 0, .int 0, .int 0, .int 0, .ref a6])), (a1, .inl (cs 0, 45783, .inl (upd (upd (upd (upd (layF (fun _ => 0) 1) 6 1) 15 1) 16 1) 17 50)))] H := hP
  have hD : va_D A [(a0, .inr (9, [.int 0, .ref a2, .int 0, .int 0, .int 0, .int 0, .int 0, .int (-1), .ref a1, .ref a3, .ref a4, .ref a5, .int 0, .int 0, .int 0, .int 0, .int 0, .ref a6])), (a1, .inl (cs 0, 45783, .inl (upd (upd (upd (upd (layF (fun _ => 0) 1) 6 1) 15 1) 16 1) 17 50)))] := hD
  refine lv_aload_n hx hb dX9_proposeNow_102 rfl (lv_at hl 2 rfl) ?_
  refine va_get (D := D) (ci := 9) (v := .ref a1) (C := RX9) (T := TX9) (N := 18) hx hb hts iX9_proposeNow_9 hown hN.1 hP 0 rfl rfl 8 (by decide) (hts _ mX9_proposeNow_1) (fun _ h9 => h9) rfl dX9_proposeNow_103 ?_
  refine lv_bipush (v := 22) hx hb dX9_proposeNow_106 (by decide) ?_
  refine lv_iconst (v := (-1)) hx hb dX9_proposeNow_108 (by decide) ?_
  refine st_i (g := (upd (upd (upd (upd (layF (fun _ => 0) 1) 6 1) 15 1) 16 1) 17 50)) hx hb hN hP hD hS 1 rfl (vin (by decide +kernel)) (upd_id (by first | rfl | decide +kernel)) dX9_proposeNow_109 (fun H locs hP hD hS => ?_)
  have hP : va_P D vwCl [(a0, .inr (9, [.int 0, .ref a2, .int 0, .int 0, .int 0, .int 0, .int 0, .int (-1), .ref a1, .ref a3, .ref a4, .ref a5, .int 0, .int 0, .int 0, .int 0, .int 0, .ref a6])), (a1, .inl (cs 0, 45783, .inl (upd (upd (upd (upd (layF (fun _ => 0) 1) 6 1) 15 1) 16 1) 17 50)))] H := hP
  have hD : va_D A [(a0, .inr (9, [.int 0, .ref a2, .int 0, .int 0, .int 0, .int 0, .int 0, .int (-1), .ref a1, .ref a3, .ref a4, .ref a5, .int 0, .int 0, .int 0, .int 0, .int 0, .ref a6])), (a1, .inl (cs 0, 45783, .inl (upd (upd (upd (upd (layF (fun _ => 0) 1) 6 1) 15 1) 16 1) 17 50)))] := hD
  refine lv_aload_n hx hb dX9_proposeNow_110 rfl (lv_at hl 2 rfl) ?_
  refine lv_iload_n hx hb dX9_proposeNow_111 rfl (lv_at hl 1 rfl) ?_
  refine lv_iconst (v := 1) hx hb dX9_proposeNow_112 (by decide) ?_
  refine lv_iload hx hb dX9_proposeNow_113 (lv_at hl 0 rfl) ?_
  refine lv_aload_n hx hb dX9_proposeNow_115 rfl (lv_at hl 2 rfl) ?_
  refine va_get (D := D) (ci := 9) (v := .ref a1) (C := RX9) (T := TX9) (N := 18) hx hb hts iX9_proposeNow_9 hown hN.1 hP 0 rfl rfl 8 (by decide) (hts _ mX9_proposeNow_1) (fun _ h9 => h9) rfl dX9_proposeNow_116 ?_
  refine lv_bipush (v := 16) hx hb dX9_proposeNow_119 (by decide) ?_
  refine ld_i (v := 1) hx hb hN hP 1 rfl (vin (by decide +kernel)) (by first | rfl | decide +kernel) dX9_proposeNow_121 ?_
  refine lv_iload_n hx hb dX9_proposeNow_122 rfl (lv_at hl 3 rfl) ?_
  refine cv_v (As := [.int 0, .int 1, .int 0, .int 1, .int 1]) (rest := []) (b := a0) (wr := []) ⟨hx, hb, hml, hown, hts⟩ (fun sz => k393_X9_plan l D cs sz a0 a1 a2 a3 a4 a5 a6) (cwV 5 hts gX9_proposeNow_X9_plan rfl rfl rfl hdX9_plan_v ⟨Nat.le_of_ble_eq_true rfl, Nat.le_of_ble_eq_true rfl⟩) hN hP hD hS hA [0, 1] [] rfl rfl rfl rfl (by decide) (ci := 9) (q0 := 0) rfl rfl rfl rfl hl.1 (Nat.le_of_ble_eq_true rfl) dX9_proposeNow_123 (Nat.le_of_ble_eq_true rfl) (Nat.le_of_ble_eq_true rfl) (fun u1 H locs hP hD hS => ?_)
  have hP : va_P D vwCl [(a0, .inr (9, [.int 0, .ref a2, .int 0, .int 0, .int 0, .int 0, .int 0, .int (-1), .ref a1, .ref a3, .ref a4, .ref a5, .int 0, .int 0, .int 0, .int 0, .int 0, .ref a6])), (a1, .inl (cs 0, 45783, .inl (upd (upd (upd (upd (upd (upd (upd (upd (layF (fun _ => 0) 1) 6 1) 15 1) 16 1) 17 50) 28 1) 29 0) 31 1) 30 1)))] H := hP
  have hD : va_D A [(a0, .inr (9, [.int 0, .ref a2, .int 0, .int 0, .int 0, .int 0, .int 0, .int (-1), .ref a1, .ref a3, .ref a4, .ref a5, .int 0, .int 0, .int 0, .int 0, .int 0, .ref a6])), (a1, .inl (cs 0, 45783, .inl (upd (upd (upd (upd (upd (upd (upd (upd (layF (fun _ => 0) 1) 6 1) 15 1) 16 1) 17 50) 28 1) 29 0) 31 1) 30 1)))] := hD
  refine W.widen (k := 0) (n := 0) (Nat.le_of_ble_eq_true rfl) (Nat.le_of_ble_eq_true rfl) ?_
  refine lv_aload_n hx hb dX9_proposeNow_126 rfl (lv_at hl 2 rfl) ?_
  refine lv_iconst (v := 2) hx hb dX9_proposeNow_127 (by decide) ?_
  refine lv_iload_n hx hb dX9_proposeNow_128 rfl (lv_at hl 1 rfl) ?_
  refine lv_iload hx hb dX9_proposeNow_129 (lv_at hl 0 rfl) ?_
  refine lv_aload_n hx hb dX9_proposeNow_131 rfl (lv_at hl 2 rfl) ?_
  refine va_get (D := D) (ci := 9) (v := .ref a1) (C := RX9) (T := TX9) (N := 18) hx hb hts iX9_proposeNow_9 hown hN.1 hP 0 rfl rfl 8 (by decide) (hts _ mX9_proposeNow_1) (fun _ h9 => h9) rfl dX9_proposeNow_132 ?_
  refine lv_bipush (v := 16) hx hb dX9_proposeNow_135 (by decide) ?_
  refine ld_i (v := 1) hx hb hN hP 1 rfl (vin (by decide +kernel)) (by first | rfl | decide +kernel) dX9_proposeNow_137 ?_
  refine lv_iload_n hx hb dX9_proposeNow_138 rfl (lv_at hl 3 rfl) ?_
  refine cv_v (As := [.int 2, .int 0, .int 0, .int 1, .int 1]) (rest := []) (b := a0) (wr := []) ⟨hx, hb, hml, hown, hts⟩ (fun sz => k394_X9_sendToOthers l D cs sz a0 a1 a2 a3 a4 a5 a6) (cwV 5 hts gX9_proposeNow_X9_sendToOthers rfl rfl rfl hdX9_sendToOthers_v ⟨Nat.le_of_ble_eq_true rfl, Nat.le_of_ble_eq_true rfl⟩) hN hP hD hS hA [0, 1] [] rfl rfl rfl rfl (by decide) (ci := 9) (q0 := 0) rfl rfl rfl rfl hl.1 (Nat.le_of_ble_eq_true rfl) dX9_proposeNow_139 (Nat.le_of_ble_eq_true rfl) (Nat.le_of_ble_eq_true rfl) (fun u2 H locs hP hD hS => ?_)
  have hP : va_P D vwCl [(a0, .inr (9, [.int 0, .ref a2, .int 0, .int 0, .int 0, .int 0, .int 0, .int (-1), .ref a1, .ref a3, .ref a4, .ref a5, .int 0, .int 0, .int 0, .int 0, .int 0, .ref a6])), (a1, .inl (cs 0, 45783, .inl (upd (upd (upd (upd (upd (upd (upd (upd (layF (fun _ => 0) 1) 6 1) 15 1) 16 1) 17 50) 28 1) 29 0) 31 1) 30 1)))] H := hP
  have hD : va_D A [(a0, .inr (9, [.int 0, .ref a2, .int 0, .int 0, .int 0, .int 0, .int 0, .int (-1), .ref a1, .ref a3, .ref a4, .ref a5, .int 0, .int 0, .int 0, .int 0, .int 0, .ref a6])), (a1, .inl (cs 0, 45783, .inl (upd (upd (upd (upd (upd (upd (upd (upd (layF (fun _ => 0) 1) 6 1) 15 1) 16 1) 17 50) 28 1) 29 0) 31 1) 30 1)))] := hD
  refine W.widen (k := 0) (n := 0) (Nat.le_of_ble_eq_true rfl) (Nat.le_of_ble_eq_true rfl) ?_
  refine lv_aload_n hx hb dX9_proposeNow_142 rfl (lv_at hl 2 rfl) ?_
  refine cv_v (As := []) (rest := []) (b := a0) (wr := []) ⟨hx, hb, hml, hown, hts⟩ (fun sz => k403_X9_vote l D cs sz a0 a1 a2 a3 a4 a5 a6) (cwV 0 hts gX9_proposeNow_X9_vote rfl rfl rfl hdX9_vote_v ⟨Nat.le_of_ble_eq_true rfl, Nat.le_of_ble_eq_true rfl⟩) hN hP hD hS hA [0, 1] [] rfl rfl rfl rfl (by decide) (ci := 9) (q0 := 0) rfl rfl rfl rfl hl.1 (Nat.le_of_ble_eq_true rfl) dX9_proposeNow_143 (Nat.le_of_ble_eq_true rfl) (Nat.le_of_ble_eq_true rfl) (fun u3 H locs hP hD hS => ?_)
  have hP : va_P D vwCl [(a0, .inr (9, [.int 0, .ref a2, .int 0, .int 0, .int 0, .int 0, .int 0, .int (-1), .ref a1, .ref a3, .ref a4, .ref a5, .int 0, .int 0, .int 0, .int 0, .int 0, .ref a6])), (a1, .inl (cs 0, 45783, .inl (upd (upd (upd (upd (upd (upd (upd (upd (upd (upd (upd (upd (layF (fun _ => 0) 1) 6 1) 15 1) 16 1) 17 50) 28 1) 29 0) 31 1) 30 1) 19 1) 20 1) 7 1) 28 2)))] H := hP
  have hD : va_D A [(a0, .inr (9, [.int 0, .ref a2, .int 0, .int 0, .int 0, .int 0, .int 0, .int (-1), .ref a1, .ref a3, .ref a4, .ref a5, .int 0, .int 0, .int 0, .int 0, .int 0, .ref a6])), (a1, .inl (cs 0, 45783, .inl (upd (upd (upd (upd (upd (upd (upd (upd (upd (upd (upd (upd (layF (fun _ => 0) 1) 6 1) 15 1) 16 1) 17 50) 28 1) 29 0) 31 1) 30 1) 19 1) 20 1) 7 1) 28 2)))] := hD
  refine W.widen (k := 0) (n := 0) (Nat.le_of_ble_eq_true rfl) (Nat.le_of_ble_eq_true rfl) ?_
  refine lv_aload_n hx hb dX9_proposeNow_146 rfl (lv_at hl 2 rfl) ?_
  refine va_get (D := D) (ci := 9) (v := .ref a1) (C := RX9) (T := TX9) (N := 18) hx hb hts iX9_proposeNow_9 hown hN.1 hP 0 rfl rfl 8 (by decide) (hts _ mX9_proposeNow_1) (fun _ h9 => h9) rfl dX9_proposeNow_147 ?_
  refine lv_bipush (v := 16) hx hb dX9_proposeNow_150 (by decide) ?_
  refine ld_i (v := 1) hx hb hN hP 1 rfl (vin (by decide +kernel)) (by first | rfl | decide +kernel) dX9_proposeNow_152 ?_
  exact en_i (fun k => ([] : List Nat).getD k 0) hx hb hr hlocks rfl rfl hP hD hS (Nat.le_of_ble_eq_true rfl) (Nat.le_of_ble_eq_true rfl) dX9_proposeNow_153
set_option maxHeartbeats 4000000 in
set_option maxRecDepth 100000 in
theorem k405_X9_isOpen (l : Launch) (D : va_G) (cs : Nat → ClassId) (sz : Nat) (a0 a1 a2 a3 a4 a5 a6 : Nat) : KI l yX9_isOpen wsX9_isOpen 0 0 0 0 D cs sz [.ref a0] [(a0, .inr (9, [.int 0, .ref a2, .int 0, .int 0, .int 0, .int 0, .int 0, .int (-1), .ref a1, .ref a3, .ref a4, .ref a5, .int 0, .int 0, .int 0, .int 0, .int 0, .ref a6])), (a1, .inl (cs 0, 45783, .inl (upd (upd (upd (upd (upd (upd (upd (upd (upd (upd (upd (upd (layF (fun _ => 0) 1) 6 1) 15 1) 16 1) 17 50) 28 1) 29 0) 31 1) 30 1) 19 1) 20 1) 7 1) 28 2)))] (fun u => [(a0, .inr (9, [.int 0, .ref a2, .int 0, .int 0, .int 0, .int 0, .int 0, .int (-1), .ref a1, .ref a3, .ref a4, .ref a5, .int 0, .int 0, .int 0, .int 0, .int 0, .ref a6])), (a1, .inl (cs 0, 45783, .inl (upd (upd (upd (upd (upd (upd (upd (upd (upd (upd (upd (upd (layF (fun _ => 0) 1) 6 1) 15 1) 16 1) 17 50) 28 1) 29 0) 31 1) 30 1) 19 1) 20 1) 7 1) 28 2)))]) (0) := by
  refine KI.of cX9_isOpen 1 (some .boolean) (by decide) rfl (Nat.le_of_ble_eq_true rfl) ?_
  intro p e s m below meth c A ls hx hb hr hml hown hts hlocks hin hP hN hD hA hS hl
  have hown : s.vm.findClass RX9 = some m.cls := hown
  have hl : lv_has ls 1 [(0, .ref a0)] := hl
  refine lv_aload_n hx hb dX9_isOpen_0 rfl (lv_at hl 0 rfl) ?_
  refine va_get (D := D) (ci := 9) (v := .ref a1) (C := RX9) (T := TX9) (N := 18) hx hb hts iX9_isOpen_9 hown hN.1 hP 0 rfl rfl 8 (by decide) (hts _ mX9_isOpen_1) (fun _ h9 => h9) rfl dX9_isOpen_1 ?_
  refine lv_bipush (v := 6) hx hb dX9_isOpen_4 (by decide) ?_
  refine ld_i (v := 1) hx hb hN hP 1 rfl (vin (by decide +kernel)) (by first | rfl | decide +kernel) dX9_isOpen_6 ?_
  refine lv_if_le (tgt := 24) hx hb dX9_isOpen_7 (by decide) (fun c9 => absurd c9 (by decide)) (fun _ => ?_)
  refine lv_aload_n hx hb dX9_isOpen_10 rfl (lv_at hl 0 rfl) ?_
  refine va_get (D := D) (ci := 9) (v := .ref a1) (C := RX9) (T := TX9) (N := 18) hx hb hts iX9_isOpen_9 hown hN.1 hP 0 rfl rfl 8 (by decide) (hts _ mX9_isOpen_1) (fun _ h9 => h9) rfl dX9_isOpen_11 ?_
  refine lv_bipush (v := 20) hx hb dX9_isOpen_14 (by decide) ?_
  refine ld_i (v := 1) hx hb hN hP 1 rfl (vin (by decide +kernel)) (by first | rfl | decide +kernel) dX9_isOpen_16 ?_
  refine lv_if_ne (tgt := 24) hx hb dX9_isOpen_17 (by decide) (fun _ => ?_) (fun c9 => absurd c9 (by decide))
  refine lv_iconst (v := 0) hx hb dX9_isOpen_24 (by decide) ?_
  exact en_i (fun k => ([] : List Nat).getD k 0) hx hb hr hlocks rfl rfl hP hD hS (Nat.le_of_ble_eq_true rfl) (Nat.le_of_ble_eq_true rfl) dX9_isOpen_25
set_option maxHeartbeats 4000000 in
set_option maxRecDepth 100000 in
theorem k406_X9_of (l : Launch) (D : va_G) (cs : Nat → ClassId) (sz : Nat) (a0 a1 a2 a3 a4 a5 a6 : Nat) : KI l yX9_of wsX9_of 1 20 0 0 D cs sz [.ref a0, .int 0, .int 0] [(a0, .inr (9, [.int 0, .ref a2, .int 0, .int 0, .int 0, .int 0, .int 0, .int (-1), .ref a1, .ref a3, .ref a4, .ref a5, .int 0, .int 0, .int 0, .int 0, .int 0, .ref a6])), (a1, .inl (cs 0, 45783, .inl (upd (upd (upd (upd (upd (upd (upd (upd (upd (upd (upd (upd (layF (fun _ => 0) 1) 6 1) 15 1) 16 1) 17 50) 28 1) 29 0) 31 1) 30 1) 19 1) 20 1) 7 1) 28 2)))] (fun u => [(a0, .inr (9, [.int 0, .ref a2, .int 0, .int 0, .int 0, .int 0, .int 0, .int (-1), .ref a1, .ref a3, .ref a4, .ref a5, .int 0, .int 0, .int 0, .int 0, .int 0, .ref a6])), (a1, .inl (cs 0, 45783, .inl (upd (upd (upd (upd (upd (upd (upd (upd (upd (upd (upd (upd (layF (fun _ => 0) 1) 6 1) 15 1) 16 1) 17 50) 28 1) 29 0) 31 1) 30 1) 19 1) 20 1) 7 1) 28 2)))]) (1) := by
  refine KI.of cX9_of 3 (some .int) (by decide) rfl (Nat.le_of_ble_eq_true rfl) ?_
  intro p e s m below meth c A ls hx hb hr hml hown hts hlocks hin hP hN hD hA hS hl
  have hown : s.vm.findClass RX9 = some m.cls := hown
  have hl : lv_has ls 3 [(0, .ref a0), (1, .int 0), (2, .int 0)] := hl
  refine lv_aload_n hx hb dX9_of_0 rfl (lv_at hl 0 rfl) ?_
  refine va_get (D := D) (ci := 9) (v := .ref a1) (C := RX9) (T := TX9) (N := 18) hx hb hts iX9_of_9 hown hN.1 hP 0 rfl rfl 8 (by decide) (hts _ mX9_of_1) (fun _ h9 => h9) rfl dX9_of_1 ?_
  refine lv_iload_n hx hb dX9_of_4 rfl (lv_at hl 1 rfl) ?_
  refine cs_i (As := [.int 0]) (rest := [.ref a1]) (wr := [(a0, .inr (9, [.int 0, .ref a2, .int 0, .int 0, .int 0, .int 0, .int 0, .int (-1), .ref a1, .ref a3, .ref a4, .ref a5, .int 0, .int 0, .int 0, .int 0, .int 0, .ref a6])), (a1, .inl (cs 0, 45783, .inl (upd (upd (upd (upd (upd (upd (upd (upd (upd (upd (upd (upd (layF (fun _ => 0) 1) 6 1) 15 1) 16 1) 17 50) 28 1) 29 0) 31 1) 30 1) 19 1) 20 1) 7 1) 28 2)))]) ⟨hx, hb, hml, hown, hts⟩ (fun sz => k16_X9_playerAt l D cs sz ) (va_cwS 1 hts gX9_of_X9_playerAt rfl rfl rfl hdX9_playerAt_o ⟨Nat.le_of_ble_eq_true rfl, Nat.le_of_ble_eq_true rfl⟩) hN hP hD hS hA [] [0, 1] rfl rfl rfl rfl (by decide) rfl rfl hl.1 (Nat.le_of_ble_eq_true rfl) dX9_of_5 (Nat.le_of_ble_eq_true rfl) (Nat.le_of_ble_eq_true rfl) (fun u0 H locs hP hD hS => ?_)
  have hP : va_P D vwCl [(a0, .inr (9, [.int 0, .ref a2, .int 0, .int 0, .int 0, .int 0, .int 0, .int (-1), .ref a1, .ref a3, .ref a4, .ref a5, .int 0, .int 0, .int 0, .int 0, .int 0, .ref a6])), (a1, .inl (cs 0, 45783, .inl (upd (upd (upd (upd (upd (upd (upd (upd (upd (upd (upd (upd (layF (fun _ => 0) 1) 6 1) 15 1) 16 1) 17 50) 28 1) 29 0) 31 1) 30 1) 19 1) 20 1) 7 1) 28 2)))] H := hP
  have hD : va_D A [(a0, .inr (9, [.int 0, .ref a2, .int 0, .int 0, .int 0, .int 0, .int 0, .int (-1), .ref a1, .ref a3, .ref a4, .ref a5, .int 0, .int 0, .int 0, .int 0, .int 0, .ref a6])), (a1, .inl (cs 0, 45783, .inl (upd (upd (upd (upd (upd (upd (upd (upd (upd (upd (upd (upd (layF (fun _ => 0) 1) 6 1) 15 1) 16 1) 17 50) 28 1) 29 0) 31 1) 30 1) 19 1) 20 1) 7 1) 28 2)))] := hD
  refine W.widen (k := 0) (n := 0) (Nat.le_of_ble_eq_true rfl) (Nat.le_of_ble_eq_true rfl) ?_
  refine lv_iload_n hx hb dX9_of_8 rfl (lv_at hl 2 rfl) ?_
  refine lv_iadd hx hb dX9_of_9 ?_
  refine tp_i (23) (by decide) ?_
  refine ld_i (v := 1) hx hb hN hP 1 rfl (vin (by decide +kernel)) (by first | rfl | decide +kernel) dX9_of_10 ?_
  exact en_i (fun k => ([] : List Nat).getD k 0) hx hb hr hlocks rfl rfl hP hD hS (Nat.le_of_ble_eq_true rfl) (Nat.le_of_ble_eq_true rfl) dX9_of_11
set_option maxHeartbeats 4000000 in
set_option maxRecDepth 100000 in
theorem k407_X9_isUp (l : Launch) (D : va_G) (cs : Nat → ClassId) (sz : Nat) (a0 a1 a2 a3 a4 a5 a6 : Nat) : KI l yX9_isUp wsX9_isUp 2 42 0 0 D cs sz [.ref a0, .int 0] [(a0, .inr (9, [.int 0, .ref a2, .int 0, .int 0, .int 0, .int 0, .int 0, .int (-1), .ref a1, .ref a3, .ref a4, .ref a5, .int 0, .int 0, .int 0, .int 0, .int 0, .ref a6])), (a1, .inl (cs 0, 45783, .inl (upd (upd (upd (upd (upd (upd (upd (upd (upd (upd (upd (upd (layF (fun _ => 0) 1) 6 1) 15 1) 16 1) 17 50) 28 1) 29 0) 31 1) 30 1) 19 1) 20 1) 7 1) 28 2)))] (fun u => [(a0, .inr (9, [.int 0, .ref a2, .int 0, .int 0, .int 0, .int 0, .int 0, .int (-1), .ref a1, .ref a3, .ref a4, .ref a5, .int 0, .int 0, .int 0, .int 0, .int 0, .ref a6])), (a1, .inl (cs 0, 45783, .inl (upd (upd (upd (upd (upd (upd (upd (upd (upd (upd (upd (upd (layF (fun _ => 0) 1) 6 1) 15 1) 16 1) 17 50) 28 1) 29 0) 31 1) 30 1) 19 1) 20 1) 7 1) 28 2)))]) (1) := by
  refine KI.of cX9_isUp 2 (some .boolean) (by decide) rfl (Nat.le_of_ble_eq_true rfl) ?_
  intro p e s m below meth c A ls hx hb hr hml hown hts hlocks hin hP hN hD hA hS hl
  have hown : s.vm.findClass RX9 = some m.cls := hown
  have hl : lv_has ls 2 [(0, .ref a0), (1, .int 0)] := hl
  refine lv_aload_n hx hb dX9_isUp_0 rfl (lv_at hl 0 rfl) ?_
  refine lv_iload_n hx hb dX9_isUp_1 rfl (lv_at hl 1 rfl) ?_
  refine lv_iconst (v := 0) hx hb dX9_isUp_2 (by decide) ?_
  refine cv_i (As := [.int 0, .int 0]) (rest := []) (b := a0) (wr := []) ⟨hx, hb, hml, hown, hts⟩ (fun sz => k406_X9_of l D cs sz a0 a1 a2 a3 a4 a5 a6) (cwV 2 hts gX9_isUp_X9_of rfl rfl rfl hdX9_of_v ⟨Nat.le_of_ble_eq_true rfl, Nat.le_of_ble_eq_true rfl⟩) hN hP hD hS hA [0, 1] [] rfl rfl rfl rfl (by decide) (ci := 9) (q0 := 0) rfl rfl rfl rfl hl.1 (Nat.le_of_ble_eq_true rfl) dX9_isUp_3 (Nat.le_of_ble_eq_true rfl) (Nat.le_of_ble_eq_true rfl) (fun u0 H locs hP hD hS => ?_)
  have hP : va_P D vwCl [(a0, .inr (9, [.int 0, .ref a2, .int 0, .int 0, .int 0, .int 0, .int 0, .int (-1), .ref a1, .ref a3, .ref a4, .ref a5, .int 0, .int 0, .int 0, .int 0, .int 0, .ref a6])), (a1, .inl (cs 0, 45783, .inl (upd (upd (upd (upd (upd (upd (upd (upd (upd (upd (upd (upd (layF (fun _ => 0) 1) 6 1) 15 1) 16 1) 17 50) 28 1) 29 0) 31 1) 30 1) 19 1) 20 1) 7 1) 28 2)))] H := hP
  have hD : va_D A [(a0, .inr (9, [.int 0, .ref a2, .int 0, .int 0, .int 0, .int 0, .int 0, .int (-1), .ref a1, .ref a3, .ref a4, .ref a5, .int 0, .int 0, .int 0, .int 0, .int 0, .ref a6])), (a1, .inl (cs 0, 45783, .inl (upd (upd (upd (upd (upd (upd (upd (upd (upd (upd (upd (upd (layF (fun _ => 0) 1) 6 1) 15 1) 16 1) 17 50) 28 1) 29 0) 31 1) 30 1) 19 1) 20 1) 7 1) 28 2)))] := hD
  refine W.widen (k := 0) (n := 0) (Nat.le_of_ble_eq_true rfl) (Nat.le_of_ble_eq_true rfl) ?_
  refine lv_iconst (v := 1) hx hb dX9_isUp_6 (by decide) ?_
  refine lv_icmp_ne (tgt := 14) hx hb dX9_isUp_7 (by decide) (fun c9 => absurd (by decide) c9) (fun _ => ?_)
  refine lv_iconst (v := 1) hx hb dX9_isUp_10 (by decide) ?_
  refine lv_goto (tgt := 15) hx hb dX9_isUp_11 (by decide) ?_
  exact en_i (fun k => ([] : List Nat).getD k 0) hx hb hr hlocks rfl rfl hP hD hS (Nat.le_of_ble_eq_true rfl) (Nat.le_of_ble_eq_true rfl) dX9_isUp_15
set_option maxHeartbeats 4000000 in
set_option maxRecDepth 100000 in
theorem k408_X9_of (l : Launch) (D : va_G) (cs : Nat → ClassId) (sz : Nat) (a0 a1 a2 a3 a4 a5 a6 : Nat) : KI l yX9_of wsX9_of 1 20 0 0 D cs sz [.ref a0, .int 0, .int 5] [(a0, .inr (9, [.int 0, .ref a2, .int 0, .int 0, .int 0, .int 0, .int 0, .int (-1), .ref a1, .ref a3, .ref a4, .ref a5, .int 0, .int 0, .int 0, .int 0, .int 0, .ref a6])), (a1, .inl (cs 0, 45783, .inl (upd (upd (upd (upd (upd (upd (upd (upd (upd (upd (upd (upd (layF (fun _ => 0) 1) 6 1) 15 1) 16 1) 17 50) 28 1) 29 0) 31 1) 30 1) 19 1) 20 1) 7 1) 28 2)))] (fun u => [(a0, .inr (9, [.int 0, .ref a2, .int 0, .int 0, .int 0, .int 0, .int 0, .int (-1), .ref a1, .ref a3, .ref a4, .ref a5, .int 0, .int 0, .int 0, .int 0, .int 0, .ref a6])), (a1, .inl (cs 0, 45783, .inl (upd (upd (upd (upd (upd (upd (upd (upd (upd (upd (upd (upd (layF (fun _ => 0) 1) 6 1) 15 1) 16 1) 17 50) 28 1) 29 0) 31 1) 30 1) 19 1) 20 1) 7 1) 28 2)))]) (2) := by
  refine KI.of cX9_of 3 (some .int) (by decide) rfl (Nat.le_of_ble_eq_true rfl) ?_
  intro p e s m below meth c A ls hx hb hr hml hown hts hlocks hin hP hN hD hA hS hl
  have hown : s.vm.findClass RX9 = some m.cls := hown
  have hl : lv_has ls 3 [(0, .ref a0), (1, .int 0), (2, .int 5)] := hl
  refine lv_aload_n hx hb dX9_of_0 rfl (lv_at hl 0 rfl) ?_
  refine va_get (D := D) (ci := 9) (v := .ref a1) (C := RX9) (T := TX9) (N := 18) hx hb hts iX9_of_9 hown hN.1 hP 0 rfl rfl 8 (by decide) (hts _ mX9_of_1) (fun _ h9 => h9) rfl dX9_of_1 ?_
  refine lv_iload_n hx hb dX9_of_4 rfl (lv_at hl 1 rfl) ?_
  refine cs_i (As := [.int 0]) (rest := [.ref a1]) (wr := [(a0, .inr (9, [.int 0, .ref a2, .int 0, .int 0, .int 0, .int 0, .int 0, .int (-1), .ref a1, .ref a3, .ref a4, .ref a5, .int 0, .int 0, .int 0, .int 0, .int 0, .ref a6])), (a1, .inl (cs 0, 45783, .inl (upd (upd (upd (upd (upd (upd (upd (upd (upd (upd (upd (upd (layF (fun _ => 0) 1) 6 1) 15 1) 16 1) 17 50) 28 1) 29 0) 31 1) 30 1) 19 1) 20 1) 7 1) 28 2)))]) ⟨hx, hb, hml, hown, hts⟩ (fun sz => k16_X9_playerAt l D cs sz ) (va_cwS 1 hts gX9_of_X9_playerAt rfl rfl rfl hdX9_playerAt_o ⟨Nat.le_of_ble_eq_true rfl, Nat.le_of_ble_eq_true rfl⟩) hN hP hD hS hA [] [0, 1] rfl rfl rfl rfl (by decide) rfl rfl hl.1 (Nat.le_of_ble_eq_true rfl) dX9_of_5 (Nat.le_of_ble_eq_true rfl) (Nat.le_of_ble_eq_true rfl) (fun u0 H locs hP hD hS => ?_)
  have hP : va_P D vwCl [(a0, .inr (9, [.int 0, .ref a2, .int 0, .int 0, .int 0, .int 0, .int 0, .int (-1), .ref a1, .ref a3, .ref a4, .ref a5, .int 0, .int 0, .int 0, .int 0, .int 0, .ref a6])), (a1, .inl (cs 0, 45783, .inl (upd (upd (upd (upd (upd (upd (upd (upd (upd (upd (upd (upd (layF (fun _ => 0) 1) 6 1) 15 1) 16 1) 17 50) 28 1) 29 0) 31 1) 30 1) 19 1) 20 1) 7 1) 28 2)))] H := hP
  have hD : va_D A [(a0, .inr (9, [.int 0, .ref a2, .int 0, .int 0, .int 0, .int 0, .int 0, .int (-1), .ref a1, .ref a3, .ref a4, .ref a5, .int 0, .int 0, .int 0, .int 0, .int 0, .ref a6])), (a1, .inl (cs 0, 45783, .inl (upd (upd (upd (upd (upd (upd (upd (upd (upd (upd (upd (upd (layF (fun _ => 0) 1) 6 1) 15 1) 16 1) 17 50) 28 1) 29 0) 31 1) 30 1) 19 1) 20 1) 7 1) 28 2)))] := hD
  refine W.widen (k := 0) (n := 0) (Nat.le_of_ble_eq_true rfl) (Nat.le_of_ble_eq_true rfl) ?_
  refine lv_iload_n hx hb dX9_of_8 rfl (lv_at hl 2 rfl) ?_
  refine lv_iadd hx hb dX9_of_9 ?_
  refine tp_i (28) (by decide) ?_
  refine ld_i (v := 2) hx hb hN hP 1 rfl (vin (by decide +kernel)) (by first | rfl | decide +kernel) dX9_of_10 ?_
  exact en_i (fun k => ([] : List Nat).getD k 0) hx hb hr hlocks rfl rfl hP hD hS (Nat.le_of_ble_eq_true rfl) (Nat.le_of_ble_eq_true rfl) dX9_of_11
set_option maxHeartbeats 4000000 in
set_option maxRecDepth 100000 in
theorem k409_X9_isLive (l : Launch) (D : va_G) (cs : Nat → ClassId) (sz : Nat) (a0 a1 a2 a3 a4 a5 a6 : Nat) : KI l yX9_isLive wsX9_isLive 3 63 0 0 D cs sz [.ref a0] [(a0, .inr (9, [.int 0, .ref a2, .int 0, .int 0, .int 0, .int 0, .int 0, .int (-1), .ref a1, .ref a3, .ref a4, .ref a5, .int 0, .int 0, .int 0, .int 0, .int 0, .ref a6])), (a1, .inl (cs 0, 45783, .inl (upd (upd (upd (upd (upd (upd (upd (upd (upd (upd (upd (upd (layF (fun _ => 0) 1) 6 1) 15 1) 16 1) 17 50) 28 1) 29 0) 31 1) 30 1) 19 1) 20 1) 7 1) 28 2)))] (fun u => [(a0, .inr (9, [.int 0, .ref a2, .int 0, .int 0, .int 0, .int 0, .int 0, .int (-1), .ref a1, .ref a3, .ref a4, .ref a5, .int 0, .int 0, .int 0, .int 0, .int 0, .ref a6])), (a1, .inl (cs 0, 45783, .inl (upd (upd (upd (upd (upd (upd (upd (upd (upd (upd (upd (upd (layF (fun _ => 0) 1) 6 1) 15 1) 16 1) 17 50) 28 1) 29 0) 31 1) 30 1) 19 1) 20 1) 7 1) 28 2)))]) (1) := by
  refine KI.of cX9_isLive 3 (some .boolean) (by decide) rfl (Nat.le_of_ble_eq_true rfl) ?_
  intro p e s m below meth c A ls hx hb hr hml hown hts hlocks hin hP hN hD hA hS hl
  have hown : s.vm.findClass RX9 = some m.cls := hown
  have hl : lv_has ls 3 [(0, .ref a0)] := hl
  refine lv_aload_n hx hb dX9_isLive_0 rfl (lv_at hl 0 rfl) ?_
  refine va_get (D := D) (ci := 9) (v := .ref a1) (C := RX9) (T := TX9) (N := 18) hx hb hts iX9_isLive_9 hown hN.1 hP 0 rfl rfl 8 (by decide) (hts _ mX9_isLive_1) (fun _ h9 => h9) rfl dX9_isLive_1 ?_
  refine lv_iconst (v := 3) hx hb dX9_isLive_4 (by decide) ?_
  refine ld_i (v := 0) hx hb hN hP 1 rfl (vin (by decide +kernel)) (by first | rfl | decide +kernel) dX9_isLive_5 ?_
  refine lv_if_gt (tgt := 16) hx hb dX9_isLive_6 (by decide) (fun c9 => absurd c9 (by decide)) (fun _ => ?_)
  refine lv_aload_n hx hb dX9_isLive_9 rfl (lv_at hl 0 rfl) ?_
  refine cv_i (As := []) (rest := []) (b := a0) (wr := []) ⟨hx, hb, hml, hown, hts⟩ (fun sz => k405_X9_isOpen l D cs sz a0 a1 a2 a3 a4 a5 a6) (cwV 0 hts gX9_isLive_X9_isOpen rfl rfl rfl hdX9_isOpen_v ⟨Nat.le_of_ble_eq_true rfl, Nat.le_of_ble_eq_true rfl⟩) hN hP hD hS hA [0, 1] [] rfl rfl rfl rfl (by decide) (ci := 9) (q0 := 0) rfl rfl rfl rfl hl.1 (Nat.le_of_ble_eq_true rfl) dX9_isLive_10 (Nat.le_of_ble_eq_true rfl) (Nat.le_of_ble_eq_true rfl) (fun u0 H locs hP hD hS => ?_)
  have hP : va_P D vwCl [(a0, .inr (9, [.int 0, .ref a2, .int 0, .int 0, .int 0, .int 0, .int 0, .int (-1), .ref a1, .ref a3, .ref a4, .ref a5, .int 0, .int 0, .int 0, .int 0, .int 0, .ref a6])), (a1, .inl (cs 0, 45783, .inl (upd (upd (upd (upd (upd (upd (upd (upd (upd (upd (upd (upd (layF (fun _ => 0) 1) 6 1) 15 1) 16 1) 17 50) 28 1) 29 0) 31 1) 30 1) 19 1) 20 1) 7 1) 28 2)))] H := hP
  have hD : va_D A [(a0, .inr (9, [.int 0, .ref a2, .int 0, .int 0, .int 0, .int 0, .int 0, .int (-1), .ref a1, .ref a3, .ref a4, .ref a5, .int 0, .int 0, .int 0, .int 0, .int 0, .ref a6])), (a1, .inl (cs 0, 45783, .inl (upd (upd (upd (upd (upd (upd (upd (upd (upd (upd (upd (upd (layF (fun _ => 0) 1) 6 1) 15 1) 16 1) 17 50) 28 1) 29 0) 31 1) 30 1) 19 1) 20 1) 7 1) 28 2)))] := hD
  refine W.widen (k := 0) (n := 0) (Nat.le_of_ble_eq_true rfl) (Nat.le_of_ble_eq_true rfl) ?_
  refine lv_if_eq (tgt := 20) hx hb dX9_isLive_13 (by decide) (fun _ => ?_) (fun c9 => absurd (by decide) c9)
  refine lv_iconst (v := 0) hx hb dX9_isLive_20 (by decide) ?_
  refine lv_istore_n (lv' := [(1, .int 0), (0, .ref a0)]) hx hb dX9_isLive_21 rfl hl (by decide) rfl (fun ls hl => ?_)
  refine lv_iconst (v := 0) hx hb dX9_isLive_22 (by decide) ?_
  refine lv_istore_n (lv' := [(2, .int 0), (1, .int 0), (0, .ref a0)]) hx hb dX9_isLive_23 rfl hl (by decide) rfl (fun ls hl => ?_)
  refine lv_iload_n hx hb dX9_isLive_24 rfl (lv_at hl 0 rfl) ?_
  refine lv_aload_n hx hb dX9_isLive_25 rfl (lv_at hl 2 rfl) ?_
  refine va_get (D := D) (ci := 9) (v := .ref a1) (C := RX9) (T := TX9) (N := 18) hx hb hts iX9_isLive_9 hown hN.1 hP 0 rfl rfl 8 (by decide) (hts _ mX9_isLive_1) (fun _ h9 => h9) rfl dX9_isLive_26 ?_
  refine lv_iconst (v := 0) hx hb dX9_isLive_29 (by decide) ?_
  refine ld_i (v := 1) hx hb hN hP 1 rfl (vin (by decide +kernel)) (by first | rfl | decide +kernel) dX9_isLive_30 ?_
  refine lv_icmp_ge (tgt := 66) hx hb dX9_isLive_31 (by decide) (fun c9 => absurd c9 (by decide)) (fun _ => ?_)
  refine lv_iload_n hx hb dX9_isLive_34 rfl (lv_at hl 1 rfl) ?_
  refine lv_aload_n hx hb dX9_isLive_35 rfl (lv_at hl 2 rfl) ?_
  refine lv_iload_n hx hb dX9_isLive_36 rfl (lv_at hl 0 rfl) ?_
  refine cv_i (As := [.int 0]) (rest := [.int 0]) (b := a0) (wr := []) ⟨hx, hb, hml, hown, hts⟩ (fun sz => k407_X9_isUp l D cs sz a0 a1 a2 a3 a4 a5 a6) (cwV 1 hts gX9_isLive_X9_isUp rfl rfl rfl hdX9_isUp_v ⟨Nat.le_of_ble_eq_true rfl, Nat.le_of_ble_eq_true rfl⟩) hN hP hD hS hA [0, 1] [] rfl rfl rfl rfl (by decide) (ci := 9) (q0 := 0) rfl rfl rfl rfl hl.1 (Nat.le_of_ble_eq_true rfl) dX9_isLive_37 (Nat.le_of_ble_eq_true rfl) (Nat.le_of_ble_eq_true rfl) (fun u1 H locs hP hD hS => ?_)
  have hP : va_P D vwCl [(a0, .inr (9, [.int 0, .ref a2, .int 0, .int 0, .int 0, .int 0, .int 0, .int (-1), .ref a1, .ref a3, .ref a4, .ref a5, .int 0, .int 0, .int 0, .int 0, .int 0, .ref a6])), (a1, .inl (cs 0, 45783, .inl (upd (upd (upd (upd (upd (upd (upd (upd (upd (upd (upd (upd (layF (fun _ => 0) 1) 6 1) 15 1) 16 1) 17 50) 28 1) 29 0) 31 1) 30 1) 19 1) 20 1) 7 1) 28 2)))] H := hP
  have hD : va_D A [(a0, .inr (9, [.int 0, .ref a2, .int 0, .int 0, .int 0, .int 0, .int 0, .int (-1), .ref a1, .ref a3, .ref a4, .ref a5, .int 0, .int 0, .int 0, .int 0, .int 0, .ref a6])), (a1, .inl (cs 0, 45783, .inl (upd (upd (upd (upd (upd (upd (upd (upd (upd (upd (upd (upd (layF (fun _ => 0) 1) 6 1) 15 1) 16 1) 17 50) 28 1) 29 0) 31 1) 30 1) 19 1) 20 1) 7 1) 28 2)))] := hD
  refine W.widen (k := 0) (n := 0) (Nat.le_of_ble_eq_true rfl) (Nat.le_of_ble_eq_true rfl) ?_
  refine lv_if_eq (tgt := 57) hx hb dX9_isLive_40 (by decide) (fun c9 => absurd c9 (by decide)) (fun _ => ?_)
  refine lv_aload_n hx hb dX9_isLive_43 rfl (lv_at hl 2 rfl) ?_
  refine lv_iload_n hx hb dX9_isLive_44 rfl (lv_at hl 0 rfl) ?_
  refine lv_iconst (v := 5) hx hb dX9_isLive_45 (by decide) ?_
  refine cv_i (As := [.int 0, .int 5]) (rest := [.int 0]) (b := a0) (wr := []) ⟨hx, hb, hml, hown, hts⟩ (fun sz => k408_X9_of l D cs sz a0 a1 a2 a3 a4 a5 a6) (cwV 2 hts gX9_isLive_X9_of rfl rfl rfl hdX9_of_v ⟨Nat.le_of_ble_eq_true rfl, Nat.le_of_ble_eq_true rfl⟩) hN hP hD hS hA [0, 1] [] rfl rfl rfl rfl (by decide) (ci := 9) (q0 := 0) rfl rfl rfl rfl hl.1 (Nat.le_of_ble_eq_true rfl) dX9_isLive_46 (Nat.le_of_ble_eq_true rfl) (Nat.le_of_ble_eq_true rfl) (fun u2 H locs hP hD hS => ?_)
  have hP : va_P D vwCl [(a0, .inr (9, [.int 0, .ref a2, .int 0, .int 0, .int 0, .int 0, .int 0, .int (-1), .ref a1, .ref a3, .ref a4, .ref a5, .int 0, .int 0, .int 0, .int 0, .int 0, .ref a6])), (a1, .inl (cs 0, 45783, .inl (upd (upd (upd (upd (upd (upd (upd (upd (upd (upd (upd (upd (layF (fun _ => 0) 1) 6 1) 15 1) 16 1) 17 50) 28 1) 29 0) 31 1) 30 1) 19 1) 20 1) 7 1) 28 2)))] H := hP
  have hD : va_D A [(a0, .inr (9, [.int 0, .ref a2, .int 0, .int 0, .int 0, .int 0, .int 0, .int (-1), .ref a1, .ref a3, .ref a4, .ref a5, .int 0, .int 0, .int 0, .int 0, .int 0, .ref a6])), (a1, .inl (cs 0, 45783, .inl (upd (upd (upd (upd (upd (upd (upd (upd (upd (upd (upd (upd (layF (fun _ => 0) 1) 6 1) 15 1) 16 1) 17 50) 28 1) 29 0) 31 1) 30 1) 19 1) 20 1) 7 1) 28 2)))] := hD
  refine W.widen (k := 0) (n := 0) (Nat.le_of_ble_eq_true rfl) (Nat.le_of_ble_eq_true rfl) ?_
  refine lv_iconst (v := 2) hx hb dX9_isLive_49 (by decide) ?_
  refine lv_icmp_ne (tgt := 57) hx hb dX9_isLive_50 (by decide) (fun c9 => absurd (by decide) c9) (fun _ => ?_)
  refine lv_iconst (v := 1) hx hb dX9_isLive_53 (by decide) ?_
  refine lv_goto (tgt := 58) hx hb dX9_isLive_54 (by decide) ?_
  refine lv_ior hx hb dX9_isLive_58 ?_
  refine tp_i (1) (by decide) ?_
  refine lv_istore_n (lv' := [(1, .int 1), (2, .int 0), (0, .ref a0)]) hx hb dX9_isLive_59 rfl hl (by decide) rfl (fun ls hl => ?_)
  refine lv_iinc (v := 1) (lv' := [(2, .int 1), (1, .int 1), (0, .ref a0)]) hx hb dX9_isLive_60 hl (k := 1) rfl (by decide) (by decide) rfl (fun ls hl => ?_)
  refine lv_goto (tgt := 24) hx hb dX9_isLive_63 (by decide) ?_
  refine lv_iload_n hx hb dX9_isLive_24 rfl (lv_at hl 0 rfl) ?_
  refine lv_aload_n hx hb dX9_isLive_25 rfl (lv_at hl 2 rfl) ?_
  refine va_get (D := D) (ci := 9) (v := .ref a1) (C := RX9) (T := TX9) (N := 18) hx hb hts iX9_isLive_9 hown hN.1 hP 0 rfl rfl 8 (by decide) (hts _ mX9_isLive_1) (fun _ h9 => h9) rfl dX9_isLive_26 ?_
  refine lv_iconst (v := 0) hx hb dX9_isLive_29 (by decide) ?_
  refine ld_i (v := 1) hx hb hN hP 1 rfl (vin (by decide +kernel)) (by first | rfl | decide +kernel) dX9_isLive_30 ?_
  refine lv_icmp_ge (tgt := 66) hx hb dX9_isLive_31 (by decide) (fun _ => ?_) (fun c9 => absurd (by decide) c9)
  refine lv_iload_n hx hb dX9_isLive_66 rfl (lv_at hl 1 rfl) ?_
  exact en_i (fun k => ([] : List Nat).getD k 0) hx hb hr hlocks rfl rfl hP hD hS (Nat.le_of_ble_eq_true rfl) (Nat.le_of_ble_eq_true rfl) dX9_isLive_67
theorem mX9_tick_1 : (.fieldLink RX9 18 "OneBeatModel" "data" "[I" : Cond) ∈ wsX9_tick := List.mem_of_getElem? (i := 1) (by decide +kernel)
theorem iX9_tick_9 : ∀ w ∈ wsX90, w ∈ wsX9_tick := fun w h => List.mem_of_mem_drop (List.mem_of_mem_take ((show wsX90 = (wsX9_tick.drop 69).take 18 by decide +kernel) ▸ h))
theorem mX9_handleAll_1 : (.fieldLink RX9 18 "OneBeatModel" "data" "[I" : Cond) ∈ wsX9_handleAll := List.mem_of_getElem? (i := 1) (by decide +kernel)
theorem iX9_handleAll_9 : ∀ w ∈ wsX90, w ∈ wsX9_handleAll := fun w h => List.mem_of_mem_drop (List.mem_of_mem_take ((show wsX90 = (wsX9_handleAll.drop 53).take 18 by decide +kernel) ▸ h))
set_option maxHeartbeats 4000000 in
set_option maxRecDepth 100000 in
theorem k410_X9_handleAll (l : Launch) (D : va_G) (cs : Nat → ClassId) (sz : Nat) (a0 a1 a2 a3 a4 a5 a6 : Nat) : KV l yX9_handleAll wsX9_handleAll 0 0 0 0 D cs sz [.ref a0] [(a0, .inr (9, [.int 0, .ref a2, .int 0, .int 0, .int 0, .int 0, .int 0, .int (-1), .ref a1, .ref a3, .ref a4, .ref a5, .int 0, .int 0, .int 0, .int 0, .int 0, .ref a6])), (a1, .inl (cs 0, 45783, .inl (upd (upd (upd (upd (upd (upd (upd (upd (upd (upd (upd (upd (upd (layF (fun _ => 0) 1) 6 1) 15 1) 16 1) 17 50) 28 1) 29 0) 31 1) 30 1) 19 1) 20 1) 7 1) 28 2) 1 1)))] (fun u => [(a0, .inr (9, [.int 0, .ref a2, .int 0, .int 0, .int 0, .int 0, .int 0, .int (-1), .ref a1, .ref a3, .ref a4, .ref a5, .int 0, .int 0, .int 0, .int 0, .int 0, .ref a6])), (a1, .inl (cs 0, 45783, .inl (upd (upd (upd (upd (upd (upd (upd (upd (upd (upd (upd (upd (upd (layF (fun _ => 0) 1) 6 1) 15 1) 16 1) 17 50) 28 1) 29 0) 31 1) 30 1) 19 1) 20 1) 7 1) 28 2) 1 1)))]) := by
  refine KV.of cX9_handleAll 5 none (by decide) rfl (Nat.le_of_ble_eq_true rfl) ?_
  intro p e s m below meth c A ls hx hb hr hml hown hts hlocks hin hP hN hD hA hS hl
  have hown : s.vm.findClass RX9 = some m.cls := hown
  have hl : lv_has ls 5 [(0, .ref a0)] := hl
  refine lv_aload_n hx hb dX9_handleAll_0 rfl (lv_at hl 0 rfl) ?_
  refine va_get (D := D) (ci := 9) (v := .ref a1) (C := RX9) (T := TX9) (N := 18) hx hb hts iX9_handleAll_9 hown hN.1 hP 0 rfl rfl 8 (by decide) (hts _ mX9_handleAll_1) (fun _ h9 => h9) rfl dX9_handleAll_1 ?_
  refine lv_iconst (v := 3) hx hb dX9_handleAll_4 (by decide) ?_
  refine ld_i (v := 0) hx hb hN hP 1 rfl (vin (by decide +kernel)) (by first | rfl | decide +kernel) dX9_handleAll_5 ?_
  refine lv_istore_n (lv' := [(1, .int 0), (0, .ref a0)]) hx hb dX9_handleAll_6 rfl hl (by decide) rfl (fun ls hl => ?_)
  refine lv_iconst (v := 0) hx hb dX9_handleAll_7 (by decide) ?_
  refine lv_istore_n (lv' := [(2, .int 0), (1, .int 0), (0, .ref a0)]) hx hb dX9_handleAll_8 rfl hl (by decide) rfl (fun ls hl => ?_)
  refine lv_iload_n hx hb dX9_handleAll_9 rfl (lv_at hl 0 rfl) ?_
  refine lv_iload_n hx hb dX9_handleAll_10 rfl (lv_at hl 1 rfl) ?_
  refine lv_icmp_ge (tgt := 102) hx hb dX9_handleAll_11 (by decide) (fun _ => ?_) (fun c9 => absurd (by decide) c9)
  refine lv_iconst (v := 0) hx hb dX9_handleAll_102 (by decide) ?_
  refine lv_istore_n (lv' := [(2, .int 0), (1, .int 0), (0, .ref a0)]) hx hb dX9_handleAll_103 rfl hl (by decide) rfl (fun ls hl => ?_)
  refine lv_iconst (v := 0) hx hb dX9_handleAll_104 (by decide) ?_
  refine lv_istore_n (lv' := [(3, .int 0), (2, .int 0), (1, .int 0), (0, .ref a0)]) hx hb dX9_handleAll_105 rfl hl (by decide) rfl (fun ls hl => ?_)
  refine lv_iload_n hx hb dX9_handleAll_106 rfl (lv_at hl 0 rfl) ?_
  refine lv_aload_n hx hb dX9_handleAll_107 rfl (lv_at hl 3 rfl) ?_
  refine va_get (D := D) (ci := 9) (v := .ref a1) (C := RX9) (T := TX9) (N := 18) hx hb hts iX9_handleAll_9 hown hN.1 hP 0 rfl rfl 8 (by decide) (hts _ mX9_handleAll_1) (fun _ h9 => h9) rfl dX9_handleAll_108 ?_
  refine lv_iconst (v := 3) hx hb dX9_handleAll_111 (by decide) ?_
  refine ld_i (v := 0) hx hb hN hP 1 rfl (vin (by decide +kernel)) (by first | rfl | decide +kernel) dX9_handleAll_112 ?_
  refine lv_icmp_ge (tgt := 200) hx hb dX9_handleAll_113 (by decide) (fun _ => ?_) (fun c9 => absurd (by decide) c9)
  refine lv_aload_n hx hb dX9_handleAll_200 rfl (lv_at hl 3 rfl) ?_
  refine va_get (D := D) (ci := 9) (v := .ref a1) (C := RX9) (T := TX9) (N := 18) hx hb hts iX9_handleAll_9 hown hN.1 hP 0 rfl rfl 8 (by decide) (hts _ mX9_handleAll_1) (fun _ h9 => h9) rfl dX9_handleAll_201 ?_
  refine lv_iconst (v := 3) hx hb dX9_handleAll_204 (by decide) ?_
  refine lv_iload_n hx hb dX9_handleAll_205 rfl (lv_at hl 1 rfl) ?_
  refine st_i (g := (upd (upd (upd (upd (upd (upd (upd (upd (upd (upd (upd (upd (upd (layF (fun _ => 0) 1) 6 1) 15 1) 16 1) 17 50) 28 1) 29 0) 31 1) 30 1) 19 1) 20 1) 7 1) 28 2) 1 1)) hx hb hN hP hD hS 1 rfl (vin (by decide +kernel)) (upd_id (by first | rfl | decide +kernel)) dX9_handleAll_206 (fun H locs hP hD hS => ?_)
  have hP : va_P D vwCl [(a0, .inr (9, [.int 0, .ref a2, .int 0, .int 0, .int 0, .int 0, .int 0, .int (-1), .ref a1, .ref a3, .ref a4, .ref a5, .int 0, .int 0, .int 0, .int 0, .int 0, .ref a6])), (a1, .inl (cs 0, 45783, .inl (upd (upd (upd (upd (upd (upd (upd (upd (upd (upd (upd (upd (upd (layF (fun _ => 0) 1) 6 1) 15 1) 16 1) 17 50) 28 1) 29 0) 31 1) 30 1) 19 1) 20 1) 7 1) 28 2) 1 1)))] H := hP
  have hD : va_D A [(a0, .inr (9, [.int 0, .ref a2, .int 0, .int 0, .int 0, .int 0, .int 0, .int (-1), .ref a1, .ref a3, .ref a4, .ref a5, .int 0, .int 0, .int 0, .int 0, .int 0, .ref a6])), (a1, .inl (cs 0, 45783, .inl (upd (upd (upd (upd (upd (upd (upd (upd (upd (upd (upd (upd (upd (layF (fun _ => 0) 1) 6 1) 15 1) 16 1) 17 50) 28 1) 29 0) 31 1) 30 1) 19 1) 20 1) 7 1) 28 2) 1 1)))] := hD
  exact en_v (fun k => ([] : List Nat).getD k 0) hx hb hr hlocks hP hD hS (Nat.le_of_ble_eq_true rfl) (Nat.le_of_ble_eq_true rfl) dX9_handleAll_207
set_option maxHeartbeats 4000000 in
set_option maxRecDepth 100000 in
theorem k411_X9_isOpen (l : Launch) (D : va_G) (cs : Nat → ClassId) (sz : Nat) (a0 a1 a2 a3 a4 a5 a6 : Nat) : KI l yX9_isOpen wsX9_isOpen 0 0 0 0 D cs sz [.ref a0] [(a0, .inr (9, [.int 0, .ref a2, .int 0, .int 0, .int 0, .int 0, .int 0, .int (-1), .ref a1, .ref a3, .ref a4, .ref a5, .int 0, .int 0, .int 0, .int 0, .int 0, .ref a6])), (a1, .inl (cs 0, 45783, .inl (upd (upd (upd (upd (upd (upd (upd (upd (upd (upd (upd (upd (upd (layF (fun _ => 0) 1) 6 1) 15 1) 16 1) 17 50) 28 1) 29 0) 31 1) 30 1) 19 1) 20 1) 7 1) 28 2) 1 1)))] (fun u => [(a0, .inr (9, [.int 0, .ref a2, .int 0, .int 0, .int 0, .int 0, .int 0, .int (-1), .ref a1, .ref a3, .ref a4, .ref a5, .int 0, .int 0, .int 0, .int 0, .int 0, .ref a6])), (a1, .inl (cs 0, 45783, .inl (upd (upd (upd (upd (upd (upd (upd (upd (upd (upd (upd (upd (upd (layF (fun _ => 0) 1) 6 1) 15 1) 16 1) 17 50) 28 1) 29 0) 31 1) 30 1) 19 1) 20 1) 7 1) 28 2) 1 1)))]) (0) := by
  refine KI.of cX9_isOpen 1 (some .boolean) (by decide) rfl (Nat.le_of_ble_eq_true rfl) ?_
  intro p e s m below meth c A ls hx hb hr hml hown hts hlocks hin hP hN hD hA hS hl
  have hown : s.vm.findClass RX9 = some m.cls := hown
  have hl : lv_has ls 1 [(0, .ref a0)] := hl
  refine lv_aload_n hx hb dX9_isOpen_0 rfl (lv_at hl 0 rfl) ?_
  refine va_get (D := D) (ci := 9) (v := .ref a1) (C := RX9) (T := TX9) (N := 18) hx hb hts iX9_isOpen_9 hown hN.1 hP 0 rfl rfl 8 (by decide) (hts _ mX9_isOpen_1) (fun _ h9 => h9) rfl dX9_isOpen_1 ?_
  refine lv_bipush (v := 6) hx hb dX9_isOpen_4 (by decide) ?_
  refine ld_i (v := 1) hx hb hN hP 1 rfl (vin (by decide +kernel)) (by first | rfl | decide +kernel) dX9_isOpen_6 ?_
  refine lv_if_le (tgt := 24) hx hb dX9_isOpen_7 (by decide) (fun c9 => absurd c9 (by decide)) (fun _ => ?_)
  refine lv_aload_n hx hb dX9_isOpen_10 rfl (lv_at hl 0 rfl) ?_
  refine va_get (D := D) (ci := 9) (v := .ref a1) (C := RX9) (T := TX9) (N := 18) hx hb hts iX9_isOpen_9 hown hN.1 hP 0 rfl rfl 8 (by decide) (hts _ mX9_isOpen_1) (fun _ h9 => h9) rfl dX9_isOpen_11 ?_
  refine lv_bipush (v := 20) hx hb dX9_isOpen_14 (by decide) ?_
  refine ld_i (v := 1) hx hb hN hP 1 rfl (vin (by decide +kernel)) (by first | rfl | decide +kernel) dX9_isOpen_16 ?_
  refine lv_if_ne (tgt := 24) hx hb dX9_isOpen_17 (by decide) (fun _ => ?_) (fun c9 => absurd c9 (by decide))
  refine lv_iconst (v := 0) hx hb dX9_isOpen_24 (by decide) ?_
  exact en_i (fun k => ([] : List Nat).getD k 0) hx hb hr hlocks rfl rfl hP hD hS (Nat.le_of_ble_eq_true rfl) (Nat.le_of_ble_eq_true rfl) dX9_isOpen_25
set_option maxHeartbeats 4000000 in
set_option maxRecDepth 100000 in
theorem k412_X9_of (l : Launch) (D : va_G) (cs : Nat → ClassId) (sz : Nat) (a0 a1 a2 a3 a4 a5 a6 : Nat) : KI l yX9_of wsX9_of 1 20 0 0 D cs sz [.ref a0, .int 0, .int 0] [(a0, .inr (9, [.int 0, .ref a2, .int 0, .int 0, .int 0, .int 0, .int 0, .int (-1), .ref a1, .ref a3, .ref a4, .ref a5, .int 0, .int 0, .int 0, .int 0, .int 0, .ref a6])), (a1, .inl (cs 0, 45783, .inl (upd (upd (upd (upd (upd (upd (upd (upd (upd (upd (upd (upd (upd (layF (fun _ => 0) 1) 6 1) 15 1) 16 1) 17 50) 28 1) 29 0) 31 1) 30 1) 19 1) 20 1) 7 1) 28 2) 1 1)))] (fun u => [(a0, .inr (9, [.int 0, .ref a2, .int 0, .int 0, .int 0, .int 0, .int 0, .int (-1), .ref a1, .ref a3, .ref a4, .ref a5, .int 0, .int 0, .int 0, .int 0, .int 0, .ref a6])), (a1, .inl (cs 0, 45783, .inl (upd (upd (upd (upd (upd (upd (upd (upd (upd (upd (upd (upd (upd (layF (fun _ => 0) 1) 6 1) 15 1) 16 1) 17 50) 28 1) 29 0) 31 1) 30 1) 19 1) 20 1) 7 1) 28 2) 1 1)))]) (1) := by
  refine KI.of cX9_of 3 (some .int) (by decide) rfl (Nat.le_of_ble_eq_true rfl) ?_
  intro p e s m below meth c A ls hx hb hr hml hown hts hlocks hin hP hN hD hA hS hl
  have hown : s.vm.findClass RX9 = some m.cls := hown
  have hl : lv_has ls 3 [(0, .ref a0), (1, .int 0), (2, .int 0)] := hl
  refine lv_aload_n hx hb dX9_of_0 rfl (lv_at hl 0 rfl) ?_
  refine va_get (D := D) (ci := 9) (v := .ref a1) (C := RX9) (T := TX9) (N := 18) hx hb hts iX9_of_9 hown hN.1 hP 0 rfl rfl 8 (by decide) (hts _ mX9_of_1) (fun _ h9 => h9) rfl dX9_of_1 ?_
  refine lv_iload_n hx hb dX9_of_4 rfl (lv_at hl 1 rfl) ?_
  refine cs_i (As := [.int 0]) (rest := [.ref a1]) (wr := [(a0, .inr (9, [.int 0, .ref a2, .int 0, .int 0, .int 0, .int 0, .int 0, .int (-1), .ref a1, .ref a3, .ref a4, .ref a5, .int 0, .int 0, .int 0, .int 0, .int 0, .ref a6])), (a1, .inl (cs 0, 45783, .inl (upd (upd (upd (upd (upd (upd (upd (upd (upd (upd (upd (upd (upd (layF (fun _ => 0) 1) 6 1) 15 1) 16 1) 17 50) 28 1) 29 0) 31 1) 30 1) 19 1) 20 1) 7 1) 28 2) 1 1)))]) ⟨hx, hb, hml, hown, hts⟩ (fun sz => k16_X9_playerAt l D cs sz ) (va_cwS 1 hts gX9_of_X9_playerAt rfl rfl rfl hdX9_playerAt_o ⟨Nat.le_of_ble_eq_true rfl, Nat.le_of_ble_eq_true rfl⟩) hN hP hD hS hA [] [0, 1] rfl rfl rfl rfl (by decide) rfl rfl hl.1 (Nat.le_of_ble_eq_true rfl) dX9_of_5 (Nat.le_of_ble_eq_true rfl) (Nat.le_of_ble_eq_true rfl) (fun u0 H locs hP hD hS => ?_)
  have hP : va_P D vwCl [(a0, .inr (9, [.int 0, .ref a2, .int 0, .int 0, .int 0, .int 0, .int 0, .int (-1), .ref a1, .ref a3, .ref a4, .ref a5, .int 0, .int 0, .int 0, .int 0, .int 0, .ref a6])), (a1, .inl (cs 0, 45783, .inl (upd (upd (upd (upd (upd (upd (upd (upd (upd (upd (upd (upd (upd (layF (fun _ => 0) 1) 6 1) 15 1) 16 1) 17 50) 28 1) 29 0) 31 1) 30 1) 19 1) 20 1) 7 1) 28 2) 1 1)))] H := hP
  have hD : va_D A [(a0, .inr (9, [.int 0, .ref a2, .int 0, .int 0, .int 0, .int 0, .int 0, .int (-1), .ref a1, .ref a3, .ref a4, .ref a5, .int 0, .int 0, .int 0, .int 0, .int 0, .ref a6])), (a1, .inl (cs 0, 45783, .inl (upd (upd (upd (upd (upd (upd (upd (upd (upd (upd (upd (upd (upd (layF (fun _ => 0) 1) 6 1) 15 1) 16 1) 17 50) 28 1) 29 0) 31 1) 30 1) 19 1) 20 1) 7 1) 28 2) 1 1)))] := hD
  refine W.widen (k := 0) (n := 0) (Nat.le_of_ble_eq_true rfl) (Nat.le_of_ble_eq_true rfl) ?_
  refine lv_iload_n hx hb dX9_of_8 rfl (lv_at hl 2 rfl) ?_
  refine lv_iadd hx hb dX9_of_9 ?_
  refine tp_i (23) (by decide) ?_
  refine ld_i (v := 1) hx hb hN hP 1 rfl (vin (by decide +kernel)) (by first | rfl | decide +kernel) dX9_of_10 ?_
  exact en_i (fun k => ([] : List Nat).getD k 0) hx hb hr hlocks rfl rfl hP hD hS (Nat.le_of_ble_eq_true rfl) (Nat.le_of_ble_eq_true rfl) dX9_of_11
set_option maxHeartbeats 4000000 in
set_option maxRecDepth 100000 in
theorem k413_X9_isUp (l : Launch) (D : va_G) (cs : Nat → ClassId) (sz : Nat) (a0 a1 a2 a3 a4 a5 a6 : Nat) : KI l yX9_isUp wsX9_isUp 2 42 0 0 D cs sz [.ref a0, .int 0] [(a0, .inr (9, [.int 0, .ref a2, .int 0, .int 0, .int 0, .int 0, .int 0, .int (-1), .ref a1, .ref a3, .ref a4, .ref a5, .int 0, .int 0, .int 0, .int 0, .int 0, .ref a6])), (a1, .inl (cs 0, 45783, .inl (upd (upd (upd (upd (upd (upd (upd (upd (upd (upd (upd (upd (upd (layF (fun _ => 0) 1) 6 1) 15 1) 16 1) 17 50) 28 1) 29 0) 31 1) 30 1) 19 1) 20 1) 7 1) 28 2) 1 1)))] (fun u => [(a0, .inr (9, [.int 0, .ref a2, .int 0, .int 0, .int 0, .int 0, .int 0, .int (-1), .ref a1, .ref a3, .ref a4, .ref a5, .int 0, .int 0, .int 0, .int 0, .int 0, .ref a6])), (a1, .inl (cs 0, 45783, .inl (upd (upd (upd (upd (upd (upd (upd (upd (upd (upd (upd (upd (upd (layF (fun _ => 0) 1) 6 1) 15 1) 16 1) 17 50) 28 1) 29 0) 31 1) 30 1) 19 1) 20 1) 7 1) 28 2) 1 1)))]) (1) := by
  refine KI.of cX9_isUp 2 (some .boolean) (by decide) rfl (Nat.le_of_ble_eq_true rfl) ?_
  intro p e s m below meth c A ls hx hb hr hml hown hts hlocks hin hP hN hD hA hS hl
  have hown : s.vm.findClass RX9 = some m.cls := hown
  have hl : lv_has ls 2 [(0, .ref a0), (1, .int 0)] := hl
  refine lv_aload_n hx hb dX9_isUp_0 rfl (lv_at hl 0 rfl) ?_
  refine lv_iload_n hx hb dX9_isUp_1 rfl (lv_at hl 1 rfl) ?_
  refine lv_iconst (v := 0) hx hb dX9_isUp_2 (by decide) ?_
  refine cv_i (As := [.int 0, .int 0]) (rest := []) (b := a0) (wr := []) ⟨hx, hb, hml, hown, hts⟩ (fun sz => k412_X9_of l D cs sz a0 a1 a2 a3 a4 a5 a6) (cwV 2 hts gX9_isUp_X9_of rfl rfl rfl hdX9_of_v ⟨Nat.le_of_ble_eq_true rfl, Nat.le_of_ble_eq_true rfl⟩) hN hP hD hS hA [0, 1] [] rfl rfl rfl rfl (by decide) (ci := 9) (q0 := 0) rfl rfl rfl rfl hl.1 (Nat.le_of_ble_eq_true rfl) dX9_isUp_3 (Nat.le_of_ble_eq_true rfl) (Nat.le_of_ble_eq_true rfl) (fun u0 H locs hP hD hS => ?_)
  have hP : va_P D vwCl [(a0, .inr (9, [.int 0, .ref a2, .int 0, .int 0, .int 0, .int 0, .int 0, .int (-1), .ref a1, .ref a3, .ref a4, .ref a5, .int 0, .int 0, .int 0, .int 0, .int 0, .ref a6])), (a1, .inl (cs 0, 45783, .inl (upd (upd (upd (upd (upd (upd (upd (upd (upd (upd (upd (upd (upd (layF (fun _ => 0) 1) 6 1) 15 1) 16 1) 17 50) 28 1) 29 0) 31 1) 30 1) 19 1) 20 1) 7 1) 28 2) 1 1)))] H := hP
  have hD : va_D A [(a0, .inr (9, [.int 0, .ref a2, .int 0, .int 0, .int 0, .int 0, .int 0, .int (-1), .ref a1, .ref a3, .ref a4, .ref a5, .int 0, .int 0, .int 0, .int 0, .int 0, .ref a6])), (a1, .inl (cs 0, 45783, .inl (upd (upd (upd (upd (upd (upd (upd (upd (upd (upd (upd (upd (upd (layF (fun _ => 0) 1) 6 1) 15 1) 16 1) 17 50) 28 1) 29 0) 31 1) 30 1) 19 1) 20 1) 7 1) 28 2) 1 1)))] := hD
  refine W.widen (k := 0) (n := 0) (Nat.le_of_ble_eq_true rfl) (Nat.le_of_ble_eq_true rfl) ?_
  refine lv_iconst (v := 1) hx hb dX9_isUp_6 (by decide) ?_
  refine lv_icmp_ne (tgt := 14) hx hb dX9_isUp_7 (by decide) (fun c9 => absurd (by decide) c9) (fun _ => ?_)
  refine lv_iconst (v := 1) hx hb dX9_isUp_10 (by decide) ?_
  refine lv_goto (tgt := 15) hx hb dX9_isUp_11 (by decide) ?_
  exact en_i (fun k => ([] : List Nat).getD k 0) hx hb hr hlocks rfl rfl hP hD hS (Nat.le_of_ble_eq_true rfl) (Nat.le_of_ble_eq_true rfl) dX9_isUp_15
set_option maxHeartbeats 4000000 in
set_option maxRecDepth 100000 in
theorem k414_X9_of (l : Launch) (D : va_G) (cs : Nat → ClassId) (sz : Nat) (a0 a1 a2 a3 a4 a5 a6 : Nat) : KI l yX9_of wsX9_of 1 20 0 0 D cs sz [.ref a0, .int 0, .int 5] [(a0, .inr (9, [.int 0, .ref a2, .int 0, .int 0, .int 0, .int 0, .int 0, .int (-1), .ref a1, .ref a3, .ref a4, .ref a5, .int 0, .int 0, .int 0, .int 0, .int 0, .ref a6])), (a1, .inl (cs 0, 45783, .inl (upd (upd (upd (upd (upd (upd (upd (upd (upd (upd (upd (upd (upd (layF (fun _ => 0) 1) 6 1) 15 1) 16 1) 17 50) 28 1) 29 0) 31 1) 30 1) 19 1) 20 1) 7 1) 28 2) 1 1)))] (fun u => [(a0, .inr (9, [.int 0, .ref a2, .int 0, .int 0, .int 0, .int 0, .int 0, .int (-1), .ref a1, .ref a3, .ref a4, .ref a5, .int 0, .int 0, .int 0, .int 0, .int 0, .ref a6])), (a1, .inl (cs 0, 45783, .inl (upd (upd (upd (upd (upd (upd (upd (upd (upd (upd (upd (upd (upd (layF (fun _ => 0) 1) 6 1) 15 1) 16 1) 17 50) 28 1) 29 0) 31 1) 30 1) 19 1) 20 1) 7 1) 28 2) 1 1)))]) (2) := by
  refine KI.of cX9_of 3 (some .int) (by decide) rfl (Nat.le_of_ble_eq_true rfl) ?_
  intro p e s m below meth c A ls hx hb hr hml hown hts hlocks hin hP hN hD hA hS hl
  have hown : s.vm.findClass RX9 = some m.cls := hown
  have hl : lv_has ls 3 [(0, .ref a0), (1, .int 0), (2, .int 5)] := hl
  refine lv_aload_n hx hb dX9_of_0 rfl (lv_at hl 0 rfl) ?_
  refine va_get (D := D) (ci := 9) (v := .ref a1) (C := RX9) (T := TX9) (N := 18) hx hb hts iX9_of_9 hown hN.1 hP 0 rfl rfl 8 (by decide) (hts _ mX9_of_1) (fun _ h9 => h9) rfl dX9_of_1 ?_
  refine lv_iload_n hx hb dX9_of_4 rfl (lv_at hl 1 rfl) ?_
  refine cs_i (As := [.int 0]) (rest := [.ref a1]) (wr := [(a0, .inr (9, [.int 0, .ref a2, .int 0, .int 0, .int 0, .int 0, .int 0, .int (-1), .ref a1, .ref a3, .ref a4, .ref a5, .int 0, .int 0, .int 0, .int 0, .int 0, .ref a6])), (a1, .inl (cs 0, 45783, .inl (upd (upd (upd (upd (upd (upd (upd (upd (upd (upd (upd (upd (upd (layF (fun _ => 0) 1) 6 1) 15 1) 16 1) 17 50) 28 1) 29 0) 31 1) 30 1) 19 1) 20 1) 7 1) 28 2) 1 1)))]) ⟨hx, hb, hml, hown, hts⟩ (fun sz => k16_X9_playerAt l D cs sz ) (va_cwS 1 hts gX9_of_X9_playerAt rfl rfl rfl hdX9_playerAt_o ⟨Nat.le_of_ble_eq_true rfl, Nat.le_of_ble_eq_true rfl⟩) hN hP hD hS hA [] [0, 1] rfl rfl rfl rfl (by decide) rfl rfl hl.1 (Nat.le_of_ble_eq_true rfl) dX9_of_5 (Nat.le_of_ble_eq_true rfl) (Nat.le_of_ble_eq_true rfl) (fun u0 H locs hP hD hS => ?_)
  have hP : va_P D vwCl [(a0, .inr (9, [.int 0, .ref a2, .int 0, .int 0, .int 0, .int 0, .int 0, .int (-1), .ref a1, .ref a3, .ref a4, .ref a5, .int 0, .int 0, .int 0, .int 0, .int 0, .ref a6])), (a1, .inl (cs 0, 45783, .inl (upd (upd (upd (upd (upd (upd (upd (upd (upd (upd (upd (upd (upd (layF (fun _ => 0) 1) 6 1) 15 1) 16 1) 17 50) 28 1) 29 0) 31 1) 30 1) 19 1) 20 1) 7 1) 28 2) 1 1)))] H := hP
  have hD : va_D A [(a0, .inr (9, [.int 0, .ref a2, .int 0, .int 0, .int 0, .int 0, .int 0, .int (-1), .ref a1, .ref a3, .ref a4, .ref a5, .int 0, .int 0, .int 0, .int 0, .int 0, .ref a6])), (a1, .inl (cs 0, 45783, .inl (upd (upd (upd (upd (upd (upd (upd (upd (upd (upd (upd (upd (upd (layF (fun _ => 0) 1) 6 1) 15 1) 16 1) 17 50) 28 1) 29 0) 31 1) 30 1) 19 1) 20 1) 7 1) 28 2) 1 1)))] := hD
  refine W.widen (k := 0) (n := 0) (Nat.le_of_ble_eq_true rfl) (Nat.le_of_ble_eq_true rfl) ?_
  refine lv_iload_n hx hb dX9_of_8 rfl (lv_at hl 2 rfl) ?_
  refine lv_iadd hx hb dX9_of_9 ?_
  refine tp_i (28) (by decide) ?_
  refine ld_i (v := 2) hx hb hN hP 1 rfl (vin (by decide +kernel)) (by first | rfl | decide +kernel) dX9_of_10 ?_
  exact en_i (fun k => ([] : List Nat).getD k 0) hx hb hr hlocks rfl rfl hP hD hS (Nat.le_of_ble_eq_true rfl) (Nat.le_of_ble_eq_true rfl) dX9_of_11
set_option maxHeartbeats 4000000 in
set_option maxRecDepth 100000 in
theorem k415_X9_of (l : Launch) (D : va_G) (cs : Nat → ClassId) (sz : Nat) (a0 a1 a2 a3 a4 a5 a6 : Nat) : KI l yX9_of wsX9_of 1 20 0 0 D cs sz [.ref a0, .int 0, .int 1] [(a0, .inr (9, [.int 0, .ref a2, .int 0, .int 0, .int 0, .int 0, .int 0, .int (-1), .ref a1, .ref a3, .ref a4, .ref a5, .int 0, .int 0, .int 0, .int 0, .int 0, .ref a6])), (a1, .inl (cs 0, 45783, .inl (upd (upd (upd (upd (upd (upd (upd (upd (upd (upd (upd (upd (upd (layF (fun _ => 0) 1) 6 1) 15 1) 16 1) 17 50) 28 1) 29 0) 31 1) 30 1) 19 1) 20 1) 7 1) 28 2) 1 1)))] (fun u => [(a0, .inr (9, [.int 0, .ref a2, .int 0, .int 0, .int 0, .int 0, .int 0, .int (-1), .ref a1, .ref a3, .ref a4, .ref a5, .int 0, .int 0, .int 0, .int 0, .int 0, .ref a6])), (a1, .inl (cs 0, 45783, .inl (upd (upd (upd (upd (upd (upd (upd (upd (upd (upd (upd (upd (upd (layF (fun _ => 0) 1) 6 1) 15 1) 16 1) 17 50) 28 1) 29 0) 31 1) 30 1) 19 1) 20 1) 7 1) 28 2) 1 1)))]) (0) := by
  refine KI.of cX9_of 3 (some .int) (by decide) rfl (Nat.le_of_ble_eq_true rfl) ?_
  intro p e s m below meth c A ls hx hb hr hml hown hts hlocks hin hP hN hD hA hS hl
  have hown : s.vm.findClass RX9 = some m.cls := hown
  have hl : lv_has ls 3 [(0, .ref a0), (1, .int 0), (2, .int 1)] := hl
  refine lv_aload_n hx hb dX9_of_0 rfl (lv_at hl 0 rfl) ?_
  refine va_get (D := D) (ci := 9) (v := .ref a1) (C := RX9) (T := TX9) (N := 18) hx hb hts iX9_of_9 hown hN.1 hP 0 rfl rfl 8 (by decide) (hts _ mX9_of_1) (fun _ h9 => h9) rfl dX9_of_1 ?_
  refine lv_iload_n hx hb dX9_of_4 rfl (lv_at hl 1 rfl) ?_
  refine cs_i (As := [.int 0]) (rest := [.ref a1]) (wr := [(a0, .inr (9, [.int 0, .ref a2, .int 0, .int 0, .int 0, .int 0, .int 0, .int (-1), .ref a1, .ref a3, .ref a4, .ref a5, .int 0, .int 0, .int 0, .int 0, .int 0, .ref a6])), (a1, .inl (cs 0, 45783, .inl (upd (upd (upd (upd (upd (upd (upd (upd (upd (upd (upd (upd (upd (layF (fun _ => 0) 1) 6 1) 15 1) 16 1) 17 50) 28 1) 29 0) 31 1) 30 1) 19 1) 20 1) 7 1) 28 2) 1 1)))]) ⟨hx, hb, hml, hown, hts⟩ (fun sz => k16_X9_playerAt l D cs sz ) (va_cwS 1 hts gX9_of_X9_playerAt rfl rfl rfl hdX9_playerAt_o ⟨Nat.le_of_ble_eq_true rfl, Nat.le_of_ble_eq_true rfl⟩) hN hP hD hS hA [] [0, 1] rfl rfl rfl rfl (by decide) rfl rfl hl.1 (Nat.le_of_ble_eq_true rfl) dX9_of_5 (Nat.le_of_ble_eq_true rfl) (Nat.le_of_ble_eq_true rfl) (fun u0 H locs hP hD hS => ?_)
  have hP : va_P D vwCl [(a0, .inr (9, [.int 0, .ref a2, .int 0, .int 0, .int 0, .int 0, .int 0, .int (-1), .ref a1, .ref a3, .ref a4, .ref a5, .int 0, .int 0, .int 0, .int 0, .int 0, .ref a6])), (a1, .inl (cs 0, 45783, .inl (upd (upd (upd (upd (upd (upd (upd (upd (upd (upd (upd (upd (upd (layF (fun _ => 0) 1) 6 1) 15 1) 16 1) 17 50) 28 1) 29 0) 31 1) 30 1) 19 1) 20 1) 7 1) 28 2) 1 1)))] H := hP
  have hD : va_D A [(a0, .inr (9, [.int 0, .ref a2, .int 0, .int 0, .int 0, .int 0, .int 0, .int (-1), .ref a1, .ref a3, .ref a4, .ref a5, .int 0, .int 0, .int 0, .int 0, .int 0, .ref a6])), (a1, .inl (cs 0, 45783, .inl (upd (upd (upd (upd (upd (upd (upd (upd (upd (upd (upd (upd (upd (layF (fun _ => 0) 1) 6 1) 15 1) 16 1) 17 50) 28 1) 29 0) 31 1) 30 1) 19 1) 20 1) 7 1) 28 2) 1 1)))] := hD
  refine W.widen (k := 0) (n := 0) (Nat.le_of_ble_eq_true rfl) (Nat.le_of_ble_eq_true rfl) ?_
  refine lv_iload_n hx hb dX9_of_8 rfl (lv_at hl 2 rfl) ?_
  refine lv_iadd hx hb dX9_of_9 ?_
  refine tp_i (24) (by decide) ?_
  refine ld_i (v := 0) hx hb hN hP 1 rfl (vin (by decide +kernel)) (by first | rfl | decide +kernel) dX9_of_10 ?_
  exact en_i (fun k => ([] : List Nat).getD k 0) hx hb hr hlocks rfl rfl hP hD hS (Nat.le_of_ble_eq_true rfl) (Nat.le_of_ble_eq_true rfl) dX9_of_11
set_option maxHeartbeats 4000000 in
set_option maxRecDepth 100000 in
theorem k416_X9_of (l : Launch) (D : va_G) (cs : Nat → ClassId) (sz : Nat) (a0 a1 a2 a3 a4 a5 a6 : Nat) : KI l yX9_of wsX9_of 1 20 0 0 D cs sz [.ref a0, .int 0, .int 2] [(a0, .inr (9, [.int 0, .ref a2, .int 0, .int 0, .int 0, .int 0, .int 0, .int (-1), .ref a1, .ref a3, .ref a4, .ref a5, .int 0, .int 0, .int 0, .int 0, .int 0, .ref a6])), (a1, .inl (cs 0, 45783, .inl (upd (upd (upd (upd (upd (upd (upd (upd (upd (upd (upd (upd (upd (layF (fun _ => 0) 1) 6 1) 15 1) 16 1) 17 50) 28 1) 29 0) 31 1) 30 1) 19 1) 20 1) 7 1) 28 2) 1 1)))] (fun u => [(a0, .inr (9, [.int 0, .ref a2, .int 0, .int 0, .int 0, .int 0, .int 0, .int (-1), .ref a1, .ref a3, .ref a4, .ref a5, .int 0, .int 0, .int 0, .int 0, .int 0, .ref a6])), (a1, .inl (cs 0, 45783, .inl (upd (upd (upd (upd (upd (upd (upd (upd (upd (upd (upd (upd (upd (layF (fun _ => 0) 1) 6 1) 15 1) 16 1) 17 50) 28 1) 29 0) 31 1) 30 1) 19 1) 20 1) 7 1) 28 2) 1 1)))]) (0) := by
  refine KI.of cX9_of 3 (some .int) (by decide) rfl (Nat.le_of_ble_eq_true rfl) ?_
  intro p e s m below meth c A ls hx hb hr hml hown hts hlocks hin hP hN hD hA hS hl
  have hown : s.vm.findClass RX9 = some m.cls := hown
  have hl : lv_has ls 3 [(0, .ref a0), (1, .int 0), (2, .int 2)] := hl
  refine lv_aload_n hx hb dX9_of_0 rfl (lv_at hl 0 rfl) ?_
  refine va_get (D := D) (ci := 9) (v := .ref a1) (C := RX9) (T := TX9) (N := 18) hx hb hts iX9_of_9 hown hN.1 hP 0 rfl rfl 8 (by decide) (hts _ mX9_of_1) (fun _ h9 => h9) rfl dX9_of_1 ?_
  refine lv_iload_n hx hb dX9_of_4 rfl (lv_at hl 1 rfl) ?_
  refine cs_i (As := [.int 0]) (rest := [.ref a1]) (wr := [(a0, .inr (9, [.int 0, .ref a2, .int 0, .int 0, .int 0, .int 0, .int 0, .int (-1), .ref a1, .ref a3, .ref a4, .ref a5, .int 0, .int 0, .int 0, .int 0, .int 0, .ref a6])), (a1, .inl (cs 0, 45783, .inl (upd (upd (upd (upd (upd (upd (upd (upd (upd (upd (upd (upd (upd (layF (fun _ => 0) 1) 6 1) 15 1) 16 1) 17 50) 28 1) 29 0) 31 1) 30 1) 19 1) 20 1) 7 1) 28 2) 1 1)))]) ⟨hx, hb, hml, hown, hts⟩ (fun sz => k16_X9_playerAt l D cs sz ) (va_cwS 1 hts gX9_of_X9_playerAt rfl rfl rfl hdX9_playerAt_o ⟨Nat.le_of_ble_eq_true rfl, Nat.le_of_ble_eq_true rfl⟩) hN hP hD hS hA [] [0, 1] rfl rfl rfl rfl (by decide) rfl rfl hl.1 (Nat.le_of_ble_eq_true rfl) dX9_of_5 (Nat.le_of_ble_eq_true rfl) (Nat.le_of_ble_eq_true rfl) (fun u0 H locs hP hD hS => ?_)
  have hP : va_P D vwCl [(a0, .inr (9, [.int 0, .ref a2, .int 0, .int 0, .int 0, .int 0, .int 0, .int (-1), .ref a1, .ref a3, .ref a4, .ref a5, .int 0, .int 0, .int 0, .int 0, .int 0, .ref a6])), (a1, .inl (cs 0, 45783, .inl (upd (upd (upd (upd (upd (upd (upd (upd (upd (upd (upd (upd (upd (layF (fun _ => 0) 1) 6 1) 15 1) 16 1) 17 50) 28 1) 29 0) 31 1) 30 1) 19 1) 20 1) 7 1) 28 2) 1 1)))] H := hP
  have hD : va_D A [(a0, .inr (9, [.int 0, .ref a2, .int 0, .int 0, .int 0, .int 0, .int 0, .int (-1), .ref a1, .ref a3, .ref a4, .ref a5, .int 0, .int 0, .int 0, .int 0, .int 0, .ref a6])), (a1, .inl (cs 0, 45783, .inl (upd (upd (upd (upd (upd (upd (upd (upd (upd (upd (upd (upd (upd (layF (fun _ => 0) 1) 6 1) 15 1) 16 1) 17 50) 28 1) 29 0) 31 1) 30 1) 19 1) 20 1) 7 1) 28 2) 1 1)))] := hD
  refine W.widen (k := 0) (n := 0) (Nat.le_of_ble_eq_true rfl) (Nat.le_of_ble_eq_true rfl) ?_
  refine lv_iload_n hx hb dX9_of_8 rfl (lv_at hl 2 rfl) ?_
  refine lv_iadd hx hb dX9_of_9 ?_
  refine tp_i (25) (by decide) ?_
  refine ld_i (v := 0) hx hb hN hP 1 rfl (vin (by decide +kernel)) (by first | rfl | decide +kernel) dX9_of_10 ?_
  exact en_i (fun k => ([] : List Nat).getD k 0) hx hb hr hlocks rfl rfl hP hD hS (Nat.le_of_ble_eq_true rfl) (Nat.le_of_ble_eq_true rfl) dX9_of_11
set_option maxHeartbeats 4000000 in
set_option maxRecDepth 100000 in
theorem k417_X9_clock (l : Launch) (D : va_G) (cs : Nat → ClassId) (sz : Nat) (a0 a1 a2 a3 a4 a5 a6 : Nat) : KI l yX9_clock wsX9_clock 2 42 0 0 D cs sz [.ref a0, .int 0] [(a0, .inr (9, [.int 0, .ref a2, .int 0, .int 0, .int 0, .int 0, .int 0, .int (-1), .ref a1, .ref a3, .ref a4, .ref a5, .int 0, .int 0, .int 0, .int 0, .int 0, .ref a6])), (a1, .inl (cs 0, 45783, .inl (upd (upd (upd (upd (upd (upd (upd (upd (upd (upd (upd (upd (upd (layF (fun _ => 0) 1) 6 1) 15 1) 16 1) 17 50) 28 1) 29 0) 31 1) 30 1) 19 1) 20 1) 7 1) 28 2) 1 1)))] (fun u => [(a0, .inr (9, [.int 0, .ref a2, .int 0, .int 0, .int 0, .int 0, .int 0, .int (-1), .ref a1, .ref a3, .ref a4, .ref a5, .int 0, .int 0, .int 0, .int 0, .int 0, .ref a6])), (a1, .inl (cs 0, 45783, .inl (upd (upd (upd (upd (upd (upd (upd (upd (upd (upd (upd (upd (upd (layF (fun _ => 0) 1) 6 1) 15 1) 16 1) 17 50) 28 1) 29 0) 31 1) 30 1) 19 1) 20 1) 7 1) 28 2) 1 1)))]) (1) := by
  refine KI.of cX9_clock 2 (some .int) (by decide) rfl (Nat.le_of_ble_eq_true rfl) ?_
  intro p e s m below meth c A ls hx hb hr hml hown hts hlocks hin hP hN hD hA hS hl
  have hown : s.vm.findClass RX9 = some m.cls := hown
  have hl : lv_has ls 2 [(0, .ref a0), (1, .int 0)] := hl
  refine lv_aload_n hx hb dX9_clock_0 rfl (lv_at hl 0 rfl) ?_
  refine va_get (D := D) (ci := 9) (v := .ref a1) (C := RX9) (T := TX9) (N := 18) hx hb hts iX9_clock_9 hown hN.1 hP 0 rfl rfl 8 (by decide) (hts _ mX9_clock_1) (fun _ h9 => h9) rfl dX9_clock_1 ?_
  refine lv_iconst (v := 1) hx hb dX9_clock_4 (by decide) ?_
  refine ld_i (v := 1) hx hb hN hP 1 rfl (vin (by decide +kernel)) (by first | rfl | decide +kernel) dX9_clock_5 ?_
  refine lv_aload_n hx hb dX9_clock_6 rfl (lv_at hl 0 rfl) ?_
  refine lv_iload_n hx hb dX9_clock_7 rfl (lv_at hl 1 rfl) ?_
  refine lv_iconst (v := 1) hx hb dX9_clock_8 (by decide) ?_
  refine cv_i (As := [.int 0, .int 1]) (rest := [.int 1]) (b := a0) (wr := []) ⟨hx, hb, hml, hown, hts⟩ (fun sz => k415_X9_of l D cs sz a0 a1 a2 a3 a4 a5 a6) (cwV 2 hts gX9_clock_X9_of rfl rfl rfl hdX9_of_v ⟨Nat.le_of_ble_eq_true rfl, Nat.le_of_ble_eq_true rfl⟩) hN hP hD hS hA [0, 1] [] rfl rfl rfl rfl (by decide) (ci := 9) (q0 := 0) rfl rfl rfl rfl hl.1 (Nat.le_of_ble_eq_true rfl) dX9_clock_9 (Nat.le_of_ble_eq_true rfl) (Nat.le_of_ble_eq_true rfl) (fun u0 H locs hP hD hS => ?_)
  have hP : va_P D vwCl [(a0, .inr (9, [.int 0, .ref a2, .int 0, .int 0, .int 0, .int 0, .int 0, .int (-1), .ref a1, .ref a3, .ref a4, .ref a5, .int 0, .int 0, .int 0, .int 0, .int 0, .ref a6])), (a1, .inl (cs 0, 45783, .inl (upd (upd (upd (upd (upd (upd (upd (upd (upd (upd (upd (upd (upd (layF (fun _ => 0) 1) 6 1) 15 1) 16 1) 17 50) 28 1) 29 0) 31 1) 30 1) 19 1) 20 1) 7 1) 28 2) 1 1)))] H := hP
  have hD : va_D A [(a0, .inr (9, [.int 0, .ref a2, .int 0, .int 0, .int 0, .int 0, .int 0, .int (-1), .ref a1, .ref a3, .ref a4, .ref a5, .int 0, .int 0, .int 0, .int 0, .int 0, .ref a6])), (a1, .inl (cs 0, 45783, .inl (upd (upd (upd (upd (upd (upd (upd (upd (upd (upd (upd (upd (upd (layF (fun _ => 0) 1) 6 1) 15 1) 16 1) 17 50) 28 1) 29 0) 31 1) 30 1) 19 1) 20 1) 7 1) 28 2) 1 1)))] := hD
  refine W.widen (k := 0) (n := 0) (Nat.le_of_ble_eq_true rfl) (Nat.le_of_ble_eq_true rfl) ?_
  refine lv_iadd hx hb dX9_clock_12 ?_
  refine tp_i (1) (by decide) ?_
  refine lv_aload_n hx hb dX9_clock_13 rfl (lv_at hl 0 rfl) ?_
  refine va_get (D := D) (ci := 9) (v := .ref a1) (C := RX9) (T := TX9) (N := 18) hx hb hts iX9_clock_9 hown hN.1 hP 0 rfl rfl 8 (by decide) (hts _ mX9_clock_1) (fun _ h9 => h9) rfl dX9_clock_14 ?_
  refine lv_iconst (v := 1) hx hb dX9_clock_17 (by decide) ?_
  refine ld_i (v := 1) hx hb hN hP 1 rfl (vin (by decide +kernel)) (by first | rfl | decide +kernel) dX9_clock_18 ?_
  refine lv_aload_n hx hb dX9_clock_19 rfl (lv_at hl 0 rfl) ?_
  refine lv_iload_n hx hb dX9_clock_20 rfl (lv_at hl 1 rfl) ?_
  refine lv_iconst (v := 2) hx hb dX9_clock_21 (by decide) ?_
  refine cv_i (As := [.int 0, .int 2]) (rest := [.int 1, .int 1]) (b := a0) (wr := []) ⟨hx, hb, hml, hown, hts⟩ (fun sz => k416_X9_of l D cs sz a0 a1 a2 a3 a4 a5 a6) (cwV 2 hts gX9_clock_X9_of rfl rfl rfl hdX9_of_v ⟨Nat.le_of_ble_eq_true rfl, Nat.le_of_ble_eq_true rfl⟩) hN hP hD hS hA [0, 1] [] rfl rfl rfl rfl (by decide) (ci := 9) (q0 := 0) rfl rfl rfl rfl hl.1 (Nat.le_of_ble_eq_true rfl) dX9_clock_22 (Nat.le_of_ble_eq_true rfl) (Nat.le_of_ble_eq_true rfl) (fun u1 H locs hP hD hS => ?_)
  have hP : va_P D vwCl [(a0, .inr (9, [.int 0, .ref a2, .int 0, .int 0, .int 0, .int 0, .int 0, .int (-1), .ref a1, .ref a3, .ref a4, .ref a5, .int 0, .int 0, .int 0, .int 0, .int 0, .ref a6])), (a1, .inl (cs 0, 45783, .inl (upd (upd (upd (upd (upd (upd (upd (upd (upd (upd (upd (upd (upd (layF (fun _ => 0) 1) 6 1) 15 1) 16 1) 17 50) 28 1) 29 0) 31 1) 30 1) 19 1) 20 1) 7 1) 28 2) 1 1)))] H := hP
  have hD : va_D A [(a0, .inr (9, [.int 0, .ref a2, .int 0, .int 0, .int 0, .int 0, .int 0, .int (-1), .ref a1, .ref a3, .ref a4, .ref a5, .int 0, .int 0, .int 0, .int 0, .int 0, .ref a6])), (a1, .inl (cs 0, 45783, .inl (upd (upd (upd (upd (upd (upd (upd (upd (upd (upd (upd (upd (upd (layF (fun _ => 0) 1) 6 1) 15 1) 16 1) 17 50) 28 1) 29 0) 31 1) 30 1) 19 1) 20 1) 7 1) 28 2) 1 1)))] := hD
  refine W.widen (k := 0) (n := 0) (Nat.le_of_ble_eq_true rfl) (Nat.le_of_ble_eq_true rfl) ?_
  refine lv_imul hx hb dX9_clock_25 ?_
  refine tp_i (0) (by decide) ?_
  refine lv_sipush (v := 1000) hx hb dX9_clock_26 (by decide) ?_
  refine lv_idiv hx hb dX9_clock_29 (by decide) ?_
  refine tp_i (0) (by decide) ?_
  refine lv_iadd hx hb dX9_clock_30 ?_
  refine tp_i (1) (by decide) ?_
  exact en_i (fun k => ([] : List Nat).getD k 0) hx hb hr hlocks rfl rfl hP hD hS (Nat.le_of_ble_eq_true rfl) (Nat.le_of_ble_eq_true rfl) dX9_clock_31
set_option maxHeartbeats 4000000 in
set_option maxRecDepth 100000 in
theorem k418_X9_of (l : Launch) (D : va_G) (cs : Nat → ClassId) (sz : Nat) (a0 a1 a2 a3 a4 a5 a6 : Nat) : KI l yX9_of wsX9_of 1 20 0 0 D cs sz [.ref a0, .int 0, .int 3] [(a0, .inr (9, [.int 0, .ref a2, .int 0, .int 0, .int 0, .int 0, .int 0, .int (-1), .ref a1, .ref a3, .ref a4, .ref a5, .int 0, .int 0, .int 0, .int 0, .int 0, .ref a6])), (a1, .inl (cs 0, 45783, .inl (upd (upd (upd (upd (upd (upd (upd (upd (upd (upd (upd (upd (upd (layF (fun _ => 0) 1) 6 1) 15 1) 16 1) 17 50) 28 1) 29 0) 31 1) 30 1) 19 1) 20 1) 7 1) 28 2) 1 1)))] (fun u => [(a0, .inr (9, [.int 0, .ref a2, .int 0, .int 0, .int 0, .int 0, .int 0, .int (-1), .ref a1, .ref a3, .ref a4, .ref a5, .int 0, .int 0, .int 0, .int 0, .int 0, .ref a6])), (a1, .inl (cs 0, 45783, .inl (upd (upd (upd (upd (upd (upd (upd (upd (upd (upd (upd (upd (upd (layF (fun _ => 0) 1) 6 1) 15 1) 16 1) 17 50) 28 1) 29 0) 31 1) 30 1) 19 1) 20 1) 7 1) 28 2) 1 1)))]) (0) := by
  refine KI.of cX9_of 3 (some .int) (by decide) rfl (Nat.le_of_ble_eq_true rfl) ?_
  intro p e s m below meth c A ls hx hb hr hml hown hts hlocks hin hP hN hD hA hS hl
  have hown : s.vm.findClass RX9 = some m.cls := hown
  have hl : lv_has ls 3 [(0, .ref a0), (1, .int 0), (2, .int 3)] := hl
  refine lv_aload_n hx hb dX9_of_0 rfl (lv_at hl 0 rfl) ?_
  refine va_get (D := D) (ci := 9) (v := .ref a1) (C := RX9) (T := TX9) (N := 18) hx hb hts iX9_of_9 hown hN.1 hP 0 rfl rfl 8 (by decide) (hts _ mX9_of_1) (fun _ h9 => h9) rfl dX9_of_1 ?_
  refine lv_iload_n hx hb dX9_of_4 rfl (lv_at hl 1 rfl) ?_
  refine cs_i (As := [.int 0]) (rest := [.ref a1]) (wr := [(a0, .inr (9, [.int 0, .ref a2, .int 0, .int 0, .int 0, .int 0, .int 0, .int (-1), .ref a1, .ref a3, .ref a4, .ref a5, .int 0, .int 0, .int 0, .int 0, .int 0, .ref a6])), (a1, .inl (cs 0, 45783, .inl (upd (upd (upd (upd (upd (upd (upd (upd (upd (upd (upd (upd (upd (layF (fun _ => 0) 1) 6 1) 15 1) 16 1) 17 50) 28 1) 29 0) 31 1) 30 1) 19 1) 20 1) 7 1) 28 2) 1 1)))]) ⟨hx, hb, hml, hown, hts⟩ (fun sz => k16_X9_playerAt l D cs sz ) (va_cwS 1 hts gX9_of_X9_playerAt rfl rfl rfl hdX9_playerAt_o ⟨Nat.le_of_ble_eq_true rfl, Nat.le_of_ble_eq_true rfl⟩) hN hP hD hS hA [] [0, 1] rfl rfl rfl rfl (by decide) rfl rfl hl.1 (Nat.le_of_ble_eq_true rfl) dX9_of_5 (Nat.le_of_ble_eq_true rfl) (Nat.le_of_ble_eq_true rfl) (fun u0 H locs hP hD hS => ?_)
  have hP : va_P D vwCl [(a0, .inr (9, [.int 0, .ref a2, .int 0, .int 0, .int 0, .int 0, .int 0, .int (-1), .ref a1, .ref a3, .ref a4, .ref a5, .int 0, .int 0, .int 0, .int 0, .int 0, .ref a6])), (a1, .inl (cs 0, 45783, .inl (upd (upd (upd (upd (upd (upd (upd (upd (upd (upd (upd (upd (upd (layF (fun _ => 0) 1) 6 1) 15 1) 16 1) 17 50) 28 1) 29 0) 31 1) 30 1) 19 1) 20 1) 7 1) 28 2) 1 1)))] H := hP
  have hD : va_D A [(a0, .inr (9, [.int 0, .ref a2, .int 0, .int 0, .int 0, .int 0, .int 0, .int (-1), .ref a1, .ref a3, .ref a4, .ref a5, .int 0, .int 0, .int 0, .int 0, .int 0, .ref a6])), (a1, .inl (cs 0, 45783, .inl (upd (upd (upd (upd (upd (upd (upd (upd (upd (upd (upd (upd (upd (layF (fun _ => 0) 1) 6 1) 15 1) 16 1) 17 50) 28 1) 29 0) 31 1) 30 1) 19 1) 20 1) 7 1) 28 2) 1 1)))] := hD
  refine W.widen (k := 0) (n := 0) (Nat.le_of_ble_eq_true rfl) (Nat.le_of_ble_eq_true rfl) ?_
  refine lv_iload_n hx hb dX9_of_8 rfl (lv_at hl 2 rfl) ?_
  refine lv_iadd hx hb dX9_of_9 ?_
  refine tp_i (26) (by decide) ?_
  refine ld_i (v := 0) hx hb hN hP 1 rfl (vin (by decide +kernel)) (by first | rfl | decide +kernel) dX9_of_10 ?_
  exact en_i (fun k => ([] : List Nat).getD k 0) hx hb hr hlocks rfl rfl hP hD hS (Nat.le_of_ble_eq_true rfl) (Nat.le_of_ble_eq_true rfl) dX9_of_11
set_option maxHeartbeats 4000000 in
set_option maxRecDepth 100000 in
theorem k419_X9_estimate (l : Launch) (D : va_G) (cs : Nat → ClassId) (sz : Nat) (a0 a1 a2 a3 a4 a5 a6 : Nat) : KI l yX9_estimate wsX9_estimate 3 63 0 0 D cs sz [.ref a0, .int 0] [(a0, .inr (9, [.int 0, .ref a2, .int 0, .int 0, .int 0, .int 0, .int 0, .int (-1), .ref a1, .ref a3, .ref a4, .ref a5, .int 0, .int 0, .int 0, .int 0, .int 0, .ref a6])), (a1, .inl (cs 0, 45783, .inl (upd (upd (upd (upd (upd (upd (upd (upd (upd (upd (upd (upd (upd (layF (fun _ => 0) 1) 6 1) 15 1) 16 1) 17 50) 28 1) 29 0) 31 1) 30 1) 19 1) 20 1) 7 1) 28 2) 1 1)))] (fun u => [(a0, .inr (9, [.int 0, .ref a2, .int 0, .int 0, .int 0, .int 0, .int 0, .int (-1), .ref a1, .ref a3, .ref a4, .ref a5, .int 0, .int 0, .int 0, .int 0, .int 0, .ref a6])), (a1, .inl (cs 0, 45783, .inl (upd (upd (upd (upd (upd (upd (upd (upd (upd (upd (upd (upd (upd (layF (fun _ => 0) 1) 6 1) 15 1) 16 1) 17 50) 28 1) 29 0) 31 1) 30 1) 19 1) 20 1) 7 1) 28 2) 1 1)))]) (1) := by
  refine KI.of cX9_estimate 2 (some .int) (by decide) rfl (Nat.le_of_ble_eq_true rfl) ?_
  intro p e s m below meth c A ls hx hb hr hml hown hts hlocks hin hP hN hD hA hS hl
  have hown : s.vm.findClass RX9 = some m.cls := hown
  have hl : lv_has ls 2 [(0, .ref a0), (1, .int 0)] := hl
  refine lv_aload_n hx hb dX9_estimate_0 rfl (lv_at hl 0 rfl) ?_
  refine lv_iload_n hx hb dX9_estimate_1 rfl (lv_at hl 1 rfl) ?_
  refine cv_i (As := [.int 0]) (rest := []) (b := a0) (wr := []) ⟨hx, hb, hml, hown, hts⟩ (fun sz => k417_X9_clock l D cs sz a0 a1 a2 a3 a4 a5 a6) (cwV 1 hts gX9_estimate_X9_clock rfl rfl rfl hdX9_clock_v ⟨Nat.le_of_ble_eq_true rfl, Nat.le_of_ble_eq_true rfl⟩) hN hP hD hS hA [0, 1] [] rfl rfl rfl rfl (by decide) (ci := 9) (q0 := 0) rfl rfl rfl rfl hl.1 (Nat.le_of_ble_eq_true rfl) dX9_estimate_2 (Nat.le_of_ble_eq_true rfl) (Nat.le_of_ble_eq_true rfl) (fun u0 H locs hP hD hS => ?_)
  have hP : va_P D vwCl [(a0, .inr (9, [.int 0, .ref a2, .int 0, .int 0, .int 0, .int 0, .int 0, .int (-1), .ref a1, .ref a3, .ref a4, .ref a5, .int 0, .int 0, .int 0, .int 0, .int 0, .ref a6])), (a1, .inl (cs 0, 45783, .inl (upd (upd (upd (upd (upd (upd (upd (upd (upd (upd (upd (upd (upd (layF (fun _ => 0) 1) 6 1) 15 1) 16 1) 17 50) 28 1) 29 0) 31 1) 30 1) 19 1) 20 1) 7 1) 28 2) 1 1)))] H := hP
  have hD : va_D A [(a0, .inr (9, [.int 0, .ref a2, .int 0, .int 0, .int 0, .int 0, .int 0, .int (-1), .ref a1, .ref a3, .ref a4, .ref a5, .int 0, .int 0, .int 0, .int 0, .int 0, .ref a6])), (a1, .inl (cs 0, 45783, .inl (upd (upd (upd (upd (upd (upd (upd (upd (upd (upd (upd (upd (upd (layF (fun _ => 0) 1) 6 1) 15 1) 16 1) 17 50) 28 1) 29 0) 31 1) 30 1) 19 1) 20 1) 7 1) 28 2) 1 1)))] := hD
  refine W.widen (k := 0) (n := 0) (Nat.le_of_ble_eq_true rfl) (Nat.le_of_ble_eq_true rfl) ?_
  refine lv_aload_n hx hb dX9_estimate_5 rfl (lv_at hl 0 rfl) ?_
  refine lv_iload_n hx hb dX9_estimate_6 rfl (lv_at hl 1 rfl) ?_
  refine lv_iconst (v := 3) hx hb dX9_estimate_7 (by decide) ?_
  refine cv_i (As := [.int 0, .int 3]) (rest := [.int 1]) (b := a0) (wr := []) ⟨hx, hb, hml, hown, hts⟩ (fun sz => k418_X9_of l D cs sz a0 a1 a2 a3 a4 a5 a6) (cwV 2 hts gX9_estimate_X9_of rfl rfl rfl hdX9_of_v ⟨Nat.le_of_ble_eq_true rfl, Nat.le_of_ble_eq_true rfl⟩) hN hP hD hS hA [0, 1] [] rfl rfl rfl rfl (by decide) (ci := 9) (q0 := 0) rfl rfl rfl rfl hl.1 (Nat.le_of_ble_eq_true rfl) dX9_estimate_8 (Nat.le_of_ble_eq_true rfl) (Nat.le_of_ble_eq_true rfl) (fun u1 H locs hP hD hS => ?_)
  have hP : va_P D vwCl [(a0, .inr (9, [.int 0, .ref a2, .int 0, .int 0, .int 0, .int 0, .int 0, .int (-1), .ref a1, .ref a3, .ref a4, .ref a5, .int 0, .int 0, .int 0, .int 0, .int 0, .ref a6])), (a1, .inl (cs 0, 45783, .inl (upd (upd (upd (upd (upd (upd (upd (upd (upd (upd (upd (upd (upd (layF (fun _ => 0) 1) 6 1) 15 1) 16 1) 17 50) 28 1) 29 0) 31 1) 30 1) 19 1) 20 1) 7 1) 28 2) 1 1)))] H := hP
  have hD : va_D A [(a0, .inr (9, [.int 0, .ref a2, .int 0, .int 0, .int 0, .int 0, .int 0, .int (-1), .ref a1, .ref a3, .ref a4, .ref a5, .int 0, .int 0, .int 0, .int 0, .int 0, .ref a6])), (a1, .inl (cs 0, 45783, .inl (upd (upd (upd (upd (upd (upd (upd (upd (upd (upd (upd (upd (upd (layF (fun _ => 0) 1) 6 1) 15 1) 16 1) 17 50) 28 1) 29 0) 31 1) 30 1) 19 1) 20 1) 7 1) 28 2) 1 1)))] := hD
  refine W.widen (k := 0) (n := 0) (Nat.le_of_ble_eq_true rfl) (Nat.le_of_ble_eq_true rfl) ?_
  refine lv_iadd hx hb dX9_estimate_11 ?_
  refine tp_i (1) (by decide) ?_
  exact en_i (fun k => ([] : List Nat).getD k 0) hx hb hr hlocks rfl rfl hP hD hS (Nat.le_of_ble_eq_true rfl) (Nat.le_of_ble_eq_true rfl) dX9_estimate_12
set_option maxHeartbeats 4000000 in
set_option maxRecDepth 100000 in
theorem k420_X9_of (l : Launch) (D : va_G) (cs : Nat → ClassId) (sz : Nat) (a0 a1 a2 a3 a4 a5 a6 : Nat) : KI l yX9_of wsX9_of 1 20 0 0 D cs sz [.ref a0, .int 0, .int 8] [(a0, .inr (9, [.int 0, .ref a2, .int 0, .int 0, .int 0, .int 0, .int 0, .int (-1), .ref a1, .ref a3, .ref a4, .ref a5, .int 0, .int 0, .int 0, .int 0, .int 0, .ref a6])), (a1, .inl (cs 0, 45783, .inl (upd (upd (upd (upd (upd (upd (upd (upd (upd (upd (upd (upd (upd (layF (fun _ => 0) 1) 6 1) 15 1) 16 1) 17 50) 28 1) 29 0) 31 1) 30 1) 19 1) 20 1) 7 1) 28 2) 1 1)))] (fun u => [(a0, .inr (9, [.int 0, .ref a2, .int 0, .int 0, .int 0, .int 0, .int 0, .int (-1), .ref a1, .ref a3, .ref a4, .ref a5, .int 0, .int 0, .int 0, .int 0, .int 0, .ref a6])), (a1, .inl (cs 0, 45783, .inl (upd (upd (upd (upd (upd (upd (upd (upd (upd (upd (upd (upd (upd (layF (fun _ => 0) 1) 6 1) 15 1) 16 1) 17 50) 28 1) 29 0) 31 1) 30 1) 19 1) 20 1) 7 1) 28 2) 1 1)))]) (1) := by
  refine KI.of cX9_of 3 (some .int) (by decide) rfl (Nat.le_of_ble_eq_true rfl) ?_
  intro p e s m below meth c A ls hx hb hr hml hown hts hlocks hin hP hN hD hA hS hl
  have hown : s.vm.findClass RX9 = some m.cls := hown
  have hl : lv_has ls 3 [(0, .ref a0), (1, .int 0), (2, .int 8)] := hl
  refine lv_aload_n hx hb dX9_of_0 rfl (lv_at hl 0 rfl) ?_
  refine va_get (D := D) (ci := 9) (v := .ref a1) (C := RX9) (T := TX9) (N := 18) hx hb hts iX9_of_9 hown hN.1 hP 0 rfl rfl 8 (by decide) (hts _ mX9_of_1) (fun _ h9 => h9) rfl dX9_of_1 ?_
  refine lv_iload_n hx hb dX9_of_4 rfl (lv_at hl 1 rfl) ?_
  refine cs_i (As := [.int 0]) (rest := [.ref a1]) (wr := [(a0, .inr (9, [.int 0, .ref a2, .int 0, .int 0, .int 0, .int 0, .int 0, .int (-1), .ref a1, .ref a3, .ref a4, .ref a5, .int 0, .int 0, .int 0, .int 0, .int 0, .ref a6])), (a1, .inl (cs 0, 45783, .inl (upd (upd (upd (upd (upd (upd (upd (upd (upd (upd (upd (upd (upd (layF (fun _ => 0) 1) 6 1) 15 1) 16 1) 17 50) 28 1) 29 0) 31 1) 30 1) 19 1) 20 1) 7 1) 28 2) 1 1)))]) ⟨hx, hb, hml, hown, hts⟩ (fun sz => k16_X9_playerAt l D cs sz ) (va_cwS 1 hts gX9_of_X9_playerAt rfl rfl rfl hdX9_playerAt_o ⟨Nat.le_of_ble_eq_true rfl, Nat.le_of_ble_eq_true rfl⟩) hN hP hD hS hA [] [0, 1] rfl rfl rfl rfl (by decide) rfl rfl hl.1 (Nat.le_of_ble_eq_true rfl) dX9_of_5 (Nat.le_of_ble_eq_true rfl) (Nat.le_of_ble_eq_true rfl) (fun u0 H locs hP hD hS => ?_)
  have hP : va_P D vwCl [(a0, .inr (9, [.int 0, .ref a2, .int 0, .int 0, .int 0, .int 0, .int 0, .int (-1), .ref a1, .ref a3, .ref a4, .ref a5, .int 0, .int 0, .int 0, .int 0, .int 0, .ref a6])), (a1, .inl (cs 0, 45783, .inl (upd (upd (upd (upd (upd (upd (upd (upd (upd (upd (upd (upd (upd (layF (fun _ => 0) 1) 6 1) 15 1) 16 1) 17 50) 28 1) 29 0) 31 1) 30 1) 19 1) 20 1) 7 1) 28 2) 1 1)))] H := hP
  have hD : va_D A [(a0, .inr (9, [.int 0, .ref a2, .int 0, .int 0, .int 0, .int 0, .int 0, .int (-1), .ref a1, .ref a3, .ref a4, .ref a5, .int 0, .int 0, .int 0, .int 0, .int 0, .ref a6])), (a1, .inl (cs 0, 45783, .inl (upd (upd (upd (upd (upd (upd (upd (upd (upd (upd (upd (upd (upd (layF (fun _ => 0) 1) 6 1) 15 1) 16 1) 17 50) 28 1) 29 0) 31 1) 30 1) 19 1) 20 1) 7 1) 28 2) 1 1)))] := hD
  refine W.widen (k := 0) (n := 0) (Nat.le_of_ble_eq_true rfl) (Nat.le_of_ble_eq_true rfl) ?_
  refine lv_iload_n hx hb dX9_of_8 rfl (lv_at hl 2 rfl) ?_
  refine lv_iadd hx hb dX9_of_9 ?_
  refine tp_i (31) (by decide) ?_
  refine ld_i (v := 1) hx hb hN hP 1 rfl (vin (by decide +kernel)) (by first | rfl | decide +kernel) dX9_of_10 ?_
  exact en_i (fun k => ([] : List Nat).getD k 0) hx hb hr hlocks rfl rfl hP hD hS (Nat.le_of_ble_eq_true rfl) (Nat.le_of_ble_eq_true rfl) dX9_of_11
set_option maxHeartbeats 4000000 in
set_option maxRecDepth 100000 in
theorem k421_X9_of (l : Launch) (D : va_G) (cs : Nat → ClassId) (sz : Nat) (a0 a1 a2 a3 a4 a5 a6 : Nat) : KI l yX9_of wsX9_of 1 20 0 0 D cs sz [.ref a0, .int 0, .int 6] [(a0, .inr (9, [.int 0, .ref a2, .int 0, .int 0, .int 0, .int 0, .int 0, .int (-1), .ref a1, .ref a3, .ref a4, .ref a5, .int 0, .int 0, .int 0, .int 0, .int 0, .ref a6])), (a1, .inl (cs 0, 45783, .inl (upd (upd (upd (upd (upd (upd (upd (upd (upd (upd (upd (upd (upd (layF (fun _ => 0) 1) 6 1) 15 1) 16 1) 17 50) 28 1) 29 0) 31 1) 30 1) 19 1) 20 1) 7 1) 28 2) 1 1)))] (fun u => [(a0, .inr (9, [.int 0, .ref a2, .int 0, .int 0, .int 0, .int 0, .int 0, .int (-1), .ref a1, .ref a3, .ref a4, .ref a5, .int 0, .int 0, .int 0, .int 0, .int 0, .ref a6])), (a1, .inl (cs 0, 45783, .inl (upd (upd (upd (upd (upd (upd (upd (upd (upd (upd (upd (upd (upd (layF (fun _ => 0) 1) 6 1) 15 1) 16 1) 17 50) 28 1) 29 0) 31 1) 30 1) 19 1) 20 1) 7 1) 28 2) 1 1)))]) (0) := by
  refine KI.of cX9_of 3 (some .int) (by decide) rfl (Nat.le_of_ble_eq_true rfl) ?_
  intro p e s m below meth c A ls hx hb hr hml hown hts hlocks hin hP hN hD hA hS hl
  have hown : s.vm.findClass RX9 = some m.cls := hown
  have hl : lv_has ls 3 [(0, .ref a0), (1, .int 0), (2, .int 6)] := hl
  refine lv_aload_n hx hb dX9_of_0 rfl (lv_at hl 0 rfl) ?_
  refine va_get (D := D) (ci := 9) (v := .ref a1) (C := RX9) (T := TX9) (N := 18) hx hb hts iX9_of_9 hown hN.1 hP 0 rfl rfl 8 (by decide) (hts _ mX9_of_1) (fun _ h9 => h9) rfl dX9_of_1 ?_
  refine lv_iload_n hx hb dX9_of_4 rfl (lv_at hl 1 rfl) ?_
  refine cs_i (As := [.int 0]) (rest := [.ref a1]) (wr := [(a0, .inr (9, [.int 0, .ref a2, .int 0, .int 0, .int 0, .int 0, .int 0, .int (-1), .ref a1, .ref a3, .ref a4, .ref a5, .int 0, .int 0, .int 0, .int 0, .int 0, .ref a6])), (a1, .inl (cs 0, 45783, .inl (upd (upd (upd (upd (upd (upd (upd (upd (upd (upd (upd (upd (upd (layF (fun _ => 0) 1) 6 1) 15 1) 16 1) 17 50) 28 1) 29 0) 31 1) 30 1) 19 1) 20 1) 7 1) 28 2) 1 1)))]) ⟨hx, hb, hml, hown, hts⟩ (fun sz => k16_X9_playerAt l D cs sz ) (va_cwS 1 hts gX9_of_X9_playerAt rfl rfl rfl hdX9_playerAt_o ⟨Nat.le_of_ble_eq_true rfl, Nat.le_of_ble_eq_true rfl⟩) hN hP hD hS hA [] [0, 1] rfl rfl rfl rfl (by decide) rfl rfl hl.1 (Nat.le_of_ble_eq_true rfl) dX9_of_5 (Nat.le_of_ble_eq_true rfl) (Nat.le_of_ble_eq_true rfl) (fun u0 H locs hP hD hS => ?_)
  have hP : va_P D vwCl [(a0, .inr (9, [.int 0, .ref a2, .int 0, .int 0, .int 0, .int 0, .int 0, .int (-1), .ref a1, .ref a3, .ref a4, .ref a5, .int 0, .int 0, .int 0, .int 0, .int 0, .ref a6])), (a1, .inl (cs 0, 45783, .inl (upd (upd (upd (upd (upd (upd (upd (upd (upd (upd (upd (upd (upd (layF (fun _ => 0) 1) 6 1) 15 1) 16 1) 17 50) 28 1) 29 0) 31 1) 30 1) 19 1) 20 1) 7 1) 28 2) 1 1)))] H := hP
  have hD : va_D A [(a0, .inr (9, [.int 0, .ref a2, .int 0, .int 0, .int 0, .int 0, .int 0, .int (-1), .ref a1, .ref a3, .ref a4, .ref a5, .int 0, .int 0, .int 0, .int 0, .int 0, .ref a6])), (a1, .inl (cs 0, 45783, .inl (upd (upd (upd (upd (upd (upd (upd (upd (upd (upd (upd (upd (upd (layF (fun _ => 0) 1) 6 1) 15 1) 16 1) 17 50) 28 1) 29 0) 31 1) 30 1) 19 1) 20 1) 7 1) 28 2) 1 1)))] := hD
  refine W.widen (k := 0) (n := 0) (Nat.le_of_ble_eq_true rfl) (Nat.le_of_ble_eq_true rfl) ?_
  refine lv_iload_n hx hb dX9_of_8 rfl (lv_at hl 2 rfl) ?_
  refine lv_iadd hx hb dX9_of_9 ?_
  refine tp_i (29) (by decide) ?_
  refine ld_i (v := 0) hx hb hN hP 1 rfl (vin (by decide +kernel)) (by first | rfl | decide +kernel) dX9_of_10 ?_
  exact en_i (fun k => ([] : List Nat).getD k 0) hx hb hr hlocks rfl rfl hP hD hS (Nat.le_of_ble_eq_true rfl) (Nat.le_of_ble_eq_true rfl) dX9_of_11
theorem mX9_change_1 : (.fieldLink RX9 18 "OneBeatModel" "data" "[I" : Cond) ∈ wsX9_change := List.mem_of_getElem? (i := 1) (by decide +kernel)
theorem iX9_change_9 : ∀ w ∈ wsX90, w ∈ wsX9_change := fun w h => List.mem_of_mem_drop (List.mem_of_mem_take ((show wsX90 = (wsX9_change.drop 26).take 18 by decide +kernel) ▸ h))
set_option maxHeartbeats 4000000 in
set_option maxRecDepth 100000 in
theorem k422_X9_of (l : Launch) (D : va_G) (cs : Nat → ClassId) (sz : Nat) (a0 a1 a2 a3 a4 a5 a6 : Nat) : KI l yX9_of wsX9_of 1 20 0 0 D cs sz [.ref a0, .int 0, .int 7] [(a0, .inr (9, [.int 0, .ref a2, .int 0, .int 0, .int 0, .int 0, .int 0, .int (-1), .ref a1, .ref a3, .ref a4, .ref a5, .int 0, .int 0, .int 0, .int 0, .int 0, .ref a6])), (a1, .inl (cs 0, 45783, .inl (upd (upd (upd (upd (upd (upd (upd (upd (upd (upd (upd (upd (upd (upd (upd (layF (fun _ => 0) 1) 6 1) 15 1) 16 1) 17 50) 28 1) 29 0) 31 1) 30 1) 19 1) 20 1) 7 1) 28 2) 1 1) 21 1) 22 1)))] (fun u => [(a0, .inr (9, [.int 0, .ref a2, .int 0, .int 0, .int 0, .int 0, .int 0, .int (-1), .ref a1, .ref a3, .ref a4, .ref a5, .int 0, .int 0, .int 0, .int 0, .int 0, .ref a6])), (a1, .inl (cs 0, 45783, .inl (upd (upd (upd (upd (upd (upd (upd (upd (upd (upd (upd (upd (upd (upd (upd (layF (fun _ => 0) 1) 6 1) 15 1) 16 1) 17 50) 28 1) 29 0) 31 1) 30 1) 19 1) 20 1) 7 1) 28 2) 1 1) 21 1) 22 1)))]) (1) := by
  refine KI.of cX9_of 3 (some .int) (by decide) rfl (Nat.le_of_ble_eq_true rfl) ?_
  intro p e s m below meth c A ls hx hb hr hml hown hts hlocks hin hP hN hD hA hS hl
  have hown : s.vm.findClass RX9 = some m.cls := hown
  have hl : lv_has ls 3 [(0, .ref a0), (1, .int 0), (2, .int 7)] := hl
  refine lv_aload_n hx hb dX9_of_0 rfl (lv_at hl 0 rfl) ?_
  refine va_get (D := D) (ci := 9) (v := .ref a1) (C := RX9) (T := TX9) (N := 18) hx hb hts iX9_of_9 hown hN.1 hP 0 rfl rfl 8 (by decide) (hts _ mX9_of_1) (fun _ h9 => h9) rfl dX9_of_1 ?_
  refine lv_iload_n hx hb dX9_of_4 rfl (lv_at hl 1 rfl) ?_
  refine cs_i (As := [.int 0]) (rest := [.ref a1]) (wr := [(a0, .inr (9, [.int 0, .ref a2, .int 0, .int 0, .int 0, .int 0, .int 0, .int (-1), .ref a1, .ref a3, .ref a4, .ref a5, .int 0, .int 0, .int 0, .int 0, .int 0, .ref a6])), (a1, .inl (cs 0, 45783, .inl (upd (upd (upd (upd (upd (upd (upd (upd (upd (upd (upd (upd (upd (upd (upd (layF (fun _ => 0) 1) 6 1) 15 1) 16 1) 17 50) 28 1) 29 0) 31 1) 30 1) 19 1) 20 1) 7 1) 28 2) 1 1) 21 1) 22 1)))]) ⟨hx, hb, hml, hown, hts⟩ (fun sz => k16_X9_playerAt l D cs sz ) (va_cwS 1 hts gX9_of_X9_playerAt rfl rfl rfl hdX9_playerAt_o ⟨Nat.le_of_ble_eq_true rfl, Nat.le_of_ble_eq_true rfl⟩) hN hP hD hS hA [] [0, 1] rfl rfl rfl rfl (by decide) rfl rfl hl.1 (Nat.le_of_ble_eq_true rfl) dX9_of_5 (Nat.le_of_ble_eq_true rfl) (Nat.le_of_ble_eq_true rfl) (fun u0 H locs hP hD hS => ?_)
  have hP : va_P D vwCl [(a0, .inr (9, [.int 0, .ref a2, .int 0, .int 0, .int 0, .int 0, .int 0, .int (-1), .ref a1, .ref a3, .ref a4, .ref a5, .int 0, .int 0, .int 0, .int 0, .int 0, .ref a6])), (a1, .inl (cs 0, 45783, .inl (upd (upd (upd (upd (upd (upd (upd (upd (upd (upd (upd (upd (upd (upd (upd (layF (fun _ => 0) 1) 6 1) 15 1) 16 1) 17 50) 28 1) 29 0) 31 1) 30 1) 19 1) 20 1) 7 1) 28 2) 1 1) 21 1) 22 1)))] H := hP
  have hD : va_D A [(a0, .inr (9, [.int 0, .ref a2, .int 0, .int 0, .int 0, .int 0, .int 0, .int (-1), .ref a1, .ref a3, .ref a4, .ref a5, .int 0, .int 0, .int 0, .int 0, .int 0, .ref a6])), (a1, .inl (cs 0, 45783, .inl (upd (upd (upd (upd (upd (upd (upd (upd (upd (upd (upd (upd (upd (upd (upd (layF (fun _ => 0) 1) 6 1) 15 1) 16 1) 17 50) 28 1) 29 0) 31 1) 30 1) 19 1) 20 1) 7 1) 28 2) 1 1) 21 1) 22 1)))] := hD
  refine W.widen (k := 0) (n := 0) (Nat.le_of_ble_eq_true rfl) (Nat.le_of_ble_eq_true rfl) ?_
  refine lv_iload_n hx hb dX9_of_8 rfl (lv_at hl 2 rfl) ?_
  refine lv_iadd hx hb dX9_of_9 ?_
  refine tp_i (30) (by decide) ?_
  refine ld_i (v := 1) hx hb hN hP 1 rfl (vin (by decide +kernel)) (by first | rfl | decide +kernel) dX9_of_10 ?_
  exact en_i (fun k => ([] : List Nat).getD k 0) hx hb hr hlocks rfl rfl hP hD hS (Nat.le_of_ble_eq_true rfl) (Nat.le_of_ble_eq_true rfl) dX9_of_11
set_option maxHeartbeats 4000000 in
set_option maxRecDepth 100000 in
theorem k423_X9_set (l : Launch) (D : va_G) (cs : Nat → ClassId) (sz : Nat) (a0 a1 a2 a3 a4 a5 a6 : Nat) : KV l yX9_set wsX9_set 1 20 0 0 D cs sz [.ref a0, .int 0, .int 4, .int 1] [(a0, .inr (9, [.int 0, .ref a2, .int 0, .int 0, .int 0, .int 0, .int 0, .int (-1), .ref a1, .ref a3, .ref a4, .ref a5, .int 0, .int 0, .int 0, .int 0, .int 0, .ref a6])), (a1, .inl (cs 0, 45783, .inl (upd (upd (upd (upd (upd (upd (upd (upd (upd (upd (upd (upd (upd (upd (upd (layF (fun _ => 0) 1) 6 1) 15 1) 16 1) 17 50) 28 1) 29 0) 31 1) 30 1) 19 1) 20 1) 7 1) 28 2) 1 1) 21 1) 22 1)))] (fun u => [(a0, .inr (9, [.int 0, .ref a2, .int 0, .int 0, .int 0, .int 0, .int 0, .int (-1), .ref a1, .ref a3, .ref a4, .ref a5, .int 0, .int 0, .int 0, .int 0, .int 0, .ref a6])), (a1, .inl (cs 0, 45783, .inl (upd (upd (upd (upd (upd (upd (upd (upd (upd (upd (upd (upd (upd (upd (upd (upd (layF (fun _ => 0) 1) 6 1) 15 1) 16 1) 17 50) 28 1) 29 0) 31 1) 30 1) 19 1) 20 1) 7 1) 28 2) 1 1) 21 1) 22 1) 27 1)))]) := by
  refine KV.of cX9_set 4 none (by decide) rfl (Nat.le_of_ble_eq_true rfl) ?_
  intro p e s m below meth c A ls hx hb hr hml hown hts hlocks hin hP hN hD hA hS hl
  have hown : s.vm.findClass RX9 = some m.cls := hown
  have hl : lv_has ls 4 [(0, .ref a0), (1, .int 0), (2, .int 4), (3, .int 1)] := hl
  refine lv_aload_n hx hb dX9_set_0 rfl (lv_at hl 0 rfl) ?_
  refine va_get (D := D) (ci := 9) (v := .ref a1) (C := RX9) (T := TX9) (N := 18) hx hb hts iX9_set_9 hown hN.1 hP 0 rfl rfl 8 (by decide) (hts _ mX9_set_1) (fun _ h9 => h9) rfl dX9_set_1 ?_
  refine lv_iload_n hx hb dX9_set_4 rfl (lv_at hl 1 rfl) ?_
  refine cs_i (As := [.int 0]) (rest := [.ref a1]) (wr := [(a0, .inr (9, [.int 0, .ref a2, .int 0, .int 0, .int 0, .int 0, .int 0, .int (-1), .ref a1, .ref a3, .ref a4, .ref a5, .int 0, .int 0, .int 0, .int 0, .int 0, .ref a6])), (a1, .inl (cs 0, 45783, .inl (upd (upd (upd (upd (upd (upd (upd (upd (upd (upd (upd (upd (upd (upd (upd (layF (fun _ => 0) 1) 6 1) 15 1) 16 1) 17 50) 28 1) 29 0) 31 1) 30 1) 19 1) 20 1) 7 1) 28 2) 1 1) 21 1) 22 1)))]) ⟨hx, hb, hml, hown, hts⟩ (fun sz => k16_X9_playerAt l D cs sz ) (va_cwS 1 hts gX9_set_X9_playerAt rfl rfl rfl hdX9_playerAt_o ⟨Nat.le_of_ble_eq_true rfl, Nat.le_of_ble_eq_true rfl⟩) hN hP hD hS hA [] [0, 1] rfl rfl rfl rfl (by decide) rfl rfl hl.1 (Nat.le_of_ble_eq_true rfl) dX9_set_5 (Nat.le_of_ble_eq_true rfl) (Nat.le_of_ble_eq_true rfl) (fun u0 H locs hP hD hS => ?_)
  have hP : va_P D vwCl [(a0, .inr (9, [.int 0, .ref a2, .int 0, .int 0, .int 0, .int 0, .int 0, .int (-1), .ref a1, .ref a3, .ref a4, .ref a5, .int 0, .int 0, .int 0, .int 0, .int 0, .ref a6])), (a1, .inl (cs 0, 45783, .inl (upd (upd (upd (upd (upd (upd (upd (upd (upd (upd (upd (upd (upd (upd (upd (layF (fun _ => 0) 1) 6 1) 15 1) 16 1) 17 50) 28 1) 29 0) 31 1) 30 1) 19 1) 20 1) 7 1) 28 2) 1 1) 21 1) 22 1)))] H := hP
  have hD : va_D A [(a0, .inr (9, [.int 0, .ref a2, .int 0, .int 0, .int 0, .int 0, .int 0, .int (-1), .ref a1, .ref a3, .ref a4, .ref a5, .int 0, .int 0, .int 0, .int 0, .int 0, .ref a6])), (a1, .inl (cs 0, 45783, .inl (upd (upd (upd (upd (upd (upd (upd (upd (upd (upd (upd (upd (upd (upd (upd (layF (fun _ => 0) 1) 6 1) 15 1) 16 1) 17 50) 28 1) 29 0) 31 1) 30 1) 19 1) 20 1) 7 1) 28 2) 1 1) 21 1) 22 1)))] := hD
  refine W.widen (k := 0) (n := 0) (Nat.le_of_ble_eq_true rfl) (Nat.le_of_ble_eq_true rfl) ?_
  refine lv_iload_n hx hb dX9_set_8 rfl (lv_at hl 2 rfl) ?_
  refine lv_iadd hx hb dX9_set_9 ?_
  refine tp_i (27) (by decide) ?_
  refine lv_iload_n hx hb dX9_set_10 rfl (lv_at hl 3 rfl) ?_
  refine st_i (g := (upd (upd (upd (upd (upd (upd (upd (upd (upd (upd (upd (upd (upd (upd (upd (upd (layF (fun _ => 0) 1) 6 1) 15 1) 16 1) 17 50) 28 1) 29 0) 31 1) 30 1) 19 1) 20 1) 7 1) 28 2) 1 1) 21 1) 22 1) 27 1)) hx hb hN hP hD hS 1 rfl (vin (by decide +kernel)) rfl dX9_set_11 (fun H locs hP hD hS => ?_)
  have hP : va_P D vwCl [(a0, .inr (9, [.int 0, .ref a2, .int 0, .int 0, .int 0, .int 0, .int 0, .int (-1), .ref a1, .ref a3, .ref a4, .ref a5, .int 0, .int 0, .int 0, .int 0, .int 0, .ref a6])), (a1, .inl (cs 0, 45783, .inl (upd (upd (upd (upd (upd (upd (upd (upd (upd (upd (upd (upd (upd (upd (upd (upd (layF (fun _ => 0) 1) 6 1) 15 1) 16 1) 17 50) 28 1) 29 0) 31 1) 30 1) 19 1) 20 1) 7 1) 28 2) 1 1) 21 1) 22 1) 27 1)))] H := hP
  have hD : va_D A [(a0, .inr (9, [.int 0, .ref a2, .int 0, .int 0, .int 0, .int 0, .int 0, .int (-1), .ref a1, .ref a3, .ref a4, .ref a5, .int 0, .int 0, .int 0, .int 0, .int 0, .ref a6])), (a1, .inl (cs 0, 45783, .inl (upd (upd (upd (upd (upd (upd (upd (upd (upd (upd (upd (upd (upd (upd (upd (upd (layF (fun _ => 0) 1) 6 1) 15 1) 16 1) 17 50) 28 1) 29 0) 31 1) 30 1) 19 1) 20 1) 7 1) 28 2) 1 1) 21 1) 22 1) 27 1)))] := hD
  exact en_v (fun k => ([] : List Nat).getD k 0) hx hb hr hlocks hP hD hS (Nat.le_of_ble_eq_true rfl) (Nat.le_of_ble_eq_true rfl) dX9_set_12
set_option maxHeartbeats 4000000 in
set_option maxRecDepth 100000 in
theorem k424_X9_of (l : Launch) (D : va_G) (cs : Nat → ClassId) (sz : Nat) (a0 a1 a2 a3 a4 a5 a6 : Nat) : KI l yX9_of wsX9_of 1 20 0 0 D cs sz [.ref a0, .int 0, .int 9] [(a0, .inr (9, [.int 0, .ref a2, .int 0, .int 0, .int 0, .int 0, .int 0, .int (-1), .ref a1, .ref a3, .ref a4, .ref a5, .int 0, .int 0, .int 0, .int 0, .int 0, .ref a6])), (a1, .inl (cs 0, 45783, .inl (upd (upd (upd (upd (upd (upd (upd (upd (upd (upd (upd (upd (upd (upd (upd (upd (layF (fun _ => 0) 1) 6 1) 15 1) 16 1) 17 50) 28 1) 29 0) 31 1) 30 1) 19 1) 20 1) 7 1) 28 2) 1 1) 21 1) 22 1) 27 1)))] (fun u => [(a0, .inr (9, [.int 0, .ref a2, .int 0, .int 0, .int 0, .int 0, .int 0, .int (-1), .ref a1, .ref a3, .ref a4, .ref a5, .int 0, .int 0, .int 0, .int 0, .int 0, .ref a6])), (a1, .inl (cs 0, 45783, .inl (upd (upd (upd (upd (upd (upd (upd (upd (upd (upd (upd (upd (upd (upd (upd (upd (layF (fun _ => 0) 1) 6 1) 15 1) 16 1) 17 50) 28 1) 29 0) 31 1) 30 1) 19 1) 20 1) 7 1) 28 2) 1 1) 21 1) 22 1) 27 1)))]) (0) := by
  refine KI.of cX9_of 3 (some .int) (by decide) rfl (Nat.le_of_ble_eq_true rfl) ?_
  intro p e s m below meth c A ls hx hb hr hml hown hts hlocks hin hP hN hD hA hS hl
  have hown : s.vm.findClass RX9 = some m.cls := hown
  have hl : lv_has ls 3 [(0, .ref a0), (1, .int 0), (2, .int 9)] := hl
  refine lv_aload_n hx hb dX9_of_0 rfl (lv_at hl 0 rfl) ?_
  refine va_get (D := D) (ci := 9) (v := .ref a1) (C := RX9) (T := TX9) (N := 18) hx hb hts iX9_of_9 hown hN.1 hP 0 rfl rfl 8 (by decide) (hts _ mX9_of_1) (fun _ h9 => h9) rfl dX9_of_1 ?_
  refine lv_iload_n hx hb dX9_of_4 rfl (lv_at hl 1 rfl) ?_
  refine cs_i (As := [.int 0]) (rest := [.ref a1]) (wr := [(a0, .inr (9, [.int 0, .ref a2, .int 0, .int 0, .int 0, .int 0, .int 0, .int (-1), .ref a1, .ref a3, .ref a4, .ref a5, .int 0, .int 0, .int 0, .int 0, .int 0, .ref a6])), (a1, .inl (cs 0, 45783, .inl (upd (upd (upd (upd (upd (upd (upd (upd (upd (upd (upd (upd (upd (upd (upd (upd (layF (fun _ => 0) 1) 6 1) 15 1) 16 1) 17 50) 28 1) 29 0) 31 1) 30 1) 19 1) 20 1) 7 1) 28 2) 1 1) 21 1) 22 1) 27 1)))]) ⟨hx, hb, hml, hown, hts⟩ (fun sz => k16_X9_playerAt l D cs sz ) (va_cwS 1 hts gX9_of_X9_playerAt rfl rfl rfl hdX9_playerAt_o ⟨Nat.le_of_ble_eq_true rfl, Nat.le_of_ble_eq_true rfl⟩) hN hP hD hS hA [] [0, 1] rfl rfl rfl rfl (by decide) rfl rfl hl.1 (Nat.le_of_ble_eq_true rfl) dX9_of_5 (Nat.le_of_ble_eq_true rfl) (Nat.le_of_ble_eq_true rfl) (fun u0 H locs hP hD hS => ?_)
  have hP : va_P D vwCl [(a0, .inr (9, [.int 0, .ref a2, .int 0, .int 0, .int 0, .int 0, .int 0, .int (-1), .ref a1, .ref a3, .ref a4, .ref a5, .int 0, .int 0, .int 0, .int 0, .int 0, .ref a6])), (a1, .inl (cs 0, 45783, .inl (upd (upd (upd (upd (upd (upd (upd (upd (upd (upd (upd (upd (upd (upd (upd (upd (layF (fun _ => 0) 1) 6 1) 15 1) 16 1) 17 50) 28 1) 29 0) 31 1) 30 1) 19 1) 20 1) 7 1) 28 2) 1 1) 21 1) 22 1) 27 1)))] H := hP
  have hD : va_D A [(a0, .inr (9, [.int 0, .ref a2, .int 0, .int 0, .int 0, .int 0, .int 0, .int (-1), .ref a1, .ref a3, .ref a4, .ref a5, .int 0, .int 0, .int 0, .int 0, .int 0, .ref a6])), (a1, .inl (cs 0, 45783, .inl (upd (upd (upd (upd (upd (upd (upd (upd (upd (upd (upd (upd (upd (upd (upd (upd (layF (fun _ => 0) 1) 6 1) 15 1) 16 1) 17 50) 28 1) 29 0) 31 1) 30 1) 19 1) 20 1) 7 1) 28 2) 1 1) 21 1) 22 1) 27 1)))] := hD
  refine W.widen (k := 0) (n := 0) (Nat.le_of_ble_eq_true rfl) (Nat.le_of_ble_eq_true rfl) ?_
  refine lv_iload_n hx hb dX9_of_8 rfl (lv_at hl 2 rfl) ?_
  refine lv_iadd hx hb dX9_of_9 ?_
  refine tp_i (32) (by decide) ?_
  refine ld_i (v := 0) hx hb hN hP 1 rfl (vin (by decide +kernel)) (by first | rfl | decide +kernel) dX9_of_10 ?_
  exact en_i (fun k => ([] : List Nat).getD k 0) hx hb hr hlocks rfl rfl hP hD hS (Nat.le_of_ble_eq_true rfl) (Nat.le_of_ble_eq_true rfl) dX9_of_11
set_option maxHeartbeats 4000000 in
set_option maxRecDepth 100000 in
theorem k425_X9_set (l : Launch) (D : va_G) (cs : Nat → ClassId) (sz : Nat) (a0 a1 a2 a3 a4 a5 a6 : Nat) : KV l yX9_set wsX9_set 1 20 0 0 D cs sz [.ref a0, .int 0, .int 9, .int 1] [(a0, .inr (9, [.int 0, .ref a2, .int 0, .int 0, .int 0, .int 0, .int 0, .int (-1), .ref a1, .ref a3, .ref a4, .ref a5, .int 0, .int 0, .int 0, .int 0, .int 0, .ref a6])), (a1, .inl (cs 0, 45783, .inl (upd (upd (upd (upd (upd (upd (upd (upd (upd (upd (upd (upd (upd (upd (upd (upd (layF (fun _ => 0) 1) 6 1) 15 1) 16 1) 17 50) 28 1) 29 0) 31 1) 30 1) 19 1) 20 1) 7 1) 28 2) 1 1) 21 1) 22 1) 27 1)))] (fun u => [(a0, .inr (9, [.int 0, .ref a2, .int 0, .int 0, .int 0, .int 0, .int 0, .int (-1), .ref a1, .ref a3, .ref a4, .ref a5, .int 0, .int 0, .int 0, .int 0, .int 0, .ref a6])), (a1, .inl (cs 0, 45783, .inl (upd (upd (upd (upd (upd (upd (upd (upd (upd (upd (upd (upd (upd (upd (upd (upd (upd (layF (fun _ => 0) 1) 6 1) 15 1) 16 1) 17 50) 28 1) 29 0) 31 1) 30 1) 19 1) 20 1) 7 1) 28 2) 1 1) 21 1) 22 1) 27 1) 32 1)))]) := by
  refine KV.of cX9_set 4 none (by decide) rfl (Nat.le_of_ble_eq_true rfl) ?_
  intro p e s m below meth c A ls hx hb hr hml hown hts hlocks hin hP hN hD hA hS hl
  have hown : s.vm.findClass RX9 = some m.cls := hown
  have hl : lv_has ls 4 [(0, .ref a0), (1, .int 0), (2, .int 9), (3, .int 1)] := hl
  refine lv_aload_n hx hb dX9_set_0 rfl (lv_at hl 0 rfl) ?_
  refine va_get (D := D) (ci := 9) (v := .ref a1) (C := RX9) (T := TX9) (N := 18) hx hb hts iX9_set_9 hown hN.1 hP 0 rfl rfl 8 (by decide) (hts _ mX9_set_1) (fun _ h9 => h9) rfl dX9_set_1 ?_
  refine lv_iload_n hx hb dX9_set_4 rfl (lv_at hl 1 rfl) ?_
  refine cs_i (As := [.int 0]) (rest := [.ref a1]) (wr := [(a0, .inr (9, [.int 0, .ref a2, .int 0, .int 0, .int 0, .int 0, .int 0, .int (-1), .ref a1, .ref a3, .ref a4, .ref a5, .int 0, .int 0, .int 0, .int 0, .int 0, .ref a6])), (a1, .inl (cs 0, 45783, .inl (upd (upd (upd (upd (upd (upd (upd (upd (upd (upd (upd (upd (upd (upd (upd (upd (layF (fun _ => 0) 1) 6 1) 15 1) 16 1) 17 50) 28 1) 29 0) 31 1) 30 1) 19 1) 20 1) 7 1) 28 2) 1 1) 21 1) 22 1) 27 1)))]) ⟨hx, hb, hml, hown, hts⟩ (fun sz => k16_X9_playerAt l D cs sz ) (va_cwS 1 hts gX9_set_X9_playerAt rfl rfl rfl hdX9_playerAt_o ⟨Nat.le_of_ble_eq_true rfl, Nat.le_of_ble_eq_true rfl⟩) hN hP hD hS hA [] [0, 1] rfl rfl rfl rfl (by decide) rfl rfl hl.1 (Nat.le_of_ble_eq_true rfl) dX9_set_5 (Nat.le_of_ble_eq_true rfl) (Nat.le_of_ble_eq_true rfl) (fun u0 H locs hP hD hS => ?_)
  have hP : va_P D vwCl [(a0, .inr (9, [.int 0, .ref a2, .int 0, .int 0, .int 0, .int 0, .int 0, .int (-1), .ref a1, .ref a3, .ref a4, .ref a5, .int 0, .int 0, .int 0, .int 0, .int 0, .ref a6])), (a1, .inl (cs 0, 45783, .inl (upd (upd (upd (upd (upd (upd (upd (upd (upd (upd (upd (upd (upd (upd (upd (upd (layF (fun _ => 0) 1) 6 1) 15 1) 16 1) 17 50) 28 1) 29 0) 31 1) 30 1) 19 1) 20 1) 7 1) 28 2) 1 1) 21 1) 22 1) 27 1)))] H := hP
  have hD : va_D A [(a0, .inr (9, [.int 0, .ref a2, .int 0, .int 0, .int 0, .int 0, .int 0, .int (-1), .ref a1, .ref a3, .ref a4, .ref a5, .int 0, .int 0, .int 0, .int 0, .int 0, .ref a6])), (a1, .inl (cs 0, 45783, .inl (upd (upd (upd (upd (upd (upd (upd (upd (upd (upd (upd (upd (upd (upd (upd (upd (layF (fun _ => 0) 1) 6 1) 15 1) 16 1) 17 50) 28 1) 29 0) 31 1) 30 1) 19 1) 20 1) 7 1) 28 2) 1 1) 21 1) 22 1) 27 1)))] := hD
  refine W.widen (k := 0) (n := 0) (Nat.le_of_ble_eq_true rfl) (Nat.le_of_ble_eq_true rfl) ?_
  refine lv_iload_n hx hb dX9_set_8 rfl (lv_at hl 2 rfl) ?_
  refine lv_iadd hx hb dX9_set_9 ?_
  refine tp_i (32) (by decide) ?_
  refine lv_iload_n hx hb dX9_set_10 rfl (lv_at hl 3 rfl) ?_
  refine st_i (g := (upd (upd (upd (upd (upd (upd (upd (upd (upd (upd (upd (upd (upd (upd (upd (upd (upd (layF (fun _ => 0) 1) 6 1) 15 1) 16 1) 17 50) 28 1) 29 0) 31 1) 30 1) 19 1) 20 1) 7 1) 28 2) 1 1) 21 1) 22 1) 27 1) 32 1)) hx hb hN hP hD hS 1 rfl (vin (by decide +kernel)) rfl dX9_set_11 (fun H locs hP hD hS => ?_)
  have hP : va_P D vwCl [(a0, .inr (9, [.int 0, .ref a2, .int 0, .int 0, .int 0, .int 0, .int 0, .int (-1), .ref a1, .ref a3, .ref a4, .ref a5, .int 0, .int 0, .int 0, .int 0, .int 0, .ref a6])), (a1, .inl (cs 0, 45783, .inl (upd (upd (upd (upd (upd (upd (upd (upd (upd (upd (upd (upd (upd (upd (upd (upd (upd (layF (fun _ => 0) 1) 6 1) 15 1) 16 1) 17 50) 28 1) 29 0) 31 1) 30 1) 19 1) 20 1) 7 1) 28 2) 1 1) 21 1) 22 1) 27 1) 32 1)))] H := hP
  have hD : va_D A [(a0, .inr (9, [.int 0, .ref a2, .int 0, .int 0, .int 0, .int 0, .int 0, .int (-1), .ref a1, .ref a3, .ref a4, .ref a5, .int 0, .int 0, .int 0, .int 0, .int 0, .ref a6])), (a1, .inl (cs 0, 45783, .inl (upd (upd (upd (upd (upd (upd (upd (upd (upd (upd (upd (upd (upd (upd (upd (upd (upd (layF (fun _ => 0) 1) 6 1) 15 1) 16 1) 17 50) 28 1) 29 0) 31 1) 30 1) 19 1) 20 1) 7 1) 28 2) 1 1) 21 1) 22 1) 27 1) 32 1)))] := hD
  exact en_v (fun k => ([] : List Nat).getD k 0) hx hb hr hlocks hP hD hS (Nat.le_of_ble_eq_true rfl) (Nat.le_of_ble_eq_true rfl) dX9_set_12
set_option maxHeartbeats 4000000 in
set_option maxRecDepth 100000 in
theorem k426_X9_of (l : Launch) (D : va_G) (cs : Nat → ClassId) (sz : Nat) (a0 a1 a2 a3 a4 a5 a6 : Nat) : KI l yX9_of wsX9_of 1 20 0 0 D cs sz [.ref a0, .int 0, .int 10] [(a0, .inr (9, [.int 0, .ref a2, .int 0, .int 0, .int 0, .int 0, .int 0, .int (-1), .ref a1, .ref a3, .ref a4, .ref a5, .int 0, .int 0, .int 0, .int 0, .int 0, .ref a6])), (a1, .inl (cs 0, 45783, .inl (upd (upd (upd (upd (upd (upd (upd (upd (upd (upd (upd (upd (upd (upd (upd (upd (upd (layF (fun _ => 0) 1) 6 1) 15 1) 16 1) 17 50) 28 1) 29 0) 31 1) 30 1) 19 1) 20 1) 7 1) 28 2) 1 1) 21 1) 22 1) 27 1) 32 1)))] (fun u => [(a0, .inr (9, [.int 0, .ref a2, .int 0, .int 0, .int 0, .int 0, .int 0, .int (-1), .ref a1, .ref a3, .ref a4, .ref a5, .int 0, .int 0, .int 0, .int 0, .int 0, .ref a6])), (a1, .inl (cs 0, 45783, .inl (upd (upd (upd (upd (upd (upd (upd (upd (upd (upd (upd (upd (upd (upd (upd (upd (upd (layF (fun _ => 0) 1) 6 1) 15 1) 16 1) 17 50) 28 1) 29 0) 31 1) 30 1) 19 1) 20 1) 7 1) 28 2) 1 1) 21 1) 22 1) 27 1) 32 1)))]) (0) := by
  refine KI.of cX9_of 3 (some .int) (by decide) rfl (Nat.le_of_ble_eq_true rfl) ?_
  intro p e s m below meth c A ls hx hb hr hml hown hts hlocks hin hP hN hD hA hS hl
  have hown : s.vm.findClass RX9 = some m.cls := hown
  have hl : lv_has ls 3 [(0, .ref a0), (1, .int 0), (2, .int 10)] := hl
  refine lv_aload_n hx hb dX9_of_0 rfl (lv_at hl 0 rfl) ?_
  refine va_get (D := D) (ci := 9) (v := .ref a1) (C := RX9) (T := TX9) (N := 18) hx hb hts iX9_of_9 hown hN.1 hP 0 rfl rfl 8 (by decide) (hts _ mX9_of_1) (fun _ h9 => h9) rfl dX9_of_1 ?_
  refine lv_iload_n hx hb dX9_of_4 rfl (lv_at hl 1 rfl) ?_
  refine cs_i (As := [.int 0]) (rest := [.ref a1]) (wr := [(a0, .inr (9, [.int 0, .ref a2, .int 0, .int 0, .int 0, .int 0, .int 0, .int (-1), .ref a1, .ref a3, .ref a4, .ref a5, .int 0, .int 0, .int 0, .int 0, .int 0, .ref a6])), (a1, .inl (cs 0, 45783, .inl (upd (upd (upd (upd (upd (upd (upd (upd (upd (upd (upd (upd (upd (upd (upd (upd (upd (layF (fun _ => 0) 1) 6 1) 15 1) 16 1) 17 50) 28 1) 29 0) 31 1) 30 1) 19 1) 20 1) 7 1) 28 2) 1 1) 21 1) 22 1) 27 1) 32 1)))]) ⟨hx, hb, hml, hown, hts⟩ (fun sz => k16_X9_playerAt l D cs sz ) (va_cwS 1 hts gX9_of_X9_playerAt rfl rfl rfl hdX9_playerAt_o ⟨Nat.le_of_ble_eq_true rfl, Nat.le_of_ble_eq_true rfl⟩) hN hP hD hS hA [] [0, 1] rfl rfl rfl rfl (by decide) rfl rfl hl.1 (Nat.le_of_ble_eq_true rfl) dX9_of_5 (Nat.le_of_ble_eq_true rfl) (Nat.le_of_ble_eq_true rfl) (fun u0 H locs hP hD hS => ?_)
  have hP : va_P D vwCl [(a0, .inr (9, [.int 0, .ref a2, .int 0, .int 0, .int 0, .int 0, .int 0, .int (-1), .ref a1, .ref a3, .ref a4, .ref a5, .int 0, .int 0, .int 0, .int 0, .int 0, .ref a6])), (a1, .inl (cs 0, 45783, .inl (upd (upd (upd (upd (upd (upd (upd (upd (upd (upd (upd (upd (upd (upd (upd (upd (upd (layF (fun _ => 0) 1) 6 1) 15 1) 16 1) 17 50) 28 1) 29 0) 31 1) 30 1) 19 1) 20 1) 7 1) 28 2) 1 1) 21 1) 22 1) 27 1) 32 1)))] H := hP
  have hD : va_D A [(a0, .inr (9, [.int 0, .ref a2, .int 0, .int 0, .int 0, .int 0, .int 0, .int (-1), .ref a1, .ref a3, .ref a4, .ref a5, .int 0, .int 0, .int 0, .int 0, .int 0, .ref a6])), (a1, .inl (cs 0, 45783, .inl (upd (upd (upd (upd (upd (upd (upd (upd (upd (upd (upd (upd (upd (upd (upd (upd (upd (layF (fun _ => 0) 1) 6 1) 15 1) 16 1) 17 50) 28 1) 29 0) 31 1) 30 1) 19 1) 20 1) 7 1) 28 2) 1 1) 21 1) 22 1) 27 1) 32 1)))] := hD
  refine W.widen (k := 0) (n := 0) (Nat.le_of_ble_eq_true rfl) (Nat.le_of_ble_eq_true rfl) ?_
  refine lv_iload_n hx hb dX9_of_8 rfl (lv_at hl 2 rfl) ?_
  refine lv_iadd hx hb dX9_of_9 ?_
  refine tp_i (33) (by decide) ?_
  refine ld_i (v := 0) hx hb hN hP 1 rfl (vin (by decide +kernel)) (by first | rfl | decide +kernel) dX9_of_10 ?_
  exact en_i (fun k => ([] : List Nat).getD k 0) hx hb hr hlocks rfl rfl hP hD hS (Nat.le_of_ble_eq_true rfl) (Nat.le_of_ble_eq_true rfl) dX9_of_11
set_option maxHeartbeats 4000000 in
set_option maxRecDepth 100000 in
theorem k427_X9_set (l : Launch) (D : va_G) (cs : Nat → ClassId) (sz : Nat) (a0 a1 a2 a3 a4 a5 a6 : Nat) : KV l yX9_set wsX9_set 1 20 0 0 D cs sz [.ref a0, .int 0, .int 10, .int 0] [(a0, .inr (9, [.int 0, .ref a2, .int 0, .int 0, .int 0, .int 0, .int 0, .int (-1), .ref a1, .ref a3, .ref a4, .ref a5, .int 0, .int 0, .int 0, .int 0, .int 0, .ref a6])), (a1, .inl (cs 0, 45783, .inl (upd (upd (upd (upd (upd (upd (upd (upd (upd (upd (upd (upd (upd (upd (upd (upd (upd (layF (fun _ => 0) 1) 6 1) 15 1) 16 1) 17 50) 28 1) 29 0) 31 1) 30 1) 19 1) 20 1) 7 1) 28 2) 1 1) 21 1) 22 1) 27 1) 32 1)))] (fun u => [(a0, .inr (9, [.int 0, .ref a2, .int 0, .int 0, .int 0, .int 0, .int 0, .int (-1), .ref a1, .ref a3, .ref a4, .ref a5, .int 0, .int 0, .int 0, .int 0, .int 0, .ref a6])), (a1, .inl (cs 0, 45783, .inl (upd (upd (upd (upd (upd (upd (upd (upd (upd (upd (upd (upd (upd (upd (upd (upd (upd (layF (fun _ => 0) 1) 6 1) 15 1) 16 1) 17 50) 28 1) 29 0) 31 1) 30 1) 19 1) 20 1) 7 1) 28 2) 1 1) 21 1) 22 1) 27 1) 32 1)))]) := by
  refine KV.of cX9_set 4 none (by decide) rfl (Nat.le_of_ble_eq_true rfl) ?_
  intro p e s m below meth c A ls hx hb hr hml hown hts hlocks hin hP hN hD hA hS hl
  have hown : s.vm.findClass RX9 = some m.cls := hown
  have hl : lv_has ls 4 [(0, .ref a0), (1, .int 0), (2, .int 10), (3, .int 0)] := hl
  refine lv_aload_n hx hb dX9_set_0 rfl (lv_at hl 0 rfl) ?_
  refine va_get (D := D) (ci := 9) (v := .ref a1) (C := RX9) (T := TX9) (N := 18) hx hb hts iX9_set_9 hown hN.1 hP 0 rfl rfl 8 (by decide) (hts _ mX9_set_1) (fun _ h9 => h9) rfl dX9_set_1 ?_
  refine lv_iload_n hx hb dX9_set_4 rfl (lv_at hl 1 rfl) ?_
  refine cs_i (As := [.int 0]) (rest := [.ref a1]) (wr := [(a0, .inr (9, [.int 0, .ref a2, .int 0, .int 0, .int 0, .int 0, .int 0, .int (-1), .ref a1, .ref a3, .ref a4, .ref a5, .int 0, .int 0, .int 0, .int 0, .int 0, .ref a6])), (a1, .inl (cs 0, 45783, .inl (upd (upd (upd (upd (upd (upd (upd (upd (upd (upd (upd (upd (upd (upd (upd (upd (upd (layF (fun _ => 0) 1) 6 1) 15 1) 16 1) 17 50) 28 1) 29 0) 31 1) 30 1) 19 1) 20 1) 7 1) 28 2) 1 1) 21 1) 22 1) 27 1) 32 1)))]) ⟨hx, hb, hml, hown, hts⟩ (fun sz => k16_X9_playerAt l D cs sz ) (va_cwS 1 hts gX9_set_X9_playerAt rfl rfl rfl hdX9_playerAt_o ⟨Nat.le_of_ble_eq_true rfl, Nat.le_of_ble_eq_true rfl⟩) hN hP hD hS hA [] [0, 1] rfl rfl rfl rfl (by decide) rfl rfl hl.1 (Nat.le_of_ble_eq_true rfl) dX9_set_5 (Nat.le_of_ble_eq_true rfl) (Nat.le_of_ble_eq_true rfl) (fun u0 H locs hP hD hS => ?_)
  have hP : va_P D vwCl [(a0, .inr (9, [.int 0, .ref a2, .int 0, .int 0, .int 0, .int 0, .int 0, .int (-1), .ref a1, .ref a3, .ref a4, .ref a5, .int 0, .int 0, .int 0, .int 0, .int 0, .ref a6])), (a1, .inl (cs 0, 45783, .inl (upd (upd (upd (upd (upd (upd (upd (upd (upd (upd (upd (upd (upd (upd (upd (upd (upd (layF (fun _ => 0) 1) 6 1) 15 1) 16 1) 17 50) 28 1) 29 0) 31 1) 30 1) 19 1) 20 1) 7 1) 28 2) 1 1) 21 1) 22 1) 27 1) 32 1)))] H := hP
  have hD : va_D A [(a0, .inr (9, [.int 0, .ref a2, .int 0, .int 0, .int 0, .int 0, .int 0, .int (-1), .ref a1, .ref a3, .ref a4, .ref a5, .int 0, .int 0, .int 0, .int 0, .int 0, .ref a6])), (a1, .inl (cs 0, 45783, .inl (upd (upd (upd (upd (upd (upd (upd (upd (upd (upd (upd (upd (upd (upd (upd (upd (upd (layF (fun _ => 0) 1) 6 1) 15 1) 16 1) 17 50) 28 1) 29 0) 31 1) 30 1) 19 1) 20 1) 7 1) 28 2) 1 1) 21 1) 22 1) 27 1) 32 1)))] := hD
  refine W.widen (k := 0) (n := 0) (Nat.le_of_ble_eq_true rfl) (Nat.le_of_ble_eq_true rfl) ?_
  refine lv_iload_n hx hb dX9_set_8 rfl (lv_at hl 2 rfl) ?_
  refine lv_iadd hx hb dX9_set_9 ?_
  refine tp_i (33) (by decide) ?_
  refine lv_iload_n hx hb dX9_set_10 rfl (lv_at hl 3 rfl) ?_
  refine st_i (g := (upd (upd (upd (upd (upd (upd (upd (upd (upd (upd (upd (upd (upd (upd (upd (upd (upd (layF (fun _ => 0) 1) 6 1) 15 1) 16 1) 17 50) 28 1) 29 0) 31 1) 30 1) 19 1) 20 1) 7 1) 28 2) 1 1) 21 1) 22 1) 27 1) 32 1)) hx hb hN hP hD hS 1 rfl (vin (by decide +kernel)) (upd_id (by first | rfl | decide +kernel)) dX9_set_11 (fun H locs hP hD hS => ?_)
  have hP : va_P D vwCl [(a0, .inr (9, [.int 0, .ref a2, .int 0, .int 0, .int 0, .int 0, .int 0, .int (-1), .ref a1, .ref a3, .ref a4, .ref a5, .int 0, .int 0, .int 0, .int 0, .int 0, .ref a6])), (a1, .inl (cs 0, 45783, .inl (upd (upd (upd (upd (upd (upd (upd (upd (upd (upd (upd (upd (upd (upd (upd (upd (upd (layF (fun _ => 0) 1) 6 1) 15 1) 16 1) 17 50) 28 1) 29 0) 31 1) 30 1) 19 1) 20 1) 7 1) 28 2) 1 1) 21 1) 22 1) 27 1) 32 1)))] H := hP
  have hD : va_D A [(a0, .inr (9, [.int 0, .ref a2, .int 0, .int 0, .int 0, .int 0, .int 0, .int (-1), .ref a1, .ref a3, .ref a4, .ref a5, .int 0, .int 0, .int 0, .int 0, .int 0, .ref a6])), (a1, .inl (cs 0, 45783, .inl (upd (upd (upd (upd (upd (upd (upd (upd (upd (upd (upd (upd (upd (upd (upd (upd (upd (layF (fun _ => 0) 1) 6 1) 15 1) 16 1) 17 50) 28 1) 29 0) 31 1) 30 1) 19 1) 20 1) 7 1) 28 2) 1 1) 21 1) 22 1) 27 1) 32 1)))] := hD
  exact en_v (fun k => ([] : List Nat).getD k 0) hx hb hr hlocks hP hD hS (Nat.le_of_ble_eq_true rfl) (Nat.le_of_ble_eq_true rfl) dX9_set_12
set_option maxHeartbeats 4000000 in
set_option maxRecDepth 100000 in
theorem k428_X9_set (l : Launch) (D : va_G) (cs : Nat → ClassId) (sz : Nat) (a0 a1 a2 a3 a4 a5 a6 : Nat) : KV l yX9_set wsX9_set 1 20 0 0 D cs sz [.ref a0, .int 0, .int 11, .int 1] [(a0, .inr (9, [.int 0, .ref a2, .int 0, .int 0, .int 0, .int 0, .int 0, .int (-1), .ref a1, .ref a3, .ref a4, .ref a5, .int 0, .int 0, .int 0, .int 0, .int 0, .ref a6])), (a1, .inl (cs 0, 45783, .inl (upd (upd (upd (upd (upd (upd (upd (upd (upd (upd (upd (upd (upd (upd (upd (upd (upd (layF (fun _ => 0) 1) 6 1) 15 1) 16 1) 17 50) 28 1) 29 0) 31 1) 30 1) 19 1) 20 1) 7 1) 28 2) 1 1) 21 1) 22 1) 27 1) 32 1)))] (fun u => [(a0, .inr (9, [.int 0, .ref a2, .int 0, .int 0, .int 0, .int 0, .int 0, .int (-1), .ref a1, .ref a3, .ref a4, .ref a5, .int 0, .int 0, .int 0, .int 0, .int 0, .ref a6])), (a1, .inl (cs 0, 45783, .inl (upd (upd (upd (upd (upd (upd (upd (upd (upd (upd (upd (upd (upd (upd (upd (upd (upd (upd (layF (fun _ => 0) 1) 6 1) 15 1) 16 1) 17 50) 28 1) 29 0) 31 1) 30 1) 19 1) 20 1) 7 1) 28 2) 1 1) 21 1) 22 1) 27 1) 32 1) 34 1)))]) := by
  refine KV.of cX9_set 4 none (by decide) rfl (Nat.le_of_ble_eq_true rfl) ?_
  intro p e s m below meth c A ls hx hb hr hml hown hts hlocks hin hP hN hD hA hS hl
  have hown : s.vm.findClass RX9 = some m.cls := hown
  have hl : lv_has ls 4 [(0, .ref a0), (1, .int 0), (2, .int 11), (3, .int 1)] := hl
  refine lv_aload_n hx hb dX9_set_0 rfl (lv_at hl 0 rfl) ?_
  refine va_get (D := D) (ci := 9) (v := .ref a1) (C := RX9) (T := TX9) (N := 18) hx hb hts iX9_set_9 hown hN.1 hP 0 rfl rfl 8 (by decide) (hts _ mX9_set_1) (fun _ h9 => h9) rfl dX9_set_1 ?_
  refine lv_iload_n hx hb dX9_set_4 rfl (lv_at hl 1 rfl) ?_
  refine cs_i (As := [.int 0]) (rest := [.ref a1]) (wr := [(a0, .inr (9, [.int 0, .ref a2, .int 0, .int 0, .int 0, .int 0, .int 0, .int (-1), .ref a1, .ref a3, .ref a4, .ref a5, .int 0, .int 0, .int 0, .int 0, .int 0, .ref a6])), (a1, .inl (cs 0, 45783, .inl (upd (upd (upd (upd (upd (upd (upd (upd (upd (upd (upd (upd (upd (upd (upd (upd (upd (layF (fun _ => 0) 1) 6 1) 15 1) 16 1) 17 50) 28 1) 29 0) 31 1) 30 1) 19 1) 20 1) 7 1) 28 2) 1 1) 21 1) 22 1) 27 1) 32 1)))]) ⟨hx, hb, hml, hown, hts⟩ (fun sz => k16_X9_playerAt l D cs sz ) (va_cwS 1 hts gX9_set_X9_playerAt rfl rfl rfl hdX9_playerAt_o ⟨Nat.le_of_ble_eq_true rfl, Nat.le_of_ble_eq_true rfl⟩) hN hP hD hS hA [] [0, 1] rfl rfl rfl rfl (by decide) rfl rfl hl.1 (Nat.le_of_ble_eq_true rfl) dX9_set_5 (Nat.le_of_ble_eq_true rfl) (Nat.le_of_ble_eq_true rfl) (fun u0 H locs hP hD hS => ?_)
  have hP : va_P D vwCl [(a0, .inr (9, [.int 0, .ref a2, .int 0, .int 0, .int 0, .int 0, .int 0, .int (-1), .ref a1, .ref a3, .ref a4, .ref a5, .int 0, .int 0, .int 0, .int 0, .int 0, .ref a6])), (a1, .inl (cs 0, 45783, .inl (upd (upd (upd (upd (upd (upd (upd (upd (upd (upd (upd (upd (upd (upd (upd (upd (upd (layF (fun _ => 0) 1) 6 1) 15 1) 16 1) 17 50) 28 1) 29 0) 31 1) 30 1) 19 1) 20 1) 7 1) 28 2) 1 1) 21 1) 22 1) 27 1) 32 1)))] H := hP
  have hD : va_D A [(a0, .inr (9, [.int 0, .ref a2, .int 0, .int 0, .int 0, .int 0, .int 0, .int (-1), .ref a1, .ref a3, .ref a4, .ref a5, .int 0, .int 0, .int 0, .int 0, .int 0, .ref a6])), (a1, .inl (cs 0, 45783, .inl (upd (upd (upd (upd (upd (upd (upd (upd (upd (upd (upd (upd (upd (upd (upd (upd (upd (layF (fun _ => 0) 1) 6 1) 15 1) 16 1) 17 50) 28 1) 29 0) 31 1) 30 1) 19 1) 20 1) 7 1) 28 2) 1 1) 21 1) 22 1) 27 1) 32 1)))] := hD
  refine W.widen (k := 0) (n := 0) (Nat.le_of_ble_eq_true rfl) (Nat.le_of_ble_eq_true rfl) ?_
  refine lv_iload_n hx hb dX9_set_8 rfl (lv_at hl 2 rfl) ?_
  refine lv_iadd hx hb dX9_set_9 ?_
  refine tp_i (34) (by decide) ?_
  refine lv_iload_n hx hb dX9_set_10 rfl (lv_at hl 3 rfl) ?_
  refine st_i (g := (upd (upd (upd (upd (upd (upd (upd (upd (upd (upd (upd (upd (upd (upd (upd (upd (upd (upd (layF (fun _ => 0) 1) 6 1) 15 1) 16 1) 17 50) 28 1) 29 0) 31 1) 30 1) 19 1) 20 1) 7 1) 28 2) 1 1) 21 1) 22 1) 27 1) 32 1) 34 1)) hx hb hN hP hD hS 1 rfl (vin (by decide +kernel)) rfl dX9_set_11 (fun H locs hP hD hS => ?_)
  have hP : va_P D vwCl [(a0, .inr (9, [.int 0, .ref a2, .int 0, .int 0, .int 0, .int 0, .int 0, .int (-1), .ref a1, .ref a3, .ref a4, .ref a5, .int 0, .int 0, .int 0, .int 0, .int 0, .ref a6])), (a1, .inl (cs 0, 45783, .inl (upd (upd (upd (upd (upd (upd (upd (upd (upd (upd (upd (upd (upd (upd (upd (upd (upd (upd (layF (fun _ => 0) 1) 6 1) 15 1) 16 1) 17 50) 28 1) 29 0) 31 1) 30 1) 19 1) 20 1) 7 1) 28 2) 1 1) 21 1) 22 1) 27 1) 32 1) 34 1)))] H := hP
  have hD : va_D A [(a0, .inr (9, [.int 0, .ref a2, .int 0, .int 0, .int 0, .int 0, .int 0, .int (-1), .ref a1, .ref a3, .ref a4, .ref a5, .int 0, .int 0, .int 0, .int 0, .int 0, .ref a6])), (a1, .inl (cs 0, 45783, .inl (upd (upd (upd (upd (upd (upd (upd (upd (upd (upd (upd (upd (upd (upd (upd (upd (upd (upd (layF (fun _ => 0) 1) 6 1) 15 1) 16 1) 17 50) 28 1) 29 0) 31 1) 30 1) 19 1) 20 1) 7 1) 28 2) 1 1) 21 1) 22 1) 27 1) 32 1) 34 1)))] := hD
  exact en_v (fun k => ([] : List Nat).getD k 0) hx hb hr hlocks hP hD hS (Nat.le_of_ble_eq_true rfl) (Nat.le_of_ble_eq_true rfl) dX9_set_12
set_option maxHeartbeats 4000000 in
set_option maxRecDepth 100000 in
theorem k429_X9_set (l : Launch) (D : va_G) (cs : Nat → ClassId) (sz : Nat) (a0 a1 a2 a3 a4 a5 a6 : Nat) : KV l yX9_set wsX9_set 1 20 0 0 D cs sz [.ref a0, .int 0, .int 5, .int 0] [(a0, .inr (9, [.int 0, .ref a2, .int 0, .int 0, .int 0, .int 0, .int 0, .int (-1), .ref a1, .ref a3, .ref a4, .ref a5, .int 0, .int 0, .int 0, .int 0, .int 0, .ref a6])), (a1, .inl (cs 0, 45783, .inl (upd (upd (upd (upd (upd (upd (upd (upd (upd (upd (upd (upd (upd (upd (upd (upd (upd (upd (layF (fun _ => 0) 1) 6 1) 15 1) 16 1) 17 50) 28 1) 29 0) 31 1) 30 1) 19 1) 20 1) 7 1) 28 2) 1 1) 21 1) 22 1) 27 1) 32 1) 34 1)))] (fun u => [(a0, .inr (9, [.int 0, .ref a2, .int 0, .int 0, .int 0, .int 0, .int 0, .int (-1), .ref a1, .ref a3, .ref a4, .ref a5, .int 0, .int 0, .int 0, .int 0, .int 0, .ref a6])), (a1, .inl (cs 0, 45783, .inl (upd (upd (upd (upd (upd (upd (upd (upd (upd (upd (upd (upd (upd (upd (upd (upd (upd (upd (upd (layF (fun _ => 0) 1) 6 1) 15 1) 16 1) 17 50) 28 1) 29 0) 31 1) 30 1) 19 1) 20 1) 7 1) 28 2) 1 1) 21 1) 22 1) 27 1) 32 1) 34 1) 28 0)))]) := by
  refine KV.of cX9_set 4 none (by decide) rfl (Nat.le_of_ble_eq_true rfl) ?_
  intro p e s m below meth c A ls hx hb hr hml hown hts hlocks hin hP hN hD hA hS hl
  have hown : s.vm.findClass RX9 = some m.cls := hown
  have hl : lv_has ls 4 [(0, .ref a0), (1, .int 0), (2, .int 5), (3, .int 0)] := hl
  refine lv_aload_n hx hb dX9_set_0 rfl (lv_at hl 0 rfl) ?_
  refine va_get (D := D) (ci := 9) (v := .ref a1) (C := RX9) (T := TX9) (N := 18) hx hb hts iX9_set_9 hown hN.1 hP 0 rfl rfl 8 (by decide) (hts _ mX9_set_1) (fun _ h9 => h9) rfl dX9_set_1 ?_
  refine lv_iload_n hx hb dX9_set_4 rfl (lv_at hl 1 rfl) ?_
  refine cs_i (As := [.int 0]) (rest := [.ref a1]) (wr := [(a0, .inr (9, [.int 0, .ref a2, .int 0, .int 0, .int 0, .int 0, .int 0, .int (-1), .ref a1, .ref a3, .ref a4, .ref a5, .int 0, .int 0, .int 0, .int 0, .int 0, .ref a6])), (a1, .inl (cs 0, 45783, .inl (upd (upd (upd (upd (upd (upd (upd (upd (upd (upd (upd (upd (upd (upd (upd (upd (upd (upd (layF (fun _ => 0) 1) 6 1) 15 1) 16 1) 17 50) 28 1) 29 0) 31 1) 30 1) 19 1) 20 1) 7 1) 28 2) 1 1) 21 1) 22 1) 27 1) 32 1) 34 1)))]) ⟨hx, hb, hml, hown, hts⟩ (fun sz => k16_X9_playerAt l D cs sz ) (va_cwS 1 hts gX9_set_X9_playerAt rfl rfl rfl hdX9_playerAt_o ⟨Nat.le_of_ble_eq_true rfl, Nat.le_of_ble_eq_true rfl⟩) hN hP hD hS hA [] [0, 1] rfl rfl rfl rfl (by decide) rfl rfl hl.1 (Nat.le_of_ble_eq_true rfl) dX9_set_5 (Nat.le_of_ble_eq_true rfl) (Nat.le_of_ble_eq_true rfl) (fun u0 H locs hP hD hS => ?_)
  have hP : va_P D vwCl [(a0, .inr (9, [.int 0, .ref a2, .int 0, .int 0, .int 0, .int 0, .int 0, .int (-1), .ref a1, .ref a3, .ref a4, .ref a5, .int 0, .int 0, .int 0, .int 0, .int 0, .ref a6])), (a1, .inl (cs 0, 45783, .inl (upd (upd (upd (upd (upd (upd (upd (upd (upd (upd (upd (upd (upd (upd (upd (upd (upd (upd (layF (fun _ => 0) 1) 6 1) 15 1) 16 1) 17 50) 28 1) 29 0) 31 1) 30 1) 19 1) 20 1) 7 1) 28 2) 1 1) 21 1) 22 1) 27 1) 32 1) 34 1)))] H := hP
  have hD : va_D A [(a0, .inr (9, [.int 0, .ref a2, .int 0, .int 0, .int 0, .int 0, .int 0, .int (-1), .ref a1, .ref a3, .ref a4, .ref a5, .int 0, .int 0, .int 0, .int 0, .int 0, .ref a6])), (a1, .inl (cs 0, 45783, .inl (upd (upd (upd (upd (upd (upd (upd (upd (upd (upd (upd (upd (upd (upd (upd (upd (upd (upd (layF (fun _ => 0) 1) 6 1) 15 1) 16 1) 17 50) 28 1) 29 0) 31 1) 30 1) 19 1) 20 1) 7 1) 28 2) 1 1) 21 1) 22 1) 27 1) 32 1) 34 1)))] := hD
  refine W.widen (k := 0) (n := 0) (Nat.le_of_ble_eq_true rfl) (Nat.le_of_ble_eq_true rfl) ?_
  refine lv_iload_n hx hb dX9_set_8 rfl (lv_at hl 2 rfl) ?_
  refine lv_iadd hx hb dX9_set_9 ?_
  refine tp_i (28) (by decide) ?_
  refine lv_iload_n hx hb dX9_set_10 rfl (lv_at hl 3 rfl) ?_
  refine st_i (g := (upd (upd (upd (upd (upd (upd (upd (upd (upd (upd (upd (upd (upd (upd (upd (upd (upd (upd (upd (layF (fun _ => 0) 1) 6 1) 15 1) 16 1) 17 50) 28 1) 29 0) 31 1) 30 1) 19 1) 20 1) 7 1) 28 2) 1 1) 21 1) 22 1) 27 1) 32 1) 34 1) 28 0)) hx hb hN hP hD hS 1 rfl (vin (by decide +kernel)) rfl dX9_set_11 (fun H locs hP hD hS => ?_)
  have hP : va_P D vwCl [(a0, .inr (9, [.int 0, .ref a2, .int 0, .int 0, .int 0, .int 0, .int 0, .int (-1), .ref a1, .ref a3, .ref a4, .ref a5, .int 0, .int 0, .int 0, .int 0, .int 0, .ref a6])), (a1, .inl (cs 0, 45783, .inl (upd (upd (upd (upd (upd (upd (upd (upd (upd (upd (upd (upd (upd (upd (upd (upd (upd (upd (upd (layF (fun _ => 0) 1) 6 1) 15 1) 16 1) 17 50) 28 1) 29 0) 31 1) 30 1) 19 1) 20 1) 7 1) 28 2) 1 1) 21 1) 22 1) 27 1) 32 1) 34 1) 28 0)))] H := hP
  have hD : va_D A [(a0, .inr (9, [.int 0, .ref a2, .int 0, .int 0, .int 0, .int 0, .int 0, .int (-1), .ref a1, .ref a3, .ref a4, .ref a5, .int 0, .int 0, .int 0, .int 0, .int 0, .ref a6])), (a1, .inl (cs 0, 45783, .inl (upd (upd (upd (upd (upd (upd (upd (upd (upd (upd (upd (upd (upd (upd (upd (upd (upd (upd (upd (layF (fun _ => 0) 1) 6 1) 15 1) 16 1) 17 50) 28 1) 29 0) 31 1) 30 1) 19 1) 20 1) 7 1) 28 2) 1 1) 21 1) 22 1) 27 1) 32 1) 34 1) 28 0)))] := hD
  exact en_v (fun k => ([] : List Nat).getD k 0) hx hb hr hlocks hP hD hS (Nat.le_of_ble_eq_true rfl) (Nat.le_of_ble_eq_true rfl) dX9_set_12
set_option maxHeartbeats 4000000 in
set_option maxRecDepth 100000 in
theorem k430_X9_set (l : Launch) (D : va_G) (cs : Nat → ClassId) (sz : Nat) (a0 a1 a2 a3 a4 a5 a6 : Nat) : KV l yX9_set wsX9_set 1 20 0 0 D cs sz [.ref a0, .int 0, .int 6, .int (-1)] [(a0, .inr (9, [.int 0, .ref a2, .int 0, .int 0, .int 0, .int 0, .int 0, .int (-1), .ref a1, .ref a3, .ref a4, .ref a5, .int 0, .int 0, .int 0, .int 0, .int 0, .ref a6])), (a1, .inl (cs 0, 45783, .inl (upd (upd (upd (upd (upd (upd (upd (upd (upd (upd (upd (upd (upd (upd (upd (upd (upd (upd (upd (layF (fun _ => 0) 1) 6 1) 15 1) 16 1) 17 50) 28 1) 29 0) 31 1) 30 1) 19 1) 20 1) 7 1) 28 2) 1 1) 21 1) 22 1) 27 1) 32 1) 34 1) 28 0)))] (fun u => [(a0, .inr (9, [.int 0, .ref a2, .int 0, .int 0, .int 0, .int 0, .int 0, .int (-1), .ref a1, .ref a3, .ref a4, .ref a5, .int 0, .int 0, .int 0, .int 0, .int 0, .ref a6])), (a1, .inl (cs 0, 45783, .inl (upd (upd (upd (upd (upd (upd (upd (upd (upd (upd (upd (upd (upd (upd (upd (upd (upd (upd (upd (upd (layF (fun _ => 0) 1) 6 1) 15 1) 16 1) 17 50) 28 1) 29 0) 31 1) 30 1) 19 1) 20 1) 7 1) 28 2) 1 1) 21 1) 22 1) 27 1) 32 1) 34 1) 28 0) 29 (-1))))]) := by
  refine KV.of cX9_set 4 none (by decide) rfl (Nat.le_of_ble_eq_true rfl) ?_
  intro p e s m below meth c A ls hx hb hr hml hown hts hlocks hin hP hN hD hA hS hl
  have hown : s.vm.findClass RX9 = some m.cls := hown
  have hl : lv_has ls 4 [(0, .ref a0), (1, .int 0), (2, .int 6), (3, .int (-1))] := hl
  refine lv_aload_n hx hb dX9_set_0 rfl (lv_at hl 0 rfl) ?_
  refine va_get (D := D) (ci := 9) (v := .ref a1) (C := RX9) (T := TX9) (N := 18) hx hb hts iX9_set_9 hown hN.1 hP 0 rfl rfl 8 (by decide) (hts _ mX9_set_1) (fun _ h9 => h9) rfl dX9_set_1 ?_
  refine lv_iload_n hx hb dX9_set_4 rfl (lv_at hl 1 rfl) ?_
  refine cs_i (As := [.int 0]) (rest := [.ref a1]) (wr := [(a0, .inr (9, [.int 0, .ref a2, .int 0, .int 0, .int 0, .int 0, .int 0, .int (-1), .ref a1, .ref a3, .ref a4, .ref a5, .int 0, .int 0, .int 0, .int 0, .int 0, .ref a6])), (a1, .inl (cs 0, 45783, .inl (upd (upd (upd (upd (upd (upd (upd (upd (upd (upd (upd (upd (upd (upd (upd (upd (upd (upd (upd (layF (fun _ => 0) 1) 6 1) 15 1) 16 1) 17 50) 28 1) 29 0) 31 1) 30 1) 19 1) 20 1) 7 1) 28 2) 1 1) 21 1) 22 1) 27 1) 32 1) 34 1) 28 0)))]) ⟨hx, hb, hml, hown, hts⟩ (fun sz => k16_X9_playerAt l D cs sz ) (va_cwS 1 hts gX9_set_X9_playerAt rfl rfl rfl hdX9_playerAt_o ⟨Nat.le_of_ble_eq_true rfl, Nat.le_of_ble_eq_true rfl⟩) hN hP hD hS hA [] [0, 1] rfl rfl rfl rfl (by decide) rfl rfl hl.1 (Nat.le_of_ble_eq_true rfl) dX9_set_5 (Nat.le_of_ble_eq_true rfl) (Nat.le_of_ble_eq_true rfl) (fun u0 H locs hP hD hS => ?_)
  have hP : va_P D vwCl [(a0, .inr (9, [.int 0, .ref a2, .int 0, .int 0, .int 0, .int 0, .int 0, .int (-1), .ref a1, .ref a3, .ref a4, .ref a5, .int 0, .int 0, .int 0, .int 0, .int 0, .ref a6])), (a1, .inl (cs 0, 45783, .inl (upd (upd (upd (upd (upd (upd (upd (upd (upd (upd (upd (upd (upd (upd (upd (upd (upd (upd (upd (layF (fun _ => 0) 1) 6 1) 15 1) 16 1) 17 50) 28 1) 29 0) 31 1) 30 1) 19 1) 20 1) 7 1) 28 2) 1 1) 21 1) 22 1) 27 1) 32 1) 34 1) 28 0)))] H := hP
  have hD : va_D A [(a0, .inr (9, [.int 0, .ref a2, .int 0, .int 0, .int 0, .int 0, .int 0, .int (-1), .ref a1, .ref a3, .ref a4, .ref a5, .int 0, .int 0, .int 0, .int 0, .int 0, .ref a6])), (a1, .inl (cs 0, 45783, .inl (upd (upd (upd (upd (upd (upd (upd (upd (upd (upd (upd (upd (upd (upd (upd (upd (upd (upd (upd (layF (fun _ => 0) 1) 6 1) 15 1) 16 1) 17 50) 28 1) 29 0) 31 1) 30 1) 19 1) 20 1) 7 1) 28 2) 1 1) 21 1) 22 1) 27 1) 32 1) 34 1) 28 0)))] := hD
  refine W.widen (k := 0) (n := 0) (Nat.le_of_ble_eq_true rfl) (Nat.le_of_ble_eq_true rfl) ?_
  refine lv_iload_n hx hb dX9_set_8 rfl (lv_at hl 2 rfl) ?_
  refine lv_iadd hx hb dX9_set_9 ?_
  refine tp_i (29) (by decide) ?_
  refine lv_iload_n hx hb dX9_set_10 rfl (lv_at hl 3 rfl) ?_
  refine st_i (g := (upd (upd (upd (upd (upd (upd (upd (upd (upd (upd (upd (upd (upd (upd (upd (upd (upd (upd (upd (upd (layF (fun _ => 0) 1) 6 1) 15 1) 16 1) 17 50) 28 1) 29 0) 31 1) 30 1) 19 1) 20 1) 7 1) 28 2) 1 1) 21 1) 22 1) 27 1) 32 1) 34 1) 28 0) 29 (-1))) hx hb hN hP hD hS 1 rfl (vin (by decide +kernel)) rfl dX9_set_11 (fun H locs hP hD hS => ?_)
  have hP : va_P D vwCl [(a0, .inr (9, [.int 0, .ref a2, .int 0, .int 0, .int 0, .int 0, .int 0, .int (-1), .ref a1, .ref a3, .ref a4, .ref a5, .int 0, .int 0, .int 0, .int 0, .int 0, .ref a6])), (a1, .inl (cs 0, 45783, .inl (upd (upd (upd (upd (upd (upd (upd (upd (upd (upd (upd (upd (upd (upd (upd (upd (upd (upd (upd (upd (layF (fun _ => 0) 1) 6 1) 15 1) 16 1) 17 50) 28 1) 29 0) 31 1) 30 1) 19 1) 20 1) 7 1) 28 2) 1 1) 21 1) 22 1) 27 1) 32 1) 34 1) 28 0) 29 (-1))))] H := hP
  have hD : va_D A [(a0, .inr (9, [.int 0, .ref a2, .int 0, .int 0, .int 0, .int 0, .int 0, .int (-1), .ref a1, .ref a3, .ref a4, .ref a5, .int 0, .int 0, .int 0, .int 0, .int 0, .ref a6])), (a1, .inl (cs 0, 45783, .inl (upd (upd (upd (upd (upd (upd (upd (upd (upd (upd (upd (upd (upd (upd (upd (upd (upd (upd (upd (upd (layF (fun _ => 0) 1) 6 1) 15 1) 16 1) 17 50) 28 1) 29 0) 31 1) 30 1) 19 1) 20 1) 7 1) 28 2) 1 1) 21 1) 22 1) 27 1) 32 1) 34 1) 28 0) 29 (-1))))] := hD
  exact en_v (fun k => ([] : List Nat).getD k 0) hx hb hr hlocks hP hD hS (Nat.le_of_ble_eq_true rfl) (Nat.le_of_ble_eq_true rfl) dX9_set_12
set_option maxHeartbeats 4000000 in
set_option maxRecDepth 100000 in
theorem k431_X9_dropPlan (l : Launch) (D : va_G) (cs : Nat → ClassId) (sz : Nat) (a0 a1 a2 a3 a4 a5 a6 : Nat) : KV l yX9_dropPlan wsX9_dropPlan 2 43 0 0 D cs sz [.ref a0, .int 0] [(a0, .inr (9, [.int 0, .ref a2, .int 0, .int 0, .int 0, .int 0, .int 0, .int (-1), .ref a1, .ref a3, .ref a4, .ref a5, .int 0, .int 0, .int 0, .int 0, .int 0, .ref a6])), (a1, .inl (cs 0, 45783, .inl (upd (upd (upd (upd (upd (upd (upd (upd (upd (upd (upd (upd (upd (upd (upd (upd (upd (upd (layF (fun _ => 0) 1) 6 1) 15 1) 16 1) 17 50) 28 1) 29 0) 31 1) 30 1) 19 1) 20 1) 7 1) 28 2) 1 1) 21 1) 22 1) 27 1) 32 1) 34 1)))] (fun u => [(a0, .inr (9, [.int 0, .ref a2, .int 0, .int 0, .int 0, .int 0, .int 0, .int (-1), .ref a1, .ref a3, .ref a4, .ref a5, .int 0, .int 0, .int 0, .int 0, .int 0, .ref a6])), (a1, .inl (cs 0, 45783, .inl (upd (upd (upd (upd (upd (upd (upd (upd (upd (upd (upd (upd (upd (upd (upd (upd (upd (upd (upd (upd (layF (fun _ => 0) 1) 6 1) 15 1) 16 1) 17 50) 28 1) 29 0) 31 1) 30 1) 19 1) 20 1) 7 1) 28 2) 1 1) 21 1) 22 1) 27 1) 32 1) 34 1) 28 0) 29 (-1))))]) := by
  refine KV.of cX9_dropPlan 2 none (by decide) rfl (Nat.le_of_ble_eq_true rfl) ?_
  intro p e s m below meth c A ls hx hb hr hml hown hts hlocks hin hP hN hD hA hS hl
  have hown : s.vm.findClass RX9 = some m.cls := hown
  have hl : lv_has ls 2 [(0, .ref a0), (1, .int 0)] := hl
  refine lv_aload_n hx hb dX9_dropPlan_0 rfl (lv_at hl 0 rfl) ?_
  refine lv_iload_n hx hb dX9_dropPlan_1 rfl (lv_at hl 1 rfl) ?_
  refine lv_iconst (v := 5) hx hb dX9_dropPlan_2 (by decide) ?_
  refine lv_iconst (v := 0) hx hb dX9_dropPlan_3 (by decide) ?_
  refine cv_v (As := [.int 0, .int 5, .int 0]) (rest := []) (b := a0) (wr := []) ⟨hx, hb, hml, hown, hts⟩ (fun sz => k429_X9_set l D cs sz a0 a1 a2 a3 a4 a5 a6) (cwV 3 hts gX9_dropPlan_X9_set rfl rfl rfl hdX9_set_v ⟨Nat.le_of_ble_eq_true rfl, Nat.le_of_ble_eq_true rfl⟩) hN hP hD hS hA [0, 1] [] rfl rfl rfl rfl (by decide) (ci := 9) (q0 := 0) rfl rfl rfl rfl hl.1 (Nat.le_of_ble_eq_true rfl) dX9_dropPlan_4 (Nat.le_of_ble_eq_true rfl) (Nat.le_of_ble_eq_true rfl) (fun u0 H locs hP hD hS => ?_)
  have hP : va_P D vwCl [(a0, .inr (9, [.int 0, .ref a2, .int 0, .int 0, .int 0, .int 0, .int 0, .int (-1), .ref a1, .ref a3, .ref a4, .ref a5, .int 0, .int 0, .int 0, .int 0, .int 0, .ref a6])), (a1, .inl (cs 0, 45783, .inl (upd (upd (upd (upd (upd (upd (upd (upd (upd (upd (upd (upd (upd (upd (upd (upd (upd (upd (upd (layF (fun _ => 0) 1) 6 1) 15 1) 16 1) 17 50) 28 1) 29 0) 31 1) 30 1) 19 1) 20 1) 7 1) 28 2) 1 1) 21 1) 22 1) 27 1) 32 1) 34 1) 28 0)))] H := hP
  have hD : va_D A [(a0, .inr (9, [.int 0, .ref a2, .int 0, .int 0, .int 0, .int 0, .int 0, .int (-1), .ref a1, .ref a3, .ref a4, .ref a5, .int 0, .int 0, .int 0, .int 0, .int 0, .ref a6])), (a1, .inl (cs 0, 45783, .inl (upd (upd (upd (upd (upd (upd (upd (upd (upd (upd (upd (upd (upd (upd (upd (upd (upd (upd (upd (layF (fun _ => 0) 1) 6 1) 15 1) 16 1) 17 50) 28 1) 29 0) 31 1) 30 1) 19 1) 20 1) 7 1) 28 2) 1 1) 21 1) 22 1) 27 1) 32 1) 34 1) 28 0)))] := hD
  refine W.widen (k := 0) (n := 0) (Nat.le_of_ble_eq_true rfl) (Nat.le_of_ble_eq_true rfl) ?_
  refine lv_aload_n hx hb dX9_dropPlan_7 rfl (lv_at hl 0 rfl) ?_
  refine lv_iload_n hx hb dX9_dropPlan_8 rfl (lv_at hl 1 rfl) ?_
  refine lv_bipush (v := 6) hx hb dX9_dropPlan_9 (by decide) ?_
  refine lv_iconst (v := (-1)) hx hb dX9_dropPlan_11 (by decide) ?_
  refine cv_v (As := [.int 0, .int 6, .int (-1)]) (rest := []) (b := a0) (wr := []) ⟨hx, hb, hml, hown, hts⟩ (fun sz => k430_X9_set l D cs sz a0 a1 a2 a3 a4 a5 a6) (cwV 3 hts gX9_dropPlan_X9_set rfl rfl rfl hdX9_set_v ⟨Nat.le_of_ble_eq_true rfl, Nat.le_of_ble_eq_true rfl⟩) hN hP hD hS hA [0, 1] [] rfl rfl rfl rfl (by decide) (ci := 9) (q0 := 0) rfl rfl rfl rfl hl.1 (Nat.le_of_ble_eq_true rfl) dX9_dropPlan_12 (Nat.le_of_ble_eq_true rfl) (Nat.le_of_ble_eq_true rfl) (fun u1 H locs hP hD hS => ?_)
  have hP : va_P D vwCl [(a0, .inr (9, [.int 0, .ref a2, .int 0, .int 0, .int 0, .int 0, .int 0, .int (-1), .ref a1, .ref a3, .ref a4, .ref a5, .int 0, .int 0, .int 0, .int 0, .int 0, .ref a6])), (a1, .inl (cs 0, 45783, .inl (upd (upd (upd (upd (upd (upd (upd (upd (upd (upd (upd (upd (upd (upd (upd (upd (upd (upd (upd (upd (layF (fun _ => 0) 1) 6 1) 15 1) 16 1) 17 50) 28 1) 29 0) 31 1) 30 1) 19 1) 20 1) 7 1) 28 2) 1 1) 21 1) 22 1) 27 1) 32 1) 34 1) 28 0) 29 (-1))))] H := hP
  have hD : va_D A [(a0, .inr (9, [.int 0, .ref a2, .int 0, .int 0, .int 0, .int 0, .int 0, .int (-1), .ref a1, .ref a3, .ref a4, .ref a5, .int 0, .int 0, .int 0, .int 0, .int 0, .ref a6])), (a1, .inl (cs 0, 45783, .inl (upd (upd (upd (upd (upd (upd (upd (upd (upd (upd (upd (upd (upd (upd (upd (upd (upd (upd (upd (upd (layF (fun _ => 0) 1) 6 1) 15 1) 16 1) 17 50) 28 1) 29 0) 31 1) 30 1) 19 1) 20 1) 7 1) 28 2) 1 1) 21 1) 22 1) 27 1) 32 1) 34 1) 28 0) 29 (-1))))] := hD
  refine W.widen (k := 0) (n := 0) (Nat.le_of_ble_eq_true rfl) (Nat.le_of_ble_eq_true rfl) ?_
  exact en_v (fun k => ([] : List Nat).getD k 0) hx hb hr hlocks hP hD hS (Nat.le_of_ble_eq_true rfl) (Nat.le_of_ble_eq_true rfl) dX9_dropPlan_15
theorem hdX9_dropPlan_v : yX9_dropPlan.cls = RX9 ∧ yX9_dropPlan.cls ≠ "java/lang/invoke/MethodHandle" ∧ yX9_dropPlan.cls ≠ "java/lang/invoke/VarHandle" ∧ (parseMethodDescriptor yX9_dropPlan.desc).map (fun d => d.parameters.length) = some 1 := by decide +kernel
set_option maxHeartbeats 4000000 in
set_option maxRecDepth 100000 in
theorem k432_X9_change (l : Launch) (D : va_G) (cs : Nat → ClassId) (sz : Nat) (a0 a1 a2 a3 a4 a5 a6 : Nat) : KV l yX9_change wsX9_change 4 84 0 0 D cs sz [.ref a0, .int 0] [(a0, .inr (9, [.int 0, .ref a2, .int 0, .int 0, .int 0, .int 0, .int 0, .int (-1), .ref a1, .ref a3, .ref a4, .ref a5, .int 0, .int 0, .int 0, .int 0, .int 0, .ref a6])), (a1, .inl (cs 0, 45783, .inl (upd (upd (upd (upd (upd (upd (upd (upd (upd (upd (upd (upd (upd (layF (fun _ => 0) 1) 6 1) 15 1) 16 1) 17 50) 28 1) 29 0) 31 1) 30 1) 19 1) 20 1) 7 1) 28 2) 1 1)))] (fun u => [(a0, .inr (9, [.int 0, .ref a2, .int 0, .int 0, .int 0, .int 0, .int 0, .int (-1), .ref a1, .ref a3, .ref a4, .ref a5, .int 0, .int 0, .int 0, .int 0, .int 0, .ref a6])), (a1, .inl (cs 0, 45783, .inl (upd (upd (upd (upd (upd (upd (upd (upd (upd (upd (upd (upd (upd (upd (upd (upd (upd (upd (upd (upd (upd (layF (fun _ => 0) 1) 6 1) 15 1) 16 1) 17 50) 28 1) 29 0) 31 1) 30 1) 19 1) 20 1) 7 1) 28 2) 1 1) 21 1) 22 1) 27 1) 32 1) 34 1) 28 0) 29 (-1)) 9 1)))]) := by
  refine KV.of cX9_change 3 none (by decide) rfl (Nat.le_of_ble_eq_true rfl) ?_
  intro p e s m below meth c A ls hx hb hr hml hown hts hlocks hin hP hN hD hA hS hl
  have hown : s.vm.findClass RX9 = some m.cls := hown
  have hl : lv_has ls 3 [(0, .ref a0), (1, .int 0)] := hl
  refine lv_aload_n hx hb dX9_change_0 rfl (lv_at hl 0 rfl) ?_
  refine lv_iload_n hx hb dX9_change_1 rfl (lv_at hl 1 rfl) ?_
  refine cv_i (As := [.int 0]) (rest := []) (b := a0) (wr := []) ⟨hx, hb, hml, hown, hts⟩ (fun sz => k419_X9_estimate l D cs sz a0 a1 a2 a3 a4 a5 a6) (cwV 1 hts gX9_change_X9_estimate rfl rfl rfl hdX9_estimate_v ⟨Nat.le_of_ble_eq_true rfl, Nat.le_of_ble_eq_true rfl⟩) hN hP hD hS hA [0, 1] [] rfl rfl rfl rfl (by decide) (ci := 9) (q0 := 0) rfl rfl rfl rfl hl.1 (Nat.le_of_ble_eq_true rfl) dX9_change_2 (Nat.le_of_ble_eq_true rfl) (Nat.le_of_ble_eq_true rfl) (fun u0 H locs hP hD hS => ?_)
  have hP : va_P D vwCl [(a0, .inr (9, [.int 0, .ref a2, .int 0, .int 0, .int 0, .int 0, .int 0, .int (-1), .ref a1, .ref a3, .ref a4, .ref a5, .int 0, .int 0, .int 0, .int 0, .int 0, .ref a6])), (a1, .inl (cs 0, 45783, .inl (upd (upd (upd (upd (upd (upd (upd (upd (upd (upd (upd (upd (upd (layF (fun _ => 0) 1) 6 1) 15 1) 16 1) 17 50) 28 1) 29 0) 31 1) 30 1) 19 1) 20 1) 7 1) 28 2) 1 1)))] H := hP
  have hD : va_D A [(a0, .inr (9, [.int 0, .ref a2, .int 0, .int 0, .int 0, .int 0, .int 0, .int (-1), .ref a1, .ref a3, .ref a4, .ref a5, .int 0, .int 0, .int 0, .int 0, .int 0, .ref a6])), (a1, .inl (cs 0, 45783, .inl (upd (upd (upd (upd (upd (upd (upd (upd (upd (upd (upd (upd (upd (layF (fun _ => 0) 1) 6 1) 15 1) 16 1) 17 50) 28 1) 29 0) 31 1) 30 1) 19 1) 20 1) 7 1) 28 2) 1 1)))] := hD
  refine W.widen (k := 0) (n := 0) (Nat.le_of_ble_eq_true rfl) (Nat.le_of_ble_eq_true rfl) ?_
  refine lv_aload_n hx hb dX9_change_5 rfl (lv_at hl 0 rfl) ?_
  refine lv_iload_n hx hb dX9_change_6 rfl (lv_at hl 1 rfl) ?_
  refine lv_bipush (v := 8) hx hb dX9_change_7 (by decide) ?_
  refine cv_i (As := [.int 0, .int 8]) (rest := [.int 1]) (b := a0) (wr := []) ⟨hx, hb, hml, hown, hts⟩ (fun sz => k420_X9_of l D cs sz a0 a1 a2 a3 a4 a5 a6) (cwV 2 hts gX9_change_X9_of rfl rfl rfl hdX9_of_v ⟨Nat.le_of_ble_eq_true rfl, Nat.le_of_ble_eq_true rfl⟩) hN hP hD hS hA [0, 1] [] rfl rfl rfl rfl (by decide) (ci := 9) (q0 := 0) rfl rfl rfl rfl hl.1 (Nat.le_of_ble_eq_true rfl) dX9_change_9 (Nat.le_of_ble_eq_true rfl) (Nat.le_of_ble_eq_true rfl) (fun u1 H locs hP hD hS => ?_)
  have hP : va_P D vwCl [(a0, .inr (9, [.int 0, .ref a2, .int 0, .int 0, .int 0, .int 0, .int 0, .int (-1), .ref a1, .ref a3, .ref a4, .ref a5, .int 0, .int 0, .int 0, .int 0, .int 0, .ref a6])), (a1, .inl (cs 0, 45783, .inl (upd (upd (upd (upd (upd (upd (upd (upd (upd (upd (upd (upd (upd (layF (fun _ => 0) 1) 6 1) 15 1) 16 1) 17 50) 28 1) 29 0) 31 1) 30 1) 19 1) 20 1) 7 1) 28 2) 1 1)))] H := hP
  have hD : va_D A [(a0, .inr (9, [.int 0, .ref a2, .int 0, .int 0, .int 0, .int 0, .int 0, .int (-1), .ref a1, .ref a3, .ref a4, .ref a5, .int 0, .int 0, .int 0, .int 0, .int 0, .ref a6])), (a1, .inl (cs 0, 45783, .inl (upd (upd (upd (upd (upd (upd (upd (upd (upd (upd (upd (upd (upd (layF (fun _ => 0) 1) 6 1) 15 1) 16 1) 17 50) 28 1) 29 0) 31 1) 30 1) 19 1) 20 1) 7 1) 28 2) 1 1)))] := hD
  refine W.widen (k := 0) (n := 0) (Nat.le_of_ble_eq_true rfl) (Nat.le_of_ble_eq_true rfl) ?_
  refine lv_icmp_le (tgt := 19) hx hb dX9_change_12 (by decide) (fun _ => ?_) (fun c9 => absurd (by decide) c9)
  refine lv_iconst (v := 0) hx hb dX9_change_19 (by decide) ?_
  refine lv_istore_n (lv' := [(2, .int 0), (0, .ref a0), (1, .int 0)]) hx hb dX9_change_20 rfl hl (by decide) rfl (fun ls hl => ?_)
  refine lv_aload_n hx hb dX9_change_21 rfl (lv_at hl 1 rfl) ?_
  refine lv_iload_n hx hb dX9_change_22 rfl (lv_at hl 2 rfl) ?_
  refine lv_bipush (v := 6) hx hb dX9_change_23 (by decide) ?_
  refine cv_i (As := [.int 0, .int 6]) (rest := []) (b := a0) (wr := []) ⟨hx, hb, hml, hown, hts⟩ (fun sz => k421_X9_of l D cs sz a0 a1 a2 a3 a4 a5 a6) (cwV 2 hts gX9_change_X9_of rfl rfl rfl hdX9_of_v ⟨Nat.le_of_ble_eq_true rfl, Nat.le_of_ble_eq_true rfl⟩) hN hP hD hS hA [0, 1] [] rfl rfl rfl rfl (by decide) (ci := 9) (q0 := 0) rfl rfl rfl rfl hl.1 (Nat.le_of_ble_eq_true rfl) dX9_change_25 (Nat.le_of_ble_eq_true rfl) (Nat.le_of_ble_eq_true rfl) (fun u2 H locs hP hD hS => ?_)
  have hP : va_P D vwCl [(a0, .inr (9, [.int 0, .ref a2, .int 0, .int 0, .int 0, .int 0, .int 0, .int (-1), .ref a1, .ref a3, .ref a4, .ref a5, .int 0, .int 0, .int 0, .int 0, .int 0, .ref a6])), (a1, .inl (cs 0, 45783, .inl (upd (upd (upd (upd (upd (upd (upd (upd (upd (upd (upd (upd (upd (layF (fun _ => 0) 1) 6 1) 15 1) 16 1) 17 50) 28 1) 29 0) 31 1) 30 1) 19 1) 20 1) 7 1) 28 2) 1 1)))] H := hP
  have hD : va_D A [(a0, .inr (9, [.int 0, .ref a2, .int 0, .int 0, .int 0, .int 0, .int 0, .int (-1), .ref a1, .ref a3, .ref a4, .ref a5, .int 0, .int 0, .int 0, .int 0, .int 0, .ref a6])), (a1, .inl (cs 0, 45783, .inl (upd (upd (upd (upd (upd (upd (upd (upd (upd (upd (upd (upd (upd (layF (fun _ => 0) 1) 6 1) 15 1) 16 1) 17 50) 28 1) 29 0) 31 1) 30 1) 19 1) 20 1) 7 1) 28 2) 1 1)))] := hD
  refine W.widen (k := 0) (n := 0) (Nat.le_of_ble_eq_true rfl) (Nat.le_of_ble_eq_true rfl) ?_
  refine lv_aload_n hx hb dX9_change_28 rfl (lv_at hl 1 rfl) ?_
  refine va_get (D := D) (ci := 9) (v := .ref a1) (C := RX9) (T := TX9) (N := 18) hx hb hts iX9_change_9 hown hN.1 hP 0 rfl rfl 8 (by decide) (hts _ mX9_change_1) (fun _ h9 => h9) rfl dX9_change_29 ?_
  refine lv_bipush (v := 6) hx hb dX9_change_32 (by decide) ?_
  refine ld_i (v := 1) hx hb hN hP 1 rfl (vin (by decide +kernel)) (by first | rfl | decide +kernel) dX9_change_34 ?_
  refine lv_iconst (v := 1) hx hb dX9_change_35 (by decide) ?_
  refine lv_isub hx hb dX9_change_36 ?_
  refine tp_i (0) (by decide) ?_
  refine lv_icmp_ne (tgt := 87) hx hb dX9_change_37 (by decide) (fun c9 => absurd (by decide) c9) (fun _ => ?_)
  refine lv_aload_n hx hb dX9_change_40 rfl (lv_at hl 1 rfl) ?_
  refine va_get (D := D) (ci := 9) (v := .ref a1) (C := RX9) (T := TX9) (N := 18) hx hb hts iX9_change_9 hown hN.1 hP 0 rfl rfl 8 (by decide) (hts _ mX9_change_1) (fun _ h9 => h9) rfl dX9_change_41 ?_
  refine lv_bipush (v := 21) hx hb dX9_change_44 (by decide) ?_
  refine lv_aload_n hx hb dX9_change_46 rfl (lv_at hl 1 rfl) ?_
  refine va_get (D := D) (ci := 9) (v := .ref a1) (C := RX9) (T := TX9) (N := 18) hx hb hts iX9_change_9 hown hN.1 hP 0 rfl rfl 8 (by decide) (hts _ mX9_change_1) (fun _ h9 => h9) rfl dX9_change_47 ?_
  refine lv_bipush (v := 21) hx hb dX9_change_50 (by decide) ?_
  refine ld_i (v := (-1)) hx hb hN hP 1 rfl (vin (by decide +kernel)) (by first | rfl | decide +kernel) dX9_change_52 ?_
  refine lv_iconst (v := (-1)) hx hb dX9_change_53 (by decide) ?_
  refine lv_icmp_ne (tgt := 66) hx hb dX9_change_54 (by decide) (fun c9 => absurd (by decide) c9) (fun _ => ?_)
  refine lv_aload_n hx hb dX9_change_57 rfl (lv_at hl 1 rfl) ?_
  refine va_get (D := D) (ci := 9) (v := .ref a1) (C := RX9) (T := TX9) (N := 18) hx hb hts iX9_change_9 hown hN.1 hP 0 rfl rfl 8 (by decide) (hts _ mX9_change_1) (fun _ h9 => h9) rfl dX9_change_58 ?_
  refine lv_iconst (v := 1) hx hb dX9_change_61 (by decide) ?_
  refine ld_i (v := 1) hx hb hN hP 1 rfl (vin (by decide +kernel)) (by first | rfl | decide +kernel) dX9_change_62 ?_
  refine lv_goto (tgt := 73) hx hb dX9_change_63 (by decide) ?_
  refine st_i (g := (upd (upd (upd (upd (upd (upd (upd (upd (upd (upd (upd (upd (upd (upd (layF (fun _ => 0) 1) 6 1) 15 1) 16 1) 17 50) 28 1) 29 0) 31 1) 30 1) 19 1) 20 1) 7 1) 28 2) 1 1) 21 1)) hx hb hN hP hD hS 1 rfl (vin (by decide +kernel)) rfl dX9_change_73 (fun H locs hP hD hS => ?_)
  have hP : va_P D vwCl [(a0, .inr (9, [.int 0, .ref a2, .int 0, .int 0, .int 0, .int 0, .int 0, .int (-1), .ref a1, .ref a3, .ref a4, .ref a5, .int 0, .int 0, .int 0, .int 0, .int 0, .ref a6])), (a1, .inl (cs 0, 45783, .inl (upd (upd (upd (upd (upd (upd (upd (upd (upd (upd (upd (upd (upd (upd (layF (fun _ => 0) 1) 6 1) 15 1) 16 1) 17 50) 28 1) 29 0) 31 1) 30 1) 19 1) 20 1) 7 1) 28 2) 1 1) 21 1)))] H := hP
  have hD : va_D A [(a0, .inr (9, [.int 0, .ref a2, .int 0, .int 0, .int 0, .int 0, .int 0, .int (-1), .ref a1, .ref a3, .ref a4, .ref a5, .int 0, .int 0, .int 0, .int 0, .int 0, .ref a6])), (a1, .inl (cs 0, 45783, .inl (upd (upd (upd (upd (upd (upd (upd (upd (upd (upd (upd (upd (upd (upd (layF (fun _ => 0) 1) 6 1) 15 1) 16 1) 17 50) 28 1) 29 0) 31 1) 30 1) 19 1) 20 1) 7 1) 28 2) 1 1) 21 1)))] := hD
  refine lv_aload_n hx hb dX9_change_74 rfl (lv_at hl 1 rfl) ?_
  refine va_get (D := D) (ci := 9) (v := .ref a1) (C := RX9) (T := TX9) (N := 18) hx hb hts iX9_change_9 hown hN.1 hP 0 rfl rfl 8 (by decide) (hts _ mX9_change_1) (fun _ h9 => h9) rfl dX9_change_75 ?_
  refine lv_bipush (v := 22) hx hb dX9_change_78 (by decide) ?_
  refine lv_aload_n hx hb dX9_change_80 rfl (lv_at hl 1 rfl) ?_
  refine va_get (D := D) (ci := 9) (v := .ref a1) (C := RX9) (T := TX9) (N := 18) hx hb hts iX9_change_9 hown hN.1 hP 0 rfl rfl 8 (by decide) (hts _ mX9_change_1) (fun _ h9 => h9) rfl dX9_change_81 ?_
  refine lv_iconst (v := 1) hx hb dX9_change_84 (by decide) ?_
  refine ld_i (v := 1) hx hb hN hP 1 rfl (vin (by decide +kernel)) (by first | rfl | decide +kernel) dX9_change_85 ?_
  refine st_i (g := (upd (upd (upd (upd (upd (upd (upd (upd (upd (upd (upd (upd (upd (upd (upd (layF (fun _ => 0) 1) 6 1) 15 1) 16 1) 17 50) 28 1) 29 0) 31 1) 30 1) 19 1) 20 1) 7 1) 28 2) 1 1) 21 1) 22 1)) hx hb hN hP hD hS 1 rfl (vin (by decide +kernel)) rfl dX9_change_86 (fun H locs hP hD hS => ?_)
  have hP : va_P D vwCl [(a0, .inr (9, [.int 0, .ref a2, .int 0, .int 0, .int 0, .int 0, .int 0, .int (-1), .ref a1, .ref a3, .ref a4, .ref a5, .int 0, .int 0, .int 0, .int 0, .int 0, .ref a6])), (a1, .inl (cs 0, 45783, .inl (upd (upd (upd (upd (upd (upd (upd (upd (upd (upd (upd (upd (upd (upd (upd (layF (fun _ => 0) 1) 6 1) 15 1) 16 1) 17 50) 28 1) 29 0) 31 1) 30 1) 19 1) 20 1) 7 1) 28 2) 1 1) 21 1) 22 1)))] H := hP
  have hD : va_D A [(a0, .inr (9, [.int 0, .ref a2, .int 0, .int 0, .int 0, .int 0, .int 0, .int (-1), .ref a1, .ref a3, .ref a4, .ref a5, .int 0, .int 0, .int 0, .int 0, .int 0, .ref a6])), (a1, .inl (cs 0, 45783, .inl (upd (upd (upd (upd (upd (upd (upd (upd (upd (upd (upd (upd (upd (upd (upd (layF (fun _ => 0) 1) 6 1) 15 1) 16 1) 17 50) 28 1) 29 0) 31 1) 30 1) 19 1) 20 1) 7 1) 28 2) 1 1) 21 1) 22 1)))] := hD
  refine lv_aload_n hx hb dX9_change_87 rfl (lv_at hl 1 rfl) ?_
  refine lv_iload_n hx hb dX9_change_88 rfl (lv_at hl 2 rfl) ?_
  refine lv_iconst (v := 4) hx hb dX9_change_89 (by decide) ?_
  refine lv_aload_n hx hb dX9_change_90 rfl (lv_at hl 1 rfl) ?_
  refine lv_iload_n hx hb dX9_change_91 rfl (lv_at hl 2 rfl) ?_
  refine lv_bipush (v := 7) hx hb dX9_change_92 (by decide) ?_
  refine cv_i (As := [.int 0, .int 7]) (rest := [.int 4, .int 0, .ref a0]) (b := a0) (wr := []) ⟨hx, hb, hml, hown, hts⟩ (fun sz => k422_X9_of l D cs sz a0 a1 a2 a3 a4 a5 a6) (cwV 2 hts gX9_change_X9_of rfl rfl rfl hdX9_of_v ⟨Nat.le_of_ble_eq_true rfl, Nat.le_of_ble_eq_true rfl⟩) hN hP hD hS hA [0, 1] [] rfl rfl rfl rfl (by decide) (ci := 9) (q0 := 0) rfl rfl rfl rfl hl.1 (Nat.le_of_ble_eq_true rfl) dX9_change_94 (Nat.le_of_ble_eq_true rfl) (Nat.le_of_ble_eq_true rfl) (fun u3 H locs hP hD hS => ?_)
  have hP : va_P D vwCl [(a0, .inr (9, [.int 0, .ref a2, .int 0, .int 0, .int 0, .int 0, .int 0, .int (-1), .ref a1, .ref a3, .ref a4, .ref a5, .int 0, .int 0, .int 0, .int 0, .int 0, .ref a6])), (a1, .inl (cs 0, 45783, .inl (upd (upd (upd (upd (upd (upd (upd (upd (upd (upd (upd (upd (upd (upd (upd (layF (fun _ => 0) 1) 6 1) 15 1) 16 1) 17 50) 28 1) 29 0) 31 1) 30 1) 19 1) 20 1) 7 1) 28 2) 1 1) 21 1) 22 1)))] H := hP
  have hD : va_D A [(a0, .inr (9, [.int 0, .ref a2, .int 0, .int 0, .int 0, .int 0, .int 0, .int (-1), .ref a1, .ref a3, .ref a4, .ref a5, .int 0, .int 0, .int 0, .int 0, .int 0, .ref a6])), (a1, .inl (cs 0, 45783, .inl (upd (upd (upd (upd (upd (upd (upd (upd (upd (upd (upd (upd (upd (upd (upd (layF (fun _ => 0) 1) 6 1) 15 1) 16 1) 17 50) 28 1) 29 0) 31 1) 30 1) 19 1) 20 1) 7 1) 28 2) 1 1) 21 1) 22 1)))] := hD
  refine W.widen (k := 0) (n := 0) (Nat.le_of_ble_eq_true rfl) (Nat.le_of_ble_eq_true rfl) ?_
  refine cv_v (As := [.int 0, .int 4, .int 1]) (rest := []) (b := a0) (wr := []) ⟨hx, hb, hml, hown, hts⟩ (fun sz => k423_X9_set l D cs sz a0 a1 a2 a3 a4 a5 a6) (cwV 3 hts gX9_change_X9_set rfl rfl rfl hdX9_set_v ⟨Nat.le_of_ble_eq_true rfl, Nat.le_of_ble_eq_true rfl⟩) hN hP hD hS hA [0, 1] [] rfl rfl rfl rfl (by decide) (ci := 9) (q0 := 0) rfl rfl rfl rfl hl.1 (Nat.le_of_ble_eq_true rfl) dX9_change_97 (Nat.le_of_ble_eq_true rfl) (Nat.le_of_ble_eq_true rfl) (fun u4 H locs hP hD hS => ?_)
  have hP : va_P D vwCl [(a0, .inr (9, [.int 0, .ref a2, .int 0, .int 0, .int 0, .int 0, .int 0, .int (-1), .ref a1, .ref a3, .ref a4, .ref a5, .int 0, .int 0, .int 0, .int 0, .int 0, .ref a6])), (a1, .inl (cs 0, 45783, .inl (upd (upd (upd (upd (upd (upd (upd (upd (upd (upd (upd (upd (upd (upd (upd (upd (layF (fun _ => 0) 1) 6 1) 15 1) 16 1) 17 50) 28 1) 29 0) 31 1) 30 1) 19 1) 20 1) 7 1) 28 2) 1 1) 21 1) 22 1) 27 1)))] H := hP
  have hD : va_D A [(a0, .inr (9, [.int 0, .ref a2, .int 0, .int 0, .int 0, .int 0, .int 0, .int (-1), .ref a1, .ref a3, .ref a4, .ref a5, .int 0, .int 0, .int 0, .int 0, .int 0, .ref a6])), (a1, .inl (cs 0, 45783, .inl (upd (upd (upd (upd (upd (upd (upd (upd (upd (upd (upd (upd (upd (upd (upd (upd (layF (fun _ => 0) 1) 6 1) 15 1) 16 1) 17 50) 28 1) 29 0) 31 1) 30 1) 19 1) 20 1) 7 1) 28 2) 1 1) 21 1) 22 1) 27 1)))] := hD
  refine W.widen (k := 0) (n := 0) (Nat.le_of_ble_eq_true rfl) (Nat.le_of_ble_eq_true rfl) ?_
  refine lv_aload_n hx hb dX9_change_100 rfl (lv_at hl 1 rfl) ?_
  refine lv_iload_n hx hb dX9_change_101 rfl (lv_at hl 2 rfl) ?_
  refine lv_bipush (v := 9) hx hb dX9_change_102 (by decide) ?_
  refine lv_aload_n hx hb dX9_change_104 rfl (lv_at hl 1 rfl) ?_
  refine lv_iload_n hx hb dX9_change_105 rfl (lv_at hl 2 rfl) ?_
  refine lv_bipush (v := 9) hx hb dX9_change_106 (by decide) ?_
  refine cv_i (As := [.int 0, .int 9]) (rest := [.int 9, .int 0, .ref a0]) (b := a0) (wr := []) ⟨hx, hb, hml, hown, hts⟩ (fun sz => k424_X9_of l D cs sz a0 a1 a2 a3 a4 a5 a6) (cwV 2 hts gX9_change_X9_of rfl rfl rfl hdX9_of_v ⟨Nat.le_of_ble_eq_true rfl, Nat.le_of_ble_eq_true rfl⟩) hN hP hD hS hA [0, 1] [] rfl rfl rfl rfl (by decide) (ci := 9) (q0 := 0) rfl rfl rfl rfl hl.1 (Nat.le_of_ble_eq_true rfl) dX9_change_108 (Nat.le_of_ble_eq_true rfl) (Nat.le_of_ble_eq_true rfl) (fun u5 H locs hP hD hS => ?_)
  have hP : va_P D vwCl [(a0, .inr (9, [.int 0, .ref a2, .int 0, .int 0, .int 0, .int 0, .int 0, .int (-1), .ref a1, .ref a3, .ref a4, .ref a5, .int 0, .int 0, .int 0, .int 0, .int 0, .ref a6])), (a1, .inl (cs 0, 45783, .inl (upd (upd (upd (upd (upd (upd (upd (upd (upd (upd (upd (upd (upd (upd (upd (upd (layF (fun _ => 0) 1) 6 1) 15 1) 16 1) 17 50) 28 1) 29 0) 31 1) 30 1) 19 1) 20 1) 7 1) 28 2) 1 1) 21 1) 22 1) 27 1)))] H := hP
  have hD : va_D A [(a0, .inr (9, [.int 0, .ref a2, .int 0, .int 0, .int 0, .int 0, .int 0, .int (-1), .ref a1, .ref a3, .ref a4, .ref a5, .int 0, .int 0, .int 0, .int 0, .int 0, .ref a6])), (a1, .inl (cs 0, 45783, .inl (upd (upd (upd (upd (upd (upd (upd (upd (upd (upd (upd (upd (upd (upd (upd (upd (layF (fun _ => 0) 1) 6 1) 15 1) 16 1) 17 50) 28 1) 29 0) 31 1) 30 1) 19 1) 20 1) 7 1) 28 2) 1 1) 21 1) 22 1) 27 1)))] := hD
  refine W.widen (k := 0) (n := 0) (Nat.le_of_ble_eq_true rfl) (Nat.le_of_ble_eq_true rfl) ?_
  refine lv_iconst (v := 1) hx hb dX9_change_111 (by decide) ?_
  refine lv_iadd hx hb dX9_change_112 ?_
  refine tp_i (1) (by decide) ?_
  refine cv_v (As := [.int 0, .int 9, .int 1]) (rest := []) (b := a0) (wr := []) ⟨hx, hb, hml, hown, hts⟩ (fun sz => k425_X9_set l D cs sz a0 a1 a2 a3 a4 a5 a6) (cwV 3 hts gX9_change_X9_set rfl rfl rfl hdX9_set_v ⟨Nat.le_of_ble_eq_true rfl, Nat.le_of_ble_eq_true rfl⟩) hN hP hD hS hA [0, 1] [] rfl rfl rfl rfl (by decide) (ci := 9) (q0 := 0) rfl rfl rfl rfl hl.1 (Nat.le_of_ble_eq_true rfl) dX9_change_113 (Nat.le_of_ble_eq_true rfl) (Nat.le_of_ble_eq_true rfl) (fun u6 H locs hP hD hS => ?_)
  have hP : va_P D vwCl [(a0, .inr (9, [.int 0, .ref a2, .int 0, .int 0, .int 0, .int 0, .int 0, .int (-1), .ref a1, .ref a3, .ref a4, .ref a5, .int 0, .int 0, .int 0, .int 0, .int 0, .ref a6])), (a1, .inl (cs 0, 45783, .inl (upd (upd (upd (upd (upd (upd (upd (upd (upd (upd (upd (upd (upd (upd (upd (upd (upd (layF (fun _ => 0) 1) 6 1) 15 1) 16 1) 17 50) 28 1) 29 0) 31 1) 30 1) 19 1) 20 1) 7 1) 28 2) 1 1) 21 1) 22 1) 27 1) 32 1)))] H := hP
  have hD : va_D A [(a0, .inr (9, [.int 0, .ref a2, .int 0, .int 0, .int 0, .int 0, .int 0, .int (-1), .ref a1, .ref a3, .ref a4, .ref a5, .int 0, .int 0, .int 0, .int 0, .int 0, .ref a6])), (a1, .inl (cs 0, 45783, .inl (upd (upd (upd (upd (upd (upd (upd (upd (upd (upd (upd (upd (upd (upd (upd (upd (upd (layF (fun _ => 0) 1) 6 1) 15 1) 16 1) 17 50) 28 1) 29 0) 31 1) 30 1) 19 1) 20 1) 7 1) 28 2) 1 1) 21 1) 22 1) 27 1) 32 1)))] := hD
  refine W.widen (k := 0) (n := 0) (Nat.le_of_ble_eq_true rfl) (Nat.le_of_ble_eq_true rfl) ?_
  refine lv_aload_n hx hb dX9_change_116 rfl (lv_at hl 1 rfl) ?_
  refine lv_iload_n hx hb dX9_change_117 rfl (lv_at hl 2 rfl) ?_
  refine lv_bipush (v := 10) hx hb dX9_change_118 (by decide) ?_
  refine lv_aload_n hx hb dX9_change_120 rfl (lv_at hl 1 rfl) ?_
  refine lv_iload_n hx hb dX9_change_121 rfl (lv_at hl 2 rfl) ?_
  refine lv_bipush (v := 10) hx hb dX9_change_122 (by decide) ?_
  refine cv_i (As := [.int 0, .int 10]) (rest := [.int 10, .int 0, .ref a0]) (b := a0) (wr := []) ⟨hx, hb, hml, hown, hts⟩ (fun sz => k426_X9_of l D cs sz a0 a1 a2 a3 a4 a5 a6) (cwV 2 hts gX9_change_X9_of rfl rfl rfl hdX9_of_v ⟨Nat.le_of_ble_eq_true rfl, Nat.le_of_ble_eq_true rfl⟩) hN hP hD hS hA [0, 1] [] rfl rfl rfl rfl (by decide) (ci := 9) (q0 := 0) rfl rfl rfl rfl hl.1 (Nat.le_of_ble_eq_true rfl) dX9_change_124 (Nat.le_of_ble_eq_true rfl) (Nat.le_of_ble_eq_true rfl) (fun u7 H locs hP hD hS => ?_)
  have hP : va_P D vwCl [(a0, .inr (9, [.int 0, .ref a2, .int 0, .int 0, .int 0, .int 0, .int 0, .int (-1), .ref a1, .ref a3, .ref a4, .ref a5, .int 0, .int 0, .int 0, .int 0, .int 0, .ref a6])), (a1, .inl (cs 0, 45783, .inl (upd (upd (upd (upd (upd (upd (upd (upd (upd (upd (upd (upd (upd (upd (upd (upd (upd (layF (fun _ => 0) 1) 6 1) 15 1) 16 1) 17 50) 28 1) 29 0) 31 1) 30 1) 19 1) 20 1) 7 1) 28 2) 1 1) 21 1) 22 1) 27 1) 32 1)))] H := hP
  have hD : va_D A [(a0, .inr (9, [.int 0, .ref a2, .int 0, .int 0, .int 0, .int 0, .int 0, .int (-1), .ref a1, .ref a3, .ref a4, .ref a5, .int 0, .int 0, .int 0, .int 0, .int 0, .ref a6])), (a1, .inl (cs 0, 45783, .inl (upd (upd (upd (upd (upd (upd (upd (upd (upd (upd (upd (upd (upd (upd (upd (upd (upd (layF (fun _ => 0) 1) 6 1) 15 1) 16 1) 17 50) 28 1) 29 0) 31 1) 30 1) 19 1) 20 1) 7 1) 28 2) 1 1) 21 1) 22 1) 27 1) 32 1)))] := hD
  refine W.widen (k := 0) (n := 0) (Nat.le_of_ble_eq_true rfl) (Nat.le_of_ble_eq_true rfl) ?_
  refine lv_iload_n hx hb dX9_change_127 rfl (lv_at hl 0 rfl) ?_
  refine lv_iadd hx hb dX9_change_128 ?_
  refine tp_i (0) (by decide) ?_
  refine cv_v (As := [.int 0, .int 10, .int 0]) (rest := []) (b := a0) (wr := []) ⟨hx, hb, hml, hown, hts⟩ (fun sz => k427_X9_set l D cs sz a0 a1 a2 a3 a4 a5 a6) (cwV 3 hts gX9_change_X9_set rfl rfl rfl hdX9_set_v ⟨Nat.le_of_ble_eq_true rfl, Nat.le_of_ble_eq_true rfl⟩) hN hP hD hS hA [0, 1] [] rfl rfl rfl rfl (by decide) (ci := 9) (q0 := 0) rfl rfl rfl rfl hl.1 (Nat.le_of_ble_eq_true rfl) dX9_change_129 (Nat.le_of_ble_eq_true rfl) (Nat.le_of_ble_eq_true rfl) (fun u8 H locs hP hD hS => ?_)
  have hP : va_P D vwCl [(a0, .inr (9, [.int 0, .ref a2, .int 0, .int 0, .int 0, .int 0, .int 0, .int (-1), .ref a1, .ref a3, .ref a4, .ref a5, .int 0, .int 0, .int 0, .int 0, .int 0, .ref a6])), (a1, .inl (cs 0, 45783, .inl (upd (upd (upd (upd (upd (upd (upd (upd (upd (upd (upd (upd (upd (upd (upd (upd (upd (layF (fun _ => 0) 1) 6 1) 15 1) 16 1) 17 50) 28 1) 29 0) 31 1) 30 1) 19 1) 20 1) 7 1) 28 2) 1 1) 21 1) 22 1) 27 1) 32 1)))] H := hP
  have hD : va_D A [(a0, .inr (9, [.int 0, .ref a2, .int 0, .int 0, .int 0, .int 0, .int 0, .int (-1), .ref a1, .ref a3, .ref a4, .ref a5, .int 0, .int 0, .int 0, .int 0, .int 0, .ref a6])), (a1, .inl (cs 0, 45783, .inl (upd (upd (upd (upd (upd (upd (upd (upd (upd (upd (upd (upd (upd (upd (upd (upd (upd (layF (fun _ => 0) 1) 6 1) 15 1) 16 1) 17 50) 28 1) 29 0) 31 1) 30 1) 19 1) 20 1) 7 1) 28 2) 1 1) 21 1) 22 1) 27 1) 32 1)))] := hD
  refine W.widen (k := 0) (n := 0) (Nat.le_of_ble_eq_true rfl) (Nat.le_of_ble_eq_true rfl) ?_
  refine lv_aload_n hx hb dX9_change_132 rfl (lv_at hl 1 rfl) ?_
  refine lv_iload_n hx hb dX9_change_133 rfl (lv_at hl 2 rfl) ?_
  refine lv_bipush (v := 11) hx hb dX9_change_134 (by decide) ?_
  refine lv_aload_n hx hb dX9_change_136 rfl (lv_at hl 1 rfl) ?_
  refine va_get (D := D) (ci := 9) (v := .ref a1) (C := RX9) (T := TX9) (N := 18) hx hb hts iX9_change_9 hown hN.1 hP 0 rfl rfl 8 (by decide) (hts _ mX9_change_1) (fun _ h9 => h9) rfl dX9_change_137 ?_
  refine lv_iconst (v := 1) hx hb dX9_change_140 (by decide) ?_
  refine ld_i (v := 1) hx hb hN hP 1 rfl (vin (by decide +kernel)) (by first | rfl | decide +kernel) dX9_change_141 ?_
  refine cv_v (As := [.int 0, .int 11, .int 1]) (rest := []) (b := a0) (wr := []) ⟨hx, hb, hml, hown, hts⟩ (fun sz => k428_X9_set l D cs sz a0 a1 a2 a3 a4 a5 a6) (cwV 3 hts gX9_change_X9_set rfl rfl rfl hdX9_set_v ⟨Nat.le_of_ble_eq_true rfl, Nat.le_of_ble_eq_true rfl⟩) hN hP hD hS hA [0, 1] [] rfl rfl rfl rfl (by decide) (ci := 9) (q0 := 0) rfl rfl rfl rfl hl.1 (Nat.le_of_ble_eq_true rfl) dX9_change_142 (Nat.le_of_ble_eq_true rfl) (Nat.le_of_ble_eq_true rfl) (fun u9 H locs hP hD hS => ?_)
  have hP : va_P D vwCl [(a0, .inr (9, [.int 0, .ref a2, .int 0, .int 0, .int 0, .int 0, .int 0, .int (-1), .ref a1, .ref a3, .ref a4, .ref a5, .int 0, .int 0, .int 0, .int 0, .int 0, .ref a6])), (a1, .inl (cs 0, 45783, .inl (upd (upd (upd (upd (upd (upd (upd (upd (upd (upd (upd (upd (upd (upd (upd (upd (upd (upd (layF (fun _ => 0) 1) 6 1) 15 1) 16 1) 17 50) 28 1) 29 0) 31 1) 30 1) 19 1) 20 1) 7 1) 28 2) 1 1) 21 1) 22 1) 27 1) 32 1) 34 1)))] H := hP
  have hD : va_D A [(a0, .inr (9, [.int 0, .ref a2, .int 0, .int 0, .int 0, .int 0, .int 0, .int (-1), .ref a1, .ref a3, .ref a4, .ref a5, .int 0, .int 0, .int 0, .int 0, .int 0, .ref a6])), (a1, .inl (cs 0, 45783, .inl (upd (upd (upd (upd (upd (upd (upd (upd (upd (upd (upd (upd (upd (upd (upd (upd (upd (upd (layF (fun _ => 0) 1) 6 1) 15 1) 16 1) 17 50) 28 1) 29 0) 31 1) 30 1) 19 1) 20 1) 7 1) 28 2) 1 1) 21 1) 22 1) 27 1) 32 1) 34 1)))] := hD
  refine W.widen (k := 0) (n := 0) (Nat.le_of_ble_eq_true rfl) (Nat.le_of_ble_eq_true rfl) ?_
  refine lv_aload_n hx hb dX9_change_145 rfl (lv_at hl 1 rfl) ?_
  refine lv_iload_n hx hb dX9_change_146 rfl (lv_at hl 2 rfl) ?_
  refine cv_v (As := [.int 0]) (rest := []) (b := a0) (wr := []) ⟨hx, hb, hml, hown, hts⟩ (fun sz => k431_X9_dropPlan l D cs sz a0 a1 a2 a3 a4 a5 a6) (cwV 1 hts gX9_change_X9_dropPlan rfl rfl rfl hdX9_dropPlan_v ⟨Nat.le_of_ble_eq_true rfl, Nat.le_of_ble_eq_true rfl⟩) hN hP hD hS hA [0, 1] [] rfl rfl rfl rfl (by decide) (ci := 9) (q0 := 0) rfl rfl rfl rfl hl.1 (Nat.le_of_ble_eq_true rfl) dX9_change_147 (Nat.le_of_ble_eq_true rfl) (Nat.le_of_ble_eq_true rfl) (fun u10 H locs hP hD hS => ?_)
  have hP : va_P D vwCl [(a0, .inr (9, [.int 0, .ref a2, .int 0, .int 0, .int 0, .int 0, .int 0, .int (-1), .ref a1, .ref a3, .ref a4, .ref a5, .int 0, .int 0, .int 0, .int 0, .int 0, .ref a6])), (a1, .inl (cs 0, 45783, .inl (upd (upd (upd (upd (upd (upd (upd (upd (upd (upd (upd (upd (upd (upd (upd (upd (upd (upd (upd (upd (layF (fun _ => 0) 1) 6 1) 15 1) 16 1) 17 50) 28 1) 29 0) 31 1) 30 1) 19 1) 20 1) 7 1) 28 2) 1 1) 21 1) 22 1) 27 1) 32 1) 34 1) 28 0) 29 (-1))))] H := hP
  have hD : va_D A [(a0, .inr (9, [.int 0, .ref a2, .int 0, .int 0, .int 0, .int 0, .int 0, .int (-1), .ref a1, .ref a3, .ref a4, .ref a5, .int 0, .int 0, .int 0, .int 0, .int 0, .ref a6])), (a1, .inl (cs 0, 45783, .inl (upd (upd (upd (upd (upd (upd (upd (upd (upd (upd (upd (upd (upd (upd (upd (upd (upd (upd (upd (upd (layF (fun _ => 0) 1) 6 1) 15 1) 16 1) 17 50) 28 1) 29 0) 31 1) 30 1) 19 1) 20 1) 7 1) 28 2) 1 1) 21 1) 22 1) 27 1) 32 1) 34 1) 28 0) 29 (-1))))] := hD
  refine W.widen (k := 0) (n := 0) (Nat.le_of_ble_eq_true rfl) (Nat.le_of_ble_eq_true rfl) ?_
  refine lv_aload_n hx hb dX9_change_150 rfl (lv_at hl 1 rfl) ?_
  refine va_get (D := D) (ci := 9) (v := .ref a1) (C := RX9) (T := TX9) (N := 18) hx hb hts iX9_change_9 hown hN.1 hP 0 rfl rfl 8 (by decide) (hts _ mX9_change_1) (fun _ h9 => h9) rfl dX9_change_151 ?_
  refine lv_bipush (v := 9) hx hb dX9_change_154 (by decide) ?_
  refine lv_dup2_11 hx hb dX9_change_156 rfl rfl ?_
  refine ld_i (v := 0) hx hb hN hP 1 rfl (vin (by decide +kernel)) (by first | rfl | decide +kernel) dX9_change_157 ?_
  refine lv_iconst (v := 1) hx hb dX9_change_158 (by decide) ?_
  refine lv_iadd hx hb dX9_change_159 ?_
  refine tp_i (1) (by decide) ?_
  refine st_i (g := (upd (upd (upd (upd (upd (upd (upd (upd (upd (upd (upd (upd (upd (upd (upd (upd (upd (upd (upd (upd (upd (layF (fun _ => 0) 1) 6 1) 15 1) 16 1) 17 50) 28 1) 29 0) 31 1) 30 1) 19 1) 20 1) 7 1) 28 2) 1 1) 21 1) 22 1) 27 1) 32 1) 34 1) 28 0) 29 (-1)) 9 1)) hx hb hN hP hD hS 1 rfl (vin (by decide +kernel)) rfl dX9_change_160 (fun H locs hP hD hS => ?_)
  have hP : va_P D vwCl [(a0, .inr (9, [.int 0, .ref a2, .int 0, .int 0, .int 0, .int 0, .int 0, .int (-1), .ref a1, .ref a3, .ref a4, .ref a5, .int 0, .int 0, .int 0, .int 0, .int 0, .ref a6])), (a1, .inl (cs 0, 45783, .inl (upd (upd (upd (upd (upd (upd (upd (upd (upd (upd (upd (upd (upd (upd (upd (upd (upd (upd (upd (upd (upd (layF (fun _ => 0) 1) 6 1) 15 1) 16 1) 17 50) 28 1) 29 0) 31 1) 30 1) 19 1) 20 1) 7 1) 28 2) 1 1) 21 1) 22 1) 27 1) 32 1) 34 1) 28 0) 29 (-1)) 9 1)))] H := hP
  have hD : va_D A [(a0, .inr (9, [.int 0, .ref a2, .int 0, .int 0, .int 0, .int 0, .int 0, .int (-1), .ref a1, .ref a3, .ref a4, .ref a5, .int 0, .int 0, .int 0, .int 0, .int 0, .ref a6])), (a1, .inl (cs 0, 45783, .inl (upd (upd (upd (upd (upd (upd (upd (upd (upd (upd (upd (upd (upd (upd (upd (upd (upd (upd (upd (upd (upd (layF (fun _ => 0) 1) 6 1) 15 1) 16 1) 17 50) 28 1) 29 0) 31 1) 30 1) 19 1) 20 1) 7 1) 28 2) 1 1) 21 1) 22 1) 27 1) 32 1) 34 1) 28 0) 29 (-1)) 9 1)))] := hD
  refine lv_aload_n hx hb dX9_change_161 rfl (lv_at hl 1 rfl) ?_
  refine va_get (D := D) (ci := 9) (v := .ref a1) (C := RX9) (T := TX9) (N := 18) hx hb hts iX9_change_9 hown hN.1 hP 0 rfl rfl 8 (by decide) (hts _ mX9_change_1) (fun _ h9 => h9) rfl dX9_change_162 ?_
  refine lv_bipush (v := 10) hx hb dX9_change_165 (by decide) ?_
  refine lv_dup2_11 hx hb dX9_change_167 rfl rfl ?_
  refine ld_i (v := 0) hx hb hN hP 1 rfl (vin (by decide +kernel)) (by first | rfl | decide +kernel) dX9_change_168 ?_
  refine lv_iload_n hx hb dX9_change_169 rfl (lv_at hl 0 rfl) ?_
  refine lv_iadd hx hb dX9_change_170 ?_
  refine tp_i (0) (by decide) ?_
  refine st_i (g := (upd (upd (upd (upd (upd (upd (upd (upd (upd (upd (upd (upd (upd (upd (upd (upd (upd (upd (upd (upd (upd (layF (fun _ => 0) 1) 6 1) 15 1) 16 1) 17 50) 28 1) 29 0) 31 1) 30 1) 19 1) 20 1) 7 1) 28 2) 1 1) 21 1) 22 1) 27 1) 32 1) 34 1) 28 0) 29 (-1)) 9 1)) hx hb hN hP hD hS 1 rfl (vin (by decide +kernel)) (upd_id (by first | rfl | decide +kernel)) dX9_change_171 (fun H locs hP hD hS => ?_)
  have hP : va_P D vwCl [(a0, .inr (9, [.int 0, .ref a2, .int 0, .int 0, .int 0, .int 0, .int 0, .int (-1), .ref a1, .ref a3, .ref a4, .ref a5, .int 0, .int 0, .int 0, .int 0, .int 0, .ref a6])), (a1, .inl (cs 0, 45783, .inl (upd (upd (upd (upd (upd (upd (upd (upd (upd (upd (upd (upd (upd (upd (upd (upd (upd (upd (upd (upd (upd (layF (fun _ => 0) 1) 6 1) 15 1) 16 1) 17 50) 28 1) 29 0) 31 1) 30 1) 19 1) 20 1) 7 1) 28 2) 1 1) 21 1) 22 1) 27 1) 32 1) 34 1) 28 0) 29 (-1)) 9 1)))] H := hP
  have hD : va_D A [(a0, .inr (9, [.int 0, .ref a2, .int 0, .int 0, .int 0, .int 0, .int 0, .int (-1), .ref a1, .ref a3, .ref a4, .ref a5, .int 0, .int 0, .int 0, .int 0, .int 0, .ref a6])), (a1, .inl (cs 0, 45783, .inl (upd (upd (upd (upd (upd (upd (upd (upd (upd (upd (upd (upd (upd (upd (upd (upd (upd (upd (upd (upd (upd (layF (fun _ => 0) 1) 6 1) 15 1) 16 1) 17 50) 28 1) 29 0) 31 1) 30 1) 19 1) 20 1) 7 1) 28 2) 1 1) 21 1) 22 1) 27 1) 32 1) 34 1) 28 0) 29 (-1)) 9 1)))] := hD
  exact en_v (fun k => ([] : List Nat).getD k 0) hx hb hr hlocks hP hD hS (Nat.le_of_ble_eq_true rfl) (Nat.le_of_ble_eq_true rfl) dX9_change_172
theorem hdX9_handleAll_v : yX9_handleAll.cls = RX9 ∧ yX9_handleAll.cls ≠ "java/lang/invoke/MethodHandle" ∧ yX9_handleAll.cls ≠ "java/lang/invoke/VarHandle" ∧ (parseMethodDescriptor yX9_handleAll.desc).map (fun d => d.parameters.length) = some 0 := by decide +kernel
theorem hdX9_change_v : yX9_change.cls = RX9 ∧ yX9_change.cls ≠ "java/lang/invoke/MethodHandle" ∧ yX9_change.cls ≠ "java/lang/invoke/VarHandle" ∧ (parseMethodDescriptor yX9_change.desc).map (fun d => d.parameters.length) = some 1 := by decide +kernel
set_option maxHeartbeats 4000000 in
set_option maxRecDepth 100000 in
theorem k433_X9_tick (l : Launch) (D : va_G) (cs : Nat → ClassId) (sz : Nat) (a0 a1 a2 a3 a4 a5 a6 : Nat) : KV l yX9_tick wsX9_tick 5 106 0 0 D cs sz [.ref a0] [(a0, .inr (9, [.int 0, .ref a2, .int 0, .int 0, .int 0, .int 0, .int 0, .int (-1), .ref a1, .ref a3, .ref a4, .ref a5, .int 0, .int 0, .int 0, .int 0, .int 0, .ref a6])), (a1, .inl (cs 0, 45783, .inl (upd (upd (upd (upd (upd (upd (upd (upd (upd (upd (upd (upd (layF (fun _ => 0) 1) 6 1) 15 1) 16 1) 17 50) 28 1) 29 0) 31 1) 30 1) 19 1) 20 1) 7 1) 28 2)))] (fun u => [(a0, .inr (9, [.int 0, .ref a2, .int 0, .int 0, .int 0, .int 0, .int 0, .int (-1), .ref a1, .ref a3, .ref a4, .ref a5, .int 0, .int 0, .int 0, .int 0, .int 0, .ref a6])), (a1, .inl (cs 0, 45783, .inl (upd (upd (upd (upd (upd (upd (upd (upd (upd (upd (upd (upd (upd (upd (upd (upd (upd (upd (upd (upd (upd (layF (fun _ => 0) 1) 6 1) 15 1) 16 1) 17 50) 28 1) 29 0) 31 1) 30 1) 19 1) 20 1) 7 1) 28 2) 1 1) 21 1) 22 1) 27 1) 32 1) 34 1) 28 0) 29 (-1)) 9 1)))]) := by
  refine KV.of cX9_tick 2 none (by decide) rfl (Nat.le_of_ble_eq_true rfl) ?_
  intro p e s m below meth c A ls hx hb hr hml hown hts hlocks hin hP hN hD hA hS hl
  have hown : s.vm.findClass RX9 = some m.cls := hown
  have hl : lv_has ls 2 [(0, .ref a0)] := hl
  refine lv_aload_n hx hb dX9_tick_0 rfl (lv_at hl 0 rfl) ?_
  refine va_get (D := D) (ci := 9) (v := .ref a1) (C := RX9) (T := TX9) (N := 18) hx hb hts iX9_tick_9 hown hN.1 hP 0 rfl rfl 8 (by decide) (hts _ mX9_tick_1) (fun _ h9 => h9) rfl dX9_tick_1 ?_
  refine lv_iconst (v := 1) hx hb dX9_tick_4 (by decide) ?_
  refine lv_dup2_11 hx hb dX9_tick_5 rfl rfl ?_
  refine ld_i (v := 0) hx hb hN hP 1 rfl (vin (by decide +kernel)) (by first | rfl | decide +kernel) dX9_tick_6 ?_
  refine lv_iconst (v := 1) hx hb dX9_tick_7 (by decide) ?_
  refine lv_iadd hx hb dX9_tick_8 ?_
  refine tp_i (1) (by decide) ?_
  refine st_i (g := (upd (upd (upd (upd (upd (upd (upd (upd (upd (upd (upd (upd (upd (layF (fun _ => 0) 1) 6 1) 15 1) 16 1) 17 50) 28 1) 29 0) 31 1) 30 1) 19 1) 20 1) 7 1) 28 2) 1 1)) hx hb hN hP hD hS 1 rfl (vin (by decide +kernel)) rfl dX9_tick_9 (fun H locs hP hD hS => ?_)
  have hP : va_P D vwCl [(a0, .inr (9, [.int 0, .ref a2, .int 0, .int 0, .int 0, .int 0, .int 0, .int (-1), .ref a1, .ref a3, .ref a4, .ref a5, .int 0, .int 0, .int 0, .int 0, .int 0, .ref a6])), (a1, .inl (cs 0, 45783, .inl (upd (upd (upd (upd (upd (upd (upd (upd (upd (upd (upd (upd (upd (layF (fun _ => 0) 1) 6 1) 15 1) 16 1) 17 50) 28 1) 29 0) 31 1) 30 1) 19 1) 20 1) 7 1) 28 2) 1 1)))] H := hP
  have hD : va_D A [(a0, .inr (9, [.int 0, .ref a2, .int 0, .int 0, .int 0, .int 0, .int 0, .int (-1), .ref a1, .ref a3, .ref a4, .ref a5, .int 0, .int 0, .int 0, .int 0, .int 0, .ref a6])), (a1, .inl (cs 0, 45783, .inl (upd (upd (upd (upd (upd (upd (upd (upd (upd (upd (upd (upd (upd (layF (fun _ => 0) 1) 6 1) 15 1) 16 1) 17 50) 28 1) 29 0) 31 1) 30 1) 19 1) 20 1) 7 1) 28 2) 1 1)))] := hD
  refine lv_aload_n hx hb dX9_tick_10 rfl (lv_at hl 0 rfl) ?_
  refine cv_v (As := []) (rest := []) (b := a0) (wr := []) ⟨hx, hb, hml, hown, hts⟩ (fun sz => k410_X9_handleAll l D cs sz a0 a1 a2 a3 a4 a5 a6) (cwV 0 hts gX9_tick_X9_handleAll rfl rfl rfl hdX9_handleAll_v ⟨Nat.le_of_ble_eq_true rfl, Nat.le_of_ble_eq_true rfl⟩) hN hP hD hS hA [0, 1] [] rfl rfl rfl rfl (by decide) (ci := 9) (q0 := 0) rfl rfl rfl rfl hl.1 (Nat.le_of_ble_eq_true rfl) dX9_tick_11 (Nat.le_of_ble_eq_true rfl) (Nat.le_of_ble_eq_true rfl) (fun u0 H locs hP hD hS => ?_)
  have hP : va_P D vwCl [(a0, .inr (9, [.int 0, .ref a2, .int 0, .int 0, .int 0, .int 0, .int 0, .int (-1), .ref a1, .ref a3, .ref a4, .ref a5, .int 0, .int 0, .int 0, .int 0, .int 0, .ref a6])), (a1, .inl (cs 0, 45783, .inl (upd (upd (upd (upd (upd (upd (upd (upd (upd (upd (upd (upd (upd (layF (fun _ => 0) 1) 6 1) 15 1) 16 1) 17 50) 28 1) 29 0) 31 1) 30 1) 19 1) 20 1) 7 1) 28 2) 1 1)))] H := hP
  have hD : va_D A [(a0, .inr (9, [.int 0, .ref a2, .int 0, .int 0, .int 0, .int 0, .int 0, .int (-1), .ref a1, .ref a3, .ref a4, .ref a5, .int 0, .int 0, .int 0, .int 0, .int 0, .ref a6])), (a1, .inl (cs 0, 45783, .inl (upd (upd (upd (upd (upd (upd (upd (upd (upd (upd (upd (upd (upd (layF (fun _ => 0) 1) 6 1) 15 1) 16 1) 17 50) 28 1) 29 0) 31 1) 30 1) 19 1) 20 1) 7 1) 28 2) 1 1)))] := hD
  refine W.widen (k := 0) (n := 0) (Nat.le_of_ble_eq_true rfl) (Nat.le_of_ble_eq_true rfl) ?_
  refine lv_aload_n hx hb dX9_tick_14 rfl (lv_at hl 0 rfl) ?_
  refine cv_i (As := []) (rest := []) (b := a0) (wr := []) ⟨hx, hb, hml, hown, hts⟩ (fun sz => k411_X9_isOpen l D cs sz a0 a1 a2 a3 a4 a5 a6) (cwV 0 hts gX9_tick_X9_isOpen rfl rfl rfl hdX9_isOpen_v ⟨Nat.le_of_ble_eq_true rfl, Nat.le_of_ble_eq_true rfl⟩) hN hP hD hS hA [0, 1] [] rfl rfl rfl rfl (by decide) (ci := 9) (q0 := 0) rfl rfl rfl rfl hl.1 (Nat.le_of_ble_eq_true rfl) dX9_tick_15 (Nat.le_of_ble_eq_true rfl) (Nat.le_of_ble_eq_true rfl) (fun u1 H locs hP hD hS => ?_)
  have hP : va_P D vwCl [(a0, .inr (9, [.int 0, .ref a2, .int 0, .int 0, .int 0, .int 0, .int 0, .int (-1), .ref a1, .ref a3, .ref a4, .ref a5, .int 0, .int 0, .int 0, .int 0, .int 0, .ref a6])), (a1, .inl (cs 0, 45783, .inl (upd (upd (upd (upd (upd (upd (upd (upd (upd (upd (upd (upd (upd (layF (fun _ => 0) 1) 6 1) 15 1) 16 1) 17 50) 28 1) 29 0) 31 1) 30 1) 19 1) 20 1) 7 1) 28 2) 1 1)))] H := hP
  have hD : va_D A [(a0, .inr (9, [.int 0, .ref a2, .int 0, .int 0, .int 0, .int 0, .int 0, .int (-1), .ref a1, .ref a3, .ref a4, .ref a5, .int 0, .int 0, .int 0, .int 0, .int 0, .ref a6])), (a1, .inl (cs 0, 45783, .inl (upd (upd (upd (upd (upd (upd (upd (upd (upd (upd (upd (upd (upd (layF (fun _ => 0) 1) 6 1) 15 1) 16 1) 17 50) 28 1) 29 0) 31 1) 30 1) 19 1) 20 1) 7 1) 28 2) 1 1)))] := hD
  refine W.widen (k := 0) (n := 0) (Nat.le_of_ble_eq_true rfl) (Nat.le_of_ble_eq_true rfl) ?_
  refine lv_if_eq (tgt := 41) hx hb dX9_tick_18 (by decide) (fun _ => ?_) (fun c9 => absurd (by decide) c9)
  refine lv_iconst (v := 0) hx hb dX9_tick_41 (by decide) ?_
  refine lv_istore_n (lv' := [(1, .int 0), (0, .ref a0)]) hx hb dX9_tick_42 rfl hl (by decide) rfl (fun ls hl => ?_)
  refine lv_iload_n hx hb dX9_tick_43 rfl (lv_at hl 0 rfl) ?_
  refine lv_aload_n hx hb dX9_tick_44 rfl (lv_at hl 1 rfl) ?_
  refine va_get (D := D) (ci := 9) (v := .ref a1) (C := RX9) (T := TX9) (N := 18) hx hb hts iX9_tick_9 hown hN.1 hP 0 rfl rfl 8 (by decide) (hts _ mX9_tick_1) (fun _ h9 => h9) rfl dX9_tick_45 ?_
  refine lv_iconst (v := 0) hx hb dX9_tick_48 (by decide) ?_
  refine ld_i (v := 1) hx hb hN hP 1 rfl (vin (by decide +kernel)) (by first | rfl | decide +kernel) dX9_tick_49 ?_
  refine lv_icmp_ge (tgt := 97) hx hb dX9_tick_50 (by decide) (fun c9 => absurd c9 (by decide)) (fun _ => ?_)
  refine lv_aload_n hx hb dX9_tick_53 rfl (lv_at hl 1 rfl) ?_
  refine lv_iload_n hx hb dX9_tick_54 rfl (lv_at hl 0 rfl) ?_
  refine cv_i (As := [.int 0]) (rest := []) (b := a0) (wr := []) ⟨hx, hb, hml, hown, hts⟩ (fun sz => k413_X9_isUp l D cs sz a0 a1 a2 a3 a4 a5 a6) (cwV 1 hts gX9_tick_X9_isUp rfl rfl rfl hdX9_isUp_v ⟨Nat.le_of_ble_eq_true rfl, Nat.le_of_ble_eq_true rfl⟩) hN hP hD hS hA [0, 1] [] rfl rfl rfl rfl (by decide) (ci := 9) (q0 := 0) rfl rfl rfl rfl hl.1 (Nat.le_of_ble_eq_true rfl) dX9_tick_55 (Nat.le_of_ble_eq_true rfl) (Nat.le_of_ble_eq_true rfl) (fun u2 H locs hP hD hS => ?_)
  have hP : va_P D vwCl [(a0, .inr (9, [.int 0, .ref a2, .int 0, .int 0, .int 0, .int 0, .int 0, .int (-1), .ref a1, .ref a3, .ref a4, .ref a5, .int 0, .int 0, .int 0, .int 0, .int 0, .ref a6])), (a1, .inl (cs 0, 45783, .inl (upd (upd (upd (upd (upd (upd (upd (upd (upd (upd (upd (upd (upd (layF (fun _ => 0) 1) 6 1) 15 1) 16 1) 17 50) 28 1) 29 0) 31 1) 30 1) 19 1) 20 1) 7 1) 28 2) 1 1)))] H := hP
  have hD : va_D A [(a0, .inr (9, [.int 0, .ref a2, .int 0, .int 0, .int 0, .int 0, .int 0, .int (-1), .ref a1, .ref a3, .ref a4, .ref a5, .int 0, .int 0, .int 0, .int 0, .int 0, .ref a6])), (a1, .inl (cs 0, 45783, .inl (upd (upd (upd (upd (upd (upd (upd (upd (upd (upd (upd (upd (upd (layF (fun _ => 0) 1) 6 1) 15 1) 16 1) 17 50) 28 1) 29 0) 31 1) 30 1) 19 1) 20 1) 7 1) 28 2) 1 1)))] := hD
  refine W.widen (k := 0) (n := 0) (Nat.le_of_ble_eq_true rfl) (Nat.le_of_ble_eq_true rfl) ?_
  refine lv_if_eq (tgt := 91) hx hb dX9_tick_58 (by decide) (fun c9 => absurd c9 (by decide)) (fun _ => ?_)
  refine lv_aload_n hx hb dX9_tick_61 rfl (lv_at hl 1 rfl) ?_
  refine lv_iload_n hx hb dX9_tick_62 rfl (lv_at hl 0 rfl) ?_
  refine lv_iconst (v := 5) hx hb dX9_tick_63 (by decide) ?_
  refine cv_i (As := [.int 0, .int 5]) (rest := []) (b := a0) (wr := []) ⟨hx, hb, hml, hown, hts⟩ (fun sz => k414_X9_of l D cs sz a0 a1 a2 a3 a4 a5 a6) (cwV 2 hts gX9_tick_X9_of rfl rfl rfl hdX9_of_v ⟨Nat.le_of_ble_eq_true rfl, Nat.le_of_ble_eq_true rfl⟩) hN hP hD hS hA [0, 1] [] rfl rfl rfl rfl (by decide) (ci := 9) (q0 := 0) rfl rfl rfl rfl hl.1 (Nat.le_of_ble_eq_true rfl) dX9_tick_64 (Nat.le_of_ble_eq_true rfl) (Nat.le_of_ble_eq_true rfl) (fun u3 H locs hP hD hS => ?_)
  have hP : va_P D vwCl [(a0, .inr (9, [.int 0, .ref a2, .int 0, .int 0, .int 0, .int 0, .int 0, .int (-1), .ref a1, .ref a3, .ref a4, .ref a5, .int 0, .int 0, .int 0, .int 0, .int 0, .ref a6])), (a1, .inl (cs 0, 45783, .inl (upd (upd (upd (upd (upd (upd (upd (upd (upd (upd (upd (upd (upd (layF (fun _ => 0) 1) 6 1) 15 1) 16 1) 17 50) 28 1) 29 0) 31 1) 30 1) 19 1) 20 1) 7 1) 28 2) 1 1)))] H := hP
  have hD : va_D A [(a0, .inr (9, [.int 0, .ref a2, .int 0, .int 0, .int 0, .int 0, .int 0, .int (-1), .ref a1, .ref a3, .ref a4, .ref a5, .int 0, .int 0, .int 0, .int 0, .int 0, .ref a6])), (a1, .inl (cs 0, 45783, .inl (upd (upd (upd (upd (upd (upd (upd (upd (upd (upd (upd (upd (upd (layF (fun _ => 0) 1) 6 1) 15 1) 16 1) 17 50) 28 1) 29 0) 31 1) 30 1) 19 1) 20 1) 7 1) 28 2) 1 1)))] := hD
  refine W.widen (k := 0) (n := 0) (Nat.le_of_ble_eq_true rfl) (Nat.le_of_ble_eq_true rfl) ?_
  refine lv_iconst (v := 2) hx hb dX9_tick_67 (by decide) ?_
  refine lv_icmp_ne (tgt := 91) hx hb dX9_tick_68 (by decide) (fun c9 => absurd (by decide) c9) (fun _ => ?_)
  refine lv_aload_n hx hb dX9_tick_71 rfl (lv_at hl 1 rfl) ?_
  refine lv_iload_n hx hb dX9_tick_72 rfl (lv_at hl 0 rfl) ?_
  refine cv_i (As := [.int 0]) (rest := []) (b := a0) (wr := []) ⟨hx, hb, hml, hown, hts⟩ (fun sz => k419_X9_estimate l D cs sz a0 a1 a2 a3 a4 a5 a6) (cwV 1 hts gX9_tick_X9_estimate rfl rfl rfl hdX9_estimate_v ⟨Nat.le_of_ble_eq_true rfl, Nat.le_of_ble_eq_true rfl⟩) hN hP hD hS hA [0, 1] [] rfl rfl rfl rfl (by decide) (ci := 9) (q0 := 0) rfl rfl rfl rfl hl.1 (Nat.le_of_ble_eq_true rfl) dX9_tick_73 (Nat.le_of_ble_eq_true rfl) (Nat.le_of_ble_eq_true rfl) (fun u4 H locs hP hD hS => ?_)
  have hP : va_P D vwCl [(a0, .inr (9, [.int 0, .ref a2, .int 0, .int 0, .int 0, .int 0, .int 0, .int (-1), .ref a1, .ref a3, .ref a4, .ref a5, .int 0, .int 0, .int 0, .int 0, .int 0, .ref a6])), (a1, .inl (cs 0, 45783, .inl (upd (upd (upd (upd (upd (upd (upd (upd (upd (upd (upd (upd (upd (layF (fun _ => 0) 1) 6 1) 15 1) 16 1) 17 50) 28 1) 29 0) 31 1) 30 1) 19 1) 20 1) 7 1) 28 2) 1 1)))] H := hP
  have hD : va_D A [(a0, .inr (9, [.int 0, .ref a2, .int 0, .int 0, .int 0, .int 0, .int 0, .int (-1), .ref a1, .ref a3, .ref a4, .ref a5, .int 0, .int 0, .int 0, .int 0, .int 0, .ref a6])), (a1, .inl (cs 0, 45783, .inl (upd (upd (upd (upd (upd (upd (upd (upd (upd (upd (upd (upd (upd (layF (fun _ => 0) 1) 6 1) 15 1) 16 1) 17 50) 28 1) 29 0) 31 1) 30 1) 19 1) 20 1) 7 1) 28 2) 1 1)))] := hD
  refine W.widen (k := 0) (n := 0) (Nat.le_of_ble_eq_true rfl) (Nat.le_of_ble_eq_true rfl) ?_
  refine lv_aload_n hx hb dX9_tick_76 rfl (lv_at hl 1 rfl) ?_
  refine lv_iload_n hx hb dX9_tick_77 rfl (lv_at hl 0 rfl) ?_
  refine lv_bipush (v := 8) hx hb dX9_tick_78 (by decide) ?_
  refine cv_i (As := [.int 0, .int 8]) (rest := [.int 1]) (b := a0) (wr := []) ⟨hx, hb, hml, hown, hts⟩ (fun sz => k420_X9_of l D cs sz a0 a1 a2 a3 a4 a5 a6) (cwV 2 hts gX9_tick_X9_of rfl rfl rfl hdX9_of_v ⟨Nat.le_of_ble_eq_true rfl, Nat.le_of_ble_eq_true rfl⟩) hN hP hD hS hA [0, 1] [] rfl rfl rfl rfl (by decide) (ci := 9) (q0 := 0) rfl rfl rfl rfl hl.1 (Nat.le_of_ble_eq_true rfl) dX9_tick_80 (Nat.le_of_ble_eq_true rfl) (Nat.le_of_ble_eq_true rfl) (fun u5 H locs hP hD hS => ?_)
  have hP : va_P D vwCl [(a0, .inr (9, [.int 0, .ref a2, .int 0, .int 0, .int 0, .int 0, .int 0, .int (-1), .ref a1, .ref a3, .ref a4, .ref a5, .int 0, .int 0, .int 0, .int 0, .int 0, .ref a6])), (a1, .inl (cs 0, 45783, .inl (upd (upd (upd (upd (upd (upd (upd (upd (upd (upd (upd (upd (upd (layF (fun _ => 0) 1) 6 1) 15 1) 16 1) 17 50) 28 1) 29 0) 31 1) 30 1) 19 1) 20 1) 7 1) 28 2) 1 1)))] H := hP
  have hD : va_D A [(a0, .inr (9, [.int 0, .ref a2, .int 0, .int 0, .int 0, .int 0, .int 0, .int (-1), .ref a1, .ref a3, .ref a4, .ref a5, .int 0, .int 0, .int 0, .int 0, .int 0, .ref a6])), (a1, .inl (cs 0, 45783, .inl (upd (upd (upd (upd (upd (upd (upd (upd (upd (upd (upd (upd (upd (layF (fun _ => 0) 1) 6 1) 15 1) 16 1) 17 50) 28 1) 29 0) 31 1) 30 1) 19 1) 20 1) 7 1) 28 2) 1 1)))] := hD
  refine W.widen (k := 0) (n := 0) (Nat.le_of_ble_eq_true rfl) (Nat.le_of_ble_eq_true rfl) ?_
  refine lv_icmp_lt (tgt := 91) hx hb dX9_tick_83 (by decide) (fun c9 => absurd c9 (by decide)) (fun _ => ?_)
  refine lv_aload_n hx hb dX9_tick_86 rfl (lv_at hl 1 rfl) ?_
  refine lv_iload_n hx hb dX9_tick_87 rfl (lv_at hl 0 rfl) ?_
  refine cv_v (As := [.int 0]) (rest := []) (b := a0) (wr := []) ⟨hx, hb, hml, hown, hts⟩ (fun sz => k432_X9_change l D cs sz a0 a1 a2 a3 a4 a5 a6) (cwV 1 hts gX9_tick_X9_change rfl rfl rfl hdX9_change_v ⟨Nat.le_of_ble_eq_true rfl, Nat.le_of_ble_eq_true rfl⟩) hN hP hD hS hA [0, 1] [] rfl rfl rfl rfl (by decide) (ci := 9) (q0 := 0) rfl rfl rfl rfl hl.1 (Nat.le_of_ble_eq_true rfl) dX9_tick_88 (Nat.le_of_ble_eq_true rfl) (Nat.le_of_ble_eq_true rfl) (fun u6 H locs hP hD hS => ?_)
  have hP : va_P D vwCl [(a0, .inr (9, [.int 0, .ref a2, .int 0, .int 0, .int 0, .int 0, .int 0, .int (-1), .ref a1, .ref a3, .ref a4, .ref a5, .int 0, .int 0, .int 0, .int 0, .int 0, .ref a6])), (a1, .inl (cs 0, 45783, .inl (upd (upd (upd (upd (upd (upd (upd (upd (upd (upd (upd (upd (upd (upd (upd (upd (upd (upd (upd (upd (upd (layF (fun _ => 0) 1) 6 1) 15 1) 16 1) 17 50) 28 1) 29 0) 31 1) 30 1) 19 1) 20 1) 7 1) 28 2) 1 1) 21 1) 22 1) 27 1) 32 1) 34 1) 28 0) 29 (-1)) 9 1)))] H := hP
  have hD : va_D A [(a0, .inr (9, [.int 0, .ref a2, .int 0, .int 0, .int 0, .int 0, .int 0, .int (-1), .ref a1, .ref a3, .ref a4, .ref a5, .int 0, .int 0, .int 0, .int 0, .int 0, .ref a6])), (a1, .inl (cs 0, 45783, .inl (upd (upd (upd (upd (upd (upd (upd (upd (upd (upd (upd (upd (upd (upd (upd (upd (upd (upd (upd (upd (upd (layF (fun _ => 0) 1) 6 1) 15 1) 16 1) 17 50) 28 1) 29 0) 31 1) 30 1) 19 1) 20 1) 7 1) 28 2) 1 1) 21 1) 22 1) 27 1) 32 1) 34 1) 28 0) 29 (-1)) 9 1)))] := hD
  refine W.widen (k := 0) (n := 0) (Nat.le_of_ble_eq_true rfl) (Nat.le_of_ble_eq_true rfl) ?_
  refine lv_iinc (v := 1) (lv' := [(1, .int 1), (0, .ref a0)]) hx hb dX9_tick_91 hl (k := 0) rfl (by decide) (by decide) rfl (fun ls hl => ?_)
  refine lv_goto (tgt := 43) hx hb dX9_tick_94 (by decide) ?_
  refine lv_iload_n hx hb dX9_tick_43 rfl (lv_at hl 0 rfl) ?_
  refine lv_aload_n hx hb dX9_tick_44 rfl (lv_at hl 1 rfl) ?_
  refine va_get (D := D) (ci := 9) (v := .ref a1) (C := RX9) (T := TX9) (N := 18) hx hb hts iX9_tick_9 hown hN.1 hP 0 rfl rfl 8 (by decide) (hts _ mX9_tick_1) (fun _ h9 => h9) rfl dX9_tick_45 ?_
  refine lv_iconst (v := 0) hx hb dX9_tick_48 (by decide) ?_
  refine ld_i (v := 1) hx hb hN hP 1 rfl (vin (by decide +kernel)) (by first | rfl | decide +kernel) dX9_tick_49 ?_
  refine lv_icmp_ge (tgt := 97) hx hb dX9_tick_50 (by decide) (fun _ => ?_) (fun c9 => absurd (by decide) c9)
  exact en_v (fun k => ([] : List Nat).getD k 0) hx hb hr hlocks hP hD hS (Nat.le_of_ble_eq_true rfl) (Nat.le_of_ble_eq_true rfl) dX9_tick_97
set_option maxHeartbeats 4000000 in
set_option maxRecDepth 100000 in
theorem k434_X9_isOpen (l : Launch) (D : va_G) (cs : Nat → ClassId) (sz : Nat) (a0 a1 a2 a3 a4 a5 a6 : Nat) : KI l yX9_isOpen wsX9_isOpen 0 0 0 0 D cs sz [.ref a0] [(a0, .inr (9, [.int 0, .ref a2, .int 0, .int 0, .int 0, .int 0, .int 0, .int (-1), .ref a1, .ref a3, .ref a4, .ref a5, .int 0, .int 0, .int 0, .int 0, .int 0, .ref a6])), (a1, .inl (cs 0, 45783, .inl (upd (upd (upd (upd (upd (upd (upd (upd (upd (upd (upd (upd (upd (upd (upd (upd (upd (upd (upd (upd (upd (layF (fun _ => 0) 1) 6 1) 15 1) 16 1) 17 50) 28 1) 29 0) 31 1) 30 1) 19 1) 20 1) 7 1) 28 2) 1 1) 21 1) 22 1) 27 1) 32 1) 34 1) 28 0) 29 (-1)) 9 1)))] (fun u => [(a0, .inr (9, [.int 0, .ref a2, .int 0, .int 0, .int 0, .int 0, .int 0, .int (-1), .ref a1, .ref a3, .ref a4, .ref a5, .int 0, .int 0, .int 0, .int 0, .int 0, .ref a6])), (a1, .inl (cs 0, 45783, .inl (upd (upd (upd (upd (upd (upd (upd (upd (upd (upd (upd (upd (upd (upd (upd (upd (upd (upd (upd (upd (upd (layF (fun _ => 0) 1) 6 1) 15 1) 16 1) 17 50) 28 1) 29 0) 31 1) 30 1) 19 1) 20 1) 7 1) 28 2) 1 1) 21 1) 22 1) 27 1) 32 1) 34 1) 28 0) 29 (-1)) 9 1)))]) (0) := by
  refine KI.of cX9_isOpen 1 (some .boolean) (by decide) rfl (Nat.le_of_ble_eq_true rfl) ?_
  intro p e s m below meth c A ls hx hb hr hml hown hts hlocks hin hP hN hD hA hS hl
  have hown : s.vm.findClass RX9 = some m.cls := hown
  have hl : lv_has ls 1 [(0, .ref a0)] := hl
  refine lv_aload_n hx hb dX9_isOpen_0 rfl (lv_at hl 0 rfl) ?_
  refine va_get (D := D) (ci := 9) (v := .ref a1) (C := RX9) (T := TX9) (N := 18) hx hb hts iX9_isOpen_9 hown hN.1 hP 0 rfl rfl 8 (by decide) (hts _ mX9_isOpen_1) (fun _ h9 => h9) rfl dX9_isOpen_1 ?_
  refine lv_bipush (v := 6) hx hb dX9_isOpen_4 (by decide) ?_
  refine ld_i (v := 1) hx hb hN hP 1 rfl (vin (by decide +kernel)) (by first | rfl | decide +kernel) dX9_isOpen_6 ?_
  refine lv_if_le (tgt := 24) hx hb dX9_isOpen_7 (by decide) (fun c9 => absurd c9 (by decide)) (fun _ => ?_)
  refine lv_aload_n hx hb dX9_isOpen_10 rfl (lv_at hl 0 rfl) ?_
  refine va_get (D := D) (ci := 9) (v := .ref a1) (C := RX9) (T := TX9) (N := 18) hx hb hts iX9_isOpen_9 hown hN.1 hP 0 rfl rfl 8 (by decide) (hts _ mX9_isOpen_1) (fun _ h9 => h9) rfl dX9_isOpen_11 ?_
  refine lv_bipush (v := 20) hx hb dX9_isOpen_14 (by decide) ?_
  refine ld_i (v := 1) hx hb hN hP 1 rfl (vin (by decide +kernel)) (by first | rfl | decide +kernel) dX9_isOpen_16 ?_
  refine lv_if_ne (tgt := 24) hx hb dX9_isOpen_17 (by decide) (fun _ => ?_) (fun c9 => absurd c9 (by decide))
  refine lv_iconst (v := 0) hx hb dX9_isOpen_24 (by decide) ?_
  exact en_i (fun k => ([] : List Nat).getD k 0) hx hb hr hlocks rfl rfl hP hD hS (Nat.le_of_ble_eq_true rfl) (Nat.le_of_ble_eq_true rfl) dX9_isOpen_25
set_option maxHeartbeats 4000000 in
set_option maxRecDepth 100000 in
theorem k435_X9_of (l : Launch) (D : va_G) (cs : Nat → ClassId) (sz : Nat) (a0 a1 a2 a3 a4 a5 a6 : Nat) : KI l yX9_of wsX9_of 1 20 0 0 D cs sz [.ref a0, .int 0, .int 0] [(a0, .inr (9, [.int 0, .ref a2, .int 0, .int 0, .int 0, .int 0, .int 0, .int (-1), .ref a1, .ref a3, .ref a4, .ref a5, .int 0, .int 0, .int 0, .int 0, .int 0, .ref a6])), (a1, .inl (cs 0, 45783, .inl (upd (upd (upd (upd (upd (upd (upd (upd (upd (upd (upd (upd (upd (upd (upd (upd (upd (upd (upd (upd (upd (layF (fun _ => 0) 1) 6 1) 15 1) 16 1) 17 50) 28 1) 29 0) 31 1) 30 1) 19 1) 20 1) 7 1) 28 2) 1 1) 21 1) 22 1) 27 1) 32 1) 34 1) 28 0) 29 (-1)) 9 1)))] (fun u => [(a0, .inr (9, [.int 0, .ref a2, .int 0, .int 0, .int 0, .int 0, .int 0, .int (-1), .ref a1, .ref a3, .ref a4, .ref a5, .int 0, .int 0, .int 0, .int 0, .int 0, .ref a6])), (a1, .inl (cs 0, 45783, .inl (upd (upd (upd (upd (upd (upd (upd (upd (upd (upd (upd (upd (upd (upd (upd (upd (upd (upd (upd (upd (upd (layF (fun _ => 0) 1) 6 1) 15 1) 16 1) 17 50) 28 1) 29 0) 31 1) 30 1) 19 1) 20 1) 7 1) 28 2) 1 1) 21 1) 22 1) 27 1) 32 1) 34 1) 28 0) 29 (-1)) 9 1)))]) (1) := by
  refine KI.of cX9_of 3 (some .int) (by decide) rfl (Nat.le_of_ble_eq_true rfl) ?_
  intro p e s m below meth c A ls hx hb hr hml hown hts hlocks hin hP hN hD hA hS hl
  have hown : s.vm.findClass RX9 = some m.cls := hown
  have hl : lv_has ls 3 [(0, .ref a0), (1, .int 0), (2, .int 0)] := hl
  refine lv_aload_n hx hb dX9_of_0 rfl (lv_at hl 0 rfl) ?_
  refine va_get (D := D) (ci := 9) (v := .ref a1) (C := RX9) (T := TX9) (N := 18) hx hb hts iX9_of_9 hown hN.1 hP 0 rfl rfl 8 (by decide) (hts _ mX9_of_1) (fun _ h9 => h9) rfl dX9_of_1 ?_
  refine lv_iload_n hx hb dX9_of_4 rfl (lv_at hl 1 rfl) ?_
  refine cs_i (As := [.int 0]) (rest := [.ref a1]) (wr := [(a0, .inr (9, [.int 0, .ref a2, .int 0, .int 0, .int 0, .int 0, .int 0, .int (-1), .ref a1, .ref a3, .ref a4, .ref a5, .int 0, .int 0, .int 0, .int 0, .int 0, .ref a6])), (a1, .inl (cs 0, 45783, .inl (upd (upd (upd (upd (upd (upd (upd (upd (upd (upd (upd (upd (upd (upd (upd (upd (upd (upd (upd (upd (upd (layF (fun _ => 0) 1) 6 1) 15 1) 16 1) 17 50) 28 1) 29 0) 31 1) 30 1) 19 1) 20 1) 7 1) 28 2) 1 1) 21 1) 22 1) 27 1) 32 1) 34 1) 28 0) 29 (-1)) 9 1)))]) ⟨hx, hb, hml, hown, hts⟩ (fun sz => k16_X9_playerAt l D cs sz ) (va_cwS 1 hts gX9_of_X9_playerAt rfl rfl rfl hdX9_playerAt_o ⟨Nat.le_of_ble_eq_true rfl, Nat.le_of_ble_eq_true rfl⟩) hN hP hD hS hA [] [0, 1] rfl rfl rfl rfl (by decide) rfl rfl hl.1 (Nat.le_of_ble_eq_true rfl) dX9_of_5 (Nat.le_of_ble_eq_true rfl) (Nat.le_of_ble_eq_true rfl) (fun u0 H locs hP hD hS => ?_)
  have hP : va_P D vwCl [(a0, .inr (9, [.int 0, .ref a2, .int 0, .int 0, .int 0, .int 0, .int 0, .int (-1), .ref a1, .ref a3, .ref a4, .ref a5, .int 0, .int 0, .int 0, .int 0, .int 0, .ref a6])), (a1, .inl (cs 0, 45783, .inl (upd (upd (upd (upd (upd (upd (upd (upd (upd (upd (upd (upd (upd (upd (upd (upd (upd (upd (upd (upd (upd (layF (fun _ => 0) 1) 6 1) 15 1) 16 1) 17 50) 28 1) 29 0) 31 1) 30 1) 19 1) 20 1) 7 1) 28 2) 1 1) 21 1) 22 1) 27 1) 32 1) 34 1) 28 0) 29 (-1)) 9 1)))] H := hP
  have hD : va_D A [(a0, .inr (9, [.int 0, .ref a2, .int 0, .int 0, .int 0, .int 0, .int 0, .int (-1), .ref a1, .ref a3, .ref a4, .ref a5, .int 0, .int 0, .int 0, .int 0, .int 0, .ref a6])), (a1, .inl (cs 0, 45783, .inl (upd (upd (upd (upd (upd (upd (upd (upd (upd (upd (upd (upd (upd (upd (upd (upd (upd (upd (upd (upd (upd (layF (fun _ => 0) 1) 6 1) 15 1) 16 1) 17 50) 28 1) 29 0) 31 1) 30 1) 19 1) 20 1) 7 1) 28 2) 1 1) 21 1) 22 1) 27 1) 32 1) 34 1) 28 0) 29 (-1)) 9 1)))] := hD
  refine W.widen (k := 0) (n := 0) (Nat.le_of_ble_eq_true rfl) (Nat.le_of_ble_eq_true rfl) ?_
  refine lv_iload_n hx hb dX9_of_8 rfl (lv_at hl 2 rfl) ?_
  refine lv_iadd hx hb dX9_of_9 ?_
  refine tp_i (23) (by decide) ?_
  refine ld_i (v := 1) hx hb hN hP 1 rfl (vin (by decide +kernel)) (by first | rfl | decide +kernel) dX9_of_10 ?_
  exact en_i (fun k => ([] : List Nat).getD k 0) hx hb hr hlocks rfl rfl hP hD hS (Nat.le_of_ble_eq_true rfl) (Nat.le_of_ble_eq_true rfl) dX9_of_11
set_option maxHeartbeats 4000000 in
set_option maxRecDepth 100000 in
theorem k436_X9_isUp (l : Launch) (D : va_G) (cs : Nat → ClassId) (sz : Nat) (a0 a1 a2 a3 a4 a5 a6 : Nat) : KI l yX9_isUp wsX9_isUp 2 42 0 0 D cs sz [.ref a0, .int 0] [(a0, .inr (9, [.int 0, .ref a2, .int 0, .int 0, .int 0, .int 0, .int 0, .int (-1), .ref a1, .ref a3, .ref a4, .ref a5, .int 0, .int 0, .int 0, .int 0, .int 0, .ref a6])), (a1, .inl (cs 0, 45783, .inl (upd (upd (upd (upd (upd (upd (upd (upd (upd (upd (upd (upd (upd (upd (upd (upd (upd (upd (upd (upd (upd (layF (fun _ => 0) 1) 6 1) 15 1) 16 1) 17 50) 28 1) 29 0) 31 1) 30 1) 19 1) 20 1) 7 1) 28 2) 1 1) 21 1) 22 1) 27 1) 32 1) 34 1) 28 0) 29 (-1)) 9 1)))] (fun u => [(a0, .inr (9, [.int 0, .ref a2, .int 0, .int 0, .int 0, .int 0, .int 0, .int (-1), .ref a1, .ref a3, .ref a4, .ref a5, .int 0, .int 0, .int 0, .int 0, .int 0, .ref a6])), (a1, .inl (cs 0, 45783, .inl (upd (upd (upd (upd (upd (upd (upd (upd (upd (upd (upd (upd (upd (upd (upd (upd (upd (upd (upd (upd (upd (layF (fun _ => 0) 1) 6 1) 15 1) 16 1) 17 50) 28 1) 29 0) 31 1) 30 1) 19 1) 20 1) 7 1) 28 2) 1 1) 21 1) 22 1) 27 1) 32 1) 34 1) 28 0) 29 (-1)) 9 1)))]) (1) := by
  refine KI.of cX9_isUp 2 (some .boolean) (by decide) rfl (Nat.le_of_ble_eq_true rfl) ?_
  intro p e s m below meth c A ls hx hb hr hml hown hts hlocks hin hP hN hD hA hS hl
  have hown : s.vm.findClass RX9 = some m.cls := hown
  have hl : lv_has ls 2 [(0, .ref a0), (1, .int 0)] := hl
  refine lv_aload_n hx hb dX9_isUp_0 rfl (lv_at hl 0 rfl) ?_
  refine lv_iload_n hx hb dX9_isUp_1 rfl (lv_at hl 1 rfl) ?_
  refine lv_iconst (v := 0) hx hb dX9_isUp_2 (by decide) ?_
  refine cv_i (As := [.int 0, .int 0]) (rest := []) (b := a0) (wr := []) ⟨hx, hb, hml, hown, hts⟩ (fun sz => k435_X9_of l D cs sz a0 a1 a2 a3 a4 a5 a6) (cwV 2 hts gX9_isUp_X9_of rfl rfl rfl hdX9_of_v ⟨Nat.le_of_ble_eq_true rfl, Nat.le_of_ble_eq_true rfl⟩) hN hP hD hS hA [0, 1] [] rfl rfl rfl rfl (by decide) (ci := 9) (q0 := 0) rfl rfl rfl rfl hl.1 (Nat.le_of_ble_eq_true rfl) dX9_isUp_3 (Nat.le_of_ble_eq_true rfl) (Nat.le_of_ble_eq_true rfl) (fun u0 H locs hP hD hS => ?_)
  have hP : va_P D vwCl [(a0, .inr (9, [.int 0, .ref a2, .int 0, .int 0, .int 0, .int 0, .int 0, .int (-1), .ref a1, .ref a3, .ref a4, .ref a5, .int 0, .int 0, .int 0, .int 0, .int 0, .ref a6])), (a1, .inl (cs 0, 45783, .inl (upd (upd (upd (upd (upd (upd (upd (upd (upd (upd (upd (upd (upd (upd (upd (upd (upd (upd (upd (upd (upd (layF (fun _ => 0) 1) 6 1) 15 1) 16 1) 17 50) 28 1) 29 0) 31 1) 30 1) 19 1) 20 1) 7 1) 28 2) 1 1) 21 1) 22 1) 27 1) 32 1) 34 1) 28 0) 29 (-1)) 9 1)))] H := hP
  have hD : va_D A [(a0, .inr (9, [.int 0, .ref a2, .int 0, .int 0, .int 0, .int 0, .int 0, .int (-1), .ref a1, .ref a3, .ref a4, .ref a5, .int 0, .int 0, .int 0, .int 0, .int 0, .ref a6])), (a1, .inl (cs 0, 45783, .inl (upd (upd (upd (upd (upd (upd (upd (upd (upd (upd (upd (upd (upd (upd (upd (upd (upd (upd (upd (upd (upd (layF (fun _ => 0) 1) 6 1) 15 1) 16 1) 17 50) 28 1) 29 0) 31 1) 30 1) 19 1) 20 1) 7 1) 28 2) 1 1) 21 1) 22 1) 27 1) 32 1) 34 1) 28 0) 29 (-1)) 9 1)))] := hD
  refine W.widen (k := 0) (n := 0) (Nat.le_of_ble_eq_true rfl) (Nat.le_of_ble_eq_true rfl) ?_
  refine lv_iconst (v := 1) hx hb dX9_isUp_6 (by decide) ?_
  refine lv_icmp_ne (tgt := 14) hx hb dX9_isUp_7 (by decide) (fun c9 => absurd (by decide) c9) (fun _ => ?_)
  refine lv_iconst (v := 1) hx hb dX9_isUp_10 (by decide) ?_
  refine lv_goto (tgt := 15) hx hb dX9_isUp_11 (by decide) ?_
  exact en_i (fun k => ([] : List Nat).getD k 0) hx hb hr hlocks rfl rfl hP hD hS (Nat.le_of_ble_eq_true rfl) (Nat.le_of_ble_eq_true rfl) dX9_isUp_15
set_option maxHeartbeats 4000000 in
set_option maxRecDepth 100000 in
theorem k437_X9_of (l : Launch) (D : va_G) (cs : Nat → ClassId) (sz : Nat) (a0 a1 a2 a3 a4 a5 a6 : Nat) : KI l yX9_of wsX9_of 1 20 0 0 D cs sz [.ref a0, .int 0, .int 5] [(a0, .inr (9, [.int 0, .ref a2, .int 0, .int 0, .int 0, .int 0, .int 0, .int (-1), .ref a1, .ref a3, .ref a4, .ref a5, .int 0, .int 0, .int 0, .int 0, .int 0, .ref a6])), (a1, .inl (cs 0, 45783, .inl (upd (upd (upd (upd (upd (upd (upd (upd (upd (upd (upd (upd (upd (upd (upd (upd (upd (upd (upd (upd (upd (layF (fun _ => 0) 1) 6 1) 15 1) 16 1) 17 50) 28 1) 29 0) 31 1) 30 1) 19 1) 20 1) 7 1) 28 2) 1 1) 21 1) 22 1) 27 1) 32 1) 34 1) 28 0) 29 (-1)) 9 1)))] (fun u => [(a0, .inr (9, [.int 0, .ref a2, .int 0, .int 0, .int 0, .int 0, .int 0, .int (-1), .ref a1, .ref a3, .ref a4, .ref a5, .int 0, .int 0, .int 0, .int 0, .int 0, .ref a6])), (a1, .inl (cs 0, 45783, .inl (upd (upd (upd (upd (upd (upd (upd (upd (upd (upd (upd (upd (upd (upd (upd (upd (upd (upd (upd (upd (upd (layF (fun _ => 0) 1) 6 1) 15 1) 16 1) 17 50) 28 1) 29 0) 31 1) 30 1) 19 1) 20 1) 7 1) 28 2) 1 1) 21 1) 22 1) 27 1) 32 1) 34 1) 28 0) 29 (-1)) 9 1)))]) (0) := by
  refine KI.of cX9_of 3 (some .int) (by decide) rfl (Nat.le_of_ble_eq_true rfl) ?_
  intro p e s m below meth c A ls hx hb hr hml hown hts hlocks hin hP hN hD hA hS hl
  have hown : s.vm.findClass RX9 = some m.cls := hown
  have hl : lv_has ls 3 [(0, .ref a0), (1, .int 0), (2, .int 5)] := hl
  refine lv_aload_n hx hb dX9_of_0 rfl (lv_at hl 0 rfl) ?_
  refine va_get (D := D) (ci := 9) (v := .ref a1) (C := RX9) (T := TX9) (N := 18) hx hb hts iX9_of_9 hown hN.1 hP 0 rfl rfl 8 (by decide) (hts _ mX9_of_1) (fun _ h9 => h9) rfl dX9_of_1 ?_
  refine lv_iload_n hx hb dX9_of_4 rfl (lv_at hl 1 rfl) ?_
  refine cs_i (As := [.int 0]) (rest := [.ref a1]) (wr := [(a0, .inr (9, [.int 0, .ref a2, .int 0, .int 0, .int 0, .int 0, .int 0, .int (-1), .ref a1, .ref a3, .ref a4, .ref a5, .int 0, .int 0, .int 0, .int 0, .int 0, .ref a6])), (a1, .inl (cs 0, 45783, .inl (upd (upd (upd (upd (upd (upd (upd (upd (upd (upd (upd (upd (upd (upd (upd (upd (upd (upd (upd (upd (upd (layF (fun _ => 0) 1) 6 1) 15 1) 16 1) 17 50) 28 1) 29 0) 31 1) 30 1) 19 1) 20 1) 7 1) 28 2) 1 1) 21 1) 22 1) 27 1) 32 1) 34 1) 28 0) 29 (-1)) 9 1)))]) ⟨hx, hb, hml, hown, hts⟩ (fun sz => k16_X9_playerAt l D cs sz ) (va_cwS 1 hts gX9_of_X9_playerAt rfl rfl rfl hdX9_playerAt_o ⟨Nat.le_of_ble_eq_true rfl, Nat.le_of_ble_eq_true rfl⟩) hN hP hD hS hA [] [0, 1] rfl rfl rfl rfl (by decide) rfl rfl hl.1 (Nat.le_of_ble_eq_true rfl) dX9_of_5 (Nat.le_of_ble_eq_true rfl) (Nat.le_of_ble_eq_true rfl) (fun u0 H locs hP hD hS => ?_)
  have hP : va_P D vwCl [(a0, .inr (9, [.int 0, .ref a2, .int 0, .int 0, .int 0, .int 0, .int 0, .int (-1), .ref a1, .ref a3, .ref a4, .ref a5, .int 0, .int 0, .int 0, .int 0, .int 0, .ref a6])), (a1, .inl (cs 0, 45783, .inl (upd (upd (upd (upd (upd (upd (upd (upd (upd (upd (upd (upd (upd (upd (upd (upd (upd (upd (upd (upd (upd (layF (fun _ => 0) 1) 6 1) 15 1) 16 1) 17 50) 28 1) 29 0) 31 1) 30 1) 19 1) 20 1) 7 1) 28 2) 1 1) 21 1) 22 1) 27 1) 32 1) 34 1) 28 0) 29 (-1)) 9 1)))] H := hP
  have hD : va_D A [(a0, .inr (9, [.int 0, .ref a2, .int 0, .int 0, .int 0, .int 0, .int 0, .int (-1), .ref a1, .ref a3, .ref a4, .ref a5, .int 0, .int 0, .int 0, .int 0, .int 0, .ref a6])), (a1, .inl (cs 0, 45783, .inl (upd (upd (upd (upd (upd (upd (upd (upd (upd (upd (upd (upd (upd (upd (upd (upd (upd (upd (upd (upd (upd (layF (fun _ => 0) 1) 6 1) 15 1) 16 1) 17 50) 28 1) 29 0) 31 1) 30 1) 19 1) 20 1) 7 1) 28 2) 1 1) 21 1) 22 1) 27 1) 32 1) 34 1) 28 0) 29 (-1)) 9 1)))] := hD
  refine W.widen (k := 0) (n := 0) (Nat.le_of_ble_eq_true rfl) (Nat.le_of_ble_eq_true rfl) ?_
  refine lv_iload_n hx hb dX9_of_8 rfl (lv_at hl 2 rfl) ?_
  refine lv_iadd hx hb dX9_of_9 ?_
  refine tp_i (28) (by decide) ?_
  refine ld_i (v := 0) hx hb hN hP 1 rfl (vin (by decide +kernel)) (by first | rfl | decide +kernel) dX9_of_10 ?_
  exact en_i (fun k => ([] : List Nat).getD k 0) hx hb hr hlocks rfl rfl hP hD hS (Nat.le_of_ble_eq_true rfl) (Nat.le_of_ble_eq_true rfl) dX9_of_11
set_option maxHeartbeats 4000000 in
set_option maxRecDepth 100000 in
theorem k438_X9_isLive (l : Launch) (D : va_G) (cs : Nat → ClassId) (sz : Nat) (a0 a1 a2 a3 a4 a5 a6 : Nat) : KI l yX9_isLive wsX9_isLive 3 63 0 0 D cs sz [.ref a0] [(a0, .inr (9, [.int 0, .ref a2, .int 0, .int 0, .int 0, .int 0, .int 0, .int (-1), .ref a1, .ref a3, .ref a4, .ref a5, .int 0, .int 0, .int 0, .int 0, .int 0, .ref a6])), (a1, .inl (cs 0, 45783, .inl (upd (upd (upd (upd (upd (upd (upd (upd (upd (upd (upd (upd (upd (upd (upd (upd (upd (upd (upd (upd (upd (layF (fun _ => 0) 1) 6 1) 15 1) 16 1) 17 50) 28 1) 29 0) 31 1) 30 1) 19 1) 20 1) 7 1) 28 2) 1 1) 21 1) 22 1) 27 1) 32 1) 34 1) 28 0) 29 (-1)) 9 1)))] (fun u => [(a0, .inr (9, [.int 0, .ref a2, .int 0, .int 0, .int 0, .int 0, .int 0, .int (-1), .ref a1, .ref a3, .ref a4, .ref a5, .int 0, .int 0, .int 0, .int 0, .int 0, .ref a6])), (a1, .inl (cs 0, 45783, .inl (upd (upd (upd (upd (upd (upd (upd (upd (upd (upd (upd (upd (upd (upd (upd (upd (upd (upd (upd (upd (upd (layF (fun _ => 0) 1) 6 1) 15 1) 16 1) 17 50) 28 1) 29 0) 31 1) 30 1) 19 1) 20 1) 7 1) 28 2) 1 1) 21 1) 22 1) 27 1) 32 1) 34 1) 28 0) 29 (-1)) 9 1)))]) (0) := by
  refine KI.of cX9_isLive 3 (some .boolean) (by decide) rfl (Nat.le_of_ble_eq_true rfl) ?_
  intro p e s m below meth c A ls hx hb hr hml hown hts hlocks hin hP hN hD hA hS hl
  have hown : s.vm.findClass RX9 = some m.cls := hown
  have hl : lv_has ls 3 [(0, .ref a0)] := hl
  refine lv_aload_n hx hb dX9_isLive_0 rfl (lv_at hl 0 rfl) ?_
  refine va_get (D := D) (ci := 9) (v := .ref a1) (C := RX9) (T := TX9) (N := 18) hx hb hts iX9_isLive_9 hown hN.1 hP 0 rfl rfl 8 (by decide) (hts _ mX9_isLive_1) (fun _ h9 => h9) rfl dX9_isLive_1 ?_
  refine lv_iconst (v := 3) hx hb dX9_isLive_4 (by decide) ?_
  refine ld_i (v := 0) hx hb hN hP 1 rfl (vin (by decide +kernel)) (by first | rfl | decide +kernel) dX9_isLive_5 ?_
  refine lv_if_gt (tgt := 16) hx hb dX9_isLive_6 (by decide) (fun c9 => absurd c9 (by decide)) (fun _ => ?_)
  refine lv_aload_n hx hb dX9_isLive_9 rfl (lv_at hl 0 rfl) ?_
  refine cv_i (As := []) (rest := []) (b := a0) (wr := []) ⟨hx, hb, hml, hown, hts⟩ (fun sz => k434_X9_isOpen l D cs sz a0 a1 a2 a3 a4 a5 a6) (cwV 0 hts gX9_isLive_X9_isOpen rfl rfl rfl hdX9_isOpen_v ⟨Nat.le_of_ble_eq_true rfl, Nat.le_of_ble_eq_true rfl⟩) hN hP hD hS hA [0, 1] [] rfl rfl rfl rfl (by decide) (ci := 9) (q0 := 0) rfl rfl rfl rfl hl.1 (Nat.le_of_ble_eq_true rfl) dX9_isLive_10 (Nat.le_of_ble_eq_true rfl) (Nat.le_of_ble_eq_true rfl) (fun u0 H locs hP hD hS => ?_)
  have hP : va_P D vwCl [(a0, .inr (9, [.int 0, .ref a2, .int 0, .int 0, .int 0, .int 0, .int 0, .int (-1), .ref a1, .ref a3, .ref a4, .ref a5, .int 0, .int 0, .int 0, .int 0, .int 0, .ref a6])), (a1, .inl (cs 0, 45783, .inl (upd (upd (upd (upd (upd (upd (upd (upd (upd (upd (upd (upd (upd (upd (upd (upd (upd (upd (upd (upd (upd (layF (fun _ => 0) 1) 6 1) 15 1) 16 1) 17 50) 28 1) 29 0) 31 1) 30 1) 19 1) 20 1) 7 1) 28 2) 1 1) 21 1) 22 1) 27 1) 32 1) 34 1) 28 0) 29 (-1)) 9 1)))] H := hP
  have hD : va_D A [(a0, .inr (9, [.int 0, .ref a2, .int 0, .int 0, .int 0, .int 0, .int 0, .int (-1), .ref a1, .ref a3, .ref a4, .ref a5, .int 0, .int 0, .int 0, .int 0, .int 0, .ref a6])), (a1, .inl (cs 0, 45783, .inl (upd (upd (upd (upd (upd (upd (upd (upd (upd (upd (upd (upd (upd (upd (upd (upd (upd (upd (upd (upd (upd (layF (fun _ => 0) 1) 6 1) 15 1) 16 1) 17 50) 28 1) 29 0) 31 1) 30 1) 19 1) 20 1) 7 1) 28 2) 1 1) 21 1) 22 1) 27 1) 32 1) 34 1) 28 0) 29 (-1)) 9 1)))] := hD
  refine W.widen (k := 0) (n := 0) (Nat.le_of_ble_eq_true rfl) (Nat.le_of_ble_eq_true rfl) ?_
  refine lv_if_eq (tgt := 20) hx hb dX9_isLive_13 (by decide) (fun _ => ?_) (fun c9 => absurd (by decide) c9)
  refine lv_iconst (v := 0) hx hb dX9_isLive_20 (by decide) ?_
  refine lv_istore_n (lv' := [(1, .int 0), (0, .ref a0)]) hx hb dX9_isLive_21 rfl hl (by decide) rfl (fun ls hl => ?_)
  refine lv_iconst (v := 0) hx hb dX9_isLive_22 (by decide) ?_
  refine lv_istore_n (lv' := [(2, .int 0), (1, .int 0), (0, .ref a0)]) hx hb dX9_isLive_23 rfl hl (by decide) rfl (fun ls hl => ?_)
  refine lv_iload_n hx hb dX9_isLive_24 rfl (lv_at hl 0 rfl) ?_
  refine lv_aload_n hx hb dX9_isLive_25 rfl (lv_at hl 2 rfl) ?_
  refine va_get (D := D) (ci := 9) (v := .ref a1) (C := RX9) (T := TX9) (N := 18) hx hb hts iX9_isLive_9 hown hN.1 hP 0 rfl rfl 8 (by decide) (hts _ mX9_isLive_1) (fun _ h9 => h9) rfl dX9_isLive_26 ?_
  refine lv_iconst (v := 0) hx hb dX9_isLive_29 (by decide) ?_
  refine ld_i (v := 1) hx hb hN hP 1 rfl (vin (by decide +kernel)) (by first | rfl | decide +kernel) dX9_isLive_30 ?_
  refine lv_icmp_ge (tgt := 66) hx hb dX9_isLive_31 (by decide) (fun c9 => absurd c9 (by decide)) (fun _ => ?_)
  refine lv_iload_n hx hb dX9_isLive_34 rfl (lv_at hl 1 rfl) ?_
  refine lv_aload_n hx hb dX9_isLive_35 rfl (lv_at hl 2 rfl) ?_
  refine lv_iload_n hx hb dX9_isLive_36 rfl (lv_at hl 0 rfl) ?_
  refine cv_i (As := [.int 0]) (rest := [.int 0]) (b := a0) (wr := []) ⟨hx, hb, hml, hown, hts⟩ (fun sz => k436_X9_isUp l D cs sz a0 a1 a2 a3 a4 a5 a6) (cwV 1 hts gX9_isLive_X9_isUp rfl rfl rfl hdX9_isUp_v ⟨Nat.le_of_ble_eq_true rfl, Nat.le_of_ble_eq_true rfl⟩) hN hP hD hS hA [0, 1] [] rfl rfl rfl rfl (by decide) (ci := 9) (q0 := 0) rfl rfl rfl rfl hl.1 (Nat.le_of_ble_eq_true rfl) dX9_isLive_37 (Nat.le_of_ble_eq_true rfl) (Nat.le_of_ble_eq_true rfl) (fun u1 H locs hP hD hS => ?_)
  have hP : va_P D vwCl [(a0, .inr (9, [.int 0, .ref a2, .int 0, .int 0, .int 0, .int 0, .int 0, .int (-1), .ref a1, .ref a3, .ref a4, .ref a5, .int 0, .int 0, .int 0, .int 0, .int 0, .ref a6])), (a1, .inl (cs 0, 45783, .inl (upd (upd (upd (upd (upd (upd (upd (upd (upd (upd (upd (upd (upd (upd (upd (upd (upd (upd (upd (upd (upd (layF (fun _ => 0) 1) 6 1) 15 1) 16 1) 17 50) 28 1) 29 0) 31 1) 30 1) 19 1) 20 1) 7 1) 28 2) 1 1) 21 1) 22 1) 27 1) 32 1) 34 1) 28 0) 29 (-1)) 9 1)))] H := hP
  have hD : va_D A [(a0, .inr (9, [.int 0, .ref a2, .int 0, .int 0, .int 0, .int 0, .int 0, .int (-1), .ref a1, .ref a3, .ref a4, .ref a5, .int 0, .int 0, .int 0, .int 0, .int 0, .ref a6])), (a1, .inl (cs 0, 45783, .inl (upd (upd (upd (upd (upd (upd (upd (upd (upd (upd (upd (upd (upd (upd (upd (upd (upd (upd (upd (upd (upd (layF (fun _ => 0) 1) 6 1) 15 1) 16 1) 17 50) 28 1) 29 0) 31 1) 30 1) 19 1) 20 1) 7 1) 28 2) 1 1) 21 1) 22 1) 27 1) 32 1) 34 1) 28 0) 29 (-1)) 9 1)))] := hD
  refine W.widen (k := 0) (n := 0) (Nat.le_of_ble_eq_true rfl) (Nat.le_of_ble_eq_true rfl) ?_
  refine lv_if_eq (tgt := 57) hx hb dX9_isLive_40 (by decide) (fun c9 => absurd c9 (by decide)) (fun _ => ?_)
  refine lv_aload_n hx hb dX9_isLive_43 rfl (lv_at hl 2 rfl) ?_
  refine lv_iload_n hx hb dX9_isLive_44 rfl (lv_at hl 0 rfl) ?_
  refine lv_iconst (v := 5) hx hb dX9_isLive_45 (by decide) ?_
  refine cv_i (As := [.int 0, .int 5]) (rest := [.int 0]) (b := a0) (wr := []) ⟨hx, hb, hml, hown, hts⟩ (fun sz => k437_X9_of l D cs sz a0 a1 a2 a3 a4 a5 a6) (cwV 2 hts gX9_isLive_X9_of rfl rfl rfl hdX9_of_v ⟨Nat.le_of_ble_eq_true rfl, Nat.le_of_ble_eq_true rfl⟩) hN hP hD hS hA [0, 1] [] rfl rfl rfl rfl (by decide) (ci := 9) (q0 := 0) rfl rfl rfl rfl hl.1 (Nat.le_of_ble_eq_true rfl) dX9_isLive_46 (Nat.le_of_ble_eq_true rfl) (Nat.le_of_ble_eq_true rfl) (fun u2 H locs hP hD hS => ?_)
  have hP : va_P D vwCl [(a0, .inr (9, [.int 0, .ref a2, .int 0, .int 0, .int 0, .int 0, .int 0, .int (-1), .ref a1, .ref a3, .ref a4, .ref a5, .int 0, .int 0, .int 0, .int 0, .int 0, .ref a6])), (a1, .inl (cs 0, 45783, .inl (upd (upd (upd (upd (upd (upd (upd (upd (upd (upd (upd (upd (upd (upd (upd (upd (upd (upd (upd (upd (upd (layF (fun _ => 0) 1) 6 1) 15 1) 16 1) 17 50) 28 1) 29 0) 31 1) 30 1) 19 1) 20 1) 7 1) 28 2) 1 1) 21 1) 22 1) 27 1) 32 1) 34 1) 28 0) 29 (-1)) 9 1)))] H := hP
  have hD : va_D A [(a0, .inr (9, [.int 0, .ref a2, .int 0, .int 0, .int 0, .int 0, .int 0, .int (-1), .ref a1, .ref a3, .ref a4, .ref a5, .int 0, .int 0, .int 0, .int 0, .int 0, .ref a6])), (a1, .inl (cs 0, 45783, .inl (upd (upd (upd (upd (upd (upd (upd (upd (upd (upd (upd (upd (upd (upd (upd (upd (upd (upd (upd (upd (upd (layF (fun _ => 0) 1) 6 1) 15 1) 16 1) 17 50) 28 1) 29 0) 31 1) 30 1) 19 1) 20 1) 7 1) 28 2) 1 1) 21 1) 22 1) 27 1) 32 1) 34 1) 28 0) 29 (-1)) 9 1)))] := hD
  refine W.widen (k := 0) (n := 0) (Nat.le_of_ble_eq_true rfl) (Nat.le_of_ble_eq_true rfl) ?_
  refine lv_iconst (v := 2) hx hb dX9_isLive_49 (by decide) ?_
  refine lv_icmp_ne (tgt := 57) hx hb dX9_isLive_50 (by decide) (fun _ => ?_) (fun c9 => absurd c9 (by decide))
  refine lv_iconst (v := 0) hx hb dX9_isLive_57 (by decide) ?_
  refine lv_ior hx hb dX9_isLive_58 ?_
  refine tp_i (0) (by decide) ?_
  refine lv_istore_n (lv' := [(1, .int 0), (2, .int 0), (0, .ref a0)]) hx hb dX9_isLive_59 rfl hl (by decide) rfl (fun ls hl => ?_)
  refine lv_iinc (v := 1) (lv' := [(2, .int 1), (1, .int 0), (0, .ref a0)]) hx hb dX9_isLive_60 hl (k := 1) rfl (by decide) (by decide) rfl (fun ls hl => ?_)
  refine lv_goto (tgt := 24) hx hb dX9_isLive_63 (by decide) ?_
  refine lv_iload_n hx hb dX9_isLive_24 rfl (lv_at hl 0 rfl) ?_
  refine lv_aload_n hx hb dX9_isLive_25 rfl (lv_at hl 2 rfl) ?_
  refine va_get (D := D) (ci := 9) (v := .ref a1) (C := RX9) (T := TX9) (N := 18) hx hb hts iX9_isLive_9 hown hN.1 hP 0 rfl rfl 8 (by decide) (hts _ mX9_isLive_1) (fun _ h9 => h9) rfl dX9_isLive_26 ?_
  refine lv_iconst (v := 0) hx hb dX9_isLive_29 (by decide) ?_
  refine ld_i (v := 1) hx hb hN hP 1 rfl (vin (by decide +kernel)) (by first | rfl | decide +kernel) dX9_isLive_30 ?_
  refine lv_icmp_ge (tgt := 66) hx hb dX9_isLive_31 (by decide) (fun _ => ?_) (fun c9 => absurd (by decide) c9)
  refine lv_iload_n hx hb dX9_isLive_66 rfl (lv_at hl 1 rfl) ?_
  exact en_i (fun k => ([] : List Nat).getD k 0) hx hb hr hlocks rfl rfl hP hD hS (Nat.le_of_ble_eq_true rfl) (Nat.le_of_ble_eq_true rfl) dX9_isLive_67
theorem hdX9_tick_v : yX9_tick.cls = RX9 ∧ yX9_tick.cls ≠ "java/lang/invoke/MethodHandle" ∧ yX9_tick.cls ≠ "java/lang/invoke/VarHandle" ∧ (parseMethodDescriptor yX9_tick.desc).map (fun d => d.parameters.length) = some 0 := by decide +kernel
set_option maxHeartbeats 4000000 in
set_option maxRecDepth 100000 in
theorem k439_X9_goOn (l : Launch) (D : va_G) (cs : Nat → ClassId) (sz : Nat) (a0 a1 a2 a3 a4 a5 a6 : Nat) : KI l yX9_goOn wsX9_goOn 6 127 0 0 D cs sz [.ref a0] [(a0, .inr (9, [.int 0, .ref a2, .int 0, .int 0, .int 0, .int 0, .int 0, .int (-1), .ref a1, .ref a3, .ref a4, .ref a5, .int 0, .int 0, .int 0, .int 0, .int 0, .ref a6])), (a1, .inl (cs 0, 45783, .inl (upd (upd (upd (upd (upd (upd (upd (upd (upd (upd (upd (upd (layF (fun _ => 0) 1) 6 1) 15 1) 16 1) 17 50) 28 1) 29 0) 31 1) 30 1) 19 1) 20 1) 7 1) 28 2)))] (fun u => [(a0, .inr (9, [.int 0, .ref a2, .int 0, .int 0, .int 0, .int 0, .int 0, .int (-1), .ref a1, .ref a3, .ref a4, .ref a5, .int 0, .int 0, .int 0, .int 0, .int 0, .ref a6])), (a1, .inl (cs 0, 45783, .inl (upd (upd (upd (upd (upd (upd (upd (upd (upd (upd (upd (upd (upd (upd (upd (upd (upd (upd (upd (upd (upd (layF (fun _ => 0) 1) 6 1) 15 1) 16 1) 17 50) 28 1) 29 0) 31 1) 30 1) 19 1) 20 1) 7 1) 28 2) 1 1) 21 1) 22 1) 27 1) 32 1) 34 1) 28 0) 29 (-1)) 9 1)))]) (1) := by
  refine KI.of cX9_goOn 2 (some .int) (by decide) rfl (Nat.le_of_ble_eq_true rfl) ?_
  intro p e s m below meth c A ls hx hb hr hml hown hts hlocks hin hP hN hD hA hS hl
  have hown : s.vm.findClass RX9 = some m.cls := hown
  have hl : lv_has ls 2 [(0, .ref a0)] := hl
  refine lv_iconst (v := 0) hx hb dX9_goOn_0 (by decide) ?_
  refine lv_istore_n (lv' := [(1, .int 0), (0, .ref a0)]) hx hb dX9_goOn_1 rfl hl (by decide) rfl (fun ls hl => ?_)
  refine lv_iload_n hx hb dX9_goOn_2 rfl (lv_at hl 0 rfl) ?_
  refine lv_sipush (v := 400) hx hb dX9_goOn_3 (by decide) ?_
  refine lv_icmp_ge (tgt := 26) hx hb dX9_goOn_6 (by decide) (fun c9 => absurd c9 (by decide)) (fun _ => ?_)
  refine lv_aload_n hx hb dX9_goOn_9 rfl (lv_at hl 1 rfl) ?_
  refine cv_i (As := []) (rest := []) (b := a0) (wr := []) ⟨hx, hb, hml, hown, hts⟩ (fun sz => k409_X9_isLive l D cs sz a0 a1 a2 a3 a4 a5 a6) (cwV 0 hts gX9_goOn_X9_isLive rfl rfl rfl hdX9_isLive_v ⟨Nat.le_of_ble_eq_true rfl, Nat.le_of_ble_eq_true rfl⟩) hN hP hD hS hA [0, 1] [] rfl rfl rfl rfl (by decide) (ci := 9) (q0 := 0) rfl rfl rfl rfl hl.1 (Nat.le_of_ble_eq_true rfl) dX9_goOn_10 (Nat.le_of_ble_eq_true rfl) (Nat.le_of_ble_eq_true rfl) (fun u0 H locs hP hD hS => ?_)
  have hP : va_P D vwCl [(a0, .inr (9, [.int 0, .ref a2, .int 0, .int 0, .int 0, .int 0, .int 0, .int (-1), .ref a1, .ref a3, .ref a4, .ref a5, .int 0, .int 0, .int 0, .int 0, .int 0, .ref a6])), (a1, .inl (cs 0, 45783, .inl (upd (upd (upd (upd (upd (upd (upd (upd (upd (upd (upd (upd (layF (fun _ => 0) 1) 6 1) 15 1) 16 1) 17 50) 28 1) 29 0) 31 1) 30 1) 19 1) 20 1) 7 1) 28 2)))] H := hP
  have hD : va_D A [(a0, .inr (9, [.int 0, .ref a2, .int 0, .int 0, .int 0, .int 0, .int 0, .int (-1), .ref a1, .ref a3, .ref a4, .ref a5, .int 0, .int 0, .int 0, .int 0, .int 0, .ref a6])), (a1, .inl (cs 0, 45783, .inl (upd (upd (upd (upd (upd (upd (upd (upd (upd (upd (upd (upd (layF (fun _ => 0) 1) 6 1) 15 1) 16 1) 17 50) 28 1) 29 0) 31 1) 30 1) 19 1) 20 1) 7 1) 28 2)))] := hD
  refine W.widen (k := 0) (n := 0) (Nat.le_of_ble_eq_true rfl) (Nat.le_of_ble_eq_true rfl) ?_
  refine lv_if_eq (tgt := 26) hx hb dX9_goOn_13 (by decide) (fun c9 => absurd c9 (by decide)) (fun _ => ?_)
  refine lv_aload_n hx hb dX9_goOn_16 rfl (lv_at hl 1 rfl) ?_
  refine cv_v (As := []) (rest := []) (b := a0) (wr := []) ⟨hx, hb, hml, hown, hts⟩ (fun sz => k433_X9_tick l D cs sz a0 a1 a2 a3 a4 a5 a6) (cwV 0 hts gX9_goOn_X9_tick rfl rfl rfl hdX9_tick_v ⟨Nat.le_of_ble_eq_true rfl, Nat.le_of_ble_eq_true rfl⟩) hN hP hD hS hA [0, 1] [] rfl rfl rfl rfl (by decide) (ci := 9) (q0 := 0) rfl rfl rfl rfl hl.1 (Nat.le_of_ble_eq_true rfl) dX9_goOn_17 (Nat.le_of_ble_eq_true rfl) (Nat.le_of_ble_eq_true rfl) (fun u1 H locs hP hD hS => ?_)
  have hP : va_P D vwCl [(a0, .inr (9, [.int 0, .ref a2, .int 0, .int 0, .int 0, .int 0, .int 0, .int (-1), .ref a1, .ref a3, .ref a4, .ref a5, .int 0, .int 0, .int 0, .int 0, .int 0, .ref a6])), (a1, .inl (cs 0, 45783, .inl (upd (upd (upd (upd (upd (upd (upd (upd (upd (upd (upd (upd (upd (upd (upd (upd (upd (upd (upd (upd (upd (layF (fun _ => 0) 1) 6 1) 15 1) 16 1) 17 50) 28 1) 29 0) 31 1) 30 1) 19 1) 20 1) 7 1) 28 2) 1 1) 21 1) 22 1) 27 1) 32 1) 34 1) 28 0) 29 (-1)) 9 1)))] H := hP
  have hD : va_D A [(a0, .inr (9, [.int 0, .ref a2, .int 0, .int 0, .int 0, .int 0, .int 0, .int (-1), .ref a1, .ref a3, .ref a4, .ref a5, .int 0, .int 0, .int 0, .int 0, .int 0, .ref a6])), (a1, .inl (cs 0, 45783, .inl (upd (upd (upd (upd (upd (upd (upd (upd (upd (upd (upd (upd (upd (upd (upd (upd (upd (upd (upd (upd (upd (layF (fun _ => 0) 1) 6 1) 15 1) 16 1) 17 50) 28 1) 29 0) 31 1) 30 1) 19 1) 20 1) 7 1) 28 2) 1 1) 21 1) 22 1) 27 1) 32 1) 34 1) 28 0) 29 (-1)) 9 1)))] := hD
  refine W.widen (k := 0) (n := 0) (Nat.le_of_ble_eq_true rfl) (Nat.le_of_ble_eq_true rfl) ?_
  refine lv_iinc (v := 1) (lv' := [(1, .int 1), (0, .ref a0)]) hx hb dX9_goOn_20 hl (k := 0) rfl (by decide) (by decide) rfl (fun ls hl => ?_)
  refine lv_goto (tgt := 2) hx hb dX9_goOn_23 (by decide) ?_
  refine lv_iload_n hx hb dX9_goOn_2 rfl (lv_at hl 0 rfl) ?_
  refine lv_sipush (v := 400) hx hb dX9_goOn_3 (by decide) ?_
  refine lv_icmp_ge (tgt := 26) hx hb dX9_goOn_6 (by decide) (fun c9 => absurd c9 (by decide)) (fun _ => ?_)
  refine lv_aload_n hx hb dX9_goOn_9 rfl (lv_at hl 1 rfl) ?_
  refine cv_i (As := []) (rest := []) (b := a0) (wr := []) ⟨hx, hb, hml, hown, hts⟩ (fun sz => k438_X9_isLive l D cs sz a0 a1 a2 a3 a4 a5 a6) (cwV 0 hts gX9_goOn_X9_isLive rfl rfl rfl hdX9_isLive_v ⟨Nat.le_of_ble_eq_true rfl, Nat.le_of_ble_eq_true rfl⟩) hN hP hD hS hA [0, 1] [] rfl rfl rfl rfl (by decide) (ci := 9) (q0 := 0) rfl rfl rfl rfl hl.1 (Nat.le_of_ble_eq_true rfl) dX9_goOn_10 (Nat.le_of_ble_eq_true rfl) (Nat.le_of_ble_eq_true rfl) (fun u2 H locs hP hD hS => ?_)
  have hP : va_P D vwCl [(a0, .inr (9, [.int 0, .ref a2, .int 0, .int 0, .int 0, .int 0, .int 0, .int (-1), .ref a1, .ref a3, .ref a4, .ref a5, .int 0, .int 0, .int 0, .int 0, .int 0, .ref a6])), (a1, .inl (cs 0, 45783, .inl (upd (upd (upd (upd (upd (upd (upd (upd (upd (upd (upd (upd (upd (upd (upd (upd (upd (upd (upd (upd (upd (layF (fun _ => 0) 1) 6 1) 15 1) 16 1) 17 50) 28 1) 29 0) 31 1) 30 1) 19 1) 20 1) 7 1) 28 2) 1 1) 21 1) 22 1) 27 1) 32 1) 34 1) 28 0) 29 (-1)) 9 1)))] H := hP
  have hD : va_D A [(a0, .inr (9, [.int 0, .ref a2, .int 0, .int 0, .int 0, .int 0, .int 0, .int (-1), .ref a1, .ref a3, .ref a4, .ref a5, .int 0, .int 0, .int 0, .int 0, .int 0, .ref a6])), (a1, .inl (cs 0, 45783, .inl (upd (upd (upd (upd (upd (upd (upd (upd (upd (upd (upd (upd (upd (upd (upd (upd (upd (upd (upd (upd (upd (layF (fun _ => 0) 1) 6 1) 15 1) 16 1) 17 50) 28 1) 29 0) 31 1) 30 1) 19 1) 20 1) 7 1) 28 2) 1 1) 21 1) 22 1) 27 1) 32 1) 34 1) 28 0) 29 (-1)) 9 1)))] := hD
  refine W.widen (k := 0) (n := 0) (Nat.le_of_ble_eq_true rfl) (Nat.le_of_ble_eq_true rfl) ?_
  refine lv_if_eq (tgt := 26) hx hb dX9_goOn_13 (by decide) (fun _ => ?_) (fun c9 => absurd (by decide) c9)
  refine lv_iload_n hx hb dX9_goOn_26 rfl (lv_at hl 0 rfl) ?_
  exact en_i (fun k => ([] : List Nat).getD k 0) hx hb hr hlocks rfl rfl hP hD hS (Nat.le_of_ble_eq_true rfl) (Nat.le_of_ble_eq_true rfl) dX9_goOn_27
theorem hdX9_proposeNow_v : yX9_proposeNow.cls = RX9 ∧ yX9_proposeNow.cls ≠ "java/lang/invoke/MethodHandle" ∧ yX9_proposeNow.cls ≠ "java/lang/invoke/VarHandle" ∧ (parseMethodDescriptor yX9_proposeNow.desc).map (fun d => d.parameters.length) = some 2 := by decide +kernel
set_option maxHeartbeats 4000000 in
set_option maxRecDepth 100000 in
theorem k440_X9_isSafe (l : Launch) (D : va_G) (cs : Nat → ClassId) (sz : Nat) (a0 a1 a2 a3 a4 a5 a6 : Nat) : KI l yX9_isSafe wsX9_isSafe 7 148 0 0 D cs sz [.ref a0, .int 1] [(a0, .inr (9, [.int 0, .ref a2, .int 0, .int 0, .int 0, .int 0, .int 0, .int (-1), .ref a1, .ref a3, .ref a4, .ref a5, .int 0, .int 0, .int 0, .int 0, .int 0, .ref a6])), (a1, .inl (cs 0, 45783, .inl (layF (fun _ => 0) 1)))] (fun u => [(a0, .inr (9, [.int 0, .ref a2, .int 0, .int 0, .int 0, .int 0, .int 0, .int (-1), .ref a1, .ref a3, .ref a4, .ref a5, .int 0, .int 0, .int 0, .int 0, .int 0, .ref a6])), (a1, .inl (cs 0, 45783, .inl (upd (upd (upd (upd (upd (upd (upd (upd (upd (upd (upd (upd (upd (upd (upd (upd (upd (upd (upd (upd (upd (layF (fun _ => 0) 1) 6 1) 15 1) 16 1) 17 50) 28 1) 29 0) 31 1) 30 1) 19 1) 20 1) 7 1) 28 2) 1 1) 21 1) 22 1) 27 1) 32 1) 34 1) 28 0) 29 (-1)) 9 1)))]) (1) := by
  refine KI.of cX9_isSafe 3 (some .boolean) (by decide) rfl (Nat.le_of_ble_eq_true rfl) ?_
  intro p e s m below meth c A ls hx hb hr hml hown hts hlocks hin hP hN hD hA hS hl
  have hown : s.vm.findClass RX9 = some m.cls := hown
  have hl : lv_has ls 3 [(0, .ref a0), (1, .int 1)] := hl
  refine lv_aload_n hx hb dX9_isSafe_0 rfl (lv_at hl 0 rfl) ?_
  refine va_get (D := D) (ci := 9) (v := .ref a1) (C := RX9) (T := TX9) (N := 18) hx hb hts iX9_isSafe_9 hown hN.1 hP 0 rfl rfl 8 (by decide) (hts _ mX9_isSafe_1) (fun _ h9 => h9) rfl dX9_isSafe_1 ?_
  refine lv_bipush (v := 10) hx hb dX9_isSafe_4 (by decide) ?_
  refine ld_i (v := 0) hx hb hN hP 1 rfl (vin (by decide +kernel)) (by first | rfl | decide +kernel) dX9_isSafe_6 ?_
  refine lv_istore_n (lv' := [(2, .int 0), (0, .ref a0), (1, .int 1)]) hx hb dX9_isSafe_7 rfl hl (by decide) rfl (fun ls hl => ?_)
  refine lv_aload_n hx hb dX9_isSafe_8 rfl (lv_at hl 1 rfl) ?_
  refine lv_iconst (v := 1) hx hb dX9_isSafe_9 (by decide) ?_
  refine lv_iload_n hx hb dX9_isSafe_10 rfl (lv_at hl 2 rfl) ?_
  refine cv_i (As := [.int 1, .int 1]) (rest := []) (b := a0) (wr := []) ⟨hx, hb, hml, hown, hts⟩ (fun sz => k404_X9_proposeNow l D cs sz a0 a1 a2 a3 a4 a5 a6) (cwV 2 hts gX9_isSafe_X9_proposeNow rfl rfl rfl hdX9_proposeNow_v ⟨Nat.le_of_ble_eq_true rfl, Nat.le_of_ble_eq_true rfl⟩) hN hP hD hS hA [0, 1] [] rfl rfl rfl rfl (by decide) (ci := 9) (q0 := 0) rfl rfl rfl rfl hl.1 (Nat.le_of_ble_eq_true rfl) dX9_isSafe_11 (Nat.le_of_ble_eq_true rfl) (Nat.le_of_ble_eq_true rfl) (fun u0 H locs hP hD hS => ?_)
  have hP : va_P D vwCl [(a0, .inr (9, [.int 0, .ref a2, .int 0, .int 0, .int 0, .int 0, .int 0, .int (-1), .ref a1, .ref a3, .ref a4, .ref a5, .int 0, .int 0, .int 0, .int 0, .int 0, .ref a6])), (a1, .inl (cs 0, 45783, .inl (upd (upd (upd (upd (upd (upd (upd (upd (upd (upd (upd (upd (layF (fun _ => 0) 1) 6 1) 15 1) 16 1) 17 50) 28 1) 29 0) 31 1) 30 1) 19 1) 20 1) 7 1) 28 2)))] H := hP
  have hD : va_D A [(a0, .inr (9, [.int 0, .ref a2, .int 0, .int 0, .int 0, .int 0, .int 0, .int (-1), .ref a1, .ref a3, .ref a4, .ref a5, .int 0, .int 0, .int 0, .int 0, .int 0, .ref a6])), (a1, .inl (cs 0, 45783, .inl (upd (upd (upd (upd (upd (upd (upd (upd (upd (upd (upd (upd (layF (fun _ => 0) 1) 6 1) 15 1) 16 1) 17 50) 28 1) 29 0) 31 1) 30 1) 19 1) 20 1) 7 1) 28 2)))] := hD
  refine W.widen (k := 0) (n := 0) (Nat.le_of_ble_eq_true rfl) (Nat.le_of_ble_eq_true rfl) ?_
  refine lv_pop hx hb dX9_isSafe_14 rfl ?_
  refine lv_aload_n hx hb dX9_isSafe_15 rfl (lv_at hl 1 rfl) ?_
  refine cv_i (As := []) (rest := []) (b := a0) (wr := []) ⟨hx, hb, hml, hown, hts⟩ (fun sz => k439_X9_goOn l D cs sz a0 a1 a2 a3 a4 a5 a6) (cwV 0 hts gX9_isSafe_X9_goOn rfl rfl rfl hdX9_goOn_v ⟨Nat.le_of_ble_eq_true rfl, Nat.le_of_ble_eq_true rfl⟩) hN hP hD hS hA [0, 1] [] rfl rfl rfl rfl (by decide) (ci := 9) (q0 := 0) rfl rfl rfl rfl hl.1 (Nat.le_of_ble_eq_true rfl) dX9_isSafe_16 (Nat.le_of_ble_eq_true rfl) (Nat.le_of_ble_eq_true rfl) (fun u1 H locs hP hD hS => ?_)
  have hP : va_P D vwCl [(a0, .inr (9, [.int 0, .ref a2, .int 0, .int 0, .int 0, .int 0, .int 0, .int (-1), .ref a1, .ref a3, .ref a4, .ref a5, .int 0, .int 0, .int 0, .int 0, .int 0, .ref a6])), (a1, .inl (cs 0, 45783, .inl (upd (upd (upd (upd (upd (upd (upd (upd (upd (upd (upd (upd (upd (upd (upd (upd (upd (upd (upd (upd (upd (layF (fun _ => 0) 1) 6 1) 15 1) 16 1) 17 50) 28 1) 29 0) 31 1) 30 1) 19 1) 20 1) 7 1) 28 2) 1 1) 21 1) 22 1) 27 1) 32 1) 34 1) 28 0) 29 (-1)) 9 1)))] H := hP
  have hD : va_D A [(a0, .inr (9, [.int 0, .ref a2, .int 0, .int 0, .int 0, .int 0, .int 0, .int (-1), .ref a1, .ref a3, .ref a4, .ref a5, .int 0, .int 0, .int 0, .int 0, .int 0, .ref a6])), (a1, .inl (cs 0, 45783, .inl (upd (upd (upd (upd (upd (upd (upd (upd (upd (upd (upd (upd (upd (upd (upd (upd (upd (upd (upd (upd (upd (layF (fun _ => 0) 1) 6 1) 15 1) 16 1) 17 50) 28 1) 29 0) 31 1) 30 1) 19 1) 20 1) 7 1) 28 2) 1 1) 21 1) 22 1) 27 1) 32 1) 34 1) 28 0) 29 (-1)) 9 1)))] := hD
  refine W.widen (k := 0) (n := 0) (Nat.le_of_ble_eq_true rfl) (Nat.le_of_ble_eq_true rfl) ?_
  refine lv_pop hx hb dX9_isSafe_19 rfl ?_
  refine lv_aload_n hx hb dX9_isSafe_20 rfl (lv_at hl 1 rfl) ?_
  refine va_get (D := D) (ci := 9) (v := .ref a1) (C := RX9) (T := TX9) (N := 18) hx hb hts iX9_isSafe_9 hown hN.1 hP 0 rfl rfl 8 (by decide) (hts _ mX9_isSafe_1) (fun _ h9 => h9) rfl dX9_isSafe_21 ?_
  refine lv_bipush (v := 20) hx hb dX9_isSafe_24 (by decide) ?_
  refine ld_i (v := 1) hx hb hN hP 1 rfl (vin (by decide +kernel)) (by first | rfl | decide +kernel) dX9_isSafe_26 ?_
  refine lv_iconst (v := 1) hx hb dX9_isSafe_27 (by decide) ?_
  refine lv_icmp_ne (tgt := 46) hx hb dX9_isSafe_28 (by decide) (fun c9 => absurd (by decide) c9) (fun _ => ?_)
  refine lv_aload_n hx hb dX9_isSafe_31 rfl (lv_at hl 1 rfl) ?_
  refine va_get (D := D) (ci := 9) (v := .ref a1) (C := RX9) (T := TX9) (N := 18) hx hb hts iX9_isSafe_9 hown hN.1 hP 0 rfl rfl 8 (by decide) (hts _ mX9_isSafe_1) (fun _ h9 => h9) rfl dX9_isSafe_32 ?_
  refine lv_bipush (v := 10) hx hb dX9_isSafe_35 (by decide) ?_
  refine ld_i (v := 0) hx hb hN hP 1 rfl (vin (by decide +kernel)) (by first | rfl | decide +kernel) dX9_isSafe_37 ?_
  refine lv_iload_n hx hb dX9_isSafe_38 rfl (lv_at hl 0 rfl) ?_
  refine lv_icmp_ne (tgt := 46) hx hb dX9_isSafe_39 (by decide) (fun c9 => absurd (by decide) c9) (fun _ => ?_)
  refine lv_iconst (v := 1) hx hb dX9_isSafe_42 (by decide) ?_
  refine lv_goto (tgt := 47) hx hb dX9_isSafe_43 (by decide) ?_
  exact en_i (fun k => ([] : List Nat).getD k 0) hx hb hr hlocks rfl rfl hP hD hS (Nat.le_of_ble_eq_true rfl) (Nat.le_of_ble_eq_true rfl) dX9_isSafe_47
set_option maxHeartbeats 4000000 in
set_option maxRecDepth 100000 in
theorem k441_X9_copy (l : Launch) (D : va_G) (cs : Nat → ClassId) (sz : Nat) (a0 a1 : Nat) : KV l yX9_copy wsX9_copy 0 0 0 0 D cs sz [.ref a0, .ref a1] [(a0, .inl (cs 0, 45783, .inl (cpF 1383 (layF (fun _ => 0) 1) (fun _ => 0)))), (a1, .inl (cs 0, 45783, .inl (upd (upd (upd (upd (upd (upd (upd (upd (upd (upd (upd (upd (upd (upd (upd (upd (upd (upd (upd (upd (upd (layF (fun _ => 0) 1) 6 1) 15 1) 16 1) 17 50) 28 1) 29 0) 31 1) 30 1) 19 1) 20 1) 7 1) 28 2) 1 1) 21 1) 22 1) 27 1) 32 1) 34 1) 28 0) 29 (-1)) 9 1)))] (fun u => [(a0, .inl (cs 0, 45783, .inl (cpF 1383 (layF (fun _ => 0) 1) (fun _ => 0)))), (a1, .inl (cs 0, 45783, .inl (cpF 1383 (cpF 1383 (layF (fun _ => 0) 1) (fun _ => 0)) (upd (upd (upd (upd (upd (upd (upd (upd (upd (upd (upd (upd (upd (upd (upd (upd (upd (upd (upd (upd (upd (layF (fun _ => 0) 1) 6 1) 15 1) 16 1) 17 50) 28 1) 29 0) 31 1) 30 1) 19 1) 20 1) 7 1) 28 2) 1 1) 21 1) 22 1) 27 1) 32 1) 34 1) 28 0) 29 (-1)) 9 1))))]) := by
  refine KV.of cX9_copy 4 none (by decide) rfl (Nat.le_of_ble_eq_true rfl) ?_
  intro p e s m below meth c A ls hx hb hr hml hown hts hlocks hin hP hN hD hA hS hl
  have hown : s.vm.findClass RX9 = some m.cls := hown
  have hl : lv_has ls 4 [(0, .ref a0), (1, .ref a1)] := hl
  refine lv_sipush (v := 1383) hx hb dX9_copy_0 (by decide) ?_
  refine lv_bipush (v := 6) hx hb dX9_copy_3 (by decide) ?_
  refine lv_aload_n hx hb dX9_copy_5 rfl (lv_at hl 0 rfl) ?_
  refine lv_iconst (v := 3) hx hb dX9_copy_6 (by decide) ?_
  refine ld_i (v := 0) hx hb hN hP 0 rfl (vin (by decide +kernel)) (by first | rfl | decide +kernel) dX9_copy_7 ?_
  refine lv_imul hx hb dX9_copy_8 ?_
  refine tp_i (0) (by decide) ?_
  refine lv_iadd hx hb dX9_copy_9 ?_
  refine tp_i (1383) (by decide) ?_
  refine lv_istore_n (lv' := [(2, .int 1383), (0, .ref a0), (1, .ref a1)]) hx hb dX9_copy_10 rfl hl (by decide) rfl (fun ls hl => ?_)
  refine lv_iconst (v := 0) hx hb dX9_copy_11 (by decide) ?_
  refine lv_istore_n (lv' := [(3, .int 0), (2, .int 1383), (0, .ref a0), (1, .ref a1)]) hx hb dX9_copy_12 rfl hl (by decide) rfl (fun ls hl => ?_)
  refine c_loop (f := (cpF 1383 (layF (fun _ => 0) 1) (fun _ => 0))) (g := (upd (upd (upd (upd (upd (upd (upd (upd (upd (upd (upd (upd (upd (upd (upd (upd (upd (upd (upd (upd (upd (layF (fun _ => 0) 1) 6 1) 15 1) 16 1) 17 50) 28 1) 29 0) 31 1) 30 1) 19 1) 20 1) 7 1) 28 2) 1 1) 21 1) 22 1) 27 1) 32 1) 34 1) 28 0) 29 (-1)) 9 1)) (n1 := 45783) (n2 := 45783) hx hb hN (by decide) (by decide) (by decide) (by decide) (fun H locs ls hP hD hS hl => ?_) 1383 0 rfl _ _ _ (by rw [cpF_0]; exact hP) (by rw [cpF_0]; exact hD) hS hl
  have hP : va_P D vwCl [(a0, .inl (cs 0, 45783, .inl (cpF 1383 (layF (fun _ => 0) 1) (fun _ => 0)))), (a1, .inl (cs 0, 45783, .inl (cpF 1383 (cpF 1383 (layF (fun _ => 0) 1) (fun _ => 0)) (upd (upd (upd (upd (upd (upd (upd (upd (upd (upd (upd (upd (upd (upd (upd (upd (upd (upd (upd (upd (upd (layF (fun _ => 0) 1) 6 1) 15 1) 16 1) 17 50) 28 1) 29 0) 31 1) 30 1) 19 1) 20 1) 7 1) 28 2) 1 1) 21 1) 22 1) 27 1) 32 1) 34 1) 28 0) 29 (-1)) 9 1))))] H := hP
  have hD : va_D A [(a0, .inl (cs 0, 45783, .inl (cpF 1383 (layF (fun _ => 0) 1) (fun _ => 0)))), (a1, .inl (cs 0, 45783, .inl (cpF 1383 (cpF 1383 (layF (fun _ => 0) 1) (fun _ => 0)) (upd (upd (upd (upd (upd (upd (upd (upd (upd (upd (upd (upd (upd (upd (upd (upd (upd (upd (upd (upd (upd (layF (fun _ => 0) 1) 6 1) 15 1) 16 1) 17 50) 28 1) 29 0) 31 1) 30 1) 19 1) 20 1) 7 1) 28 2) 1 1) 21 1) 22 1) 27 1) 32 1) 34 1) 28 0) 29 (-1)) 9 1))))] := hD
  have hl : lv_has ls 4 [(3, .int 1383), (2, .int 1383), (0, .ref a0), (1, .ref a1)] := hl
  exact en_v (fun k => ([] : List Nat).getD k 0) hx hb hr hlocks hP hD hS (Nat.le_of_ble_eq_true rfl) (Nat.le_of_ble_eq_true rfl) dX9_copy_30
theorem hdX9_mayPropose_v : yX9_mayPropose.cls = RX9 ∧ yX9_mayPropose.cls ≠ "java/lang/invoke/MethodHandle" ∧ yX9_mayPropose.cls ≠ "java/lang/invoke/VarHandle" ∧ (parseMethodDescriptor yX9_mayPropose.desc).map (fun d => d.parameters.length) = some 0 := by decide +kernel
theorem hdX9_isSafe_v : yX9_isSafe.cls = RX9 ∧ yX9_isSafe.cls ≠ "java/lang/invoke/MethodHandle" ∧ yX9_isSafe.cls ≠ "java/lang/invoke/VarHandle" ∧ (parseMethodDescriptor yX9_isSafe.desc).map (fun d => d.parameters.length) = some 1 := by decide +kernel
