theorem mX9_init_1 : (.methodLink RX9 3 objectInit : Cond) ∈ wsX9_init := List.mem_of_getElem? (i := 1) (by decide +kernel)
theorem mX9_init_2 : (.instanceMethod objectInit : Cond) ∈ wsX9_init := List.mem_of_getElem? (i := 2) (by decide +kernel)
theorem mX9_init_3 : (.code objectInit ⟨#[0xb1]⟩ 1 none : Cond) ∈ wsX9_init := List.mem_of_getElem? (i := 3) (by decide +kernel)
theorem mX9_init_4 : (.arrayClass .int : Cond) ∈ wsX9_init := List.mem_of_getElem? (i := 4) (by decide +kernel)
theorem mX9_init_5 : (.fieldLink RX9 9 "OneBeatModel" "buffer" "[I" : Cond) ∈ wsX9_init := List.mem_of_getElem? (i := 5) (by decide +kernel)
theorem iX9_init_9 : ∀ w ∈ wsX90, w ∈ wsX9_init := fun w h => List.mem_of_mem_drop (List.mem_of_mem_take ((show wsX90 = (wsX9_init.drop 22).take 18 by decide +kernel) ▸ h))
theorem mX9_init_6 : (.fieldLink RX9 13 "OneBeatModel" "errorOffset" "I" : Cond) ∈ wsX9_init := List.mem_of_getElem? (i := 6) (by decide +kernel)
theorem mX9_init_7 : (.constant RX9 17 (45783) : Cond) ∈ wsX9_init := List.mem_of_getElem? (i := 7) (by decide +kernel)
theorem mX9_init_8 : (.fieldLink RX9 18 "OneBeatModel" "data" "[I" : Cond) ∈ wsX9_init := List.mem_of_getElem? (i := 8) (by decide +kernel)
theorem mX9_init_9 : (.fieldLink RX9 21 "OneBeatModel" "aside" "[I" : Cond) ∈ wsX9_init := List.mem_of_getElem? (i := 9) (by decide +kernel)
theorem mX9_init_10 : (.fieldLink RX9 24 "OneBeatModel" "draft" "[I" : Cond) ∈ wsX9_init := List.mem_of_getElem? (i := 10) (by decide +kernel)
theorem mX9_init_11 : (.classLink RX9 27 "[[I" : Cond) ∈ wsX9_init := List.mem_of_getElem? (i := 11) (by decide +kernel)
theorem mX9_init_12 : (.fieldLink RX9 29 "OneBeatModel" "history" "[[I" : Cond) ∈ wsX9_init := List.mem_of_getElem? (i := 12) (by decide +kernel)
theorem mX9_init_13 : (.arrayClass .long : Cond) ∈ wsX9_init := List.mem_of_getElem? (i := 13) (by decide +kernel)
theorem mX9_init_14 : (.fieldLink RX9 32 "OneBeatModel" "stack" "[J" : Cond) ∈ wsX9_init := List.mem_of_getElem? (i := 14) (by decide +kernel)
set_option maxHeartbeats 4000000 in
set_option maxRecDepth 100000 in
theorem k16_X9_playerAt (l : Launch) (D : va_G) (cs : Nat → ClassId) (sz : Nat) : KI l yX9_playerAt wsX9_playerAt 0 0 0 0 D cs sz [.int 0] [] (fun u => []) (23) := by
  refine KI.of cX9_playerAt 1 (some .int) (by decide) rfl (Nat.le_of_ble_eq_true rfl) ?_
  intro p e s m below meth c A ls hx hb hr hml hown hts hlocks hin hP hN hD hA hS hl
  have hown : s.vm.findClass RX9 = some m.cls := hown
  have hl : lv_has ls 1 [(0, .int 0)] := hl
  refine lv_bipush (v := 23) hx hb dX9_playerAt_0 (by decide) ?_
  refine lv_bipush (v := 12) hx hb dX9_playerAt_2 (by decide) ?_
  refine lv_iload_n hx hb dX9_playerAt_4 rfl (lv_at hl 0 rfl) ?_
  refine lv_imul hx hb dX9_playerAt_5 ?_
  refine tp_i (0) (by decide) ?_
  refine lv_iadd hx hb dX9_playerAt_6 ?_
  refine tp_i (23) (by decide) ?_
  exact q1_en_i (fun k => ([] : List Nat).getD k 0) hx hb hr hlocks rfl rfl hP hD hS (Nat.le_of_ble_eq_true rfl) (Nat.le_of_ble_eq_true rfl) dX9_playerAt_7
set_option maxHeartbeats 4000000 in
set_option maxRecDepth 100000 in
theorem k17_X9_playerAt (l : Launch) (D : va_G) (cs : Nat → ClassId) (sz : Nat) : KI l yX9_playerAt wsX9_playerAt 0 0 0 0 D cs sz [.int 1] [] (fun u => []) (35) := by
  refine KI.of cX9_playerAt 1 (some .int) (by decide) rfl (Nat.le_of_ble_eq_true rfl) ?_
  intro p e s m below meth c A ls hx hb hr hml hown hts hlocks hin hP hN hD hA hS hl
  have hown : s.vm.findClass RX9 = some m.cls := hown
  have hl : lv_has ls 1 [(0, .int 1)] := hl
  refine lv_bipush (v := 23) hx hb dX9_playerAt_0 (by decide) ?_
  refine lv_bipush (v := 12) hx hb dX9_playerAt_2 (by decide) ?_
  refine lv_iload_n hx hb dX9_playerAt_4 rfl (lv_at hl 0 rfl) ?_
  refine lv_imul hx hb dX9_playerAt_5 ?_
  refine tp_i (12) (by decide) ?_
  refine lv_iadd hx hb dX9_playerAt_6 ?_
  refine tp_i (35) (by decide) ?_
  exact q1_en_i (fun k => ([] : List Nat).getD k 0) hx hb hr hlocks rfl rfl hP hD hS (Nat.le_of_ble_eq_true rfl) (Nat.le_of_ble_eq_true rfl) dX9_playerAt_7
set_option maxHeartbeats 4000000 in
set_option maxRecDepth 100000 in
theorem k18_X9_playerAt (l : Launch) (D : va_G) (cs : Nat → ClassId) (sz : Nat) : KI l yX9_playerAt wsX9_playerAt 0 0 0 0 D cs sz [.int 2] [] (fun u => []) (47) := by
  refine KI.of cX9_playerAt 1 (some .int) (by decide) rfl (Nat.le_of_ble_eq_true rfl) ?_
  intro p e s m below meth c A ls hx hb hr hml hown hts hlocks hin hP hN hD hA hS hl
  have hown : s.vm.findClass RX9 = some m.cls := hown
  have hl : lv_has ls 1 [(0, .int 2)] := hl
  refine lv_bipush (v := 23) hx hb dX9_playerAt_0 (by decide) ?_
  refine lv_bipush (v := 12) hx hb dX9_playerAt_2 (by decide) ?_
  refine lv_iload_n hx hb dX9_playerAt_4 rfl (lv_at hl 0 rfl) ?_
  refine lv_imul hx hb dX9_playerAt_5 ?_
  refine tp_i (24) (by decide) ?_
  refine lv_iadd hx hb dX9_playerAt_6 ?_
  refine tp_i (47) (by decide) ?_
  exact q1_en_i (fun k => ([] : List Nat).getD k 0) hx hb hr hlocks rfl rfl hP hD hS (Nat.le_of_ble_eq_true rfl) (Nat.le_of_ble_eq_true rfl) dX9_playerAt_7
set_option maxHeartbeats 4000000 in
set_option maxRecDepth 100000 in
theorem k19_X9_playerAt (l : Launch) (D : va_G) (cs : Nat → ClassId) (sz : Nat) : KI l yX9_playerAt wsX9_playerAt 0 0 0 0 D cs sz [.int 3] [] (fun u => []) (59) := by
  refine KI.of cX9_playerAt 1 (some .int) (by decide) rfl (Nat.le_of_ble_eq_true rfl) ?_
  intro p e s m below meth c A ls hx hb hr hml hown hts hlocks hin hP hN hD hA hS hl
  have hown : s.vm.findClass RX9 = some m.cls := hown
  have hl : lv_has ls 1 [(0, .int 3)] := hl
  refine lv_bipush (v := 23) hx hb dX9_playerAt_0 (by decide) ?_
  refine lv_bipush (v := 12) hx hb dX9_playerAt_2 (by decide) ?_
  refine lv_iload_n hx hb dX9_playerAt_4 rfl (lv_at hl 0 rfl) ?_
  refine lv_imul hx hb dX9_playerAt_5 ?_
  refine tp_i (36) (by decide) ?_
  refine lv_iadd hx hb dX9_playerAt_6 ?_
  refine tp_i (59) (by decide) ?_
  exact q1_en_i (fun k => ([] : List Nat).getD k 0) hx hb hr hlocks rfl rfl hP hD hS (Nat.le_of_ble_eq_true rfl) (Nat.le_of_ble_eq_true rfl) dX9_playerAt_7
set_option maxHeartbeats 4000000 in
set_option maxRecDepth 100000 in
theorem k20_X9_playerAt (l : Launch) (D : va_G) (cs : Nat → ClassId) (sz : Nat) : KI l yX9_playerAt wsX9_playerAt 0 0 0 0 D cs sz [.int 4] [] (fun u => []) (71) := by
  refine KI.of cX9_playerAt 1 (some .int) (by decide) rfl (Nat.le_of_ble_eq_true rfl) ?_
  intro p e s m below meth c A ls hx hb hr hml hown hts hlocks hin hP hN hD hA hS hl
  have hown : s.vm.findClass RX9 = some m.cls := hown
  have hl : lv_has ls 1 [(0, .int 4)] := hl
  refine lv_bipush (v := 23) hx hb dX9_playerAt_0 (by decide) ?_
  refine lv_bipush (v := 12) hx hb dX9_playerAt_2 (by decide) ?_
  refine lv_iload_n hx hb dX9_playerAt_4 rfl (lv_at hl 0 rfl) ?_
  refine lv_imul hx hb dX9_playerAt_5 ?_
  refine tp_i (48) (by decide) ?_
  refine lv_iadd hx hb dX9_playerAt_6 ?_
  refine tp_i (71) (by decide) ?_
  exact q1_en_i (fun k => ([] : List Nat).getD k 0) hx hb hr hlocks rfl rfl hP hD hS (Nat.le_of_ble_eq_true rfl) (Nat.le_of_ble_eq_true rfl) dX9_playerAt_7
set_option maxHeartbeats 4000000 in
set_option maxRecDepth 100000 in
theorem k21_X9_playerAt (l : Launch) (D : va_G) (cs : Nat → ClassId) (sz : Nat) : KI l yX9_playerAt wsX9_playerAt 0 0 0 0 D cs sz [.int 5] [] (fun u => []) (83) := by
  refine KI.of cX9_playerAt 1 (some .int) (by decide) rfl (Nat.le_of_ble_eq_true rfl) ?_
  intro p e s m below meth c A ls hx hb hr hml hown hts hlocks hin hP hN hD hA hS hl
  have hown : s.vm.findClass RX9 = some m.cls := hown
  have hl : lv_has ls 1 [(0, .int 5)] := hl
  refine lv_bipush (v := 23) hx hb dX9_playerAt_0 (by decide) ?_
  refine lv_bipush (v := 12) hx hb dX9_playerAt_2 (by decide) ?_
  refine lv_iload_n hx hb dX9_playerAt_4 rfl (lv_at hl 0 rfl) ?_
  refine lv_imul hx hb dX9_playerAt_5 ?_
  refine tp_i (60) (by decide) ?_
  refine lv_iadd hx hb dX9_playerAt_6 ?_
  refine tp_i (83) (by decide) ?_
  exact q1_en_i (fun k => ([] : List Nat).getD k 0) hx hb hr hlocks rfl rfl hP hD hS (Nat.le_of_ble_eq_true rfl) (Nat.le_of_ble_eq_true rfl) dX9_playerAt_7
set_option maxHeartbeats 4000000 in
set_option maxRecDepth 100000 in
theorem k22_X9_playerAt (l : Launch) (D : va_G) (cs : Nat → ClassId) (sz : Nat) : KI l yX9_playerAt wsX9_playerAt 0 0 0 0 D cs sz [.int 6] [] (fun u => []) (95) := by
  refine KI.of cX9_playerAt 1 (some .int) (by decide) rfl (Nat.le_of_ble_eq_true rfl) ?_
  intro p e s m below meth c A ls hx hb hr hml hown hts hlocks hin hP hN hD hA hS hl
  have hown : s.vm.findClass RX9 = some m.cls := hown
  have hl : lv_has ls 1 [(0, .int 6)] := hl
  refine lv_bipush (v := 23) hx hb dX9_playerAt_0 (by decide) ?_
  refine lv_bipush (v := 12) hx hb dX9_playerAt_2 (by decide) ?_
  refine lv_iload_n hx hb dX9_playerAt_4 rfl (lv_at hl 0 rfl) ?_
  refine lv_imul hx hb dX9_playerAt_5 ?_
  refine tp_i (72) (by decide) ?_
  refine lv_iadd hx hb dX9_playerAt_6 ?_
  refine tp_i (95) (by decide) ?_
  exact q1_en_i (fun k => ([] : List Nat).getD k 0) hx hb hr hlocks rfl rfl hP hD hS (Nat.le_of_ble_eq_true rfl) (Nat.le_of_ble_eq_true rfl) dX9_playerAt_7
set_option maxHeartbeats 4000000 in
set_option maxRecDepth 100000 in
theorem k23_X9_playerAt (l : Launch) (D : va_G) (cs : Nat → ClassId) (sz : Nat) : KI l yX9_playerAt wsX9_playerAt 0 0 0 0 D cs sz [.int 7] [] (fun u => []) (107) := by
  refine KI.of cX9_playerAt 1 (some .int) (by decide) rfl (Nat.le_of_ble_eq_true rfl) ?_
  intro p e s m below meth c A ls hx hb hr hml hown hts hlocks hin hP hN hD hA hS hl
  have hown : s.vm.findClass RX9 = some m.cls := hown
  have hl : lv_has ls 1 [(0, .int 7)] := hl
  refine lv_bipush (v := 23) hx hb dX9_playerAt_0 (by decide) ?_
  refine lv_bipush (v := 12) hx hb dX9_playerAt_2 (by decide) ?_
  refine lv_iload_n hx hb dX9_playerAt_4 rfl (lv_at hl 0 rfl) ?_
  refine lv_imul hx hb dX9_playerAt_5 ?_
  refine tp_i (84) (by decide) ?_
  refine lv_iadd hx hb dX9_playerAt_6 ?_
  refine tp_i (107) (by decide) ?_
  exact q1_en_i (fun k => ([] : List Nat).getD k 0) hx hb hr hlocks rfl rfl hP hD hS (Nat.le_of_ble_eq_true rfl) (Nat.le_of_ble_eq_true rfl) dX9_playerAt_7
set_option maxHeartbeats 4000000 in
set_option maxRecDepth 100000 in
theorem k24_X9_layPlayers (l : Launch) (D : va_G) (cs : Nat → ClassId) (sz : Nat) (a0 : Nat) : KV l yX9_layPlayers wsX9_layPlayers 1 20 0 0 D cs sz [.ref a0, .int 1] [(a0, .inl (cs 0, 45783, .inl (fun _ => 0)))] (fun u => [(a0, .inl (cs 0, 45783, .inl (layF (fun _ => 0) 1)))]) := by
  refine KV.of cX9_layPlayers 3 none (by decide) rfl (Nat.le_of_ble_eq_true rfl) ?_
  intro p e s m below meth c A ls hx hb hr hml hown hts hlocks hin hP hN hD hA hS hl
  have hown : s.vm.findClass RX9 = some m.cls := hown
  have hl : lv_has ls 3 [(0, .ref a0), (1, .int 1)] := hl
  refine lv_iconst (v := 0) hx hb dX9_layPlayers_0 (by decide) ?_
  refine lv_istore_n (lv' := [(2, .int 0), (0, .ref a0), (1, .int 1)]) hx hb dX9_layPlayers_1 rfl hl (by decide) rfl (fun ls hl => ?_)
  refine z_loop (x := 1) (n := 45783) hx hb hN (by decide) (by decide) (fun H locs ls hP hD hS hl => ?_) 1383 0 rfl _ _ _ hP hD hS hl
  have hl : lv_has ls 3 [(2, .int 1383), (0, .ref a0), (1, .int 1)] := hl
  refine lv_aload_n hx hb dX9_layPlayers_19 rfl (lv_at hl 1 rfl) ?_
  refine lv_iconst (v := 0) hx hb dX9_layPlayers_20 (by decide) ?_
  refine lv_iload_n hx hb dX9_layPlayers_21 rfl (lv_at hl 2 rfl) ?_
  refine st_i (g := (upd (fun _ => 0) 0 1)) hx hb hN hP hD hS 0 rfl (vin (by decide +kernel)) rfl dX9_layPlayers_22 (fun H locs hP hD hS => ?_)
  have hP : va_P D vwCl [(a0, .inl (cs 0, 45783, .inl (upd (fun _ => 0) 0 1)))] H := hP
  have hD : va_D A [(a0, .inl (cs 0, 45783, .inl (upd (fun _ => 0) 0 1)))] := hD
  refine lv_aload_n hx hb dX9_layPlayers_23 rfl (lv_at hl 1 rfl) ?_
  refine lv_bipush (v := 11) hx hb dX9_layPlayers_24 (by decide) ?_
  refine lv_iload_n hx hb dX9_layPlayers_26 rfl (lv_at hl 2 rfl) ?_
  refine st_i (g := (upd (upd (fun _ => 0) 0 1) 11 1)) hx hb hN hP hD hS 0 rfl (vin (by decide +kernel)) rfl dX9_layPlayers_27 (fun H locs hP hD hS => ?_)
  have hP : va_P D vwCl [(a0, .inl (cs 0, 45783, .inl (upd (upd (fun _ => 0) 0 1) 11 1)))] H := hP
  have hD : va_D A [(a0, .inl (cs 0, 45783, .inl (upd (upd (fun _ => 0) 0 1) 11 1)))] := hD
  refine lv_aload_n hx hb dX9_layPlayers_28 rfl (lv_at hl 1 rfl) ?_
  refine lv_bipush (v := 12) hx hb dX9_layPlayers_29 (by decide) ?_
  refine lv_bipush (v := 50) hx hb dX9_layPlayers_31 (by decide) ?_
  refine st_i (g := (upd (upd (upd (fun _ => 0) 0 1) 11 1) 12 50)) hx hb hN hP hD hS 0 rfl (vin (by decide +kernel)) rfl dX9_layPlayers_33 (fun H locs hP hD hS => ?_)
  have hP : va_P D vwCl [(a0, .inl (cs 0, 45783, .inl (upd (upd (upd (fun _ => 0) 0 1) 11 1) 12 50)))] H := hP
  have hD : va_D A [(a0, .inl (cs 0, 45783, .inl (upd (upd (upd (fun _ => 0) 0 1) 11 1) 12 50)))] := hD
  refine lv_aload_n hx hb dX9_layPlayers_34 rfl (lv_at hl 1 rfl) ?_
  refine lv_bipush (v := 21) hx hb dX9_layPlayers_35 (by decide) ?_
  refine lv_iconst (v := (-1)) hx hb dX9_layPlayers_37 (by decide) ?_
  refine st_i (g := (upd (upd (upd (upd (fun _ => 0) 0 1) 11 1) 12 50) 21 (-1))) hx hb hN hP hD hS 0 rfl (vin (by decide +kernel)) rfl dX9_layPlayers_38 (fun H locs hP hD hS => ?_)
  have hP : va_P D vwCl [(a0, .inl (cs 0, 45783, .inl (upd (upd (upd (upd (fun _ => 0) 0 1) 11 1) 12 50) 21 (-1))))] H := hP
  have hD : va_D A [(a0, .inl (cs 0, 45783, .inl (upd (upd (upd (upd (fun _ => 0) 0 1) 11 1) 12 50) 21 (-1))))] := hD
  refine lv_aload_n hx hb dX9_layPlayers_39 rfl (lv_at hl 1 rfl) ?_
  refine lv_bipush (v := 22) hx hb dX9_layPlayers_40 (by decide) ?_
  refine lv_iconst (v := (-1)) hx hb dX9_layPlayers_42 (by decide) ?_
  refine st_i (g := (upd (upd (upd (upd (upd (fun _ => 0) 0 1) 11 1) 12 50) 21 (-1)) 22 (-1))) hx hb hN hP hD hS 0 rfl (vin (by decide +kernel)) rfl dX9_layPlayers_43 (fun H locs hP hD hS => ?_)
  have hP : va_P D vwCl [(a0, .inl (cs 0, 45783, .inl (upd (upd (upd (upd (upd (fun _ => 0) 0 1) 11 1) 12 50) 21 (-1)) 22 (-1))))] H := hP
  have hD : va_D A [(a0, .inl (cs 0, 45783, .inl (upd (upd (upd (upd (upd (fun _ => 0) 0 1) 11 1) 12 50) 21 (-1)) 22 (-1))))] := hD
  refine lv_iconst (v := 0) hx hb dX9_layPlayers_44 (by decide) ?_
  refine lv_istore_n (lv' := [(2, .int 0), (0, .ref a0), (1, .int 1)]) hx hb dX9_layPlayers_45 rfl hl (by decide) rfl (fun ls hl => ?_)
  refine lv_iload_n hx hb dX9_layPlayers_46 rfl (lv_at hl 0 rfl) ?_
  refine lv_bipush (v := 8) hx hb dX9_layPlayers_47 (by decide) ?_
  refine lv_icmp_ge (tgt := 87) hx hb dX9_layPlayers_49 (by decide) (fun c9 => absurd c9 (by decide)) (fun _ => ?_)
  refine lv_aload_n hx hb dX9_layPlayers_52 rfl (lv_at hl 1 rfl) ?_
  refine lv_iload_n hx hb dX9_layPlayers_53 rfl (lv_at hl 0 rfl) ?_
  refine q1_cs_i (As := [.int 0]) (rest := [.ref a0]) (wr := [(a0, .inl (cs 0, 45783, .inl (upd (upd (upd (upd (upd (fun _ => 0) 0 1) 11 1) 12 50) 21 (-1)) 22 (-1))))]) ⟨hx, hb, hml, hown, hts⟩ (fun sz => k16_X9_playerAt l D cs sz ) (va_cwS 1 hts gX9_layPlayers_X9_playerAt rfl rfl rfl hdX9_playerAt_o ⟨Nat.le_of_ble_eq_true rfl, Nat.le_of_ble_eq_true rfl⟩) hN hP hD hS hA [] [0] rfl rfl rfl rfl (by decide) rfl rfl hl.1 (Nat.le_of_ble_eq_true rfl) dX9_layPlayers_54 (Nat.le_of_ble_eq_true rfl) (Nat.le_of_ble_eq_true rfl) (fun u0 H locs hP hD hS => ?_)
  have hP : va_P D vwCl [(a0, .inl (cs 0, 45783, .inl (upd (upd (upd (upd (upd (fun _ => 0) 0 1) 11 1) 12 50) 21 (-1)) 22 (-1))))] H := hP
  have hD : va_D A [(a0, .inl (cs 0, 45783, .inl (upd (upd (upd (upd (upd (fun _ => 0) 0 1) 11 1) 12 50) 21 (-1)) 22 (-1))))] := hD
  refine W.widen (k := 0) (n := 0) (Nat.le_of_ble_eq_true rfl) (Nat.le_of_ble_eq_true rfl) ?_
  refine lv_iconst (v := 0) hx hb dX9_layPlayers_57 (by decide) ?_
  refine lv_iadd hx hb dX9_layPlayers_58 ?_
  refine tp_i (23) (by decide) ?_
  refine lv_iconst (v := 1) hx hb dX9_layPlayers_59 (by decide) ?_
  refine st_i (g := (upd (upd (upd (upd (upd (upd (fun _ => 0) 0 1) 11 1) 12 50) 21 (-1)) 22 (-1)) 23 1)) hx hb hN hP hD hS 0 rfl (vin (by decide +kernel)) rfl dX9_layPlayers_60 (fun H locs hP hD hS => ?_)
  have hP : va_P D vwCl [(a0, .inl (cs 0, 45783, .inl (upd (upd (upd (upd (upd (upd (fun _ => 0) 0 1) 11 1) 12 50) 21 (-1)) 22 (-1)) 23 1)))] H := hP
  have hD : va_D A [(a0, .inl (cs 0, 45783, .inl (upd (upd (upd (upd (upd (upd (fun _ => 0) 0 1) 11 1) 12 50) 21 (-1)) 22 (-1)) 23 1)))] := hD
  refine lv_aload_n hx hb dX9_layPlayers_61 rfl (lv_at hl 1 rfl) ?_
  refine lv_iload_n hx hb dX9_layPlayers_62 rfl (lv_at hl 0 rfl) ?_
  refine q1_cs_i (As := [.int 0]) (rest := [.ref a0]) (wr := [(a0, .inl (cs 0, 45783, .inl (upd (upd (upd (upd (upd (upd (fun _ => 0) 0 1) 11 1) 12 50) 21 (-1)) 22 (-1)) 23 1)))]) ⟨hx, hb, hml, hown, hts⟩ (fun sz => k16_X9_playerAt l D cs sz ) (va_cwS 1 hts gX9_layPlayers_X9_playerAt rfl rfl rfl hdX9_playerAt_o ⟨Nat.le_of_ble_eq_true rfl, Nat.le_of_ble_eq_true rfl⟩) hN hP hD hS hA [] [0] rfl rfl rfl rfl (by decide) rfl rfl hl.1 (Nat.le_of_ble_eq_true rfl) dX9_layPlayers_63 (Nat.le_of_ble_eq_true rfl) (Nat.le_of_ble_eq_true rfl) (fun u1 H locs hP hD hS => ?_)
  have hP : va_P D vwCl [(a0, .inl (cs 0, 45783, .inl (upd (upd (upd (upd (upd (upd (fun _ => 0) 0 1) 11 1) 12 50) 21 (-1)) 22 (-1)) 23 1)))] H := hP
  have hD : va_D A [(a0, .inl (cs 0, 45783, .inl (upd (upd (upd (upd (upd (upd (fun _ => 0) 0 1) 11 1) 12 50) 21 (-1)) 22 (-1)) 23 1)))] := hD
  refine W.widen (k := 0) (n := 0) (Nat.le_of_ble_eq_true rfl) (Nat.le_of_ble_eq_true rfl) ?_
  refine lv_bipush (v := 6) hx hb dX9_layPlayers_66 (by decide) ?_
  refine lv_iadd hx hb dX9_layPlayers_68 ?_
  refine tp_i (29) (by decide) ?_
  refine lv_iconst (v := (-1)) hx hb dX9_layPlayers_69 (by decide) ?_
  refine st_i (g := (upd (upd (upd (upd (upd (upd (upd (fun _ => 0) 0 1) 11 1) 12 50) 21 (-1)) 22 (-1)) 23 1) 29 (-1))) hx hb hN hP hD hS 0 rfl (vin (by decide +kernel)) rfl dX9_layPlayers_70 (fun H locs hP hD hS => ?_)
  have hP : va_P D vwCl [(a0, .inl (cs 0, 45783, .inl (upd (upd (upd (upd (upd (upd (upd (fun _ => 0) 0 1) 11 1) 12 50) 21 (-1)) 22 (-1)) 23 1) 29 (-1))))] H := hP
  have hD : va_D A [(a0, .inl (cs 0, 45783, .inl (upd (upd (upd (upd (upd (upd (upd (fun _ => 0) 0 1) 11 1) 12 50) 21 (-1)) 22 (-1)) 23 1) 29 (-1))))] := hD
  refine lv_aload_n hx hb dX9_layPlayers_71 rfl (lv_at hl 1 rfl) ?_
  refine lv_iload_n hx hb dX9_layPlayers_72 rfl (lv_at hl 0 rfl) ?_
  refine q1_cs_i (As := [.int 0]) (rest := [.ref a0]) (wr := [(a0, .inl (cs 0, 45783, .inl (upd (upd (upd (upd (upd (upd (upd (fun _ => 0) 0 1) 11 1) 12 50) 21 (-1)) 22 (-1)) 23 1) 29 (-1))))]) ⟨hx, hb, hml, hown, hts⟩ (fun sz => k16_X9_playerAt l D cs sz ) (va_cwS 1 hts gX9_layPlayers_X9_playerAt rfl rfl rfl hdX9_playerAt_o ⟨Nat.le_of_ble_eq_true rfl, Nat.le_of_ble_eq_true rfl⟩) hN hP hD hS hA [] [0] rfl rfl rfl rfl (by decide) rfl rfl hl.1 (Nat.le_of_ble_eq_true rfl) dX9_layPlayers_73 (Nat.le_of_ble_eq_true rfl) (Nat.le_of_ble_eq_true rfl) (fun u2 H locs hP hD hS => ?_)
  have hP : va_P D vwCl [(a0, .inl (cs 0, 45783, .inl (upd (upd (upd (upd (upd (upd (upd (fun _ => 0) 0 1) 11 1) 12 50) 21 (-1)) 22 (-1)) 23 1) 29 (-1))))] H := hP
  have hD : va_D A [(a0, .inl (cs 0, 45783, .inl (upd (upd (upd (upd (upd (upd (upd (fun _ => 0) 0 1) 11 1) 12 50) 21 (-1)) 22 (-1)) 23 1) 29 (-1))))] := hD
  refine W.widen (k := 0) (n := 0) (Nat.le_of_ble_eq_true rfl) (Nat.le_of_ble_eq_true rfl) ?_
  refine lv_bipush (v := 11) hx hb dX9_layPlayers_76 (by decide) ?_
  refine lv_iadd hx hb dX9_layPlayers_78 ?_
  refine tp_i (34) (by decide) ?_
  refine lv_iconst (v := (-1)) hx hb dX9_layPlayers_79 (by decide) ?_
  refine st_i (g := (upd (upd (upd (upd (upd (upd (upd (upd (fun _ => 0) 0 1) 11 1) 12 50) 21 (-1)) 22 (-1)) 23 1) 29 (-1)) 34 (-1))) hx hb hN hP hD hS 0 rfl (vin (by decide +kernel)) rfl dX9_layPlayers_80 (fun H locs hP hD hS => ?_)
  have hP : va_P D vwCl [(a0, .inl (cs 0, 45783, .inl (upd (upd (upd (upd (upd (upd (upd (upd (fun _ => 0) 0 1) 11 1) 12 50) 21 (-1)) 22 (-1)) 23 1) 29 (-1)) 34 (-1))))] H := hP
  have hD : va_D A [(a0, .inl (cs 0, 45783, .inl (upd (upd (upd (upd (upd (upd (upd (upd (fun _ => 0) 0 1) 11 1) 12 50) 21 (-1)) 22 (-1)) 23 1) 29 (-1)) 34 (-1))))] := hD
  refine lv_iinc (v := 1) (lv' := [(2, .int 1), (0, .ref a0), (1, .int 1)]) hx hb dX9_layPlayers_81 hl (k := 0) rfl (by decide) (by decide) rfl (fun ls hl => ?_)
  refine lv_goto (tgt := 46) hx hb dX9_layPlayers_84 (by decide) ?_
  refine lv_iload_n hx hb dX9_layPlayers_46 rfl (lv_at hl 0 rfl) ?_
  refine lv_bipush (v := 8) hx hb dX9_layPlayers_47 (by decide) ?_
  refine lv_icmp_ge (tgt := 87) hx hb dX9_layPlayers_49 (by decide) (fun c9 => absurd c9 (by decide)) (fun _ => ?_)
  refine lv_aload_n hx hb dX9_layPlayers_52 rfl (lv_at hl 1 rfl) ?_
  refine lv_iload_n hx hb dX9_layPlayers_53 rfl (lv_at hl 0 rfl) ?_
  refine q1_cs_i (As := [.int 1]) (rest := [.ref a0]) (wr := [(a0, .inl (cs 0, 45783, .inl (upd (upd (upd (upd (upd (upd (upd (upd (fun _ => 0) 0 1) 11 1) 12 50) 21 (-1)) 22 (-1)) 23 1) 29 (-1)) 34 (-1))))]) ⟨hx, hb, hml, hown, hts⟩ (fun sz => k17_X9_playerAt l D cs sz ) (va_cwS 1 hts gX9_layPlayers_X9_playerAt rfl rfl rfl hdX9_playerAt_o ⟨Nat.le_of_ble_eq_true rfl, Nat.le_of_ble_eq_true rfl⟩) hN hP hD hS hA [] [0] rfl rfl rfl rfl (by decide) rfl rfl hl.1 (Nat.le_of_ble_eq_true rfl) dX9_layPlayers_54 (Nat.le_of_ble_eq_true rfl) (Nat.le_of_ble_eq_true rfl) (fun u3 H locs hP hD hS => ?_)
  have hP : va_P D vwCl [(a0, .inl (cs 0, 45783, .inl (upd (upd (upd (upd (upd (upd (upd (upd (fun _ => 0) 0 1) 11 1) 12 50) 21 (-1)) 22 (-1)) 23 1) 29 (-1)) 34 (-1))))] H := hP
  have hD : va_D A [(a0, .inl (cs 0, 45783, .inl (upd (upd (upd (upd (upd (upd (upd (upd (fun _ => 0) 0 1) 11 1) 12 50) 21 (-1)) 22 (-1)) 23 1) 29 (-1)) 34 (-1))))] := hD
  refine W.widen (k := 0) (n := 0) (Nat.le_of_ble_eq_true rfl) (Nat.le_of_ble_eq_true rfl) ?_
  refine lv_iconst (v := 0) hx hb dX9_layPlayers_57 (by decide) ?_
  refine lv_iadd hx hb dX9_layPlayers_58 ?_
  refine tp_i (35) (by decide) ?_
  refine lv_iconst (v := 1) hx hb dX9_layPlayers_59 (by decide) ?_
  refine st_i (g := (upd (upd (upd (upd (upd (upd (upd (upd (upd (fun _ => 0) 0 1) 11 1) 12 50) 21 (-1)) 22 (-1)) 23 1) 29 (-1)) 34 (-1)) 35 1)) hx hb hN hP hD hS 0 rfl (vin (by decide +kernel)) rfl dX9_layPlayers_60 (fun H locs hP hD hS => ?_)
  have hP : va_P D vwCl [(a0, .inl (cs 0, 45783, .inl (upd (upd (upd (upd (upd (upd (upd (upd (upd (fun _ => 0) 0 1) 11 1) 12 50) 21 (-1)) 22 (-1)) 23 1) 29 (-1)) 34 (-1)) 35 1)))] H := hP
  have hD : va_D A [(a0, .inl (cs 0, 45783, .inl (upd (upd (upd (upd (upd (upd (upd (upd (upd (fun _ => 0) 0 1) 11 1) 12 50) 21 (-1)) 22 (-1)) 23 1) 29 (-1)) 34 (-1)) 35 1)))] := hD
  refine lv_aload_n hx hb dX9_layPlayers_61 rfl (lv_at hl 1 rfl) ?_
  refine lv_iload_n hx hb dX9_layPlayers_62 rfl (lv_at hl 0 rfl) ?_
  refine q1_cs_i (As := [.int 1]) (rest := [.ref a0]) (wr := [(a0, .inl (cs 0, 45783, .inl (upd (upd (upd (upd (upd (upd (upd (upd (upd (fun _ => 0) 0 1) 11 1) 12 50) 21 (-1)) 22 (-1)) 23 1) 29 (-1)) 34 (-1)) 35 1)))]) ⟨hx, hb, hml, hown, hts⟩ (fun sz => k17_X9_playerAt l D cs sz ) (va_cwS 1 hts gX9_layPlayers_X9_playerAt rfl rfl rfl hdX9_playerAt_o ⟨Nat.le_of_ble_eq_true rfl, Nat.le_of_ble_eq_true rfl⟩) hN hP hD hS hA [] [0] rfl rfl rfl rfl (by decide) rfl rfl hl.1 (Nat.le_of_ble_eq_true rfl) dX9_layPlayers_63 (Nat.le_of_ble_eq_true rfl) (Nat.le_of_ble_eq_true rfl) (fun u4 H locs hP hD hS => ?_)
  have hP : va_P D vwCl [(a0, .inl (cs 0, 45783, .inl (upd (upd (upd (upd (upd (upd (upd (upd (upd (fun _ => 0) 0 1) 11 1) 12 50) 21 (-1)) 22 (-1)) 23 1) 29 (-1)) 34 (-1)) 35 1)))] H := hP
  have hD : va_D A [(a0, .inl (cs 0, 45783, .inl (upd (upd (upd (upd (upd (upd (upd (upd (upd (fun _ => 0) 0 1) 11 1) 12 50) 21 (-1)) 22 (-1)) 23 1) 29 (-1)) 34 (-1)) 35 1)))] := hD
  refine W.widen (k := 0) (n := 0) (Nat.le_of_ble_eq_true rfl) (Nat.le_of_ble_eq_true rfl) ?_
  refine lv_bipush (v := 6) hx hb dX9_layPlayers_66 (by decide) ?_
  refine lv_iadd hx hb dX9_layPlayers_68 ?_
  refine tp_i (41) (by decide) ?_
  refine lv_iconst (v := (-1)) hx hb dX9_layPlayers_69 (by decide) ?_
  refine st_i (g := (upd (upd (upd (upd (upd (upd (upd (upd (upd (upd (fun _ => 0) 0 1) 11 1) 12 50) 21 (-1)) 22 (-1)) 23 1) 29 (-1)) 34 (-1)) 35 1) 41 (-1))) hx hb hN hP hD hS 0 rfl (vin (by decide +kernel)) rfl dX9_layPlayers_70 (fun H locs hP hD hS => ?_)
  have hP : va_P D vwCl [(a0, .inl (cs 0, 45783, .inl (upd (upd (upd (upd (upd (upd (upd (upd (upd (upd (fun _ => 0) 0 1) 11 1) 12 50) 21 (-1)) 22 (-1)) 23 1) 29 (-1)) 34 (-1)) 35 1) 41 (-1))))] H := hP
  have hD : va_D A [(a0, .inl (cs 0, 45783, .inl (upd (upd (upd (upd (upd (upd (upd (upd (upd (upd (fun _ => 0) 0 1) 11 1) 12 50) 21 (-1)) 22 (-1)) 23 1) 29 (-1)) 34 (-1)) 35 1) 41 (-1))))] := hD
  refine lv_aload_n hx hb dX9_layPlayers_71 rfl (lv_at hl 1 rfl) ?_
  refine lv_iload_n hx hb dX9_layPlayers_72 rfl (lv_at hl 0 rfl) ?_
  refine q1_cs_i (As := [.int 1]) (rest := [.ref a0]) (wr := [(a0, .inl (cs 0, 45783, .inl (upd (upd (upd (upd (upd (upd (upd (upd (upd (upd (fun _ => 0) 0 1) 11 1) 12 50) 21 (-1)) 22 (-1)) 23 1) 29 (-1)) 34 (-1)) 35 1) 41 (-1))))]) ⟨hx, hb, hml, hown, hts⟩ (fun sz => k17_X9_playerAt l D cs sz ) (va_cwS 1 hts gX9_layPlayers_X9_playerAt rfl rfl rfl hdX9_playerAt_o ⟨Nat.le_of_ble_eq_true rfl, Nat.le_of_ble_eq_true rfl⟩) hN hP hD hS hA [] [0] rfl rfl rfl rfl (by decide) rfl rfl hl.1 (Nat.le_of_ble_eq_true rfl) dX9_layPlayers_73 (Nat.le_of_ble_eq_true rfl) (Nat.le_of_ble_eq_true rfl) (fun u5 H locs hP hD hS => ?_)
  have hP : va_P D vwCl [(a0, .inl (cs 0, 45783, .inl (upd (upd (upd (upd (upd (upd (upd (upd (upd (upd (fun _ => 0) 0 1) 11 1) 12 50) 21 (-1)) 22 (-1)) 23 1) 29 (-1)) 34 (-1)) 35 1) 41 (-1))))] H := hP
  have hD : va_D A [(a0, .inl (cs 0, 45783, .inl (upd (upd (upd (upd (upd (upd (upd (upd (upd (upd (fun _ => 0) 0 1) 11 1) 12 50) 21 (-1)) 22 (-1)) 23 1) 29 (-1)) 34 (-1)) 35 1) 41 (-1))))] := hD
  refine W.widen (k := 0) (n := 0) (Nat.le_of_ble_eq_true rfl) (Nat.le_of_ble_eq_true rfl) ?_
  refine lv_bipush (v := 11) hx hb dX9_layPlayers_76 (by decide) ?_
  refine lv_iadd hx hb dX9_layPlayers_78 ?_
  refine tp_i (46) (by decide) ?_
  refine lv_iconst (v := (-1)) hx hb dX9_layPlayers_79 (by decide) ?_
  refine st_i (g := (upd (upd (upd (upd (upd (upd (upd (upd (upd (upd (upd (fun _ => 0) 0 1) 11 1) 12 50) 21 (-1)) 22 (-1)) 23 1) 29 (-1)) 34 (-1)) 35 1) 41 (-1)) 46 (-1))) hx hb hN hP hD hS 0 rfl (vin (by decide +kernel)) rfl dX9_layPlayers_80 (fun H locs hP hD hS => ?_)
  have hP : va_P D vwCl [(a0, .inl (cs 0, 45783, .inl (upd (upd (upd (upd (upd (upd (upd (upd (upd (upd (upd (fun _ => 0) 0 1) 11 1) 12 50) 21 (-1)) 22 (-1)) 23 1) 29 (-1)) 34 (-1)) 35 1) 41 (-1)) 46 (-1))))] H := hP
  have hD : va_D A [(a0, .inl (cs 0, 45783, .inl (upd (upd (upd (upd (upd (upd (upd (upd (upd (upd (upd (fun _ => 0) 0 1) 11 1) 12 50) 21 (-1)) 22 (-1)) 23 1) 29 (-1)) 34 (-1)) 35 1) 41 (-1)) 46 (-1))))] := hD
  refine lv_iinc (v := 2) (lv' := [(2, .int 2), (0, .ref a0), (1, .int 1)]) hx hb dX9_layPlayers_81 hl (k := 0) rfl (by decide) (by decide) rfl (fun ls hl => ?_)
  refine lv_goto (tgt := 46) hx hb dX9_layPlayers_84 (by decide) ?_
  refine lv_iload_n hx hb dX9_layPlayers_46 rfl (lv_at hl 0 rfl) ?_
  refine lv_bipush (v := 8) hx hb dX9_layPlayers_47 (by decide) ?_
  refine lv_icmp_ge (tgt := 87) hx hb dX9_layPlayers_49 (by decide) (fun c9 => absurd c9 (by decide)) (fun _ => ?_)
  refine lv_aload_n hx hb dX9_layPlayers_52 rfl (lv_at hl 1 rfl) ?_
  refine lv_iload_n hx hb dX9_layPlayers_53 rfl (lv_at hl 0 rfl) ?_
  refine q1_cs_i (As := [.int 2]) (rest := [.ref a0]) (wr := [(a0, .inl (cs 0, 45783, .inl (upd (upd (upd (upd (upd (upd (upd (upd (upd (upd (upd (fun _ => 0) 0 1) 11 1) 12 50) 21 (-1)) 22 (-1)) 23 1) 29 (-1)) 34 (-1)) 35 1) 41 (-1)) 46 (-1))))]) ⟨hx, hb, hml, hown, hts⟩ (fun sz => k18_X9_playerAt l D cs sz ) (va_cwS 1 hts gX9_layPlayers_X9_playerAt rfl rfl rfl hdX9_playerAt_o ⟨Nat.le_of_ble_eq_true rfl, Nat.le_of_ble_eq_true rfl⟩) hN hP hD hS hA [] [0] rfl rfl rfl rfl (by decide) rfl rfl hl.1 (Nat.le_of_ble_eq_true rfl) dX9_layPlayers_54 (Nat.le_of_ble_eq_true rfl) (Nat.le_of_ble_eq_true rfl) (fun u6 H locs hP hD hS => ?_)
  have hP : va_P D vwCl [(a0, .inl (cs 0, 45783, .inl (upd (upd (upd (upd (upd (upd (upd (upd (upd (upd (upd (fun _ => 0) 0 1) 11 1) 12 50) 21 (-1)) 22 (-1)) 23 1) 29 (-1)) 34 (-1)) 35 1) 41 (-1)) 46 (-1))))] H := hP
  have hD : va_D A [(a0, .inl (cs 0, 45783, .inl (upd (upd (upd (upd (upd (upd (upd (upd (upd (upd (upd (fun _ => 0) 0 1) 11 1) 12 50) 21 (-1)) 22 (-1)) 23 1) 29 (-1)) 34 (-1)) 35 1) 41 (-1)) 46 (-1))))] := hD
  refine W.widen (k := 0) (n := 0) (Nat.le_of_ble_eq_true rfl) (Nat.le_of_ble_eq_true rfl) ?_
  refine lv_iconst (v := 0) hx hb dX9_layPlayers_57 (by decide) ?_
  refine lv_iadd hx hb dX9_layPlayers_58 ?_
  refine tp_i (47) (by decide) ?_
  refine lv_iconst (v := 1) hx hb dX9_layPlayers_59 (by decide) ?_
  refine st_i (g := (upd (upd (upd (upd (upd (upd (upd (upd (upd (upd (upd (upd (fun _ => 0) 0 1) 11 1) 12 50) 21 (-1)) 22 (-1)) 23 1) 29 (-1)) 34 (-1)) 35 1) 41 (-1)) 46 (-1)) 47 1)) hx hb hN hP hD hS 0 rfl (vin (by decide +kernel)) rfl dX9_layPlayers_60 (fun H locs hP hD hS => ?_)
  have hP : va_P D vwCl [(a0, .inl (cs 0, 45783, .inl (upd (upd (upd (upd (upd (upd (upd (upd (upd (upd (upd (upd (fun _ => 0) 0 1) 11 1) 12 50) 21 (-1)) 22 (-1)) 23 1) 29 (-1)) 34 (-1)) 35 1) 41 (-1)) 46 (-1)) 47 1)))] H := hP
  have hD : va_D A [(a0, .inl (cs 0, 45783, .inl (upd (upd (upd (upd (upd (upd (upd (upd (upd (upd (upd (upd (fun _ => 0) 0 1) 11 1) 12 50) 21 (-1)) 22 (-1)) 23 1) 29 (-1)) 34 (-1)) 35 1) 41 (-1)) 46 (-1)) 47 1)))] := hD
  refine lv_aload_n hx hb dX9_layPlayers_61 rfl (lv_at hl 1 rfl) ?_
  refine lv_iload_n hx hb dX9_layPlayers_62 rfl (lv_at hl 0 rfl) ?_
  refine q1_cs_i (As := [.int 2]) (rest := [.ref a0]) (wr := [(a0, .inl (cs 0, 45783, .inl (upd (upd (upd (upd (upd (upd (upd (upd (upd (upd (upd (upd (fun _ => 0) 0 1) 11 1) 12 50) 21 (-1)) 22 (-1)) 23 1) 29 (-1)) 34 (-1)) 35 1) 41 (-1)) 46 (-1)) 47 1)))]) ⟨hx, hb, hml, hown, hts⟩ (fun sz => k18_X9_playerAt l D cs sz ) (va_cwS 1 hts gX9_layPlayers_X9_playerAt rfl rfl rfl hdX9_playerAt_o ⟨Nat.le_of_ble_eq_true rfl, Nat.le_of_ble_eq_true rfl⟩) hN hP hD hS hA [] [0] rfl rfl rfl rfl (by decide) rfl rfl hl.1 (Nat.le_of_ble_eq_true rfl) dX9_layPlayers_63 (Nat.le_of_ble_eq_true rfl) (Nat.le_of_ble_eq_true rfl) (fun u7 H locs hP hD hS => ?_)
  have hP : va_P D vwCl [(a0, .inl (cs 0, 45783, .inl (upd (upd (upd (upd (upd (upd (upd (upd (upd (upd (upd (upd (fun _ => 0) 0 1) 11 1) 12 50) 21 (-1)) 22 (-1)) 23 1) 29 (-1)) 34 (-1)) 35 1) 41 (-1)) 46 (-1)) 47 1)))] H := hP
  have hD : va_D A [(a0, .inl (cs 0, 45783, .inl (upd (upd (upd (upd (upd (upd (upd (upd (upd (upd (upd (upd (fun _ => 0) 0 1) 11 1) 12 50) 21 (-1)) 22 (-1)) 23 1) 29 (-1)) 34 (-1)) 35 1) 41 (-1)) 46 (-1)) 47 1)))] := hD
  refine W.widen (k := 0) (n := 0) (Nat.le_of_ble_eq_true rfl) (Nat.le_of_ble_eq_true rfl) ?_
  refine lv_bipush (v := 6) hx hb dX9_layPlayers_66 (by decide) ?_
  refine lv_iadd hx hb dX9_layPlayers_68 ?_
  refine tp_i (53) (by decide) ?_
  refine lv_iconst (v := (-1)) hx hb dX9_layPlayers_69 (by decide) ?_
  refine st_i (g := (upd (upd (upd (upd (upd (upd (upd (upd (upd (upd (upd (upd (upd (fun _ => 0) 0 1) 11 1) 12 50) 21 (-1)) 22 (-1)) 23 1) 29 (-1)) 34 (-1)) 35 1) 41 (-1)) 46 (-1)) 47 1) 53 (-1))) hx hb hN hP hD hS 0 rfl (vin (by decide +kernel)) rfl dX9_layPlayers_70 (fun H locs hP hD hS => ?_)
  have hP : va_P D vwCl [(a0, .inl (cs 0, 45783, .inl (upd (upd (upd (upd (upd (upd (upd (upd (upd (upd (upd (upd (upd (fun _ => 0) 0 1) 11 1) 12 50) 21 (-1)) 22 (-1)) 23 1) 29 (-1)) 34 (-1)) 35 1) 41 (-1)) 46 (-1)) 47 1) 53 (-1))))] H := hP
  have hD : va_D A [(a0, .inl (cs 0, 45783, .inl (upd (upd (upd (upd (upd (upd (upd (upd (upd (upd (upd (upd (upd (fun _ => 0) 0 1) 11 1) 12 50) 21 (-1)) 22 (-1)) 23 1) 29 (-1)) 34 (-1)) 35 1) 41 (-1)) 46 (-1)) 47 1) 53 (-1))))] := hD
  refine lv_aload_n hx hb dX9_layPlayers_71 rfl (lv_at hl 1 rfl) ?_
  refine lv_iload_n hx hb dX9_layPlayers_72 rfl (lv_at hl 0 rfl) ?_
  refine q1_cs_i (As := [.int 2]) (rest := [.ref a0]) (wr := [(a0, .inl (cs 0, 45783, .inl (upd (upd (upd (upd (upd (upd (upd (upd (upd (upd (upd (upd (upd (fun _ => 0) 0 1) 11 1) 12 50) 21 (-1)) 22 (-1)) 23 1) 29 (-1)) 34 (-1)) 35 1) 41 (-1)) 46 (-1)) 47 1) 53 (-1))))]) ⟨hx, hb, hml, hown, hts⟩ (fun sz => k18_X9_playerAt l D cs sz ) (va_cwS 1 hts gX9_layPlayers_X9_playerAt rfl rfl rfl hdX9_playerAt_o ⟨Nat.le_of_ble_eq_true rfl, Nat.le_of_ble_eq_true rfl⟩) hN hP hD hS hA [] [0] rfl rfl rfl rfl (by decide) rfl rfl hl.1 (Nat.le_of_ble_eq_true rfl) dX9_layPlayers_73 (Nat.le_of_ble_eq_true rfl) (Nat.le_of_ble_eq_true rfl) (fun u8 H locs hP hD hS => ?_)
  have hP : va_P D vwCl [(a0, .inl (cs 0, 45783, .inl (upd (upd (upd (upd (upd (upd (upd (upd (upd (upd (upd (upd (upd (fun _ => 0) 0 1) 11 1) 12 50) 21 (-1)) 22 (-1)) 23 1) 29 (-1)) 34 (-1)) 35 1) 41 (-1)) 46 (-1)) 47 1) 53 (-1))))] H := hP
  have hD : va_D A [(a0, .inl (cs 0, 45783, .inl (upd (upd (upd (upd (upd (upd (upd (upd (upd (upd (upd (upd (upd (fun _ => 0) 0 1) 11 1) 12 50) 21 (-1)) 22 (-1)) 23 1) 29 (-1)) 34 (-1)) 35 1) 41 (-1)) 46 (-1)) 47 1) 53 (-1))))] := hD
  refine W.widen (k := 0) (n := 0) (Nat.le_of_ble_eq_true rfl) (Nat.le_of_ble_eq_true rfl) ?_
  refine lv_bipush (v := 11) hx hb dX9_layPlayers_76 (by decide) ?_
  refine lv_iadd hx hb dX9_layPlayers_78 ?_
  refine tp_i (58) (by decide) ?_
  refine lv_iconst (v := (-1)) hx hb dX9_layPlayers_79 (by decide) ?_
  refine st_i (g := (upd (upd (upd (upd (upd (upd (upd (upd (upd (upd (upd (upd (upd (upd (fun _ => 0) 0 1) 11 1) 12 50) 21 (-1)) 22 (-1)) 23 1) 29 (-1)) 34 (-1)) 35 1) 41 (-1)) 46 (-1)) 47 1) 53 (-1)) 58 (-1))) hx hb hN hP hD hS 0 rfl (vin (by decide +kernel)) rfl dX9_layPlayers_80 (fun H locs hP hD hS => ?_)
  have hP : va_P D vwCl [(a0, .inl (cs 0, 45783, .inl (upd (upd (upd (upd (upd (upd (upd (upd (upd (upd (upd (upd (upd (upd (fun _ => 0) 0 1) 11 1) 12 50) 21 (-1)) 22 (-1)) 23 1) 29 (-1)) 34 (-1)) 35 1) 41 (-1)) 46 (-1)) 47 1) 53 (-1)) 58 (-1))))] H := hP
  have hD : va_D A [(a0, .inl (cs 0, 45783, .inl (upd (upd (upd (upd (upd (upd (upd (upd (upd (upd (upd (upd (upd (upd (fun _ => 0) 0 1) 11 1) 12 50) 21 (-1)) 22 (-1)) 23 1) 29 (-1)) 34 (-1)) 35 1) 41 (-1)) 46 (-1)) 47 1) 53 (-1)) 58 (-1))))] := hD
  refine lv_iinc (v := 3) (lv' := [(2, .int 3), (0, .ref a0), (1, .int 1)]) hx hb dX9_layPlayers_81 hl (k := 0) rfl (by decide) (by decide) rfl (fun ls hl => ?_)
  refine lv_goto (tgt := 46) hx hb dX9_layPlayers_84 (by decide) ?_
  refine lv_iload_n hx hb dX9_layPlayers_46 rfl (lv_at hl 0 rfl) ?_
  refine lv_bipush (v := 8) hx hb dX9_layPlayers_47 (by decide) ?_
  refine lv_icmp_ge (tgt := 87) hx hb dX9_layPlayers_49 (by decide) (fun c9 => absurd c9 (by decide)) (fun _ => ?_)
  refine lv_aload_n hx hb dX9_layPlayers_52 rfl (lv_at hl 1 rfl) ?_
  refine lv_iload_n hx hb dX9_layPlayers_53 rfl (lv_at hl 0 rfl) ?_
  refine q1_cs_i (As := [.int 3]) (rest := [.ref a0]) (wr := [(a0, .inl (cs 0, 45783, .inl (upd (upd (upd (upd (upd (upd (upd (upd (upd (upd (upd (upd (upd (upd (fun _ => 0) 0 1) 11 1) 12 50) 21 (-1)) 22 (-1)) 23 1) 29 (-1)) 34 (-1)) 35 1) 41 (-1)) 46 (-1)) 47 1) 53 (-1)) 58 (-1))))]) ⟨hx, hb, hml, hown, hts⟩ (fun sz => k19_X9_playerAt l D cs sz ) (va_cwS 1 hts gX9_layPlayers_X9_playerAt rfl rfl rfl hdX9_playerAt_o ⟨Nat.le_of_ble_eq_true rfl, Nat.le_of_ble_eq_true rfl⟩) hN hP hD hS hA [] [0] rfl rfl rfl rfl (by decide) rfl rfl hl.1 (Nat.le_of_ble_eq_true rfl) dX9_layPlayers_54 (Nat.le_of_ble_eq_true rfl) (Nat.le_of_ble_eq_true rfl) (fun u9 H locs hP hD hS => ?_)
  have hP : va_P D vwCl [(a0, .inl (cs 0, 45783, .inl (upd (upd (upd (upd (upd (upd (upd (upd (upd (upd (upd (upd (upd (upd (fun _ => 0) 0 1) 11 1) 12 50) 21 (-1)) 22 (-1)) 23 1) 29 (-1)) 34 (-1)) 35 1) 41 (-1)) 46 (-1)) 47 1) 53 (-1)) 58 (-1))))] H := hP
  have hD : va_D A [(a0, .inl (cs 0, 45783, .inl (upd (upd (upd (upd (upd (upd (upd (upd (upd (upd (upd (upd (upd (upd (fun _ => 0) 0 1) 11 1) 12 50) 21 (-1)) 22 (-1)) 23 1) 29 (-1)) 34 (-1)) 35 1) 41 (-1)) 46 (-1)) 47 1) 53 (-1)) 58 (-1))))] := hD
  refine W.widen (k := 0) (n := 0) (Nat.le_of_ble_eq_true rfl) (Nat.le_of_ble_eq_true rfl) ?_
  refine lv_iconst (v := 0) hx hb dX9_layPlayers_57 (by decide) ?_
  refine lv_iadd hx hb dX9_layPlayers_58 ?_
  refine tp_i (59) (by decide) ?_
  refine lv_iconst (v := 1) hx hb dX9_layPlayers_59 (by decide) ?_
  refine st_i (g := (upd (upd (upd (upd (upd (upd (upd (upd (upd (upd (upd (upd (upd (upd (upd (fun _ => 0) 0 1) 11 1) 12 50) 21 (-1)) 22 (-1)) 23 1) 29 (-1)) 34 (-1)) 35 1) 41 (-1)) 46 (-1)) 47 1) 53 (-1)) 58 (-1)) 59 1)) hx hb hN hP hD hS 0 rfl (vin (by decide +kernel)) rfl dX9_layPlayers_60 (fun H locs hP hD hS => ?_)
  have hP : va_P D vwCl [(a0, .inl (cs 0, 45783, .inl (upd (upd (upd (upd (upd (upd (upd (upd (upd (upd (upd (upd (upd (upd (upd (fun _ => 0) 0 1) 11 1) 12 50) 21 (-1)) 22 (-1)) 23 1) 29 (-1)) 34 (-1)) 35 1) 41 (-1)) 46 (-1)) 47 1) 53 (-1)) 58 (-1)) 59 1)))] H := hP
  have hD : va_D A [(a0, .inl (cs 0, 45783, .inl (upd (upd (upd (upd (upd (upd (upd (upd (upd (upd (upd (upd (upd (upd (upd (fun _ => 0) 0 1) 11 1) 12 50) 21 (-1)) 22 (-1)) 23 1) 29 (-1)) 34 (-1)) 35 1) 41 (-1)) 46 (-1)) 47 1) 53 (-1)) 58 (-1)) 59 1)))] := hD
  refine lv_aload_n hx hb dX9_layPlayers_61 rfl (lv_at hl 1 rfl) ?_
  refine lv_iload_n hx hb dX9_layPlayers_62 rfl (lv_at hl 0 rfl) ?_
  refine q1_cs_i (As := [.int 3]) (rest := [.ref a0]) (wr := [(a0, .inl (cs 0, 45783, .inl (upd (upd (upd (upd (upd (upd (upd (upd (upd (upd (upd (upd (upd (upd (upd (fun _ => 0) 0 1) 11 1) 12 50) 21 (-1)) 22 (-1)) 23 1) 29 (-1)) 34 (-1)) 35 1) 41 (-1)) 46 (-1)) 47 1) 53 (-1)) 58 (-1)) 59 1)))]) ⟨hx, hb, hml, hown, hts⟩ (fun sz => k19_X9_playerAt l D cs sz ) (va_cwS 1 hts gX9_layPlayers_X9_playerAt rfl rfl rfl hdX9_playerAt_o ⟨Nat.le_of_ble_eq_true rfl, Nat.le_of_ble_eq_true rfl⟩) hN hP hD hS hA [] [0] rfl rfl rfl rfl (by decide) rfl rfl hl.1 (Nat.le_of_ble_eq_true rfl) dX9_layPlayers_63 (Nat.le_of_ble_eq_true rfl) (Nat.le_of_ble_eq_true rfl) (fun u10 H locs hP hD hS => ?_)
  have hP : va_P D vwCl [(a0, .inl (cs 0, 45783, .inl (upd (upd (upd (upd (upd (upd (upd (upd (upd (upd (upd (upd (upd (upd (upd (fun _ => 0) 0 1) 11 1) 12 50) 21 (-1)) 22 (-1)) 23 1) 29 (-1)) 34 (-1)) 35 1) 41 (-1)) 46 (-1)) 47 1) 53 (-1)) 58 (-1)) 59 1)))] H := hP
  have hD : va_D A [(a0, .inl (cs 0, 45783, .inl (upd (upd (upd (upd (upd (upd (upd (upd (upd (upd (upd (upd (upd (upd (upd (fun _ => 0) 0 1) 11 1) 12 50) 21 (-1)) 22 (-1)) 23 1) 29 (-1)) 34 (-1)) 35 1) 41 (-1)) 46 (-1)) 47 1) 53 (-1)) 58 (-1)) 59 1)))] := hD
  refine W.widen (k := 0) (n := 0) (Nat.le_of_ble_eq_true rfl) (Nat.le_of_ble_eq_true rfl) ?_
  refine lv_bipush (v := 6) hx hb dX9_layPlayers_66 (by decide) ?_
  refine lv_iadd hx hb dX9_layPlayers_68 ?_
  refine tp_i (65) (by decide) ?_
  refine lv_iconst (v := (-1)) hx hb dX9_layPlayers_69 (by decide) ?_
  refine st_i (g := (upd (upd (upd (upd (upd (upd (upd (upd (upd (upd (upd (upd (upd (upd (upd (upd (fun _ => 0) 0 1) 11 1) 12 50) 21 (-1)) 22 (-1)) 23 1) 29 (-1)) 34 (-1)) 35 1) 41 (-1)) 46 (-1)) 47 1) 53 (-1)) 58 (-1)) 59 1) 65 (-1))) hx hb hN hP hD hS 0 rfl (vin (by decide +kernel)) rfl dX9_layPlayers_70 (fun H locs hP hD hS => ?_)
  have hP : va_P D vwCl [(a0, .inl (cs 0, 45783, .inl (upd (upd (upd (upd (upd (upd (upd (upd (upd (upd (upd (upd (upd (upd (upd (upd (fun _ => 0) 0 1) 11 1) 12 50) 21 (-1)) 22 (-1)) 23 1) 29 (-1)) 34 (-1)) 35 1) 41 (-1)) 46 (-1)) 47 1) 53 (-1)) 58 (-1)) 59 1) 65 (-1))))] H := hP
  have hD : va_D A [(a0, .inl (cs 0, 45783, .inl (upd (upd (upd (upd (upd (upd (upd (upd (upd (upd (upd (upd (upd (upd (upd (upd (fun _ => 0) 0 1) 11 1) 12 50) 21 (-1)) 22 (-1)) 23 1) 29 (-1)) 34 (-1)) 35 1) 41 (-1)) 46 (-1)) 47 1) 53 (-1)) 58 (-1)) 59 1) 65 (-1))))] := hD
  refine lv_aload_n hx hb dX9_layPlayers_71 rfl (lv_at hl 1 rfl) ?_
  refine lv_iload_n hx hb dX9_layPlayers_72 rfl (lv_at hl 0 rfl) ?_
  refine q1_cs_i (As := [.int 3]) (rest := [.ref a0]) (wr := [(a0, .inl (cs 0, 45783, .inl (upd (upd (upd (upd (upd (upd (upd (upd (upd (upd (upd (upd (upd (upd (upd (upd (fun _ => 0) 0 1) 11 1) 12 50) 21 (-1)) 22 (-1)) 23 1) 29 (-1)) 34 (-1)) 35 1) 41 (-1)) 46 (-1)) 47 1) 53 (-1)) 58 (-1)) 59 1) 65 (-1))))]) ⟨hx, hb, hml, hown, hts⟩ (fun sz => k19_X9_playerAt l D cs sz ) (va_cwS 1 hts gX9_layPlayers_X9_playerAt rfl rfl rfl hdX9_playerAt_o ⟨Nat.le_of_ble_eq_true rfl, Nat.le_of_ble_eq_true rfl⟩) hN hP hD hS hA [] [0] rfl rfl rfl rfl (by decide) rfl rfl hl.1 (Nat.le_of_ble_eq_true rfl) dX9_layPlayers_73 (Nat.le_of_ble_eq_true rfl) (Nat.le_of_ble_eq_true rfl) (fun u11 H locs hP hD hS => ?_)
  have hP : va_P D vwCl [(a0, .inl (cs 0, 45783, .inl (upd (upd (upd (upd (upd (upd (upd (upd (upd (upd (upd (upd (upd (upd (upd (upd (fun _ => 0) 0 1) 11 1) 12 50) 21 (-1)) 22 (-1)) 23 1) 29 (-1)) 34 (-1)) 35 1) 41 (-1)) 46 (-1)) 47 1) 53 (-1)) 58 (-1)) 59 1) 65 (-1))))] H := hP
  have hD : va_D A [(a0, .inl (cs 0, 45783, .inl (upd (upd (upd (upd (upd (upd (upd (upd (upd (upd (upd (upd (upd (upd (upd (upd (fun _ => 0) 0 1) 11 1) 12 50) 21 (-1)) 22 (-1)) 23 1) 29 (-1)) 34 (-1)) 35 1) 41 (-1)) 46 (-1)) 47 1) 53 (-1)) 58 (-1)) 59 1) 65 (-1))))] := hD
  refine W.widen (k := 0) (n := 0) (Nat.le_of_ble_eq_true rfl) (Nat.le_of_ble_eq_true rfl) ?_
  refine lv_bipush (v := 11) hx hb dX9_layPlayers_76 (by decide) ?_
  refine lv_iadd hx hb dX9_layPlayers_78 ?_
  refine tp_i (70) (by decide) ?_
  refine lv_iconst (v := (-1)) hx hb dX9_layPlayers_79 (by decide) ?_
  refine st_i (g := (upd (upd (upd (upd (upd (upd (upd (upd (upd (upd (upd (upd (upd (upd (upd (upd (upd (fun _ => 0) 0 1) 11 1) 12 50) 21 (-1)) 22 (-1)) 23 1) 29 (-1)) 34 (-1)) 35 1) 41 (-1)) 46 (-1)) 47 1) 53 (-1)) 58 (-1)) 59 1) 65 (-1)) 70 (-1))) hx hb hN hP hD hS 0 rfl (vin (by decide +kernel)) rfl dX9_layPlayers_80 (fun H locs hP hD hS => ?_)
  have hP : va_P D vwCl [(a0, .inl (cs 0, 45783, .inl (upd (upd (upd (upd (upd (upd (upd (upd (upd (upd (upd (upd (upd (upd (upd (upd (upd (fun _ => 0) 0 1) 11 1) 12 50) 21 (-1)) 22 (-1)) 23 1) 29 (-1)) 34 (-1)) 35 1) 41 (-1)) 46 (-1)) 47 1) 53 (-1)) 58 (-1)) 59 1) 65 (-1)) 70 (-1))))] H := hP
  have hD : va_D A [(a0, .inl (cs 0, 45783, .inl (upd (upd (upd (upd (upd (upd (upd (upd (upd (upd (upd (upd (upd (upd (upd (upd (upd (fun _ => 0) 0 1) 11 1) 12 50) 21 (-1)) 22 (-1)) 23 1) 29 (-1)) 34 (-1)) 35 1) 41 (-1)) 46 (-1)) 47 1) 53 (-1)) 58 (-1)) 59 1) 65 (-1)) 70 (-1))))] := hD
  refine lv_iinc (v := 4) (lv' := [(2, .int 4), (0, .ref a0), (1, .int 1)]) hx hb dX9_layPlayers_81 hl (k := 0) rfl (by decide) (by decide) rfl (fun ls hl => ?_)
  refine lv_goto (tgt := 46) hx hb dX9_layPlayers_84 (by decide) ?_
  refine lv_iload_n hx hb dX9_layPlayers_46 rfl (lv_at hl 0 rfl) ?_
  refine lv_bipush (v := 8) hx hb dX9_layPlayers_47 (by decide) ?_
  refine lv_icmp_ge (tgt := 87) hx hb dX9_layPlayers_49 (by decide) (fun c9 => absurd c9 (by decide)) (fun _ => ?_)
  refine lv_aload_n hx hb dX9_layPlayers_52 rfl (lv_at hl 1 rfl) ?_
  refine lv_iload_n hx hb dX9_layPlayers_53 rfl (lv_at hl 0 rfl) ?_
  refine q1_cs_i (As := [.int 4]) (rest := [.ref a0]) (wr := [(a0, .inl (cs 0, 45783, .inl (upd (upd (upd (upd (upd (upd (upd (upd (upd (upd (upd (upd (upd (upd (upd (upd (upd (fun _ => 0) 0 1) 11 1) 12 50) 21 (-1)) 22 (-1)) 23 1) 29 (-1)) 34 (-1)) 35 1) 41 (-1)) 46 (-1)) 47 1) 53 (-1)) 58 (-1)) 59 1) 65 (-1)) 70 (-1))))]) ⟨hx, hb, hml, hown, hts⟩ (fun sz => k20_X9_playerAt l D cs sz ) (va_cwS 1 hts gX9_layPlayers_X9_playerAt rfl rfl rfl hdX9_playerAt_o ⟨Nat.le_of_ble_eq_true rfl, Nat.le_of_ble_eq_true rfl⟩) hN hP hD hS hA [] [0] rfl rfl rfl rfl (by decide) rfl rfl hl.1 (Nat.le_of_ble_eq_true rfl) dX9_layPlayers_54 (Nat.le_of_ble_eq_true rfl) (Nat.le_of_ble_eq_true rfl) (fun u12 H locs hP hD hS => ?_)
  have hP : va_P D vwCl [(a0, .inl (cs 0, 45783, .inl (upd (upd (upd (upd (upd (upd (upd (upd (upd (upd (upd (upd (upd (upd (upd (upd (upd (fun _ => 0) 0 1) 11 1) 12 50) 21 (-1)) 22 (-1)) 23 1) 29 (-1)) 34 (-1)) 35 1) 41 (-1)) 46 (-1)) 47 1) 53 (-1)) 58 (-1)) 59 1) 65 (-1)) 70 (-1))))] H := hP
  have hD : va_D A [(a0, .inl (cs 0, 45783, .inl (upd (upd (upd (upd (upd (upd (upd (upd (upd (upd (upd (upd (upd (upd (upd (upd (upd (fun _ => 0) 0 1) 11 1) 12 50) 21 (-1)) 22 (-1)) 23 1) 29 (-1)) 34 (-1)) 35 1) 41 (-1)) 46 (-1)) 47 1) 53 (-1)) 58 (-1)) 59 1) 65 (-1)) 70 (-1))))] := hD
  refine W.widen (k := 0) (n := 0) (Nat.le_of_ble_eq_true rfl) (Nat.le_of_ble_eq_true rfl) ?_
  refine lv_iconst (v := 0) hx hb dX9_layPlayers_57 (by decide) ?_
  refine lv_iadd hx hb dX9_layPlayers_58 ?_
  refine tp_i (71) (by decide) ?_
  refine lv_iconst (v := 1) hx hb dX9_layPlayers_59 (by decide) ?_
  refine st_i (g := (upd (upd (upd (upd (upd (upd (upd (upd (upd (upd (upd (upd (upd (upd (upd (upd (upd (upd (fun _ => 0) 0 1) 11 1) 12 50) 21 (-1)) 22 (-1)) 23 1) 29 (-1)) 34 (-1)) 35 1) 41 (-1)) 46 (-1)) 47 1) 53 (-1)) 58 (-1)) 59 1) 65 (-1)) 70 (-1)) 71 1)) hx hb hN hP hD hS 0 rfl (vin (by decide +kernel)) rfl dX9_layPlayers_60 (fun H locs hP hD hS => ?_)
  have hP : va_P D vwCl [(a0, .inl (cs 0, 45783, .inl (upd (upd (upd (upd (upd (upd (upd (upd (upd (upd (upd (upd (upd (upd (upd (upd (upd (upd (fun _ => 0) 0 1) 11 1) 12 50) 21 (-1)) 22 (-1)) 23 1) 29 (-1)) 34 (-1)) 35 1) 41 (-1)) 46 (-1)) 47 1) 53 (-1)) 58 (-1)) 59 1) 65 (-1)) 70 (-1)) 71 1)))] H := hP
  have hD : va_D A [(a0, .inl (cs 0, 45783, .inl (upd (upd (upd (upd (upd (upd (upd (upd (upd (upd (upd (upd (upd (upd (upd (upd (upd (upd (fun _ => 0) 0 1) 11 1) 12 50) 21 (-1)) 22 (-1)) 23 1) 29 (-1)) 34 (-1)) 35 1) 41 (-1)) 46 (-1)) 47 1) 53 (-1)) 58 (-1)) 59 1) 65 (-1)) 70 (-1)) 71 1)))] := hD
  refine lv_aload_n hx hb dX9_layPlayers_61 rfl (lv_at hl 1 rfl) ?_
  refine lv_iload_n hx hb dX9_layPlayers_62 rfl (lv_at hl 0 rfl) ?_
  refine q1_cs_i (As := [.int 4]) (rest := [.ref a0]) (wr := [(a0, .inl (cs 0, 45783, .inl (upd (upd (upd (upd (upd (upd (upd (upd (upd (upd (upd (upd (upd (upd (upd (upd (upd (upd (fun _ => 0) 0 1) 11 1) 12 50) 21 (-1)) 22 (-1)) 23 1) 29 (-1)) 34 (-1)) 35 1) 41 (-1)) 46 (-1)) 47 1) 53 (-1)) 58 (-1)) 59 1) 65 (-1)) 70 (-1)) 71 1)))]) ⟨hx, hb, hml, hown, hts⟩ (fun sz => k20_X9_playerAt l D cs sz ) (va_cwS 1 hts gX9_layPlayers_X9_playerAt rfl rfl rfl hdX9_playerAt_o ⟨Nat.le_of_ble_eq_true rfl, Nat.le_of_ble_eq_true rfl⟩) hN hP hD hS hA [] [0] rfl rfl rfl rfl (by decide) rfl rfl hl.1 (Nat.le_of_ble_eq_true rfl) dX9_layPlayers_63 (Nat.le_of_ble_eq_true rfl) (Nat.le_of_ble_eq_true rfl) (fun u13 H locs hP hD hS => ?_)
  have hP : va_P D vwCl [(a0, .inl (cs 0, 45783, .inl (upd (upd (upd (upd (upd (upd (upd (upd (upd (upd (upd (upd (upd (upd (upd (upd (upd (upd (fun _ => 0) 0 1) 11 1) 12 50) 21 (-1)) 22 (-1)) 23 1) 29 (-1)) 34 (-1)) 35 1) 41 (-1)) 46 (-1)) 47 1) 53 (-1)) 58 (-1)) 59 1) 65 (-1)) 70 (-1)) 71 1)))] H := hP
  have hD : va_D A [(a0, .inl (cs 0, 45783, .inl (upd (upd (upd (upd (upd (upd (upd (upd (upd (upd (upd (upd (upd (upd (upd (upd (upd (upd (fun _ => 0) 0 1) 11 1) 12 50) 21 (-1)) 22 (-1)) 23 1) 29 (-1)) 34 (-1)) 35 1) 41 (-1)) 46 (-1)) 47 1) 53 (-1)) 58 (-1)) 59 1) 65 (-1)) 70 (-1)) 71 1)))] := hD
  refine W.widen (k := 0) (n := 0) (Nat.le_of_ble_eq_true rfl) (Nat.le_of_ble_eq_true rfl) ?_
  refine lv_bipush (v := 6) hx hb dX9_layPlayers_66 (by decide) ?_
  refine lv_iadd hx hb dX9_layPlayers_68 ?_
  refine tp_i (77) (by decide) ?_
  refine lv_iconst (v := (-1)) hx hb dX9_layPlayers_69 (by decide) ?_
  refine st_i (g := (upd (upd (upd (upd (upd (upd (upd (upd (upd (upd (upd (upd (upd (upd (upd (upd (upd (upd (upd (fun _ => 0) 0 1) 11 1) 12 50) 21 (-1)) 22 (-1)) 23 1) 29 (-1)) 34 (-1)) 35 1) 41 (-1)) 46 (-1)) 47 1) 53 (-1)) 58 (-1)) 59 1) 65 (-1)) 70 (-1)) 71 1) 77 (-1))) hx hb hN hP hD hS 0 rfl (vin (by decide +kernel)) rfl dX9_layPlayers_70 (fun H locs hP hD hS => ?_)
  have hP : va_P D vwCl [(a0, .inl (cs 0, 45783, .inl (upd (upd (upd (upd (upd (upd (upd (upd (upd (upd (upd (upd (upd (upd (upd (upd (upd (upd (upd (fun _ => 0) 0 1) 11 1) 12 50) 21 (-1)) 22 (-1)) 23 1) 29 (-1)) 34 (-1)) 35 1) 41 (-1)) 46 (-1)) 47 1) 53 (-1)) 58 (-1)) 59 1) 65 (-1)) 70 (-1)) 71 1) 77 (-1))))] H := hP
  have hD : va_D A [(a0, .inl (cs 0, 45783, .inl (upd (upd (upd (upd (upd (upd (upd (upd (upd (upd (upd (upd (upd (upd (upd (upd (upd (upd (upd (fun _ => 0) 0 1) 11 1) 12 50) 21 (-1)) 22 (-1)) 23 1) 29 (-1)) 34 (-1)) 35 1) 41 (-1)) 46 (-1)) 47 1) 53 (-1)) 58 (-1)) 59 1) 65 (-1)) 70 (-1)) 71 1) 77 (-1))))] := hD
  refine lv_aload_n hx hb dX9_layPlayers_71 rfl (lv_at hl 1 rfl) ?_
  refine lv_iload_n hx hb dX9_layPlayers_72 rfl (lv_at hl 0 rfl) ?_
  refine q1_cs_i (As := [.int 4]) (rest := [.ref a0]) (wr := [(a0, .inl (cs 0, 45783, .inl (upd (upd (upd (upd (upd (upd (upd (upd (upd (upd (upd (upd (upd (upd (upd (upd (upd (upd (upd (fun _ => 0) 0 1) 11 1) 12 50) 21 (-1)) 22 (-1)) 23 1) 29 (-1)) 34 (-1)) 35 1) 41 (-1)) 46 (-1)) 47 1) 53 (-1)) 58 (-1)) 59 1) 65 (-1)) 70 (-1)) 71 1) 77 (-1))))]) ⟨hx, hb, hml, hown, hts⟩ (fun sz => k20_X9_playerAt l D cs sz ) (va_cwS 1 hts gX9_layPlayers_X9_playerAt rfl rfl rfl hdX9_playerAt_o ⟨Nat.le_of_ble_eq_true rfl, Nat.le_of_ble_eq_true rfl⟩) hN hP hD hS hA [] [0] rfl rfl rfl rfl (by decide) rfl rfl hl.1 (Nat.le_of_ble_eq_true rfl) dX9_layPlayers_73 (Nat.le_of_ble_eq_true rfl) (Nat.le_of_ble_eq_true rfl) (fun u14 H locs hP hD hS => ?_)
  have hP : va_P D vwCl [(a0, .inl (cs 0, 45783, .inl (upd (upd (upd (upd (upd (upd (upd (upd (upd (upd (upd (upd (upd (upd (upd (upd (upd (upd (upd (fun _ => 0) 0 1) 11 1) 12 50) 21 (-1)) 22 (-1)) 23 1) 29 (-1)) 34 (-1)) 35 1) 41 (-1)) 46 (-1)) 47 1) 53 (-1)) 58 (-1)) 59 1) 65 (-1)) 70 (-1)) 71 1) 77 (-1))))] H := hP
  have hD : va_D A [(a0, .inl (cs 0, 45783, .inl (upd (upd (upd (upd (upd (upd (upd (upd (upd (upd (upd (upd (upd (upd (upd (upd (upd (upd (upd (fun _ => 0) 0 1) 11 1) 12 50) 21 (-1)) 22 (-1)) 23 1) 29 (-1)) 34 (-1)) 35 1) 41 (-1)) 46 (-1)) 47 1) 53 (-1)) 58 (-1)) 59 1) 65 (-1)) 70 (-1)) 71 1) 77 (-1))))] := hD
  refine W.widen (k := 0) (n := 0) (Nat.le_of_ble_eq_true rfl) (Nat.le_of_ble_eq_true rfl) ?_
  refine lv_bipush (v := 11) hx hb dX9_layPlayers_76 (by decide) ?_
  refine lv_iadd hx hb dX9_layPlayers_78 ?_
  refine tp_i (82) (by decide) ?_
  refine lv_iconst (v := (-1)) hx hb dX9_layPlayers_79 (by decide) ?_
  refine st_i (g := (upd (upd (upd (upd (upd (upd (upd (upd (upd (upd (upd (upd (upd (upd (upd (upd (upd (upd (upd (upd (fun _ => 0) 0 1) 11 1) 12 50) 21 (-1)) 22 (-1)) 23 1) 29 (-1)) 34 (-1)) 35 1) 41 (-1)) 46 (-1)) 47 1) 53 (-1)) 58 (-1)) 59 1) 65 (-1)) 70 (-1)) 71 1) 77 (-1)) 82 (-1))) hx hb hN hP hD hS 0 rfl (vin (by decide +kernel)) rfl dX9_layPlayers_80 (fun H locs hP hD hS => ?_)
  have hP : va_P D vwCl [(a0, .inl (cs 0, 45783, .inl (upd (upd (upd (upd (upd (upd (upd (upd (upd (upd (upd (upd (upd (upd (upd (upd (upd (upd (upd (upd (fun _ => 0) 0 1) 11 1) 12 50) 21 (-1)) 22 (-1)) 23 1) 29 (-1)) 34 (-1)) 35 1) 41 (-1)) 46 (-1)) 47 1) 53 (-1)) 58 (-1)) 59 1) 65 (-1)) 70 (-1)) 71 1) 77 (-1)) 82 (-1))))] H := hP
  have hD : va_D A [(a0, .inl (cs 0, 45783, .inl (upd (upd (upd (upd (upd (upd (upd (upd (upd (upd (upd (upd (upd (upd (upd (upd (upd (upd (upd (upd (fun _ => 0) 0 1) 11 1) 12 50) 21 (-1)) 22 (-1)) 23 1) 29 (-1)) 34 (-1)) 35 1) 41 (-1)) 46 (-1)) 47 1) 53 (-1)) 58 (-1)) 59 1) 65 (-1)) 70 (-1)) 71 1) 77 (-1)) 82 (-1))))] := hD
  refine lv_iinc (v := 5) (lv' := [(2, .int 5), (0, .ref a0), (1, .int 1)]) hx hb dX9_layPlayers_81 hl (k := 0) rfl (by decide) (by decide) rfl (fun ls hl => ?_)
  refine lv_goto (tgt := 46) hx hb dX9_layPlayers_84 (by decide) ?_
  refine lv_iload_n hx hb dX9_layPlayers_46 rfl (lv_at hl 0 rfl) ?_
  refine lv_bipush (v := 8) hx hb dX9_layPlayers_47 (by decide) ?_
  refine lv_icmp_ge (tgt := 87) hx hb dX9_layPlayers_49 (by decide) (fun c9 => absurd c9 (by decide)) (fun _ => ?_)
  refine lv_aload_n hx hb dX9_layPlayers_52 rfl (lv_at hl 1 rfl) ?_
  refine lv_iload_n hx hb dX9_layPlayers_53 rfl (lv_at hl 0 rfl) ?_
  refine q1_cs_i (As := [.int 5]) (rest := [.ref a0]) (wr := [(a0, .inl (cs 0, 45783, .inl (upd (upd (upd (upd (upd (upd (upd (upd (upd (upd (upd (upd (upd (upd (upd (upd (upd (upd (upd (upd (fun _ => 0) 0 1) 11 1) 12 50) 21 (-1)) 22 (-1)) 23 1) 29 (-1)) 34 (-1)) 35 1) 41 (-1)) 46 (-1)) 47 1) 53 (-1)) 58 (-1)) 59 1) 65 (-1)) 70 (-1)) 71 1) 77 (-1)) 82 (-1))))]) ⟨hx, hb, hml, hown, hts⟩ (fun sz => k21_X9_playerAt l D cs sz ) (va_cwS 1 hts gX9_layPlayers_X9_playerAt rfl rfl rfl hdX9_playerAt_o ⟨Nat.le_of_ble_eq_true rfl, Nat.le_of_ble_eq_true rfl⟩) hN hP hD hS hA [] [0] rfl rfl rfl rfl (by decide) rfl rfl hl.1 (Nat.le_of_ble_eq_true rfl) dX9_layPlayers_54 (Nat.le_of_ble_eq_true rfl) (Nat.le_of_ble_eq_true rfl) (fun u15 H locs hP hD hS => ?_)
  have hP : va_P D vwCl [(a0, .inl (cs 0, 45783, .inl (upd (upd (upd (upd (upd (upd (upd (upd (upd (upd (upd (upd (upd (upd (upd (upd (upd (upd (upd (upd (fun _ => 0) 0 1) 11 1) 12 50) 21 (-1)) 22 (-1)) 23 1) 29 (-1)) 34 (-1)) 35 1) 41 (-1)) 46 (-1)) 47 1) 53 (-1)) 58 (-1)) 59 1) 65 (-1)) 70 (-1)) 71 1) 77 (-1)) 82 (-1))))] H := hP
  have hD : va_D A [(a0, .inl (cs 0, 45783, .inl (upd (upd (upd (upd (upd (upd (upd (upd (upd (upd (upd (upd (upd (upd (upd (upd (upd (upd (upd (upd (fun _ => 0) 0 1) 11 1) 12 50) 21 (-1)) 22 (-1)) 23 1) 29 (-1)) 34 (-1)) 35 1) 41 (-1)) 46 (-1)) 47 1) 53 (-1)) 58 (-1)) 59 1) 65 (-1)) 70 (-1)) 71 1) 77 (-1)) 82 (-1))))] := hD
  refine W.widen (k := 0) (n := 0) (Nat.le_of_ble_eq_true rfl) (Nat.le_of_ble_eq_true rfl) ?_
  refine lv_iconst (v := 0) hx hb dX9_layPlayers_57 (by decide) ?_
  refine lv_iadd hx hb dX9_layPlayers_58 ?_
  refine tp_i (83) (by decide) ?_
  refine lv_iconst (v := 1) hx hb dX9_layPlayers_59 (by decide) ?_
  refine st_i (g := (upd (upd (upd (upd (upd (upd (upd (upd (upd (upd (upd (upd (upd (upd (upd (upd (upd (upd (upd (upd (upd (fun _ => 0) 0 1) 11 1) 12 50) 21 (-1)) 22 (-1)) 23 1) 29 (-1)) 34 (-1)) 35 1) 41 (-1)) 46 (-1)) 47 1) 53 (-1)) 58 (-1)) 59 1) 65 (-1)) 70 (-1)) 71 1) 77 (-1)) 82 (-1)) 83 1)) hx hb hN hP hD hS 0 rfl (vin (by decide +kernel)) rfl dX9_layPlayers_60 (fun H locs hP hD hS => ?_)
  have hP : va_P D vwCl [(a0, .inl (cs 0, 45783, .inl (upd (upd (upd (upd (upd (upd (upd (upd (upd (upd (upd (upd (upd (upd (upd (upd (upd (upd (upd (upd (upd (fun _ => 0) 0 1) 11 1) 12 50) 21 (-1)) 22 (-1)) 23 1) 29 (-1)) 34 (-1)) 35 1) 41 (-1)) 46 (-1)) 47 1) 53 (-1)) 58 (-1)) 59 1) 65 (-1)) 70 (-1)) 71 1) 77 (-1)) 82 (-1)) 83 1)))] H := hP
  have hD : va_D A [(a0, .inl (cs 0, 45783, .inl (upd (upd (upd (upd (upd (upd (upd (upd (upd (upd (upd (upd (upd (upd (upd (upd (upd (upd (upd (upd (upd (fun _ => 0) 0 1) 11 1) 12 50) 21 (-1)) 22 (-1)) 23 1) 29 (-1)) 34 (-1)) 35 1) 41 (-1)) 46 (-1)) 47 1) 53 (-1)) 58 (-1)) 59 1) 65 (-1)) 70 (-1)) 71 1) 77 (-1)) 82 (-1)) 83 1)))] := hD
  refine lv_aload_n hx hb dX9_layPlayers_61 rfl (lv_at hl 1 rfl) ?_
  refine lv_iload_n hx hb dX9_layPlayers_62 rfl (lv_at hl 0 rfl) ?_
  refine q1_cs_i (As := [.int 5]) (rest := [.ref a0]) (wr := [(a0, .inl (cs 0, 45783, .inl (upd (upd (upd (upd (upd (upd (upd (upd (upd (upd (upd (upd (upd (upd (upd (upd (upd (upd (upd (upd (upd (fun _ => 0) 0 1) 11 1) 12 50) 21 (-1)) 22 (-1)) 23 1) 29 (-1)) 34 (-1)) 35 1) 41 (-1)) 46 (-1)) 47 1) 53 (-1)) 58 (-1)) 59 1) 65 (-1)) 70 (-1)) 71 1) 77 (-1)) 82 (-1)) 83 1)))]) ⟨hx, hb, hml, hown, hts⟩ (fun sz => k21_X9_playerAt l D cs sz ) (va_cwS 1 hts gX9_layPlayers_X9_playerAt rfl rfl rfl hdX9_playerAt_o ⟨Nat.le_of_ble_eq_true rfl, Nat.le_of_ble_eq_true rfl⟩) hN hP hD hS hA [] [0] rfl rfl rfl rfl (by decide) rfl rfl hl.1 (Nat.le_of_ble_eq_true rfl) dX9_layPlayers_63 (Nat.le_of_ble_eq_true rfl) (Nat.le_of_ble_eq_true rfl) (fun u16 H locs hP hD hS => ?_)
  have hP : va_P D vwCl [(a0, .inl (cs 0, 45783, .inl (upd (upd (upd (upd (upd (upd (upd (upd (upd (upd (upd (upd (upd (upd (upd (upd (upd (upd (upd (upd (upd (fun _ => 0) 0 1) 11 1) 12 50) 21 (-1)) 22 (-1)) 23 1) 29 (-1)) 34 (-1)) 35 1) 41 (-1)) 46 (-1)) 47 1) 53 (-1)) 58 (-1)) 59 1) 65 (-1)) 70 (-1)) 71 1) 77 (-1)) 82 (-1)) 83 1)))] H := hP
  have hD : va_D A [(a0, .inl (cs 0, 45783, .inl (upd (upd (upd (upd (upd (upd (upd (upd (upd (upd (upd (upd (upd (upd (upd (upd (upd (upd (upd (upd (upd (fun _ => 0) 0 1) 11 1) 12 50) 21 (-1)) 22 (-1)) 23 1) 29 (-1)) 34 (-1)) 35 1) 41 (-1)) 46 (-1)) 47 1) 53 (-1)) 58 (-1)) 59 1) 65 (-1)) 70 (-1)) 71 1) 77 (-1)) 82 (-1)) 83 1)))] := hD
  refine W.widen (k := 0) (n := 0) (Nat.le_of_ble_eq_true rfl) (Nat.le_of_ble_eq_true rfl) ?_
  refine lv_bipush (v := 6) hx hb dX9_layPlayers_66 (by decide) ?_
  refine lv_iadd hx hb dX9_layPlayers_68 ?_
  refine tp_i (89) (by decide) ?_
  refine lv_iconst (v := (-1)) hx hb dX9_layPlayers_69 (by decide) ?_
  refine st_i (g := (upd (upd (upd (upd (upd (upd (upd (upd (upd (upd (upd (upd (upd (upd (upd (upd (upd (upd (upd (upd (upd (upd (fun _ => 0) 0 1) 11 1) 12 50) 21 (-1)) 22 (-1)) 23 1) 29 (-1)) 34 (-1)) 35 1) 41 (-1)) 46 (-1)) 47 1) 53 (-1)) 58 (-1)) 59 1) 65 (-1)) 70 (-1)) 71 1) 77 (-1)) 82 (-1)) 83 1) 89 (-1))) hx hb hN hP hD hS 0 rfl (vin (by decide +kernel)) rfl dX9_layPlayers_70 (fun H locs hP hD hS => ?_)
  have hP : va_P D vwCl [(a0, .inl (cs 0, 45783, .inl (upd (upd (upd (upd (upd (upd (upd (upd (upd (upd (upd (upd (upd (upd (upd (upd (upd (upd (upd (upd (upd (upd (fun _ => 0) 0 1) 11 1) 12 50) 21 (-1)) 22 (-1)) 23 1) 29 (-1)) 34 (-1)) 35 1) 41 (-1)) 46 (-1)) 47 1) 53 (-1)) 58 (-1)) 59 1) 65 (-1)) 70 (-1)) 71 1) 77 (-1)) 82 (-1)) 83 1) 89 (-1))))] H := hP
  have hD : va_D A [(a0, .inl (cs 0, 45783, .inl (upd (upd (upd (upd (upd (upd (upd (upd (upd (upd (upd (upd (upd (upd (upd (upd (upd (upd (upd (upd (upd (upd (fun _ => 0) 0 1) 11 1) 12 50) 21 (-1)) 22 (-1)) 23 1) 29 (-1)) 34 (-1)) 35 1) 41 (-1)) 46 (-1)) 47 1) 53 (-1)) 58 (-1)) 59 1) 65 (-1)) 70 (-1)) 71 1) 77 (-1)) 82 (-1)) 83 1) 89 (-1))))] := hD
  refine lv_aload_n hx hb dX9_layPlayers_71 rfl (lv_at hl 1 rfl) ?_
  refine lv_iload_n hx hb dX9_layPlayers_72 rfl (lv_at hl 0 rfl) ?_
  refine q1_cs_i (As := [.int 5]) (rest := [.ref a0]) (wr := [(a0, .inl (cs 0, 45783, .inl (upd (upd (upd (upd (upd (upd (upd (upd (upd (upd (upd (upd (upd (upd (upd (upd (upd (upd (upd (upd (upd (upd (fun _ => 0) 0 1) 11 1) 12 50) 21 (-1)) 22 (-1)) 23 1) 29 (-1)) 34 (-1)) 35 1) 41 (-1)) 46 (-1)) 47 1) 53 (-1)) 58 (-1)) 59 1) 65 (-1)) 70 (-1)) 71 1) 77 (-1)) 82 (-1)) 83 1) 89 (-1))))]) ⟨hx, hb, hml, hown, hts⟩ (fun sz => k21_X9_playerAt l D cs sz ) (va_cwS 1 hts gX9_layPlayers_X9_playerAt rfl rfl rfl hdX9_playerAt_o ⟨Nat.le_of_ble_eq_true rfl, Nat.le_of_ble_eq_true rfl⟩) hN hP hD hS hA [] [0] rfl rfl rfl rfl (by decide) rfl rfl hl.1 (Nat.le_of_ble_eq_true rfl) dX9_layPlayers_73 (Nat.le_of_ble_eq_true rfl) (Nat.le_of_ble_eq_true rfl) (fun u17 H locs hP hD hS => ?_)
  have hP : va_P D vwCl [(a0, .inl (cs 0, 45783, .inl (upd (upd (upd (upd (upd (upd (upd (upd (upd (upd (upd (upd (upd (upd (upd (upd (upd (upd (upd (upd (upd (upd (fun _ => 0) 0 1) 11 1) 12 50) 21 (-1)) 22 (-1)) 23 1) 29 (-1)) 34 (-1)) 35 1) 41 (-1)) 46 (-1)) 47 1) 53 (-1)) 58 (-1)) 59 1) 65 (-1)) 70 (-1)) 71 1) 77 (-1)) 82 (-1)) 83 1) 89 (-1))))] H := hP
  have hD : va_D A [(a0, .inl (cs 0, 45783, .inl (upd (upd (upd (upd (upd (upd (upd (upd (upd (upd (upd (upd (upd (upd (upd (upd (upd (upd (upd (upd (upd (upd (fun _ => 0) 0 1) 11 1) 12 50) 21 (-1)) 22 (-1)) 23 1) 29 (-1)) 34 (-1)) 35 1) 41 (-1)) 46 (-1)) 47 1) 53 (-1)) 58 (-1)) 59 1) 65 (-1)) 70 (-1)) 71 1) 77 (-1)) 82 (-1)) 83 1) 89 (-1))))] := hD
  refine W.widen (k := 0) (n := 0) (Nat.le_of_ble_eq_true rfl) (Nat.le_of_ble_eq_true rfl) ?_
  refine lv_bipush (v := 11) hx hb dX9_layPlayers_76 (by decide) ?_
  refine lv_iadd hx hb dX9_layPlayers_78 ?_
  refine tp_i (94) (by decide) ?_
  refine lv_iconst (v := (-1)) hx hb dX9_layPlayers_79 (by decide) ?_
  refine st_i (g := (upd (upd (upd (upd (upd (upd (upd (upd (upd (upd (upd (upd (upd (upd (upd (upd (upd (upd (upd (upd (upd (upd (upd (fun _ => 0) 0 1) 11 1) 12 50) 21 (-1)) 22 (-1)) 23 1) 29 (-1)) 34 (-1)) 35 1) 41 (-1)) 46 (-1)) 47 1) 53 (-1)) 58 (-1)) 59 1) 65 (-1)) 70 (-1)) 71 1) 77 (-1)) 82 (-1)) 83 1) 89 (-1)) 94 (-1))) hx hb hN hP hD hS 0 rfl (vin (by decide +kernel)) rfl dX9_layPlayers_80 (fun H locs hP hD hS => ?_)
  have hP : va_P D vwCl [(a0, .inl (cs 0, 45783, .inl (upd (upd (upd (upd (upd (upd (upd (upd (upd (upd (upd (upd (upd (upd (upd (upd (upd (upd (upd (upd (upd (upd (upd (fun _ => 0) 0 1) 11 1) 12 50) 21 (-1)) 22 (-1)) 23 1) 29 (-1)) 34 (-1)) 35 1) 41 (-1)) 46 (-1)) 47 1) 53 (-1)) 58 (-1)) 59 1) 65 (-1)) 70 (-1)) 71 1) 77 (-1)) 82 (-1)) 83 1) 89 (-1)) 94 (-1))))] H := hP
  have hD : va_D A [(a0, .inl (cs 0, 45783, .inl (upd (upd (upd (upd (upd (upd (upd (upd (upd (upd (upd (upd (upd (upd (upd (upd (upd (upd (upd (upd (upd (upd (upd (fun _ => 0) 0 1) 11 1) 12 50) 21 (-1)) 22 (-1)) 23 1) 29 (-1)) 34 (-1)) 35 1) 41 (-1)) 46 (-1)) 47 1) 53 (-1)) 58 (-1)) 59 1) 65 (-1)) 70 (-1)) 71 1) 77 (-1)) 82 (-1)) 83 1) 89 (-1)) 94 (-1))))] := hD
  refine lv_iinc (v := 6) (lv' := [(2, .int 6), (0, .ref a0), (1, .int 1)]) hx hb dX9_layPlayers_81 hl (k := 0) rfl (by decide) (by decide) rfl (fun ls hl => ?_)
  refine lv_goto (tgt := 46) hx hb dX9_layPlayers_84 (by decide) ?_
  refine lv_iload_n hx hb dX9_layPlayers_46 rfl (lv_at hl 0 rfl) ?_
  refine lv_bipush (v := 8) hx hb dX9_layPlayers_47 (by decide) ?_
  refine lv_icmp_ge (tgt := 87) hx hb dX9_layPlayers_49 (by decide) (fun c9 => absurd c9 (by decide)) (fun _ => ?_)
  refine lv_aload_n hx hb dX9_layPlayers_52 rfl (lv_at hl 1 rfl) ?_
  refine lv_iload_n hx hb dX9_layPlayers_53 rfl (lv_at hl 0 rfl) ?_
  refine q1_cs_i (As := [.int 6]) (rest := [.ref a0]) (wr := [(a0, .inl (cs 0, 45783, .inl (upd (upd (upd (upd (upd (upd (upd (upd (upd (upd (upd (upd (upd (upd (upd (upd (upd (upd (upd (upd (upd (upd (upd (fun _ => 0) 0 1) 11 1) 12 50) 21 (-1)) 22 (-1)) 23 1) 29 (-1)) 34 (-1)) 35 1) 41 (-1)) 46 (-1)) 47 1) 53 (-1)) 58 (-1)) 59 1) 65 (-1)) 70 (-1)) 71 1) 77 (-1)) 82 (-1)) 83 1) 89 (-1)) 94 (-1))))]) ⟨hx, hb, hml, hown, hts⟩ (fun sz => k22_X9_playerAt l D cs sz ) (va_cwS 1 hts gX9_layPlayers_X9_playerAt rfl rfl rfl hdX9_playerAt_o ⟨Nat.le_of_ble_eq_true rfl, Nat.le_of_ble_eq_true rfl⟩) hN hP hD hS hA [] [0] rfl rfl rfl rfl (by decide) rfl rfl hl.1 (Nat.le_of_ble_eq_true rfl) dX9_layPlayers_54 (Nat.le_of_ble_eq_true rfl) (Nat.le_of_ble_eq_true rfl) (fun u18 H locs hP hD hS => ?_)
  have hP : va_P D vwCl [(a0, .inl (cs 0, 45783, .inl (upd (upd (upd (upd (upd (upd (upd (upd (upd (upd (upd (upd (upd (upd (upd (upd (upd (upd (upd (upd (upd (upd (upd (fun _ => 0) 0 1) 11 1) 12 50) 21 (-1)) 22 (-1)) 23 1) 29 (-1)) 34 (-1)) 35 1) 41 (-1)) 46 (-1)) 47 1) 53 (-1)) 58 (-1)) 59 1) 65 (-1)) 70 (-1)) 71 1) 77 (-1)) 82 (-1)) 83 1) 89 (-1)) 94 (-1))))] H := hP
  have hD : va_D A [(a0, .inl (cs 0, 45783, .inl (upd (upd (upd (upd (upd (upd (upd (upd (upd (upd (upd (upd (upd (upd (upd (upd (upd (upd (upd (upd (upd (upd (upd (fun _ => 0) 0 1) 11 1) 12 50) 21 (-1)) 22 (-1)) 23 1) 29 (-1)) 34 (-1)) 35 1) 41 (-1)) 46 (-1)) 47 1) 53 (-1)) 58 (-1)) 59 1) 65 (-1)) 70 (-1)) 71 1) 77 (-1)) 82 (-1)) 83 1) 89 (-1)) 94 (-1))))] := hD
  refine W.widen (k := 0) (n := 0) (Nat.le_of_ble_eq_true rfl) (Nat.le_of_ble_eq_true rfl) ?_
  refine lv_iconst (v := 0) hx hb dX9_layPlayers_57 (by decide) ?_
  refine lv_iadd hx hb dX9_layPlayers_58 ?_
  refine tp_i (95) (by decide) ?_
  refine lv_iconst (v := 1) hx hb dX9_layPlayers_59 (by decide) ?_
  refine st_i (g := (upd (upd (upd (upd (upd (upd (upd (upd (upd (upd (upd (upd (upd (upd (upd (upd (upd (upd (upd (upd (upd (upd (upd (upd (fun _ => 0) 0 1) 11 1) 12 50) 21 (-1)) 22 (-1)) 23 1) 29 (-1)) 34 (-1)) 35 1) 41 (-1)) 46 (-1)) 47 1) 53 (-1)) 58 (-1)) 59 1) 65 (-1)) 70 (-1)) 71 1) 77 (-1)) 82 (-1)) 83 1) 89 (-1)) 94 (-1)) 95 1)) hx hb hN hP hD hS 0 rfl (vin (by decide +kernel)) rfl dX9_layPlayers_60 (fun H locs hP hD hS => ?_)
  have hP : va_P D vwCl [(a0, .inl (cs 0, 45783, .inl (upd (upd (upd (upd (upd (upd (upd (upd (upd (upd (upd (upd (upd (upd (upd (upd (upd (upd (upd (upd (upd (upd (upd (upd (fun _ => 0) 0 1) 11 1) 12 50) 21 (-1)) 22 (-1)) 23 1) 29 (-1)) 34 (-1)) 35 1) 41 (-1)) 46 (-1)) 47 1) 53 (-1)) 58 (-1)) 59 1) 65 (-1)) 70 (-1)) 71 1) 77 (-1)) 82 (-1)) 83 1) 89 (-1)) 94 (-1)) 95 1)))] H := hP
  have hD : va_D A [(a0, .inl (cs 0, 45783, .inl (upd (upd (upd (upd (upd (upd (upd (upd (upd (upd (upd (upd (upd (upd (upd (upd (upd (upd (upd (upd (upd (upd (upd (upd (fun _ => 0) 0 1) 11 1) 12 50) 21 (-1)) 22 (-1)) 23 1) 29 (-1)) 34 (-1)) 35 1) 41 (-1)) 46 (-1)) 47 1) 53 (-1)) 58 (-1)) 59 1) 65 (-1)) 70 (-1)) 71 1) 77 (-1)) 82 (-1)) 83 1) 89 (-1)) 94 (-1)) 95 1)))] := hD
  refine lv_aload_n hx hb dX9_layPlayers_61 rfl (lv_at hl 1 rfl) ?_
  refine lv_iload_n hx hb dX9_layPlayers_62 rfl (lv_at hl 0 rfl) ?_
  refine q1_cs_i (As := [.int 6]) (rest := [.ref a0]) (wr := [(a0, .inl (cs 0, 45783, .inl (upd (upd (upd (upd (upd (upd (upd (upd (upd (upd (upd (upd (upd (upd (upd (upd (upd (upd (upd (upd (upd (upd (upd (upd (fun _ => 0) 0 1) 11 1) 12 50) 21 (-1)) 22 (-1)) 23 1) 29 (-1)) 34 (-1)) 35 1) 41 (-1)) 46 (-1)) 47 1) 53 (-1)) 58 (-1)) 59 1) 65 (-1)) 70 (-1)) 71 1) 77 (-1)) 82 (-1)) 83 1) 89 (-1)) 94 (-1)) 95 1)))]) ⟨hx, hb, hml, hown, hts⟩ (fun sz => k22_X9_playerAt l D cs sz ) (va_cwS 1 hts gX9_layPlayers_X9_playerAt rfl rfl rfl hdX9_playerAt_o ⟨Nat.le_of_ble_eq_true rfl, Nat.le_of_ble_eq_true rfl⟩) hN hP hD hS hA [] [0] rfl rfl rfl rfl (by decide) rfl rfl hl.1 (Nat.le_of_ble_eq_true rfl) dX9_layPlayers_63 (Nat.le_of_ble_eq_true rfl) (Nat.le_of_ble_eq_true rfl) (fun u19 H locs hP hD hS => ?_)
  have hP : va_P D vwCl [(a0, .inl (cs 0, 45783, .inl (upd (upd (upd (upd (upd (upd (upd (upd (upd (upd (upd (upd (upd (upd (upd (upd (upd (upd (upd (upd (upd (upd (upd (upd (fun _ => 0) 0 1) 11 1) 12 50) 21 (-1)) 22 (-1)) 23 1) 29 (-1)) 34 (-1)) 35 1) 41 (-1)) 46 (-1)) 47 1) 53 (-1)) 58 (-1)) 59 1) 65 (-1)) 70 (-1)) 71 1) 77 (-1)) 82 (-1)) 83 1) 89 (-1)) 94 (-1)) 95 1)))] H := hP
  have hD : va_D A [(a0, .inl (cs 0, 45783, .inl (upd (upd (upd (upd (upd (upd (upd (upd (upd (upd (upd (upd (upd (upd (upd (upd (upd (upd (upd (upd (upd (upd (upd (upd (fun _ => 0) 0 1) 11 1) 12 50) 21 (-1)) 22 (-1)) 23 1) 29 (-1)) 34 (-1)) 35 1) 41 (-1)) 46 (-1)) 47 1) 53 (-1)) 58 (-1)) 59 1) 65 (-1)) 70 (-1)) 71 1) 77 (-1)) 82 (-1)) 83 1) 89 (-1)) 94 (-1)) 95 1)))] := hD
  refine W.widen (k := 0) (n := 0) (Nat.le_of_ble_eq_true rfl) (Nat.le_of_ble_eq_true rfl) ?_
  refine lv_bipush (v := 6) hx hb dX9_layPlayers_66 (by decide) ?_
  refine lv_iadd hx hb dX9_layPlayers_68 ?_
  refine tp_i (101) (by decide) ?_
  refine lv_iconst (v := (-1)) hx hb dX9_layPlayers_69 (by decide) ?_
  refine st_i (g := (upd (upd (upd (upd (upd (upd (upd (upd (upd (upd (upd (upd (upd (upd (upd (upd (upd (upd (upd (upd (upd (upd (upd (upd (upd (fun _ => 0) 0 1) 11 1) 12 50) 21 (-1)) 22 (-1)) 23 1) 29 (-1)) 34 (-1)) 35 1) 41 (-1)) 46 (-1)) 47 1) 53 (-1)) 58 (-1)) 59 1) 65 (-1)) 70 (-1)) 71 1) 77 (-1)) 82 (-1)) 83 1) 89 (-1)) 94 (-1)) 95 1) 101 (-1))) hx hb hN hP hD hS 0 rfl (vin (by decide +kernel)) rfl dX9_layPlayers_70 (fun H locs hP hD hS => ?_)
  have hP : va_P D vwCl [(a0, .inl (cs 0, 45783, .inl (upd (upd (upd (upd (upd (upd (upd (upd (upd (upd (upd (upd (upd (upd (upd (upd (upd (upd (upd (upd (upd (upd (upd (upd (upd (fun _ => 0) 0 1) 11 1) 12 50) 21 (-1)) 22 (-1)) 23 1) 29 (-1)) 34 (-1)) 35 1) 41 (-1)) 46 (-1)) 47 1) 53 (-1)) 58 (-1)) 59 1) 65 (-1)) 70 (-1)) 71 1) 77 (-1)) 82 (-1)) 83 1) 89 (-1)) 94 (-1)) 95 1) 101 (-1))))] H := hP
  have hD : va_D A [(a0, .inl (cs 0, 45783, .inl (upd (upd (upd (upd (upd (upd (upd (upd (upd (upd (upd (upd (upd (upd (upd (upd (upd (upd (upd (upd (upd (upd (upd (upd (upd (fun _ => 0) 0 1) 11 1) 12 50) 21 (-1)) 22 (-1)) 23 1) 29 (-1)) 34 (-1)) 35 1) 41 (-1)) 46 (-1)) 47 1) 53 (-1)) 58 (-1)) 59 1) 65 (-1)) 70 (-1)) 71 1) 77 (-1)) 82 (-1)) 83 1) 89 (-1)) 94 (-1)) 95 1) 101 (-1))))] := hD
  refine lv_aload_n hx hb dX9_layPlayers_71 rfl (lv_at hl 1 rfl) ?_
  refine lv_iload_n hx hb dX9_layPlayers_72 rfl (lv_at hl 0 rfl) ?_
  refine q1_cs_i (As := [.int 6]) (rest := [.ref a0]) (wr := [(a0, .inl (cs 0, 45783, .inl (upd (upd (upd (upd (upd (upd (upd (upd (upd (upd (upd (upd (upd (upd (upd (upd (upd (upd (upd (upd (upd (upd (upd (upd (upd (fun _ => 0) 0 1) 11 1) 12 50) 21 (-1)) 22 (-1)) 23 1) 29 (-1)) 34 (-1)) 35 1) 41 (-1)) 46 (-1)) 47 1) 53 (-1)) 58 (-1)) 59 1) 65 (-1)) 70 (-1)) 71 1) 77 (-1)) 82 (-1)) 83 1) 89 (-1)) 94 (-1)) 95 1) 101 (-1))))]) ⟨hx, hb, hml, hown, hts⟩ (fun sz => k22_X9_playerAt l D cs sz ) (va_cwS 1 hts gX9_layPlayers_X9_playerAt rfl rfl rfl hdX9_playerAt_o ⟨Nat.le_of_ble_eq_true rfl, Nat.le_of_ble_eq_true rfl⟩) hN hP hD hS hA [] [0] rfl rfl rfl rfl (by decide) rfl rfl hl.1 (Nat.le_of_ble_eq_true rfl) dX9_layPlayers_73 (Nat.le_of_ble_eq_true rfl) (Nat.le_of_ble_eq_true rfl) (fun u20 H locs hP hD hS => ?_)
  have hP : va_P D vwCl [(a0, .inl (cs 0, 45783, .inl (upd (upd (upd (upd (upd (upd (upd (upd (upd (upd (upd (upd (upd (upd (upd (upd (upd (upd (upd (upd (upd (upd (upd (upd (upd (fun _ => 0) 0 1) 11 1) 12 50) 21 (-1)) 22 (-1)) 23 1) 29 (-1)) 34 (-1)) 35 1) 41 (-1)) 46 (-1)) 47 1) 53 (-1)) 58 (-1)) 59 1) 65 (-1)) 70 (-1)) 71 1) 77 (-1)) 82 (-1)) 83 1) 89 (-1)) 94 (-1)) 95 1) 101 (-1))))] H := hP
  have hD : va_D A [(a0, .inl (cs 0, 45783, .inl (upd (upd (upd (upd (upd (upd (upd (upd (upd (upd (upd (upd (upd (upd (upd (upd (upd (upd (upd (upd (upd (upd (upd (upd (upd (fun _ => 0) 0 1) 11 1) 12 50) 21 (-1)) 22 (-1)) 23 1) 29 (-1)) 34 (-1)) 35 1) 41 (-1)) 46 (-1)) 47 1) 53 (-1)) 58 (-1)) 59 1) 65 (-1)) 70 (-1)) 71 1) 77 (-1)) 82 (-1)) 83 1) 89 (-1)) 94 (-1)) 95 1) 101 (-1))))] := hD
  refine W.widen (k := 0) (n := 0) (Nat.le_of_ble_eq_true rfl) (Nat.le_of_ble_eq_true rfl) ?_
  refine lv_bipush (v := 11) hx hb dX9_layPlayers_76 (by decide) ?_
  refine lv_iadd hx hb dX9_layPlayers_78 ?_
  refine tp_i (106) (by decide) ?_
  refine lv_iconst (v := (-1)) hx hb dX9_layPlayers_79 (by decide) ?_
  refine st_i (g := (upd (upd (upd (upd (upd (upd (upd (upd (upd (upd (upd (upd (upd (upd (upd (upd (upd (upd (upd (upd (upd (upd (upd (upd (upd (upd (fun _ => 0) 0 1) 11 1) 12 50) 21 (-1)) 22 (-1)) 23 1) 29 (-1)) 34 (-1)) 35 1) 41 (-1)) 46 (-1)) 47 1) 53 (-1)) 58 (-1)) 59 1) 65 (-1)) 70 (-1)) 71 1) 77 (-1)) 82 (-1)) 83 1) 89 (-1)) 94 (-1)) 95 1) 101 (-1)) 106 (-1))) hx hb hN hP hD hS 0 rfl (vin (by decide +kernel)) rfl dX9_layPlayers_80 (fun H locs hP hD hS => ?_)
  have hP : va_P D vwCl [(a0, .inl (cs 0, 45783, .inl (upd (upd (upd (upd (upd (upd (upd (upd (upd (upd (upd (upd (upd (upd (upd (upd (upd (upd (upd (upd (upd (upd (upd (upd (upd (upd (fun _ => 0) 0 1) 11 1) 12 50) 21 (-1)) 22 (-1)) 23 1) 29 (-1)) 34 (-1)) 35 1) 41 (-1)) 46 (-1)) 47 1) 53 (-1)) 58 (-1)) 59 1) 65 (-1)) 70 (-1)) 71 1) 77 (-1)) 82 (-1)) 83 1) 89 (-1)) 94 (-1)) 95 1) 101 (-1)) 106 (-1))))] H := hP
  have hD : va_D A [(a0, .inl (cs 0, 45783, .inl (upd (upd (upd (upd (upd (upd (upd (upd (upd (upd (upd (upd (upd (upd (upd (upd (upd (upd (upd (upd (upd (upd (upd (upd (upd (upd (fun _ => 0) 0 1) 11 1) 12 50) 21 (-1)) 22 (-1)) 23 1) 29 (-1)) 34 (-1)) 35 1) 41 (-1)) 46 (-1)) 47 1) 53 (-1)) 58 (-1)) 59 1) 65 (-1)) 70 (-1)) 71 1) 77 (-1)) 82 (-1)) 83 1) 89 (-1)) 94 (-1)) 95 1) 101 (-1)) 106 (-1))))] := hD
  refine lv_iinc (v := 7) (lv' := [(2, .int 7), (0, .ref a0), (1, .int 1)]) hx hb dX9_layPlayers_81 hl (k := 0) rfl (by decide) (by decide) rfl (fun ls hl => ?_)
  refine lv_goto (tgt := 46) hx hb dX9_layPlayers_84 (by decide) ?_
  refine lv_iload_n hx hb dX9_layPlayers_46 rfl (lv_at hl 0 rfl) ?_
  refine lv_bipush (v := 8) hx hb dX9_layPlayers_47 (by decide) ?_
  refine lv_icmp_ge (tgt := 87) hx hb dX9_layPlayers_49 (by decide) (fun c9 => absurd c9 (by decide)) (fun _ => ?_)
  refine lv_aload_n hx hb dX9_layPlayers_52 rfl (lv_at hl 1 rfl) ?_
  refine lv_iload_n hx hb dX9_layPlayers_53 rfl (lv_at hl 0 rfl) ?_
  refine q1_cs_i (As := [.int 7]) (rest := [.ref a0]) (wr := [(a0, .inl (cs 0, 45783, .inl (upd (upd (upd (upd (upd (upd (upd (upd (upd (upd (upd (upd (upd (upd (upd (upd (upd (upd (upd (upd (upd (upd (upd (upd (upd (upd (fun _ => 0) 0 1) 11 1) 12 50) 21 (-1)) 22 (-1)) 23 1) 29 (-1)) 34 (-1)) 35 1) 41 (-1)) 46 (-1)) 47 1) 53 (-1)) 58 (-1)) 59 1) 65 (-1)) 70 (-1)) 71 1) 77 (-1)) 82 (-1)) 83 1) 89 (-1)) 94 (-1)) 95 1) 101 (-1)) 106 (-1))))]) ⟨hx, hb, hml, hown, hts⟩ (fun sz => k23_X9_playerAt l D cs sz ) (va_cwS 1 hts gX9_layPlayers_X9_playerAt rfl rfl rfl hdX9_playerAt_o ⟨Nat.le_of_ble_eq_true rfl, Nat.le_of_ble_eq_true rfl⟩) hN hP hD hS hA [] [0] rfl rfl rfl rfl (by decide) rfl rfl hl.1 (Nat.le_of_ble_eq_true rfl) dX9_layPlayers_54 (Nat.le_of_ble_eq_true rfl) (Nat.le_of_ble_eq_true rfl) (fun u21 H locs hP hD hS => ?_)
  have hP : va_P D vwCl [(a0, .inl (cs 0, 45783, .inl (upd (upd (upd (upd (upd (upd (upd (upd (upd (upd (upd (upd (upd (upd (upd (upd (upd (upd (upd (upd (upd (upd (upd (upd (upd (upd (fun _ => 0) 0 1) 11 1) 12 50) 21 (-1)) 22 (-1)) 23 1) 29 (-1)) 34 (-1)) 35 1) 41 (-1)) 46 (-1)) 47 1) 53 (-1)) 58 (-1)) 59 1) 65 (-1)) 70 (-1)) 71 1) 77 (-1)) 82 (-1)) 83 1) 89 (-1)) 94 (-1)) 95 1) 101 (-1)) 106 (-1))))] H := hP
  have hD : va_D A [(a0, .inl (cs 0, 45783, .inl (upd (upd (upd (upd (upd (upd (upd (upd (upd (upd (upd (upd (upd (upd (upd (upd (upd (upd (upd (upd (upd (upd (upd (upd (upd (upd (fun _ => 0) 0 1) 11 1) 12 50) 21 (-1)) 22 (-1)) 23 1) 29 (-1)) 34 (-1)) 35 1) 41 (-1)) 46 (-1)) 47 1) 53 (-1)) 58 (-1)) 59 1) 65 (-1)) 70 (-1)) 71 1) 77 (-1)) 82 (-1)) 83 1) 89 (-1)) 94 (-1)) 95 1) 101 (-1)) 106 (-1))))] := hD
  refine W.widen (k := 0) (n := 0) (Nat.le_of_ble_eq_true rfl) (Nat.le_of_ble_eq_true rfl) ?_
  refine lv_iconst (v := 0) hx hb dX9_layPlayers_57 (by decide) ?_
  refine lv_iadd hx hb dX9_layPlayers_58 ?_
  refine tp_i (107) (by decide) ?_
  refine lv_iconst (v := 1) hx hb dX9_layPlayers_59 (by decide) ?_
  refine st_i (g := (upd (upd (upd (upd (upd (upd (upd (upd (upd (upd (upd (upd (upd (upd (upd (upd (upd (upd (upd (upd (upd (upd (upd (upd (upd (upd (upd (fun _ => 0) 0 1) 11 1) 12 50) 21 (-1)) 22 (-1)) 23 1) 29 (-1)) 34 (-1)) 35 1) 41 (-1)) 46 (-1)) 47 1) 53 (-1)) 58 (-1)) 59 1) 65 (-1)) 70 (-1)) 71 1) 77 (-1)) 82 (-1)) 83 1) 89 (-1)) 94 (-1)) 95 1) 101 (-1)) 106 (-1)) 107 1)) hx hb hN hP hD hS 0 rfl (vin (by decide +kernel)) rfl dX9_layPlayers_60 (fun H locs hP hD hS => ?_)
  have hP : va_P D vwCl [(a0, .inl (cs 0, 45783, .inl (upd (upd (upd (upd (upd (upd (upd (upd (upd (upd (upd (upd (upd (upd (upd (upd (upd (upd (upd (upd (upd (upd (upd (upd (upd (upd (upd (fun _ => 0) 0 1) 11 1) 12 50) 21 (-1)) 22 (-1)) 23 1) 29 (-1)) 34 (-1)) 35 1) 41 (-1)) 46 (-1)) 47 1) 53 (-1)) 58 (-1)) 59 1) 65 (-1)) 70 (-1)) 71 1) 77 (-1)) 82 (-1)) 83 1) 89 (-1)) 94 (-1)) 95 1) 101 (-1)) 106 (-1)) 107 1)))] H := hP
  have hD : va_D A [(a0, .inl (cs 0, 45783, .inl (upd (upd (upd (upd (upd (upd (upd (upd (upd (upd (upd (upd (upd (upd (upd (upd (upd (upd (upd (upd (upd (upd (upd (upd (upd (upd (upd (fun _ => 0) 0 1) 11 1) 12 50) 21 (-1)) 22 (-1)) 23 1) 29 (-1)) 34 (-1)) 35 1) 41 (-1)) 46 (-1)) 47 1) 53 (-1)) 58 (-1)) 59 1) 65 (-1)) 70 (-1)) 71 1) 77 (-1)) 82 (-1)) 83 1) 89 (-1)) 94 (-1)) 95 1) 101 (-1)) 106 (-1)) 107 1)))] := hD
  refine lv_aload_n hx hb dX9_layPlayers_61 rfl (lv_at hl 1 rfl) ?_
  refine lv_iload_n hx hb dX9_layPlayers_62 rfl (lv_at hl 0 rfl) ?_
  refine q1_cs_i (As := [.int 7]) (rest := [.ref a0]) (wr := [(a0, .inl (cs 0, 45783, .inl (upd (upd (upd (upd (upd (upd (upd (upd (upd (upd (upd (upd (upd (upd (upd (upd (upd (upd (upd (upd (upd (upd (upd (upd (upd (upd (upd (fun _ => 0) 0 1) 11 1) 12 50) 21 (-1)) 22 (-1)) 23 1) 29 (-1)) 34 (-1)) 35 1) 41 (-1)) 46 (-1)) 47 1) 53 (-1)) 58 (-1)) 59 1) 65 (-1)) 70 (-1)) 71 1) 77 (-1)) 82 (-1)) 83 1) 89 (-1)) 94 (-1)) 95 1) 101 (-1)) 106 (-1)) 107 1)))]) ⟨hx, hb, hml, hown, hts⟩ (fun sz => k23_X9_playerAt l D cs sz ) (va_cwS 1 hts gX9_layPlayers_X9_playerAt rfl rfl rfl hdX9_playerAt_o ⟨Nat.le_of_ble_eq_true rfl, Nat.le_of_ble_eq_true rfl⟩) hN hP hD hS hA [] [0] rfl rfl rfl rfl (by decide) rfl rfl hl.1 (Nat.le_of_ble_eq_true rfl) dX9_layPlayers_63 (Nat.le_of_ble_eq_true rfl) (Nat.le_of_ble_eq_true rfl) (fun u22 H locs hP hD hS => ?_)
  have hP : va_P D vwCl [(a0, .inl (cs 0, 45783, .inl (upd (upd (upd (upd (upd (upd (upd (upd (upd (upd (upd (upd (upd (upd (upd (upd (upd (upd (upd (upd (upd (upd (upd (upd (upd (upd (upd (fun _ => 0) 0 1) 11 1) 12 50) 21 (-1)) 22 (-1)) 23 1) 29 (-1)) 34 (-1)) 35 1) 41 (-1)) 46 (-1)) 47 1) 53 (-1)) 58 (-1)) 59 1) 65 (-1)) 70 (-1)) 71 1) 77 (-1)) 82 (-1)) 83 1) 89 (-1)) 94 (-1)) 95 1) 101 (-1)) 106 (-1)) 107 1)))] H := hP
  have hD : va_D A [(a0, .inl (cs 0, 45783, .inl (upd (upd (upd (upd (upd (upd (upd (upd (upd (upd (upd (upd (upd (upd (upd (upd (upd (upd (upd (upd (upd (upd (upd (upd (upd (upd (upd (fun _ => 0) 0 1) 11 1) 12 50) 21 (-1)) 22 (-1)) 23 1) 29 (-1)) 34 (-1)) 35 1) 41 (-1)) 46 (-1)) 47 1) 53 (-1)) 58 (-1)) 59 1) 65 (-1)) 70 (-1)) 71 1) 77 (-1)) 82 (-1)) 83 1) 89 (-1)) 94 (-1)) 95 1) 101 (-1)) 106 (-1)) 107 1)))] := hD
  refine W.widen (k := 0) (n := 0) (Nat.le_of_ble_eq_true rfl) (Nat.le_of_ble_eq_true rfl) ?_
  refine lv_bipush (v := 6) hx hb dX9_layPlayers_66 (by decide) ?_
  refine lv_iadd hx hb dX9_layPlayers_68 ?_
  refine tp_i (113) (by decide) ?_
  refine lv_iconst (v := (-1)) hx hb dX9_layPlayers_69 (by decide) ?_
  refine st_i (g := (upd (upd (upd (upd (upd (upd (upd (upd (upd (upd (upd (upd (upd (upd (upd (upd (upd (upd (upd (upd (upd (upd (upd (upd (upd (upd (upd (upd (fun _ => 0) 0 1) 11 1) 12 50) 21 (-1)) 22 (-1)) 23 1) 29 (-1)) 34 (-1)) 35 1) 41 (-1)) 46 (-1)) 47 1) 53 (-1)) 58 (-1)) 59 1) 65 (-1)) 70 (-1)) 71 1) 77 (-1)) 82 (-1)) 83 1) 89 (-1)) 94 (-1)) 95 1) 101 (-1)) 106 (-1)) 107 1) 113 (-1))) hx hb hN hP hD hS 0 rfl (vin (by decide +kernel)) rfl dX9_layPlayers_70 (fun H locs hP hD hS => ?_)
  have hP : va_P D vwCl [(a0, .inl (cs 0, 45783, .inl (upd (upd (upd (upd (upd (upd (upd (upd (upd (upd (upd (upd (upd (upd (upd (upd (upd (upd (upd (upd (upd (upd (upd (upd (upd (upd (upd (upd (fun _ => 0) 0 1) 11 1) 12 50) 21 (-1)) 22 (-1)) 23 1) 29 (-1)) 34 (-1)) 35 1) 41 (-1)) 46 (-1)) 47 1) 53 (-1)) 58 (-1)) 59 1) 65 (-1)) 70 (-1)) 71 1) 77 (-1)) 82 (-1)) 83 1) 89 (-1)) 94 (-1)) 95 1) 101 (-1)) 106 (-1)) 107 1) 113 (-1))))] H := hP
  have hD : va_D A [(a0, .inl (cs 0, 45783, .inl (upd (upd (upd (upd (upd (upd (upd (upd (upd (upd (upd (upd (upd (upd (upd (upd (upd (upd (upd (upd (upd (upd (upd (upd (upd (upd (upd (upd (fun _ => 0) 0 1) 11 1) 12 50) 21 (-1)) 22 (-1)) 23 1) 29 (-1)) 34 (-1)) 35 1) 41 (-1)) 46 (-1)) 47 1) 53 (-1)) 58 (-1)) 59 1) 65 (-1)) 70 (-1)) 71 1) 77 (-1)) 82 (-1)) 83 1) 89 (-1)) 94 (-1)) 95 1) 101 (-1)) 106 (-1)) 107 1) 113 (-1))))] := hD
  refine lv_aload_n hx hb dX9_layPlayers_71 rfl (lv_at hl 1 rfl) ?_
  refine lv_iload_n hx hb dX9_layPlayers_72 rfl (lv_at hl 0 rfl) ?_
  refine q1_cs_i (As := [.int 7]) (rest := [.ref a0]) (wr := [(a0, .inl (cs 0, 45783, .inl (upd (upd (upd (upd (upd (upd (upd (upd (upd (upd (upd (upd (upd (upd (upd (upd (upd (upd (upd (upd (upd (upd (upd (upd (upd (upd (upd (upd (fun _ => 0) 0 1) 11 1) 12 50) 21 (-1)) 22 (-1)) 23 1) 29 (-1)) 34 (-1)) 35 1) 41 (-1)) 46 (-1)) 47 1) 53 (-1)) 58 (-1)) 59 1) 65 (-1)) 70 (-1)) 71 1) 77 (-1)) 82 (-1)) 83 1) 89 (-1)) 94 (-1)) 95 1) 101 (-1)) 106 (-1)) 107 1) 113 (-1))))]) ⟨hx, hb, hml, hown, hts⟩ (fun sz => k23_X9_playerAt l D cs sz ) (va_cwS 1 hts gX9_layPlayers_X9_playerAt rfl rfl rfl hdX9_playerAt_o ⟨Nat.le_of_ble_eq_true rfl, Nat.le_of_ble_eq_true rfl⟩) hN hP hD hS hA [] [0] rfl rfl rfl rfl (by decide) rfl rfl hl.1 (Nat.le_of_ble_eq_true rfl) dX9_layPlayers_73 (Nat.le_of_ble_eq_true rfl) (Nat.le_of_ble_eq_true rfl) (fun u23 H locs hP hD hS => ?_)
  have hP : va_P D vwCl [(a0, .inl (cs 0, 45783, .inl (upd (upd (upd (upd (upd (upd (upd (upd (upd (upd (upd (upd (upd (upd (upd (upd (upd (upd (upd (upd (upd (upd (upd (upd (upd (upd (upd (upd (fun _ => 0) 0 1) 11 1) 12 50) 21 (-1)) 22 (-1)) 23 1) 29 (-1)) 34 (-1)) 35 1) 41 (-1)) 46 (-1)) 47 1) 53 (-1)) 58 (-1)) 59 1) 65 (-1)) 70 (-1)) 71 1) 77 (-1)) 82 (-1)) 83 1) 89 (-1)) 94 (-1)) 95 1) 101 (-1)) 106 (-1)) 107 1) 113 (-1))))] H := hP
  have hD : va_D A [(a0, .inl (cs 0, 45783, .inl (upd (upd (upd (upd (upd (upd (upd (upd (upd (upd (upd (upd (upd (upd (upd (upd (upd (upd (upd (upd (upd (upd (upd (upd (upd (upd (upd (upd (fun _ => 0) 0 1) 11 1) 12 50) 21 (-1)) 22 (-1)) 23 1) 29 (-1)) 34 (-1)) 35 1) 41 (-1)) 46 (-1)) 47 1) 53 (-1)) 58 (-1)) 59 1) 65 (-1)) 70 (-1)) 71 1) 77 (-1)) 82 (-1)) 83 1) 89 (-1)) 94 (-1)) 95 1) 101 (-1)) 106 (-1)) 107 1) 113 (-1))))] := hD
  refine W.widen (k := 0) (n := 0) (Nat.le_of_ble_eq_true rfl) (Nat.le_of_ble_eq_true rfl) ?_
  refine lv_bipush (v := 11) hx hb dX9_layPlayers_76 (by decide) ?_
  refine lv_iadd hx hb dX9_layPlayers_78 ?_
  refine tp_i (118) (by decide) ?_
  refine lv_iconst (v := (-1)) hx hb dX9_layPlayers_79 (by decide) ?_
  refine st_i (g := (upd (upd (upd (upd (upd (upd (upd (upd (upd (upd (upd (upd (upd (upd (upd (upd (upd (upd (upd (upd (upd (upd (upd (upd (upd (upd (upd (upd (upd (fun _ => 0) 0 1) 11 1) 12 50) 21 (-1)) 22 (-1)) 23 1) 29 (-1)) 34 (-1)) 35 1) 41 (-1)) 46 (-1)) 47 1) 53 (-1)) 58 (-1)) 59 1) 65 (-1)) 70 (-1)) 71 1) 77 (-1)) 82 (-1)) 83 1) 89 (-1)) 94 (-1)) 95 1) 101 (-1)) 106 (-1)) 107 1) 113 (-1)) 118 (-1))) hx hb hN hP hD hS 0 rfl (vin (by decide +kernel)) rfl dX9_layPlayers_80 (fun H locs hP hD hS => ?_)
  have hP : va_P D vwCl [(a0, .inl (cs 0, 45783, .inl (upd (upd (upd (upd (upd (upd (upd (upd (upd (upd (upd (upd (upd (upd (upd (upd (upd (upd (upd (upd (upd (upd (upd (upd (upd (upd (upd (upd (upd (fun _ => 0) 0 1) 11 1) 12 50) 21 (-1)) 22 (-1)) 23 1) 29 (-1)) 34 (-1)) 35 1) 41 (-1)) 46 (-1)) 47 1) 53 (-1)) 58 (-1)) 59 1) 65 (-1)) 70 (-1)) 71 1) 77 (-1)) 82 (-1)) 83 1) 89 (-1)) 94 (-1)) 95 1) 101 (-1)) 106 (-1)) 107 1) 113 (-1)) 118 (-1))))] H := hP
  have hD : va_D A [(a0, .inl (cs 0, 45783, .inl (upd (upd (upd (upd (upd (upd (upd (upd (upd (upd (upd (upd (upd (upd (upd (upd (upd (upd (upd (upd (upd (upd (upd (upd (upd (upd (upd (upd (upd (fun _ => 0) 0 1) 11 1) 12 50) 21 (-1)) 22 (-1)) 23 1) 29 (-1)) 34 (-1)) 35 1) 41 (-1)) 46 (-1)) 47 1) 53 (-1)) 58 (-1)) 59 1) 65 (-1)) 70 (-1)) 71 1) 77 (-1)) 82 (-1)) 83 1) 89 (-1)) 94 (-1)) 95 1) 101 (-1)) 106 (-1)) 107 1) 113 (-1)) 118 (-1))))] := hD
  refine lv_iinc (v := 8) (lv' := [(2, .int 8), (0, .ref a0), (1, .int 1)]) hx hb dX9_layPlayers_81 hl (k := 0) rfl (by decide) (by decide) rfl (fun ls hl => ?_)
  refine lv_goto (tgt := 46) hx hb dX9_layPlayers_84 (by decide) ?_
  refine lv_iload_n hx hb dX9_layPlayers_46 rfl (lv_at hl 0 rfl) ?_
  refine lv_bipush (v := 8) hx hb dX9_layPlayers_47 (by decide) ?_
  refine lv_icmp_ge (tgt := 87) hx hb dX9_layPlayers_49 (by decide) (fun _ => ?_) (fun c9 => absurd (by decide) c9)
  exact q1_en_v (fun k => ([] : List Nat).getD k 0) hx hb hr hlocks hP hD hS (Nat.le_of_ble_eq_true rfl) (Nat.le_of_ble_eq_true rfl) dX9_layPlayers_87
set_option maxHeartbeats 4000000 in
set_option maxRecDepth 100000 in
theorem k25_X9_init (l : Launch) (D : va_G) (cs : Nat → ClassId) (sz : Nat) (a0 : Nat) : KV l yX9_init wsX9_init 2 42 14 461021 D cs sz [.ref a0] [(a0, .inr (9, [.int 0, .null, .int 0, .int 0, .int 0, .int 0, .int 0, .int 0, .null, .null, .null, .null, .int 0, .int 0, .int 0, .int 0, .int 0, .null]))] (fun u => [(a0, .inr (9, [.int 0, .ref (u 0), .int 0, .int 0, .int 0, .int 0, .int 0, .int (-1), .ref (u 1), .ref (u 2), .ref (u 3), .ref (u 4), .int 0, .int 0, .int 0, .int 0, .int 0, .ref (u 13)])), ((u 0), .inl (cs 0, 600, .inl (fun _ => 0))), ((u 2), .inl (cs 0, 45783, .inl (fun _ => 0))), ((u 3), .inl (cs 0, 1383, .inl (fun _ => 0))), ((u 4), .inl (cs 6, 8, .inr (.inr (.inr (.inr (rowsF [(u 5), (u 6), (u 7), (u 8), (u 9), (u 10), (u 11), (u 12)])))))), ((u 5), .inl (cs 0, 45783, .inl (fun _ => 0))), ((u 6), .inl (cs 0, 45783, .inl (fun _ => 0))), ((u 7), .inl (cs 0, 45783, .inl (fun _ => 0))), ((u 8), .inl (cs 0, 45783, .inl (fun _ => 0))), ((u 9), .inl (cs 0, 45783, .inl (fun _ => 0))), ((u 10), .inl (cs 0, 45783, .inl (fun _ => 0))), ((u 11), .inl (cs 0, 45783, .inl (fun _ => 0))), ((u 12), .inl (cs 0, 45783, .inl (fun _ => 0))), ((u 13), .inl (cs 3, 1200, .inr (.inl (fun _ => 0)))), ((u 1), .inl (cs 0, 45783, .inl (layF (fun _ => 0) 1)))]) := by
  refine KV.of cX9_init 1 none (by decide) rfl (Nat.le_of_ble_eq_true rfl) ?_
  intro p e s m below meth c A ls hx hb hr hml hown hts hlocks hin hP hN hD hA hS hl
  have hown : s.vm.findClass RX9 = some m.cls := hown
  have hl : lv_has ls 1 [(0, .ref a0)] := hl
  refine lv_aload_n hx hb dX9_init_0 rfl (lv_at hl 0 rfl) ?_
  refine W.objInit hx hb hown (hts _ mX9_init_1) (hts _ mX9_init_2) (hts _ mX9_init_3) rfl (by rw [hml]; exact hl.1) rfl dX9_init_1 (Nat.le_of_ble_eq_true rfl) (Nat.le_of_ble_eq_true rfl) ?_
  refine W.eq (g2 := F0 m 4 ls []) rfl ?_
  refine lv_aload_n hx hb dX9_init_4 rfl (lv_at hl 0 rfl) ?_
  refine lv_sipush (v := 600) hx hb dX9_init_5 (by decide) ?_
  refine na_i (atype := .int) (ty := .int) (N' := 600) (a0 := (600, .inl (fun _ => 0))) 0 hN rfl hx hb (hts _ mX9_init_4) rfl hP hD hS hA (fun _ => rfl) (by decide) (by decide) (by decide) (Nat.le_of_ble_eq_true rfl) (Nat.le_of_ble_eq_true rfl) dX9_init_8 (fun q6 H hP hD hS => ?_)
  have hP : va_P D vwCl [(a0, .inr (9, [.int 0, .null, .int 0, .int 0, .int 0, .int 0, .int 0, .int 0, .null, .null, .null, .null, .int 0, .int 0, .int 0, .int 0, .int 0, .null])), (q6, .inl (cs 0, 600, .inl (fun _ => 0)))] H := hP
  have hD : va_D A [(a0, .inr (9, [.int 0, .null, .int 0, .int 0, .int 0, .int 0, .int 0, .int 0, .null, .null, .null, .null, .int 0, .int 0, .int 0, .int 0, .int 0, .null])), (q6, .inl (cs 0, 600, .inl (fun _ => 0)))] := hD
  refine W.widen (k := 1) (n := 600) (Nat.le_of_ble_eq_true rfl) (Nat.le_of_ble_eq_true rfl) ?_
  refine va_putF (D := D) (ci := 9) (v := .ref q6) (ty := .array .int) (C := RX9) (T := TX9) (N := 18) hx hb hts iX9_init_9 tyX9 tyX9_ok nmX9 hown hN.1 hP hD hS 0 rfl rfl 1 (by decide) (hts _ mX9_init_5) (fun _ h9 => h9) rfl hin rfl (by decide +kernel) rfl rfl (Nat.le_of_ble_eq_true rfl) dX9_init_10 (fun H locs hP hD hS => ?_)
  have hP : va_P D vwCl [(a0, .inr (9, [.int 0, .ref q6, .int 0, .int 0, .int 0, .int 0, .int 0, .int 0, .null, .null, .null, .null, .int 0, .int 0, .int 0, .int 0, .int 0, .null])), (q6, .inl (cs 0, 600, .inl (fun _ => 0)))] H := hP
  have hD : va_D A [(a0, .inr (9, [.int 0, .ref q6, .int 0, .int 0, .int 0, .int 0, .int 0, .int 0, .null, .null, .null, .null, .int 0, .int 0, .int 0, .int 0, .int 0, .null])), (q6, .inl (cs 0, 600, .inl (fun _ => 0)))] := hD
  refine lv_aload_n hx hb dX9_init_13 rfl (lv_at hl 0 rfl) ?_
  refine lv_iconst (v := (-1)) hx hb dX9_init_14 (by decide) ?_
  refine va_put (D := D) (ci := 9) (v := .int (-1)) (ty := .int) (C := RX9) (T := TX9) (N := 18) hx hb hts iX9_init_9 tyX9 tyX9_ok nmX9 hown hN.1 hP hD hS 0 rfl rfl 7 (by decide) (hts _ mX9_init_6) (fun _ h9 => h9) rfl (by decide +kernel) rfl rfl (Nat.le_of_ble_eq_true rfl) dX9_init_15 (fun H locs hP hD hS => ?_)
  have hP : va_P D vwCl [(a0, .inr (9, [.int 0, .ref q6, .int 0, .int 0, .int 0, .int 0, .int 0, .int (-1), .null, .null, .null, .null, .int 0, .int 0, .int 0, .int 0, .int 0, .null])), (q6, .inl (cs 0, 600, .inl (fun _ => 0)))] H := hP
  have hD : va_D A [(a0, .inr (9, [.int 0, .ref q6, .int 0, .int 0, .int 0, .int 0, .int 0, .int (-1), .null, .null, .null, .null, .int 0, .int 0, .int 0, .int 0, .int 0, .null])), (q6, .inl (cs 0, 600, .inl (fun _ => 0)))] := hD
  refine lv_aload_n hx hb dX9_init_18 rfl (lv_at hl 0 rfl) ?_
  refine lv_ldc (v := 45783) hx hb hown (hts _ mX9_init_7) dX9_init_19 ?_
  refine na_i (atype := .int) (ty := .int) (N' := 45783) (a0 := (45783, .inl (fun _ => 0))) 0 hN rfl hx hb (hts _ mX9_init_4) rfl hP hD hS hA (fun _ => rfl) (by decide) (by decide) (by decide) (Nat.le_of_ble_eq_true rfl) (Nat.le_of_ble_eq_true rfl) dX9_init_21 (fun q20 H hP hD hS => ?_)
  have hP : va_P D vwCl [(a0, .inr (9, [.int 0, .ref q6, .int 0, .int 0, .int 0, .int 0, .int 0, .int (-1), .null, .null, .null, .null, .int 0, .int 0, .int 0, .int 0, .int 0, .null])), (q6, .inl (cs 0, 600, .inl (fun _ => 0))), (q20, .inl (cs 0, 45783, .inl (fun _ => 0)))] H := hP
  have hD : va_D A [(a0, .inr (9, [.int 0, .ref q6, .int 0, .int 0, .int 0, .int 0, .int 0, .int (-1), .null, .null, .null, .null, .int 0, .int 0, .int 0, .int 0, .int 0, .null])), (q6, .inl (cs 0, 600, .inl (fun _ => 0))), (q20, .inl (cs 0, 45783, .inl (fun _ => 0)))] := hD
  refine W.widen (k := 2) (n := 46383) (Nat.le_of_ble_eq_true rfl) (Nat.le_of_ble_eq_true rfl) ?_
  refine va_putF (D := D) (ci := 9) (v := .ref q20) (ty := .array .int) (C := RX9) (T := TX9) (N := 18) hx hb hts iX9_init_9 tyX9 tyX9_ok nmX9 hown hN.1 hP hD hS 0 rfl rfl 8 (by decide) (hts _ mX9_init_8) (fun _ h9 => h9) rfl hin rfl (by decide +kernel) rfl rfl (Nat.le_of_ble_eq_true rfl) dX9_init_23 (fun H locs hP hD hS => ?_)
  have hP : va_P D vwCl [(a0, .inr (9, [.int 0, .ref q6, .int 0, .int 0, .int 0, .int 0, .int 0, .int (-1), .ref q20, .null, .null, .null, .int 0, .int 0, .int 0, .int 0, .int 0, .null])), (q6, .inl (cs 0, 600, .inl (fun _ => 0))), (q20, .inl (cs 0, 45783, .inl (fun _ => 0)))] H := hP
  have hD : va_D A [(a0, .inr (9, [.int 0, .ref q6, .int 0, .int 0, .int 0, .int 0, .int 0, .int (-1), .ref q20, .null, .null, .null, .int 0, .int 0, .int 0, .int 0, .int 0, .null])), (q6, .inl (cs 0, 600, .inl (fun _ => 0))), (q20, .inl (cs 0, 45783, .inl (fun _ => 0)))] := hD
  refine lv_aload_n hx hb dX9_init_26 rfl (lv_at hl 0 rfl) ?_
  refine lv_ldc (v := 45783) hx hb hown (hts _ mX9_init_7) dX9_init_27 ?_
  refine na_i (atype := .int) (ty := .int) (N' := 45783) (a0 := (45783, .inl (fun _ => 0))) 0 hN rfl hx hb (hts _ mX9_init_4) rfl hP hD hS hA (fun _ => rfl) (by decide) (by decide) (by decide) (Nat.le_of_ble_eq_true rfl) (Nat.le_of_ble_eq_true rfl) dX9_init_29 (fun q29 H hP hD hS => ?_)
  have hP : va_P D vwCl [(a0, .inr (9, [.int 0, .ref q6, .int 0, .int 0, .int 0, .int 0, .int 0, .int (-1), .ref q20, .null, .null, .null, .int 0, .int 0, .int 0, .int 0, .int 0, .null])), (q6, .inl (cs 0, 600, .inl (fun _ => 0))), (q20, .inl (cs 0, 45783, .inl (fun _ => 0))), (q29, .inl (cs 0, 45783, .inl (fun _ => 0)))] H := hP
  have hD : va_D A [(a0, .inr (9, [.int 0, .ref q6, .int 0, .int 0, .int 0, .int 0, .int 0, .int (-1), .ref q20, .null, .null, .null, .int 0, .int 0, .int 0, .int 0, .int 0, .null])), (q6, .inl (cs 0, 600, .inl (fun _ => 0))), (q20, .inl (cs 0, 45783, .inl (fun _ => 0))), (q29, .inl (cs 0, 45783, .inl (fun _ => 0)))] := hD
  refine W.widen (k := 3) (n := 92166) (Nat.le_of_ble_eq_true rfl) (Nat.le_of_ble_eq_true rfl) ?_
  refine va_putF (D := D) (ci := 9) (v := .ref q29) (ty := .array .int) (C := RX9) (T := TX9) (N := 18) hx hb hts iX9_init_9 tyX9 tyX9_ok nmX9 hown hN.1 hP hD hS 0 rfl rfl 9 (by decide) (hts _ mX9_init_9) (fun _ h9 => h9) rfl hin rfl (by decide +kernel) rfl rfl (Nat.le_of_ble_eq_true rfl) dX9_init_31 (fun H locs hP hD hS => ?_)
  have hP : va_P D vwCl [(a0, .inr (9, [.int 0, .ref q6, .int 0, .int 0, .int 0, .int 0, .int 0, .int (-1), .ref q20, .ref q29, .null, .null, .int 0, .int 0, .int 0, .int 0, .int 0, .null])), (q6, .inl (cs 0, 600, .inl (fun _ => 0))), (q20, .inl (cs 0, 45783, .inl (fun _ => 0))), (q29, .inl (cs 0, 45783, .inl (fun _ => 0)))] H := hP
  have hD : va_D A [(a0, .inr (9, [.int 0, .ref q6, .int 0, .int 0, .int 0, .int 0, .int 0, .int (-1), .ref q20, .ref q29, .null, .null, .int 0, .int 0, .int 0, .int 0, .int 0, .null])), (q6, .inl (cs 0, 600, .inl (fun _ => 0))), (q20, .inl (cs 0, 45783, .inl (fun _ => 0))), (q29, .inl (cs 0, 45783, .inl (fun _ => 0)))] := hD
  refine lv_aload_n hx hb dX9_init_34 rfl (lv_at hl 0 rfl) ?_
  refine lv_sipush (v := 1383) hx hb dX9_init_35 (by decide) ?_
  refine na_i (atype := .int) (ty := .int) (N' := 1383) (a0 := (1383, .inl (fun _ => 0))) 0 hN rfl hx hb (hts _ mX9_init_4) rfl hP hD hS hA (fun _ => rfl) (by decide) (by decide) (by decide) (Nat.le_of_ble_eq_true rfl) (Nat.le_of_ble_eq_true rfl) dX9_init_38 (fun q38 H hP hD hS => ?_)
  have hP : va_P D vwCl [(a0, .inr (9, [.int 0, .ref q6, .int 0, .int 0, .int 0, .int 0, .int 0, .int (-1), .ref q20, .ref q29, .null, .null, .int 0, .int 0, .int 0, .int 0, .int 0, .null])), (q6, .inl (cs 0, 600, .inl (fun _ => 0))), (q20, .inl (cs 0, 45783, .inl (fun _ => 0))), (q29, .inl (cs 0, 45783, .inl (fun _ => 0))), (q38, .inl (cs 0, 1383, .inl (fun _ => 0)))] H := hP
  have hD : va_D A [(a0, .inr (9, [.int 0, .ref q6, .int 0, .int 0, .int 0, .int 0, .int 0, .int (-1), .ref q20, .ref q29, .null, .null, .int 0, .int 0, .int 0, .int 0, .int 0, .null])), (q6, .inl (cs 0, 600, .inl (fun _ => 0))), (q20, .inl (cs 0, 45783, .inl (fun _ => 0))), (q29, .inl (cs 0, 45783, .inl (fun _ => 0))), (q38, .inl (cs 0, 1383, .inl (fun _ => 0)))] := hD
  refine W.widen (k := 4) (n := 93549) (Nat.le_of_ble_eq_true rfl) (Nat.le_of_ble_eq_true rfl) ?_
  refine va_putF (D := D) (ci := 9) (v := .ref q38) (ty := .array .int) (C := RX9) (T := TX9) (N := 18) hx hb hts iX9_init_9 tyX9 tyX9_ok nmX9 hown hN.1 hP hD hS 0 rfl rfl 10 (by decide) (hts _ mX9_init_10) (fun _ h9 => h9) rfl hin rfl (by decide +kernel) rfl rfl (Nat.le_of_ble_eq_true rfl) dX9_init_40 (fun H locs hP hD hS => ?_)
  have hP : va_P D vwCl [(a0, .inr (9, [.int 0, .ref q6, .int 0, .int 0, .int 0, .int 0, .int 0, .int (-1), .ref q20, .ref q29, .ref q38, .null, .int 0, .int 0, .int 0, .int 0, .int 0, .null])), (q6, .inl (cs 0, 600, .inl (fun _ => 0))), (q20, .inl (cs 0, 45783, .inl (fun _ => 0))), (q29, .inl (cs 0, 45783, .inl (fun _ => 0))), (q38, .inl (cs 0, 1383, .inl (fun _ => 0)))] H := hP
  have hD : va_D A [(a0, .inr (9, [.int 0, .ref q6, .int 0, .int 0, .int 0, .int 0, .int 0, .int (-1), .ref q20, .ref q29, .ref q38, .null, .int 0, .int 0, .int 0, .int 0, .int 0, .null])), (q6, .inl (cs 0, 600, .inl (fun _ => 0))), (q20, .inl (cs 0, 45783, .inl (fun _ => 0))), (q29, .inl (cs 0, 45783, .inl (fun _ => 0))), (q38, .inl (cs 0, 1383, .inl (fun _ => 0)))] := hD
  refine lv_aload_n hx hb dX9_init_43 rfl (lv_at hl 0 rfl) ?_
  refine lv_bipush (v := 8) hx hb dX9_init_44 (by decide) ?_
  refine lv_ldc (v := 45783) hx hb hown (hts _ mX9_init_7) dX9_init_46 ?_
  refine na_m (X := [(a0, .inr (9, [.int 0, .ref q6, .int 0, .int 0, .int 0, .int 0, .int 0, .int (-1), .ref q20, .ref q29, .ref q38, .null, .int 0, .int 0, .int 0, .int 0, .int 0, .null])), (q6, .inl (cs 0, 600, .inl (fun _ => 0))), (q20, .inl (cs 0, 45783, .inl (fun _ => 0))), (q29, .inl (cs 0, 45783, .inl (fun _ => 0))), (q38, .inl (cs 0, 1383, .inl (fun _ => 0)))]) (N' := 8) (K' := 45783) hN hx hb hown (hts _ mX9_init_11) (hts _ mX9_init_4) hP hD hS hA (by decide) (by decide) (by decide) (by decide) (by decide) (by decide) (by decide) (Nat.le_of_ble_eq_true rfl) (Nat.le_of_ble_eq_true rfl) dX9_init_48 (fun q48 r0 H locs hP hD hS => ?_)
  have hP : va_P D vwCl [(a0, .inr (9, [.int 0, .ref q6, .int 0, .int 0, .int 0, .int 0, .int 0, .int (-1), .ref q20, .ref q29, .ref q38, .null, .int 0, .int 0, .int 0, .int 0, .int 0, .null])), (q6, .inl (cs 0, 600, .inl (fun _ => 0))), (q20, .inl (cs 0, 45783, .inl (fun _ => 0))), (q29, .inl (cs 0, 45783, .inl (fun _ => 0))), (q38, .inl (cs 0, 1383, .inl (fun _ => 0))), (q48, .inl (cs 6, 8, .inr (.inr (.inr (.inr (rowsF [(r0 0), (r0 1), (r0 2), (r0 3), (r0 4), (r0 5), (r0 6), (r0 7)])))))), ((r0 0), .inl (cs 0, 45783, .inl (fun _ => 0))), ((r0 1), .inl (cs 0, 45783, .inl (fun _ => 0))), ((r0 2), .inl (cs 0, 45783, .inl (fun _ => 0))), ((r0 3), .inl (cs 0, 45783, .inl (fun _ => 0))), ((r0 4), .inl (cs 0, 45783, .inl (fun _ => 0))), ((r0 5), .inl (cs 0, 45783, .inl (fun _ => 0))), ((r0 6), .inl (cs 0, 45783, .inl (fun _ => 0))), ((r0 7), .inl (cs 0, 45783, .inl (fun _ => 0)))] H := hP
  have hD : va_D A [(a0, .inr (9, [.int 0, .ref q6, .int 0, .int 0, .int 0, .int 0, .int 0, .int (-1), .ref q20, .ref q29, .ref q38, .null, .int 0, .int 0, .int 0, .int 0, .int 0, .null])), (q6, .inl (cs 0, 600, .inl (fun _ => 0))), (q20, .inl (cs 0, 45783, .inl (fun _ => 0))), (q29, .inl (cs 0, 45783, .inl (fun _ => 0))), (q38, .inl (cs 0, 1383, .inl (fun _ => 0))), (q48, .inl (cs 6, 8, .inr (.inr (.inr (.inr (rowsF [(r0 0), (r0 1), (r0 2), (r0 3), (r0 4), (r0 5), (r0 6), (r0 7)])))))), ((r0 0), .inl (cs 0, 45783, .inl (fun _ => 0))), ((r0 1), .inl (cs 0, 45783, .inl (fun _ => 0))), ((r0 2), .inl (cs 0, 45783, .inl (fun _ => 0))), ((r0 3), .inl (cs 0, 45783, .inl (fun _ => 0))), ((r0 4), .inl (cs 0, 45783, .inl (fun _ => 0))), ((r0 5), .inl (cs 0, 45783, .inl (fun _ => 0))), ((r0 6), .inl (cs 0, 45783, .inl (fun _ => 0))), ((r0 7), .inl (cs 0, 45783, .inl (fun _ => 0)))] := hD
  refine W.widen (k := 13) (n := 459821) (Nat.le_of_ble_eq_true rfl) (Nat.le_of_ble_eq_true rfl) ?_
  refine va_putF (D := D) (ci := 9) (v := .ref q48) (ty := .array (.array .int)) (C := RX9) (T := TX9) (N := 18) hx hb hts iX9_init_9 tyX9 tyX9_ok nmX9 hown hN.1 hP hD hS 0 rfl rfl 11 (by decide) (hts _ mX9_init_12) (fun _ h9 => h9) rfl hin rfl (by decide +kernel) rfl rfl (Nat.le_of_ble_eq_true rfl) dX9_init_52 (fun H locs hP hD hS => ?_)
  have hP : va_P D vwCl [(a0, .inr (9, [.int 0, .ref q6, .int 0, .int 0, .int 0, .int 0, .int 0, .int (-1), .ref q20, .ref q29, .ref q38, .ref q48, .int 0, .int 0, .int 0, .int 0, .int 0, .null])), (q6, .inl (cs 0, 600, .inl (fun _ => 0))), (q20, .inl (cs 0, 45783, .inl (fun _ => 0))), (q29, .inl (cs 0, 45783, .inl (fun _ => 0))), (q38, .inl (cs 0, 1383, .inl (fun _ => 0))), (q48, .inl (cs 6, 8, .inr (.inr (.inr (.inr (rowsF [(r0 0), (r0 1), (r0 2), (r0 3), (r0 4), (r0 5), (r0 6), (r0 7)])))))), ((r0 0), .inl (cs 0, 45783, .inl (fun _ => 0))), ((r0 1), .inl (cs 0, 45783, .inl (fun _ => 0))), ((r0 2), .inl (cs 0, 45783, .inl (fun _ => 0))), ((r0 3), .inl (cs 0, 45783, .inl (fun _ => 0))), ((r0 4), .inl (cs 0, 45783, .inl (fun _ => 0))), ((r0 5), .inl (cs 0, 45783, .inl (fun _ => 0))), ((r0 6), .inl (cs 0, 45783, .inl (fun _ => 0))), ((r0 7), .inl (cs 0, 45783, .inl (fun _ => 0)))] H := hP
  have hD : va_D A [(a0, .inr (9, [.int 0, .ref q6, .int 0, .int 0, .int 0, .int 0, .int 0, .int (-1), .ref q20, .ref q29, .ref q38, .ref q48, .int 0, .int 0, .int 0, .int 0, .int 0, .null])), (q6, .inl (cs 0, 600, .inl (fun _ => 0))), (q20, .inl (cs 0, 45783, .inl (fun _ => 0))), (q29, .inl (cs 0, 45783, .inl (fun _ => 0))), (q38, .inl (cs 0, 1383, .inl (fun _ => 0))), (q48, .inl (cs 6, 8, .inr (.inr (.inr (.inr (rowsF [(r0 0), (r0 1), (r0 2), (r0 3), (r0 4), (r0 5), (r0 6), (r0 7)])))))), ((r0 0), .inl (cs 0, 45783, .inl (fun _ => 0))), ((r0 1), .inl (cs 0, 45783, .inl (fun _ => 0))), ((r0 2), .inl (cs 0, 45783, .inl (fun _ => 0))), ((r0 3), .inl (cs 0, 45783, .inl (fun _ => 0))), ((r0 4), .inl (cs 0, 45783, .inl (fun _ => 0))), ((r0 5), .inl (cs 0, 45783, .inl (fun _ => 0))), ((r0 6), .inl (cs 0, 45783, .inl (fun _ => 0))), ((r0 7), .inl (cs 0, 45783, .inl (fun _ => 0)))] := hD
  refine lv_aload_n hx hb dX9_init_55 rfl (lv_at hl 0 rfl) ?_
  refine lv_sipush (v := 1200) hx hb dX9_init_56 (by decide) ?_
  refine na_i (atype := .long) (ty := .long) (N' := 1200) (a0 := (1200, .inr (.inl (fun _ => 0)))) 3 hN rfl hx hb (hts _ mX9_init_13) rfl hP hD hS hA (fun _ => rfl) (by decide) (by decide) (by decide) (Nat.le_of_ble_eq_true rfl) (Nat.le_of_ble_eq_true rfl) dX9_init_59 (fun q57 H hP hD hS => ?_)
  have hP : va_P D vwCl [(a0, .inr (9, [.int 0, .ref q6, .int 0, .int 0, .int 0, .int 0, .int 0, .int (-1), .ref q20, .ref q29, .ref q38, .ref q48, .int 0, .int 0, .int 0, .int 0, .int 0, .null])), (q6, .inl (cs 0, 600, .inl (fun _ => 0))), (q20, .inl (cs 0, 45783, .inl (fun _ => 0))), (q29, .inl (cs 0, 45783, .inl (fun _ => 0))), (q38, .inl (cs 0, 1383, .inl (fun _ => 0))), (q48, .inl (cs 6, 8, .inr (.inr (.inr (.inr (rowsF [(r0 0), (r0 1), (r0 2), (r0 3), (r0 4), (r0 5), (r0 6), (r0 7)])))))), ((r0 0), .inl (cs 0, 45783, .inl (fun _ => 0))), ((r0 1), .inl (cs 0, 45783, .inl (fun _ => 0))), ((r0 2), .inl (cs 0, 45783, .inl (fun _ => 0))), ((r0 3), .inl (cs 0, 45783, .inl (fun _ => 0))), ((r0 4), .inl (cs 0, 45783, .inl (fun _ => 0))), ((r0 5), .inl (cs 0, 45783, .inl (fun _ => 0))), ((r0 6), .inl (cs 0, 45783, .inl (fun _ => 0))), ((r0 7), .inl (cs 0, 45783, .inl (fun _ => 0))), (q57, .inl (cs 3, 1200, .inr (.inl (fun _ => 0))))] H := hP
  have hD : va_D A [(a0, .inr (9, [.int 0, .ref q6, .int 0, .int 0, .int 0, .int 0, .int 0, .int (-1), .ref q20, .ref q29, .ref q38, .ref q48, .int 0, .int 0, .int 0, .int 0, .int 0, .null])), (q6, .inl (cs 0, 600, .inl (fun _ => 0))), (q20, .inl (cs 0, 45783, .inl (fun _ => 0))), (q29, .inl (cs 0, 45783, .inl (fun _ => 0))), (q38, .inl (cs 0, 1383, .inl (fun _ => 0))), (q48, .inl (cs 6, 8, .inr (.inr (.inr (.inr (rowsF [(r0 0), (r0 1), (r0 2), (r0 3), (r0 4), (r0 5), (r0 6), (r0 7)])))))), ((r0 0), .inl (cs 0, 45783, .inl (fun _ => 0))), ((r0 1), .inl (cs 0, 45783, .inl (fun _ => 0))), ((r0 2), .inl (cs 0, 45783, .inl (fun _ => 0))), ((r0 3), .inl (cs 0, 45783, .inl (fun _ => 0))), ((r0 4), .inl (cs 0, 45783, .inl (fun _ => 0))), ((r0 5), .inl (cs 0, 45783, .inl (fun _ => 0))), ((r0 6), .inl (cs 0, 45783, .inl (fun _ => 0))), ((r0 7), .inl (cs 0, 45783, .inl (fun _ => 0))), (q57, .inl (cs 3, 1200, .inr (.inl (fun _ => 0))))] := hD
  refine W.widen (k := 14) (n := 461021) (Nat.le_of_ble_eq_true rfl) (Nat.le_of_ble_eq_true rfl) ?_
  refine va_putF (D := D) (ci := 9) (v := .ref q57) (ty := .array .long) (C := RX9) (T := TX9) (N := 18) hx hb hts iX9_init_9 tyX9 tyX9_ok nmX9 hown hN.1 hP hD hS 0 rfl rfl 17 (by decide) (hts _ mX9_init_14) (fun _ h9 => h9) rfl hin rfl (by decide +kernel) rfl rfl (Nat.le_of_ble_eq_true rfl) dX9_init_61 (fun H locs hP hD hS => ?_)
  have hP : va_P D vwCl [(a0, .inr (9, [.int 0, .ref q6, .int 0, .int 0, .int 0, .int 0, .int 0, .int (-1), .ref q20, .ref q29, .ref q38, .ref q48, .int 0, .int 0, .int 0, .int 0, .int 0, .ref q57])), (q6, .inl (cs 0, 600, .inl (fun _ => 0))), (q20, .inl (cs 0, 45783, .inl (fun _ => 0))), (q29, .inl (cs 0, 45783, .inl (fun _ => 0))), (q38, .inl (cs 0, 1383, .inl (fun _ => 0))), (q48, .inl (cs 6, 8, .inr (.inr (.inr (.inr (rowsF [(r0 0), (r0 1), (r0 2), (r0 3), (r0 4), (r0 5), (r0 6), (r0 7)])))))), ((r0 0), .inl (cs 0, 45783, .inl (fun _ => 0))), ((r0 1), .inl (cs 0, 45783, .inl (fun _ => 0))), ((r0 2), .inl (cs 0, 45783, .inl (fun _ => 0))), ((r0 3), .inl (cs 0, 45783, .inl (fun _ => 0))), ((r0 4), .inl (cs 0, 45783, .inl (fun _ => 0))), ((r0 5), .inl (cs 0, 45783, .inl (fun _ => 0))), ((r0 6), .inl (cs 0, 45783, .inl (fun _ => 0))), ((r0 7), .inl (cs 0, 45783, .inl (fun _ => 0))), (q57, .inl (cs 3, 1200, .inr (.inl (fun _ => 0))))] H := hP
  have hD : va_D A [(a0, .inr (9, [.int 0, .ref q6, .int 0, .int 0, .int 0, .int 0, .int 0, .int (-1), .ref q20, .ref q29, .ref q38, .ref q48, .int 0, .int 0, .int 0, .int 0, .int 0, .ref q57])), (q6, .inl (cs 0, 600, .inl (fun _ => 0))), (q20, .inl (cs 0, 45783, .inl (fun _ => 0))), (q29, .inl (cs 0, 45783, .inl (fun _ => 0))), (q38, .inl (cs 0, 1383, .inl (fun _ => 0))), (q48, .inl (cs 6, 8, .inr (.inr (.inr (.inr (rowsF [(r0 0), (r0 1), (r0 2), (r0 3), (r0 4), (r0 5), (r0 6), (r0 7)])))))), ((r0 0), .inl (cs 0, 45783, .inl (fun _ => 0))), ((r0 1), .inl (cs 0, 45783, .inl (fun _ => 0))), ((r0 2), .inl (cs 0, 45783, .inl (fun _ => 0))), ((r0 3), .inl (cs 0, 45783, .inl (fun _ => 0))), ((r0 4), .inl (cs 0, 45783, .inl (fun _ => 0))), ((r0 5), .inl (cs 0, 45783, .inl (fun _ => 0))), ((r0 6), .inl (cs 0, 45783, .inl (fun _ => 0))), ((r0 7), .inl (cs 0, 45783, .inl (fun _ => 0))), (q57, .inl (cs 3, 1200, .inr (.inl (fun _ => 0))))] := hD
  refine lv_aload_n hx hb dX9_init_64 rfl (lv_at hl 0 rfl) ?_
  refine va_get (D := D) (ci := 9) (v := .ref q20) (C := RX9) (T := TX9) (N := 18) hx hb hts iX9_init_9 hown hN.1 hP 0 rfl rfl 8 (by decide) (hts _ mX9_init_8) (fun _ h9 => h9) rfl dX9_init_65 ?_
  refine lv_iconst (v := 1) hx hb dX9_init_68 (by decide) ?_
  refine q1_cs_v (As := [.ref q20, .int 1]) (rest := []) (wr := [(a0, .inr (9, [.int 0, .ref q6, .int 0, .int 0, .int 0, .int 0, .int 0, .int (-1), .ref q20, .ref q29, .ref q38, .ref q48, .int 0, .int 0, .int 0, .int 0, .int 0, .ref q57])), (q6, .inl (cs 0, 600, .inl (fun _ => 0))), (q29, .inl (cs 0, 45783, .inl (fun _ => 0))), (q38, .inl (cs 0, 1383, .inl (fun _ => 0))), (q48, .inl (cs 6, 8, .inr (.inr (.inr (.inr (rowsF [(r0 0), (r0 1), (r0 2), (r0 3), (r0 4), (r0 5), (r0 6), (r0 7)])))))), ((r0 0), .inl (cs 0, 45783, .inl (fun _ => 0))), ((r0 1), .inl (cs 0, 45783, .inl (fun _ => 0))), ((r0 2), .inl (cs 0, 45783, .inl (fun _ => 0))), ((r0 3), .inl (cs 0, 45783, .inl (fun _ => 0))), ((r0 4), .inl (cs 0, 45783, .inl (fun _ => 0))), ((r0 5), .inl (cs 0, 45783, .inl (fun _ => 0))), ((r0 6), .inl (cs 0, 45783, .inl (fun _ => 0))), ((r0 7), .inl (cs 0, 45783, .inl (fun _ => 0))), (q57, .inl (cs 3, 1200, .inr (.inl (fun _ => 0))))]) ⟨hx, hb, hml, hown, hts⟩ (fun sz => k24_X9_layPlayers l D cs sz q20) (va_cwS 2 hts gX9_init_X9_layPlayers rfl rfl rfl hdX9_layPlayers_o ⟨Nat.le_of_ble_eq_true rfl, Nat.le_of_ble_eq_true rfl⟩) hN hP hD hS hA [2] [0, 1, 3, 4, 5, 6, 7, 8, 9, 10, 11, 12, 13, 14] rfl rfl rfl rfl (by decide) rfl rfl hl.1 (Nat.le_of_ble_eq_true rfl) dX9_init_69 (Nat.le_of_ble_eq_true rfl) (Nat.le_of_ble_eq_true rfl) (fun u1 H locs hP hD hS => ?_)
  have hP : va_P D vwCl [(a0, .inr (9, [.int 0, .ref q6, .int 0, .int 0, .int 0, .int 0, .int 0, .int (-1), .ref q20, .ref q29, .ref q38, .ref q48, .int 0, .int 0, .int 0, .int 0, .int 0, .ref q57])), (q6, .inl (cs 0, 600, .inl (fun _ => 0))), (q29, .inl (cs 0, 45783, .inl (fun _ => 0))), (q38, .inl (cs 0, 1383, .inl (fun _ => 0))), (q48, .inl (cs 6, 8, .inr (.inr (.inr (.inr (rowsF [(r0 0), (r0 1), (r0 2), (r0 3), (r0 4), (r0 5), (r0 6), (r0 7)])))))), ((r0 0), .inl (cs 0, 45783, .inl (fun _ => 0))), ((r0 1), .inl (cs 0, 45783, .inl (fun _ => 0))), ((r0 2), .inl (cs 0, 45783, .inl (fun _ => 0))), ((r0 3), .inl (cs 0, 45783, .inl (fun _ => 0))), ((r0 4), .inl (cs 0, 45783, .inl (fun _ => 0))), ((r0 5), .inl (cs 0, 45783, .inl (fun _ => 0))), ((r0 6), .inl (cs 0, 45783, .inl (fun _ => 0))), ((r0 7), .inl (cs 0, 45783, .inl (fun _ => 0))), (q57, .inl (cs 3, 1200, .inr (.inl (fun _ => 0)))), (q20, .inl (cs 0, 45783, .inl (layF (fun _ => 0) 1)))] H := hP
  have hD : va_D A [(a0, .inr (9, [.int 0, .ref q6, .int 0, .int 0, .int 0, .int 0, .int 0, .int (-1), .ref q20, .ref q29, .ref q38, .ref q48, .int 0, .int 0, .int 0, .int 0, .int 0, .ref q57])), (q6, .inl (cs 0, 600, .inl (fun _ => 0))), (q29, .inl (cs 0, 45783, .inl (fun _ => 0))), (q38, .inl (cs 0, 1383, .inl (fun _ => 0))), (q48, .inl (cs 6, 8, .inr (.inr (.inr (.inr (rowsF [(r0 0), (r0 1), (r0 2), (r0 3), (r0 4), (r0 5), (r0 6), (r0 7)])))))), ((r0 0), .inl (cs 0, 45783, .inl (fun _ => 0))), ((r0 1), .inl (cs 0, 45783, .inl (fun _ => 0))), ((r0 2), .inl (cs 0, 45783, .inl (fun _ => 0))), ((r0 3), .inl (cs 0, 45783, .inl (fun _ => 0))), ((r0 4), .inl (cs 0, 45783, .inl (fun _ => 0))), ((r0 5), .inl (cs 0, 45783, .inl (fun _ => 0))), ((r0 6), .inl (cs 0, 45783, .inl (fun _ => 0))), ((r0 7), .inl (cs 0, 45783, .inl (fun _ => 0))), (q57, .inl (cs 3, 1200, .inr (.inl (fun _ => 0)))), (q20, .inl (cs 0, 45783, .inl (layF (fun _ => 0) 1)))] := hD
  refine W.widen (k := 14) (n := 461021) (Nat.le_of_ble_eq_true rfl) (Nat.le_of_ble_eq_true rfl) ?_
  exact q1_en_v (fun k => ([q6, q20, q29, q38, q48, (r0 0), (r0 1), (r0 2), (r0 3), (r0 4), (r0 5), (r0 6), (r0 7), q57] : List Nat).getD k 0) hx hb hr hlocks hP hD hS (Nat.le_of_ble_eq_true rfl) (Nat.le_of_ble_eq_true rfl) dX9_init_72
