set_option maxHeartbeats 4000000 in
set_option maxRecDepth 100000 in
theorem k604_X9_isGood (l : Launch) (D : va_G) (cs : Nat → ClassId) (sz : Nat) (a0 a1 a2 a3 a4 a5 a6 : Nat) : KI l yX9_isGood wsX9_isGood 0 0 0 0 D cs sz [.ref a0] [(a0, .inr (9, [.int 0, .ref a1, .int 0, .int 0, .int 0, .int 0, .int (-1), .int (-1), .ref a2, .ref a3, .ref a4, .ref a5, .int 0, .int 0, .int 0, .int 0, .int 0, .ref a6]))] (fun u => [(a0, .inr (9, [.int 0, .ref a1, .int 0, .int 0, .int 0, .int 0, .int (-1), .int (-1), .ref a2, .ref a3, .ref a4, .ref a5, .int 0, .int 0, .int 0, .int 0, .int 0, .ref a6]))]) (1) := by
  refine KI.of cX9_isGood 1 (some .boolean) (by decide) rfl (Nat.le_of_ble_eq_true rfl) ?_
  intro p e s m below meth c A ls hx hb hr hml hown hts hlocks hin hP hN hD hA hS hl
  have hown : s.vm.findClass RX9 = some m.cls := hown
  have hl : lv_has ls 1 [(0, .ref a0)] := hl
  refine lv_aload_n hx hb dX9_isGood_0 rfl (lv_at hl 0 rfl) ?_
  refine va_get (D := D) (ci := 9) (v := .int 0) (C := RX9) (T := TX9) (N := 18) hx hb hts iX9_isGood_9 hown hN.1 hP 0 rfl rfl 5 (by decide) (hts _ mX9_isGood_1) (fun _ h9 => h9) rfl dX9_isGood_1 ?_
  refine lv_if_ne (tgt := 11) hx hb dX9_isGood_4 (by decide) (fun c9 => absurd (by decide) c9) (fun _ => ?_)
  refine lv_iconst (v := 1) hx hb dX9_isGood_7 (by decide) ?_
  refine lv_goto (tgt := 12) hx hb dX9_isGood_8 (by decide) ?_
  exact en_i (fun k => ([] : List Nat).getD k 0) hx hb hr hlocks rfl rfl hP hD hS (Nat.le_of_ble_eq_true rfl) (Nat.le_of_ble_eq_true rfl) dX9_isGood_12
theorem mX9_ahead_1 : (.fieldLink RX9 53 "OneBeatModel" "position" "I" : Cond) ∈ wsX9_ahead := List.mem_of_getElem? (i := 1) (by decide +kernel)
theorem iX9_ahead_9 : ∀ w ∈ wsX90, w ∈ wsX9_ahead := fun w h => List.mem_of_mem_drop (List.mem_of_mem_take ((show wsX90 = (wsX9_ahead.drop 9).take 18 by decide +kernel) ▸ h))
theorem mX9_byteAt_1 : (.fieldLink RX9 50 "OneBeatModel" "textLength" "I" : Cond) ∈ wsX9_byteAt := List.mem_of_getElem? (i := 1) (by decide +kernel)
theorem iX9_byteAt_9 : ∀ w ∈ wsX90, w ∈ wsX9_byteAt := fun w h => List.mem_of_mem_drop (List.mem_of_mem_take ((show wsX90 = (wsX9_byteAt.drop 3).take 18 by decide +kernel) ▸ h))
set_option maxHeartbeats 4000000 in
set_option maxRecDepth 100000 in
theorem k605_X9_byteAt (l : Launch) (D : va_G) (cs : Nat → ClassId) (sz : Nat) (a0 a1 a2 a3 a4 a5 a6 : Nat) : KI l yX9_byteAt wsX9_byteAt 0 0 0 0 D cs sz [.ref a0, .int 0] [(a0, .inr (9, [.int 0, .ref a1, .int 0, .int 0, .int 0, .int 0, .int (-1), .int (-1), .ref a2, .ref a3, .ref a4, .ref a5, .int 0, .int 0, .int 0, .int 0, .int 0, .ref a6]))] (fun u => [(a0, .inr (9, [.int 0, .ref a1, .int 0, .int 0, .int 0, .int 0, .int (-1), .int (-1), .ref a2, .ref a3, .ref a4, .ref a5, .int 0, .int 0, .int 0, .int 0, .int 0, .ref a6]))]) ((-1)) := by
  refine KI.of cX9_byteAt 2 (some .int) (by decide) rfl (Nat.le_of_ble_eq_true rfl) ?_
  intro p e s m below meth c A ls hx hb hr hml hown hts hlocks hin hP hN hD hA hS hl
  have hown : s.vm.findClass RX9 = some m.cls := hown
  have hl : lv_has ls 2 [(0, .ref a0), (1, .int 0)] := hl
  refine lv_iload_n hx hb dX9_byteAt_0 rfl (lv_at hl 1 rfl) ?_
  refine lv_aload_n hx hb dX9_byteAt_1 rfl (lv_at hl 0 rfl) ?_
  refine va_get (D := D) (ci := 9) (v := .int 0) (C := RX9) (T := TX9) (N := 18) hx hb hts iX9_byteAt_9 hown hN.1 hP 0 rfl rfl 3 (by decide) (hts _ mX9_byteAt_1) (fun _ h9 => h9) rfl dX9_byteAt_2 ?_
  refine lv_icmp_ge (tgt := 17) hx hb dX9_byteAt_5 (by decide) (fun _ => ?_) (fun c9 => absurd (by decide) c9)
  refine lv_iconst (v := (-1)) hx hb dX9_byteAt_17 (by decide) ?_
  exact en_i (fun k => ([] : List Nat).getD k 0) hx hb hr hlocks rfl rfl hP hD hS (Nat.le_of_ble_eq_true rfl) (Nat.le_of_ble_eq_true rfl) dX9_byteAt_18
theorem hdX9_byteAt_v : yX9_byteAt.cls = RX9 ∧ yX9_byteAt.cls ≠ "java/lang/invoke/MethodHandle" ∧ yX9_byteAt.cls ≠ "java/lang/invoke/VarHandle" ∧ (parseMethodDescriptor yX9_byteAt.desc).map (fun d => d.parameters.length) = some 1 := by decide +kernel
set_option maxHeartbeats 4000000 in
set_option maxRecDepth 100000 in
theorem k606_X9_ahead (l : Launch) (D : va_G) (cs : Nat → ClassId) (sz : Nat) (a0 a1 a2 a3 a4 a5 a6 : Nat) : KI l yX9_ahead wsX9_ahead 1 21 0 0 D cs sz [.ref a0] [(a0, .inr (9, [.int 0, .ref a1, .int 0, .int 0, .int 0, .int 0, .int (-1), .int (-1), .ref a2, .ref a3, .ref a4, .ref a5, .int 0, .int 0, .int 0, .int 0, .int 0, .ref a6]))] (fun u => [(a0, .inr (9, [.int 0, .ref a1, .int 0, .int 0, .int 0, .int 0, .int (-1), .int (-1), .ref a2, .ref a3, .ref a4, .ref a5, .int 0, .int 0, .int 0, .int 0, .int 0, .ref a6]))]) ((-1)) := by
  refine KI.of cX9_ahead 1 (some .int) (by decide) rfl (Nat.le_of_ble_eq_true rfl) ?_
  intro p e s m below meth c A ls hx hb hr hml hown hts hlocks hin hP hN hD hA hS hl
  have hown : s.vm.findClass RX9 = some m.cls := hown
  have hl : lv_has ls 1 [(0, .ref a0)] := hl
  refine lv_aload_n hx hb dX9_ahead_0 rfl (lv_at hl 0 rfl) ?_
  refine lv_aload_n hx hb dX9_ahead_1 rfl (lv_at hl 0 rfl) ?_
  refine va_get (D := D) (ci := 9) (v := .int 0) (C := RX9) (T := TX9) (N := 18) hx hb hts iX9_ahead_9 hown hN.1 hP 0 rfl rfl 4 (by decide) (hts _ mX9_ahead_1) (fun _ h9 => h9) rfl dX9_ahead_2 ?_
  refine cv_i (As := [.int 0]) (rest := []) (b := a0) (wr := []) ⟨hx, hb, hml, hown, hts⟩ (fun sz => k605_X9_byteAt l D cs sz a0 a1 a2 a3 a4 a5 a6) (cwV 1 hts gX9_ahead_X9_byteAt rfl rfl rfl hdX9_byteAt_v ⟨Nat.le_of_ble_eq_true rfl, Nat.le_of_ble_eq_true rfl⟩) hN hP hD hS hA [0] [] rfl rfl rfl rfl (by decide) (ci := 9) (q0 := 0) rfl rfl rfl rfl hl.1 (Nat.le_of_ble_eq_true rfl) dX9_ahead_5 (Nat.le_of_ble_eq_true rfl) (Nat.le_of_ble_eq_true rfl) (fun u0 H locs hP hD hS => ?_)
  have hP : va_P D vwCl [(a0, .inr (9, [.int 0, .ref a1, .int 0, .int 0, .int 0, .int 0, .int (-1), .int (-1), .ref a2, .ref a3, .ref a4, .ref a5, .int 0, .int 0, .int 0, .int 0, .int 0, .ref a6]))] H := hP
  have hD : va_D A [(a0, .inr (9, [.int 0, .ref a1, .int 0, .int 0, .int 0, .int 0, .int (-1), .int (-1), .ref a2, .ref a3, .ref a4, .ref a5, .int 0, .int 0, .int 0, .int 0, .int 0, .ref a6]))] := hD
  refine W.widen (k := 0) (n := 0) (Nat.le_of_ble_eq_true rfl) (Nat.le_of_ble_eq_true rfl) ?_
  refine lv_bipush (v := 32) hx hb dX9_ahead_8 (by decide) ?_
  refine lv_icmp_ne (tgt := 26) hx hb dX9_ahead_10 (by decide) (fun _ => ?_) (fun c9 => absurd c9 (by decide))
  refine lv_aload_n hx hb dX9_ahead_26 rfl (lv_at hl 0 rfl) ?_
  refine lv_aload_n hx hb dX9_ahead_27 rfl (lv_at hl 0 rfl) ?_
  refine va_get (D := D) (ci := 9) (v := .int 0) (C := RX9) (T := TX9) (N := 18) hx hb hts iX9_ahead_9 hown hN.1 hP 0 rfl rfl 4 (by decide) (hts _ mX9_ahead_1) (fun _ h9 => h9) rfl dX9_ahead_28 ?_
  refine cv_i (As := [.int 0]) (rest := []) (b := a0) (wr := []) ⟨hx, hb, hml, hown, hts⟩ (fun sz => k605_X9_byteAt l D cs sz a0 a1 a2 a3 a4 a5 a6) (cwV 1 hts gX9_ahead_X9_byteAt rfl rfl rfl hdX9_byteAt_v ⟨Nat.le_of_ble_eq_true rfl, Nat.le_of_ble_eq_true rfl⟩) hN hP hD hS hA [0] [] rfl rfl rfl rfl (by decide) (ci := 9) (q0 := 0) rfl rfl rfl rfl hl.1 (Nat.le_of_ble_eq_true rfl) dX9_ahead_31 (Nat.le_of_ble_eq_true rfl) (Nat.le_of_ble_eq_true rfl) (fun u1 H locs hP hD hS => ?_)
  have hP : va_P D vwCl [(a0, .inr (9, [.int 0, .ref a1, .int 0, .int 0, .int 0, .int 0, .int (-1), .int (-1), .ref a2, .ref a3, .ref a4, .ref a5, .int 0, .int 0, .int 0, .int 0, .int 0, .ref a6]))] H := hP
  have hD : va_D A [(a0, .inr (9, [.int 0, .ref a1, .int 0, .int 0, .int 0, .int 0, .int (-1), .int (-1), .ref a2, .ref a3, .ref a4, .ref a5, .int 0, .int 0, .int 0, .int 0, .int 0, .ref a6]))] := hD
  refine W.widen (k := 0) (n := 0) (Nat.le_of_ble_eq_true rfl) (Nat.le_of_ble_eq_true rfl) ?_
  exact en_i (fun k => ([] : List Nat).getD k 0) hx hb hr hlocks rfl rfl hP hD hS (Nat.le_of_ble_eq_true rfl) (Nat.le_of_ble_eq_true rfl) dX9_ahead_34
theorem mJ0_length_8abf5_1 : (.fieldLink RJ0 9 "java/lang/String" "value" "[B" : Cond) ∈ wsJ0_length_8abf5 := List.mem_of_getElem? (i := 1) (by decide +kernel)
theorem mJ0_coder_7d493_1 : (.fieldLink RJ0 38 "java/lang/String" "COMPACT_STRINGS" "Z" : Cond) ∈ wsJ0_coder_7d493 := List.mem_of_getElem? (i := 1) (by decide +kernel)
theorem mJ0_coder_7d493_2 : (.fieldLink RJ0 15 "java/lang/String" "coder" "B" : Cond) ∈ wsJ0_coder_7d493 := List.mem_of_getElem? (i := 2) (by decide +kernel)
set_option maxHeartbeats 4000000 in
set_option maxRecDepth 100000 in
theorem k607_J0_coder_7d493 (l : Launch) (D : va_G) (cs : Nat → ClassId) (sz : Nat) : KSI l yJ0_coder_7d493 wsJ0_coder_7d493 0 0 0 0 D cs sz [.ref (cs 119)] [] (fun u => []) (0) := by
  refine KSI.of cJ0_coder_7d493 1 (some .byte) (by decide) rfl (Nat.le_of_ble_eq_true rfl) ?_
  intro p e s m below meth c A ls hx hb hr hml hown hts hlocks hin hP hN hD hA hS hl hZS
  have hown : s.vm.findClass RJ0 = some m.cls := hown
  have hl : lv_has ls 1 [(0, .ref (cs 119))] := hl
  refine va_gets hx hb hZS.2.2.2.2.1 hS hown (hts _ mJ0_coder_7d493_1) (fun _ h9 => h9) dJ0_coder_7d493_0 ?_
  refine lv_if_eq (tgt := 13) hx hb dJ0_coder_7d493_3 (by decide) (fun c9 => absurd c9 (by decide)) (fun _ => ?_)
  refine lv_aload_n hx hb dJ0_coder_7d493_6 rfl (lv_at hl 0 rfl) ?_
  refine vk_getf hx hb hZS.2.1 hS hown (hts _ mJ0_coder_7d493_2) (fun _ h9 => h9) dJ0_coder_7d493_7 ?_
  refine lv_goto (tgt := 14) hx hb dJ0_coder_7d493_10 (by decide) ?_
  exact en_i (fun k => ([] : List Nat).getD k 0) hx hb hr hlocks rfl rfl hP hD hS (Nat.le_of_ble_eq_true rfl) (Nat.le_of_ble_eq_true rfl) dJ0_coder_7d493_14
theorem hdJ0_coder_7d493_v : yJ0_coder_7d493.cls = RJ0 ∧ yJ0_coder_7d493.cls ≠ "java/lang/invoke/MethodHandle" ∧ yJ0_coder_7d493.cls ≠ "java/lang/invoke/VarHandle" ∧ (parseMethodDescriptor yJ0_coder_7d493.desc).map (fun d => d.parameters.length) = some 0 := by decide +kernel
set_option maxHeartbeats 4000000 in
set_option maxRecDepth 100000 in
theorem k608_J0_length_8abf5 (l : Launch) (D : va_G) (cs : Nat → ClassId) (sz : Nat) : KSI l yJ0_length_8abf5 wsJ0_length_8abf5 1 20 0 0 D cs sz [.ref (cs 119)] [] (fun u => []) (7) := by
  refine KSI.of cJ0_length_8abf5 1 (some .int) (by decide) rfl (Nat.le_of_ble_eq_true rfl) ?_
  intro p e s m below meth c A ls hx hb hr hml hown hts hlocks hin hP hN hD hA hS hl hZS
  have hown : s.vm.findClass RJ0 = some m.cls := hown
  have hl : lv_has ls 1 [(0, .ref (cs 119))] := hl
  refine lv_aload_n hx hb dJ0_length_8abf5_0 rfl (lv_at hl 0 rfl) ?_
  refine vk_getf hx hb hZS.2.2.1 hS hown (hts _ mJ0_length_8abf5_1) (fun _ h9 => h9) dJ0_length_8abf5_1 ?_
  refine va_tlen (v := 7) hx hb hZS.2.2.2.1 hS rfl dJ0_length_8abf5_4 ?_
  refine lv_aload_n hx hb dJ0_length_8abf5_5 rfl (lv_at hl 0 rfl) ?_
  refine czr_i (As := []) (rest := [.int 7]) (b := (cs 119)) (wr := []) ⟨hx, hb, hml, hown, hts⟩ (fun sz => k607_J0_coder_7d493 l D cs sz ) (cwV 0 hts gJ0_length_8abf5_J0_coder_7d493 rfl rfl rfl hdJ0_coder_7d493_v ⟨Nat.le_of_ble_eq_true rfl, Nat.le_of_ble_eq_true rfl⟩) hN hP hD hS hA hZS [] [] rfl rfl rfl rfl (by decide) rfl rfl rfl hl.1 (Nat.le_of_ble_eq_true rfl) dJ0_length_8abf5_6 (Nat.le_of_ble_eq_true rfl) (Nat.le_of_ble_eq_true rfl) (fun u0 H locs hP hD hS => ?_)
  have hP : va_P D vwCl [] H := hP
  have hD : va_D A [] := hD
  refine W.widen (k := 0) (n := 0) (Nat.le_of_ble_eq_true rfl) (Nat.le_of_ble_eq_true rfl) ?_
  refine lv_ishr hx hb dJ0_length_8abf5_9 ?_
  refine tp_i (7) (by decide) ?_
  exact en_i (fun k => ([] : List Nat).getD k 0) hx hb hr hlocks rfl rfl hP hD hS (Nat.le_of_ble_eq_true rfl) (Nat.le_of_ble_eq_true rfl) dJ0_length_8abf5_10
theorem mX9_takeWord_1 : (.fieldLink RX9 53 "OneBeatModel" "position" "I" : Cond) ∈ wsX9_takeWord := List.mem_of_getElem? (i := 1) (by decide +kernel)
theorem iX9_takeWord_9 : ∀ w ∈ wsX90, w ∈ wsX9_takeWord := fun w h => List.mem_of_mem_drop (List.mem_of_mem_take ((show wsX90 = (wsX9_takeWord.drop 70).take 18 by decide +kernel) ▸ h))
theorem mJ0_isLatin1_aae02_1 : (.fieldLink RJ0 38 "java/lang/String" "COMPACT_STRINGS" "Z" : Cond) ∈ wsJ0_isLatin1_aae02 := List.mem_of_getElem? (i := 1) (by decide +kernel)
theorem mJ0_isLatin1_aae02_2 : (.fieldLink RJ0 15 "java/lang/String" "coder" "B" : Cond) ∈ wsJ0_isLatin1_aae02 := List.mem_of_getElem? (i := 2) (by decide +kernel)
set_option maxHeartbeats 4000000 in
set_option maxRecDepth 100000 in
theorem k609_J0_isLatin1_aae02 (l : Launch) (D : va_G) (cs : Nat → ClassId) (sz : Nat) : KSI l yJ0_isLatin1_aae02 wsJ0_isLatin1_aae02 0 0 0 0 D cs sz [.ref (cs 119)] [] (fun u => []) (1) := by
  refine KSI.of cJ0_isLatin1_aae02 1 (some .boolean) (by decide) rfl (Nat.le_of_ble_eq_true rfl) ?_
  intro p e s m below meth c A ls hx hb hr hml hown hts hlocks hin hP hN hD hA hS hl hZS
  have hown : s.vm.findClass RJ0 = some m.cls := hown
  have hl : lv_has ls 1 [(0, .ref (cs 119))] := hl
  refine va_gets hx hb hZS.2.2.2.2.1 hS hown (hts _ mJ0_isLatin1_aae02_1) (fun _ h9 => h9) dJ0_isLatin1_aae02_0 ?_
  refine lv_if_eq (tgt := 17) hx hb dJ0_isLatin1_aae02_3 (by decide) (fun c9 => absurd c9 (by decide)) (fun _ => ?_)
  refine lv_aload_n hx hb dJ0_isLatin1_aae02_6 rfl (lv_at hl 0 rfl) ?_
  refine vk_getf hx hb hZS.2.1 hS hown (hts _ mJ0_isLatin1_aae02_2) (fun _ h9 => h9) dJ0_isLatin1_aae02_7 ?_
  refine lv_if_ne (tgt := 17) hx hb dJ0_isLatin1_aae02_10 (by decide) (fun c9 => absurd (by decide) c9) (fun _ => ?_)
  refine lv_iconst (v := 1) hx hb dJ0_isLatin1_aae02_13 (by decide) ?_
  refine lv_goto (tgt := 18) hx hb dJ0_isLatin1_aae02_14 (by decide) ?_
  exact en_i (fun k => ([] : List Nat).getD k 0) hx hb hr hlocks rfl rfl hP hD hS (Nat.le_of_ble_eq_true rfl) (Nat.le_of_ble_eq_true rfl) dJ0_isLatin1_aae02_18
theorem mJ0_charAt_5068e_1 : (.fieldLink RJ0 9 "java/lang/String" "value" "[B" : Cond) ∈ wsJ0_charAt_5068e := List.mem_of_getElem? (i := 1) (by decide +kernel)
theorem hdJ0_checkIndex_df160_o : yJ0_checkIndex_df160.cls ≠ "java/lang/invoke/MethodHandle" ∧ yJ0_checkIndex_df160.cls ≠ "java/lang/invoke/VarHandle" ∧ (parseMethodDescriptor yJ0_checkIndex_df160.desc).map (fun d => d.parameters.length) = some 2 := by decide +kernel
set_option maxHeartbeats 4000000 in
set_option maxRecDepth 100000 in
theorem k610_J1_charAt_3b067 (l : Launch) (D : va_G) (cs : Nat → ClassId) (sz : Nat) : KSI l yJ1_charAt_3b067 wsJ1_charAt_3b067 2 51 0 0 D cs sz [.ref (cs 200), .int 0] [] (fun u => []) (112) := by
  refine KSI.of cJ1_charAt_3b067 2 (some .char) (by decide) rfl (Nat.le_of_ble_eq_true rfl) ?_
  intro p e s m below meth c A ls hx hb hr hml hown hts hlocks hin hP hN hD hA hS hl hZS
  have hown : s.vm.findClass RJ1 = some m.cls := hown
  have hl : lv_has ls 2 [(0, .ref (cs 200)), (1, .int 0)] := hl
  refine lv_iload_n hx hb dJ1_charAt_3b067_0 rfl (lv_at hl 1 rfl) ?_
  refine lv_aload_n hx hb dJ1_charAt_3b067_1 rfl (lv_at hl 0 rfl) ?_
  refine va_tlen (v := 7) hx hb hZS.2.2.2.1 hS rfl dJ1_charAt_3b067_2 ?_
  refine czs_v (As := [.int 0, .int 7]) (rest := []) (wr := []) ⟨hx, hb, hml, hown, hts⟩ (fun sz => kJ0_ci l D cs sz (0) (7) (by decide) (by decide) ) (va_cwS 2 hts gJ1_charAt_3b067_J0_checkIndex_df160 rfl rfl rfl hdJ0_checkIndex_df160_o ⟨Nat.le_of_ble_eq_true rfl, Nat.le_of_ble_eq_true rfl⟩) hN hP hD hS hA hZS [] [] rfl rfl rfl rfl (by decide) rfl rfl hl.1 (Nat.le_of_ble_eq_true rfl) dJ1_charAt_3b067_3 (Nat.le_of_ble_eq_true rfl) (Nat.le_of_ble_eq_true rfl) (fun u0 H locs hP hD hS => ?_)
  have hP : va_P D vwCl [] H := hP
  have hD : va_D A [] := hD
  refine W.widen (k := 0) (n := 0) (Nat.le_of_ble_eq_true rfl) (Nat.le_of_ble_eq_true rfl) ?_
  refine lv_aload_n hx hb dJ1_charAt_3b067_6 rfl (lv_at hl 0 rfl) ?_
  refine lv_iload_n hx hb dJ1_charAt_3b067_7 rfl (lv_at hl 1 rfl) ?_
  refine va_tb (v := .int 112) hx hb hZS.2.2.2.1 hS (vin (by decide +kernel)) rfl dJ1_charAt_3b067_8 ?_
  refine lv_sipush (v := 255) hx hb dJ1_charAt_3b067_9 (by decide) ?_
  refine lv_iand hx hb dJ1_charAt_3b067_12 ?_
  refine tp_i (112) (by decide) ?_
  refine lv_i2c (v := 112) hx hb dJ1_charAt_3b067_13 (by decide) ?_
  exact en_i (fun k => ([] : List Nat).getD k 0) hx hb hr hlocks rfl rfl hP hD hS (Nat.le_of_ble_eq_true rfl) (Nat.le_of_ble_eq_true rfl) dJ1_charAt_3b067_14
theorem hdJ0_isLatin1_aae02_v : yJ0_isLatin1_aae02.cls = RJ0 ∧ yJ0_isLatin1_aae02.cls ≠ "java/lang/invoke/MethodHandle" ∧ yJ0_isLatin1_aae02.cls ≠ "java/lang/invoke/VarHandle" ∧ (parseMethodDescriptor yJ0_isLatin1_aae02.desc).map (fun d => d.parameters.length) = some 0 := by decide +kernel
theorem hdJ1_charAt_3b067_o : yJ1_charAt_3b067.cls ≠ "java/lang/invoke/MethodHandle" ∧ yJ1_charAt_3b067.cls ≠ "java/lang/invoke/VarHandle" ∧ (parseMethodDescriptor yJ1_charAt_3b067.desc).map (fun d => d.parameters.length) = some 2 := by decide +kernel
set_option maxHeartbeats 4000000 in
set_option maxRecDepth 100000 in
theorem k611_J0_charAt_5068e (l : Launch) (D : va_G) (cs : Nat → ClassId) (sz : Nat) : KSI l yJ0_charAt_5068e wsJ0_charAt_5068e 3 72 0 0 D cs sz [.ref (cs 119), .int 0] [] (fun u => []) (112) := by
  refine KSI.of cJ0_charAt_5068e 2 (some .char) (by decide) rfl (Nat.le_of_ble_eq_true rfl) ?_
  intro p e s m below meth c A ls hx hb hr hml hown hts hlocks hin hP hN hD hA hS hl hZS
  have hown : s.vm.findClass RJ0 = some m.cls := hown
  have hl : lv_has ls 2 [(0, .ref (cs 119)), (1, .int 0)] := hl
  refine lv_aload_n hx hb dJ0_charAt_5068e_0 rfl (lv_at hl 0 rfl) ?_
  refine czr_i (As := []) (rest := []) (b := (cs 119)) (wr := []) ⟨hx, hb, hml, hown, hts⟩ (fun sz => k609_J0_isLatin1_aae02 l D cs sz ) (cwV 0 hts gJ0_charAt_5068e_J0_isLatin1_aae02 rfl rfl rfl hdJ0_isLatin1_aae02_v ⟨Nat.le_of_ble_eq_true rfl, Nat.le_of_ble_eq_true rfl⟩) hN hP hD hS hA hZS [] [] rfl rfl rfl rfl (by decide) rfl rfl rfl hl.1 (Nat.le_of_ble_eq_true rfl) dJ0_charAt_5068e_1 (Nat.le_of_ble_eq_true rfl) (Nat.le_of_ble_eq_true rfl) (fun u0 H locs hP hD hS => ?_)
  have hP : va_P D vwCl [] H := hP
  have hD : va_D A [] := hD
  refine W.widen (k := 0) (n := 0) (Nat.le_of_ble_eq_true rfl) (Nat.le_of_ble_eq_true rfl) ?_
  refine lv_if_eq (tgt := 16) hx hb dJ0_charAt_5068e_4 (by decide) (fun c9 => absurd c9 (by decide)) (fun _ => ?_)
  refine lv_aload_n hx hb dJ0_charAt_5068e_7 rfl (lv_at hl 0 rfl) ?_
  refine vk_getf hx hb hZS.2.2.1 hS hown (hts _ mJ0_charAt_5068e_1) (fun _ h9 => h9) dJ0_charAt_5068e_8 ?_
  refine lv_iload_n hx hb dJ0_charAt_5068e_11 rfl (lv_at hl 1 rfl) ?_
  refine czs_i (As := [.ref (cs 200), .int 0]) (rest := []) (wr := []) ⟨hx, hb, hml, hown, hts⟩ (fun sz => k610_J1_charAt_3b067 l D cs sz ) (va_cwS 2 hts gJ0_charAt_5068e_J1_charAt_3b067 rfl rfl rfl hdJ1_charAt_3b067_o ⟨Nat.le_of_ble_eq_true rfl, Nat.le_of_ble_eq_true rfl⟩) hN hP hD hS hA hZS [] [] rfl rfl rfl rfl (by decide) rfl rfl hl.1 (Nat.le_of_ble_eq_true rfl) dJ0_charAt_5068e_12 (Nat.le_of_ble_eq_true rfl) (Nat.le_of_ble_eq_true rfl) (fun u1 H locs hP hD hS => ?_)
  have hP : va_P D vwCl [] H := hP
  have hD : va_D A [] := hD
  refine W.widen (k := 0) (n := 0) (Nat.le_of_ble_eq_true rfl) (Nat.le_of_ble_eq_true rfl) ?_
  exact en_i (fun k => ([] : List Nat).getD k 0) hx hb hr hlocks rfl rfl hP hD hS (Nat.le_of_ble_eq_true rfl) (Nat.le_of_ble_eq_true rfl) dJ0_charAt_5068e_15
theorem hdX9_isGood_v : yX9_isGood.cls = RX9 ∧ yX9_isGood.cls ≠ "java/lang/invoke/MethodHandle" ∧ yX9_isGood.cls ≠ "java/lang/invoke/VarHandle" ∧ (parseMethodDescriptor yX9_isGood.desc).map (fun d => d.parameters.length) = some 0 := by decide +kernel
theorem hdX9_ahead_v : yX9_ahead.cls = RX9 ∧ yX9_ahead.cls ≠ "java/lang/invoke/MethodHandle" ∧ yX9_ahead.cls ≠ "java/lang/invoke/VarHandle" ∧ (parseMethodDescriptor yX9_ahead.desc).map (fun d => d.parameters.length) = some 0 := by decide +kernel
theorem hdJ0_length_8abf5_v : yJ0_length_8abf5.cls = RJ0 ∧ yJ0_length_8abf5.cls ≠ "java/lang/invoke/MethodHandle" ∧ yJ0_length_8abf5.cls ≠ "java/lang/invoke/VarHandle" ∧ (parseMethodDescriptor yJ0_length_8abf5.desc).map (fun d => d.parameters.length) = some 0 := by decide +kernel
theorem hdJ0_charAt_5068e_v : yJ0_charAt_5068e.cls = RJ0 ∧ yJ0_charAt_5068e.cls ≠ "java/lang/invoke/MethodHandle" ∧ yJ0_charAt_5068e.cls ≠ "java/lang/invoke/VarHandle" ∧ (parseMethodDescriptor yJ0_charAt_5068e.desc).map (fun d => d.parameters.length) = some 1 := by decide +kernel
set_option maxHeartbeats 4000000 in
set_option maxRecDepth 100000 in
theorem k612_X9_takeWord (l : Launch) (D : va_G) (cs : Nat → ClassId) (sz : Nat) (a0 a1 a2 a3 a4 a5 a6 : Nat) : KSI l yX9_takeWord wsX9_takeWord 4 93 0 0 D cs sz [.ref a0, .ref (cs 119)] [(a0, .inr (9, [.int 0, .ref a1, .int 0, .int 0, .int 0, .int 0, .int (-1), .int (-1), .ref a2, .ref a3, .ref a4, .ref a5, .int 0, .int 0, .int 0, .int 0, .int 0, .ref a6]))] (fun u => [(a0, .inr (9, [.int 0, .ref a1, .int 0, .int 0, .int 0, .int 0, .int (-1), .int (-1), .ref a2, .ref a3, .ref a4, .ref a5, .int 0, .int 0, .int 0, .int 0, .int 0, .ref a6]))]) (0) := by
  refine KSI.of cX9_takeWord 3 (some .boolean) (by decide) rfl (Nat.le_of_ble_eq_true rfl) ?_
  intro p e s m below meth c A ls hx hb hr hml hown hts hlocks hin hP hN hD hA hS hl hZS
  have hown : s.vm.findClass RX9 = some m.cls := hown
  have hl : lv_has ls 3 [(0, .ref a0), (1, .ref (cs 119))] := hl
  refine lv_aload_n hx hb dX9_takeWord_0 rfl (lv_at hl 0 rfl) ?_
  refine cv_i (As := []) (rest := []) (b := a0) (wr := []) ⟨hx, hb, hml, hown, hts⟩ (fun sz => k604_X9_isGood l D cs sz a0 a1 a2 a3 a4 a5 a6) (cwV 0 hts gX9_takeWord_X9_isGood rfl rfl rfl hdX9_isGood_v ⟨Nat.le_of_ble_eq_true rfl, Nat.le_of_ble_eq_true rfl⟩) hN hP hD hS hA [0] [] rfl rfl rfl rfl (by decide) (ci := 9) (q0 := 0) rfl rfl rfl rfl hl.1 (Nat.le_of_ble_eq_true rfl) dX9_takeWord_1 (Nat.le_of_ble_eq_true rfl) (Nat.le_of_ble_eq_true rfl) (fun u0 H locs hP hD hS => ?_)
  have hP : va_P D vwCl [(a0, .inr (9, [.int 0, .ref a1, .int 0, .int 0, .int 0, .int 0, .int (-1), .int (-1), .ref a2, .ref a3, .ref a4, .ref a5, .int 0, .int 0, .int 0, .int 0, .int 0, .ref a6]))] H := hP
  have hD : va_D A [(a0, .inr (9, [.int 0, .ref a1, .int 0, .int 0, .int 0, .int 0, .int (-1), .int (-1), .ref a2, .ref a3, .ref a4, .ref a5, .int 0, .int 0, .int 0, .int 0, .int 0, .ref a6]))] := hD
  refine W.widen (k := 0) (n := 0) (Nat.le_of_ble_eq_true rfl) (Nat.le_of_ble_eq_true rfl) ?_
  refine lv_if_ne (tgt := 9) hx hb dX9_takeWord_4 (by decide) (fun _ => ?_) (fun c9 => absurd c9 (by decide))
  refine lv_aload_n hx hb dX9_takeWord_9 rfl (lv_at hl 0 rfl) ?_
  refine cv_i (As := []) (rest := []) (b := a0) (wr := []) ⟨hx, hb, hml, hown, hts⟩ (fun sz => k606_X9_ahead l D cs sz a0 a1 a2 a3 a4 a5 a6) (cwV 0 hts gX9_takeWord_X9_ahead rfl rfl rfl hdX9_ahead_v ⟨Nat.le_of_ble_eq_true rfl, Nat.le_of_ble_eq_true rfl⟩) hN hP hD hS hA [0] [] rfl rfl rfl rfl (by decide) (ci := 9) (q0 := 0) rfl rfl rfl rfl hl.1 (Nat.le_of_ble_eq_true rfl) dX9_takeWord_10 (Nat.le_of_ble_eq_true rfl) (Nat.le_of_ble_eq_true rfl) (fun u1 H locs hP hD hS => ?_)
  have hP : va_P D vwCl [(a0, .inr (9, [.int 0, .ref a1, .int 0, .int 0, .int 0, .int 0, .int (-1), .int (-1), .ref a2, .ref a3, .ref a4, .ref a5, .int 0, .int 0, .int 0, .int 0, .int 0, .ref a6]))] H := hP
  have hD : va_D A [(a0, .inr (9, [.int 0, .ref a1, .int 0, .int 0, .int 0, .int 0, .int (-1), .int (-1), .ref a2, .ref a3, .ref a4, .ref a5, .int 0, .int 0, .int 0, .int 0, .int 0, .ref a6]))] := hD
  refine W.widen (k := 0) (n := 0) (Nat.le_of_ble_eq_true rfl) (Nat.le_of_ble_eq_true rfl) ?_
  refine lv_pop hx hb dX9_takeWord_13 rfl ?_
  refine lv_iconst (v := 0) hx hb dX9_takeWord_14 (by decide) ?_
  refine lv_istore_n (lv' := [(2, .int 0), (0, .ref a0), (1, .ref (cs 119))]) hx hb dX9_takeWord_15 rfl hl (by decide) rfl (fun ls hl => ?_)
  refine lv_iload_n hx hb dX9_takeWord_16 rfl (lv_at hl 0 rfl) ?_
  refine lv_aload_n hx hb dX9_takeWord_17 rfl (lv_at hl 2 rfl) ?_
  refine czr_i (As := []) (rest := [.int 0]) (b := (cs 119)) (wr := [(a0, .inr (9, [.int 0, .ref a1, .int 0, .int 0, .int 0, .int 0, .int (-1), .int (-1), .ref a2, .ref a3, .ref a4, .ref a5, .int 0, .int 0, .int 0, .int 0, .int 0, .ref a6]))]) ⟨hx, hb, hml, hown, hts⟩ (fun sz => k608_J0_length_8abf5 l D cs sz ) (cwV 0 hts gX9_takeWord_J0_length_8abf5 rfl rfl rfl hdJ0_length_8abf5_v ⟨Nat.le_of_ble_eq_true rfl, Nat.le_of_ble_eq_true rfl⟩) hN hP hD hS hA hZS [] [0] rfl rfl rfl rfl (by decide) rfl rfl rfl hl.1 (Nat.le_of_ble_eq_true rfl) dX9_takeWord_18 (Nat.le_of_ble_eq_true rfl) (Nat.le_of_ble_eq_true rfl) (fun u2 H locs hP hD hS => ?_)
  have hP : va_P D vwCl [(a0, .inr (9, [.int 0, .ref a1, .int 0, .int 0, .int 0, .int 0, .int (-1), .int (-1), .ref a2, .ref a3, .ref a4, .ref a5, .int 0, .int 0, .int 0, .int 0, .int 0, .ref a6]))] H := hP
  have hD : va_D A [(a0, .inr (9, [.int 0, .ref a1, .int 0, .int 0, .int 0, .int 0, .int (-1), .int (-1), .ref a2, .ref a3, .ref a4, .ref a5, .int 0, .int 0, .int 0, .int 0, .int 0, .ref a6]))] := hD
  refine W.widen (k := 0) (n := 0) (Nat.le_of_ble_eq_true rfl) (Nat.le_of_ble_eq_true rfl) ?_
  refine lv_icmp_ge (tgt := 48) hx hb dX9_takeWord_21 (by decide) (fun c9 => absurd c9 (by decide)) (fun _ => ?_)
  refine lv_aload_n hx hb dX9_takeWord_24 rfl (lv_at hl 1 rfl) ?_
  refine lv_aload_n hx hb dX9_takeWord_25 rfl (lv_at hl 1 rfl) ?_
  refine va_get (D := D) (ci := 9) (v := .int 0) (C := RX9) (T := TX9) (N := 18) hx hb hts iX9_takeWord_9 hown hN.1 hP 0 rfl rfl 4 (by decide) (hts _ mX9_takeWord_1) (fun _ h9 => h9) rfl dX9_takeWord_26 ?_
  refine lv_iload_n hx hb dX9_takeWord_29 rfl (lv_at hl 0 rfl) ?_
  refine lv_iadd hx hb dX9_takeWord_30 ?_
  refine tp_i (0) (by decide) ?_
  refine cv_i (As := [.int 0]) (rest := []) (b := a0) (wr := []) ⟨hx, hb, hml, hown, hts⟩ (fun sz => k605_X9_byteAt l D cs sz a0 a1 a2 a3 a4 a5 a6) (cwV 1 hts gX9_takeWord_X9_byteAt rfl rfl rfl hdX9_byteAt_v ⟨Nat.le_of_ble_eq_true rfl, Nat.le_of_ble_eq_true rfl⟩) hN hP hD hS hA [0] [] rfl rfl rfl rfl (by decide) (ci := 9) (q0 := 0) rfl rfl rfl rfl hl.1 (Nat.le_of_ble_eq_true rfl) dX9_takeWord_31 (Nat.le_of_ble_eq_true rfl) (Nat.le_of_ble_eq_true rfl) (fun u3 H locs hP hD hS => ?_)
  have hP : va_P D vwCl [(a0, .inr (9, [.int 0, .ref a1, .int 0, .int 0, .int 0, .int 0, .int (-1), .int (-1), .ref a2, .ref a3, .ref a4, .ref a5, .int 0, .int 0, .int 0, .int 0, .int 0, .ref a6]))] H := hP
  have hD : va_D A [(a0, .inr (9, [.int 0, .ref a1, .int 0, .int 0, .int 0, .int 0, .int (-1), .int (-1), .ref a2, .ref a3, .ref a4, .ref a5, .int 0, .int 0, .int 0, .int 0, .int 0, .ref a6]))] := hD
  refine W.widen (k := 0) (n := 0) (Nat.le_of_ble_eq_true rfl) (Nat.le_of_ble_eq_true rfl) ?_
  refine lv_aload_n hx hb dX9_takeWord_34 rfl (lv_at hl 2 rfl) ?_
  refine lv_iload_n hx hb dX9_takeWord_35 rfl (lv_at hl 0 rfl) ?_
  refine czr_i (As := [.int 0]) (rest := [.int (-1)]) (b := (cs 119)) (wr := [(a0, .inr (9, [.int 0, .ref a1, .int 0, .int 0, .int 0, .int 0, .int (-1), .int (-1), .ref a2, .ref a3, .ref a4, .ref a5, .int 0, .int 0, .int 0, .int 0, .int 0, .ref a6]))]) ⟨hx, hb, hml, hown, hts⟩ (fun sz => k611_J0_charAt_5068e l D cs sz ) (cwV 1 hts gX9_takeWord_J0_charAt_5068e rfl rfl rfl hdJ0_charAt_5068e_v ⟨Nat.le_of_ble_eq_true rfl, Nat.le_of_ble_eq_true rfl⟩) hN hP hD hS hA hZS [] [0] rfl rfl rfl rfl (by decide) rfl rfl rfl hl.1 (Nat.le_of_ble_eq_true rfl) dX9_takeWord_36 (Nat.le_of_ble_eq_true rfl) (Nat.le_of_ble_eq_true rfl) (fun u4 H locs hP hD hS => ?_)
  have hP : va_P D vwCl [(a0, .inr (9, [.int 0, .ref a1, .int 0, .int 0, .int 0, .int 0, .int (-1), .int (-1), .ref a2, .ref a3, .ref a4, .ref a5, .int 0, .int 0, .int 0, .int 0, .int 0, .ref a6]))] H := hP
  have hD : va_D A [(a0, .inr (9, [.int 0, .ref a1, .int 0, .int 0, .int 0, .int 0, .int (-1), .int (-1), .ref a2, .ref a3, .ref a4, .ref a5, .int 0, .int 0, .int 0, .int 0, .int 0, .ref a6]))] := hD
  refine W.widen (k := 0) (n := 0) (Nat.le_of_ble_eq_true rfl) (Nat.le_of_ble_eq_true rfl) ?_
  refine lv_icmp_ne (tgt := 48) hx hb dX9_takeWord_39 (by decide) (fun _ => ?_) (fun c9 => absurd c9 (by decide))
  refine lv_iload_n hx hb dX9_takeWord_48 rfl (lv_at hl 0 rfl) ?_
  refine lv_aload_n hx hb dX9_takeWord_49 rfl (lv_at hl 2 rfl) ?_
  refine czr_i (As := []) (rest := [.int 0]) (b := (cs 119)) (wr := [(a0, .inr (9, [.int 0, .ref a1, .int 0, .int 0, .int 0, .int 0, .int (-1), .int (-1), .ref a2, .ref a3, .ref a4, .ref a5, .int 0, .int 0, .int 0, .int 0, .int 0, .ref a6]))]) ⟨hx, hb, hml, hown, hts⟩ (fun sz => k608_J0_length_8abf5 l D cs sz ) (cwV 0 hts gX9_takeWord_J0_length_8abf5 rfl rfl rfl hdJ0_length_8abf5_v ⟨Nat.le_of_ble_eq_true rfl, Nat.le_of_ble_eq_true rfl⟩) hN hP hD hS hA hZS [] [0] rfl rfl rfl rfl (by decide) rfl rfl rfl hl.1 (Nat.le_of_ble_eq_true rfl) dX9_takeWord_50 (Nat.le_of_ble_eq_true rfl) (Nat.le_of_ble_eq_true rfl) (fun u5 H locs hP hD hS => ?_)
  have hP : va_P D vwCl [(a0, .inr (9, [.int 0, .ref a1, .int 0, .int 0, .int 0, .int 0, .int (-1), .int (-1), .ref a2, .ref a3, .ref a4, .ref a5, .int 0, .int 0, .int 0, .int 0, .int 0, .ref a6]))] H := hP
  have hD : va_D A [(a0, .inr (9, [.int 0, .ref a1, .int 0, .int 0, .int 0, .int 0, .int (-1), .int (-1), .ref a2, .ref a3, .ref a4, .ref a5, .int 0, .int 0, .int 0, .int 0, .int 0, .ref a6]))] := hD
  refine W.widen (k := 0) (n := 0) (Nat.le_of_ble_eq_true rfl) (Nat.le_of_ble_eq_true rfl) ?_
  refine lv_icmp_lt (tgt := 76) hx hb dX9_takeWord_53 (by decide) (fun _ => ?_) (fun c9 => absurd (by decide) c9)
  refine lv_iconst (v := 0) hx hb dX9_takeWord_76 (by decide) ?_
  exact en_i (fun k => ([] : List Nat).getD k 0) hx hb hr hlocks rfl rfl hP hD hS (Nat.le_of_ble_eq_true rfl) (Nat.le_of_ble_eq_true rfl) dX9_takeWord_77
theorem mX9_report_1 : (.fieldLink RX9 59 "OneBeatModel" "error" "I" : Cond) ∈ wsX9_report := List.mem_of_getElem? (i := 1) (by decide +kernel)
theorem iX9_report_9 : ∀ w ∈ wsX90, w ∈ wsX9_report := fun w h => List.mem_of_mem_drop (List.mem_of_mem_take ((show wsX90 = (wsX9_report.drop 3).take 18 by decide +kernel) ▸ h))
theorem mX9_report_2 : (.fieldLink RX9 62 "OneBeatModel" "errorAt" "I" : Cond) ∈ wsX9_report := List.mem_of_getElem? (i := 2) (by decide +kernel)
set_option maxHeartbeats 4000000 in
set_option maxRecDepth 100000 in
theorem k613_X9_report (l : Launch) (D : va_G) (cs : Nat → ClassId) (sz : Nat) (a0 a1 a2 a3 a4 a5 a6 : Nat) : KV l yX9_report wsX9_report 0 0 0 0 D cs sz [.ref a0, .int (-2), .int 0] [(a0, .inr (9, [.int 0, .ref a1, .int 0, .int 0, .int 0, .int 0, .int (-1), .int (-1), .ref a2, .ref a3, .ref a4, .ref a5, .int 0, .int 0, .int 0, .int 0, .int 0, .ref a6]))] (fun u => [(a0, .inr (9, [.int 0, .ref a1, .int 0, .int 0, .int 0, .int (-2), .int 0, .int (-1), .ref a2, .ref a3, .ref a4, .ref a5, .int 0, .int 0, .int 0, .int 0, .int 0, .ref a6]))]) := by
  refine KV.of cX9_report 3 none (by decide) rfl (Nat.le_of_ble_eq_true rfl) ?_
  intro p e s m below meth c A ls hx hb hr hml hown hts hlocks hin hP hN hD hA hS hl
  have hown : s.vm.findClass RX9 = some m.cls := hown
  have hl : lv_has ls 3 [(0, .ref a0), (1, .int (-2)), (2, .int 0)] := hl
  refine lv_aload_n hx hb dX9_report_0 rfl (lv_at hl 0 rfl) ?_
  refine va_get (D := D) (ci := 9) (v := .int 0) (C := RX9) (T := TX9) (N := 18) hx hb hts iX9_report_9 hown hN.1 hP 0 rfl rfl 5 (by decide) (hts _ mX9_report_1) (fun _ h9 => h9) rfl dX9_report_1 ?_
  refine lv_if_eq (tgt := 8) hx hb dX9_report_4 (by decide) (fun _ => ?_) (fun c9 => absurd (by decide) c9)
  refine lv_aload_n hx hb dX9_report_8 rfl (lv_at hl 0 rfl) ?_
  refine lv_iload_n hx hb dX9_report_9 rfl (lv_at hl 1 rfl) ?_
  refine va_put (D := D) (ci := 9) (v := .int (-2)) (ty := .int) (C := RX9) (T := TX9) (N := 18) hx hb hts iX9_report_9 tyX9 tyX9_ok nmX9 hown hN.1 hP hD hS 0 rfl rfl 5 (by decide) (hts _ mX9_report_1) (fun _ h9 => h9) rfl (by decide +kernel) rfl rfl (Nat.le_of_ble_eq_true rfl) dX9_report_10 (fun H locs hP hD hS => ?_)
  have hP : va_P D vwCl [(a0, .inr (9, [.int 0, .ref a1, .int 0, .int 0, .int 0, .int (-2), .int (-1), .int (-1), .ref a2, .ref a3, .ref a4, .ref a5, .int 0, .int 0, .int 0, .int 0, .int 0, .ref a6]))] H := hP
  have hD : va_D A [(a0, .inr (9, [.int 0, .ref a1, .int 0, .int 0, .int 0, .int (-2), .int (-1), .int (-1), .ref a2, .ref a3, .ref a4, .ref a5, .int 0, .int 0, .int 0, .int 0, .int 0, .ref a6]))] := hD
  refine lv_aload_n hx hb dX9_report_13 rfl (lv_at hl 0 rfl) ?_
  refine lv_iload_n hx hb dX9_report_14 rfl (lv_at hl 2 rfl) ?_
  refine va_put (D := D) (ci := 9) (v := .int 0) (ty := .int) (C := RX9) (T := TX9) (N := 18) hx hb hts iX9_report_9 tyX9 tyX9_ok nmX9 hown hN.1 hP hD hS 0 rfl rfl 6 (by decide) (hts _ mX9_report_2) (fun _ h9 => h9) rfl (by decide +kernel) rfl rfl (Nat.le_of_ble_eq_true rfl) dX9_report_15 (fun H locs hP hD hS => ?_)
  have hP : va_P D vwCl [(a0, .inr (9, [.int 0, .ref a1, .int 0, .int 0, .int 0, .int (-2), .int 0, .int (-1), .ref a2, .ref a3, .ref a4, .ref a5, .int 0, .int 0, .int 0, .int 0, .int 0, .ref a6]))] H := hP
  have hD : va_D A [(a0, .inr (9, [.int 0, .ref a1, .int 0, .int 0, .int 0, .int (-2), .int 0, .int (-1), .ref a2, .ref a3, .ref a4, .ref a5, .int 0, .int 0, .int 0, .int 0, .int 0, .ref a6]))] := hD
  exact en_v (fun k => ([] : List Nat).getD k 0) hx hb hr hlocks hP hD hS (Nat.le_of_ble_eq_true rfl) (Nat.le_of_ble_eq_true rfl) dX9_report_18
set_option maxHeartbeats 4000000 in
set_option maxRecDepth 100000 in
theorem k614_X9_isGood (l : Launch) (D : va_G) (cs : Nat → ClassId) (sz : Nat) (a0 a1 a2 a3 a4 a5 a6 : Nat) : KI l yX9_isGood wsX9_isGood 0 0 0 0 D cs sz [.ref a0] [(a0, .inr (9, [.int 0, .ref a1, .int 0, .int 0, .int 0, .int (-2), .int 0, .int (-1), .ref a2, .ref a3, .ref a4, .ref a5, .int 0, .int 0, .int 0, .int 0, .int 0, .ref a6]))] (fun u => [(a0, .inr (9, [.int 0, .ref a1, .int 0, .int 0, .int 0, .int (-2), .int 0, .int (-1), .ref a2, .ref a3, .ref a4, .ref a5, .int 0, .int 0, .int 0, .int 0, .int 0, .ref a6]))]) (0) := by
  refine KI.of cX9_isGood 1 (some .boolean) (by decide) rfl (Nat.le_of_ble_eq_true rfl) ?_
  intro p e s m below meth c A ls hx hb hr hml hown hts hlocks hin hP hN hD hA hS hl
  have hown : s.vm.findClass RX9 = some m.cls := hown
  have hl : lv_has ls 1 [(0, .ref a0)] := hl
  refine lv_aload_n hx hb dX9_isGood_0 rfl (lv_at hl 0 rfl) ?_
  refine va_get (D := D) (ci := 9) (v := .int (-2)) (C := RX9) (T := TX9) (N := 18) hx hb hts iX9_isGood_9 hown hN.1 hP 0 rfl rfl 5 (by decide) (hts _ mX9_isGood_1) (fun _ h9 => h9) rfl dX9_isGood_1 ?_
  refine lv_if_ne (tgt := 11) hx hb dX9_isGood_4 (by decide) (fun _ => ?_) (fun c9 => absurd c9 (by decide))
  refine lv_iconst (v := 0) hx hb dX9_isGood_11 (by decide) ?_
  exact en_i (fun k => ([] : List Nat).getD k 0) hx hb hr hlocks rfl rfl hP hD hS (Nat.le_of_ble_eq_true rfl) (Nat.le_of_ble_eq_true rfl) dX9_isGood_12
set_option maxHeartbeats 4000000 in
set_option maxRecDepth 100000 in
theorem k615_X9_number (l : Launch) (D : va_G) (cs : Nat → ClassId) (sz : Nat) (a0 a1 a2 a3 a4 a5 a6 : Nat) : KI l yX9_number wsX9_number 1 20 0 0 D cs sz [.ref a0, .int 1, .int 8] [(a0, .inr (9, [.int 0, .ref a1, .int 0, .int 0, .int 0, .int (-2), .int 0, .int (-1), .ref a2, .ref a3, .ref a4, .ref a5, .int 0, .int 0, .int 0, .int 0, .int 0, .ref a6]))] (fun u => [(a0, .inr (9, [.int 0, .ref a1, .int 0, .int 0, .int 0, .int (-2), .int 0, .int (-1), .ref a2, .ref a3, .ref a4, .ref a5, .int 0, .int 0, .int 0, .int 0, .int 0, .ref a6]))]) (0) := by
  refine KI.of cX9_number 4 (some .int) (by decide) rfl (Nat.le_of_ble_eq_true rfl) ?_
  intro p e s m below meth c A ls hx hb hr hml hown hts hlocks hin hP hN hD hA hS hl
  have hown : s.vm.findClass RX9 = some m.cls := hown
  have hl : lv_has ls 4 [(0, .ref a0), (1, .int 1), (2, .int 8)] := hl
  refine lv_aload_n hx hb dX9_number_0 rfl (lv_at hl 0 rfl) ?_
  refine cv_i (As := []) (rest := []) (b := a0) (wr := []) ⟨hx, hb, hml, hown, hts⟩ (fun sz => k614_X9_isGood l D cs sz a0 a1 a2 a3 a4 a5 a6) (cwV 0 hts gX9_number_X9_isGood rfl rfl rfl hdX9_isGood_v ⟨Nat.le_of_ble_eq_true rfl, Nat.le_of_ble_eq_true rfl⟩) hN hP hD hS hA [0] [] rfl rfl rfl rfl (by decide) (ci := 9) (q0 := 0) rfl rfl rfl rfl hl.1 (Nat.le_of_ble_eq_true rfl) dX9_number_1 (Nat.le_of_ble_eq_true rfl) (Nat.le_of_ble_eq_true rfl) (fun u0 H locs hP hD hS => ?_)
  have hP : va_P D vwCl [(a0, .inr (9, [.int 0, .ref a1, .int 0, .int 0, .int 0, .int (-2), .int 0, .int (-1), .ref a2, .ref a3, .ref a4, .ref a5, .int 0, .int 0, .int 0, .int 0, .int 0, .ref a6]))] H := hP
  have hD : va_D A [(a0, .inr (9, [.int 0, .ref a1, .int 0, .int 0, .int 0, .int (-2), .int 0, .int (-1), .ref a2, .ref a3, .ref a4, .ref a5, .int 0, .int 0, .int 0, .int 0, .int 0, .ref a6]))] := hD
  refine W.widen (k := 0) (n := 0) (Nat.le_of_ble_eq_true rfl) (Nat.le_of_ble_eq_true rfl) ?_
  refine lv_if_ne (tgt := 9) hx hb dX9_number_4 (by decide) (fun c9 => absurd (by decide) c9) (fun _ => ?_)
  refine lv_iconst (v := 0) hx hb dX9_number_7 (by decide) ?_
  exact en_i (fun k => ([] : List Nat).getD k 0) hx hb hr hlocks rfl rfl hP hD hS (Nat.le_of_ble_eq_true rfl) (Nat.le_of_ble_eq_true rfl) dX9_number_8
theorem mX9_load_10 : (.fieldLink RX9 24 "OneBeatModel" "draft" "[I" : Cond) ∈ wsX9_load := List.mem_of_getElem? (i := 10) (by decide +kernel)
set_option maxHeartbeats 4000000 in
set_option maxRecDepth 100000 in
theorem k616_X9_layPlayers (l : Launch) (D : va_G) (cs : Nat → ClassId) (sz : Nat) (a0 : Nat) : KV l yX9_layPlayers wsX9_layPlayers 1 20 0 0 D cs sz [.ref a0, .int 0] [(a0, .inl (cs 0, 1383, .inl (fun _ => 0)))] (fun u => [(a0, .inl (cs 0, 1383, .inl (upd (upd (upd (upd (upd (upd (upd (upd (upd (upd (upd (upd (upd (upd (upd (upd (upd (upd (upd (upd (upd (upd (upd (upd (upd (upd (upd (fun _ => 0) 12 50) 21 (-1)) 22 (-1)) 23 1) 29 (-1)) 34 (-1)) 35 1) 41 (-1)) 46 (-1)) 47 1) 53 (-1)) 58 (-1)) 59 1) 65 (-1)) 70 (-1)) 71 1) 77 (-1)) 82 (-1)) 83 1) 89 (-1)) 94 (-1)) 95 1) 101 (-1)) 106 (-1)) 107 1) 113 (-1)) 118 (-1))))]) := by
  refine KV.of cX9_layPlayers 3 none (by decide) rfl (Nat.le_of_ble_eq_true rfl) ?_
  intro p e s m below meth c A ls hx hb hr hml hown hts hlocks hin hP hN hD hA hS hl
  have hown : s.vm.findClass RX9 = some m.cls := hown
  have hl : lv_has ls 3 [(0, .ref a0), (1, .int 0)] := hl
  refine lv_iconst (v := 0) hx hb dX9_layPlayers_0 (by decide) ?_
  refine lv_istore_n (lv' := [(2, .int 0), (0, .ref a0), (1, .int 0)]) hx hb dX9_layPlayers_1 rfl hl (by decide) rfl (fun ls hl => ?_)
  refine z_loop (x := 0) (n := 1383) hx hb hN (by decide) (by decide) (fun H locs ls hP hD hS hl => ?_) 1383 0 rfl _ _ _ hP hD hS hl
  have hl : lv_has ls 3 [(2, .int 1383), (0, .ref a0), (1, .int 0)] := hl
  refine lv_aload_n hx hb dX9_layPlayers_19 rfl (lv_at hl 1 rfl) ?_
  refine lv_iconst (v := 0) hx hb dX9_layPlayers_20 (by decide) ?_
  refine lv_iload_n hx hb dX9_layPlayers_21 rfl (lv_at hl 2 rfl) ?_
  refine st_i (g := (fun _ => 0)) hx hb hN hP hD hS 0 rfl (vin (by decide +kernel)) (upd_id (by first | rfl | decide +kernel)) dX9_layPlayers_22 (fun H locs hP hD hS => ?_)
  have hP : va_P D vwCl [(a0, .inl (cs 0, 1383, .inl (fun _ => 0)))] H := hP
  have hD : va_D A [(a0, .inl (cs 0, 1383, .inl (fun _ => 0)))] := hD
  refine lv_aload_n hx hb dX9_layPlayers_23 rfl (lv_at hl 1 rfl) ?_
  refine lv_bipush (v := 11) hx hb dX9_layPlayers_24 (by decide) ?_
  refine lv_iload_n hx hb dX9_layPlayers_26 rfl (lv_at hl 2 rfl) ?_
  refine st_i (g := (fun _ => 0)) hx hb hN hP hD hS 0 rfl (vin (by decide +kernel)) (upd_id (by first | rfl | decide +kernel)) dX9_layPlayers_27 (fun H locs hP hD hS => ?_)
  have hP : va_P D vwCl [(a0, .inl (cs 0, 1383, .inl (fun _ => 0)))] H := hP
  have hD : va_D A [(a0, .inl (cs 0, 1383, .inl (fun _ => 0)))] := hD
  refine lv_aload_n hx hb dX9_layPlayers_28 rfl (lv_at hl 1 rfl) ?_
  refine lv_bipush (v := 12) hx hb dX9_layPlayers_29 (by decide) ?_
  refine lv_bipush (v := 50) hx hb dX9_layPlayers_31 (by decide) ?_
  refine st_i (g := (upd (fun _ => 0) 12 50)) hx hb hN hP hD hS 0 rfl (vin (by decide +kernel)) rfl dX9_layPlayers_33 (fun H locs hP hD hS => ?_)
  have hP : va_P D vwCl [(a0, .inl (cs 0, 1383, .inl (upd (fun _ => 0) 12 50)))] H := hP
  have hD : va_D A [(a0, .inl (cs 0, 1383, .inl (upd (fun _ => 0) 12 50)))] := hD
  refine lv_aload_n hx hb dX9_layPlayers_34 rfl (lv_at hl 1 rfl) ?_
  refine lv_bipush (v := 21) hx hb dX9_layPlayers_35 (by decide) ?_
  refine lv_iconst (v := (-1)) hx hb dX9_layPlayers_37 (by decide) ?_
  refine st_i (g := (upd (upd (fun _ => 0) 12 50) 21 (-1))) hx hb hN hP hD hS 0 rfl (vin (by decide +kernel)) rfl dX9_layPlayers_38 (fun H locs hP hD hS => ?_)
  have hP : va_P D vwCl [(a0, .inl (cs 0, 1383, .inl (upd (upd (fun _ => 0) 12 50) 21 (-1))))] H := hP
  have hD : va_D A [(a0, .inl (cs 0, 1383, .inl (upd (upd (fun _ => 0) 12 50) 21 (-1))))] := hD
  refine lv_aload_n hx hb dX9_layPlayers_39 rfl (lv_at hl 1 rfl) ?_
  refine lv_bipush (v := 22) hx hb dX9_layPlayers_40 (by decide) ?_
  refine lv_iconst (v := (-1)) hx hb dX9_layPlayers_42 (by decide) ?_
  refine st_i (g := (upd (upd (upd (fun _ => 0) 12 50) 21 (-1)) 22 (-1))) hx hb hN hP hD hS 0 rfl (vin (by decide +kernel)) rfl dX9_layPlayers_43 (fun H locs hP hD hS => ?_)
  have hP : va_P D vwCl [(a0, .inl (cs 0, 1383, .inl (upd (upd (upd (fun _ => 0) 12 50) 21 (-1)) 22 (-1))))] H := hP
  have hD : va_D A [(a0, .inl (cs 0, 1383, .inl (upd (upd (upd (fun _ => 0) 12 50) 21 (-1)) 22 (-1))))] := hD
  refine lv_iconst (v := 0) hx hb dX9_layPlayers_44 (by decide) ?_
  refine lv_istore_n (lv' := [(2, .int 0), (0, .ref a0), (1, .int 0)]) hx hb dX9_layPlayers_45 rfl hl (by decide) rfl (fun ls hl => ?_)
  refine lv_iload_n hx hb dX9_layPlayers_46 rfl (lv_at hl 0 rfl) ?_
  refine lv_bipush (v := 8) hx hb dX9_layPlayers_47 (by decide) ?_
  refine lv_icmp_ge (tgt := 87) hx hb dX9_layPlayers_49 (by decide) (fun c9 => absurd c9 (by decide)) (fun _ => ?_)
  refine lv_aload_n hx hb dX9_layPlayers_52 rfl (lv_at hl 1 rfl) ?_
  refine lv_iload_n hx hb dX9_layPlayers_53 rfl (lv_at hl 0 rfl) ?_
  refine cs_i (As := [.int 0]) (rest := [.ref a0]) (wr := [(a0, .inl (cs 0, 1383, .inl (upd (upd (upd (fun _ => 0) 12 50) 21 (-1)) 22 (-1))))]) ⟨hx, hb, hml, hown, hts⟩ (fun sz => k16_X9_playerAt l D cs sz ) (va_cwS 1 hts gX9_layPlayers_X9_playerAt rfl rfl rfl hdX9_playerAt_o ⟨Nat.le_of_ble_eq_true rfl, Nat.le_of_ble_eq_true rfl⟩) hN hP hD hS hA [] [0] rfl rfl rfl rfl (by decide) rfl rfl hl.1 (Nat.le_of_ble_eq_true rfl) dX9_layPlayers_54 (Nat.le_of_ble_eq_true rfl) (Nat.le_of_ble_eq_true rfl) (fun u0 H locs hP hD hS => ?_)
  have hP : va_P D vwCl [(a0, .inl (cs 0, 1383, .inl (upd (upd (upd (fun _ => 0) 12 50) 21 (-1)) 22 (-1))))] H := hP
  have hD : va_D A [(a0, .inl (cs 0, 1383, .inl (upd (upd (upd (fun _ => 0) 12 50) 21 (-1)) 22 (-1))))] := hD
  refine W.widen (k := 0) (n := 0) (Nat.le_of_ble_eq_true rfl) (Nat.le_of_ble_eq_true rfl) ?_
  refine lv_iconst (v := 0) hx hb dX9_layPlayers_57 (by decide) ?_
  refine lv_iadd hx hb dX9_layPlayers_58 ?_
  refine tp_i (23) (by decide) ?_
  refine lv_iconst (v := 1) hx hb dX9_layPlayers_59 (by decide) ?_
  refine st_i (g := (upd (upd (upd (upd (fun _ => 0) 12 50) 21 (-1)) 22 (-1)) 23 1)) hx hb hN hP hD hS 0 rfl (vin (by decide +kernel)) rfl dX9_layPlayers_60 (fun H locs hP hD hS => ?_)
  have hP : va_P D vwCl [(a0, .inl (cs 0, 1383, .inl (upd (upd (upd (upd (fun _ => 0) 12 50) 21 (-1)) 22 (-1)) 23 1)))] H := hP
  have hD : va_D A [(a0, .inl (cs 0, 1383, .inl (upd (upd (upd (upd (fun _ => 0) 12 50) 21 (-1)) 22 (-1)) 23 1)))] := hD
  refine lv_aload_n hx hb dX9_layPlayers_61 rfl (lv_at hl 1 rfl) ?_
  refine lv_iload_n hx hb dX9_layPlayers_62 rfl (lv_at hl 0 rfl) ?_
  refine cs_i (As := [.int 0]) (rest := [.ref a0]) (wr := [(a0, .inl (cs 0, 1383, .inl (upd (upd (upd (upd (fun _ => 0) 12 50) 21 (-1)) 22 (-1)) 23 1)))]) ⟨hx, hb, hml, hown, hts⟩ (fun sz => k16_X9_playerAt l D cs sz ) (va_cwS 1 hts gX9_layPlayers_X9_playerAt rfl rfl rfl hdX9_playerAt_o ⟨Nat.le_of_ble_eq_true rfl, Nat.le_of_ble_eq_true rfl⟩) hN hP hD hS hA [] [0] rfl rfl rfl rfl (by decide) rfl rfl hl.1 (Nat.le_of_ble_eq_true rfl) dX9_layPlayers_63 (Nat.le_of_ble_eq_true rfl) (Nat.le_of_ble_eq_true rfl) (fun u1 H locs hP hD hS => ?_)
  have hP : va_P D vwCl [(a0, .inl (cs 0, 1383, .inl (upd (upd (upd (upd (fun _ => 0) 12 50) 21 (-1)) 22 (-1)) 23 1)))] H := hP
  have hD : va_D A [(a0, .inl (cs 0, 1383, .inl (upd (upd (upd (upd (fun _ => 0) 12 50) 21 (-1)) 22 (-1)) 23 1)))] := hD
  refine W.widen (k := 0) (n := 0) (Nat.le_of_ble_eq_true rfl) (Nat.le_of_ble_eq_true rfl) ?_
  refine lv_bipush (v := 6) hx hb dX9_layPlayers_66 (by decide) ?_
  refine lv_iadd hx hb dX9_layPlayers_68 ?_
  refine tp_i (29) (by decide) ?_
  refine lv_iconst (v := (-1)) hx hb dX9_layPlayers_69 (by decide) ?_
  refine st_i (g := (upd (upd (upd (upd (upd (fun _ => 0) 12 50) 21 (-1)) 22 (-1)) 23 1) 29 (-1))) hx hb hN hP hD hS 0 rfl (vin (by decide +kernel)) rfl dX9_layPlayers_70 (fun H locs hP hD hS => ?_)
  have hP : va_P D vwCl [(a0, .inl (cs 0, 1383, .inl (upd (upd (upd (upd (upd (fun _ => 0) 12 50) 21 (-1)) 22 (-1)) 23 1) 29 (-1))))] H := hP
  have hD : va_D A [(a0, .inl (cs 0, 1383, .inl (upd (upd (upd (upd (upd (fun _ => 0) 12 50) 21 (-1)) 22 (-1)) 23 1) 29 (-1))))] := hD
  refine lv_aload_n hx hb dX9_layPlayers_71 rfl (lv_at hl 1 rfl) ?_
  refine lv_iload_n hx hb dX9_layPlayers_72 rfl (lv_at hl 0 rfl) ?_
  refine cs_i (As := [.int 0]) (rest := [.ref a0]) (wr := [(a0, .inl (cs 0, 1383, .inl (upd (upd (upd (upd (upd (fun _ => 0) 12 50) 21 (-1)) 22 (-1)) 23 1) 29 (-1))))]) ⟨hx, hb, hml, hown, hts⟩ (fun sz => k16_X9_playerAt l D cs sz ) (va_cwS 1 hts gX9_layPlayers_X9_playerAt rfl rfl rfl hdX9_playerAt_o ⟨Nat.le_of_ble_eq_true rfl, Nat.le_of_ble_eq_true rfl⟩) hN hP hD hS hA [] [0] rfl rfl rfl rfl (by decide) rfl rfl hl.1 (Nat.le_of_ble_eq_true rfl) dX9_layPlayers_73 (Nat.le_of_ble_eq_true rfl) (Nat.le_of_ble_eq_true rfl) (fun u2 H locs hP hD hS => ?_)
  have hP : va_P D vwCl [(a0, .inl (cs 0, 1383, .inl (upd (upd (upd (upd (upd (fun _ => 0) 12 50) 21 (-1)) 22 (-1)) 23 1) 29 (-1))))] H := hP
  have hD : va_D A [(a0, .inl (cs 0, 1383, .inl (upd (upd (upd (upd (upd (fun _ => 0) 12 50) 21 (-1)) 22 (-1)) 23 1) 29 (-1))))] := hD
  refine W.widen (k := 0) (n := 0) (Nat.le_of_ble_eq_true rfl) (Nat.le_of_ble_eq_true rfl) ?_
  refine lv_bipush (v := 11) hx hb dX9_layPlayers_76 (by decide) ?_
  refine lv_iadd hx hb dX9_layPlayers_78 ?_
  refine tp_i (34) (by decide) ?_
  refine lv_iconst (v := (-1)) hx hb dX9_layPlayers_79 (by decide) ?_
  refine st_i (g := (upd (upd (upd (upd (upd (upd (fun _ => 0) 12 50) 21 (-1)) 22 (-1)) 23 1) 29 (-1)) 34 (-1))) hx hb hN hP hD hS 0 rfl (vin (by decide +kernel)) rfl dX9_layPlayers_80 (fun H locs hP hD hS => ?_)
  have hP : va_P D vwCl [(a0, .inl (cs 0, 1383, .inl (upd (upd (upd (upd (upd (upd (fun _ => 0) 12 50) 21 (-1)) 22 (-1)) 23 1) 29 (-1)) 34 (-1))))] H := hP
  have hD : va_D A [(a0, .inl (cs 0, 1383, .inl (upd (upd (upd (upd (upd (upd (fun _ => 0) 12 50) 21 (-1)) 22 (-1)) 23 1) 29 (-1)) 34 (-1))))] := hD
  refine lv_iinc (v := 1) (lv' := [(2, .int 1), (0, .ref a0), (1, .int 0)]) hx hb dX9_layPlayers_81 hl (k := 0) rfl (by decide) (by decide) rfl (fun ls hl => ?_)
  refine lv_goto (tgt := 46) hx hb dX9_layPlayers_84 (by decide) ?_
  refine lv_iload_n hx hb dX9_layPlayers_46 rfl (lv_at hl 0 rfl) ?_
  refine lv_bipush (v := 8) hx hb dX9_layPlayers_47 (by decide) ?_
  refine lv_icmp_ge (tgt := 87) hx hb dX9_layPlayers_49 (by decide) (fun c9 => absurd c9 (by decide)) (fun _ => ?_)
  refine lv_aload_n hx hb dX9_layPlayers_52 rfl (lv_at hl 1 rfl) ?_
  refine lv_iload_n hx hb dX9_layPlayers_53 rfl (lv_at hl 0 rfl) ?_
  refine cs_i (As := [.int 1]) (rest := [.ref a0]) (wr := [(a0, .inl (cs 0, 1383, .inl (upd (upd (upd (upd (upd (upd (fun _ => 0) 12 50) 21 (-1)) 22 (-1)) 23 1) 29 (-1)) 34 (-1))))]) ⟨hx, hb, hml, hown, hts⟩ (fun sz => k17_X9_playerAt l D cs sz ) (va_cwS 1 hts gX9_layPlayers_X9_playerAt rfl rfl rfl hdX9_playerAt_o ⟨Nat.le_of_ble_eq_true rfl, Nat.le_of_ble_eq_true rfl⟩) hN hP hD hS hA [] [0] rfl rfl rfl rfl (by decide) rfl rfl hl.1 (Nat.le_of_ble_eq_true rfl) dX9_layPlayers_54 (Nat.le_of_ble_eq_true rfl) (Nat.le_of_ble_eq_true rfl) (fun u3 H locs hP hD hS => ?_)
  have hP : va_P D vwCl [(a0, .inl (cs 0, 1383, .inl (upd (upd (upd (upd (upd (upd (fun _ => 0) 12 50) 21 (-1)) 22 (-1)) 23 1) 29 (-1)) 34 (-1))))] H := hP
  have hD : va_D A [(a0, .inl (cs 0, 1383, .inl (upd (upd (upd (upd (upd (upd (fun _ => 0) 12 50) 21 (-1)) 22 (-1)) 23 1) 29 (-1)) 34 (-1))))] := hD
  refine W.widen (k := 0) (n := 0) (Nat.le_of_ble_eq_true rfl) (Nat.le_of_ble_eq_true rfl) ?_
  refine lv_iconst (v := 0) hx hb dX9_layPlayers_57 (by decide) ?_
  refine lv_iadd hx hb dX9_layPlayers_58 ?_
  refine tp_i (35) (by decide) ?_
  refine lv_iconst (v := 1) hx hb dX9_layPlayers_59 (by decide) ?_
  refine st_i (g := (upd (upd (upd (upd (upd (upd (upd (fun _ => 0) 12 50) 21 (-1)) 22 (-1)) 23 1) 29 (-1)) 34 (-1)) 35 1)) hx hb hN hP hD hS 0 rfl (vin (by decide +kernel)) rfl dX9_layPlayers_60 (fun H locs hP hD hS => ?_)
  have hP : va_P D vwCl [(a0, .inl (cs 0, 1383, .inl (upd (upd (upd (upd (upd (upd (upd (fun _ => 0) 12 50) 21 (-1)) 22 (-1)) 23 1) 29 (-1)) 34 (-1)) 35 1)))] H := hP
  have hD : va_D A [(a0, .inl (cs 0, 1383, .inl (upd (upd (upd (upd (upd (upd (upd (fun _ => 0) 12 50) 21 (-1)) 22 (-1)) 23 1) 29 (-1)) 34 (-1)) 35 1)))] := hD
  refine lv_aload_n hx hb dX9_layPlayers_61 rfl (lv_at hl 1 rfl) ?_
  refine lv_iload_n hx hb dX9_layPlayers_62 rfl (lv_at hl 0 rfl) ?_
  refine cs_i (As := [.int 1]) (rest := [.ref a0]) (wr := [(a0, .inl (cs 0, 1383, .inl (upd (upd (upd (upd (upd (upd (upd (fun _ => 0) 12 50) 21 (-1)) 22 (-1)) 23 1) 29 (-1)) 34 (-1)) 35 1)))]) ⟨hx, hb, hml, hown, hts⟩ (fun sz => k17_X9_playerAt l D cs sz ) (va_cwS 1 hts gX9_layPlayers_X9_playerAt rfl rfl rfl hdX9_playerAt_o ⟨Nat.le_of_ble_eq_true rfl, Nat.le_of_ble_eq_true rfl⟩) hN hP hD hS hA [] [0] rfl rfl rfl rfl (by decide) rfl rfl hl.1 (Nat.le_of_ble_eq_true rfl) dX9_layPlayers_63 (Nat.le_of_ble_eq_true rfl) (Nat.le_of_ble_eq_true rfl) (fun u4 H locs hP hD hS => ?_)
  have hP : va_P D vwCl [(a0, .inl (cs 0, 1383, .inl (upd (upd (upd (upd (upd (upd (upd (fun _ => 0) 12 50) 21 (-1)) 22 (-1)) 23 1) 29 (-1)) 34 (-1)) 35 1)))] H := hP
  have hD : va_D A [(a0, .inl (cs 0, 1383, .inl (upd (upd (upd (upd (upd (upd (upd (fun _ => 0) 12 50) 21 (-1)) 22 (-1)) 23 1) 29 (-1)) 34 (-1)) 35 1)))] := hD
  refine W.widen (k := 0) (n := 0) (Nat.le_of_ble_eq_true rfl) (Nat.le_of_ble_eq_true rfl) ?_
  refine lv_bipush (v := 6) hx hb dX9_layPlayers_66 (by decide) ?_
  refine lv_iadd hx hb dX9_layPlayers_68 ?_
  refine tp_i (41) (by decide) ?_
  refine lv_iconst (v := (-1)) hx hb dX9_layPlayers_69 (by decide) ?_
  refine st_i (g := (upd (upd (upd (upd (upd (upd (upd (upd (fun _ => 0) 12 50) 21 (-1)) 22 (-1)) 23 1) 29 (-1)) 34 (-1)) 35 1) 41 (-1))) hx hb hN hP hD hS 0 rfl (vin (by decide +kernel)) rfl dX9_layPlayers_70 (fun H locs hP hD hS => ?_)
  have hP : va_P D vwCl [(a0, .inl (cs 0, 1383, .inl (upd (upd (upd (upd (upd (upd (upd (upd (fun _ => 0) 12 50) 21 (-1)) 22 (-1)) 23 1) 29 (-1)) 34 (-1)) 35 1) 41 (-1))))] H := hP
  have hD : va_D A [(a0, .inl (cs 0, 1383, .inl (upd (upd (upd (upd (upd (upd (upd (upd (fun _ => 0) 12 50) 21 (-1)) 22 (-1)) 23 1) 29 (-1)) 34 (-1)) 35 1) 41 (-1))))] := hD
  refine lv_aload_n hx hb dX9_layPlayers_71 rfl (lv_at hl 1 rfl) ?_
  refine lv_iload_n hx hb dX9_layPlayers_72 rfl (lv_at hl 0 rfl) ?_
  refine cs_i (As := [.int 1]) (rest := [.ref a0]) (wr := [(a0, .inl (cs 0, 1383, .inl (upd (upd (upd (upd (upd (upd (upd (upd (fun _ => 0) 12 50) 21 (-1)) 22 (-1)) 23 1) 29 (-1)) 34 (-1)) 35 1) 41 (-1))))]) ⟨hx, hb, hml, hown, hts⟩ (fun sz => k17_X9_playerAt l D cs sz ) (va_cwS 1 hts gX9_layPlayers_X9_playerAt rfl rfl rfl hdX9_playerAt_o ⟨Nat.le_of_ble_eq_true rfl, Nat.le_of_ble_eq_true rfl⟩) hN hP hD hS hA [] [0] rfl rfl rfl rfl (by decide) rfl rfl hl.1 (Nat.le_of_ble_eq_true rfl) dX9_layPlayers_73 (Nat.le_of_ble_eq_true rfl) (Nat.le_of_ble_eq_true rfl) (fun u5 H locs hP hD hS => ?_)
  have hP : va_P D vwCl [(a0, .inl (cs 0, 1383, .inl (upd (upd (upd (upd (upd (upd (upd (upd (fun _ => 0) 12 50) 21 (-1)) 22 (-1)) 23 1) 29 (-1)) 34 (-1)) 35 1) 41 (-1))))] H := hP
  have hD : va_D A [(a0, .inl (cs 0, 1383, .inl (upd (upd (upd (upd (upd (upd (upd (upd (fun _ => 0) 12 50) 21 (-1)) 22 (-1)) 23 1) 29 (-1)) 34 (-1)) 35 1) 41 (-1))))] := hD
  refine W.widen (k := 0) (n := 0) (Nat.le_of_ble_eq_true rfl) (Nat.le_of_ble_eq_true rfl) ?_
  refine lv_bipush (v := 11) hx hb dX9_layPlayers_76 (by decide) ?_
  refine lv_iadd hx hb dX9_layPlayers_78 ?_
  refine tp_i (46) (by decide) ?_
  refine lv_iconst (v := (-1)) hx hb dX9_layPlayers_79 (by decide) ?_
  refine st_i (g := (upd (upd (upd (upd (upd (upd (upd (upd (upd (fun _ => 0) 12 50) 21 (-1)) 22 (-1)) 23 1) 29 (-1)) 34 (-1)) 35 1) 41 (-1)) 46 (-1))) hx hb hN hP hD hS 0 rfl (vin (by decide +kernel)) rfl dX9_layPlayers_80 (fun H locs hP hD hS => ?_)
  have hP : va_P D vwCl [(a0, .inl (cs 0, 1383, .inl (upd (upd (upd (upd (upd (upd (upd (upd (upd (fun _ => 0) 12 50) 21 (-1)) 22 (-1)) 23 1) 29 (-1)) 34 (-1)) 35 1) 41 (-1)) 46 (-1))))] H := hP
  have hD : va_D A [(a0, .inl (cs 0, 1383, .inl (upd (upd (upd (upd (upd (upd (upd (upd (upd (fun _ => 0) 12 50) 21 (-1)) 22 (-1)) 23 1) 29 (-1)) 34 (-1)) 35 1) 41 (-1)) 46 (-1))))] := hD
  refine lv_iinc (v := 2) (lv' := [(2, .int 2), (0, .ref a0), (1, .int 0)]) hx hb dX9_layPlayers_81 hl (k := 0) rfl (by decide) (by decide) rfl (fun ls hl => ?_)
  refine lv_goto (tgt := 46) hx hb dX9_layPlayers_84 (by decide) ?_
  refine lv_iload_n hx hb dX9_layPlayers_46 rfl (lv_at hl 0 rfl) ?_
  refine lv_bipush (v := 8) hx hb dX9_layPlayers_47 (by decide) ?_
  refine lv_icmp_ge (tgt := 87) hx hb dX9_layPlayers_49 (by decide) (fun c9 => absurd c9 (by decide)) (fun _ => ?_)
  refine lv_aload_n hx hb dX9_layPlayers_52 rfl (lv_at hl 1 rfl) ?_
  refine lv_iload_n hx hb dX9_layPlayers_53 rfl (lv_at hl 0 rfl) ?_
  refine cs_i (As := [.int 2]) (rest := [.ref a0]) (wr := [(a0, .inl (cs 0, 1383, .inl (upd (upd (upd (upd (upd (upd (upd (upd (upd (fun _ => 0) 12 50) 21 (-1)) 22 (-1)) 23 1) 29 (-1)) 34 (-1)) 35 1) 41 (-1)) 46 (-1))))]) ⟨hx, hb, hml, hown, hts⟩ (fun sz => k18_X9_playerAt l D cs sz ) (va_cwS 1 hts gX9_layPlayers_X9_playerAt rfl rfl rfl hdX9_playerAt_o ⟨Nat.le_of_ble_eq_true rfl, Nat.le_of_ble_eq_true rfl⟩) hN hP hD hS hA [] [0] rfl rfl rfl rfl (by decide) rfl rfl hl.1 (Nat.le_of_ble_eq_true rfl) dX9_layPlayers_54 (Nat.le_of_ble_eq_true rfl) (Nat.le_of_ble_eq_true rfl) (fun u6 H locs hP hD hS => ?_)
  have hP : va_P D vwCl [(a0, .inl (cs 0, 1383, .inl (upd (upd (upd (upd (upd (upd (upd (upd (upd (fun _ => 0) 12 50) 21 (-1)) 22 (-1)) 23 1) 29 (-1)) 34 (-1)) 35 1) 41 (-1)) 46 (-1))))] H := hP
  have hD : va_D A [(a0, .inl (cs 0, 1383, .inl (upd (upd (upd (upd (upd (upd (upd (upd (upd (fun _ => 0) 12 50) 21 (-1)) 22 (-1)) 23 1) 29 (-1)) 34 (-1)) 35 1) 41 (-1)) 46 (-1))))] := hD
  refine W.widen (k := 0) (n := 0) (Nat.le_of_ble_eq_true rfl) (Nat.le_of_ble_eq_true rfl) ?_
  refine lv_iconst (v := 0) hx hb dX9_layPlayers_57 (by decide) ?_
  refine lv_iadd hx hb dX9_layPlayers_58 ?_
  refine tp_i (47) (by decide) ?_
  refine lv_iconst (v := 1) hx hb dX9_layPlayers_59 (by decide) ?_
  refine st_i (g := (upd (upd (upd (upd (upd (upd (upd (upd (upd (upd (fun _ => 0) 12 50) 21 (-1)) 22 (-1)) 23 1) 29 (-1)) 34 (-1)) 35 1) 41 (-1)) 46 (-1)) 47 1)) hx hb hN hP hD hS 0 rfl (vin (by decide +kernel)) rfl dX9_layPlayers_60 (fun H locs hP hD hS => ?_)
  have hP : va_P D vwCl [(a0, .inl (cs 0, 1383, .inl (upd (upd (upd (upd (upd (upd (upd (upd (upd (upd (fun _ => 0) 12 50) 21 (-1)) 22 (-1)) 23 1) 29 (-1)) 34 (-1)) 35 1) 41 (-1)) 46 (-1)) 47 1)))] H := hP
  have hD : va_D A [(a0, .inl (cs 0, 1383, .inl (upd (upd (upd (upd (upd (upd (upd (upd (upd (upd (fun _ => 0) 12 50) 21 (-1)) 22 (-1)) 23 1) 29 (-1)) 34 (-1)) 35 1) 41 (-1)) 46 (-1)) 47 1)))] := hD
  refine lv_aload_n hx hb dX9_layPlayers_61 rfl (lv_at hl 1 rfl) ?_
  refine lv_iload_n hx hb dX9_layPlayers_62 rfl (lv_at hl 0 rfl) ?_
  refine cs_i (As := [.int 2]) (rest := [.ref a0]) (wr := [(a0, .inl (cs 0, 1383, .inl (upd (upd (upd (upd (upd (upd (upd (upd (upd (upd (fun _ => 0) 12 50) 21 (-1)) 22 (-1)) 23 1) 29 (-1)) 34 (-1)) 35 1) 41 (-1)) 46 (-1)) 47 1)))]) ⟨hx, hb, hml, hown, hts⟩ (fun sz => k18_X9_playerAt l D cs sz ) (va_cwS 1 hts gX9_layPlayers_X9_playerAt rfl rfl rfl hdX9_playerAt_o ⟨Nat.le_of_ble_eq_true rfl, Nat.le_of_ble_eq_true rfl⟩) hN hP hD hS hA [] [0] rfl rfl rfl rfl (by decide) rfl rfl hl.1 (Nat.le_of_ble_eq_true rfl) dX9_layPlayers_63 (Nat.le_of_ble_eq_true rfl) (Nat.le_of_ble_eq_true rfl) (fun u7 H locs hP hD hS => ?_)
  have hP : va_P D vwCl [(a0, .inl (cs 0, 1383, .inl (upd (upd (upd (upd (upd (upd (upd (upd (upd (upd (fun _ => 0) 12 50) 21 (-1)) 22 (-1)) 23 1) 29 (-1)) 34 (-1)) 35 1) 41 (-1)) 46 (-1)) 47 1)))] H := hP
  have hD : va_D A [(a0, .inl (cs 0, 1383, .inl (upd (upd (upd (upd (upd (upd (upd (upd (upd (upd (fun _ => 0) 12 50) 21 (-1)) 22 (-1)) 23 1) 29 (-1)) 34 (-1)) 35 1) 41 (-1)) 46 (-1)) 47 1)))] := hD
  refine W.widen (k := 0) (n := 0) (Nat.le_of_ble_eq_true rfl) (Nat.le_of_ble_eq_true rfl) ?_
  refine lv_bipush (v := 6) hx hb dX9_layPlayers_66 (by decide) ?_
  refine lv_iadd hx hb dX9_layPlayers_68 ?_
  refine tp_i (53) (by decide) ?_
  refine lv_iconst (v := (-1)) hx hb dX9_layPlayers_69 (by decide) ?_
  refine st_i (g := (upd (upd (upd (upd (upd (upd (upd (upd (upd (upd (upd (fun _ => 0) 12 50) 21 (-1)) 22 (-1)) 23 1) 29 (-1)) 34 (-1)) 35 1) 41 (-1)) 46 (-1)) 47 1) 53 (-1))) hx hb hN hP hD hS 0 rfl (vin (by decide +kernel)) rfl dX9_layPlayers_70 (fun H locs hP hD hS => ?_)
  have hP : va_P D vwCl [(a0, .inl (cs 0, 1383, .inl (upd (upd (upd (upd (upd (upd (upd (upd (upd (upd (upd (fun _ => 0) 12 50) 21 (-1)) 22 (-1)) 23 1) 29 (-1)) 34 (-1)) 35 1) 41 (-1)) 46 (-1)) 47 1) 53 (-1))))] H := hP
  have hD : va_D A [(a0, .inl (cs 0, 1383, .inl (upd (upd (upd (upd (upd (upd (upd (upd (upd (upd (upd (fun _ => 0) 12 50) 21 (-1)) 22 (-1)) 23 1) 29 (-1)) 34 (-1)) 35 1) 41 (-1)) 46 (-1)) 47 1) 53 (-1))))] := hD
  refine lv_aload_n hx hb dX9_layPlayers_71 rfl (lv_at hl 1 rfl) ?_
  refine lv_iload_n hx hb dX9_layPlayers_72 rfl (lv_at hl 0 rfl) ?_
  refine cs_i (As := [.int 2]) (rest := [.ref a0]) (wr := [(a0, .inl (cs 0, 1383, .inl (upd (upd (upd (upd (upd (upd (upd (upd (upd (upd (upd (fun _ => 0) 12 50) 21 (-1)) 22 (-1)) 23 1) 29 (-1)) 34 (-1)) 35 1) 41 (-1)) 46 (-1)) 47 1) 53 (-1))))]) ⟨hx, hb, hml, hown, hts⟩ (fun sz => k18_X9_playerAt l D cs sz ) (va_cwS 1 hts gX9_layPlayers_X9_playerAt rfl rfl rfl hdX9_playerAt_o ⟨Nat.le_of_ble_eq_true rfl, Nat.le_of_ble_eq_true rfl⟩) hN hP hD hS hA [] [0] rfl rfl rfl rfl (by decide) rfl rfl hl.1 (Nat.le_of_ble_eq_true rfl) dX9_layPlayers_73 (Nat.le_of_ble_eq_true rfl) (Nat.le_of_ble_eq_true rfl) (fun u8 H locs hP hD hS => ?_)
  have hP : va_P D vwCl [(a0, .inl (cs 0, 1383, .inl (upd (upd (upd (upd (upd (upd (upd (upd (upd (upd (upd (fun _ => 0) 12 50) 21 (-1)) 22 (-1)) 23 1) 29 (-1)) 34 (-1)) 35 1) 41 (-1)) 46 (-1)) 47 1) 53 (-1))))] H := hP
  have hD : va_D A [(a0, .inl (cs 0, 1383, .inl (upd (upd (upd (upd (upd (upd (upd (upd (upd (upd (upd (fun _ => 0) 12 50) 21 (-1)) 22 (-1)) 23 1) 29 (-1)) 34 (-1)) 35 1) 41 (-1)) 46 (-1)) 47 1) 53 (-1))))] := hD
  refine W.widen (k := 0) (n := 0) (Nat.le_of_ble_eq_true rfl) (Nat.le_of_ble_eq_true rfl) ?_
  refine lv_bipush (v := 11) hx hb dX9_layPlayers_76 (by decide) ?_
  refine lv_iadd hx hb dX9_layPlayers_78 ?_
  refine tp_i (58) (by decide) ?_
  refine lv_iconst (v := (-1)) hx hb dX9_layPlayers_79 (by decide) ?_
  refine st_i (g := (upd (upd (upd (upd (upd (upd (upd (upd (upd (upd (upd (upd (fun _ => 0) 12 50) 21 (-1)) 22 (-1)) 23 1) 29 (-1)) 34 (-1)) 35 1) 41 (-1)) 46 (-1)) 47 1) 53 (-1)) 58 (-1))) hx hb hN hP hD hS 0 rfl (vin (by decide +kernel)) rfl dX9_layPlayers_80 (fun H locs hP hD hS => ?_)
  have hP : va_P D vwCl [(a0, .inl (cs 0, 1383, .inl (upd (upd (upd (upd (upd (upd (upd (upd (upd (upd (upd (upd (fun _ => 0) 12 50) 21 (-1)) 22 (-1)) 23 1) 29 (-1)) 34 (-1)) 35 1) 41 (-1)) 46 (-1)) 47 1) 53 (-1)) 58 (-1))))] H := hP
  have hD : va_D A [(a0, .inl (cs 0, 1383, .inl (upd (upd (upd (upd (upd (upd (upd (upd (upd (upd (upd (upd (fun _ => 0) 12 50) 21 (-1)) 22 (-1)) 23 1) 29 (-1)) 34 (-1)) 35 1) 41 (-1)) 46 (-1)) 47 1) 53 (-1)) 58 (-1))))] := hD
  refine lv_iinc (v := 3) (lv' := [(2, .int 3), (0, .ref a0), (1, .int 0)]) hx hb dX9_layPlayers_81 hl (k := 0) rfl (by decide) (by decide) rfl (fun ls hl => ?_)
  refine lv_goto (tgt := 46) hx hb dX9_layPlayers_84 (by decide) ?_
  refine lv_iload_n hx hb dX9_layPlayers_46 rfl (lv_at hl 0 rfl) ?_
  refine lv_bipush (v := 8) hx hb dX9_layPlayers_47 (by decide) ?_
  refine lv_icmp_ge (tgt := 87) hx hb dX9_layPlayers_49 (by decide) (fun c9 => absurd c9 (by decide)) (fun _ => ?_)
  refine lv_aload_n hx hb dX9_layPlayers_52 rfl (lv_at hl 1 rfl) ?_
  refine lv_iload_n hx hb dX9_layPlayers_53 rfl (lv_at hl 0 rfl) ?_
  refine cs_i (As := [.int 3]) (rest := [.ref a0]) (wr := [(a0, .inl (cs 0, 1383, .inl (upd (upd (upd (upd (upd (upd (upd (upd (upd (upd (upd (upd (fun _ => 0) 12 50) 21 (-1)) 22 (-1)) 23 1) 29 (-1)) 34 (-1)) 35 1) 41 (-1)) 46 (-1)) 47 1) 53 (-1)) 58 (-1))))]) ⟨hx, hb, hml, hown, hts⟩ (fun sz => k19_X9_playerAt l D cs sz ) (va_cwS 1 hts gX9_layPlayers_X9_playerAt rfl rfl rfl hdX9_playerAt_o ⟨Nat.le_of_ble_eq_true rfl, Nat.le_of_ble_eq_true rfl⟩) hN hP hD hS hA [] [0] rfl rfl rfl rfl (by decide) rfl rfl hl.1 (Nat.le_of_ble_eq_true rfl) dX9_layPlayers_54 (Nat.le_of_ble_eq_true rfl) (Nat.le_of_ble_eq_true rfl) (fun u9 H locs hP hD hS => ?_)
  have hP : va_P D vwCl [(a0, .inl (cs 0, 1383, .inl (upd (upd (upd (upd (upd (upd (upd (upd (upd (upd (upd (upd (fun _ => 0) 12 50) 21 (-1)) 22 (-1)) 23 1) 29 (-1)) 34 (-1)) 35 1) 41 (-1)) 46 (-1)) 47 1) 53 (-1)) 58 (-1))))] H := hP
  have hD : va_D A [(a0, .inl (cs 0, 1383, .inl (upd (upd (upd (upd (upd (upd (upd (upd (upd (upd (upd (upd (fun _ => 0) 12 50) 21 (-1)) 22 (-1)) 23 1) 29 (-1)) 34 (-1)) 35 1) 41 (-1)) 46 (-1)) 47 1) 53 (-1)) 58 (-1))))] := hD
  refine W.widen (k := 0) (n := 0) (Nat.le_of_ble_eq_true rfl) (Nat.le_of_ble_eq_true rfl) ?_
  refine lv_iconst (v := 0) hx hb dX9_layPlayers_57 (by decide) ?_
  refine lv_iadd hx hb dX9_layPlayers_58 ?_
  refine tp_i (59) (by decide) ?_
  refine lv_iconst (v := 1) hx hb dX9_layPlayers_59 (by decide) ?_
  refine st_i (g := (upd (upd (upd (upd (upd (upd (upd (upd (upd (upd (upd (upd (upd (fun _ => 0) 12 50) 21 (-1)) 22 (-1)) 23 1) 29 (-1)) 34 (-1)) 35 1) 41 (-1)) 46 (-1)) 47 1) 53 (-1)) 58 (-1)) 59 1)) hx hb hN hP hD hS 0 rfl (vin (by decide +kernel)) rfl dX9_layPlayers_60 (fun H locs hP hD hS => ?_)
  have hP : va_P D vwCl [(a0, .inl (cs 0, 1383, .inl (upd (upd (upd (upd (upd (upd (upd (upd (upd (upd (upd (upd (upd (fun _ => 0) 12 50) 21 (-1)) 22 (-1)) 23 1) 29 (-1)) 34 (-1)) 35 1) 41 (-1)) 46 (-1)) 47 1) 53 (-1)) 58 (-1)) 59 1)))] H := hP
  have hD : va_D A [(a0, .inl (cs 0, 1383, .inl (upd (upd (upd (upd (upd (upd (upd (upd (upd (upd (upd (upd (upd (fun _ => 0) 12 50) 21 (-1)) 22 (-1)) 23 1) 29 (-1)) 34 (-1)) 35 1) 41 (-1)) 46 (-1)) 47 1) 53 (-1)) 58 (-1)) 59 1)))] := hD
  refine lv_aload_n hx hb dX9_layPlayers_61 rfl (lv_at hl 1 rfl) ?_
  refine lv_iload_n hx hb dX9_layPlayers_62 rfl (lv_at hl 0 rfl) ?_
  refine cs_i (As := [.int 3]) (rest := [.ref a0]) (wr := [(a0, .inl (cs 0, 1383, .inl (upd (upd (upd (upd (upd (upd (upd (upd (upd (upd (upd (upd (upd (fun _ => 0) 12 50) 21 (-1)) 22 (-1)) 23 1) 29 (-1)) 34 (-1)) 35 1) 41 (-1)) 46 (-1)) 47 1) 53 (-1)) 58 (-1)) 59 1)))]) ⟨hx, hb, hml, hown, hts⟩ (fun sz => k19_X9_playerAt l D cs sz ) (va_cwS 1 hts gX9_layPlayers_X9_playerAt rfl rfl rfl hdX9_playerAt_o ⟨Nat.le_of_ble_eq_true rfl, Nat.le_of_ble_eq_true rfl⟩) hN hP hD hS hA [] [0] rfl rfl rfl rfl (by decide) rfl rfl hl.1 (Nat.le_of_ble_eq_true rfl) dX9_layPlayers_63 (Nat.le_of_ble_eq_true rfl) (Nat.le_of_ble_eq_true rfl) (fun u10 H locs hP hD hS => ?_)
  have hP : va_P D vwCl [(a0, .inl (cs 0, 1383, .inl (upd (upd (upd (upd (upd (upd (upd (upd (upd (upd (upd (upd (upd (fun _ => 0) 12 50) 21 (-1)) 22 (-1)) 23 1) 29 (-1)) 34 (-1)) 35 1) 41 (-1)) 46 (-1)) 47 1) 53 (-1)) 58 (-1)) 59 1)))] H := hP
  have hD : va_D A [(a0, .inl (cs 0, 1383, .inl (upd (upd (upd (upd (upd (upd (upd (upd (upd (upd (upd (upd (upd (fun _ => 0) 12 50) 21 (-1)) 22 (-1)) 23 1) 29 (-1)) 34 (-1)) 35 1) 41 (-1)) 46 (-1)) 47 1) 53 (-1)) 58 (-1)) 59 1)))] := hD
  refine W.widen (k := 0) (n := 0) (Nat.le_of_ble_eq_true rfl) (Nat.le_of_ble_eq_true rfl) ?_
  refine lv_bipush (v := 6) hx hb dX9_layPlayers_66 (by decide) ?_
  refine lv_iadd hx hb dX9_layPlayers_68 ?_
  refine tp_i (65) (by decide) ?_
  refine lv_iconst (v := (-1)) hx hb dX9_layPlayers_69 (by decide) ?_
  refine st_i (g := (upd (upd (upd (upd (upd (upd (upd (upd (upd (upd (upd (upd (upd (upd (fun _ => 0) 12 50) 21 (-1)) 22 (-1)) 23 1) 29 (-1)) 34 (-1)) 35 1) 41 (-1)) 46 (-1)) 47 1) 53 (-1)) 58 (-1)) 59 1) 65 (-1))) hx hb hN hP hD hS 0 rfl (vin (by decide +kernel)) rfl dX9_layPlayers_70 (fun H locs hP hD hS => ?_)
  have hP : va_P D vwCl [(a0, .inl (cs 0, 1383, .inl (upd (upd (upd (upd (upd (upd (upd (upd (upd (upd (upd (upd (upd (upd (fun _ => 0) 12 50) 21 (-1)) 22 (-1)) 23 1) 29 (-1)) 34 (-1)) 35 1) 41 (-1)) 46 (-1)) 47 1) 53 (-1)) 58 (-1)) 59 1) 65 (-1))))] H := hP
  have hD : va_D A [(a0, .inl (cs 0, 1383, .inl (upd (upd (upd (upd (upd (upd (upd (upd (upd (upd (upd (upd (upd (upd (fun _ => 0) 12 50) 21 (-1)) 22 (-1)) 23 1) 29 (-1)) 34 (-1)) 35 1) 41 (-1)) 46 (-1)) 47 1) 53 (-1)) 58 (-1)) 59 1) 65 (-1))))] := hD
  refine lv_aload_n hx hb dX9_layPlayers_71 rfl (lv_at hl 1 rfl) ?_
  refine lv_iload_n hx hb dX9_layPlayers_72 rfl (lv_at hl 0 rfl) ?_
  refine cs_i (As := [.int 3]) (rest := [.ref a0]) (wr := [(a0, .inl (cs 0, 1383, .inl (upd (upd (upd (upd (upd (upd (upd (upd (upd (upd (upd (upd (upd (upd (fun _ => 0) 12 50) 21 (-1)) 22 (-1)) 23 1) 29 (-1)) 34 (-1)) 35 1) 41 (-1)) 46 (-1)) 47 1) 53 (-1)) 58 (-1)) 59 1) 65 (-1))))]) ⟨hx, hb, hml, hown, hts⟩ (fun sz => k19_X9_playerAt l D cs sz ) (va_cwS 1 hts gX9_layPlayers_X9_playerAt rfl rfl rfl hdX9_playerAt_o ⟨Nat.le_of_ble_eq_true rfl, Nat.le_of_ble_eq_true rfl⟩) hN hP hD hS hA [] [0] rfl rfl rfl rfl (by decide) rfl rfl hl.1 (Nat.le_of_ble_eq_true rfl) dX9_layPlayers_73 (Nat.le_of_ble_eq_true rfl) (Nat.le_of_ble_eq_true rfl) (fun u11 H locs hP hD hS => ?_)
  have hP : va_P D vwCl [(a0, .inl (cs 0, 1383, .inl (upd (upd (upd (upd (upd (upd (upd (upd (upd (upd (upd (upd (upd (upd (fun _ => 0) 12 50) 21 (-1)) 22 (-1)) 23 1) 29 (-1)) 34 (-1)) 35 1) 41 (-1)) 46 (-1)) 47 1) 53 (-1)) 58 (-1)) 59 1) 65 (-1))))] H := hP
  have hD : va_D A [(a0, .inl (cs 0, 1383, .inl (upd (upd (upd (upd (upd (upd (upd (upd (upd (upd (upd (upd (upd (upd (fun _ => 0) 12 50) 21 (-1)) 22 (-1)) 23 1) 29 (-1)) 34 (-1)) 35 1) 41 (-1)) 46 (-1)) 47 1) 53 (-1)) 58 (-1)) 59 1) 65 (-1))))] := hD
  refine W.widen (k := 0) (n := 0) (Nat.le_of_ble_eq_true rfl) (Nat.le_of_ble_eq_true rfl) ?_
  refine lv_bipush (v := 11) hx hb dX9_layPlayers_76 (by decide) ?_
  refine lv_iadd hx hb dX9_layPlayers_78 ?_
  refine tp_i (70) (by decide) ?_
  refine lv_iconst (v := (-1)) hx hb dX9_layPlayers_79 (by decide) ?_
  refine st_i (g := (upd (upd (upd (upd (upd (upd (upd (upd (upd (upd (upd (upd (upd (upd (upd (fun _ => 0) 12 50) 21 (-1)) 22 (-1)) 23 1) 29 (-1)) 34 (-1)) 35 1) 41 (-1)) 46 (-1)) 47 1) 53 (-1)) 58 (-1)) 59 1) 65 (-1)) 70 (-1))) hx hb hN hP hD hS 0 rfl (vin (by decide +kernel)) rfl dX9_layPlayers_80 (fun H locs hP hD hS => ?_)
  have hP : va_P D vwCl [(a0, .inl (cs 0, 1383, .inl (upd (upd (upd (upd (upd (upd (upd (upd (upd (upd (upd (upd (upd (upd (upd (fun _ => 0) 12 50) 21 (-1)) 22 (-1)) 23 1) 29 (-1)) 34 (-1)) 35 1) 41 (-1)) 46 (-1)) 47 1) 53 (-1)) 58 (-1)) 59 1) 65 (-1)) 70 (-1))))] H := hP
  have hD : va_D A [(a0, .inl (cs 0, 1383, .inl (upd (upd (upd (upd (upd (upd (upd (upd (upd (upd (upd (upd (upd (upd (upd (fun _ => 0) 12 50) 21 (-1)) 22 (-1)) 23 1) 29 (-1)) 34 (-1)) 35 1) 41 (-1)) 46 (-1)) 47 1) 53 (-1)) 58 (-1)) 59 1) 65 (-1)) 70 (-1))))] := hD
  refine lv_iinc (v := 4) (lv' := [(2, .int 4), (0, .ref a0), (1, .int 0)]) hx hb dX9_layPlayers_81 hl (k := 0) rfl (by decide) (by decide) rfl (fun ls hl => ?_)
  refine lv_goto (tgt := 46) hx hb dX9_layPlayers_84 (by decide) ?_
  refine lv_iload_n hx hb dX9_layPlayers_46 rfl (lv_at hl 0 rfl) ?_
  refine lv_bipush (v := 8) hx hb dX9_layPlayers_47 (by decide) ?_
  refine lv_icmp_ge (tgt := 87) hx hb dX9_layPlayers_49 (by decide) (fun c9 => absurd c9 (by decide)) (fun _ => ?_)
  refine lv_aload_n hx hb dX9_layPlayers_52 rfl (lv_at hl 1 rfl) ?_
  refine lv_iload_n hx hb dX9_layPlayers_53 rfl (lv_at hl 0 rfl) ?_
  refine cs_i (As := [.int 4]) (rest := [.ref a0]) (wr := [(a0, .inl (cs 0, 1383, .inl (upd (upd (upd (upd (upd (upd (upd (upd (upd (upd (upd (upd (upd (upd (upd (fun _ => 0) 12 50) 21 (-1)) 22 (-1)) 23 1) 29 (-1)) 34 (-1)) 35 1) 41 (-1)) 46 (-1)) 47 1) 53 (-1)) 58 (-1)) 59 1) 65 (-1)) 70 (-1))))]) ⟨hx, hb, hml, hown, hts⟩ (fun sz => k20_X9_playerAt l D cs sz ) (va_cwS 1 hts gX9_layPlayers_X9_playerAt rfl rfl rfl hdX9_playerAt_o ⟨Nat.le_of_ble_eq_true rfl, Nat.le_of_ble_eq_true rfl⟩) hN hP hD hS hA [] [0] rfl rfl rfl rfl (by decide) rfl rfl hl.1 (Nat.le_of_ble_eq_true rfl) dX9_layPlayers_54 (Nat.le_of_ble_eq_true rfl) (Nat.le_of_ble_eq_true rfl) (fun u12 H locs hP hD hS => ?_)
  have hP : va_P D vwCl [(a0, .inl (cs 0, 1383, .inl (upd (upd (upd (upd (upd (upd (upd (upd (upd (upd (upd (upd (upd (upd (upd (fun _ => 0) 12 50) 21 (-1)) 22 (-1)) 23 1) 29 (-1)) 34 (-1)) 35 1) 41 (-1)) 46 (-1)) 47 1) 53 (-1)) 58 (-1)) 59 1) 65 (-1)) 70 (-1))))] H := hP
  have hD : va_D A [(a0, .inl (cs 0, 1383, .inl (upd (upd (upd (upd (upd (upd (upd (upd (upd (upd (upd (upd (upd (upd (upd (fun _ => 0) 12 50) 21 (-1)) 22 (-1)) 23 1) 29 (-1)) 34 (-1)) 35 1) 41 (-1)) 46 (-1)) 47 1) 53 (-1)) 58 (-1)) 59 1) 65 (-1)) 70 (-1))))] := hD
  refine W.widen (k := 0) (n := 0) (Nat.le_of_ble_eq_true rfl) (Nat.le_of_ble_eq_true rfl) ?_
  refine lv_iconst (v := 0) hx hb dX9_layPlayers_57 (by decide) ?_
  refine lv_iadd hx hb dX9_layPlayers_58 ?_
  refine tp_i (71) (by decide) ?_
  refine lv_iconst (v := 1) hx hb dX9_layPlayers_59 (by decide) ?_
  refine st_i (g := (upd (upd (upd (upd (upd (upd (upd (upd (upd (upd (upd (upd (upd (upd (upd (upd (fun _ => 0) 12 50) 21 (-1)) 22 (-1)) 23 1) 29 (-1)) 34 (-1)) 35 1) 41 (-1)) 46 (-1)) 47 1) 53 (-1)) 58 (-1)) 59 1) 65 (-1)) 70 (-1)) 71 1)) hx hb hN hP hD hS 0 rfl (vin (by decide +kernel)) rfl dX9_layPlayers_60 (fun H locs hP hD hS => ?_)
  have hP : va_P D vwCl [(a0, .inl (cs 0, 1383, .inl (upd (upd (upd (upd (upd (upd (upd (upd (upd (upd (upd (upd (upd (upd (upd (upd (fun _ => 0) 12 50) 21 (-1)) 22 (-1)) 23 1) 29 (-1)) 34 (-1)) 35 1) 41 (-1)) 46 (-1)) 47 1) 53 (-1)) 58 (-1)) 59 1) 65 (-1)) 70 (-1)) 71 1)))] H := hP
  have hD : va_D A [(a0, .inl (cs 0, 1383, .inl (upd (upd (upd (upd (upd (upd (upd (upd (upd (upd (upd (upd (upd (upd (upd (upd (fun _ => 0) 12 50) 21 (-1)) 22 (-1)) 23 1) 29 (-1)) 34 (-1)) 35 1) 41 (-1)) 46 (-1)) 47 1) 53 (-1)) 58 (-1)) 59 1) 65 (-1)) 70 (-1)) 71 1)))] := hD
  refine lv_aload_n hx hb dX9_layPlayers_61 rfl (lv_at hl 1 rfl) ?_
  refine lv_iload_n hx hb dX9_layPlayers_62 rfl (lv_at hl 0 rfl) ?_
  refine cs_i (As := [.int 4]) (rest := [.ref a0]) (wr := [(a0, .inl (cs 0, 1383, .inl (upd (upd (upd (upd (upd (upd (upd (upd (upd (upd (upd (upd (upd (upd (upd (upd (fun _ => 0) 12 50) 21 (-1)) 22 (-1)) 23 1) 29 (-1)) 34 (-1)) 35 1) 41 (-1)) 46 (-1)) 47 1) 53 (-1)) 58 (-1)) 59 1) 65 (-1)) 70 (-1)) 71 1)))]) ⟨hx, hb, hml, hown, hts⟩ (fun sz => k20_X9_playerAt l D cs sz ) (va_cwS 1 hts gX9_layPlayers_X9_playerAt rfl rfl rfl hdX9_playerAt_o ⟨Nat.le_of_ble_eq_true rfl, Nat.le_of_ble_eq_true rfl⟩) hN hP hD hS hA [] [0] rfl rfl rfl rfl (by decide) rfl rfl hl.1 (Nat.le_of_ble_eq_true rfl) dX9_layPlayers_63 (Nat.le_of_ble_eq_true rfl) (Nat.le_of_ble_eq_true rfl) (fun u13 H locs hP hD hS => ?_)
  have hP : va_P D vwCl [(a0, .inl (cs 0, 1383, .inl (upd (upd (upd (upd (upd (upd (upd (upd (upd (upd (upd (upd (upd (upd (upd (upd (fun _ => 0) 12 50) 21 (-1)) 22 (-1)) 23 1) 29 (-1)) 34 (-1)) 35 1) 41 (-1)) 46 (-1)) 47 1) 53 (-1)) 58 (-1)) 59 1) 65 (-1)) 70 (-1)) 71 1)))] H := hP
  have hD : va_D A [(a0, .inl (cs 0, 1383, .inl (upd (upd (upd (upd (upd (upd (upd (upd (upd (upd (upd (upd (upd (upd (upd (upd (fun _ => 0) 12 50) 21 (-1)) 22 (-1)) 23 1) 29 (-1)) 34 (-1)) 35 1) 41 (-1)) 46 (-1)) 47 1) 53 (-1)) 58 (-1)) 59 1) 65 (-1)) 70 (-1)) 71 1)))] := hD
  refine W.widen (k := 0) (n := 0) (Nat.le_of_ble_eq_true rfl) (Nat.le_of_ble_eq_true rfl) ?_
  refine lv_bipush (v := 6) hx hb dX9_layPlayers_66 (by decide) ?_
  refine lv_iadd hx hb dX9_layPlayers_68 ?_
  refine tp_i (77) (by decide) ?_
  refine lv_iconst (v := (-1)) hx hb dX9_layPlayers_69 (by decide) ?_
  refine st_i (g := (upd (upd (upd (upd (upd (upd (upd (upd (upd (upd (upd (upd (upd (upd (upd (upd (upd (fun _ => 0) 12 50) 21 (-1)) 22 (-1)) 23 1) 29 (-1)) 34 (-1)) 35 1) 41 (-1)) 46 (-1)) 47 1) 53 (-1)) 58 (-1)) 59 1) 65 (-1)) 70 (-1)) 71 1) 77 (-1))) hx hb hN hP hD hS 0 rfl (vin (by decide +kernel)) rfl dX9_layPlayers_70 (fun H locs hP hD hS => ?_)
  have hP : va_P D vwCl [(a0, .inl (cs 0, 1383, .inl (upd (upd (upd (upd (upd (upd (upd (upd (upd (upd (upd (upd (upd (upd (upd (upd (upd (fun _ => 0) 12 50) 21 (-1)) 22 (-1)) 23 1) 29 (-1)) 34 (-1)) 35 1) 41 (-1)) 46 (-1)) 47 1) 53 (-1)) 58 (-1)) 59 1) 65 (-1)) 70 (-1)) 71 1) 77 (-1))))] H := hP
  have hD : va_D A [(a0, .inl (cs 0, 1383, .inl (upd (upd (upd (upd (upd (upd (upd (upd (upd (upd (upd (upd (upd (upd (upd (upd (upd (fun _ => 0) 12 50) 21 (-1)) 22 (-1)) 23 1) 29 (-1)) 34 (-1)) 35 1) 41 (-1)) 46 (-1)) 47 1) 53 (-1)) 58 (-1)) 59 1) 65 (-1)) 70 (-1)) 71 1) 77 (-1))))] := hD
  refine lv_aload_n hx hb dX9_layPlayers_71 rfl (lv_at hl 1 rfl) ?_
  refine lv_iload_n hx hb dX9_layPlayers_72 rfl (lv_at hl 0 rfl) ?_
  refine cs_i (As := [.int 4]) (rest := [.ref a0]) (wr := [(a0, .inl (cs 0, 1383, .inl (upd (upd (upd (upd (upd (upd (upd (upd (upd (upd (upd (upd (upd (upd (upd (upd (upd (fun _ => 0) 12 50) 21 (-1)) 22 (-1)) 23 1) 29 (-1)) 34 (-1)) 35 1) 41 (-1)) 46 (-1)) 47 1) 53 (-1)) 58 (-1)) 59 1) 65 (-1)) 70 (-1)) 71 1) 77 (-1))))]) ⟨hx, hb, hml, hown, hts⟩ (fun sz => k20_X9_playerAt l D cs sz ) (va_cwS 1 hts gX9_layPlayers_X9_playerAt rfl rfl rfl hdX9_playerAt_o ⟨Nat.le_of_ble_eq_true rfl, Nat.le_of_ble_eq_true rfl⟩) hN hP hD hS hA [] [0] rfl rfl rfl rfl (by decide) rfl rfl hl.1 (Nat.le_of_ble_eq_true rfl) dX9_layPlayers_73 (Nat.le_of_ble_eq_true rfl) (Nat.le_of_ble_eq_true rfl) (fun u14 H locs hP hD hS => ?_)
  have hP : va_P D vwCl [(a0, .inl (cs 0, 1383, .inl (upd (upd (upd (upd (upd (upd (upd (upd (upd (upd (upd (upd (upd (upd (upd (upd (upd (fun _ => 0) 12 50) 21 (-1)) 22 (-1)) 23 1) 29 (-1)) 34 (-1)) 35 1) 41 (-1)) 46 (-1)) 47 1) 53 (-1)) 58 (-1)) 59 1) 65 (-1)) 70 (-1)) 71 1) 77 (-1))))] H := hP
  have hD : va_D A [(a0, .inl (cs 0, 1383, .inl (upd (upd (upd (upd (upd (upd (upd (upd (upd (upd (upd (upd (upd (upd (upd (upd (upd (fun _ => 0) 12 50) 21 (-1)) 22 (-1)) 23 1) 29 (-1)) 34 (-1)) 35 1) 41 (-1)) 46 (-1)) 47 1) 53 (-1)) 58 (-1)) 59 1) 65 (-1)) 70 (-1)) 71 1) 77 (-1))))] := hD
  refine W.widen (k := 0) (n := 0) (Nat.le_of_ble_eq_true rfl) (Nat.le_of_ble_eq_true rfl) ?_
  refine lv_bipush (v := 11) hx hb dX9_layPlayers_76 (by decide) ?_
  refine lv_iadd hx hb dX9_layPlayers_78 ?_
  refine tp_i (82) (by decide) ?_
  refine lv_iconst (v := (-1)) hx hb dX9_layPlayers_79 (by decide) ?_
  refine st_i (g := (upd (upd (upd (upd (upd (upd (upd (upd (upd (upd (upd (upd (upd (upd (upd (upd (upd (upd (fun _ => 0) 12 50) 21 (-1)) 22 (-1)) 23 1) 29 (-1)) 34 (-1)) 35 1) 41 (-1)) 46 (-1)) 47 1) 53 (-1)) 58 (-1)) 59 1) 65 (-1)) 70 (-1)) 71 1) 77 (-1)) 82 (-1))) hx hb hN hP hD hS 0 rfl (vin (by decide +kernel)) rfl dX9_layPlayers_80 (fun H locs hP hD hS => ?_)
  have hP : va_P D vwCl [(a0, .inl (cs 0, 1383, .inl (upd (upd (upd (upd (upd (upd (upd (upd (upd (upd (upd (upd (upd (upd (upd (upd (upd (upd (fun _ => 0) 12 50) 21 (-1)) 22 (-1)) 23 1) 29 (-1)) 34 (-1)) 35 1) 41 (-1)) 46 (-1)) 47 1) 53 (-1)) 58 (-1)) 59 1) 65 (-1)) 70 (-1)) 71 1) 77 (-1)) 82 (-1))))] H := hP
  have hD : va_D A [(a0, .inl (cs 0, 1383, .inl (upd (upd (upd (upd (upd (upd (upd (upd (upd (upd (upd (upd (upd (upd (upd (upd (upd (upd (fun _ => 0) 12 50) 21 (-1)) 22 (-1)) 23 1) 29 (-1)) 34 (-1)) 35 1) 41 (-1)) 46 (-1)) 47 1) 53 (-1)) 58 (-1)) 59 1) 65 (-1)) 70 (-1)) 71 1) 77 (-1)) 82 (-1))))] := hD
  refine lv_iinc (v := 5) (lv' := [(2, .int 5), (0, .ref a0), (1, .int 0)]) hx hb dX9_layPlayers_81 hl (k := 0) rfl (by decide) (by decide) rfl (fun ls hl => ?_)
  refine lv_goto (tgt := 46) hx hb dX9_layPlayers_84 (by decide) ?_
  refine lv_iload_n hx hb dX9_layPlayers_46 rfl (lv_at hl 0 rfl) ?_
  refine lv_bipush (v := 8) hx hb dX9_layPlayers_47 (by decide) ?_
  refine lv_icmp_ge (tgt := 87) hx hb dX9_layPlayers_49 (by decide) (fun c9 => absurd c9 (by decide)) (fun _ => ?_)
  refine lv_aload_n hx hb dX9_layPlayers_52 rfl (lv_at hl 1 rfl) ?_
  refine lv_iload_n hx hb dX9_layPlayers_53 rfl (lv_at hl 0 rfl) ?_
  refine cs_i (As := [.int 5]) (rest := [.ref a0]) (wr := [(a0, .inl (cs 0, 1383, .inl (upd (upd (upd (upd (upd (upd (upd (upd (upd (upd (upd (upd (upd (upd (upd (upd (upd (upd (fun _ => 0) 12 50) 21 (-1)) 22 (-1)) 23 1) 29 (-1)) 34 (-1)) 35 1) 41 (-1)) 46 (-1)) 47 1) 53 (-1)) 58 (-1)) 59 1) 65 (-1)) 70 (-1)) 71 1) 77 (-1)) 82 (-1))))]) ⟨hx, hb, hml, hown, hts⟩ (fun sz => k21_X9_playerAt l D cs sz ) (va_cwS 1 hts gX9_layPlayers_X9_playerAt rfl rfl rfl hdX9_playerAt_o ⟨Nat.le_of_ble_eq_true rfl, Nat.le_of_ble_eq_true rfl⟩) hN hP hD hS hA [] [0] rfl rfl rfl rfl (by decide) rfl rfl hl.1 (Nat.le_of_ble_eq_true rfl) dX9_layPlayers_54 (Nat.le_of_ble_eq_true rfl) (Nat.le_of_ble_eq_true rfl) (fun u15 H locs hP hD hS => ?_)
  have hP : va_P D vwCl [(a0, .inl (cs 0, 1383, .inl (upd (upd (upd (upd (upd (upd (upd (upd (upd (upd (upd (upd (upd (upd (upd (upd (upd (upd (fun _ => 0) 12 50) 21 (-1)) 22 (-1)) 23 1) 29 (-1)) 34 (-1)) 35 1) 41 (-1)) 46 (-1)) 47 1) 53 (-1)) 58 (-1)) 59 1) 65 (-1)) 70 (-1)) 71 1) 77 (-1)) 82 (-1))))] H := hP
  have hD : va_D A [(a0, .inl (cs 0, 1383, .inl (upd (upd (upd (upd (upd (upd (upd (upd (upd (upd (upd (upd (upd (upd (upd (upd (upd (upd (fun _ => 0) 12 50) 21 (-1)) 22 (-1)) 23 1) 29 (-1)) 34 (-1)) 35 1) 41 (-1)) 46 (-1)) 47 1) 53 (-1)) 58 (-1)) 59 1) 65 (-1)) 70 (-1)) 71 1) 77 (-1)) 82 (-1))))] := hD
  refine W.widen (k := 0) (n := 0) (Nat.le_of_ble_eq_true rfl) (Nat.le_of_ble_eq_true rfl) ?_
  refine lv_iconst (v := 0) hx hb dX9_layPlayers_57 (by decide) ?_
  refine lv_iadd hx hb dX9_layPlayers_58 ?_
  refine tp_i (83) (by decide) ?_
  refine lv_iconst (v := 1) hx hb dX9_layPlayers_59 (by decide) ?_
  refine st_i (g := (upd (upd (upd (upd (upd (upd (upd (upd (upd (upd (upd (upd (upd (upd (upd (upd (upd (upd (upd (fun _ => 0) 12 50) 21 (-1)) 22 (-1)) 23 1) 29 (-1)) 34 (-1)) 35 1) 41 (-1)) 46 (-1)) 47 1) 53 (-1)) 58 (-1)) 59 1) 65 (-1)) 70 (-1)) 71 1) 77 (-1)) 82 (-1)) 83 1)) hx hb hN hP hD hS 0 rfl (vin (by decide +kernel)) rfl dX9_layPlayers_60 (fun H locs hP hD hS => ?_)
  have hP : va_P D vwCl [(a0, .inl (cs 0, 1383, .inl (upd (upd (upd (upd (upd (upd (upd (upd (upd (upd (upd (upd (upd (upd (upd (upd (upd (upd (upd (fun _ => 0) 12 50) 21 (-1)) 22 (-1)) 23 1) 29 (-1)) 34 (-1)) 35 1) 41 (-1)) 46 (-1)) 47 1) 53 (-1)) 58 (-1)) 59 1) 65 (-1)) 70 (-1)) 71 1) 77 (-1)) 82 (-1)) 83 1)))] H := hP
  have hD : va_D A [(a0, .inl (cs 0, 1383, .inl (upd (upd (upd (upd (upd (upd (upd (upd (upd (upd (upd (upd (upd (upd (upd (upd (upd (upd (upd (fun _ => 0) 12 50) 21 (-1)) 22 (-1)) 23 1) 29 (-1)) 34 (-1)) 35 1) 41 (-1)) 46 (-1)) 47 1) 53 (-1)) 58 (-1)) 59 1) 65 (-1)) 70 (-1)) 71 1) 77 (-1)) 82 (-1)) 83 1)))] := hD
  refine lv_aload_n hx hb dX9_layPlayers_61 rfl (lv_at hl 1 rfl) ?_
  refine lv_iload_n hx hb dX9_layPlayers_62 rfl (lv_at hl 0 rfl) ?_
  refine cs_i (As := [.int 5]) (rest := [.ref a0]) (wr := [(a0, .inl (cs 0, 1383, .inl (upd (upd (upd (upd (upd (upd (upd (upd (upd (upd (upd (upd (upd (upd (upd (upd (upd (upd (upd (fun _ => 0) 12 50) 21 (-1)) 22 (-1)) 23 1) 29 (-1)) 34 (-1)) 35 1) 41 (-1)) 46 (-1)) 47 1) 53 (-1)) 58 (-1)) 59 1) 65 (-1)) 70 (-1)) 71 1) 77 (-1)) 82 (-1)) 83 1)))]) ⟨hx, hb, hml, hown, hts⟩ (fun sz => k21_X9_playerAt l D cs sz ) (va_cwS 1 hts gX9_layPlayers_X9_playerAt rfl rfl rfl hdX9_playerAt_o ⟨Nat.le_of_ble_eq_true rfl, Nat.le_of_ble_eq_true rfl⟩) hN hP hD hS hA [] [0] rfl rfl rfl rfl (by decide) rfl rfl hl.1 (Nat.le_of_ble_eq_true rfl) dX9_layPlayers_63 (Nat.le_of_ble_eq_true rfl) (Nat.le_of_ble_eq_true rfl) (fun u16 H locs hP hD hS => ?_)
  have hP : va_P D vwCl [(a0, .inl (cs 0, 1383, .inl (upd (upd (upd (upd (upd (upd (upd (upd (upd (upd (upd (upd (upd (upd (upd (upd (upd (upd (upd (fun _ => 0) 12 50) 21 (-1)) 22 (-1)) 23 1) 29 (-1)) 34 (-1)) 35 1) 41 (-1)) 46 (-1)) 47 1) 53 (-1)) 58 (-1)) 59 1) 65 (-1)) 70 (-1)) 71 1) 77 (-1)) 82 (-1)) 83 1)))] H := hP
  have hD : va_D A [(a0, .inl (cs 0, 1383, .inl (upd (upd (upd (upd (upd (upd (upd (upd (upd (upd (upd (upd (upd (upd (upd (upd (upd (upd (upd (fun _ => 0) 12 50) 21 (-1)) 22 (-1)) 23 1) 29 (-1)) 34 (-1)) 35 1) 41 (-1)) 46 (-1)) 47 1) 53 (-1)) 58 (-1)) 59 1) 65 (-1)) 70 (-1)) 71 1) 77 (-1)) 82 (-1)) 83 1)))] := hD
  refine W.widen (k := 0) (n := 0) (Nat.le_of_ble_eq_true rfl) (Nat.le_of_ble_eq_true rfl) ?_
  refine lv_bipush (v := 6) hx hb dX9_layPlayers_66 (by decide) ?_
  refine lv_iadd hx hb dX9_layPlayers_68 ?_
  refine tp_i (89) (by decide) ?_
  refine lv_iconst (v := (-1)) hx hb dX9_layPlayers_69 (by decide) ?_
  refine st_i (g := (upd (upd (upd (upd (upd (upd (upd (upd (upd (upd (upd (upd (upd (upd (upd (upd (upd (upd (upd (upd (fun _ => 0) 12 50) 21 (-1)) 22 (-1)) 23 1) 29 (-1)) 34 (-1)) 35 1) 41 (-1)) 46 (-1)) 47 1) 53 (-1)) 58 (-1)) 59 1) 65 (-1)) 70 (-1)) 71 1) 77 (-1)) 82 (-1)) 83 1) 89 (-1))) hx hb hN hP hD hS 0 rfl (vin (by decide +kernel)) rfl dX9_layPlayers_70 (fun H locs hP hD hS => ?_)
  have hP : va_P D vwCl [(a0, .inl (cs 0, 1383, .inl (upd (upd (upd (upd (upd (upd (upd (upd (upd (upd (upd (upd (upd (upd (upd (upd (upd (upd (upd (upd (fun _ => 0) 12 50) 21 (-1)) 22 (-1)) 23 1) 29 (-1)) 34 (-1)) 35 1) 41 (-1)) 46 (-1)) 47 1) 53 (-1)) 58 (-1)) 59 1) 65 (-1)) 70 (-1)) 71 1) 77 (-1)) 82 (-1)) 83 1) 89 (-1))))] H := hP
  have hD : va_D A [(a0, .inl (cs 0, 1383, .inl (upd (upd (upd (upd (upd (upd (upd (upd (upd (upd (upd (upd (upd (upd (upd (upd (upd (upd (upd (upd (fun _ => 0) 12 50) 21 (-1)) 22 (-1)) 23 1) 29 (-1)) 34 (-1)) 35 1) 41 (-1)) 46 (-1)) 47 1) 53 (-1)) 58 (-1)) 59 1) 65 (-1)) 70 (-1)) 71 1) 77 (-1)) 82 (-1)) 83 1) 89 (-1))))] := hD
  refine lv_aload_n hx hb dX9_layPlayers_71 rfl (lv_at hl 1 rfl) ?_
  refine lv_iload_n hx hb dX9_layPlayers_72 rfl (lv_at hl 0 rfl) ?_
  refine cs_i (As := [.int 5]) (rest := [.ref a0]) (wr := [(a0, .inl (cs 0, 1383, .inl (upd (upd (upd (upd (upd (upd (upd (upd (upd (upd (upd (upd (upd (upd (upd (upd (upd (upd (upd (upd (fun _ => 0) 12 50) 21 (-1)) 22 (-1)) 23 1) 29 (-1)) 34 (-1)) 35 1) 41 (-1)) 46 (-1)) 47 1) 53 (-1)) 58 (-1)) 59 1) 65 (-1)) 70 (-1)) 71 1) 77 (-1)) 82 (-1)) 83 1) 89 (-1))))]) ⟨hx, hb, hml, hown, hts⟩ (fun sz => k21_X9_playerAt l D cs sz ) (va_cwS 1 hts gX9_layPlayers_X9_playerAt rfl rfl rfl hdX9_playerAt_o ⟨Nat.le_of_ble_eq_true rfl, Nat.le_of_ble_eq_true rfl⟩) hN hP hD hS hA [] [0] rfl rfl rfl rfl (by decide) rfl rfl hl.1 (Nat.le_of_ble_eq_true rfl) dX9_layPlayers_73 (Nat.le_of_ble_eq_true rfl) (Nat.le_of_ble_eq_true rfl) (fun u17 H locs hP hD hS => ?_)
  have hP : va_P D vwCl [(a0, .inl (cs 0, 1383, .inl (upd (upd (upd (upd (upd (upd (upd (upd (upd (upd (upd (upd (upd (upd (upd (upd (upd (upd (upd (upd (fun _ => 0) 12 50) 21 (-1)) 22 (-1)) 23 1) 29 (-1)) 34 (-1)) 35 1) 41 (-1)) 46 (-1)) 47 1) 53 (-1)) 58 (-1)) 59 1) 65 (-1)) 70 (-1)) 71 1) 77 (-1)) 82 (-1)) 83 1) 89 (-1))))] H := hP
  have hD : va_D A [(a0, .inl (cs 0, 1383, .inl (upd (upd (upd (upd (upd (upd (upd (upd (upd (upd (upd (upd (upd (upd (upd (upd (upd (upd (upd (upd (fun _ => 0) 12 50) 21 (-1)) 22 (-1)) 23 1) 29 (-1)) 34 (-1)) 35 1) 41 (-1)) 46 (-1)) 47 1) 53 (-1)) 58 (-1)) 59 1) 65 (-1)) 70 (-1)) 71 1) 77 (-1)) 82 (-1)) 83 1) 89 (-1))))] := hD
  refine W.widen (k := 0) (n := 0) (Nat.le_of_ble_eq_true rfl) (Nat.le_of_ble_eq_true rfl) ?_
  refine lv_bipush (v := 11) hx hb dX9_layPlayers_76 (by decide) ?_
  refine lv_iadd hx hb dX9_layPlayers_78 ?_
  refine tp_i (94) (by decide) ?_
  refine lv_iconst (v := (-1)) hx hb dX9_layPlayers_79 (by decide) ?_
  refine st_i (g := (upd (upd (upd (upd (upd (upd (upd (upd (upd (upd (upd (upd (upd (upd (upd (upd (upd (upd (upd (upd (upd (fun _ => 0) 12 50) 21 (-1)) 22 (-1)) 23 1) 29 (-1)) 34 (-1)) 35 1) 41 (-1)) 46 (-1)) 47 1) 53 (-1)) 58 (-1)) 59 1) 65 (-1)) 70 (-1)) 71 1) 77 (-1)) 82 (-1)) 83 1) 89 (-1)) 94 (-1))) hx hb hN hP hD hS 0 rfl (vin (by decide +kernel)) rfl dX9_layPlayers_80 (fun H locs hP hD hS => ?_)
  have hP : va_P D vwCl [(a0, .inl (cs 0, 1383, .inl (upd (upd (upd (upd (upd (upd (upd (upd (upd (upd (upd (upd (upd (upd (upd (upd (upd (upd (upd (upd (upd (fun _ => 0) 12 50) 21 (-1)) 22 (-1)) 23 1) 29 (-1)) 34 (-1)) 35 1) 41 (-1)) 46 (-1)) 47 1) 53 (-1)) 58 (-1)) 59 1) 65 (-1)) 70 (-1)) 71 1) 77 (-1)) 82 (-1)) 83 1) 89 (-1)) 94 (-1))))] H := hP
  have hD : va_D A [(a0, .inl (cs 0, 1383, .inl (upd (upd (upd (upd (upd (upd (upd (upd (upd (upd (upd (upd (upd (upd (upd (upd (upd (upd (upd (upd (upd (fun _ => 0) 12 50) 21 (-1)) 22 (-1)) 23 1) 29 (-1)) 34 (-1)) 35 1) 41 (-1)) 46 (-1)) 47 1) 53 (-1)) 58 (-1)) 59 1) 65 (-1)) 70 (-1)) 71 1) 77 (-1)) 82 (-1)) 83 1) 89 (-1)) 94 (-1))))] := hD
  refine lv_iinc (v := 6) (lv' := [(2, .int 6), (0, .ref a0), (1, .int 0)]) hx hb dX9_layPlayers_81 hl (k := 0) rfl (by decide) (by decide) rfl (fun ls hl => ?_)
  refine lv_goto (tgt := 46) hx hb dX9_layPlayers_84 (by decide) ?_
  refine lv_iload_n hx hb dX9_layPlayers_46 rfl (lv_at hl 0 rfl) ?_
  refine lv_bipush (v := 8) hx hb dX9_layPlayers_47 (by decide) ?_
  refine lv_icmp_ge (tgt := 87) hx hb dX9_layPlayers_49 (by decide) (fun c9 => absurd c9 (by decide)) (fun _ => ?_)
  refine lv_aload_n hx hb dX9_layPlayers_52 rfl (lv_at hl 1 rfl) ?_
  refine lv_iload_n hx hb dX9_layPlayers_53 rfl (lv_at hl 0 rfl) ?_
  refine cs_i (As := [.int 6]) (rest := [.ref a0]) (wr := [(a0, .inl (cs 0, 1383, .inl (upd (upd (upd (upd (upd (upd (upd (upd (upd (upd (upd (upd (upd (upd (upd (upd (upd (upd (upd (upd (upd (fun _ => 0) 12 50) 21 (-1)) 22 (-1)) 23 1) 29 (-1)) 34 (-1)) 35 1) 41 (-1)) 46 (-1)) 47 1) 53 (-1)) 58 (-1)) 59 1) 65 (-1)) 70 (-1)) 71 1) 77 (-1)) 82 (-1)) 83 1) 89 (-1)) 94 (-1))))]) ⟨hx, hb, hml, hown, hts⟩ (fun sz => k22_X9_playerAt l D cs sz ) (va_cwS 1 hts gX9_layPlayers_X9_playerAt rfl rfl rfl hdX9_playerAt_o ⟨Nat.le_of_ble_eq_true rfl, Nat.le_of_ble_eq_true rfl⟩) hN hP hD hS hA [] [0] rfl rfl rfl rfl (by decide) rfl rfl hl.1 (Nat.le_of_ble_eq_true rfl) dX9_layPlayers_54 (Nat.le_of_ble_eq_true rfl) (Nat.le_of_ble_eq_true rfl) (fun u18 H locs hP hD hS => ?_)
  have hP : va_P D vwCl [(a0, .inl (cs 0, 1383, .inl (upd (upd (upd (upd (upd (upd (upd (upd (upd (upd (upd (upd (upd (upd (upd (upd (upd (upd (upd (upd (upd (fun _ => 0) 12 50) 21 (-1)) 22 (-1)) 23 1) 29 (-1)) 34 (-1)) 35 1) 41 (-1)) 46 (-1)) 47 1) 53 (-1)) 58 (-1)) 59 1) 65 (-1)) 70 (-1)) 71 1) 77 (-1)) 82 (-1)) 83 1) 89 (-1)) 94 (-1))))] H := hP
  have hD : va_D A [(a0, .inl (cs 0, 1383, .inl (upd (upd (upd (upd (upd (upd (upd (upd (upd (upd (upd (upd (upd (upd (upd (upd (upd (upd (upd (upd (upd (fun _ => 0) 12 50) 21 (-1)) 22 (-1)) 23 1) 29 (-1)) 34 (-1)) 35 1) 41 (-1)) 46 (-1)) 47 1) 53 (-1)) 58 (-1)) 59 1) 65 (-1)) 70 (-1)) 71 1) 77 (-1)) 82 (-1)) 83 1) 89 (-1)) 94 (-1))))] := hD
  refine W.widen (k := 0) (n := 0) (Nat.le_of_ble_eq_true rfl) (Nat.le_of_ble_eq_true rfl) ?_
  refine lv_iconst (v := 0) hx hb dX9_layPlayers_57 (by decide) ?_
  refine lv_iadd hx hb dX9_layPlayers_58 ?_
  refine tp_i (95) (by decide) ?_
  refine lv_iconst (v := 1) hx hb dX9_layPlayers_59 (by decide) ?_
  refine st_i (g := (upd (upd (upd (upd (upd (upd (upd (upd (upd (upd (upd (upd (upd (upd (upd (upd (upd (upd (upd (upd (upd (upd (fun _ => 0) 12 50) 21 (-1)) 22 (-1)) 23 1) 29 (-1)) 34 (-1)) 35 1) 41 (-1)) 46 (-1)) 47 1) 53 (-1)) 58 (-1)) 59 1) 65 (-1)) 70 (-1)) 71 1) 77 (-1)) 82 (-1)) 83 1) 89 (-1)) 94 (-1)) 95 1)) hx hb hN hP hD hS 0 rfl (vin (by decide +kernel)) rfl dX9_layPlayers_60 (fun H locs hP hD hS => ?_)
  have hP : va_P D vwCl [(a0, .inl (cs 0, 1383, .inl (upd (upd (upd (upd (upd (upd (upd (upd (upd (upd (upd (upd (upd (upd (upd (upd (upd (upd (upd (upd (upd (upd (fun _ => 0) 12 50) 21 (-1)) 22 (-1)) 23 1) 29 (-1)) 34 (-1)) 35 1) 41 (-1)) 46 (-1)) 47 1) 53 (-1)) 58 (-1)) 59 1) 65 (-1)) 70 (-1)) 71 1) 77 (-1)) 82 (-1)) 83 1) 89 (-1)) 94 (-1)) 95 1)))] H := hP
  have hD : va_D A [(a0, .inl (cs 0, 1383, .inl (upd (upd (upd (upd (upd (upd (upd (upd (upd (upd (upd (upd (upd (upd (upd (upd (upd (upd (upd (upd (upd (upd (fun _ => 0) 12 50) 21 (-1)) 22 (-1)) 23 1) 29 (-1)) 34 (-1)) 35 1) 41 (-1)) 46 (-1)) 47 1) 53 (-1)) 58 (-1)) 59 1) 65 (-1)) 70 (-1)) 71 1) 77 (-1)) 82 (-1)) 83 1) 89 (-1)) 94 (-1)) 95 1)))] := hD
  refine lv_aload_n hx hb dX9_layPlayers_61 rfl (lv_at hl 1 rfl) ?_
  refine lv_iload_n hx hb dX9_layPlayers_62 rfl (lv_at hl 0 rfl) ?_
  refine cs_i (As := [.int 6]) (rest := [.ref a0]) (wr := [(a0, .inl (cs 0, 1383, .inl (upd (upd (upd (upd (upd (upd (upd (upd (upd (upd (upd (upd (upd (upd (upd (upd (upd (upd (upd (upd (upd (upd (fun _ => 0) 12 50) 21 (-1)) 22 (-1)) 23 1) 29 (-1)) 34 (-1)) 35 1) 41 (-1)) 46 (-1)) 47 1) 53 (-1)) 58 (-1)) 59 1) 65 (-1)) 70 (-1)) 71 1) 77 (-1)) 82 (-1)) 83 1) 89 (-1)) 94 (-1)) 95 1)))]) ⟨hx, hb, hml, hown, hts⟩ (fun sz => k22_X9_playerAt l D cs sz ) (va_cwS 1 hts gX9_layPlayers_X9_playerAt rfl rfl rfl hdX9_playerAt_o ⟨Nat.le_of_ble_eq_true rfl, Nat.le_of_ble_eq_true rfl⟩) hN hP hD hS hA [] [0] rfl rfl rfl rfl (by decide) rfl rfl hl.1 (Nat.le_of_ble_eq_true rfl) dX9_layPlayers_63 (Nat.le_of_ble_eq_true rfl) (Nat.le_of_ble_eq_true rfl) (fun u19 H locs hP hD hS => ?_)
  have hP : va_P D vwCl [(a0, .inl (cs 0, 1383, .inl (upd (upd (upd (upd (upd (upd (upd (upd (upd (upd (upd (upd (upd (upd (upd (upd (upd (upd (upd (upd (upd (upd (fun _ => 0) 12 50) 21 (-1)) 22 (-1)) 23 1) 29 (-1)) 34 (-1)) 35 1) 41 (-1)) 46 (-1)) 47 1) 53 (-1)) 58 (-1)) 59 1) 65 (-1)) 70 (-1)) 71 1) 77 (-1)) 82 (-1)) 83 1) 89 (-1)) 94 (-1)) 95 1)))] H := hP
  have hD : va_D A [(a0, .inl (cs 0, 1383, .inl (upd (upd (upd (upd (upd (upd (upd (upd (upd (upd (upd (upd (upd (upd (upd (upd (upd (upd (upd (upd (upd (upd (fun _ => 0) 12 50) 21 (-1)) 22 (-1)) 23 1) 29 (-1)) 34 (-1)) 35 1) 41 (-1)) 46 (-1)) 47 1) 53 (-1)) 58 (-1)) 59 1) 65 (-1)) 70 (-1)) 71 1) 77 (-1)) 82 (-1)) 83 1) 89 (-1)) 94 (-1)) 95 1)))] := hD
  refine W.widen (k := 0) (n := 0) (Nat.le_of_ble_eq_true rfl) (Nat.le_of_ble_eq_true rfl) ?_
  refine lv_bipush (v := 6) hx hb dX9_layPlayers_66 (by decide) ?_
  refine lv_iadd hx hb dX9_layPlayers_68 ?_
  refine tp_i (101) (by decide) ?_
  refine lv_iconst (v := (-1)) hx hb dX9_layPlayers_69 (by decide) ?_
  refine st_i (g := (upd (upd (upd (upd (upd (upd (upd (upd (upd (upd (upd (upd (upd (upd (upd (upd (upd (upd (upd (upd (upd (upd (upd (fun _ => 0) 12 50) 21 (-1)) 22 (-1)) 23 1) 29 (-1)) 34 (-1)) 35 1) 41 (-1)) 46 (-1)) 47 1) 53 (-1)) 58 (-1)) 59 1) 65 (-1)) 70 (-1)) 71 1) 77 (-1)) 82 (-1)) 83 1) 89 (-1)) 94 (-1)) 95 1) 101 (-1))) hx hb hN hP hD hS 0 rfl (vin (by decide +kernel)) rfl dX9_layPlayers_70 (fun H locs hP hD hS => ?_)
  have hP : va_P D vwCl [(a0, .inl (cs 0, 1383, .inl (upd (upd (upd (upd (upd (upd (upd (upd (upd (upd (upd (upd (upd (upd (upd (upd (upd (upd (upd (upd (upd (upd (upd (fun _ => 0) 12 50) 21 (-1)) 22 (-1)) 23 1) 29 (-1)) 34 (-1)) 35 1) 41 (-1)) 46 (-1)) 47 1) 53 (-1)) 58 (-1)) 59 1) 65 (-1)) 70 (-1)) 71 1) 77 (-1)) 82 (-1)) 83 1) 89 (-1)) 94 (-1)) 95 1) 101 (-1))))] H := hP
  have hD : va_D A [(a0, .inl (cs 0, 1383, .inl (upd (upd (upd (upd (upd (upd (upd (upd (upd (upd (upd (upd (upd (upd (upd (upd (upd (upd (upd (upd (upd (upd (upd (fun _ => 0) 12 50) 21 (-1)) 22 (-1)) 23 1) 29 (-1)) 34 (-1)) 35 1) 41 (-1)) 46 (-1)) 47 1) 53 (-1)) 58 (-1)) 59 1) 65 (-1)) 70 (-1)) 71 1) 77 (-1)) 82 (-1)) 83 1) 89 (-1)) 94 (-1)) 95 1) 101 (-1))))] := hD
  refine lv_aload_n hx hb dX9_layPlayers_71 rfl (lv_at hl 1 rfl) ?_
  refine lv_iload_n hx hb dX9_layPlayers_72 rfl (lv_at hl 0 rfl) ?_
  refine cs_i (As := [.int 6]) (rest := [.ref a0]) (wr := [(a0, .inl (cs 0, 1383, .inl (upd (upd (upd (upd (upd (upd (upd (upd (upd (upd (upd (upd (upd (upd (upd (upd (upd (upd (upd (upd (upd (upd (upd (fun _ => 0) 12 50) 21 (-1)) 22 (-1)) 23 1) 29 (-1)) 34 (-1)) 35 1) 41 (-1)) 46 (-1)) 47 1) 53 (-1)) 58 (-1)) 59 1) 65 (-1)) 70 (-1)) 71 1) 77 (-1)) 82 (-1)) 83 1) 89 (-1)) 94 (-1)) 95 1) 101 (-1))))]) ⟨hx, hb, hml, hown, hts⟩ (fun sz => k22_X9_playerAt l D cs sz ) (va_cwS 1 hts gX9_layPlayers_X9_playerAt rfl rfl rfl hdX9_playerAt_o ⟨Nat.le_of_ble_eq_true rfl, Nat.le_of_ble_eq_true rfl⟩) hN hP hD hS hA [] [0] rfl rfl rfl rfl (by decide) rfl rfl hl.1 (Nat.le_of_ble_eq_true rfl) dX9_layPlayers_73 (Nat.le_of_ble_eq_true rfl) (Nat.le_of_ble_eq_true rfl) (fun u20 H locs hP hD hS => ?_)
  have hP : va_P D vwCl [(a0, .inl (cs 0, 1383, .inl (upd (upd (upd (upd (upd (upd (upd (upd (upd (upd (upd (upd (upd (upd (upd (upd (upd (upd (upd (upd (upd (upd (upd (fun _ => 0) 12 50) 21 (-1)) 22 (-1)) 23 1) 29 (-1)) 34 (-1)) 35 1) 41 (-1)) 46 (-1)) 47 1) 53 (-1)) 58 (-1)) 59 1) 65 (-1)) 70 (-1)) 71 1) 77 (-1)) 82 (-1)) 83 1) 89 (-1)) 94 (-1)) 95 1) 101 (-1))))] H := hP
  have hD : va_D A [(a0, .inl (cs 0, 1383, .inl (upd (upd (upd (upd (upd (upd (upd (upd (upd (upd (upd (upd (upd (upd (upd (upd (upd (upd (upd (upd (upd (upd (upd (fun _ => 0) 12 50) 21 (-1)) 22 (-1)) 23 1) 29 (-1)) 34 (-1)) 35 1) 41 (-1)) 46 (-1)) 47 1) 53 (-1)) 58 (-1)) 59 1) 65 (-1)) 70 (-1)) 71 1) 77 (-1)) 82 (-1)) 83 1) 89 (-1)) 94 (-1)) 95 1) 101 (-1))))] := hD
  refine W.widen (k := 0) (n := 0) (Nat.le_of_ble_eq_true rfl) (Nat.le_of_ble_eq_true rfl) ?_
  refine lv_bipush (v := 11) hx hb dX9_layPlayers_76 (by decide) ?_
  refine lv_iadd hx hb dX9_layPlayers_78 ?_
  refine tp_i (106) (by decide) ?_
  refine lv_iconst (v := (-1)) hx hb dX9_layPlayers_79 (by decide) ?_
  refine st_i (g := (upd (upd (upd (upd (upd (upd (upd (upd (upd (upd (upd (upd (upd (upd (upd (upd (upd (upd (upd (upd (upd (upd (upd (upd (fun _ => 0) 12 50) 21 (-1)) 22 (-1)) 23 1) 29 (-1)) 34 (-1)) 35 1) 41 (-1)) 46 (-1)) 47 1) 53 (-1)) 58 (-1)) 59 1) 65 (-1)) 70 (-1)) 71 1) 77 (-1)) 82 (-1)) 83 1) 89 (-1)) 94 (-1)) 95 1) 101 (-1)) 106 (-1))) hx hb hN hP hD hS 0 rfl (vin (by decide +kernel)) rfl dX9_layPlayers_80 (fun H locs hP hD hS => ?_)
  have hP : va_P D vwCl [(a0, .inl (cs 0, 1383, .inl (upd (upd (upd (upd (upd (upd (upd (upd (upd (upd (upd (upd (upd (upd (upd (upd (upd (upd (upd (upd (upd (upd (upd (upd (fun _ => 0) 12 50) 21 (-1)) 22 (-1)) 23 1) 29 (-1)) 34 (-1)) 35 1) 41 (-1)) 46 (-1)) 47 1) 53 (-1)) 58 (-1)) 59 1) 65 (-1)) 70 (-1)) 71 1) 77 (-1)) 82 (-1)) 83 1) 89 (-1)) 94 (-1)) 95 1) 101 (-1)) 106 (-1))))] H := hP
  have hD : va_D A [(a0, .inl (cs 0, 1383, .inl (upd (upd (upd (upd (upd (upd (upd (upd (upd (upd (upd (upd (upd (upd (upd (upd (upd (upd (upd (upd (upd (upd (upd (upd (fun _ => 0) 12 50) 21 (-1)) 22 (-1)) 23 1) 29 (-1)) 34 (-1)) 35 1) 41 (-1)) 46 (-1)) 47 1) 53 (-1)) 58 (-1)) 59 1) 65 (-1)) 70 (-1)) 71 1) 77 (-1)) 82 (-1)) 83 1) 89 (-1)) 94 (-1)) 95 1) 101 (-1)) 106 (-1))))] := hD
  refine lv_iinc (v := 7) (lv' := [(2, .int 7), (0, .ref a0), (1, .int 0)]) hx hb dX9_layPlayers_81 hl (k := 0) rfl (by decide) (by decide) rfl (fun ls hl => ?_)
  refine lv_goto (tgt := 46) hx hb dX9_layPlayers_84 (by decide) ?_
  refine lv_iload_n hx hb dX9_layPlayers_46 rfl (lv_at hl 0 rfl) ?_
  refine lv_bipush (v := 8) hx hb dX9_layPlayers_47 (by decide) ?_
  refine lv_icmp_ge (tgt := 87) hx hb dX9_layPlayers_49 (by decide) (fun c9 => absurd c9 (by decide)) (fun _ => ?_)
  refine lv_aload_n hx hb dX9_layPlayers_52 rfl (lv_at hl 1 rfl) ?_
  refine lv_iload_n hx hb dX9_layPlayers_53 rfl (lv_at hl 0 rfl) ?_
  refine cs_i (As := [.int 7]) (rest := [.ref a0]) (wr := [(a0, .inl (cs 0, 1383, .inl (upd (upd (upd (upd (upd (upd (upd (upd (upd (upd (upd (upd (upd (upd (upd (upd (upd (upd (upd (upd (upd (upd (upd (upd (fun _ => 0) 12 50) 21 (-1)) 22 (-1)) 23 1) 29 (-1)) 34 (-1)) 35 1) 41 (-1)) 46 (-1)) 47 1) 53 (-1)) 58 (-1)) 59 1) 65 (-1)) 70 (-1)) 71 1) 77 (-1)) 82 (-1)) 83 1) 89 (-1)) 94 (-1)) 95 1) 101 (-1)) 106 (-1))))]) ⟨hx, hb, hml, hown, hts⟩ (fun sz => k23_X9_playerAt l D cs sz ) (va_cwS 1 hts gX9_layPlayers_X9_playerAt rfl rfl rfl hdX9_playerAt_o ⟨Nat.le_of_ble_eq_true rfl, Nat.le_of_ble_eq_true rfl⟩) hN hP hD hS hA [] [0] rfl rfl rfl rfl (by decide) rfl rfl hl.1 (Nat.le_of_ble_eq_true rfl) dX9_layPlayers_54 (Nat.le_of_ble_eq_true rfl) (Nat.le_of_ble_eq_true rfl) (fun u21 H locs hP hD hS => ?_)
  have hP : va_P D vwCl [(a0, .inl (cs 0, 1383, .inl (upd (upd (upd (upd (upd (upd (upd (upd (upd (upd (upd (upd (upd (upd (upd (upd (upd (upd (upd (upd (upd (upd (upd (upd (fun _ => 0) 12 50) 21 (-1)) 22 (-1)) 23 1) 29 (-1)) 34 (-1)) 35 1) 41 (-1)) 46 (-1)) 47 1) 53 (-1)) 58 (-1)) 59 1) 65 (-1)) 70 (-1)) 71 1) 77 (-1)) 82 (-1)) 83 1) 89 (-1)) 94 (-1)) 95 1) 101 (-1)) 106 (-1))))] H := hP
  have hD : va_D A [(a0, .inl (cs 0, 1383, .inl (upd (upd (upd (upd (upd (upd (upd (upd (upd (upd (upd (upd (upd (upd (upd (upd (upd (upd (upd (upd (upd (upd (upd (upd (fun _ => 0) 12 50) 21 (-1)) 22 (-1)) 23 1) 29 (-1)) 34 (-1)) 35 1) 41 (-1)) 46 (-1)) 47 1) 53 (-1)) 58 (-1)) 59 1) 65 (-1)) 70 (-1)) 71 1) 77 (-1)) 82 (-1)) 83 1) 89 (-1)) 94 (-1)) 95 1) 101 (-1)) 106 (-1))))] := hD
  refine W.widen (k := 0) (n := 0) (Nat.le_of_ble_eq_true rfl) (Nat.le_of_ble_eq_true rfl) ?_
  refine lv_iconst (v := 0) hx hb dX9_layPlayers_57 (by decide) ?_
  refine lv_iadd hx hb dX9_layPlayers_58 ?_
  refine tp_i (107) (by decide) ?_
  refine lv_iconst (v := 1) hx hb dX9_layPlayers_59 (by decide) ?_
  refine st_i (g := (upd (upd (upd (upd (upd (upd (upd (upd (upd (upd (upd (upd (upd (upd (upd (upd (upd (upd (upd (upd (upd (upd (upd (upd (upd (fun _ => 0) 12 50) 21 (-1)) 22 (-1)) 23 1) 29 (-1)) 34 (-1)) 35 1) 41 (-1)) 46 (-1)) 47 1) 53 (-1)) 58 (-1)) 59 1) 65 (-1)) 70 (-1)) 71 1) 77 (-1)) 82 (-1)) 83 1) 89 (-1)) 94 (-1)) 95 1) 101 (-1)) 106 (-1)) 107 1)) hx hb hN hP hD hS 0 rfl (vin (by decide +kernel)) rfl dX9_layPlayers_60 (fun H locs hP hD hS => ?_)
  have hP : va_P D vwCl [(a0, .inl (cs 0, 1383, .inl (upd (upd (upd (upd (upd (upd (upd (upd (upd (upd (upd (upd (upd (upd (upd (upd (upd (upd (upd (upd (upd (upd (upd (upd (upd (fun _ => 0) 12 50) 21 (-1)) 22 (-1)) 23 1) 29 (-1)) 34 (-1)) 35 1) 41 (-1)) 46 (-1)) 47 1) 53 (-1)) 58 (-1)) 59 1) 65 (-1)) 70 (-1)) 71 1) 77 (-1)) 82 (-1)) 83 1) 89 (-1)) 94 (-1)) 95 1) 101 (-1)) 106 (-1)) 107 1)))] H := hP
  have hD : va_D A [(a0, .inl (cs 0, 1383, .inl (upd (upd (upd (upd (upd (upd (upd (upd (upd (upd (upd (upd (upd (upd (upd (upd (upd (upd (upd (upd (upd (upd (upd (upd (upd (fun _ => 0) 12 50) 21 (-1)) 22 (-1)) 23 1) 29 (-1)) 34 (-1)) 35 1) 41 (-1)) 46 (-1)) 47 1) 53 (-1)) 58 (-1)) 59 1) 65 (-1)) 70 (-1)) 71 1) 77 (-1)) 82 (-1)) 83 1) 89 (-1)) 94 (-1)) 95 1) 101 (-1)) 106 (-1)) 107 1)))] := hD
  refine lv_aload_n hx hb dX9_layPlayers_61 rfl (lv_at hl 1 rfl) ?_
  refine lv_iload_n hx hb dX9_layPlayers_62 rfl (lv_at hl 0 rfl) ?_
  refine cs_i (As := [.int 7]) (rest := [.ref a0]) (wr := [(a0, .inl (cs 0, 1383, .inl (upd (upd (upd (upd (upd (upd (upd (upd (upd (upd (upd (upd (upd (upd (upd (upd (upd (upd (upd (upd (upd (upd (upd (upd (upd (fun _ => 0) 12 50) 21 (-1)) 22 (-1)) 23 1) 29 (-1)) 34 (-1)) 35 1) 41 (-1)) 46 (-1)) 47 1) 53 (-1)) 58 (-1)) 59 1) 65 (-1)) 70 (-1)) 71 1) 77 (-1)) 82 (-1)) 83 1) 89 (-1)) 94 (-1)) 95 1) 101 (-1)) 106 (-1)) 107 1)))]) ⟨hx, hb, hml, hown, hts⟩ (fun sz => k23_X9_playerAt l D cs sz ) (va_cwS 1 hts gX9_layPlayers_X9_playerAt rfl rfl rfl hdX9_playerAt_o ⟨Nat.le_of_ble_eq_true rfl, Nat.le_of_ble_eq_true rfl⟩) hN hP hD hS hA [] [0] rfl rfl rfl rfl (by decide) rfl rfl hl.1 (Nat.le_of_ble_eq_true rfl) dX9_layPlayers_63 (Nat.le_of_ble_eq_true rfl) (Nat.le_of_ble_eq_true rfl) (fun u22 H locs hP hD hS => ?_)
  have hP : va_P D vwCl [(a0, .inl (cs 0, 1383, .inl (upd (upd (upd (upd (upd (upd (upd (upd (upd (upd (upd (upd (upd (upd (upd (upd (upd (upd (upd (upd (upd (upd (upd (upd (upd (fun _ => 0) 12 50) 21 (-1)) 22 (-1)) 23 1) 29 (-1)) 34 (-1)) 35 1) 41 (-1)) 46 (-1)) 47 1) 53 (-1)) 58 (-1)) 59 1) 65 (-1)) 70 (-1)) 71 1) 77 (-1)) 82 (-1)) 83 1) 89 (-1)) 94 (-1)) 95 1) 101 (-1)) 106 (-1)) 107 1)))] H := hP
  have hD : va_D A [(a0, .inl (cs 0, 1383, .inl (upd (upd (upd (upd (upd (upd (upd (upd (upd (upd (upd (upd (upd (upd (upd (upd (upd (upd (upd (upd (upd (upd (upd (upd (upd (fun _ => 0) 12 50) 21 (-1)) 22 (-1)) 23 1) 29 (-1)) 34 (-1)) 35 1) 41 (-1)) 46 (-1)) 47 1) 53 (-1)) 58 (-1)) 59 1) 65 (-1)) 70 (-1)) 71 1) 77 (-1)) 82 (-1)) 83 1) 89 (-1)) 94 (-1)) 95 1) 101 (-1)) 106 (-1)) 107 1)))] := hD
  refine W.widen (k := 0) (n := 0) (Nat.le_of_ble_eq_true rfl) (Nat.le_of_ble_eq_true rfl) ?_
  refine lv_bipush (v := 6) hx hb dX9_layPlayers_66 (by decide) ?_
  refine lv_iadd hx hb dX9_layPlayers_68 ?_
  refine tp_i (113) (by decide) ?_
  refine lv_iconst (v := (-1)) hx hb dX9_layPlayers_69 (by decide) ?_
  refine st_i (g := (upd (upd (upd (upd (upd (upd (upd (upd (upd (upd (upd (upd (upd (upd (upd (upd (upd (upd (upd (upd (upd (upd (upd (upd (upd (upd (fun _ => 0) 12 50) 21 (-1)) 22 (-1)) 23 1) 29 (-1)) 34 (-1)) 35 1) 41 (-1)) 46 (-1)) 47 1) 53 (-1)) 58 (-1)) 59 1) 65 (-1)) 70 (-1)) 71 1) 77 (-1)) 82 (-1)) 83 1) 89 (-1)) 94 (-1)) 95 1) 101 (-1)) 106 (-1)) 107 1) 113 (-1))) hx hb hN hP hD hS 0 rfl (vin (by decide +kernel)) rfl dX9_layPlayers_70 (fun H locs hP hD hS => ?_)
  have hP : va_P D vwCl [(a0, .inl (cs 0, 1383, .inl (upd (upd (upd (upd (upd (upd (upd (upd (upd (upd (upd (upd (upd (upd (upd (upd (upd (upd (upd (upd (upd (upd (upd (upd (upd (upd (fun _ => 0) 12 50) 21 (-1)) 22 (-1)) 23 1) 29 (-1)) 34 (-1)) 35 1) 41 (-1)) 46 (-1)) 47 1) 53 (-1)) 58 (-1)) 59 1) 65 (-1)) 70 (-1)) 71 1) 77 (-1)) 82 (-1)) 83 1) 89 (-1)) 94 (-1)) 95 1) 101 (-1)) 106 (-1)) 107 1) 113 (-1))))] H := hP
  have hD : va_D A [(a0, .inl (cs 0, 1383, .inl (upd (upd (upd (upd (upd (upd (upd (upd (upd (upd (upd (upd (upd (upd (upd (upd (upd (upd (upd (upd (upd (upd (upd (upd (upd (upd (fun _ => 0) 12 50) 21 (-1)) 22 (-1)) 23 1) 29 (-1)) 34 (-1)) 35 1) 41 (-1)) 46 (-1)) 47 1) 53 (-1)) 58 (-1)) 59 1) 65 (-1)) 70 (-1)) 71 1) 77 (-1)) 82 (-1)) 83 1) 89 (-1)) 94 (-1)) 95 1) 101 (-1)) 106 (-1)) 107 1) 113 (-1))))] := hD
  refine lv_aload_n hx hb dX9_layPlayers_71 rfl (lv_at hl 1 rfl) ?_
  refine lv_iload_n hx hb dX9_layPlayers_72 rfl (lv_at hl 0 rfl) ?_
  refine cs_i (As := [.int 7]) (rest := [.ref a0]) (wr := [(a0, .inl (cs 0, 1383, .inl (upd (upd (upd (upd (upd (upd (upd (upd (upd (upd (upd (upd (upd (upd (upd (upd (upd (upd (upd (upd (upd (upd (upd (upd (upd (upd (fun _ => 0) 12 50) 21 (-1)) 22 (-1)) 23 1) 29 (-1)) 34 (-1)) 35 1) 41 (-1)) 46 (-1)) 47 1) 53 (-1)) 58 (-1)) 59 1) 65 (-1)) 70 (-1)) 71 1) 77 (-1)) 82 (-1)) 83 1) 89 (-1)) 94 (-1)) 95 1) 101 (-1)) 106 (-1)) 107 1) 113 (-1))))]) ⟨hx, hb, hml, hown, hts⟩ (fun sz => k23_X9_playerAt l D cs sz ) (va_cwS 1 hts gX9_layPlayers_X9_playerAt rfl rfl rfl hdX9_playerAt_o ⟨Nat.le_of_ble_eq_true rfl, Nat.le_of_ble_eq_true rfl⟩) hN hP hD hS hA [] [0] rfl rfl rfl rfl (by decide) rfl rfl hl.1 (Nat.le_of_ble_eq_true rfl) dX9_layPlayers_73 (Nat.le_of_ble_eq_true rfl) (Nat.le_of_ble_eq_true rfl) (fun u23 H locs hP hD hS => ?_)
  have hP : va_P D vwCl [(a0, .inl (cs 0, 1383, .inl (upd (upd (upd (upd (upd (upd (upd (upd (upd (upd (upd (upd (upd (upd (upd (upd (upd (upd (upd (upd (upd (upd (upd (upd (upd (upd (fun _ => 0) 12 50) 21 (-1)) 22 (-1)) 23 1) 29 (-1)) 34 (-1)) 35 1) 41 (-1)) 46 (-1)) 47 1) 53 (-1)) 58 (-1)) 59 1) 65 (-1)) 70 (-1)) 71 1) 77 (-1)) 82 (-1)) 83 1) 89 (-1)) 94 (-1)) 95 1) 101 (-1)) 106 (-1)) 107 1) 113 (-1))))] H := hP
  have hD : va_D A [(a0, .inl (cs 0, 1383, .inl (upd (upd (upd (upd (upd (upd (upd (upd (upd (upd (upd (upd (upd (upd (upd (upd (upd (upd (upd (upd (upd (upd (upd (upd (upd (upd (fun _ => 0) 12 50) 21 (-1)) 22 (-1)) 23 1) 29 (-1)) 34 (-1)) 35 1) 41 (-1)) 46 (-1)) 47 1) 53 (-1)) 58 (-1)) 59 1) 65 (-1)) 70 (-1)) 71 1) 77 (-1)) 82 (-1)) 83 1) 89 (-1)) 94 (-1)) 95 1) 101 (-1)) 106 (-1)) 107 1) 113 (-1))))] := hD
  refine W.widen (k := 0) (n := 0) (Nat.le_of_ble_eq_true rfl) (Nat.le_of_ble_eq_true rfl) ?_
  refine lv_bipush (v := 11) hx hb dX9_layPlayers_76 (by decide) ?_
  refine lv_iadd hx hb dX9_layPlayers_78 ?_
  refine tp_i (118) (by decide) ?_
  refine lv_iconst (v := (-1)) hx hb dX9_layPlayers_79 (by decide) ?_
  refine st_i (g := (upd (upd (upd (upd (upd (upd (upd (upd (upd (upd (upd (upd (upd (upd (upd (upd (upd (upd (upd (upd (upd (upd (upd (upd (upd (upd (upd (fun _ => 0) 12 50) 21 (-1)) 22 (-1)) 23 1) 29 (-1)) 34 (-1)) 35 1) 41 (-1)) 46 (-1)) 47 1) 53 (-1)) 58 (-1)) 59 1) 65 (-1)) 70 (-1)) 71 1) 77 (-1)) 82 (-1)) 83 1) 89 (-1)) 94 (-1)) 95 1) 101 (-1)) 106 (-1)) 107 1) 113 (-1)) 118 (-1))) hx hb hN hP hD hS 0 rfl (vin (by decide +kernel)) rfl dX9_layPlayers_80 (fun H locs hP hD hS => ?_)
  have hP : va_P D vwCl [(a0, .inl (cs 0, 1383, .inl (upd (upd (upd (upd (upd (upd (upd (upd (upd (upd (upd (upd (upd (upd (upd (upd (upd (upd (upd (upd (upd (upd (upd (upd (upd (upd (upd (fun _ => 0) 12 50) 21 (-1)) 22 (-1)) 23 1) 29 (-1)) 34 (-1)) 35 1) 41 (-1)) 46 (-1)) 47 1) 53 (-1)) 58 (-1)) 59 1) 65 (-1)) 70 (-1)) 71 1) 77 (-1)) 82 (-1)) 83 1) 89 (-1)) 94 (-1)) 95 1) 101 (-1)) 106 (-1)) 107 1) 113 (-1)) 118 (-1))))] H := hP
  have hD : va_D A [(a0, .inl (cs 0, 1383, .inl (upd (upd (upd (upd (upd (upd (upd (upd (upd (upd (upd (upd (upd (upd (upd (upd (upd (upd (upd (upd (upd (upd (upd (upd (upd (upd (upd (fun _ => 0) 12 50) 21 (-1)) 22 (-1)) 23 1) 29 (-1)) 34 (-1)) 35 1) 41 (-1)) 46 (-1)) 47 1) 53 (-1)) 58 (-1)) 59 1) 65 (-1)) 70 (-1)) 71 1) 77 (-1)) 82 (-1)) 83 1) 89 (-1)) 94 (-1)) 95 1) 101 (-1)) 106 (-1)) 107 1) 113 (-1)) 118 (-1))))] := hD
  refine lv_iinc (v := 8) (lv' := [(2, .int 8), (0, .ref a0), (1, .int 0)]) hx hb dX9_layPlayers_81 hl (k := 0) rfl (by decide) (by decide) rfl (fun ls hl => ?_)
  refine lv_goto (tgt := 46) hx hb dX9_layPlayers_84 (by decide) ?_
  refine lv_iload_n hx hb dX9_layPlayers_46 rfl (lv_at hl 0 rfl) ?_
  refine lv_bipush (v := 8) hx hb dX9_layPlayers_47 (by decide) ?_
  refine lv_icmp_ge (tgt := 87) hx hb dX9_layPlayers_49 (by decide) (fun _ => ?_) (fun c9 => absurd (by decide) c9)
  exact en_v (fun k => ([] : List Nat).getD k 0) hx hb hr hlocks hP hD hS (Nat.le_of_ble_eq_true rfl) (Nat.le_of_ble_eq_true rfl) dX9_layPlayers_87
set_option maxHeartbeats 4000000 in
set_option maxRecDepth 100000 in
theorem k617_X9_expect (l : Launch) (D : va_G) (cs : Nat → ClassId) (sz : Nat) (a0 a1 a2 a3 a4 a5 a6 : Nat) : KV l yX9_expect wsX9_expect 1 20 0 0 D cs sz [.ref a0, .int 59] [(a0, .inr (9, [.int 0, .ref a1, .int 0, .int 0, .int 0, .int (-2), .int 0, .int (-1), .ref a2, .ref a3, .ref a4, .ref a5, .int 0, .int 0, .int 0, .int 0, .int 0, .ref a6]))] (fun u => [(a0, .inr (9, [.int 0, .ref a1, .int 0, .int 0, .int 0, .int (-2), .int 0, .int (-1), .ref a2, .ref a3, .ref a4, .ref a5, .int 0, .int 0, .int 0, .int 0, .int 0, .ref a6]))]) := by
  refine KV.of cX9_expect 2 none (by decide) rfl (Nat.le_of_ble_eq_true rfl) ?_
  intro p e s m below meth c A ls hx hb hr hml hown hts hlocks hin hP hN hD hA hS hl
  have hown : s.vm.findClass RX9 = some m.cls := hown
  have hl : lv_has ls 2 [(0, .ref a0), (1, .int 59)] := hl
  refine lv_aload_n hx hb dX9_expect_0 rfl (lv_at hl 0 rfl) ?_
  refine cv_i (As := []) (rest := []) (b := a0) (wr := []) ⟨hx, hb, hml, hown, hts⟩ (fun sz => k614_X9_isGood l D cs sz a0 a1 a2 a3 a4 a5 a6) (cwV 0 hts gX9_expect_X9_isGood rfl rfl rfl hdX9_isGood_v ⟨Nat.le_of_ble_eq_true rfl, Nat.le_of_ble_eq_true rfl⟩) hN hP hD hS hA [0] [] rfl rfl rfl rfl (by decide) (ci := 9) (q0 := 0) rfl rfl rfl rfl hl.1 (Nat.le_of_ble_eq_true rfl) dX9_expect_1 (Nat.le_of_ble_eq_true rfl) (Nat.le_of_ble_eq_true rfl) (fun u0 H locs hP hD hS => ?_)
  have hP : va_P D vwCl [(a0, .inr (9, [.int 0, .ref a1, .int 0, .int 0, .int 0, .int (-2), .int 0, .int (-1), .ref a2, .ref a3, .ref a4, .ref a5, .int 0, .int 0, .int 0, .int 0, .int 0, .ref a6]))] H := hP
  have hD : va_D A [(a0, .inr (9, [.int 0, .ref a1, .int 0, .int 0, .int 0, .int (-2), .int 0, .int (-1), .ref a2, .ref a3, .ref a4, .ref a5, .int 0, .int 0, .int 0, .int 0, .int 0, .ref a6]))] := hD
  refine W.widen (k := 0) (n := 0) (Nat.le_of_ble_eq_true rfl) (Nat.le_of_ble_eq_true rfl) ?_
  refine lv_if_ne (tgt := 8) hx hb dX9_expect_4 (by decide) (fun c9 => absurd (by decide) c9) (fun _ => ?_)
  exact en_v (fun k => ([] : List Nat).getD k 0) hx hb hr hlocks hP hD hS (Nat.le_of_ble_eq_true rfl) (Nat.le_of_ble_eq_true rfl) dX9_expect_7
theorem mX9_load_11 : (.fieldLink RX9 13 "OneBeatModel" "errorOffset" "I" : Cond) ∈ wsX9_load := List.mem_of_getElem? (i := 11) (by decide +kernel)
set_option maxHeartbeats 4000000 in
set_option maxRecDepth 100000 in
theorem k618_X9_isGood (l : Launch) (D : va_G) (cs : Nat → ClassId) (sz : Nat) (a0 a1 a2 a3 a4 a5 a6 : Nat) : KI l yX9_isGood wsX9_isGood 0 0 0 0 D cs sz [.ref a0] [(a0, .inr (9, [.int 0, .ref a1, .int 0, .int 0, .int 0, .int (-2), .int 0, .int 0, .ref a2, .ref a3, .ref a4, .ref a5, .int 0, .int 0, .int 0, .int 0, .int 0, .ref a6]))] (fun u => [(a0, .inr (9, [.int 0, .ref a1, .int 0, .int 0, .int 0, .int (-2), .int 0, .int 0, .ref a2, .ref a3, .ref a4, .ref a5, .int 0, .int 0, .int 0, .int 0, .int 0, .ref a6]))]) (0) := by
  refine KI.of cX9_isGood 1 (some .boolean) (by decide) rfl (Nat.le_of_ble_eq_true rfl) ?_
  intro p e s m below meth c A ls hx hb hr hml hown hts hlocks hin hP hN hD hA hS hl
  have hown : s.vm.findClass RX9 = some m.cls := hown
  have hl : lv_has ls 1 [(0, .ref a0)] := hl
  refine lv_aload_n hx hb dX9_isGood_0 rfl (lv_at hl 0 rfl) ?_
  refine va_get (D := D) (ci := 9) (v := .int (-2)) (C := RX9) (T := TX9) (N := 18) hx hb hts iX9_isGood_9 hown hN.1 hP 0 rfl rfl 5 (by decide) (hts _ mX9_isGood_1) (fun _ h9 => h9) rfl dX9_isGood_1 ?_
  refine lv_if_ne (tgt := 11) hx hb dX9_isGood_4 (by decide) (fun _ => ?_) (fun c9 => absurd c9 (by decide))
  refine lv_iconst (v := 0) hx hb dX9_isGood_11 (by decide) ?_
  exact en_i (fun k => ([] : List Nat).getD k 0) hx hb hr hlocks rfl rfl hP hD hS (Nat.le_of_ble_eq_true rfl) (Nat.le_of_ble_eq_true rfl) dX9_isGood_12
theorem hdX9_takeWord_v : yX9_takeWord.cls = RX9 ∧ yX9_takeWord.cls ≠ "java/lang/invoke/MethodHandle" ∧ yX9_takeWord.cls ≠ "java/lang/invoke/VarHandle" ∧ (parseMethodDescriptor yX9_takeWord.desc).map (fun d => d.parameters.length) = some 1 := by decide +kernel
theorem hdX9_report_v : yX9_report.cls = RX9 ∧ yX9_report.cls ≠ "java/lang/invoke/MethodHandle" ∧ yX9_report.cls ≠ "java/lang/invoke/VarHandle" ∧ (parseMethodDescriptor yX9_report.desc).map (fun d => d.parameters.length) = some 2 := by decide +kernel
theorem hdX9_number_v : yX9_number.cls = RX9 ∧ yX9_number.cls ≠ "java/lang/invoke/MethodHandle" ∧ yX9_number.cls ≠ "java/lang/invoke/VarHandle" ∧ (parseMethodDescriptor yX9_number.desc).map (fun d => d.parameters.length) = some 2 := by decide +kernel
theorem hdX9_expect_v : yX9_expect.cls = RX9 ∧ yX9_expect.cls ≠ "java/lang/invoke/MethodHandle" ∧ yX9_expect.cls ≠ "java/lang/invoke/VarHandle" ∧ (parseMethodDescriptor yX9_expect.desc).map (fun d => d.parameters.length) = some 1 := by decide +kernel
set_option maxHeartbeats 4000000 in
set_option maxRecDepth 100000 in
theorem k619_X9_load (l : Launch) (D : va_G) (cs : Nat → ClassId) (sz : Nat) (a0 a1 a2 a3 a4 a5 a6 : Nat) : KSI l yX9_load wsX9_load 5 115 0 0 D cs sz [.ref a0, .int 0] [(a0, .inr (9, [.int 0, .ref a2, .int 0, .int 0, .int 0, .int 0, .int 0, .int (-1), .ref a3, .ref a4, .ref a1, .ref a5, .int 0, .int 0, .int 0, .int 0, .int 0, .ref a6])), (a1, .inl (cs 0, 1383, .inl (fun _ => 0)))] (fun u => [(a1, .inl (cs 0, 1383, .inl (upd (upd (upd (upd (upd (upd (upd (upd (upd (upd (upd (upd (upd (upd (upd (upd (upd (upd (upd (upd (upd (upd (upd (upd (upd (upd (upd (fun _ => 0) 12 50) 21 (-1)) 22 (-1)) 23 1) 29 (-1)) 34 (-1)) 35 1) 41 (-1)) 46 (-1)) 47 1) 53 (-1)) 58 (-1)) 59 1) 65 (-1)) 70 (-1)) 71 1) 77 (-1)) 82 (-1)) 83 1) 89 (-1)) 94 (-1)) 95 1) 101 (-1)) 106 (-1)) 107 1) 113 (-1)) 118 (-1)))), (a0, .inr (9, [.int 0, .ref a2, .int 0, .int 0, .int 0, .int (-2), .int 0, .int 0, .ref a3, .ref a4, .ref a1, .ref a5, .int 0, .int 0, .int 0, .int 0, .int 0, .ref a6]))]) ((-2)) := by
  refine KSI.of cX9_load 3 (some .int) (by decide) rfl (Nat.le_of_ble_eq_true rfl) ?_
  intro p e s m below meth c A ls hx hb hr hml hown hts hlocks hin hP hN hD hA hS hl hZS
  have hown : s.vm.findClass RX9 = some m.cls := hown
  have hl : lv_has ls 3 [(0, .ref a0), (1, .int 0)] := hl
  refine lv_aload_n hx hb dX9_load_0 rfl (lv_at hl 0 rfl) ?_
  refine lv_iconst (v := 0) hx hb dX9_load_1 (by decide) ?_
  refine va_put (D := D) (ci := 9) (v := .int 0) (ty := .int) (C := RX9) (T := TX9) (N := 18) hx hb hts iX9_load_9 tyX9 tyX9_ok nmX9 hown hN.1 hP hD hS 0 rfl rfl 0 (by decide) (hts _ mX9_load_1) (fun _ h9 => h9) rfl (by decide +kernel) rfl rfl (Nat.le_of_ble_eq_true rfl) dX9_load_2 (fun H locs hP hD hS => ?_)
  have hP : va_P D vwCl [(a0, .inr (9, [.int 0, .ref a2, .int 0, .int 0, .int 0, .int 0, .int 0, .int (-1), .ref a3, .ref a4, .ref a1, .ref a5, .int 0, .int 0, .int 0, .int 0, .int 0, .ref a6])), (a1, .inl (cs 0, 1383, .inl (fun _ => 0)))] H := hP
  have hD : va_D A [(a0, .inr (9, [.int 0, .ref a2, .int 0, .int 0, .int 0, .int 0, .int 0, .int (-1), .ref a3, .ref a4, .ref a1, .ref a5, .int 0, .int 0, .int 0, .int 0, .int 0, .ref a6])), (a1, .inl (cs 0, 1383, .inl (fun _ => 0)))] := hD
  refine lv_aload_n hx hb dX9_load_5 rfl (lv_at hl 0 rfl) ?_
  refine lv_iload_n hx hb dX9_load_6 rfl (lv_at hl 1 rfl) ?_
  refine lv_iconst (v := 0) hx hb dX9_load_7 (by decide) ?_
  refine lv_aload_n hx hb dX9_load_8 rfl (lv_at hl 0 rfl) ?_
  refine va_get (D := D) (ci := 9) (v := .int 0) (C := RX9) (T := TX9) (N := 18) hx hb hts iX9_load_9 hown hN.1 hP 0 rfl rfl 2 (by decide) (hts _ mX9_load_2) (fun _ h9 => h9) rfl dX9_load_9 ?_
  refine cs_i (As := [.int 0, .int 0, .int 0]) (rest := [.ref a0]) (wr := [(a0, .inr (9, [.int 0, .ref a2, .int 0, .int 0, .int 0, .int 0, .int 0, .int (-1), .ref a3, .ref a4, .ref a1, .ref a5, .int 0, .int 0, .int 0, .int 0, .int 0, .ref a6])), (a1, .inl (cs 0, 1383, .inl (fun _ => 0)))]) ⟨hx, hb, hml, hown, hts⟩ (fun sz => k169_X9_in l D cs sz ) (va_cwS 3 hts gX9_load_X9_in rfl rfl rfl hdX9_in_o ⟨Nat.le_of_ble_eq_true rfl, Nat.le_of_ble_eq_true rfl⟩) hN hP hD hS hA [] [0, 1] rfl rfl rfl rfl (by decide) rfl rfl hl.1 (Nat.le_of_ble_eq_true rfl) dX9_load_12 (Nat.le_of_ble_eq_true rfl) (Nat.le_of_ble_eq_true rfl) (fun u0 H locs hP hD hS => ?_)
  have hP : va_P D vwCl [(a0, .inr (9, [.int 0, .ref a2, .int 0, .int 0, .int 0, .int 0, .int 0, .int (-1), .ref a3, .ref a4, .ref a1, .ref a5, .int 0, .int 0, .int 0, .int 0, .int 0, .ref a6])), (a1, .inl (cs 0, 1383, .inl (fun _ => 0)))] H := hP
  have hD : va_D A [(a0, .inr (9, [.int 0, .ref a2, .int 0, .int 0, .int 0, .int 0, .int 0, .int (-1), .ref a3, .ref a4, .ref a1, .ref a5, .int 0, .int 0, .int 0, .int 0, .int 0, .ref a6])), (a1, .inl (cs 0, 1383, .inl (fun _ => 0)))] := hD
  refine W.widen (k := 0) (n := 0) (Nat.le_of_ble_eq_true rfl) (Nat.le_of_ble_eq_true rfl) ?_
  refine lv_if_ne (tgt := 22) hx hb dX9_load_15 (by decide) (fun _ => ?_) (fun c9 => absurd c9 (by decide))
  refine lv_iconst (v := 0) hx hb dX9_load_22 (by decide) ?_
  refine lv_iconst (v := 1) hx hb dX9_load_23 (by decide) ?_
  refine cv_i (As := [.int 0, .int 1]) (rest := []) (b := a0) (wr := [(a1, .inl (cs 0, 1383, .inl (fun _ => 0)))]) ⟨hx, hb, hml, hown, hts⟩ (fun sz => k47_X9_fails l D cs sz a0 a2 a3 a4 a1 a5 a6) (cwV 2 hts gX9_load_X9_fails rfl rfl rfl hdX9_fails_v ⟨Nat.le_of_ble_eq_true rfl, Nat.le_of_ble_eq_true rfl⟩) hN hP hD hS hA [0] [1] rfl rfl rfl rfl (by decide) (ci := 9) (q0 := 0) rfl rfl rfl rfl hl.1 (Nat.le_of_ble_eq_true rfl) dX9_load_24 (Nat.le_of_ble_eq_true rfl) (Nat.le_of_ble_eq_true rfl) (fun u1 H locs hP hD hS => ?_)
  have hP : va_P D vwCl [(a1, .inl (cs 0, 1383, .inl (fun _ => 0))), (a0, .inr (9, [.int 0, .ref a2, .int 0, .int 0, .int 0, .int 0, .int 0, .int (-1), .ref a3, .ref a4, .ref a1, .ref a5, .int 0, .int 0, .int 0, .int 0, .int 0, .ref a6]))] H := hP
  have hD : va_D A [(a1, .inl (cs 0, 1383, .inl (fun _ => 0))), (a0, .inr (9, [.int 0, .ref a2, .int 0, .int 0, .int 0, .int 0, .int 0, .int (-1), .ref a3, .ref a4, .ref a1, .ref a5, .int 0, .int 0, .int 0, .int 0, .int 0, .ref a6]))] := hD
  refine W.widen (k := 0) (n := 0) (Nat.le_of_ble_eq_true rfl) (Nat.le_of_ble_eq_true rfl) ?_
  refine lv_if_eq (tgt := 32) hx hb dX9_load_27 (by decide) (fun _ => ?_) (fun c9 => absurd (by decide) c9)
  refine lv_aload_n hx hb dX9_load_32 rfl (lv_at hl 0 rfl) ?_
  refine lv_iconst (v := 0) hx hb dX9_load_33 (by decide) ?_
  refine va_put (D := D) (ci := 9) (v := .int 0) (ty := .int) (C := RX9) (T := TX9) (N := 18) hx hb hts iX9_load_9 tyX9 tyX9_ok nmX9 hown hN.1 hP hD hS 1 rfl rfl 2 (by decide) (hts _ mX9_load_2) (fun _ h9 => h9) rfl (by decide +kernel) rfl rfl (Nat.le_of_ble_eq_true rfl) dX9_load_34 (fun H locs hP hD hS => ?_)
  have hP : va_P D vwCl [(a1, .inl (cs 0, 1383, .inl (fun _ => 0))), (a0, .inr (9, [.int 0, .ref a2, .int 0, .int 0, .int 0, .int 0, .int 0, .int (-1), .ref a3, .ref a4, .ref a1, .ref a5, .int 0, .int 0, .int 0, .int 0, .int 0, .ref a6]))] H := hP
  have hD : va_D A [(a1, .inl (cs 0, 1383, .inl (fun _ => 0))), (a0, .inr (9, [.int 0, .ref a2, .int 0, .int 0, .int 0, .int 0, .int 0, .int (-1), .ref a3, .ref a4, .ref a1, .ref a5, .int 0, .int 0, .int 0, .int 0, .int 0, .ref a6]))] := hD
  refine lv_aload_n hx hb dX9_load_37 rfl (lv_at hl 0 rfl) ?_
  refine lv_iload_n hx hb dX9_load_38 rfl (lv_at hl 1 rfl) ?_
  refine va_put (D := D) (ci := 9) (v := .int 0) (ty := .int) (C := RX9) (T := TX9) (N := 18) hx hb hts iX9_load_9 tyX9 tyX9_ok nmX9 hown hN.1 hP hD hS 1 rfl rfl 3 (by decide) (hts _ mX9_load_3) (fun _ h9 => h9) rfl (by decide +kernel) rfl rfl (Nat.le_of_ble_eq_true rfl) dX9_load_39 (fun H locs hP hD hS => ?_)
  have hP : va_P D vwCl [(a1, .inl (cs 0, 1383, .inl (fun _ => 0))), (a0, .inr (9, [.int 0, .ref a2, .int 0, .int 0, .int 0, .int 0, .int 0, .int (-1), .ref a3, .ref a4, .ref a1, .ref a5, .int 0, .int 0, .int 0, .int 0, .int 0, .ref a6]))] H := hP
  have hD : va_D A [(a1, .inl (cs 0, 1383, .inl (fun _ => 0))), (a0, .inr (9, [.int 0, .ref a2, .int 0, .int 0, .int 0, .int 0, .int 0, .int (-1), .ref a3, .ref a4, .ref a1, .ref a5, .int 0, .int 0, .int 0, .int 0, .int 0, .ref a6]))] := hD
  refine lv_aload_n hx hb dX9_load_42 rfl (lv_at hl 0 rfl) ?_
  refine lv_iconst (v := 0) hx hb dX9_load_43 (by decide) ?_
  refine va_put (D := D) (ci := 9) (v := .int 0) (ty := .int) (C := RX9) (T := TX9) (N := 18) hx hb hts iX9_load_9 tyX9 tyX9_ok nmX9 hown hN.1 hP hD hS 1 rfl rfl 4 (by decide) (hts _ mX9_load_4) (fun _ h9 => h9) rfl (by decide +kernel) rfl rfl (Nat.le_of_ble_eq_true rfl) dX9_load_44 (fun H locs hP hD hS => ?_)
  have hP : va_P D vwCl [(a1, .inl (cs 0, 1383, .inl (fun _ => 0))), (a0, .inr (9, [.int 0, .ref a2, .int 0, .int 0, .int 0, .int 0, .int 0, .int (-1), .ref a3, .ref a4, .ref a1, .ref a5, .int 0, .int 0, .int 0, .int 0, .int 0, .ref a6]))] H := hP
  have hD : va_D A [(a1, .inl (cs 0, 1383, .inl (fun _ => 0))), (a0, .inr (9, [.int 0, .ref a2, .int 0, .int 0, .int 0, .int 0, .int 0, .int (-1), .ref a3, .ref a4, .ref a1, .ref a5, .int 0, .int 0, .int 0, .int 0, .int 0, .ref a6]))] := hD
  refine lv_aload_n hx hb dX9_load_47 rfl (lv_at hl 0 rfl) ?_
  refine lv_iconst (v := 0) hx hb dX9_load_48 (by decide) ?_
  refine va_put (D := D) (ci := 9) (v := .int 0) (ty := .int) (C := RX9) (T := TX9) (N := 18) hx hb hts iX9_load_9 tyX9 tyX9_ok nmX9 hown hN.1 hP hD hS 1 rfl rfl 5 (by decide) (hts _ mX9_load_5) (fun _ h9 => h9) rfl (by decide +kernel) rfl rfl (Nat.le_of_ble_eq_true rfl) dX9_load_49 (fun H locs hP hD hS => ?_)
  have hP : va_P D vwCl [(a1, .inl (cs 0, 1383, .inl (fun _ => 0))), (a0, .inr (9, [.int 0, .ref a2, .int 0, .int 0, .int 0, .int 0, .int 0, .int (-1), .ref a3, .ref a4, .ref a1, .ref a5, .int 0, .int 0, .int 0, .int 0, .int 0, .ref a6]))] H := hP
  have hD : va_D A [(a1, .inl (cs 0, 1383, .inl (fun _ => 0))), (a0, .inr (9, [.int 0, .ref a2, .int 0, .int 0, .int 0, .int 0, .int 0, .int (-1), .ref a3, .ref a4, .ref a1, .ref a5, .int 0, .int 0, .int 0, .int 0, .int 0, .ref a6]))] := hD
  refine lv_aload_n hx hb dX9_load_52 rfl (lv_at hl 0 rfl) ?_
  refine lv_iconst (v := (-1)) hx hb dX9_load_53 (by decide) ?_
  refine va_put (D := D) (ci := 9) (v := .int (-1)) (ty := .int) (C := RX9) (T := TX9) (N := 18) hx hb hts iX9_load_9 tyX9 tyX9_ok nmX9 hown hN.1 hP hD hS 1 rfl rfl 6 (by decide) (hts _ mX9_load_6) (fun _ h9 => h9) rfl (by decide +kernel) rfl rfl (Nat.le_of_ble_eq_true rfl) dX9_load_54 (fun H locs hP hD hS => ?_)
  have hP : va_P D vwCl [(a1, .inl (cs 0, 1383, .inl (fun _ => 0))), (a0, .inr (9, [.int 0, .ref a2, .int 0, .int 0, .int 0, .int 0, .int (-1), .int (-1), .ref a3, .ref a4, .ref a1, .ref a5, .int 0, .int 0, .int 0, .int 0, .int 0, .ref a6]))] H := hP
  have hD : va_D A [(a1, .inl (cs 0, 1383, .inl (fun _ => 0))), (a0, .inr (9, [.int 0, .ref a2, .int 0, .int 0, .int 0, .int 0, .int (-1), .int (-1), .ref a3, .ref a4, .ref a1, .ref a5, .int 0, .int 0, .int 0, .int 0, .int 0, .ref a6]))] := hD
  refine lv_aload_n hx hb dX9_load_57 rfl (lv_at hl 0 rfl) ?_
  refine lv_iconst (v := 0) hx hb dX9_load_58 (by decide) ?_
  refine va_put (D := D) (ci := 9) (v := .int 0) (ty := .int) (C := RX9) (T := TX9) (N := 18) hx hb hts iX9_load_9 tyX9 tyX9_ok nmX9 hown hN.1 hP hD hS 1 rfl rfl 14 (by decide) (hts _ mX9_load_7) (fun _ h9 => h9) rfl (by decide +kernel) rfl rfl (Nat.le_of_ble_eq_true rfl) dX9_load_59 (fun H locs hP hD hS => ?_)
  have hP : va_P D vwCl [(a1, .inl (cs 0, 1383, .inl (fun _ => 0))), (a0, .inr (9, [.int 0, .ref a2, .int 0, .int 0, .int 0, .int 0, .int (-1), .int (-1), .ref a3, .ref a4, .ref a1, .ref a5, .int 0, .int 0, .int 0, .int 0, .int 0, .ref a6]))] H := hP
  have hD : va_D A [(a1, .inl (cs 0, 1383, .inl (fun _ => 0))), (a0, .inr (9, [.int 0, .ref a2, .int 0, .int 0, .int 0, .int 0, .int (-1), .int (-1), .ref a3, .ref a4, .ref a1, .ref a5, .int 0, .int 0, .int 0, .int 0, .int 0, .ref a6]))] := hD
  refine lv_aload_n hx hb dX9_load_62 rfl (lv_at hl 0 rfl) ?_
  refine lv_iconst (v := 0) hx hb dX9_load_63 (by decide) ?_
  refine va_put (D := D) (ci := 9) (v := .int 0) (ty := .int) (C := RX9) (T := TX9) (N := 18) hx hb hts iX9_load_9 tyX9 tyX9_ok nmX9 hown hN.1 hP hD hS 1 rfl rfl 15 (by decide) (hts _ mX9_load_8) (fun _ h9 => h9) rfl (by decide +kernel) rfl rfl (Nat.le_of_ble_eq_true rfl) dX9_load_64 (fun H locs hP hD hS => ?_)
  have hP : va_P D vwCl [(a1, .inl (cs 0, 1383, .inl (fun _ => 0))), (a0, .inr (9, [.int 0, .ref a2, .int 0, .int 0, .int 0, .int 0, .int (-1), .int (-1), .ref a3, .ref a4, .ref a1, .ref a5, .int 0, .int 0, .int 0, .int 0, .int 0, .ref a6]))] H := hP
  have hD : va_D A [(a1, .inl (cs 0, 1383, .inl (fun _ => 0))), (a0, .inr (9, [.int 0, .ref a2, .int 0, .int 0, .int 0, .int 0, .int (-1), .int (-1), .ref a3, .ref a4, .ref a1, .ref a5, .int 0, .int 0, .int 0, .int 0, .int 0, .ref a6]))] := hD
  refine lv_aload_n hx hb dX9_load_67 rfl (lv_at hl 0 rfl) ?_
  refine lv_iconst (v := 0) hx hb dX9_load_68 (by decide) ?_
  refine va_put (D := D) (ci := 9) (v := .int 0) (ty := .int) (C := RX9) (T := TX9) (N := 18) hx hb hts iX9_load_9 tyX9 tyX9_ok nmX9 hown hN.1 hP hD hS 1 rfl rfl 16 (by decide) (hts _ mX9_load_9) (fun _ h9 => h9) rfl (by decide +kernel) rfl rfl (Nat.le_of_ble_eq_true rfl) dX9_load_69 (fun H locs hP hD hS => ?_)
  have hP : va_P D vwCl [(a1, .inl (cs 0, 1383, .inl (fun _ => 0))), (a0, .inr (9, [.int 0, .ref a2, .int 0, .int 0, .int 0, .int 0, .int (-1), .int (-1), .ref a3, .ref a4, .ref a1, .ref a5, .int 0, .int 0, .int 0, .int 0, .int 0, .ref a6]))] H := hP
  have hD : va_D A [(a1, .inl (cs 0, 1383, .inl (fun _ => 0))), (a0, .inr (9, [.int 0, .ref a2, .int 0, .int 0, .int 0, .int 0, .int (-1), .int (-1), .ref a3, .ref a4, .ref a1, .ref a5, .int 0, .int 0, .int 0, .int 0, .int 0, .ref a6]))] := hD
  refine lv_aload_n hx hb dX9_load_72 rfl (lv_at hl 0 rfl) ?_
  refine va_ldcS hx hb hown (hN.s 19 rfl) dX9_load_73 ?_
  refine czv_i (As := [.ref (cs 119)]) (rest := []) (b := a0) (wr := [(a1, .inl (cs 0, 1383, .inl (fun _ => 0)))]) ⟨hx, hb, hml, hown, hts⟩ (fun sz => k612_X9_takeWord l D cs sz a0 a2 a3 a4 a1 a5 a6) (cwV 1 hts gX9_load_X9_takeWord rfl rfl rfl hdX9_takeWord_v ⟨Nat.le_of_ble_eq_true rfl, Nat.le_of_ble_eq_true rfl⟩) hN hP hD hS hA hZS [1] [0] rfl rfl rfl rfl (by decide) (ci := 9) (q0 := 0) rfl rfl rfl rfl hl.1 (Nat.le_of_ble_eq_true rfl) dX9_load_75 (Nat.le_of_ble_eq_true rfl) (Nat.le_of_ble_eq_true rfl) (fun u2 H locs hP hD hS => ?_)
  have hP : va_P D vwCl [(a1, .inl (cs 0, 1383, .inl (fun _ => 0))), (a0, .inr (9, [.int 0, .ref a2, .int 0, .int 0, .int 0, .int 0, .int (-1), .int (-1), .ref a3, .ref a4, .ref a1, .ref a5, .int 0, .int 0, .int 0, .int 0, .int 0, .ref a6]))] H := hP
  have hD : va_D A [(a1, .inl (cs 0, 1383, .inl (fun _ => 0))), (a0, .inr (9, [.int 0, .ref a2, .int 0, .int 0, .int 0, .int 0, .int (-1), .int (-1), .ref a3, .ref a4, .ref a1, .ref a5, .int 0, .int 0, .int 0, .int 0, .int 0, .ref a6]))] := hD
  refine W.widen (k := 0) (n := 0) (Nat.le_of_ble_eq_true rfl) (Nat.le_of_ble_eq_true rfl) ?_
  refine lv_if_ne (tgt := 91) hx hb dX9_load_78 (by decide) (fun c9 => absurd (by decide) c9) (fun _ => ?_)
  refine lv_aload_n hx hb dX9_load_81 rfl (lv_at hl 0 rfl) ?_
  refine lv_bipush (v := (-2)) hx hb dX9_load_82 (by decide) ?_
  refine lv_aload_n hx hb dX9_load_84 rfl (lv_at hl 0 rfl) ?_
  refine va_get (D := D) (ci := 9) (v := .int 0) (C := RX9) (T := TX9) (N := 18) hx hb hts iX9_load_9 hown hN.1 hP 1 rfl rfl 4 (by decide) (hts _ mX9_load_4) (fun _ h9 => h9) rfl dX9_load_85 ?_
  refine cv_v (As := [.int (-2), .int 0]) (rest := []) (b := a0) (wr := [(a1, .inl (cs 0, 1383, .inl (fun _ => 0)))]) ⟨hx, hb, hml, hown, hts⟩ (fun sz => k613_X9_report l D cs sz a0 a2 a3 a4 a1 a5 a6) (cwV 2 hts gX9_load_X9_report rfl rfl rfl hdX9_report_v ⟨Nat.le_of_ble_eq_true rfl, Nat.le_of_ble_eq_true rfl⟩) hN hP hD hS hA [1] [0] rfl rfl rfl rfl (by decide) (ci := 9) (q0 := 0) rfl rfl rfl rfl hl.1 (Nat.le_of_ble_eq_true rfl) dX9_load_88 (Nat.le_of_ble_eq_true rfl) (Nat.le_of_ble_eq_true rfl) (fun u3 H locs hP hD hS => ?_)
  have hP : va_P D vwCl [(a1, .inl (cs 0, 1383, .inl (fun _ => 0))), (a0, .inr (9, [.int 0, .ref a2, .int 0, .int 0, .int 0, .int (-2), .int 0, .int (-1), .ref a3, .ref a4, .ref a1, .ref a5, .int 0, .int 0, .int 0, .int 0, .int 0, .ref a6]))] H := hP
  have hD : va_D A [(a1, .inl (cs 0, 1383, .inl (fun _ => 0))), (a0, .inr (9, [.int 0, .ref a2, .int 0, .int 0, .int 0, .int (-2), .int 0, .int (-1), .ref a3, .ref a4, .ref a1, .ref a5, .int 0, .int 0, .int 0, .int 0, .int 0, .ref a6]))] := hD
  refine W.widen (k := 0) (n := 0) (Nat.le_of_ble_eq_true rfl) (Nat.le_of_ble_eq_true rfl) ?_
  refine lv_aload_n hx hb dX9_load_91 rfl (lv_at hl 0 rfl) ?_
  refine lv_iconst (v := 1) hx hb dX9_load_92 (by decide) ?_
  refine lv_bipush (v := 8) hx hb dX9_load_93 (by decide) ?_
  refine cv_i (As := [.int 1, .int 8]) (rest := []) (b := a0) (wr := [(a1, .inl (cs 0, 1383, .inl (fun _ => 0)))]) ⟨hx, hb, hml, hown, hts⟩ (fun sz => k615_X9_number l D cs sz a0 a2 a3 a4 a1 a5 a6) (cwV 2 hts gX9_load_X9_number rfl rfl rfl hdX9_number_v ⟨Nat.le_of_ble_eq_true rfl, Nat.le_of_ble_eq_true rfl⟩) hN hP hD hS hA [1] [0] rfl rfl rfl rfl (by decide) (ci := 9) (q0 := 0) rfl rfl rfl rfl hl.1 (Nat.le_of_ble_eq_true rfl) dX9_load_95 (Nat.le_of_ble_eq_true rfl) (Nat.le_of_ble_eq_true rfl) (fun u4 H locs hP hD hS => ?_)
  have hP : va_P D vwCl [(a1, .inl (cs 0, 1383, .inl (fun _ => 0))), (a0, .inr (9, [.int 0, .ref a2, .int 0, .int 0, .int 0, .int (-2), .int 0, .int (-1), .ref a3, .ref a4, .ref a1, .ref a5, .int 0, .int 0, .int 0, .int 0, .int 0, .ref a6]))] H := hP
  have hD : va_D A [(a1, .inl (cs 0, 1383, .inl (fun _ => 0))), (a0, .inr (9, [.int 0, .ref a2, .int 0, .int 0, .int 0, .int (-2), .int 0, .int (-1), .ref a3, .ref a4, .ref a1, .ref a5, .int 0, .int 0, .int 0, .int 0, .int 0, .ref a6]))] := hD
  refine W.widen (k := 0) (n := 0) (Nat.le_of_ble_eq_true rfl) (Nat.le_of_ble_eq_true rfl) ?_
  refine lv_istore_n (lv' := [(2, .int 0), (0, .ref a0), (1, .int 0)]) hx hb dX9_load_98 rfl hl (by decide) rfl (fun ls hl => ?_)
  refine lv_aload_n hx hb dX9_load_99 rfl (lv_at hl 1 rfl) ?_
  refine va_get (D := D) (ci := 9) (v := .ref a1) (C := RX9) (T := TX9) (N := 18) hx hb hts iX9_load_9 hown hN.1 hP 1 rfl rfl 10 (by decide) (hts _ mX9_load_10) (fun _ h9 => h9) rfl dX9_load_100 ?_
  refine lv_iload_n hx hb dX9_load_103 rfl (lv_at hl 0 rfl) ?_
  refine cs_v (As := [.ref a1, .int 0]) (rest := []) (wr := [(a0, .inr (9, [.int 0, .ref a2, .int 0, .int 0, .int 0, .int (-2), .int 0, .int (-1), .ref a3, .ref a4, .ref a1, .ref a5, .int 0, .int 0, .int 0, .int 0, .int 0, .ref a6]))]) ⟨hx, hb, hml, hown, hts⟩ (fun sz => k616_X9_layPlayers l D cs sz a1) (va_cwS 2 hts gX9_load_X9_layPlayers rfl rfl rfl hdX9_layPlayers_o ⟨Nat.le_of_ble_eq_true rfl, Nat.le_of_ble_eq_true rfl⟩) hN hP hD hS hA [0] [1] rfl rfl rfl rfl (by decide) rfl rfl hl.1 (Nat.le_of_ble_eq_true rfl) dX9_load_104 (Nat.le_of_ble_eq_true rfl) (Nat.le_of_ble_eq_true rfl) (fun u5 H locs hP hD hS => ?_)
  have hP : va_P D vwCl [(a0, .inr (9, [.int 0, .ref a2, .int 0, .int 0, .int 0, .int (-2), .int 0, .int (-1), .ref a3, .ref a4, .ref a1, .ref a5, .int 0, .int 0, .int 0, .int 0, .int 0, .ref a6])), (a1, .inl (cs 0, 1383, .inl (upd (upd (upd (upd (upd (upd (upd (upd (upd (upd (upd (upd (upd (upd (upd (upd (upd (upd (upd (upd (upd (upd (upd (upd (upd (upd (upd (fun _ => 0) 12 50) 21 (-1)) 22 (-1)) 23 1) 29 (-1)) 34 (-1)) 35 1) 41 (-1)) 46 (-1)) 47 1) 53 (-1)) 58 (-1)) 59 1) 65 (-1)) 70 (-1)) 71 1) 77 (-1)) 82 (-1)) 83 1) 89 (-1)) 94 (-1)) 95 1) 101 (-1)) 106 (-1)) 107 1) 113 (-1)) 118 (-1))))] H := hP
  have hD : va_D A [(a0, .inr (9, [.int 0, .ref a2, .int 0, .int 0, .int 0, .int (-2), .int 0, .int (-1), .ref a3, .ref a4, .ref a1, .ref a5, .int 0, .int 0, .int 0, .int 0, .int 0, .ref a6])), (a1, .inl (cs 0, 1383, .inl (upd (upd (upd (upd (upd (upd (upd (upd (upd (upd (upd (upd (upd (upd (upd (upd (upd (upd (upd (upd (upd (upd (upd (upd (upd (upd (upd (fun _ => 0) 12 50) 21 (-1)) 22 (-1)) 23 1) 29 (-1)) 34 (-1)) 35 1) 41 (-1)) 46 (-1)) 47 1) 53 (-1)) 58 (-1)) 59 1) 65 (-1)) 70 (-1)) 71 1) 77 (-1)) 82 (-1)) 83 1) 89 (-1)) 94 (-1)) 95 1) 101 (-1)) 106 (-1)) 107 1) 113 (-1)) 118 (-1))))] := hD
  refine W.widen (k := 0) (n := 0) (Nat.le_of_ble_eq_true rfl) (Nat.le_of_ble_eq_true rfl) ?_
  refine lv_aload_n hx hb dX9_load_107 rfl (lv_at hl 1 rfl) ?_
  refine lv_bipush (v := 59) hx hb dX9_load_108 (by decide) ?_
  refine cv_v (As := [.int 59]) (rest := []) (b := a0) (wr := [(a1, .inl (cs 0, 1383, .inl (upd (upd (upd (upd (upd (upd (upd (upd (upd (upd (upd (upd (upd (upd (upd (upd (upd (upd (upd (upd (upd (upd (upd (upd (upd (upd (upd (fun _ => 0) 12 50) 21 (-1)) 22 (-1)) 23 1) 29 (-1)) 34 (-1)) 35 1) 41 (-1)) 46 (-1)) 47 1) 53 (-1)) 58 (-1)) 59 1) 65 (-1)) 70 (-1)) 71 1) 77 (-1)) 82 (-1)) 83 1) 89 (-1)) 94 (-1)) 95 1) 101 (-1)) 106 (-1)) 107 1) 113 (-1)) 118 (-1))))]) ⟨hx, hb, hml, hown, hts⟩ (fun sz => k617_X9_expect l D cs sz a0 a2 a3 a4 a1 a5 a6) (cwV 1 hts gX9_load_X9_expect rfl rfl rfl hdX9_expect_v ⟨Nat.le_of_ble_eq_true rfl, Nat.le_of_ble_eq_true rfl⟩) hN hP hD hS hA [0] [1] rfl rfl rfl rfl (by decide) (ci := 9) (q0 := 0) rfl rfl rfl rfl hl.1 (Nat.le_of_ble_eq_true rfl) dX9_load_110 (Nat.le_of_ble_eq_true rfl) (Nat.le_of_ble_eq_true rfl) (fun u6 H locs hP hD hS => ?_)
  have hP : va_P D vwCl [(a1, .inl (cs 0, 1383, .inl (upd (upd (upd (upd (upd (upd (upd (upd (upd (upd (upd (upd (upd (upd (upd (upd (upd (upd (upd (upd (upd (upd (upd (upd (upd (upd (upd (fun _ => 0) 12 50) 21 (-1)) 22 (-1)) 23 1) 29 (-1)) 34 (-1)) 35 1) 41 (-1)) 46 (-1)) 47 1) 53 (-1)) 58 (-1)) 59 1) 65 (-1)) 70 (-1)) 71 1) 77 (-1)) 82 (-1)) 83 1) 89 (-1)) 94 (-1)) 95 1) 101 (-1)) 106 (-1)) 107 1) 113 (-1)) 118 (-1)))), (a0, .inr (9, [.int 0, .ref a2, .int 0, .int 0, .int 0, .int (-2), .int 0, .int (-1), .ref a3, .ref a4, .ref a1, .ref a5, .int 0, .int 0, .int 0, .int 0, .int 0, .ref a6]))] H := hP
  have hD : va_D A [(a1, .inl (cs 0, 1383, .inl (upd (upd (upd (upd (upd (upd (upd (upd (upd (upd (upd (upd (upd (upd (upd (upd (upd (upd (upd (upd (upd (upd (upd (upd (upd (upd (upd (fun _ => 0) 12 50) 21 (-1)) 22 (-1)) 23 1) 29 (-1)) 34 (-1)) 35 1) 41 (-1)) 46 (-1)) 47 1) 53 (-1)) 58 (-1)) 59 1) 65 (-1)) 70 (-1)) 71 1) 77 (-1)) 82 (-1)) 83 1) 89 (-1)) 94 (-1)) 95 1) 101 (-1)) 106 (-1)) 107 1) 113 (-1)) 118 (-1)))), (a0, .inr (9, [.int 0, .ref a2, .int 0, .int 0, .int 0, .int (-2), .int 0, .int (-1), .ref a3, .ref a4, .ref a1, .ref a5, .int 0, .int 0, .int 0, .int 0, .int 0, .ref a6]))] := hD
  refine W.widen (k := 0) (n := 0) (Nat.le_of_ble_eq_true rfl) (Nat.le_of_ble_eq_true rfl) ?_
  refine lv_aload_n hx hb dX9_load_113 rfl (lv_at hl 1 rfl) ?_
  refine cv_i (As := []) (rest := []) (b := a0) (wr := [(a1, .inl (cs 0, 1383, .inl (upd (upd (upd (upd (upd (upd (upd (upd (upd (upd (upd (upd (upd (upd (upd (upd (upd (upd (upd (upd (upd (upd (upd (upd (upd (upd (upd (fun _ => 0) 12 50) 21 (-1)) 22 (-1)) 23 1) 29 (-1)) 34 (-1)) 35 1) 41 (-1)) 46 (-1)) 47 1) 53 (-1)) 58 (-1)) 59 1) 65 (-1)) 70 (-1)) 71 1) 77 (-1)) 82 (-1)) 83 1) 89 (-1)) 94 (-1)) 95 1) 101 (-1)) 106 (-1)) 107 1) 113 (-1)) 118 (-1))))]) ⟨hx, hb, hml, hown, hts⟩ (fun sz => k614_X9_isGood l D cs sz a0 a2 a3 a4 a1 a5 a6) (cwV 0 hts gX9_load_X9_isGood rfl rfl rfl hdX9_isGood_v ⟨Nat.le_of_ble_eq_true rfl, Nat.le_of_ble_eq_true rfl⟩) hN hP hD hS hA [1] [0] rfl rfl rfl rfl (by decide) (ci := 9) (q0 := 0) rfl rfl rfl rfl hl.1 (Nat.le_of_ble_eq_true rfl) dX9_load_114 (Nat.le_of_ble_eq_true rfl) (Nat.le_of_ble_eq_true rfl) (fun u7 H locs hP hD hS => ?_)
  have hP : va_P D vwCl [(a1, .inl (cs 0, 1383, .inl (upd (upd (upd (upd (upd (upd (upd (upd (upd (upd (upd (upd (upd (upd (upd (upd (upd (upd (upd (upd (upd (upd (upd (upd (upd (upd (upd (fun _ => 0) 12 50) 21 (-1)) 22 (-1)) 23 1) 29 (-1)) 34 (-1)) 35 1) 41 (-1)) 46 (-1)) 47 1) 53 (-1)) 58 (-1)) 59 1) 65 (-1)) 70 (-1)) 71 1) 77 (-1)) 82 (-1)) 83 1) 89 (-1)) 94 (-1)) 95 1) 101 (-1)) 106 (-1)) 107 1) 113 (-1)) 118 (-1)))), (a0, .inr (9, [.int 0, .ref a2, .int 0, .int 0, .int 0, .int (-2), .int 0, .int (-1), .ref a3, .ref a4, .ref a1, .ref a5, .int 0, .int 0, .int 0, .int 0, .int 0, .ref a6]))] H := hP
  have hD : va_D A [(a1, .inl (cs 0, 1383, .inl (upd (upd (upd (upd (upd (upd (upd (upd (upd (upd (upd (upd (upd (upd (upd (upd (upd (upd (upd (upd (upd (upd (upd (upd (upd (upd (upd (fun _ => 0) 12 50) 21 (-1)) 22 (-1)) 23 1) 29 (-1)) 34 (-1)) 35 1) 41 (-1)) 46 (-1)) 47 1) 53 (-1)) 58 (-1)) 59 1) 65 (-1)) 70 (-1)) 71 1) 77 (-1)) 82 (-1)) 83 1) 89 (-1)) 94 (-1)) 95 1) 101 (-1)) 106 (-1)) 107 1) 113 (-1)) 118 (-1)))), (a0, .inr (9, [.int 0, .ref a2, .int 0, .int 0, .int 0, .int (-2), .int 0, .int (-1), .ref a3, .ref a4, .ref a1, .ref a5, .int 0, .int 0, .int 0, .int 0, .int 0, .ref a6]))] := hD
  refine W.widen (k := 0) (n := 0) (Nat.le_of_ble_eq_true rfl) (Nat.le_of_ble_eq_true rfl) ?_
  refine lv_if_eq (tgt := 135) hx hb dX9_load_117 (by decide) (fun _ => ?_) (fun c9 => absurd (by decide) c9)
  refine lv_aload_n hx hb dX9_load_135 rfl (lv_at hl 1 rfl) ?_
  refine lv_aload_n hx hb dX9_load_136 rfl (lv_at hl 1 rfl) ?_
  refine va_get (D := D) (ci := 9) (v := .int 0) (C := RX9) (T := TX9) (N := 18) hx hb hts iX9_load_9 hown hN.1 hP 1 rfl rfl 6 (by decide) (hts _ mX9_load_6) (fun _ h9 => h9) rfl dX9_load_137 ?_
  refine va_put (D := D) (ci := 9) (v := .int 0) (ty := .int) (C := RX9) (T := TX9) (N := 18) hx hb hts iX9_load_9 tyX9 tyX9_ok nmX9 hown hN.1 hP hD hS 1 rfl rfl 7 (by decide) (hts _ mX9_load_11) (fun _ h9 => h9) rfl (by decide +kernel) rfl rfl (Nat.le_of_ble_eq_true rfl) dX9_load_140 (fun H locs hP hD hS => ?_)
  have hP : va_P D vwCl [(a1, .inl (cs 0, 1383, .inl (upd (upd (upd (upd (upd (upd (upd (upd (upd (upd (upd (upd (upd (upd (upd (upd (upd (upd (upd (upd (upd (upd (upd (upd (upd (upd (upd (fun _ => 0) 12 50) 21 (-1)) 22 (-1)) 23 1) 29 (-1)) 34 (-1)) 35 1) 41 (-1)) 46 (-1)) 47 1) 53 (-1)) 58 (-1)) 59 1) 65 (-1)) 70 (-1)) 71 1) 77 (-1)) 82 (-1)) 83 1) 89 (-1)) 94 (-1)) 95 1) 101 (-1)) 106 (-1)) 107 1) 113 (-1)) 118 (-1)))), (a0, .inr (9, [.int 0, .ref a2, .int 0, .int 0, .int 0, .int (-2), .int 0, .int 0, .ref a3, .ref a4, .ref a1, .ref a5, .int 0, .int 0, .int 0, .int 0, .int 0, .ref a6]))] H := hP
  have hD : va_D A [(a1, .inl (cs 0, 1383, .inl (upd (upd (upd (upd (upd (upd (upd (upd (upd (upd (upd (upd (upd (upd (upd (upd (upd (upd (upd (upd (upd (upd (upd (upd (upd (upd (upd (fun _ => 0) 12 50) 21 (-1)) 22 (-1)) 23 1) 29 (-1)) 34 (-1)) 35 1) 41 (-1)) 46 (-1)) 47 1) 53 (-1)) 58 (-1)) 59 1) 65 (-1)) 70 (-1)) 71 1) 77 (-1)) 82 (-1)) 83 1) 89 (-1)) 94 (-1)) 95 1) 101 (-1)) 106 (-1)) 107 1) 113 (-1)) 118 (-1)))), (a0, .inr (9, [.int 0, .ref a2, .int 0, .int 0, .int 0, .int (-2), .int 0, .int 0, .ref a3, .ref a4, .ref a1, .ref a5, .int 0, .int 0, .int 0, .int 0, .int 0, .ref a6]))] := hD
  refine lv_aload_n hx hb dX9_load_143 rfl (lv_at hl 1 rfl) ?_
  refine cv_i (As := []) (rest := []) (b := a0) (wr := [(a1, .inl (cs 0, 1383, .inl (upd (upd (upd (upd (upd (upd (upd (upd (upd (upd (upd (upd (upd (upd (upd (upd (upd (upd (upd (upd (upd (upd (upd (upd (upd (upd (upd (fun _ => 0) 12 50) 21 (-1)) 22 (-1)) 23 1) 29 (-1)) 34 (-1)) 35 1) 41 (-1)) 46 (-1)) 47 1) 53 (-1)) 58 (-1)) 59 1) 65 (-1)) 70 (-1)) 71 1) 77 (-1)) 82 (-1)) 83 1) 89 (-1)) 94 (-1)) 95 1) 101 (-1)) 106 (-1)) 107 1) 113 (-1)) 118 (-1))))]) ⟨hx, hb, hml, hown, hts⟩ (fun sz => k618_X9_isGood l D cs sz a0 a2 a3 a4 a1 a5 a6) (cwV 0 hts gX9_load_X9_isGood rfl rfl rfl hdX9_isGood_v ⟨Nat.le_of_ble_eq_true rfl, Nat.le_of_ble_eq_true rfl⟩) hN hP hD hS hA [1] [0] rfl rfl rfl rfl (by decide) (ci := 9) (q0 := 0) rfl rfl rfl rfl hl.1 (Nat.le_of_ble_eq_true rfl) dX9_load_144 (Nat.le_of_ble_eq_true rfl) (Nat.le_of_ble_eq_true rfl) (fun u8 H locs hP hD hS => ?_)
  have hP : va_P D vwCl [(a1, .inl (cs 0, 1383, .inl (upd (upd (upd (upd (upd (upd (upd (upd (upd (upd (upd (upd (upd (upd (upd (upd (upd (upd (upd (upd (upd (upd (upd (upd (upd (upd (upd (fun _ => 0) 12 50) 21 (-1)) 22 (-1)) 23 1) 29 (-1)) 34 (-1)) 35 1) 41 (-1)) 46 (-1)) 47 1) 53 (-1)) 58 (-1)) 59 1) 65 (-1)) 70 (-1)) 71 1) 77 (-1)) 82 (-1)) 83 1) 89 (-1)) 94 (-1)) 95 1) 101 (-1)) 106 (-1)) 107 1) 113 (-1)) 118 (-1)))), (a0, .inr (9, [.int 0, .ref a2, .int 0, .int 0, .int 0, .int (-2), .int 0, .int 0, .ref a3, .ref a4, .ref a1, .ref a5, .int 0, .int 0, .int 0, .int 0, .int 0, .ref a6]))] H := hP
  have hD : va_D A [(a1, .inl (cs 0, 1383, .inl (upd (upd (upd (upd (upd (upd (upd (upd (upd (upd (upd (upd (upd (upd (upd (upd (upd (upd (upd (upd (upd (upd (upd (upd (upd (upd (upd (fun _ => 0) 12 50) 21 (-1)) 22 (-1)) 23 1) 29 (-1)) 34 (-1)) 35 1) 41 (-1)) 46 (-1)) 47 1) 53 (-1)) 58 (-1)) 59 1) 65 (-1)) 70 (-1)) 71 1) 77 (-1)) 82 (-1)) 83 1) 89 (-1)) 94 (-1)) 95 1) 101 (-1)) 106 (-1)) 107 1) 113 (-1)) 118 (-1)))), (a0, .inr (9, [.int 0, .ref a2, .int 0, .int 0, .int 0, .int (-2), .int 0, .int 0, .ref a3, .ref a4, .ref a1, .ref a5, .int 0, .int 0, .int 0, .int 0, .int 0, .ref a6]))] := hD
  refine W.widen (k := 0) (n := 0) (Nat.le_of_ble_eq_true rfl) (Nat.le_of_ble_eq_true rfl) ?_
  refine lv_if_ne (tgt := 155) hx hb dX9_load_147 (by decide) (fun c9 => absurd (by decide) c9) (fun _ => ?_)
  refine lv_aload_n hx hb dX9_load_150 rfl (lv_at hl 1 rfl) ?_
  refine va_get (D := D) (ci := 9) (v := .int (-2)) (C := RX9) (T := TX9) (N := 18) hx hb hts iX9_load_9 hown hN.1 hP 1 rfl rfl 5 (by decide) (hts _ mX9_load_5) (fun _ h9 => h9) rfl dX9_load_151 ?_
  exact en_i (fun k => ([] : List Nat).getD k 0) hx hb hr hlocks rfl rfl hP hD hS (Nat.le_of_ble_eq_true rfl) (Nat.le_of_ble_eq_true rfl) dX9_load_154
set_option maxHeartbeats 4000000 in
set_option maxRecDepth 100000 in
theorem k620_X9_thrown (l : Launch) (D : va_G) (cs : Nat → ClassId) (sz : Nat) (a0 a1 a2 a3 a4 a5 a6 : Nat) : KI l yX9_thrown wsX9_thrown 0 0 0 0 D cs sz [.ref a0] [(a0, .inr (9, [.int 0, .ref a1, .int 0, .int 0, .int 0, .int (-2), .int 0, .int 0, .ref a2, .ref a3, .ref a4, .ref a5, .int 0, .int 0, .int 0, .int 0, .int 0, .ref a6]))] (fun u => [(a0, .inr (9, [.int 0, .ref a1, .int 0, .int 0, .int 0, .int (-2), .int 0, .int 0, .ref a2, .ref a3, .ref a4, .ref a5, .int 0, .int 0, .int 0, .int 0, .int 0, .ref a6]))]) (0) := by
  refine KI.of cX9_thrown 1 (some .int) (by decide) rfl (Nat.le_of_ble_eq_true rfl) ?_
  intro p e s m below meth c A ls hx hb hr hml hown hts hlocks hin hP hN hD hA hS hl
  have hown : s.vm.findClass RX9 = some m.cls := hown
  have hl : lv_has ls 1 [(0, .ref a0)] := hl
  refine lv_aload_n hx hb dX9_thrown_0 rfl (lv_at hl 0 rfl) ?_
  refine va_get (D := D) (ci := 9) (v := .int 0) (C := RX9) (T := TX9) (N := 18) hx hb hts iX9_thrown_9 hown hN.1 hP 0 rfl rfl 0 (by decide) (hts _ mX9_thrown_1) (fun _ h9 => h9) rfl dX9_thrown_1 ?_
  exact en_i (fun k => ([] : List Nat).getD k 0) hx hb hr hlocks rfl rfl hP hD hS (Nat.le_of_ble_eq_true rfl) (Nat.le_of_ble_eq_true rfl) dX9_thrown_4
theorem hdL_load_o : yL_load.cls ≠ "java/lang/invoke/MethodHandle" ∧ yL_load.cls ≠ "java/lang/invoke/VarHandle" ∧ (parseMethodDescriptor yL_load.desc).map (fun d => d.parameters.length) = some 3 := by decide +kernel
theorem hdX9_load_v : yX9_load.cls = RX9 ∧ yX9_load.cls ≠ "java/lang/invoke/MethodHandle" ∧ yX9_load.cls ≠ "java/lang/invoke/VarHandle" ∧ (parseMethodDescriptor yX9_load.desc).map (fun d => d.parameters.length) = some 1 := by decide +kernel
set_option maxHeartbeats 4000000 in
set_option maxRecDepth 100000 in
theorem law_1_0 {p : Program} {l : Launch} {e : Env} {s : State} {m : MethodId} {args : Array Value} {below : List Frame} {meth : Method} {c : Code} {Q : State → Prop} {D : va_G} {cs : Nat → ClassId} {A : Nat → Prop} {xs : Nat → Int32} {b : Nat} (hx : p.tables.exec = Jvm.exec) (hb : c.code = cL_law) (hml : c.maxLocals = 9) (hown : s.vm.findClass RL = some m.cls) (hts : ∀ w ∈ wsL_law, w.before args s = true) (hN : NK D cs s) (hX : va_X b 6 xs s s.heap) (hbl : b < s.heap.size) (hbA : ¬ A b) (hA : ∀ q : Nat, s.heap.size ≤ q → A q) (hZ : ZX A s s.heap) (hZS : ZS cs A s s.heap) (hlt : l.stackTraces = false)
    (kend : ∀ (H : Heap) (locs : List Loc) (ls : Array Slot), va_S A s.heap H locs → lv_has ls 9 [(0, .ref b), (4, .int 0)] → W p l e room_1 s m args below meth c H locs 600002 7302232 Q (F0 m 1169 ls []))
    (a0 a1 a2 a3 a4 a5 a6 a7 a8 a9 a10 a11 a12 a13 a14 : Nat) (hy1 : xs 1 = (0))  (H : Heap) (locs : List Loc) (ls : Array Slot) (hP : va_P D vwCl [(a0, .inr (8, [.ref a1, .ref a6, .ref a7, .ref a8, .int 0, .int 0, .int (-1)])), (a1, .inr (5, [.ref a2, .int 0, .int 0, .int 0, .int 0, .int 0, .int 0, .int 0, .int 0, .ref a9, .int 0, .null, .int 0, .int 0])), (a2, .inl (cs 1, 600, .inl (fun _ => 0))), (a3, .inr (9, [.int 0, .ref a10, .int 0, .int 0, .int 0, .int 0, .int 0, .int (-1), .ref a11, .ref a12, .ref a4, .ref a13, .int 0, .int 0, .int 0, .int 0, .int 0, .ref a14])), (a4, .inl (cs 0, 1383, .inl (fun _ => 0))), (a5, .inl (cs 3, 1, .inr (.inl (fun _ => 0))))] H) (hD : va_D A [(a0, .inr (8, [.ref a1, .ref a6, .ref a7, .ref a8, .int 0, .int 0, .int (-1)])), (a1, .inr (5, [.ref a2, .int 0, .int 0, .int 0, .int 0, .int 0, .int 0, .int 0, .int 0, .ref a9, .int 0, .null, .int 0, .int 0])), (a2, .inl (cs 1, 600, .inl (fun _ => 0))), (a3, .inr (9, [.int 0, .ref a10, .int 0, .int 0, .int 0, .int 0, .int 0, .int (-1), .ref a11, .ref a12, .ref a4, .ref a13, .int 0, .int 0, .int 0, .int 0, .int 0, .ref a14])), (a4, .inl (cs 0, 1383, .inl (fun _ => 0))), (a5, .inl (cs 3, 1, .inr (.inl (fun _ => 0))))]) (hS : va_S A s.heap H locs) (hl : lv_has ls 9 [(4, .int 0), (3, .ref a5), (2, .ref a3), (1, .ref a0), (0, .ref b)]) : W p l e room_1 s m args below meth c H locs 391 467079 Q (F0 m 209 ls []) := by
  refine lv_aload_n hx hb dL_law_209 rfl (lv_at hl 3 rfl) ?_
  refine lv_aload_n hx hb dL_law_210 rfl (lv_at hl 4 rfl) ?_
  refine lv_iload hx hb dL_law_211 (lv_at hl 0 rfl) ?_
  refine lv_iconst (v := 1) hx hb dL_law_213 (by decide) ?_
  refine lv_iadd hx hb dL_law_214 ?_
  refine tp_i (1) (by decide) ?_
  refine va_sld hx hb hX hbl hbA hS (vin (by decide +kernel)) dL_law_215 ?_
  refine tp_i (0) hy1 ?_
  refine lv_aload_n hx hb dL_law_216 rfl (lv_at hl 1 rfl) ?_
  refine ch_i (As := [.ref a0, .int 0, .ref a5]) (rest := []) (wr := [(a3, .inr (9, [.int 0, .ref a10, .int 0, .int 0, .int 0, .int 0, .int 0, .int (-1), .ref a11, .ref a12, .ref a4, .ref a13, .int 0, .int 0, .int 0, .int 0, .int 0, .ref a14])), (a4, .inl (cs 0, 1383, .inl (fun _ => 0)))]) ⟨hx, hb, hml, hown, hts⟩ (fun sz => k603_L_load l D cs sz hlt a0 a1 a2 a5 a6 a7 a8 a9) (vx_cwSW 3 hts gL_law_L_load rfl rfl rfl hdL_load_o ⟨Nat.le_of_ble_eq_true rfl, Nat.le_of_ble_eq_true rfl⟩) hN hP hD hS hA hZ [0, 1, 2, 5] [3, 4] rfl rfl rfl rfl (by decide) rfl rfl hl.1 (Nat.le_of_ble_eq_true rfl) dL_law_217 (Nat.le_of_ble_eq_true rfl) (Nat.le_of_ble_eq_true rfl) (fun u0 H locs hP hD hS => ?_)
  have hP : va_P D vwCl [(a3, .inr (9, [.int 0, .ref a10, .int 0, .int 0, .int 0, .int 0, .int 0, .int (-1), .ref a11, .ref a12, .ref a4, .ref a13, .int 0, .int 0, .int 0, .int 0, .int 0, .ref a14])), (a4, .inl (cs 0, 1383, .inl (fun _ => 0))), (a5, .inl (cs 3, 1, .inr (.inl (vp_updL (fun _ => 0) 0 (-2))))), (a0, .inr (8, [.ref a1, .ref a6, .ref a7, .ref a8, .int 0, .int 0, .int 0])), (a2, .inl (cs 1, 600, .inl (fun _ => 0))), (a1, .inr (5, [.ref a2, .int 0, .int 0, .int 0, .int 0, .int 0, .int 0, .int 0, .int 0, .ref a9, .int 0, .null, .int (-2), .int 0]))] H := hP
  have hD : va_D A [(a3, .inr (9, [.int 0, .ref a10, .int 0, .int 0, .int 0, .int 0, .int 0, .int (-1), .ref a11, .ref a12, .ref a4, .ref a13, .int 0, .int 0, .int 0, .int 0, .int 0, .ref a14])), (a4, .inl (cs 0, 1383, .inl (fun _ => 0))), (a5, .inl (cs 3, 1, .inr (.inl (vp_updL (fun _ => 0) 0 (-2))))), (a0, .inr (8, [.ref a1, .ref a6, .ref a7, .ref a8, .int 0, .int 0, .int 0])), (a2, .inl (cs 1, 600, .inl (fun _ => 0))), (a1, .inr (5, [.ref a2, .int 0, .int 0, .int 0, .int 0, .int 0, .int 0, .int 0, .int 0, .ref a9, .int 0, .null, .int (-2), .int 0]))] := hD
  refine W.widen (k := 391) (n := 467079) (Nat.le_of_ble_eq_true rfl) (Nat.le_of_ble_eq_true rfl) ?_
  refine lv_istore (lv' := [(5, .int 0), (4, .int 0), (3, .ref a5), (2, .ref a3), (1, .ref a0), (0, .ref b)]) hx hb dL_law_220 hl (by decide) rfl (fun ls hl => ?_)
  refine lv_aload_n hx hb dL_law_222 rfl (lv_at hl 3 rfl) ?_
  refine lv_aload_n hx hb dL_law_223 rfl (lv_at hl 5 rfl) ?_
  refine lv_iload hx hb dL_law_224 (lv_at hl 1 rfl) ?_
  refine lv_iconst (v := 1) hx hb dL_law_226 (by decide) ?_
  refine lv_iadd hx hb dL_law_227 ?_
  refine tp_i (1) (by decide) ?_
  refine va_sld hx hb hX hbl hbA hS (vin (by decide +kernel)) dL_law_228 ?_
  refine tp_i (0) hy1 ?_
  refine czv_i (As := [.int 0]) (rest := []) (b := a3) (wr := [(a5, .inl (cs 3, 1, .inr (.inl (vp_updL (fun _ => 0) 0 (-2))))), (a0, .inr (8, [.ref a1, .ref a6, .ref a7, .ref a8, .int 0, .int 0, .int 0])), (a2, .inl (cs 1, 600, .inl (fun _ => 0))), (a1, .inr (5, [.ref a2, .int 0, .int 0, .int 0, .int 0, .int 0, .int 0, .int 0, .int 0, .ref a9, .int 0, .null, .int (-2), .int 0]))]) ⟨hx, hb, hml, hown, hts⟩ (fun sz => k619_X9_load l D cs sz a3 a4 a10 a11 a12 a13 a14) (cwV 1 hts gL_law_X9_load rfl rfl rfl hdX9_load_v ⟨Nat.le_of_ble_eq_true rfl, Nat.le_of_ble_eq_true rfl⟩) hN hP hD hS hA hZS [0, 1] [2, 3, 4, 5] rfl rfl rfl rfl (by decide) (ci := 9) (q0 := 0) rfl rfl rfl rfl hl.1 (Nat.le_of_ble_eq_true rfl) dL_law_229 (Nat.le_of_ble_eq_true rfl) (Nat.le_of_ble_eq_true rfl) (fun u1 H locs hP hD hS => ?_)
  have hP : va_P D vwCl [(a5, .inl (cs 3, 1, .inr (.inl (vp_updL (fun _ => 0) 0 (-2))))), (a0, .inr (8, [.ref a1, .ref a6, .ref a7, .ref a8, .int 0, .int 0, .int 0])), (a2, .inl (cs 1, 600, .inl (fun _ => 0))), (a1, .inr (5, [.ref a2, .int 0, .int 0, .int 0, .int 0, .int 0, .int 0, .int 0, .int 0, .ref a9, .int 0, .null, .int (-2), .int 0])), (a4, .inl (cs 0, 1383, .inl (upd (upd (upd (upd (upd (upd (upd (upd (upd (upd (upd (upd (upd (upd (upd (upd (upd (upd (upd (upd (upd (upd (upd (upd (upd (upd (upd (fun _ => 0) 12 50) 21 (-1)) 22 (-1)) 23 1) 29 (-1)) 34 (-1)) 35 1) 41 (-1)) 46 (-1)) 47 1) 53 (-1)) 58 (-1)) 59 1) 65 (-1)) 70 (-1)) 71 1) 77 (-1)) 82 (-1)) 83 1) 89 (-1)) 94 (-1)) 95 1) 101 (-1)) 106 (-1)) 107 1) 113 (-1)) 118 (-1)))), (a3, .inr (9, [.int 0, .ref a10, .int 0, .int 0, .int 0, .int (-2), .int 0, .int 0, .ref a11, .ref a12, .ref a4, .ref a13, .int 0, .int 0, .int 0, .int 0, .int 0, .ref a14]))] H := hP
  have hD : va_D A [(a5, .inl (cs 3, 1, .inr (.inl (vp_updL (fun _ => 0) 0 (-2))))), (a0, .inr (8, [.ref a1, .ref a6, .ref a7, .ref a8, .int 0, .int 0, .int 0])), (a2, .inl (cs 1, 600, .inl (fun _ => 0))), (a1, .inr (5, [.ref a2, .int 0, .int 0, .int 0, .int 0, .int 0, .int 0, .int 0, .int 0, .ref a9, .int 0, .null, .int (-2), .int 0])), (a4, .inl (cs 0, 1383, .inl (upd (upd (upd (upd (upd (upd (upd (upd (upd (upd (upd (upd (upd (upd (upd (upd (upd (upd (upd (upd (upd (upd (upd (upd (upd (upd (upd (fun _ => 0) 12 50) 21 (-1)) 22 (-1)) 23 1) 29 (-1)) 34 (-1)) 35 1) 41 (-1)) 46 (-1)) 47 1) 53 (-1)) 58 (-1)) 59 1) 65 (-1)) 70 (-1)) 71 1) 77 (-1)) 82 (-1)) 83 1) 89 (-1)) 94 (-1)) 95 1) 101 (-1)) 106 (-1)) 107 1) 113 (-1)) 118 (-1)))), (a3, .inr (9, [.int 0, .ref a10, .int 0, .int 0, .int 0, .int (-2), .int 0, .int 0, .ref a11, .ref a12, .ref a4, .ref a13, .int 0, .int 0, .int 0, .int 0, .int 0, .ref a14]))] := hD
  refine W.widen (k := 391) (n := 467079) (Nat.le_of_ble_eq_true rfl) (Nat.le_of_ble_eq_true rfl) ?_
  refine lv_istore (lv' := [(6, .int (-2)), (5, .int 0), (4, .int 0), (3, .ref a5), (2, .ref a3), (1, .ref a0), (0, .ref b)]) hx hb dL_law_232 hl (by decide) rfl (fun ls hl => ?_)
  refine lv_aload_n hx hb dL_law_234 rfl (lv_at hl 4 rfl) ?_
  refine cv_i (As := []) (rest := []) (b := a3) (wr := [(a5, .inl (cs 3, 1, .inr (.inl (vp_updL (fun _ => 0) 0 (-2))))), (a0, .inr (8, [.ref a1, .ref a6, .ref a7, .ref a8, .int 0, .int 0, .int 0])), (a2, .inl (cs 1, 600, .inl (fun _ => 0))), (a1, .inr (5, [.ref a2, .int 0, .int 0, .int 0, .int 0, .int 0, .int 0, .int 0, .int 0, .ref a9, .int 0, .null, .int (-2), .int 0])), (a4, .inl (cs 0, 1383, .inl (upd (upd (upd (upd (upd (upd (upd (upd (upd (upd (upd (upd (upd (upd (upd (upd (upd (upd (upd (upd (upd (upd (upd (upd (upd (upd (upd (fun _ => 0) 12 50) 21 (-1)) 22 (-1)) 23 1) 29 (-1)) 34 (-1)) 35 1) 41 (-1)) 46 (-1)) 47 1) 53 (-1)) 58 (-1)) 59 1) 65 (-1)) 70 (-1)) 71 1) 77 (-1)) 82 (-1)) 83 1) 89 (-1)) 94 (-1)) 95 1) 101 (-1)) 106 (-1)) 107 1) 113 (-1)) 118 (-1))))]) ⟨hx, hb, hml, hown, hts⟩ (fun sz => k620_X9_thrown l D cs sz a3 a10 a11 a12 a4 a13 a14) (cwV 0 hts gL_law_X9_thrown rfl rfl rfl hdX9_thrown_v ⟨Nat.le_of_ble_eq_true rfl, Nat.le_of_ble_eq_true rfl⟩) hN hP hD hS hA [5] [0, 1, 2, 3, 4] rfl rfl rfl rfl (by decide) (ci := 9) (q0 := 0) rfl rfl rfl rfl hl.1 (Nat.le_of_ble_eq_true rfl) dL_law_235 (Nat.le_of_ble_eq_true rfl) (Nat.le_of_ble_eq_true rfl) (fun u2 H locs hP hD hS => ?_)
  have hP : va_P D vwCl [(a5, .inl (cs 3, 1, .inr (.inl (vp_updL (fun _ => 0) 0 (-2))))), (a0, .inr (8, [.ref a1, .ref a6, .ref a7, .ref a8, .int 0, .int 0, .int 0])), (a2, .inl (cs 1, 600, .inl (fun _ => 0))), (a1, .inr (5, [.ref a2, .int 0, .int 0, .int 0, .int 0, .int 0, .int 0, .int 0, .int 0, .ref a9, .int 0, .null, .int (-2), .int 0])), (a4, .inl (cs 0, 1383, .inl (upd (upd (upd (upd (upd (upd (upd (upd (upd (upd (upd (upd (upd (upd (upd (upd (upd (upd (upd (upd (upd (upd (upd (upd (upd (upd (upd (fun _ => 0) 12 50) 21 (-1)) 22 (-1)) 23 1) 29 (-1)) 34 (-1)) 35 1) 41 (-1)) 46 (-1)) 47 1) 53 (-1)) 58 (-1)) 59 1) 65 (-1)) 70 (-1)) 71 1) 77 (-1)) 82 (-1)) 83 1) 89 (-1)) 94 (-1)) 95 1) 101 (-1)) 106 (-1)) 107 1) 113 (-1)) 118 (-1)))), (a3, .inr (9, [.int 0, .ref a10, .int 0, .int 0, .int 0, .int (-2), .int 0, .int 0, .ref a11, .ref a12, .ref a4, .ref a13, .int 0, .int 0, .int 0, .int 0, .int 0, .ref a14]))] H := hP
  have hD : va_D A [(a5, .inl (cs 3, 1, .inr (.inl (vp_updL (fun _ => 0) 0 (-2))))), (a0, .inr (8, [.ref a1, .ref a6, .ref a7, .ref a8, .int 0, .int 0, .int 0])), (a2, .inl (cs 1, 600, .inl (fun _ => 0))), (a1, .inr (5, [.ref a2, .int 0, .int 0, .int 0, .int 0, .int 0, .int 0, .int 0, .int 0, .ref a9, .int 0, .null, .int (-2), .int 0])), (a4, .inl (cs 0, 1383, .inl (upd (upd (upd (upd (upd (upd (upd (upd (upd (upd (upd (upd (upd (upd (upd (upd (upd (upd (upd (upd (upd (upd (upd (upd (upd (upd (upd (fun _ => 0) 12 50) 21 (-1)) 22 (-1)) 23 1) 29 (-1)) 34 (-1)) 35 1) 41 (-1)) 46 (-1)) 47 1) 53 (-1)) 58 (-1)) 59 1) 65 (-1)) 70 (-1)) 71 1) 77 (-1)) 82 (-1)) 83 1) 89 (-1)) 94 (-1)) 95 1) 101 (-1)) 106 (-1)) 107 1) 113 (-1)) 118 (-1)))), (a3, .inr (9, [.int 0, .ref a10, .int 0, .int 0, .int 0, .int (-2), .int 0, .int 0, .ref a11, .ref a12, .ref a4, .ref a13, .int 0, .int 0, .int 0, .int 0, .int 0, .ref a14]))] := hD
  refine W.widen (k := 391) (n := 467079) (Nat.le_of_ble_eq_true rfl) (Nat.le_of_ble_eq_true rfl) ?_
  refine lv_iload hx hb dL_law_238 (lv_at hl 1 rfl) ?_
  refine lv_icmp_eq (tgt := 245) hx hb dL_law_240 (by decide) (fun _ => ?_) (fun c9 => absurd (by decide) c9)
  refine lv_iload hx hb dL_law_245 (lv_at hl 1 rfl) ?_
  refine lv_if_ne (tgt := 262) hx hb dL_law_247 (by decide) (fun c9 => absurd (by decide) c9) (fun _ => ?_)
  refine lv_aload_n hx hb dL_law_250 rfl (lv_at hl 3 rfl) ?_
  refine lv_iconst (v := 0) hx hb dL_law_251 (by decide) ?_
  refine ld_l (v := (-2)) hx hb hN hP 0 rfl (vin (by decide +kernel)) (by first | rfl | decide +kernel) dL_law_252 ?_
  refine lv_iload hx hb dL_law_253 (lv_at hl 0 rfl) ?_
  refine lv_i2l (v := (-2)) hx hb dL_law_255 (by decide) ?_
  refine W.lcmp hx hb dL_law_256 ?_
  refine tp_i (0) (by decide) ?_
  refine lv_if_eq (tgt := 262) hx hb dL_law_257 (by decide) (fun _ => ?_) (fun c9 => absurd (by decide) c9)
  refine lv_goto (tgt := 1169) hx hb dL_law_262 (by decide) ?_
  refine W.widen (k := 600002) (n := 7302232) (Nat.le_of_ble_eq_true rfl) (Nat.le_of_ble_eq_true rfl) ?_
  exact kend _ _ _ hS (lv_sub hl [6, 2] rfl)

theorem xgX8_load_49_0 : ∀ w ∈ (vx_atS RX8 49 "java/lang/IllegalArgumentException" ["java/lang/RuntimeException", "java/lang/Exception"]).filter goodWord, w ∈ wsX8_load := fun w h => by unfold wsX8_load; exact List.mem_cons_of_mem _ (List.mem_append_right _ h)
theorem mX8_load_1 : (.classLink RX8 45 "java/lang/IllegalArgumentException" : Cond) ∈ wsX8_load := List.mem_of_getElem? (i := 1) (by decide +kernel)
theorem mX8_load_2 : (.initialized "java/lang/IllegalArgumentException" : Cond) ∈ wsX8_load := List.mem_of_getElem? (i := 2) (by decide +kernel)
set_option maxHeartbeats 4000000 in
set_option maxRecDepth 100000 in
theorem k621_X8_load (l : Launch) (D : va_G) (cs : Nat → ClassId) (sz : Nat) (hlt : l.stackTraces = false) (a0 a1 a2 a3 a4 : Nat) (x0 : Int32) (hf0 : x0 < 0) : KX l yX8_load wsX8_load 6 100 1 6 D cs sz [.ref a0, .int x0] [(a0, .inr (8, [.ref a1, .ref a2, .ref a3, .ref a4, .int 0, .int 0, .int (-1)]))] QnI "java/lang/IllegalArgumentException" := by
  refine KX.of cX8_load 3 (some .int) (by decide) rfl (Nat.le_of_ble_eq_true rfl) ?_
  intro p e s m below meth c A ls hx hb hr hml hown hts hlocks hnx hP hN hD hA hS hl hZ
  have hown : s.vm.findClass RX8 = some m.cls := hown
  have hl : lv_has ls 3 [(0, .ref a0), (1, .int x0)] := hl
  refine lv_iload_n hx hb dX8_load_0 rfl (lv_at hl 1 rfl) ?_
  refine lv_if_lt (tgt := 15) hx hb dX8_load_1 (by decide) (fun _ => ?_) (fun c9 => absurd hf0 c9)
  exact tx_g2 (E := "java/lang/IllegalArgumentException") 0 hx hb hlt hown hN (by decide +kernel) (hts _ mX8_load_1) (hts _ mX8_load_2) (hN.s 0 rfl) rfl (fun w h => hts w (xgX8_load_49_0 w h)) xnRX8_49_0 xdRX8_49_0 xoRX8_45_49_0 hZ hS hl hml dX8_load_15 dX8_load_18 dX8_load_19 dX8_load_21 dX8_load_24 hnx (Nat.le_of_ble_eq_true rfl) (Nat.le_of_ble_eq_true rfl) (Nat.le_of_ble_eq_true rfl) (Nat.le_of_ble_eq_true rfl) hlocks (Nat.le_of_ble_eq_true rfl) (Nat.le_of_ble_eq_true rfl)
theorem mL_load_1 : (.classLink RL 13 "java/lang/IllegalArgumentException" : Cond) ∈ wsL_load := List.mem_of_getElem? (i := 1) (by decide +kernel)
set_option maxHeartbeats 4000000 in
set_option maxRecDepth 100000 in
theorem k622_L_load (l : Launch) (D : va_G) (cs : Nat → ClassId) (sz : Nat) (hlt : l.stackTraces = false) (a0 a1 a2 a3 a4 a5 : Nat) (x0 : Int32) (hf0 : x0 < 0) : KH l yL_load wsL_load 7 122 1 6 D cs sz [.ref a0, .int x0, .ref a1] [(a0, .inr (8, [.ref a2, .ref a3, .ref a4, .ref a5, .int 0, .int 0, .int (-1)]))] (fun u => []) (1) := by
  refine KH.of cL_load 4 (some .int) (by decide) rfl (Nat.le_of_ble_eq_true rfl) ?_
  intro p e s m below meth c A ls hx hb hr hml hown hts hlocks htab hP hN hD hA hS hl hZ
  have hown : s.vm.findClass RL = some m.cls := hown
  have hl : lv_has ls 4 [(0, .ref a0), (1, .int x0), (2, .ref a1)] := hl
  refine lv_aload_n hx hb dL_load_0 rfl (lv_at hl 2 rfl) ?_
  refine lv_iconst (v := 0) hx hb dL_load_1 (by decide) ?_
  refine lv_aload_n hx hb dL_load_2 rfl (lv_at hl 0 rfl) ?_
  refine lv_iload_n hx hb dL_load_3 rfl (lv_at hl 1 rfl) ?_
  refine xc_i (wr := []) (As := [.int x0]) (rest := [.int 0, .ref a1]) (b := a0) ⟨hx, hb, hml, hown, hts⟩ (fun sz => k621_X8_load l D cs sz hlt a0 a2 a3 a4 a5 (x0) hf0) (cwV 1 hts gL_load_X8_load rfl rfl rfl hdX8_load_v ⟨Nat.le_of_ble_eq_true rfl, Nat.le_of_ble_eq_true rfl⟩) hN hP hD hS hA hZ [0] rfl rfl (ci := 8) (q0 := 0) rfl rfl rfl rfl hl.1 (Nat.le_of_ble_eq_true rfl) dL_load_4 (Nat.le_of_ble_eq_true rfl) (Nat.le_of_ble_eq_true rfl) [] rfl rfl (by decide) [] ⟨0, 9, 12, 13⟩ [] htab (fun z h => nomatch h) rfl (by decide) (hts _ mL_load_1) 0 rfl (fun q9_5 H locs hP hD hS => ?_)
  have hP : va_P D vwCl [] H := hP
  have hD : va_D A [] := hD
  refine W.widen (k := 1) (n := 6) (Nat.le_of_ble_eq_true rfl) (Nat.le_of_ble_eq_true rfl) ?_
  refine lv_astore_n (lv' := [(3, .ref q9_5), (0, .ref a0), (1, .int x0), (2, .ref a1)]) hx hb dL_load_12 rfl hl (by decide) rfl (fun ls hl => ?_)
  refine lv_iconst (v := 1) hx hb dL_load_13 (by decide) ?_
  exact en_i (fun k => ([] : List Nat).getD k 0) hx hb hr hlocks rfl rfl hP hD hS (Nat.le_of_ble_eq_true rfl) (Nat.le_of_ble_eq_true rfl) dL_load_14
set_option maxHeartbeats 4000000 in
set_option maxRecDepth 100000 in
theorem k623_X9_load (l : Launch) (D : va_G) (cs : Nat → ClassId) (sz : Nat) (a0 a1 a2 a3 a4 a5 a6 : Nat) (x0 : Int32) (hf0 : x0 < 0) : KSI l yX9_load wsX9_load 1 22 0 0 D cs sz [.ref a0, .int x0] [(a0, .inr (9, [.int 0, .ref a1, .int 0, .int 0, .int 0, .int 0, .int 0, .int (-1), .ref a2, .ref a3, .ref a4, .ref a5, .int 0, .int 0, .int 0, .int 0, .int 0, .ref a6]))] (fun u => [(a0, .inr (9, [.int 1, .ref a1, .int 0, .int 0, .int 0, .int 0, .int 0, .int (-1), .ref a2, .ref a3, .ref a4, .ref a5, .int 0, .int 0, .int 0, .int 0, .int 0, .ref a6]))]) (0) := by
  refine KSI.of cX9_load 3 (some .int) (by decide) rfl (Nat.le_of_ble_eq_true rfl) ?_
  intro p e s m below meth c A ls hx hb hr hml hown hts hlocks hin hP hN hD hA hS hl hZS
  have hown : s.vm.findClass RX9 = some m.cls := hown
  have hl : lv_has ls 3 [(0, .ref a0), (1, .int x0)] := hl
  refine lv_aload_n hx hb dX9_load_0 rfl (lv_at hl 0 rfl) ?_
  refine lv_iconst (v := 0) hx hb dX9_load_1 (by decide) ?_
  refine va_put (D := D) (ci := 9) (v := .int 0) (ty := .int) (C := RX9) (T := TX9) (N := 18) hx hb hts iX9_load_9 tyX9 tyX9_ok nmX9 hown hN.1 hP hD hS 0 rfl rfl 0 (by decide) (hts _ mX9_load_1) (fun _ h9 => h9) rfl (by decide +kernel) rfl rfl (Nat.le_of_ble_eq_true rfl) dX9_load_2 (fun H locs hP hD hS => ?_)
  have hP : va_P D vwCl [(a0, .inr (9, [.int 0, .ref a1, .int 0, .int 0, .int 0, .int 0, .int 0, .int (-1), .ref a2, .ref a3, .ref a4, .ref a5, .int 0, .int 0, .int 0, .int 0, .int 0, .ref a6]))] H := hP
  have hD : va_D A [(a0, .inr (9, [.int 0, .ref a1, .int 0, .int 0, .int 0, .int 0, .int 0, .int (-1), .ref a2, .ref a3, .ref a4, .ref a5, .int 0, .int 0, .int 0, .int 0, .int 0, .ref a6]))] := hD
  refine lv_aload_n hx hb dX9_load_5 rfl (lv_at hl 0 rfl) ?_
  refine lv_iload_n hx hb dX9_load_6 rfl (lv_at hl 1 rfl) ?_
  refine lv_iconst (v := 0) hx hb dX9_load_7 (by decide) ?_
  refine lv_aload_n hx hb dX9_load_8 rfl (lv_at hl 0 rfl) ?_
  refine va_get (D := D) (ci := 9) (v := .int 0) (C := RX9) (T := TX9) (N := 18) hx hb hts iX9_load_9 hown hN.1 hP 0 rfl rfl 2 (by decide) (hts _ mX9_load_2) (fun _ h9 => h9) rfl dX9_load_9 ?_
  refine cs_i (As := [.int x0, .int 0, .int 0]) (rest := [.ref a0]) (wr := [(a0, .inr (9, [.int 0, .ref a1, .int 0, .int 0, .int 0, .int 0, .int 0, .int (-1), .ref a2, .ref a3, .ref a4, .ref a5, .int 0, .int 0, .int 0, .int 0, .int 0, .ref a6]))]) ⟨hx, hb, hml, hown, hts⟩ (fun sz => k268_X9_in l D cs sz (x0) hf0) (va_cwS 3 hts gX9_load_X9_in rfl rfl rfl hdX9_in_o ⟨Nat.le_of_ble_eq_true rfl, Nat.le_of_ble_eq_true rfl⟩) hN hP hD hS hA [] [0] rfl rfl rfl rfl (by decide) rfl rfl hl.1 (Nat.le_of_ble_eq_true rfl) dX9_load_12 (Nat.le_of_ble_eq_true rfl) (Nat.le_of_ble_eq_true rfl) (fun u0 H locs hP hD hS => ?_)
  have hP : va_P D vwCl [(a0, .inr (9, [.int 0, .ref a1, .int 0, .int 0, .int 0, .int 0, .int 0, .int (-1), .ref a2, .ref a3, .ref a4, .ref a5, .int 0, .int 0, .int 0, .int 0, .int 0, .ref a6]))] H := hP
  have hD : va_D A [(a0, .inr (9, [.int 0, .ref a1, .int 0, .int 0, .int 0, .int 0, .int 0, .int (-1), .ref a2, .ref a3, .ref a4, .ref a5, .int 0, .int 0, .int 0, .int 0, .int 0, .ref a6]))] := hD
  refine W.widen (k := 0) (n := 0) (Nat.le_of_ble_eq_true rfl) (Nat.le_of_ble_eq_true rfl) ?_
  refine lv_if_ne (tgt := 22) hx hb dX9_load_15 (by decide) (fun c9 => absurd (by decide) c9) (fun _ => ?_)
  refine lv_iconst (v := 1) hx hb dX9_load_18 (by decide) ?_
  refine lv_goto (tgt := 23) hx hb dX9_load_19 (by decide) ?_
  refine lv_iconst (v := 1) hx hb dX9_load_23 (by decide) ?_
  refine cv_i (As := [.int 1, .int 1]) (rest := []) (b := a0) (wr := []) ⟨hx, hb, hml, hown, hts⟩ (fun sz => k156_X9_fails l D cs sz a0 a1 a2 a3 a4 a5 a6) (cwV 2 hts gX9_load_X9_fails rfl rfl rfl hdX9_fails_v ⟨Nat.le_of_ble_eq_true rfl, Nat.le_of_ble_eq_true rfl⟩) hN hP hD hS hA [0] [] rfl rfl rfl rfl (by decide) (ci := 9) (q0 := 0) rfl rfl rfl rfl hl.1 (Nat.le_of_ble_eq_true rfl) dX9_load_24 (Nat.le_of_ble_eq_true rfl) (Nat.le_of_ble_eq_true rfl) (fun u1 H locs hP hD hS => ?_)
  have hP : va_P D vwCl [(a0, .inr (9, [.int 1, .ref a1, .int 0, .int 0, .int 0, .int 0, .int 0, .int (-1), .ref a2, .ref a3, .ref a4, .ref a5, .int 0, .int 0, .int 0, .int 0, .int 0, .ref a6]))] H := hP
  have hD : va_D A [(a0, .inr (9, [.int 1, .ref a1, .int 0, .int 0, .int 0, .int 0, .int 0, .int (-1), .ref a2, .ref a3, .ref a4, .ref a5, .int 0, .int 0, .int 0, .int 0, .int 0, .ref a6]))] := hD
  refine W.widen (k := 0) (n := 0) (Nat.le_of_ble_eq_true rfl) (Nat.le_of_ble_eq_true rfl) ?_
  refine lv_if_eq (tgt := 32) hx hb dX9_load_27 (by decide) (fun c9 => absurd c9 (by decide)) (fun _ => ?_)
  refine lv_iconst (v := 0) hx hb dX9_load_30 (by decide) ?_
  exact en_i (fun k => ([] : List Nat).getD k 0) hx hb hr hlocks rfl rfl hP hD hS (Nat.le_of_ble_eq_true rfl) (Nat.le_of_ble_eq_true rfl) dX9_load_31
set_option maxHeartbeats 4000000 in
set_option maxRecDepth 100000 in
theorem law_1_n {p : Program} {l : Launch} {e : Env} {s : State} {m : MethodId} {args : Array Value} {below : List Frame} {meth : Method} {c : Code} {Q : State → Prop} {D : va_G} {cs : Nat → ClassId} {A : Nat → Prop} {xs : Nat → Int32} {b : Nat} (hx : p.tables.exec = Jvm.exec) (hb : c.code = cL_law) (hml : c.maxLocals = 9) (hown : s.vm.findClass RL = some m.cls) (hts : ∀ w ∈ wsL_law, w.before args s = true) (hN : NK D cs s) (hX : va_X b 6 xs s s.heap) (hbl : b < s.heap.size) (hbA : ¬ A b) (hA : ∀ q : Nat, s.heap.size ≤ q → A q) (hZ : ZX A s s.heap) (hZS : ZS cs A s s.heap) (hlt : l.stackTraces = false)
    (kend : ∀ (H : Heap) (locs : List Loc) (ls : Array Slot), va_S A s.heap H locs → lv_has ls 9 [(0, .ref b), (4, .int 0)] → W p l e room_1 s m args below meth c H locs 600002 7302232 Q (F0 m 1169 ls []))
    (a0 a1 a2 a3 a4 a5 a6 a7 a8 a9 a10 a11 a12 : Nat) (y1 : Int32) (hy1 : xs 1 = (y1)) (g1_2 : y1 < 0) (H : Heap) (locs : List Loc) (ls : Array Slot) (hP : va_P D vwCl [(a0, .inr (8, [.ref a2, .ref a3, .ref a4, .ref a5, .int 0, .int 0, .int (-1)])), (a1, .inr (9, [.int 0, .ref a6, .int 0, .int 0, .int 0, .int 0, .int 0, .int (-1), .ref a7, .ref a8, .ref a9, .ref a10, .int 0, .int 0, .int 0, .int 0, .int 0, .ref a11]))] H) (hD : va_D A [(a0, .inr (8, [.ref a2, .ref a3, .ref a4, .ref a5, .int 0, .int 0, .int (-1)])), (a1, .inr (9, [.int 0, .ref a6, .int 0, .int 0, .int 0, .int 0, .int 0, .int (-1), .ref a7, .ref a8, .ref a9, .ref a10, .int 0, .int 0, .int 0, .int 0, .int 0, .ref a11]))]) (hS : va_S A s.heap H locs) (hl : lv_has ls 9 [(4, .int 0), (3, .ref a12), (2, .ref a1), (1, .ref a0), (0, .ref b)]) : W p l e room_1 s m args below meth c H locs 391 467079 Q (F0 m 209 ls []) := by
  refine lv_aload_n hx hb dL_law_209 rfl (lv_at hl 3 rfl) ?_
  refine lv_aload_n hx hb dL_law_210 rfl (lv_at hl 4 rfl) ?_
  refine lv_iload hx hb dL_law_211 (lv_at hl 0 rfl) ?_
  refine lv_iconst (v := 1) hx hb dL_law_213 (by decide) ?_
  refine lv_iadd hx hb dL_law_214 ?_
  refine tp_i (1) (by decide) ?_
  refine va_sld hx hb hX hbl hbA hS (vin (by decide +kernel)) dL_law_215 ?_
  refine tp_i (y1) hy1 ?_
  refine lv_aload_n hx hb dL_law_216 rfl (lv_at hl 1 rfl) ?_
  refine ch_i (As := [.ref a0, .int y1, .ref a12]) (rest := []) (wr := [(a1, .inr (9, [.int 0, .ref a6, .int 0, .int 0, .int 0, .int 0, .int 0, .int (-1), .ref a7, .ref a8, .ref a9, .ref a10, .int 0, .int 0, .int 0, .int 0, .int 0, .ref a11]))]) ⟨hx, hb, hml, hown, hts⟩ (fun sz => k622_L_load l D cs sz hlt a0 a12 a2 a3 a4 a5 (y1) g1_2) (vx_cwSW 3 hts gL_law_L_load rfl rfl rfl hdL_load_o ⟨Nat.le_of_ble_eq_true rfl, Nat.le_of_ble_eq_true rfl⟩) hN hP hD hS hA hZ [0] [1] rfl rfl rfl rfl (by decide) rfl rfl hl.1 (Nat.le_of_ble_eq_true rfl) dL_law_217 (Nat.le_of_ble_eq_true rfl) (Nat.le_of_ble_eq_true rfl) (fun u0 H locs hP hD hS => ?_)
  have hP : va_P D vwCl [(a1, .inr (9, [.int 0, .ref a6, .int 0, .int 0, .int 0, .int 0, .int 0, .int (-1), .ref a7, .ref a8, .ref a9, .ref a10, .int 0, .int 0, .int 0, .int 0, .int 0, .ref a11]))] H := hP
  have hD : va_D A [(a1, .inr (9, [.int 0, .ref a6, .int 0, .int 0, .int 0, .int 0, .int 0, .int (-1), .ref a7, .ref a8, .ref a9, .ref a10, .int 0, .int 0, .int 0, .int 0, .int 0, .ref a11]))] := hD
  refine W.widen (k := 392) (n := 467085) (Nat.le_of_ble_eq_true rfl) (Nat.le_of_ble_eq_true rfl) ?_
  refine lv_istore (lv' := [(5, .int 1), (4, .int 0), (3, .ref a12), (2, .ref a1), (1, .ref a0), (0, .ref b)]) hx hb dL_law_220 hl (by decide) rfl (fun ls hl => ?_)
  refine lv_aload_n hx hb dL_law_222 rfl (lv_at hl 3 rfl) ?_
  refine lv_aload_n hx hb dL_law_223 rfl (lv_at hl 5 rfl) ?_
  refine lv_iload hx hb dL_law_224 (lv_at hl 1 rfl) ?_
  refine lv_iconst (v := 1) hx hb dL_law_226 (by decide) ?_
  refine lv_iadd hx hb dL_law_227 ?_
  refine tp_i (1) (by decide) ?_
  refine va_sld hx hb hX hbl hbA hS (vin (by decide +kernel)) dL_law_228 ?_
  refine tp_i (y1) hy1 ?_
  refine czv_i (As := [.int y1]) (rest := []) (b := a1) (wr := []) ⟨hx, hb, hml, hown, hts⟩ (fun sz => k623_X9_load l D cs sz a1 a6 a7 a8 a9 a10 a11 (y1) g1_2) (cwV 1 hts gL_law_X9_load rfl rfl rfl hdX9_load_v ⟨Nat.le_of_ble_eq_true rfl, Nat.le_of_ble_eq_true rfl⟩) hN hP hD hS hA hZS [0] [] rfl rfl rfl rfl (by decide) (ci := 9) (q0 := 0) rfl rfl rfl rfl hl.1 (Nat.le_of_ble_eq_true rfl) dL_law_229 (Nat.le_of_ble_eq_true rfl) (Nat.le_of_ble_eq_true rfl) (fun u1 H locs hP hD hS => ?_)
  have hP : va_P D vwCl [(a1, .inr (9, [.int 1, .ref a6, .int 0, .int 0, .int 0, .int 0, .int 0, .int (-1), .ref a7, .ref a8, .ref a9, .ref a10, .int 0, .int 0, .int 0, .int 0, .int 0, .ref a11]))] H := hP
  have hD : va_D A [(a1, .inr (9, [.int 1, .ref a6, .int 0, .int 0, .int 0, .int 0, .int 0, .int (-1), .ref a7, .ref a8, .ref a9, .ref a10, .int 0, .int 0, .int 0, .int 0, .int 0, .ref a11]))] := hD
  refine W.widen (k := 392) (n := 467085) (Nat.le_of_ble_eq_true rfl) (Nat.le_of_ble_eq_true rfl) ?_
  refine lv_istore (lv' := [(6, .int 0), (5, .int 1), (4, .int 0), (3, .ref a12), (2, .ref a1), (1, .ref a0), (0, .ref b)]) hx hb dL_law_232 hl (by decide) rfl (fun ls hl => ?_)
  refine lv_aload_n hx hb dL_law_234 rfl (lv_at hl 4 rfl) ?_
  refine cv_i (As := []) (rest := []) (b := a1) (wr := []) ⟨hx, hb, hml, hown, hts⟩ (fun sz => k158_X9_thrown l D cs sz a1 a6 a7 a8 a9 a10 a11) (cwV 0 hts gL_law_X9_thrown rfl rfl rfl hdX9_thrown_v ⟨Nat.le_of_ble_eq_true rfl, Nat.le_of_ble_eq_true rfl⟩) hN hP hD hS hA [0] [] rfl rfl rfl rfl (by decide) (ci := 9) (q0 := 0) rfl rfl rfl rfl hl.1 (Nat.le_of_ble_eq_true rfl) dL_law_235 (Nat.le_of_ble_eq_true rfl) (Nat.le_of_ble_eq_true rfl) (fun u2 H locs hP hD hS => ?_)
  have hP : va_P D vwCl [(a1, .inr (9, [.int 1, .ref a6, .int 0, .int 0, .int 0, .int 0, .int 0, .int (-1), .ref a7, .ref a8, .ref a9, .ref a10, .int 0, .int 0, .int 0, .int 0, .int 0, .ref a11]))] H := hP
  have hD : va_D A [(a1, .inr (9, [.int 1, .ref a6, .int 0, .int 0, .int 0, .int 0, .int 0, .int (-1), .ref a7, .ref a8, .ref a9, .ref a10, .int 0, .int 0, .int 0, .int 0, .int 0, .ref a11]))] := hD
  refine W.widen (k := 392) (n := 467085) (Nat.le_of_ble_eq_true rfl) (Nat.le_of_ble_eq_true rfl) ?_
  refine lv_iload hx hb dL_law_238 (lv_at hl 1 rfl) ?_
  refine lv_icmp_eq (tgt := 245) hx hb dL_law_240 (by decide) (fun _ => ?_) (fun c9 => absurd (by decide) c9)
  refine lv_iload hx hb dL_law_245 (lv_at hl 1 rfl) ?_
  refine lv_if_ne (tgt := 262) hx hb dL_law_247 (by decide) (fun _ => ?_) (fun c9 => absurd c9 (by decide))
  refine lv_goto (tgt := 1169) hx hb dL_law_262 (by decide) ?_
  refine W.widen (k := 600002) (n := 7302232) (Nat.le_of_ble_eq_true rfl) (Nat.le_of_ble_eq_true rfl) ?_
  exact kend _ _ _ hS (lv_sub hl [6, 2] rfl)

set_option maxHeartbeats 4000000 in
set_option maxRecDepth 100000 in
theorem k624_X8_load (l : Launch) (D : va_G) (cs : Nat → ClassId) (sz : Nat) (hlt : l.stackTraces = false) (a0 a1 a2 a3 a4 a5 a6 : Nat) (x0 : Int32) (hf0 : ¬ x0 < 0) (hf1 : ¬ x0 ≤ 0) : KX l yX8_load wsX8_load 6 100 1 6 D cs sz [.ref a0, .int x0] [(a0, .inr (8, [.ref a1, .ref a2, .ref a3, .ref a4, .int 0, .int 0, .int (-1)])), (a1, .inr (5, [.ref a5, .int 0, .int 0, .int 0, .int 0, .int 0, .int 0, .int 0, .int 0, .ref a6, .int 0, .null, .int 0, .int 0]))] QnI "java/lang/IllegalArgumentException" := by
  refine KX.of cX8_load 3 (some .int) (by decide) rfl (Nat.le_of_ble_eq_true rfl) ?_
  intro p e s m below meth c A ls hx hb hr hml hown hts hlocks hnx hP hN hD hA hS hl hZ
  have hown : s.vm.findClass RX8 = some m.cls := hown
  have hl : lv_has ls 3 [(0, .ref a0), (1, .int x0)] := hl
  refine lv_iload_n hx hb dX8_load_0 rfl (lv_at hl 1 rfl) ?_
  refine lv_if_lt (tgt := 15) hx hb dX8_load_1 (by decide) (fun c9 => absurd c9 hf0) (fun _ => ?_)
  refine lv_iload_n hx hb dX8_load_4 rfl (lv_at hl 1 rfl) ?_
  refine lv_aload_n hx hb dX8_load_5 rfl (lv_at hl 0 rfl) ?_
  refine va_get (D := D) (ci := 8) (v := .ref a1) (C := RX8) (T := TX8) (N := 7) hx hb hts iX8_load_8 hown hN.1 hP 0 rfl rfl 0 (by decide) (hts _ mX8_load_3) (fun _ h9 => h9) rfl dX8_load_6 ?_
  refine va_getN (D := D) (ci := 5) (v := .int 0) (C := RX5) (T := TX5) (N := 14) hx hb hts iX8_load_5 hown hN.1 hP 1 rfl rfl 1 (by decide) (hN.f 0 rfl) (fun _ h9 => h9) rfl dX8_load_9 ?_
  refine lv_icmp_le (tgt := 25) hx hb dX8_load_12 (by decide) (fun c9 => absurd c9 hf1) (fun _ => ?_)
  exact tx_g2 (E := "java/lang/IllegalArgumentException") 0 hx hb hlt hown hN (by decide +kernel) (hts _ mX8_load_1) (hts _ mX8_load_2) (hN.s 0 rfl) rfl (fun w h => hts w (xgX8_load_49_0 w h)) xnRX8_49_0 xdRX8_49_0 xoRX8_45_49_0 hZ hS hl hml dX8_load_15 dX8_load_18 dX8_load_19 dX8_load_21 dX8_load_24 hnx (Nat.le_of_ble_eq_true rfl) (Nat.le_of_ble_eq_true rfl) (Nat.le_of_ble_eq_true rfl) (Nat.le_of_ble_eq_true rfl) hlocks (Nat.le_of_ble_eq_true rfl) (Nat.le_of_ble_eq_true rfl)
set_option maxHeartbeats 4000000 in
set_option maxRecDepth 100000 in
theorem k625_L_load (l : Launch) (D : va_G) (cs : Nat → ClassId) (sz : Nat) (hlt : l.stackTraces = false) (a0 a1 a2 a3 a4 a5 a6 a7 : Nat) (x0 : Int32) (hf0 : ¬ x0 < 0) (hf1 : ¬ x0 ≤ 0) : KH l yL_load wsL_load 7 122 1 6 D cs sz [.ref a0, .int x0, .ref a2] [(a0, .inr (8, [.ref a1, .ref a3, .ref a4, .ref a5, .int 0, .int 0, .int (-1)])), (a1, .inr (5, [.ref a6, .int 0, .int 0, .int 0, .int 0, .int 0, .int 0, .int 0, .int 0, .ref a7, .int 0, .null, .int 0, .int 0]))] (fun u => []) (1) := by
  refine KH.of cL_load 4 (some .int) (by decide) rfl (Nat.le_of_ble_eq_true rfl) ?_
  intro p e s m below meth c A ls hx hb hr hml hown hts hlocks htab hP hN hD hA hS hl hZ
  have hown : s.vm.findClass RL = some m.cls := hown
  have hl : lv_has ls 4 [(0, .ref a0), (1, .int x0), (2, .ref a2)] := hl
  refine lv_aload_n hx hb dL_load_0 rfl (lv_at hl 2 rfl) ?_
  refine lv_iconst (v := 0) hx hb dL_load_1 (by decide) ?_
  refine lv_aload_n hx hb dL_load_2 rfl (lv_at hl 0 rfl) ?_
  refine lv_iload_n hx hb dL_load_3 rfl (lv_at hl 1 rfl) ?_
  refine xc_i (wr := []) (As := [.int x0]) (rest := [.int 0, .ref a2]) (b := a0) ⟨hx, hb, hml, hown, hts⟩ (fun sz => k624_X8_load l D cs sz hlt a0 a1 a3 a4 a5 a6 a7 (x0) hf0 hf1) (cwV 1 hts gL_load_X8_load rfl rfl rfl hdX8_load_v ⟨Nat.le_of_ble_eq_true rfl, Nat.le_of_ble_eq_true rfl⟩) hN hP hD hS hA hZ [0, 1] rfl rfl (ci := 8) (q0 := 0) rfl rfl rfl rfl hl.1 (Nat.le_of_ble_eq_true rfl) dL_load_4 (Nat.le_of_ble_eq_true rfl) (Nat.le_of_ble_eq_true rfl) [] rfl rfl (by decide) [] ⟨0, 9, 12, 13⟩ [] htab (fun z h => nomatch h) rfl (by decide) (hts _ mL_load_1) 0 rfl (fun q9_5 H locs hP hD hS => ?_)
  have hP : va_P D vwCl [] H := hP
  have hD : va_D A [] := hD
  refine W.widen (k := 1) (n := 6) (Nat.le_of_ble_eq_true rfl) (Nat.le_of_ble_eq_true rfl) ?_
  refine lv_astore_n (lv' := [(3, .ref q9_5), (0, .ref a0), (1, .int x0), (2, .ref a2)]) hx hb dL_load_12 rfl hl (by decide) rfl (fun ls hl => ?_)
  refine lv_iconst (v := 1) hx hb dL_load_13 (by decide) ?_
  exact en_i (fun k => ([] : List Nat).getD k 0) hx hb hr hlocks rfl rfl hP hD hS (Nat.le_of_ble_eq_true rfl) (Nat.le_of_ble_eq_true rfl) dL_load_14
set_option maxHeartbeats 4000000 in
set_option maxRecDepth 100000 in
theorem k626_X9_load (l : Launch) (D : va_G) (cs : Nat → ClassId) (sz : Nat) (a0 a1 a2 a3 a4 a5 a6 : Nat) (x0 : Int32) (hf0 : ¬ x0 < 0) (hf1 : 0 < x0) : KSI l yX9_load wsX9_load 1 22 0 0 D cs sz [.ref a0, .int x0] [(a0, .inr (9, [.int 0, .ref a1, .int 0, .int 0, .int 0, .int 0, .int 0, .int (-1), .ref a2, .ref a3, .ref a4, .ref a5, .int 0, .int 0, .int 0, .int 0, .int 0, .ref a6]))] (fun u => [(a0, .inr (9, [.int 1, .ref a1, .int 0, .int 0, .int 0, .int 0, .int 0, .int (-1), .ref a2, .ref a3, .ref a4, .ref a5, .int 0, .int 0, .int 0, .int 0, .int 0, .ref a6]))]) (0) := by
  refine KSI.of cX9_load 3 (some .int) (by decide) rfl (Nat.le_of_ble_eq_true rfl) ?_
  intro p e s m below meth c A ls hx hb hr hml hown hts hlocks hin hP hN hD hA hS hl hZS
  have hown : s.vm.findClass RX9 = some m.cls := hown
  have hl : lv_has ls 3 [(0, .ref a0), (1, .int x0)] := hl
  refine lv_aload_n hx hb dX9_load_0 rfl (lv_at hl 0 rfl) ?_
  refine lv_iconst (v := 0) hx hb dX9_load_1 (by decide) ?_
  refine va_put (D := D) (ci := 9) (v := .int 0) (ty := .int) (C := RX9) (T := TX9) (N := 18) hx hb hts iX9_load_9 tyX9 tyX9_ok nmX9 hown hN.1 hP hD hS 0 rfl rfl 0 (by decide) (hts _ mX9_load_1) (fun _ h9 => h9) rfl (by decide +kernel) rfl rfl (Nat.le_of_ble_eq_true rfl) dX9_load_2 (fun H locs hP hD hS => ?_)
  have hP : va_P D vwCl [(a0, .inr (9, [.int 0, .ref a1, .int 0, .int 0, .int 0, .int 0, .int 0, .int (-1), .ref a2, .ref a3, .ref a4, .ref a5, .int 0, .int 0, .int 0, .int 0, .int 0, .ref a6]))] H := hP
  have hD : va_D A [(a0, .inr (9, [.int 0, .ref a1, .int 0, .int 0, .int 0, .int 0, .int 0, .int (-1), .ref a2, .ref a3, .ref a4, .ref a5, .int 0, .int 0, .int 0, .int 0, .int 0, .ref a6]))] := hD
  refine lv_aload_n hx hb dX9_load_5 rfl (lv_at hl 0 rfl) ?_
  refine lv_iload_n hx hb dX9_load_6 rfl (lv_at hl 1 rfl) ?_
  refine lv_iconst (v := 0) hx hb dX9_load_7 (by decide) ?_
  refine lv_aload_n hx hb dX9_load_8 rfl (lv_at hl 0 rfl) ?_
  refine va_get (D := D) (ci := 9) (v := .int 0) (C := RX9) (T := TX9) (N := 18) hx hb hts iX9_load_9 hown hN.1 hP 0 rfl rfl 2 (by decide) (hts _ mX9_load_2) (fun _ h9 => h9) rfl dX9_load_9 ?_
  refine cs_i (As := [.int x0, .int 0, .int 0]) (rest := [.ref a0]) (wr := [(a0, .inr (9, [.int 0, .ref a1, .int 0, .int 0, .int 0, .int 0, .int 0, .int (-1), .ref a2, .ref a3, .ref a4, .ref a5, .int 0, .int 0, .int 0, .int 0, .int 0, .ref a6]))]) ⟨hx, hb, hml, hown, hts⟩ (fun sz => k274_X9_in l D cs sz (x0) hf0 hf1) (va_cwS 3 hts gX9_load_X9_in rfl rfl rfl hdX9_in_o ⟨Nat.le_of_ble_eq_true rfl, Nat.le_of_ble_eq_true rfl⟩) hN hP hD hS hA [] [0] rfl rfl rfl rfl (by decide) rfl rfl hl.1 (Nat.le_of_ble_eq_true rfl) dX9_load_12 (Nat.le_of_ble_eq_true rfl) (Nat.le_of_ble_eq_true rfl) (fun u0 H locs hP hD hS => ?_)
  have hP : va_P D vwCl [(a0, .inr (9, [.int 0, .ref a1, .int 0, .int 0, .int 0, .int 0, .int 0, .int (-1), .ref a2, .ref a3, .ref a4, .ref a5, .int 0, .int 0, .int 0, .int 0, .int 0, .ref a6]))] H := hP
  have hD : va_D A [(a0, .inr (9, [.int 0, .ref a1, .int 0, .int 0, .int 0, .int 0, .int 0, .int (-1), .ref a2, .ref a3, .ref a4, .ref a5, .int 0, .int 0, .int 0, .int 0, .int 0, .ref a6]))] := hD
  refine W.widen (k := 0) (n := 0) (Nat.le_of_ble_eq_true rfl) (Nat.le_of_ble_eq_true rfl) ?_
  refine lv_if_ne (tgt := 22) hx hb dX9_load_15 (by decide) (fun c9 => absurd (by decide) c9) (fun _ => ?_)
  refine lv_iconst (v := 1) hx hb dX9_load_18 (by decide) ?_
  refine lv_goto (tgt := 23) hx hb dX9_load_19 (by decide) ?_
  refine lv_iconst (v := 1) hx hb dX9_load_23 (by decide) ?_
  refine cv_i (As := [.int 1, .int 1]) (rest := []) (b := a0) (wr := []) ⟨hx, hb, hml, hown, hts⟩ (fun sz => k156_X9_fails l D cs sz a0 a1 a2 a3 a4 a5 a6) (cwV 2 hts gX9_load_X9_fails rfl rfl rfl hdX9_fails_v ⟨Nat.le_of_ble_eq_true rfl, Nat.le_of_ble_eq_true rfl⟩) hN hP hD hS hA [0] [] rfl rfl rfl rfl (by decide) (ci := 9) (q0 := 0) rfl rfl rfl rfl hl.1 (Nat.le_of_ble_eq_true rfl) dX9_load_24 (Nat.le_of_ble_eq_true rfl) (Nat.le_of_ble_eq_true rfl) (fun u1 H locs hP hD hS => ?_)
  have hP : va_P D vwCl [(a0, .inr (9, [.int 1, .ref a1, .int 0, .int 0, .int 0, .int 0, .int 0, .int (-1), .ref a2, .ref a3, .ref a4, .ref a5, .int 0, .int 0, .int 0, .int 0, .int 0, .ref a6]))] H := hP
  have hD : va_D A [(a0, .inr (9, [.int 1, .ref a1, .int 0, .int 0, .int 0, .int 0, .int 0, .int (-1), .ref a2, .ref a3, .ref a4, .ref a5, .int 0, .int 0, .int 0, .int 0, .int 0, .ref a6]))] := hD
  refine W.widen (k := 0) (n := 0) (Nat.le_of_ble_eq_true rfl) (Nat.le_of_ble_eq_true rfl) ?_
  refine lv_if_eq (tgt := 32) hx hb dX9_load_27 (by decide) (fun c9 => absurd c9 (by decide)) (fun _ => ?_)
  refine lv_iconst (v := 0) hx hb dX9_load_30 (by decide) ?_
  exact en_i (fun k => ([] : List Nat).getD k 0) hx hb hr hlocks rfl rfl hP hD hS (Nat.le_of_ble_eq_true rfl) (Nat.le_of_ble_eq_true rfl) dX9_load_31
set_option maxHeartbeats 4000000 in
set_option maxRecDepth 100000 in
theorem law_1_b {p : Program} {l : Launch} {e : Env} {s : State} {m : MethodId} {args : Array Value} {below : List Frame} {meth : Method} {c : Code} {Q : State → Prop} {D : va_G} {cs : Nat → ClassId} {A : Nat → Prop} {xs : Nat → Int32} {b : Nat} (hx : p.tables.exec = Jvm.exec) (hb : c.code = cL_law) (hml : c.maxLocals = 9) (hown : s.vm.findClass RL = some m.cls) (hts : ∀ w ∈ wsL_law, w.before args s = true) (hN : NK D cs s) (hX : va_X b 6 xs s s.heap) (hbl : b < s.heap.size) (hbA : ¬ A b) (hA : ∀ q : Nat, s.heap.size ≤ q → A q) (hZ : ZX A s s.heap) (hZS : ZS cs A s s.heap) (hlt : l.stackTraces = false)
    (kend : ∀ (H : Heap) (locs : List Loc) (ls : Array Slot), va_S A s.heap H locs → lv_has ls 9 [(0, .ref b), (4, .int 0)] → W p l e room_1 s m args below meth c H locs 600002 7302232 Q (F0 m 1169 ls []))
    (a0 a1 a2 a3 a4 a5 a6 a7 a8 a9 a10 a11 a12 a13 a14 : Nat) (y1 : Int32) (hy1 : xs 1 = (y1)) (g1_4 : ¬ y1 < 0) (g1_6 : ¬ y1 ≤ 0) (g1_7 : 0 < y1) (H : Heap) (locs : List Loc) (ls : Array Slot) (hP : va_P D vwCl [(a0, .inr (8, [.ref a1, .ref a3, .ref a4, .ref a5, .int 0, .int 0, .int (-1)])), (a1, .inr (5, [.ref a6, .int 0, .int 0, .int 0, .int 0, .int 0, .int 0, .int 0, .int 0, .ref a7, .int 0, .null, .int 0, .int 0])), (a2, .inr (9, [.int 0, .ref a8, .int 0, .int 0, .int 0, .int 0, .int 0, .int (-1), .ref a9, .ref a10, .ref a11, .ref a12, .int 0, .int 0, .int 0, .int 0, .int 0, .ref a13]))] H) (hD : va_D A [(a0, .inr (8, [.ref a1, .ref a3, .ref a4, .ref a5, .int 0, .int 0, .int (-1)])), (a1, .inr (5, [.ref a6, .int 0, .int 0, .int 0, .int 0, .int 0, .int 0, .int 0, .int 0, .ref a7, .int 0, .null, .int 0, .int 0])), (a2, .inr (9, [.int 0, .ref a8, .int 0, .int 0, .int 0, .int 0, .int 0, .int (-1), .ref a9, .ref a10, .ref a11, .ref a12, .int 0, .int 0, .int 0, .int 0, .int 0, .ref a13]))]) (hS : va_S A s.heap H locs) (hl : lv_has ls 9 [(4, .int 0), (3, .ref a14), (2, .ref a2), (1, .ref a0), (0, .ref b)]) : W p l e room_1 s m args below meth c H locs 391 467079 Q (F0 m 209 ls []) := by
  refine lv_aload_n hx hb dL_law_209 rfl (lv_at hl 3 rfl) ?_
  refine lv_aload_n hx hb dL_law_210 rfl (lv_at hl 4 rfl) ?_
  refine lv_iload hx hb dL_law_211 (lv_at hl 0 rfl) ?_
  refine lv_iconst (v := 1) hx hb dL_law_213 (by decide) ?_
  refine lv_iadd hx hb dL_law_214 ?_
  refine tp_i (1) (by decide) ?_
  refine va_sld hx hb hX hbl hbA hS (vin (by decide +kernel)) dL_law_215 ?_
  refine tp_i (y1) hy1 ?_
  refine lv_aload_n hx hb dL_law_216 rfl (lv_at hl 1 rfl) ?_
  refine ch_i (As := [.ref a0, .int y1, .ref a14]) (rest := []) (wr := [(a2, .inr (9, [.int 0, .ref a8, .int 0, .int 0, .int 0, .int 0, .int 0, .int (-1), .ref a9, .ref a10, .ref a11, .ref a12, .int 0, .int 0, .int 0, .int 0, .int 0, .ref a13]))]) ⟨hx, hb, hml, hown, hts⟩ (fun sz => k625_L_load l D cs sz hlt a0 a1 a14 a3 a4 a5 a6 a7 (y1) g1_4 g1_6) (vx_cwSW 3 hts gL_law_L_load rfl rfl rfl hdL_load_o ⟨Nat.le_of_ble_eq_true rfl, Nat.le_of_ble_eq_true rfl⟩) hN hP hD hS hA hZ [0, 1] [2] rfl rfl rfl rfl (by decide) rfl rfl hl.1 (Nat.le_of_ble_eq_true rfl) dL_law_217 (Nat.le_of_ble_eq_true rfl) (Nat.le_of_ble_eq_true rfl) (fun u0 H locs hP hD hS => ?_)
  have hP : va_P D vwCl [(a2, .inr (9, [.int 0, .ref a8, .int 0, .int 0, .int 0, .int 0, .int 0, .int (-1), .ref a9, .ref a10, .ref a11, .ref a12, .int 0, .int 0, .int 0, .int 0, .int 0, .ref a13]))] H := hP
  have hD : va_D A [(a2, .inr (9, [.int 0, .ref a8, .int 0, .int 0, .int 0, .int 0, .int 0, .int (-1), .ref a9, .ref a10, .ref a11, .ref a12, .int 0, .int 0, .int 0, .int 0, .int 0, .ref a13]))] := hD
  refine W.widen (k := 392) (n := 467085) (Nat.le_of_ble_eq_true rfl) (Nat.le_of_ble_eq_true rfl) ?_
  refine lv_istore (lv' := [(5, .int 1), (4, .int 0), (3, .ref a14), (2, .ref a2), (1, .ref a0), (0, .ref b)]) hx hb dL_law_220 hl (by decide) rfl (fun ls hl => ?_)
  refine lv_aload_n hx hb dL_law_222 rfl (lv_at hl 3 rfl) ?_
  refine lv_aload_n hx hb dL_law_223 rfl (lv_at hl 5 rfl) ?_
  refine lv_iload hx hb dL_law_224 (lv_at hl 1 rfl) ?_
  refine lv_iconst (v := 1) hx hb dL_law_226 (by decide) ?_
  refine lv_iadd hx hb dL_law_227 ?_
  refine tp_i (1) (by decide) ?_
  refine va_sld hx hb hX hbl hbA hS (vin (by decide +kernel)) dL_law_228 ?_
  refine tp_i (y1) hy1 ?_
  refine czv_i (As := [.int y1]) (rest := []) (b := a2) (wr := []) ⟨hx, hb, hml, hown, hts⟩ (fun sz => k626_X9_load l D cs sz a2 a8 a9 a10 a11 a12 a13 (y1) g1_4 g1_7) (cwV 1 hts gL_law_X9_load rfl rfl rfl hdX9_load_v ⟨Nat.le_of_ble_eq_true rfl, Nat.le_of_ble_eq_true rfl⟩) hN hP hD hS hA hZS [0] [] rfl rfl rfl rfl (by decide) (ci := 9) (q0 := 0) rfl rfl rfl rfl hl.1 (Nat.le_of_ble_eq_true rfl) dL_law_229 (Nat.le_of_ble_eq_true rfl) (Nat.le_of_ble_eq_true rfl) (fun u1 H locs hP hD hS => ?_)
  have hP : va_P D vwCl [(a2, .inr (9, [.int 1, .ref a8, .int 0, .int 0, .int 0, .int 0, .int 0, .int (-1), .ref a9, .ref a10, .ref a11, .ref a12, .int 0, .int 0, .int 0, .int 0, .int 0, .ref a13]))] H := hP
  have hD : va_D A [(a2, .inr (9, [.int 1, .ref a8, .int 0, .int 0, .int 0, .int 0, .int 0, .int (-1), .ref a9, .ref a10, .ref a11, .ref a12, .int 0, .int 0, .int 0, .int 0, .int 0, .ref a13]))] := hD
  refine W.widen (k := 392) (n := 467085) (Nat.le_of_ble_eq_true rfl) (Nat.le_of_ble_eq_true rfl) ?_
  refine lv_istore (lv' := [(6, .int 0), (5, .int 1), (4, .int 0), (3, .ref a14), (2, .ref a2), (1, .ref a0), (0, .ref b)]) hx hb dL_law_232 hl (by decide) rfl (fun ls hl => ?_)
  refine lv_aload_n hx hb dL_law_234 rfl (lv_at hl 4 rfl) ?_
  refine cv_i (As := []) (rest := []) (b := a2) (wr := []) ⟨hx, hb, hml, hown, hts⟩ (fun sz => k158_X9_thrown l D cs sz a2 a8 a9 a10 a11 a12 a13) (cwV 0 hts gL_law_X9_thrown rfl rfl rfl hdX9_thrown_v ⟨Nat.le_of_ble_eq_true rfl, Nat.le_of_ble_eq_true rfl⟩) hN hP hD hS hA [0] [] rfl rfl rfl rfl (by decide) (ci := 9) (q0 := 0) rfl rfl rfl rfl hl.1 (Nat.le_of_ble_eq_true rfl) dL_law_235 (Nat.le_of_ble_eq_true rfl) (Nat.le_of_ble_eq_true rfl) (fun u2 H locs hP hD hS => ?_)
  have hP : va_P D vwCl [(a2, .inr (9, [.int 1, .ref a8, .int 0, .int 0, .int 0, .int 0, .int 0, .int (-1), .ref a9, .ref a10, .ref a11, .ref a12, .int 0, .int 0, .int 0, .int 0, .int 0, .ref a13]))] H := hP
  have hD : va_D A [(a2, .inr (9, [.int 1, .ref a8, .int 0, .int 0, .int 0, .int 0, .int 0, .int (-1), .ref a9, .ref a10, .ref a11, .ref a12, .int 0, .int 0, .int 0, .int 0, .int 0, .ref a13]))] := hD
  refine W.widen (k := 392) (n := 467085) (Nat.le_of_ble_eq_true rfl) (Nat.le_of_ble_eq_true rfl) ?_
  refine lv_iload hx hb dL_law_238 (lv_at hl 1 rfl) ?_
  refine lv_icmp_eq (tgt := 245) hx hb dL_law_240 (by decide) (fun _ => ?_) (fun c9 => absurd (by decide) c9)
  refine lv_iload hx hb dL_law_245 (lv_at hl 1 rfl) ?_
  refine lv_if_ne (tgt := 262) hx hb dL_law_247 (by decide) (fun _ => ?_) (fun c9 => absurd c9 (by decide))
  refine lv_goto (tgt := 1169) hx hb dL_law_262 (by decide) ?_
  refine W.widen (k := 600002) (n := 7302232) (Nat.le_of_ble_eq_true rfl) (Nat.le_of_ble_eq_true rfl) ?_
  exact kend _ _ _ hS (lv_sub hl [6, 2] rfl)

theorem mX8_checksum_1 : (.constantLong RX8 228 (31) : Cond) ∈ wsX8_checksum := List.mem_of_getElem? (i := 1) (by decide +kernel)
theorem mX8_checksum_2 : (.fieldLink RX8 19 "OneBeat" "now" "LOneBeat$World;" : Cond) ∈ wsX8_checksum := List.mem_of_getElem? (i := 2) (by decide +kernel)
theorem iX8_checksum_8 : ∀ w ∈ wsX80, w ∈ wsX8_checksum := fun w h => List.mem_of_mem_drop (List.mem_of_mem_take ((show wsX80 = (wsX8_checksum.drop 156).take 7 by decide +kernel) ▸ h))
theorem iX8_checksum_7 : ∀ w ∈ wsX70, w ∈ wsX8_checksum := fun w h => List.mem_of_mem_drop (List.mem_of_mem_take ((show wsX70 = (wsX8_checksum.drop 163).take 16 by decide +kernel) ▸ h))
theorem iX8_checksum_6 : ∀ w ∈ wsX60, w ∈ wsX8_checksum := fun w h => List.mem_of_mem_drop (List.mem_of_mem_take ((show wsX60 = (wsX8_checksum.drop 179).take 8 by decide +kernel) ▸ h))
theorem iX8_checksum_2 : ∀ w ∈ wsX20, w ∈ wsX8_checksum := fun w h => List.mem_of_mem_drop (List.mem_of_mem_take ((show wsX20 = (wsX8_checksum.drop 187).take 3 by decide +kernel) ▸ h))
set_option maxHeartbeats 4000000 in
set_option maxRecDepth 100000 in
theorem k627_X8_checksum (l : Launch) (D : va_G) (cs : Nat → ClassId) (sz : Nat) (a0 a1 a2 a3 a4 a5 a6 a7 a8 a9 a10 a11 a12 a13 a14 a15 a16 a17 a18 a19 a20 a21 a22 a23 a24 : Nat) : KL l yX8_checksum wsX8_checksum 6 133 0 0 D cs sz [.ref a0] [(a0, .inr (8, [.ref a9, .ref a1, .ref a10, .ref a11, .int 0, .int 0, .int (-1)])), (a1, .inr (7, [.ref a2, .ref a4, .ref a3, .ref a12, .ref a13, .ref a14, .long 0, .int 0, .int 0, .int 0, .int 0, .int 0, .int 0, .int 0, .int 0, .int 0])), (a2, .inr (6, [.int 1, .int 1, .int 50, .null, .ref a15, .ref a7, .ref a8, .ref a6])), (a3, .inr (2, [.ref a16, .ref a17, .int 0])), (a4, .inl (cs 4, 8, .inr (.inr (.inr (.inr (va_up (va_up (va_up (va_up (va_up (va_up (va_up (va_up (fun _ => none) 0 (some a5)) 1 (some a18)) 2 (some a19)) 3 (some a20)) 4 (some a21)) 5 (some a22)) 6 (some a23)) 7 (some a24))))))), (a5, .inr (3, [.int 1, .int 0, .int 0, .int 0, .int (-1), .int 0, .int 0, .int 0, .int 0, .int (-1)])), (a6, .inl (cs 0, 64, .inl (fun _ => 0))), (a7, .inl (cs 0, 8, .inl (fun _ => 0))), (a8, .inl (cs 0, 8, .inl (fun _ => 0)))] (fun u => [(a0, .inr (8, [.ref a9, .ref a1, .ref a10, .ref a11, .int 0, .int 0, .int (-1)])), (a3, .inr (2, [.ref a16, .ref a17, .int 0])), (a6, .inl (cs 0, 64, .inl (fun _ => 0))), (a5, .inr (3, [.int 1, .int 0, .int 0, .int 0, .int (-1), .int 0, .int 0, .int 0, .int 0, .int (-1)])), (a4, .inl (cs 4, 8, .inr (.inr (.inr (.inr (va_up (va_up (va_up (va_up (va_up (va_up (va_up (va_up (fun _ => none) 0 (some a5)) 1 (some a18)) 2 (some a19)) 3 (some a20)) 4 (some a21)) 5 (some a22)) 6 (some a23)) 7 (some a24))))))), (a1, .inr (7, [.ref a2, .ref a4, .ref a3, .ref a12, .ref a13, .ref a14, .long 0, .int 0, .int 0, .int 0, .int 0, .int 0, .int 0, .int 0, .int 0, .int 0])), (a2, .inr (6, [.int 1, .int 1, .int 50, .null, .ref a15, .ref a7, .ref a8, .ref a6])), (a7, .inl (cs 0, 8, .inl (fun _ => 0))), (a8, .inl (cs 0, 8, .inl (fun _ => 0)))]) (8116224355403263776) := by
  refine KL.of cX8_checksum 5 (some .long) (by decide) rfl (Nat.le_of_ble_eq_true rfl) ?_
  intro p e s m below meth c A ls hx hb hr hml hown hts hlocks hin hP hN hD hA hS hl
  have hown : s.vm.findClass RX8 = some m.cls := hown
  have hl : lv_has ls 5 [(0, .ref a0)] := hl
  refine lv_lconst (v := 0) hx hb dX8_checksum_0 (by decide) ?_
  refine lv_lstore_n (lv' := [(1, .long 0), (0, .ref a0)]) hx hb dX8_checksum_1 rfl hl (by decide) rfl (fun ls hl => ?_)
  refine lv_iconst (v := 0) hx hb dX8_checksum_2 (by decide) ?_
  refine lv_istore_n (lv' := [(3, .int 0), (1, .long 0), (0, .ref a0)]) hx hb dX8_checksum_3 rfl hl (by decide) rfl (fun ls hl => ?_)
  refine lv_iload_n hx hb dX8_checksum_4 rfl (lv_at hl 0 rfl) ?_
  refine lv_bipush (v := 12) hx hb dX8_checksum_5 (by decide) ?_
  refine lv_icmp_gt (tgt := 32) hx hb dX8_checksum_7 (by decide) (fun c9 => absurd c9 (by decide)) (fun _ => ?_)
  refine lv_ldc2 (v := 31) hx hb hown (hts _ mX8_checksum_1) dX8_checksum_10 ?_
  refine lv_lload_n hx hb dX8_checksum_13 rfl (lv_at hl 1 rfl) ?_
  refine lv_lmul hx hb dX8_checksum_14 ?_
  refine tp_l (0) (by decide) ?_
  refine lv_aload_n hx hb dX8_checksum_15 rfl (lv_at hl 2 rfl) ?_
  refine va_get (D := D) (ci := 8) (v := .ref a1) (C := RX8) (T := TX8) (N := 7) hx hb hts iX8_checksum_8 hown hN.1 hP 0 rfl rfl 1 (by decide) (hts _ mX8_checksum_2) (fun _ h9 => h9) rfl dX8_checksum_16 ?_
  refine lv_iload_n hx hb dX8_checksum_19 rfl (lv_at hl 0 rfl) ?_
  refine cv_i (As := [.int 0]) (rest := [.long 0]) (b := a1) (wr := [(a0, .inr (8, [.ref a9, .ref a1, .ref a10, .ref a11, .int 0, .int 0, .int (-1)])), (a3, .inr (2, [.ref a16, .ref a17, .int 0])), (a4, .inl (cs 4, 8, .inr (.inr (.inr (.inr (va_up (va_up (va_up (va_up (va_up (va_up (va_up (va_up (fun _ => none) 0 (some a5)) 1 (some a18)) 2 (some a19)) 3 (some a20)) 4 (some a21)) 5 (some a22)) 6 (some a23)) 7 (some a24))))))), (a5, .inr (3, [.int 1, .int 0, .int 0, .int 0, .int (-1), .int 0, .int 0, .int 0, .int 0, .int (-1)])), (a6, .inl (cs 0, 64, .inl (fun _ => 0))), (a7, .inl (cs 0, 8, .inl (fun _ => 0))), (a8, .inl (cs 0, 8, .inl (fun _ => 0)))]) ⟨hx, hb, hml, hown, hts⟩ (fun sz => k43_X7_count l D cs sz a1 a2 a4 a3 a12 a13 a14 a15 a7 a8 a6) (cwV 1 hts gX8_checksum_X7_count rfl rfl rfl hdX7_count_v ⟨Nat.le_of_ble_eq_true rfl, Nat.le_of_ble_eq_true rfl⟩) hN hP hD hS hA [1, 2] [0, 3, 4, 5, 6, 7, 8] rfl rfl rfl rfl (by decide) (ci := 7) (q0 := 0) rfl rfl rfl rfl hl.1 (Nat.le_of_ble_eq_true rfl) dX8_checksum_20 (Nat.le_of_ble_eq_true rfl) (Nat.le_of_ble_eq_true rfl) (fun u0 H locs hP hD hS => ?_)
  have hP : va_P D vwCl [(a0, .inr (8, [.ref a9, .ref a1, .ref a10, .ref a11, .int 0, .int 0, .int (-1)])), (a3, .inr (2, [.ref a16, .ref a17, .int 0])), (a4, .inl (cs 4, 8, .inr (.inr (.inr (.inr (va_up (va_up (va_up (va_up (va_up (va_up (va_up (va_up (fun _ => none) 0 (some a5)) 1 (some a18)) 2 (some a19)) 3 (some a20)) 4 (some a21)) 5 (some a22)) 6 (some a23)) 7 (some a24))))))), (a5, .inr (3, [.int 1, .int 0, .int 0, .int 0, .int (-1), .int 0, .int 0, .int 0, .int 0, .int (-1)])), (a6, .inl (cs 0, 64, .inl (fun _ => 0))), (a7, .inl (cs 0, 8, .inl (fun _ => 0))), (a8, .inl (cs 0, 8, .inl (fun _ => 0))), (a1, .inr (7, [.ref a2, .ref a4, .ref a3, .ref a12, .ref a13, .ref a14, .long 0, .int 0, .int 0, .int 0, .int 0, .int 0, .int 0, .int 0, .int 0, .int 0])), (a2, .inr (6, [.int 1, .int 1, .int 50, .null, .ref a15, .ref a7, .ref a8, .ref a6]))] H := hP
  have hD : va_D A [(a0, .inr (8, [.ref a9, .ref a1, .ref a10, .ref a11, .int 0, .int 0, .int (-1)])), (a3, .inr (2, [.ref a16, .ref a17, .int 0])), (a4, .inl (cs 4, 8, .inr (.inr (.inr (.inr (va_up (va_up (va_up (va_up (va_up (va_up (va_up (va_up (fun _ => none) 0 (some a5)) 1 (some a18)) 2 (some a19)) 3 (some a20)) 4 (some a21)) 5 (some a22)) 6 (some a23)) 7 (some a24))))))), (a5, .inr (3, [.int 1, .int 0, .int 0, .int 0, .int (-1), .int 0, .int 0, .int 0, .int 0, .int (-1)])), (a6, .inl (cs 0, 64, .inl (fun _ => 0))), (a7, .inl (cs 0, 8, .inl (fun _ => 0))), (a8, .inl (cs 0, 8, .inl (fun _ => 0))), (a1, .inr (7, [.ref a2, .ref a4, .ref a3, .ref a12, .ref a13, .ref a14, .long 0, .int 0, .int 0, .int 0, .int 0, .int 0, .int 0, .int 0, .int 0, .int 0])), (a2, .inr (6, [.int 1, .int 1, .int 50, .null, .ref a15, .ref a7, .ref a8, .ref a6]))] := hD
  refine W.widen (k := 0) (n := 0) (Nat.le_of_ble_eq_true rfl) (Nat.le_of_ble_eq_true rfl) ?_
  refine lv_i2l (v := 1) hx hb dX8_checksum_23 (by decide) ?_
  refine lv_ladd hx hb dX8_checksum_24 ?_
  refine tp_l (1) (by decide) ?_
  refine lv_lstore_n (lv' := [(1, .long 1), (3, .int 0), (0, .ref a0)]) hx hb dX8_checksum_25 rfl hl (by decide) rfl (fun ls hl => ?_)
  refine lv_iinc (v := 1) (lv' := [(3, .int 1), (1, .long 1), (0, .ref a0)]) hx hb dX8_checksum_26 hl (k := 1) rfl (by decide) (by decide) rfl (fun ls hl => ?_)
  refine lv_goto (tgt := 4) hx hb dX8_checksum_29 (by decide) ?_
  refine lv_iload_n hx hb dX8_checksum_4 rfl (lv_at hl 0 rfl) ?_
  refine lv_bipush (v := 12) hx hb dX8_checksum_5 (by decide) ?_
  refine lv_icmp_gt (tgt := 32) hx hb dX8_checksum_7 (by decide) (fun c9 => absurd c9 (by decide)) (fun _ => ?_)
  refine lv_ldc2 (v := 31) hx hb hown (hts _ mX8_checksum_1) dX8_checksum_10 ?_
  refine lv_lload_n hx hb dX8_checksum_13 rfl (lv_at hl 1 rfl) ?_
  refine lv_lmul hx hb dX8_checksum_14 ?_
  refine tp_l (31) (by decide) ?_
  refine lv_aload_n hx hb dX8_checksum_15 rfl (lv_at hl 2 rfl) ?_
  refine va_get (D := D) (ci := 8) (v := .ref a1) (C := RX8) (T := TX8) (N := 7) hx hb hts iX8_checksum_8 hown hN.1 hP 0 rfl rfl 1 (by decide) (hts _ mX8_checksum_2) (fun _ h9 => h9) rfl dX8_checksum_16 ?_
  refine lv_iload_n hx hb dX8_checksum_19 rfl (lv_at hl 0 rfl) ?_
  refine cv_i (As := [.int 1]) (rest := [.long 31]) (b := a1) (wr := [(a0, .inr (8, [.ref a9, .ref a1, .ref a10, .ref a11, .int 0, .int 0, .int (-1)])), (a3, .inr (2, [.ref a16, .ref a17, .int 0])), (a4, .inl (cs 4, 8, .inr (.inr (.inr (.inr (va_up (va_up (va_up (va_up (va_up (va_up (va_up (va_up (fun _ => none) 0 (some a5)) 1 (some a18)) 2 (some a19)) 3 (some a20)) 4 (some a21)) 5 (some a22)) 6 (some a23)) 7 (some a24))))))), (a5, .inr (3, [.int 1, .int 0, .int 0, .int 0, .int (-1), .int 0, .int 0, .int 0, .int 0, .int (-1)])), (a6, .inl (cs 0, 64, .inl (fun _ => 0))), (a7, .inl (cs 0, 8, .inl (fun _ => 0))), (a8, .inl (cs 0, 8, .inl (fun _ => 0))), (a2, .inr (6, [.int 1, .int 1, .int 50, .null, .ref a15, .ref a7, .ref a8, .ref a6]))]) ⟨hx, hb, hml, hown, hts⟩ (fun sz => k52_X7_count l D cs sz a1 a2 a4 a3 a12 a13 a14) (cwV 1 hts gX8_checksum_X7_count rfl rfl rfl hdX7_count_v ⟨Nat.le_of_ble_eq_true rfl, Nat.le_of_ble_eq_true rfl⟩) hN hP hD hS hA [7] [0, 1, 2, 3, 4, 5, 6, 8] rfl rfl rfl rfl (by decide) (ci := 7) (q0 := 0) rfl rfl rfl rfl hl.1 (Nat.le_of_ble_eq_true rfl) dX8_checksum_20 (Nat.le_of_ble_eq_true rfl) (Nat.le_of_ble_eq_true rfl) (fun u1 H locs hP hD hS => ?_)
  have hP : va_P D vwCl [(a0, .inr (8, [.ref a9, .ref a1, .ref a10, .ref a11, .int 0, .int 0, .int (-1)])), (a3, .inr (2, [.ref a16, .ref a17, .int 0])), (a4, .inl (cs 4, 8, .inr (.inr (.inr (.inr (va_up (va_up (va_up (va_up (va_up (va_up (va_up (va_up (fun _ => none) 0 (some a5)) 1 (some a18)) 2 (some a19)) 3 (some a20)) 4 (some a21)) 5 (some a22)) 6 (some a23)) 7 (some a24))))))), (a5, .inr (3, [.int 1, .int 0, .int 0, .int 0, .int (-1), .int 0, .int 0, .int 0, .int 0, .int (-1)])), (a6, .inl (cs 0, 64, .inl (fun _ => 0))), (a7, .inl (cs 0, 8, .inl (fun _ => 0))), (a8, .inl (cs 0, 8, .inl (fun _ => 0))), (a2, .inr (6, [.int 1, .int 1, .int 50, .null, .ref a15, .ref a7, .ref a8, .ref a6])), (a1, .inr (7, [.ref a2, .ref a4, .ref a3, .ref a12, .ref a13, .ref a14, .long 0, .int 0, .int 0, .int 0, .int 0, .int 0, .int 0, .int 0, .int 0, .int 0]))] H := hP
  have hD : va_D A [(a0, .inr (8, [.ref a9, .ref a1, .ref a10, .ref a11, .int 0, .int 0, .int (-1)])), (a3, .inr (2, [.ref a16, .ref a17, .int 0])), (a4, .inl (cs 4, 8, .inr (.inr (.inr (.inr (va_up (va_up (va_up (va_up (va_up (va_up (va_up (va_up (fun _ => none) 0 (some a5)) 1 (some a18)) 2 (some a19)) 3 (some a20)) 4 (some a21)) 5 (some a22)) 6 (some a23)) 7 (some a24))))))), (a5, .inr (3, [.int 1, .int 0, .int 0, .int 0, .int (-1), .int 0, .int 0, .int 0, .int 0, .int (-1)])), (a6, .inl (cs 0, 64, .inl (fun _ => 0))), (a7, .inl (cs 0, 8, .inl (fun _ => 0))), (a8, .inl (cs 0, 8, .inl (fun _ => 0))), (a2, .inr (6, [.int 1, .int 1, .int 50, .null, .ref a15, .ref a7, .ref a8, .ref a6])), (a1, .inr (7, [.ref a2, .ref a4, .ref a3, .ref a12, .ref a13, .ref a14, .long 0, .int 0, .int 0, .int 0, .int 0, .int 0, .int 0, .int 0, .int 0, .int 0]))] := hD
  refine W.widen (k := 0) (n := 0) (Nat.le_of_ble_eq_true rfl) (Nat.le_of_ble_eq_true rfl) ?_
  refine lv_i2l (v := 0) hx hb dX8_checksum_23 (by decide) ?_
  refine lv_ladd hx hb dX8_checksum_24 ?_
  refine tp_l (31) (by decide) ?_
  refine lv_lstore_n (lv' := [(1, .long 31), (3, .int 1), (0, .ref a0)]) hx hb dX8_checksum_25 rfl hl (by decide) rfl (fun ls hl => ?_)
  refine lv_iinc (v := 2) (lv' := [(3, .int 2), (1, .long 31), (0, .ref a0)]) hx hb dX8_checksum_26 hl (k := 1) rfl (by decide) (by decide) rfl (fun ls hl => ?_)
  refine lv_goto (tgt := 4) hx hb dX8_checksum_29 (by decide) ?_
  refine lv_iload_n hx hb dX8_checksum_4 rfl (lv_at hl 0 rfl) ?_
  refine lv_bipush (v := 12) hx hb dX8_checksum_5 (by decide) ?_
  refine lv_icmp_gt (tgt := 32) hx hb dX8_checksum_7 (by decide) (fun c9 => absurd c9 (by decide)) (fun _ => ?_)
  refine lv_ldc2 (v := 31) hx hb hown (hts _ mX8_checksum_1) dX8_checksum_10 ?_
  refine lv_lload_n hx hb dX8_checksum_13 rfl (lv_at hl 1 rfl) ?_
  refine lv_lmul hx hb dX8_checksum_14 ?_
  refine tp_l (961) (by decide) ?_
  refine lv_aload_n hx hb dX8_checksum_15 rfl (lv_at hl 2 rfl) ?_
  refine va_get (D := D) (ci := 8) (v := .ref a1) (C := RX8) (T := TX8) (N := 7) hx hb hts iX8_checksum_8 hown hN.1 hP 0 rfl rfl 1 (by decide) (hts _ mX8_checksum_2) (fun _ h9 => h9) rfl dX8_checksum_16 ?_
  refine lv_iload_n hx hb dX8_checksum_19 rfl (lv_at hl 0 rfl) ?_
  refine cv_i (As := [.int 2]) (rest := [.long 961]) (b := a1) (wr := [(a0, .inr (8, [.ref a9, .ref a1, .ref a10, .ref a11, .int 0, .int 0, .int (-1)])), (a3, .inr (2, [.ref a16, .ref a17, .int 0])), (a4, .inl (cs 4, 8, .inr (.inr (.inr (.inr (va_up (va_up (va_up (va_up (va_up (va_up (va_up (va_up (fun _ => none) 0 (some a5)) 1 (some a18)) 2 (some a19)) 3 (some a20)) 4 (some a21)) 5 (some a22)) 6 (some a23)) 7 (some a24))))))), (a5, .inr (3, [.int 1, .int 0, .int 0, .int 0, .int (-1), .int 0, .int 0, .int 0, .int 0, .int (-1)])), (a6, .inl (cs 0, 64, .inl (fun _ => 0))), (a7, .inl (cs 0, 8, .inl (fun _ => 0))), (a8, .inl (cs 0, 8, .inl (fun _ => 0))), (a2, .inr (6, [.int 1, .int 1, .int 50, .null, .ref a15, .ref a7, .ref a8, .ref a6]))]) ⟨hx, hb, hml, hown, hts⟩ (fun sz => k59_X7_count l D cs sz a1 a2 a4 a3 a12 a13 a14) (cwV 1 hts gX8_checksum_X7_count rfl rfl rfl hdX7_count_v ⟨Nat.le_of_ble_eq_true rfl, Nat.le_of_ble_eq_true rfl⟩) hN hP hD hS hA [8] [0, 1, 2, 3, 4, 5, 6, 7] rfl rfl rfl rfl (by decide) (ci := 7) (q0 := 0) rfl rfl rfl rfl hl.1 (Nat.le_of_ble_eq_true rfl) dX8_checksum_20 (Nat.le_of_ble_eq_true rfl) (Nat.le_of_ble_eq_true rfl) (fun u2 H locs hP hD hS => ?_)
  have hP : va_P D vwCl [(a0, .inr (8, [.ref a9, .ref a1, .ref a10, .ref a11, .int 0, .int 0, .int (-1)])), (a3, .inr (2, [.ref a16, .ref a17, .int 0])), (a4, .inl (cs 4, 8, .inr (.inr (.inr (.inr (va_up (va_up (va_up (va_up (va_up (va_up (va_up (va_up (fun _ => none) 0 (some a5)) 1 (some a18)) 2 (some a19)) 3 (some a20)) 4 (some a21)) 5 (some a22)) 6 (some a23)) 7 (some a24))))))), (a5, .inr (3, [.int 1, .int 0, .int 0, .int 0, .int (-1), .int 0, .int 0, .int 0, .int 0, .int (-1)])), (a6, .inl (cs 0, 64, .inl (fun _ => 0))), (a7, .inl (cs 0, 8, .inl (fun _ => 0))), (a8, .inl (cs 0, 8, .inl (fun _ => 0))), (a2, .inr (6, [.int 1, .int 1, .int 50, .null, .ref a15, .ref a7, .ref a8, .ref a6])), (a1, .inr (7, [.ref a2, .ref a4, .ref a3, .ref a12, .ref a13, .ref a14, .long 0, .int 0, .int 0, .int 0, .int 0, .int 0, .int 0, .int 0, .int 0, .int 0]))] H := hP
  have hD : va_D A [(a0, .inr (8, [.ref a9, .ref a1, .ref a10, .ref a11, .int 0, .int 0, .int (-1)])), (a3, .inr (2, [.ref a16, .ref a17, .int 0])), (a4, .inl (cs 4, 8, .inr (.inr (.inr (.inr (va_up (va_up (va_up (va_up (va_up (va_up (va_up (va_up (fun _ => none) 0 (some a5)) 1 (some a18)) 2 (some a19)) 3 (some a20)) 4 (some a21)) 5 (some a22)) 6 (some a23)) 7 (some a24))))))), (a5, .inr (3, [.int 1, .int 0, .int 0, .int 0, .int (-1), .int 0, .int 0, .int 0, .int 0, .int (-1)])), (a6, .inl (cs 0, 64, .inl (fun _ => 0))), (a7, .inl (cs 0, 8, .inl (fun _ => 0))), (a8, .inl (cs 0, 8, .inl (fun _ => 0))), (a2, .inr (6, [.int 1, .int 1, .int 50, .null, .ref a15, .ref a7, .ref a8, .ref a6])), (a1, .inr (7, [.ref a2, .ref a4, .ref a3, .ref a12, .ref a13, .ref a14, .long 0, .int 0, .int 0, .int 0, .int 0, .int 0, .int 0, .int 0, .int 0, .int 0]))] := hD
  refine W.widen (k := 0) (n := 0) (Nat.le_of_ble_eq_true rfl) (Nat.le_of_ble_eq_true rfl) ?_
  refine lv_i2l (v := 0) hx hb dX8_checksum_23 (by decide) ?_
  refine lv_ladd hx hb dX8_checksum_24 ?_
  refine tp_l (961) (by decide) ?_
  refine lv_lstore_n (lv' := [(1, .long 961), (3, .int 2), (0, .ref a0)]) hx hb dX8_checksum_25 rfl hl (by decide) rfl (fun ls hl => ?_)
  refine lv_iinc (v := 3) (lv' := [(3, .int 3), (1, .long 961), (0, .ref a0)]) hx hb dX8_checksum_26 hl (k := 1) rfl (by decide) (by decide) rfl (fun ls hl => ?_)
  refine lv_goto (tgt := 4) hx hb dX8_checksum_29 (by decide) ?_
  refine lv_iload_n hx hb dX8_checksum_4 rfl (lv_at hl 0 rfl) ?_
  refine lv_bipush (v := 12) hx hb dX8_checksum_5 (by decide) ?_
  refine lv_icmp_gt (tgt := 32) hx hb dX8_checksum_7 (by decide) (fun c9 => absurd c9 (by decide)) (fun _ => ?_)
  refine lv_ldc2 (v := 31) hx hb hown (hts _ mX8_checksum_1) dX8_checksum_10 ?_
  refine lv_lload_n hx hb dX8_checksum_13 rfl (lv_at hl 1 rfl) ?_
  refine lv_lmul hx hb dX8_checksum_14 ?_
  refine tp_l (29791) (by decide) ?_
  refine lv_aload_n hx hb dX8_checksum_15 rfl (lv_at hl 2 rfl) ?_
  refine va_get (D := D) (ci := 8) (v := .ref a1) (C := RX8) (T := TX8) (N := 7) hx hb hts iX8_checksum_8 hown hN.1 hP 0 rfl rfl 1 (by decide) (hts _ mX8_checksum_2) (fun _ h9 => h9) rfl dX8_checksum_16 ?_
  refine lv_iload_n hx hb dX8_checksum_19 rfl (lv_at hl 0 rfl) ?_
  refine cv_i (As := [.int 3]) (rest := [.long 29791]) (b := a1) (wr := [(a0, .inr (8, [.ref a9, .ref a1, .ref a10, .ref a11, .int 0, .int 0, .int (-1)])), (a4, .inl (cs 4, 8, .inr (.inr (.inr (.inr (va_up (va_up (va_up (va_up (va_up (va_up (va_up (va_up (fun _ => none) 0 (some a5)) 1 (some a18)) 2 (some a19)) 3 (some a20)) 4 (some a21)) 5 (some a22)) 6 (some a23)) 7 (some a24))))))), (a5, .inr (3, [.int 1, .int 0, .int 0, .int 0, .int (-1), .int 0, .int 0, .int 0, .int 0, .int (-1)])), (a6, .inl (cs 0, 64, .inl (fun _ => 0))), (a7, .inl (cs 0, 8, .inl (fun _ => 0))), (a8, .inl (cs 0, 8, .inl (fun _ => 0))), (a2, .inr (6, [.int 1, .int 1, .int 50, .null, .ref a15, .ref a7, .ref a8, .ref a6]))]) ⟨hx, hb, hml, hown, hts⟩ (fun sz => k66_X7_count l D cs sz a1 a3 a2 a4 a12 a13 a14 a16 a17) (cwV 1 hts gX8_checksum_X7_count rfl rfl rfl hdX7_count_v ⟨Nat.le_of_ble_eq_true rfl, Nat.le_of_ble_eq_true rfl⟩) hN hP hD hS hA [8, 1] [0, 2, 3, 4, 5, 6, 7] rfl rfl rfl rfl (by decide) (ci := 7) (q0 := 0) rfl rfl rfl rfl hl.1 (Nat.le_of_ble_eq_true rfl) dX8_checksum_20 (Nat.le_of_ble_eq_true rfl) (Nat.le_of_ble_eq_true rfl) (fun u3 H locs hP hD hS => ?_)
  have hP : va_P D vwCl [(a0, .inr (8, [.ref a9, .ref a1, .ref a10, .ref a11, .int 0, .int 0, .int (-1)])), (a4, .inl (cs 4, 8, .inr (.inr (.inr (.inr (va_up (va_up (va_up (va_up (va_up (va_up (va_up (va_up (fun _ => none) 0 (some a5)) 1 (some a18)) 2 (some a19)) 3 (some a20)) 4 (some a21)) 5 (some a22)) 6 (some a23)) 7 (some a24))))))), (a5, .inr (3, [.int 1, .int 0, .int 0, .int 0, .int (-1), .int 0, .int 0, .int 0, .int 0, .int (-1)])), (a6, .inl (cs 0, 64, .inl (fun _ => 0))), (a7, .inl (cs 0, 8, .inl (fun _ => 0))), (a8, .inl (cs 0, 8, .inl (fun _ => 0))), (a2, .inr (6, [.int 1, .int 1, .int 50, .null, .ref a15, .ref a7, .ref a8, .ref a6])), (a1, .inr (7, [.ref a2, .ref a4, .ref a3, .ref a12, .ref a13, .ref a14, .long 0, .int 0, .int 0, .int 0, .int 0, .int 0, .int 0, .int 0, .int 0, .int 0])), (a3, .inr (2, [.ref a16, .ref a17, .int 0]))] H := hP
  have hD : va_D A [(a0, .inr (8, [.ref a9, .ref a1, .ref a10, .ref a11, .int 0, .int 0, .int (-1)])), (a4, .inl (cs 4, 8, .inr (.inr (.inr (.inr (va_up (va_up (va_up (va_up (va_up (va_up (va_up (va_up (fun _ => none) 0 (some a5)) 1 (some a18)) 2 (some a19)) 3 (some a20)) 4 (some a21)) 5 (some a22)) 6 (some a23)) 7 (some a24))))))), (a5, .inr (3, [.int 1, .int 0, .int 0, .int 0, .int (-1), .int 0, .int 0, .int 0, .int 0, .int (-1)])), (a6, .inl (cs 0, 64, .inl (fun _ => 0))), (a7, .inl (cs 0, 8, .inl (fun _ => 0))), (a8, .inl (cs 0, 8, .inl (fun _ => 0))), (a2, .inr (6, [.int 1, .int 1, .int 50, .null, .ref a15, .ref a7, .ref a8, .ref a6])), (a1, .inr (7, [.ref a2, .ref a4, .ref a3, .ref a12, .ref a13, .ref a14, .long 0, .int 0, .int 0, .int 0, .int 0, .int 0, .int 0, .int 0, .int 0, .int 0])), (a3, .inr (2, [.ref a16, .ref a17, .int 0]))] := hD
  refine W.widen (k := 0) (n := 0) (Nat.le_of_ble_eq_true rfl) (Nat.le_of_ble_eq_true rfl) ?_
  refine lv_i2l (v := 0) hx hb dX8_checksum_23 (by decide) ?_
  refine lv_ladd hx hb dX8_checksum_24 ?_
  refine tp_l (29791) (by decide) ?_
  refine lv_lstore_n (lv' := [(1, .long 29791), (3, .int 3), (0, .ref a0)]) hx hb dX8_checksum_25 rfl hl (by decide) rfl (fun ls hl => ?_)
  refine lv_iinc (v := 4) (lv' := [(3, .int 4), (1, .long 29791), (0, .ref a0)]) hx hb dX8_checksum_26 hl (k := 1) rfl (by decide) (by decide) rfl (fun ls hl => ?_)
  refine lv_goto (tgt := 4) hx hb dX8_checksum_29 (by decide) ?_
  refine lv_iload_n hx hb dX8_checksum_4 rfl (lv_at hl 0 rfl) ?_
  refine lv_bipush (v := 12) hx hb dX8_checksum_5 (by decide) ?_
  refine lv_icmp_gt (tgt := 32) hx hb dX8_checksum_7 (by decide) (fun c9 => absurd c9 (by decide)) (fun _ => ?_)
  refine lv_ldc2 (v := 31) hx hb hown (hts _ mX8_checksum_1) dX8_checksum_10 ?_
  refine lv_lload_n hx hb dX8_checksum_13 rfl (lv_at hl 1 rfl) ?_
  refine lv_lmul hx hb dX8_checksum_14 ?_
  refine tp_l (923521) (by decide) ?_
  refine lv_aload_n hx hb dX8_checksum_15 rfl (lv_at hl 2 rfl) ?_
  refine va_get (D := D) (ci := 8) (v := .ref a1) (C := RX8) (T := TX8) (N := 7) hx hb hts iX8_checksum_8 hown hN.1 hP 0 rfl rfl 1 (by decide) (hts _ mX8_checksum_2) (fun _ h9 => h9) rfl dX8_checksum_16 ?_
  refine lv_iload_n hx hb dX8_checksum_19 rfl (lv_at hl 0 rfl) ?_
  refine cv_i (As := [.int 4]) (rest := [.long 923521]) (b := a1) (wr := [(a0, .inr (8, [.ref a9, .ref a1, .ref a10, .ref a11, .int 0, .int 0, .int (-1)])), (a4, .inl (cs 4, 8, .inr (.inr (.inr (.inr (va_up (va_up (va_up (va_up (va_up (va_up (va_up (va_up (fun _ => none) 0 (some a5)) 1 (some a18)) 2 (some a19)) 3 (some a20)) 4 (some a21)) 5 (some a22)) 6 (some a23)) 7 (some a24))))))), (a5, .inr (3, [.int 1, .int 0, .int 0, .int 0, .int (-1), .int 0, .int 0, .int 0, .int 0, .int (-1)])), (a6, .inl (cs 0, 64, .inl (fun _ => 0))), (a7, .inl (cs 0, 8, .inl (fun _ => 0))), (a8, .inl (cs 0, 8, .inl (fun _ => 0))), (a2, .inr (6, [.int 1, .int 1, .int 50, .null, .ref a15, .ref a7, .ref a8, .ref a6])), (a3, .inr (2, [.ref a16, .ref a17, .int 0]))]) ⟨hx, hb, hml, hown, hts⟩ (fun sz => k73_X7_count l D cs sz a1 a2 a4 a3 a12 a13 a14) (cwV 1 hts gX8_checksum_X7_count rfl rfl rfl hdX7_count_v ⟨Nat.le_of_ble_eq_true rfl, Nat.le_of_ble_eq_true rfl⟩) hN hP hD hS hA [7] [0, 1, 2, 3, 4, 5, 6, 8] rfl rfl rfl rfl (by decide) (ci := 7) (q0 := 0) rfl rfl rfl rfl hl.1 (Nat.le_of_ble_eq_true rfl) dX8_checksum_20 (Nat.le_of_ble_eq_true rfl) (Nat.le_of_ble_eq_true rfl) (fun u4 H locs hP hD hS => ?_)
  have hP : va_P D vwCl [(a0, .inr (8, [.ref a9, .ref a1, .ref a10, .ref a11, .int 0, .int 0, .int (-1)])), (a4, .inl (cs 4, 8, .inr (.inr (.inr (.inr (va_up (va_up (va_up (va_up (va_up (va_up (va_up (va_up (fun _ => none) 0 (some a5)) 1 (some a18)) 2 (some a19)) 3 (some a20)) 4 (some a21)) 5 (some a22)) 6 (some a23)) 7 (some a24))))))), (a5, .inr (3, [.int 1, .int 0, .int 0, .int 0, .int (-1), .int 0, .int 0, .int 0, .int 0, .int (-1)])), (a6, .inl (cs 0, 64, .inl (fun _ => 0))), (a7, .inl (cs 0, 8, .inl (fun _ => 0))), (a8, .inl (cs 0, 8, .inl (fun _ => 0))), (a2, .inr (6, [.int 1, .int 1, .int 50, .null, .ref a15, .ref a7, .ref a8, .ref a6])), (a3, .inr (2, [.ref a16, .ref a17, .int 0])), (a1, .inr (7, [.ref a2, .ref a4, .ref a3, .ref a12, .ref a13, .ref a14, .long 0, .int 0, .int 0, .int 0, .int 0, .int 0, .int 0, .int 0, .int 0, .int 0]))] H := hP
  have hD : va_D A [(a0, .inr (8, [.ref a9, .ref a1, .ref a10, .ref a11, .int 0, .int 0, .int (-1)])), (a4, .inl (cs 4, 8, .inr (.inr (.inr (.inr (va_up (va_up (va_up (va_up (va_up (va_up (va_up (va_up (fun _ => none) 0 (some a5)) 1 (some a18)) 2 (some a19)) 3 (some a20)) 4 (some a21)) 5 (some a22)) 6 (some a23)) 7 (some a24))))))), (a5, .inr (3, [.int 1, .int 0, .int 0, .int 0, .int (-1), .int 0, .int 0, .int 0, .int 0, .int (-1)])), (a6, .inl (cs 0, 64, .inl (fun _ => 0))), (a7, .inl (cs 0, 8, .inl (fun _ => 0))), (a8, .inl (cs 0, 8, .inl (fun _ => 0))), (a2, .inr (6, [.int 1, .int 1, .int 50, .null, .ref a15, .ref a7, .ref a8, .ref a6])), (a3, .inr (2, [.ref a16, .ref a17, .int 0])), (a1, .inr (7, [.ref a2, .ref a4, .ref a3, .ref a12, .ref a13, .ref a14, .long 0, .int 0, .int 0, .int 0, .int 0, .int 0, .int 0, .int 0, .int 0, .int 0]))] := hD
  refine W.widen (k := 0) (n := 0) (Nat.le_of_ble_eq_true rfl) (Nat.le_of_ble_eq_true rfl) ?_
  refine lv_i2l (v := 0) hx hb dX8_checksum_23 (by decide) ?_
  refine lv_ladd hx hb dX8_checksum_24 ?_
  refine tp_l (923521) (by decide) ?_
  refine lv_lstore_n (lv' := [(1, .long 923521), (3, .int 4), (0, .ref a0)]) hx hb dX8_checksum_25 rfl hl (by decide) rfl (fun ls hl => ?_)
  refine lv_iinc (v := 5) (lv' := [(3, .int 5), (1, .long 923521), (0, .ref a0)]) hx hb dX8_checksum_26 hl (k := 1) rfl (by decide) (by decide) rfl (fun ls hl => ?_)
  refine lv_goto (tgt := 4) hx hb dX8_checksum_29 (by decide) ?_
  refine lv_iload_n hx hb dX8_checksum_4 rfl (lv_at hl 0 rfl) ?_
  refine lv_bipush (v := 12) hx hb dX8_checksum_5 (by decide) ?_
  refine lv_icmp_gt (tgt := 32) hx hb dX8_checksum_7 (by decide) (fun c9 => absurd c9 (by decide)) (fun _ => ?_)
  refine lv_ldc2 (v := 31) hx hb hown (hts _ mX8_checksum_1) dX8_checksum_10 ?_
  refine lv_lload_n hx hb dX8_checksum_13 rfl (lv_at hl 1 rfl) ?_
  refine lv_lmul hx hb dX8_checksum_14 ?_
  refine tp_l (28629151) (by decide) ?_
  refine lv_aload_n hx hb dX8_checksum_15 rfl (lv_at hl 2 rfl) ?_
  refine va_get (D := D) (ci := 8) (v := .ref a1) (C := RX8) (T := TX8) (N := 7) hx hb hts iX8_checksum_8 hown hN.1 hP 0 rfl rfl 1 (by decide) (hts _ mX8_checksum_2) (fun _ h9 => h9) rfl dX8_checksum_16 ?_
  refine lv_iload_n hx hb dX8_checksum_19 rfl (lv_at hl 0 rfl) ?_
  refine cv_i (As := [.int 5]) (rest := [.long 28629151]) (b := a1) (wr := [(a0, .inr (8, [.ref a9, .ref a1, .ref a10, .ref a11, .int 0, .int 0, .int (-1)])), (a4, .inl (cs 4, 8, .inr (.inr (.inr (.inr (va_up (va_up (va_up (va_up (va_up (va_up (va_up (va_up (fun _ => none) 0 (some a5)) 1 (some a18)) 2 (some a19)) 3 (some a20)) 4 (some a21)) 5 (some a22)) 6 (some a23)) 7 (some a24))))))), (a5, .inr (3, [.int 1, .int 0, .int 0, .int 0, .int (-1), .int 0, .int 0, .int 0, .int 0, .int (-1)])), (a6, .inl (cs 0, 64, .inl (fun _ => 0))), (a7, .inl (cs 0, 8, .inl (fun _ => 0))), (a8, .inl (cs 0, 8, .inl (fun _ => 0))), (a2, .inr (6, [.int 1, .int 1, .int 50, .null, .ref a15, .ref a7, .ref a8, .ref a6])), (a3, .inr (2, [.ref a16, .ref a17, .int 0]))]) ⟨hx, hb, hml, hown, hts⟩ (fun sz => k80_X7_count l D cs sz a1 a2 a4 a3 a12 a13 a14) (cwV 1 hts gX8_checksum_X7_count rfl rfl rfl hdX7_count_v ⟨Nat.le_of_ble_eq_true rfl, Nat.le_of_ble_eq_true rfl⟩) hN hP hD hS hA [8] [0, 1, 2, 3, 4, 5, 6, 7] rfl rfl rfl rfl (by decide) (ci := 7) (q0 := 0) rfl rfl rfl rfl hl.1 (Nat.le_of_ble_eq_true rfl) dX8_checksum_20 (Nat.le_of_ble_eq_true rfl) (Nat.le_of_ble_eq_true rfl) (fun u5 H locs hP hD hS => ?_)
  have hP : va_P D vwCl [(a0, .inr (8, [.ref a9, .ref a1, .ref a10, .ref a11, .int 0, .int 0, .int (-1)])), (a4, .inl (cs 4, 8, .inr (.inr (.inr (.inr (va_up (va_up (va_up (va_up (va_up (va_up (va_up (va_up (fun _ => none) 0 (some a5)) 1 (some a18)) 2 (some a19)) 3 (some a20)) 4 (some a21)) 5 (some a22)) 6 (some a23)) 7 (some a24))))))), (a5, .inr (3, [.int 1, .int 0, .int 0, .int 0, .int (-1), .int 0, .int 0, .int 0, .int 0, .int (-1)])), (a6, .inl (cs 0, 64, .inl (fun _ => 0))), (a7, .inl (cs 0, 8, .inl (fun _ => 0))), (a8, .inl (cs 0, 8, .inl (fun _ => 0))), (a2, .inr (6, [.int 1, .int 1, .int 50, .null, .ref a15, .ref a7, .ref a8, .ref a6])), (a3, .inr (2, [.ref a16, .ref a17, .int 0])), (a1, .inr (7, [.ref a2, .ref a4, .ref a3, .ref a12, .ref a13, .ref a14, .long 0, .int 0, .int 0, .int 0, .int 0, .int 0, .int 0, .int 0, .int 0, .int 0]))] H := hP
  have hD : va_D A [(a0, .inr (8, [.ref a9, .ref a1, .ref a10, .ref a11, .int 0, .int 0, .int (-1)])), (a4, .inl (cs 4, 8, .inr (.inr (.inr (.inr (va_up (va_up (va_up (va_up (va_up (va_up (va_up (va_up (fun _ => none) 0 (some a5)) 1 (some a18)) 2 (some a19)) 3 (some a20)) 4 (some a21)) 5 (some a22)) 6 (some a23)) 7 (some a24))))))), (a5, .inr (3, [.int 1, .int 0, .int 0, .int 0, .int (-1), .int 0, .int 0, .int 0, .int 0, .int (-1)])), (a6, .inl (cs 0, 64, .inl (fun _ => 0))), (a7, .inl (cs 0, 8, .inl (fun _ => 0))), (a8, .inl (cs 0, 8, .inl (fun _ => 0))), (a2, .inr (6, [.int 1, .int 1, .int 50, .null, .ref a15, .ref a7, .ref a8, .ref a6])), (a3, .inr (2, [.ref a16, .ref a17, .int 0])), (a1, .inr (7, [.ref a2, .ref a4, .ref a3, .ref a12, .ref a13, .ref a14, .long 0, .int 0, .int 0, .int 0, .int 0, .int 0, .int 0, .int 0, .int 0, .int 0]))] := hD
  refine W.widen (k := 0) (n := 0) (Nat.le_of_ble_eq_true rfl) (Nat.le_of_ble_eq_true rfl) ?_
  refine lv_i2l (v := 0) hx hb dX8_checksum_23 (by decide) ?_
  refine lv_ladd hx hb dX8_checksum_24 ?_
  refine tp_l (28629151) (by decide) ?_
  refine lv_lstore_n (lv' := [(1, .long 28629151), (3, .int 5), (0, .ref a0)]) hx hb dX8_checksum_25 rfl hl (by decide) rfl (fun ls hl => ?_)
  refine lv_iinc (v := 6) (lv' := [(3, .int 6), (1, .long 28629151), (0, .ref a0)]) hx hb dX8_checksum_26 hl (k := 1) rfl (by decide) (by decide) rfl (fun ls hl => ?_)
  refine lv_goto (tgt := 4) hx hb dX8_checksum_29 (by decide) ?_
  refine lv_iload_n hx hb dX8_checksum_4 rfl (lv_at hl 0 rfl) ?_
  refine lv_bipush (v := 12) hx hb dX8_checksum_5 (by decide) ?_
  refine lv_icmp_gt (tgt := 32) hx hb dX8_checksum_7 (by decide) (fun c9 => absurd c9 (by decide)) (fun _ => ?_)
  refine lv_ldc2 (v := 31) hx hb hown (hts _ mX8_checksum_1) dX8_checksum_10 ?_
  refine lv_lload_n hx hb dX8_checksum_13 rfl (lv_at hl 1 rfl) ?_
  refine lv_lmul hx hb dX8_checksum_14 ?_
  refine tp_l (887503681) (by decide) ?_
  refine lv_aload_n hx hb dX8_checksum_15 rfl (lv_at hl 2 rfl) ?_
  refine va_get (D := D) (ci := 8) (v := .ref a1) (C := RX8) (T := TX8) (N := 7) hx hb hts iX8_checksum_8 hown hN.1 hP 0 rfl rfl 1 (by decide) (hts _ mX8_checksum_2) (fun _ h9 => h9) rfl dX8_checksum_16 ?_
  refine lv_iload_n hx hb dX8_checksum_19 rfl (lv_at hl 0 rfl) ?_
  refine cv_i (As := [.int 6]) (rest := [.long 887503681]) (b := a1) (wr := [(a0, .inr (8, [.ref a9, .ref a1, .ref a10, .ref a11, .int 0, .int 0, .int (-1)])), (a4, .inl (cs 4, 8, .inr (.inr (.inr (.inr (va_up (va_up (va_up (va_up (va_up (va_up (va_up (va_up (fun _ => none) 0 (some a5)) 1 (some a18)) 2 (some a19)) 3 (some a20)) 4 (some a21)) 5 (some a22)) 6 (some a23)) 7 (some a24))))))), (a5, .inr (3, [.int 1, .int 0, .int 0, .int 0, .int (-1), .int 0, .int 0, .int 0, .int 0, .int (-1)])), (a6, .inl (cs 0, 64, .inl (fun _ => 0))), (a7, .inl (cs 0, 8, .inl (fun _ => 0))), (a8, .inl (cs 0, 8, .inl (fun _ => 0))), (a2, .inr (6, [.int 1, .int 1, .int 50, .null, .ref a15, .ref a7, .ref a8, .ref a6])), (a3, .inr (2, [.ref a16, .ref a17, .int 0]))]) ⟨hx, hb, hml, hown, hts⟩ (fun sz => k87_X7_count l D cs sz a1 a2 a4 a3 a12 a13 a14) (cwV 1 hts gX8_checksum_X7_count rfl rfl rfl hdX7_count_v ⟨Nat.le_of_ble_eq_true rfl, Nat.le_of_ble_eq_true rfl⟩) hN hP hD hS hA [8] [0, 1, 2, 3, 4, 5, 6, 7] rfl rfl rfl rfl (by decide) (ci := 7) (q0 := 0) rfl rfl rfl rfl hl.1 (Nat.le_of_ble_eq_true rfl) dX8_checksum_20 (Nat.le_of_ble_eq_true rfl) (Nat.le_of_ble_eq_true rfl) (fun u6 H locs hP hD hS => ?_)
  have hP : va_P D vwCl [(a0, .inr (8, [.ref a9, .ref a1, .ref a10, .ref a11, .int 0, .int 0, .int (-1)])), (a4, .inl (cs 4, 8, .inr (.inr (.inr (.inr (va_up (va_up (va_up (va_up (va_up (va_up (va_up (va_up (fun _ => none) 0 (some a5)) 1 (some a18)) 2 (some a19)) 3 (some a20)) 4 (some a21)) 5 (some a22)) 6 (some a23)) 7 (some a24))))))), (a5, .inr (3, [.int 1, .int 0, .int 0, .int 0, .int (-1), .int 0, .int 0, .int 0, .int 0, .int (-1)])), (a6, .inl (cs 0, 64, .inl (fun _ => 0))), (a7, .inl (cs 0, 8, .inl (fun _ => 0))), (a8, .inl (cs 0, 8, .inl (fun _ => 0))), (a2, .inr (6, [.int 1, .int 1, .int 50, .null, .ref a15, .ref a7, .ref a8, .ref a6])), (a3, .inr (2, [.ref a16, .ref a17, .int 0])), (a1, .inr (7, [.ref a2, .ref a4, .ref a3, .ref a12, .ref a13, .ref a14, .long 0, .int 0, .int 0, .int 0, .int 0, .int 0, .int 0, .int 0, .int 0, .int 0]))] H := hP
  have hD : va_D A [(a0, .inr (8, [.ref a9, .ref a1, .ref a10, .ref a11, .int 0, .int 0, .int (-1)])), (a4, .inl (cs 4, 8, .inr (.inr (.inr (.inr (va_up (va_up (va_up (va_up (va_up (va_up (va_up (va_up (fun _ => none) 0 (some a5)) 1 (some a18)) 2 (some a19)) 3 (some a20)) 4 (some a21)) 5 (some a22)) 6 (some a23)) 7 (some a24))))))), (a5, .inr (3, [.int 1, .int 0, .int 0, .int 0, .int (-1), .int 0, .int 0, .int 0, .int 0, .int (-1)])), (a6, .inl (cs 0, 64, .inl (fun _ => 0))), (a7, .inl (cs 0, 8, .inl (fun _ => 0))), (a8, .inl (cs 0, 8, .inl (fun _ => 0))), (a2, .inr (6, [.int 1, .int 1, .int 50, .null, .ref a15, .ref a7, .ref a8, .ref a6])), (a3, .inr (2, [.ref a16, .ref a17, .int 0])), (a1, .inr (7, [.ref a2, .ref a4, .ref a3, .ref a12, .ref a13, .ref a14, .long 0, .int 0, .int 0, .int 0, .int 0, .int 0, .int 0, .int 0, .int 0, .int 0]))] := hD
  refine W.widen (k := 0) (n := 0) (Nat.le_of_ble_eq_true rfl) (Nat.le_of_ble_eq_true rfl) ?_
  refine lv_i2l (v := 0) hx hb dX8_checksum_23 (by decide) ?_
  refine lv_ladd hx hb dX8_checksum_24 ?_
  refine tp_l (887503681) (by decide) ?_
  refine lv_lstore_n (lv' := [(1, .long 887503681), (3, .int 6), (0, .ref a0)]) hx hb dX8_checksum_25 rfl hl (by decide) rfl (fun ls hl => ?_)
  refine lv_iinc (v := 7) (lv' := [(3, .int 7), (1, .long 887503681), (0, .ref a0)]) hx hb dX8_checksum_26 hl (k := 1) rfl (by decide) (by decide) rfl (fun ls hl => ?_)
  refine lv_goto (tgt := 4) hx hb dX8_checksum_29 (by decide) ?_
  refine lv_iload_n hx hb dX8_checksum_4 rfl (lv_at hl 0 rfl) ?_
  refine lv_bipush (v := 12) hx hb dX8_checksum_5 (by decide) ?_
  refine lv_icmp_gt (tgt := 32) hx hb dX8_checksum_7 (by decide) (fun c9 => absurd c9 (by decide)) (fun _ => ?_)
  refine lv_ldc2 (v := 31) hx hb hown (hts _ mX8_checksum_1) dX8_checksum_10 ?_
  refine lv_lload_n hx hb dX8_checksum_13 rfl (lv_at hl 1 rfl) ?_
  refine lv_lmul hx hb dX8_checksum_14 ?_
  refine tp_l (27512614111) (by decide) ?_
  refine lv_aload_n hx hb dX8_checksum_15 rfl (lv_at hl 2 rfl) ?_
  refine va_get (D := D) (ci := 8) (v := .ref a1) (C := RX8) (T := TX8) (N := 7) hx hb hts iX8_checksum_8 hown hN.1 hP 0 rfl rfl 1 (by decide) (hts _ mX8_checksum_2) (fun _ h9 => h9) rfl dX8_checksum_16 ?_
  refine lv_iload_n hx hb dX8_checksum_19 rfl (lv_at hl 0 rfl) ?_
  refine cv_i (As := [.int 7]) (rest := [.long 27512614111]) (b := a1) (wr := [(a0, .inr (8, [.ref a9, .ref a1, .ref a10, .ref a11, .int 0, .int 0, .int (-1)])), (a4, .inl (cs 4, 8, .inr (.inr (.inr (.inr (va_up (va_up (va_up (va_up (va_up (va_up (va_up (va_up (fun _ => none) 0 (some a5)) 1 (some a18)) 2 (some a19)) 3 (some a20)) 4 (some a21)) 5 (some a22)) 6 (some a23)) 7 (some a24))))))), (a5, .inr (3, [.int 1, .int 0, .int 0, .int 0, .int (-1), .int 0, .int 0, .int 0, .int 0, .int (-1)])), (a6, .inl (cs 0, 64, .inl (fun _ => 0))), (a7, .inl (cs 0, 8, .inl (fun _ => 0))), (a8, .inl (cs 0, 8, .inl (fun _ => 0))), (a2, .inr (6, [.int 1, .int 1, .int 50, .null, .ref a15, .ref a7, .ref a8, .ref a6])), (a3, .inr (2, [.ref a16, .ref a17, .int 0]))]) ⟨hx, hb, hml, hown, hts⟩ (fun sz => k94_X7_count l D cs sz a1 a2 a4 a3 a12 a13 a14) (cwV 1 hts gX8_checksum_X7_count rfl rfl rfl hdX7_count_v ⟨Nat.le_of_ble_eq_true rfl, Nat.le_of_ble_eq_true rfl⟩) hN hP hD hS hA [8] [0, 1, 2, 3, 4, 5, 6, 7] rfl rfl rfl rfl (by decide) (ci := 7) (q0 := 0) rfl rfl rfl rfl hl.1 (Nat.le_of_ble_eq_true rfl) dX8_checksum_20 (Nat.le_of_ble_eq_true rfl) (Nat.le_of_ble_eq_true rfl) (fun u7 H locs hP hD hS => ?_)
  have hP : va_P D vwCl [(a0, .inr (8, [.ref a9, .ref a1, .ref a10, .ref a11, .int 0, .int 0, .int (-1)])), (a4, .inl (cs 4, 8, .inr (.inr (.inr (.inr (va_up (va_up (va_up (va_up (va_up (va_up (va_up (va_up (fun _ => none) 0 (some a5)) 1 (some a18)) 2 (some a19)) 3 (some a20)) 4 (some a21)) 5 (some a22)) 6 (some a23)) 7 (some a24))))))), (a5, .inr (3, [.int 1, .int 0, .int 0, .int 0, .int (-1), .int 0, .int 0, .int 0, .int 0, .int (-1)])), (a6, .inl (cs 0, 64, .inl (fun _ => 0))), (a7, .inl (cs 0, 8, .inl (fun _ => 0))), (a8, .inl (cs 0, 8, .inl (fun _ => 0))), (a2, .inr (6, [.int 1, .int 1, .int 50, .null, .ref a15, .ref a7, .ref a8, .ref a6])), (a3, .inr (2, [.ref a16, .ref a17, .int 0])), (a1, .inr (7, [.ref a2, .ref a4, .ref a3, .ref a12, .ref a13, .ref a14, .long 0, .int 0, .int 0, .int 0, .int 0, .int 0, .int 0, .int 0, .int 0, .int 0]))] H := hP
  have hD : va_D A [(a0, .inr (8, [.ref a9, .ref a1, .ref a10, .ref a11, .int 0, .int 0, .int (-1)])), (a4, .inl (cs 4, 8, .inr (.inr (.inr (.inr (va_up (va_up (va_up (va_up (va_up (va_up (va_up (va_up (fun _ => none) 0 (some a5)) 1 (some a18)) 2 (some a19)) 3 (some a20)) 4 (some a21)) 5 (some a22)) 6 (some a23)) 7 (some a24))))))), (a5, .inr (3, [.int 1, .int 0, .int 0, .int 0, .int (-1), .int 0, .int 0, .int 0, .int 0, .int (-1)])), (a6, .inl (cs 0, 64, .inl (fun _ => 0))), (a7, .inl (cs 0, 8, .inl (fun _ => 0))), (a8, .inl (cs 0, 8, .inl (fun _ => 0))), (a2, .inr (6, [.int 1, .int 1, .int 50, .null, .ref a15, .ref a7, .ref a8, .ref a6])), (a3, .inr (2, [.ref a16, .ref a17, .int 0])), (a1, .inr (7, [.ref a2, .ref a4, .ref a3, .ref a12, .ref a13, .ref a14, .long 0, .int 0, .int 0, .int 0, .int 0, .int 0, .int 0, .int 0, .int 0, .int 0]))] := hD
  refine W.widen (k := 0) (n := 0) (Nat.le_of_ble_eq_true rfl) (Nat.le_of_ble_eq_true rfl) ?_
  refine lv_i2l (v := 0) hx hb dX8_checksum_23 (by decide) ?_
  refine lv_ladd hx hb dX8_checksum_24 ?_
  refine tp_l (27512614111) (by decide) ?_
  refine lv_lstore_n (lv' := [(1, .long 27512614111), (3, .int 7), (0, .ref a0)]) hx hb dX8_checksum_25 rfl hl (by decide) rfl (fun ls hl => ?_)
  refine lv_iinc (v := 8) (lv' := [(3, .int 8), (1, .long 27512614111), (0, .ref a0)]) hx hb dX8_checksum_26 hl (k := 1) rfl (by decide) (by decide) rfl (fun ls hl => ?_)
  refine lv_goto (tgt := 4) hx hb dX8_checksum_29 (by decide) ?_
  refine lv_iload_n hx hb dX8_checksum_4 rfl (lv_at hl 0 rfl) ?_
  refine lv_bipush (v := 12) hx hb dX8_checksum_5 (by decide) ?_
  refine lv_icmp_gt (tgt := 32) hx hb dX8_checksum_7 (by decide) (fun c9 => absurd c9 (by decide)) (fun _ => ?_)
  refine lv_ldc2 (v := 31) hx hb hown (hts _ mX8_checksum_1) dX8_checksum_10 ?_
  refine lv_lload_n hx hb dX8_checksum_13 rfl (lv_at hl 1 rfl) ?_
  refine lv_lmul hx hb dX8_checksum_14 ?_
  refine tp_l (852891037441) (by decide) ?_
  refine lv_aload_n hx hb dX8_checksum_15 rfl (lv_at hl 2 rfl) ?_
  refine va_get (D := D) (ci := 8) (v := .ref a1) (C := RX8) (T := TX8) (N := 7) hx hb hts iX8_checksum_8 hown hN.1 hP 0 rfl rfl 1 (by decide) (hts _ mX8_checksum_2) (fun _ h9 => h9) rfl dX8_checksum_16 ?_
  refine lv_iload_n hx hb dX8_checksum_19 rfl (lv_at hl 0 rfl) ?_
  refine cv_i (As := [.int 8]) (rest := [.long 852891037441]) (b := a1) (wr := [(a0, .inr (8, [.ref a9, .ref a1, .ref a10, .ref a11, .int 0, .int 0, .int (-1)])), (a4, .inl (cs 4, 8, .inr (.inr (.inr (.inr (va_up (va_up (va_up (va_up (va_up (va_up (va_up (va_up (fun _ => none) 0 (some a5)) 1 (some a18)) 2 (some a19)) 3 (some a20)) 4 (some a21)) 5 (some a22)) 6 (some a23)) 7 (some a24))))))), (a5, .inr (3, [.int 1, .int 0, .int 0, .int 0, .int (-1), .int 0, .int 0, .int 0, .int 0, .int (-1)])), (a6, .inl (cs 0, 64, .inl (fun _ => 0))), (a7, .inl (cs 0, 8, .inl (fun _ => 0))), (a8, .inl (cs 0, 8, .inl (fun _ => 0))), (a2, .inr (6, [.int 1, .int 1, .int 50, .null, .ref a15, .ref a7, .ref a8, .ref a6])), (a3, .inr (2, [.ref a16, .ref a17, .int 0]))]) ⟨hx, hb, hml, hown, hts⟩ (fun sz => k101_X7_count l D cs sz a1 a2 a4 a3 a12 a13 a14) (cwV 1 hts gX8_checksum_X7_count rfl rfl rfl hdX7_count_v ⟨Nat.le_of_ble_eq_true rfl, Nat.le_of_ble_eq_true rfl⟩) hN hP hD hS hA [8] [0, 1, 2, 3, 4, 5, 6, 7] rfl rfl rfl rfl (by decide) (ci := 7) (q0 := 0) rfl rfl rfl rfl hl.1 (Nat.le_of_ble_eq_true rfl) dX8_checksum_20 (Nat.le_of_ble_eq_true rfl) (Nat.le_of_ble_eq_true rfl) (fun u8 H locs hP hD hS => ?_)
  have hP : va_P D vwCl [(a0, .inr (8, [.ref a9, .ref a1, .ref a10, .ref a11, .int 0, .int 0, .int (-1)])), (a4, .inl (cs 4, 8, .inr (.inr (.inr (.inr (va_up (va_up (va_up (va_up (va_up (va_up (va_up (va_up (fun _ => none) 0 (some a5)) 1 (some a18)) 2 (some a19)) 3 (some a20)) 4 (some a21)) 5 (some a22)) 6 (some a23)) 7 (some a24))))))), (a5, .inr (3, [.int 1, .int 0, .int 0, .int 0, .int (-1), .int 0, .int 0, .int 0, .int 0, .int (-1)])), (a6, .inl (cs 0, 64, .inl (fun _ => 0))), (a7, .inl (cs 0, 8, .inl (fun _ => 0))), (a8, .inl (cs 0, 8, .inl (fun _ => 0))), (a2, .inr (6, [.int 1, .int 1, .int 50, .null, .ref a15, .ref a7, .ref a8, .ref a6])), (a3, .inr (2, [.ref a16, .ref a17, .int 0])), (a1, .inr (7, [.ref a2, .ref a4, .ref a3, .ref a12, .ref a13, .ref a14, .long 0, .int 0, .int 0, .int 0, .int 0, .int 0, .int 0, .int 0, .int 0, .int 0]))] H := hP
  have hD : va_D A [(a0, .inr (8, [.ref a9, .ref a1, .ref a10, .ref a11, .int 0, .int 0, .int (-1)])), (a4, .inl (cs 4, 8, .inr (.inr (.inr (.inr (va_up (va_up (va_up (va_up (va_up (va_up (va_up (va_up (fun _ => none) 0 (some a5)) 1 (some a18)) 2 (some a19)) 3 (some a20)) 4 (some a21)) 5 (some a22)) 6 (some a23)) 7 (some a24))))))), (a5, .inr (3, [.int 1, .int 0, .int 0, .int 0, .int (-1), .int 0, .int 0, .int 0, .int 0, .int (-1)])), (a6, .inl (cs 0, 64, .inl (fun _ => 0))), (a7, .inl (cs 0, 8, .inl (fun _ => 0))), (a8, .inl (cs 0, 8, .inl (fun _ => 0))), (a2, .inr (6, [.int 1, .int 1, .int 50, .null, .ref a15, .ref a7, .ref a8, .ref a6])), (a3, .inr (2, [.ref a16, .ref a17, .int 0])), (a1, .inr (7, [.ref a2, .ref a4, .ref a3, .ref a12, .ref a13, .ref a14, .long 0, .int 0, .int 0, .int 0, .int 0, .int 0, .int 0, .int 0, .int 0, .int 0]))] := hD
  refine W.widen (k := 0) (n := 0) (Nat.le_of_ble_eq_true rfl) (Nat.le_of_ble_eq_true rfl) ?_
  refine lv_i2l (v := 0) hx hb dX8_checksum_23 (by decide) ?_
  refine lv_ladd hx hb dX8_checksum_24 ?_
  refine tp_l (852891037441) (by decide) ?_
  refine lv_lstore_n (lv' := [(1, .long 852891037441), (3, .int 8), (0, .ref a0)]) hx hb dX8_checksum_25 rfl hl (by decide) rfl (fun ls hl => ?_)
  refine lv_iinc (v := 9) (lv' := [(3, .int 9), (1, .long 852891037441), (0, .ref a0)]) hx hb dX8_checksum_26 hl (k := 1) rfl (by decide) (by decide) rfl (fun ls hl => ?_)
  refine lv_goto (tgt := 4) hx hb dX8_checksum_29 (by decide) ?_
  refine lv_iload_n hx hb dX8_checksum_4 rfl (lv_at hl 0 rfl) ?_
  refine lv_bipush (v := 12) hx hb dX8_checksum_5 (by decide) ?_
  refine lv_icmp_gt (tgt := 32) hx hb dX8_checksum_7 (by decide) (fun c9 => absurd c9 (by decide)) (fun _ => ?_)
  refine lv_ldc2 (v := 31) hx hb hown (hts _ mX8_checksum_1) dX8_checksum_10 ?_
  refine lv_lload_n hx hb dX8_checksum_13 rfl (lv_at hl 1 rfl) ?_
  refine lv_lmul hx hb dX8_checksum_14 ?_
  refine tp_l (26439622160671) (by decide) ?_
  refine lv_aload_n hx hb dX8_checksum_15 rfl (lv_at hl 2 rfl) ?_
  refine va_get (D := D) (ci := 8) (v := .ref a1) (C := RX8) (T := TX8) (N := 7) hx hb hts iX8_checksum_8 hown hN.1 hP 0 rfl rfl 1 (by decide) (hts _ mX8_checksum_2) (fun _ h9 => h9) rfl dX8_checksum_16 ?_
  refine lv_iload_n hx hb dX8_checksum_19 rfl (lv_at hl 0 rfl) ?_
  refine cv_i (As := [.int 9]) (rest := [.long 26439622160671]) (b := a1) (wr := [(a0, .inr (8, [.ref a9, .ref a1, .ref a10, .ref a11, .int 0, .int 0, .int (-1)])), (a6, .inl (cs 0, 64, .inl (fun _ => 0))), (a7, .inl (cs 0, 8, .inl (fun _ => 0))), (a8, .inl (cs 0, 8, .inl (fun _ => 0))), (a3, .inr (2, [.ref a16, .ref a17, .int 0]))]) ⟨hx, hb, hml, hown, hts⟩ (fun sz => k111_X7_count l D cs sz a1 a2 a4 a5 a3 a12 a13 a14 a15 a7 a8 a6 a18 a19 a20 a21 a22 a23 a24) (cwV 1 hts gX8_checksum_X7_count rfl rfl rfl hdX7_count_v ⟨Nat.le_of_ble_eq_true rfl, Nat.le_of_ble_eq_true rfl⟩) hN hP hD hS hA [8, 6, 1, 2] [0, 3, 4, 5, 7] rfl rfl rfl rfl (by decide) (ci := 7) (q0 := 0) rfl rfl rfl rfl hl.1 (Nat.le_of_ble_eq_true rfl) dX8_checksum_20 (Nat.le_of_ble_eq_true rfl) (Nat.le_of_ble_eq_true rfl) (fun u9 H locs hP hD hS => ?_)
  have hP : va_P D vwCl [(a0, .inr (8, [.ref a9, .ref a1, .ref a10, .ref a11, .int 0, .int 0, .int (-1)])), (a6, .inl (cs 0, 64, .inl (fun _ => 0))), (a7, .inl (cs 0, 8, .inl (fun _ => 0))), (a8, .inl (cs 0, 8, .inl (fun _ => 0))), (a3, .inr (2, [.ref a16, .ref a17, .int 0])), (a2, .inr (6, [.int 1, .int 1, .int 50, .null, .ref a15, .ref a7, .ref a8, .ref a6])), (a5, .inr (3, [.int 1, .int 0, .int 0, .int 0, .int (-1), .int 0, .int 0, .int 0, .int 0, .int (-1)])), (a4, .inl (cs 4, 8, .inr (.inr (.inr (.inr (va_up (va_up (va_up (va_up (va_up (va_up (va_up (va_up (fun _ => none) 0 (some a5)) 1 (some a18)) 2 (some a19)) 3 (some a20)) 4 (some a21)) 5 (some a22)) 6 (some a23)) 7 (some a24))))))), (a1, .inr (7, [.ref a2, .ref a4, .ref a3, .ref a12, .ref a13, .ref a14, .long 0, .int 0, .int 0, .int 0, .int 0, .int 0, .int 0, .int 0, .int 0, .int 0]))] H := hP
  have hD : va_D A [(a0, .inr (8, [.ref a9, .ref a1, .ref a10, .ref a11, .int 0, .int 0, .int (-1)])), (a6, .inl (cs 0, 64, .inl (fun _ => 0))), (a7, .inl (cs 0, 8, .inl (fun _ => 0))), (a8, .inl (cs 0, 8, .inl (fun _ => 0))), (a3, .inr (2, [.ref a16, .ref a17, .int 0])), (a2, .inr (6, [.int 1, .int 1, .int 50, .null, .ref a15, .ref a7, .ref a8, .ref a6])), (a5, .inr (3, [.int 1, .int 0, .int 0, .int 0, .int (-1), .int 0, .int 0, .int 0, .int 0, .int (-1)])), (a4, .inl (cs 4, 8, .inr (.inr (.inr (.inr (va_up (va_up (va_up (va_up (va_up (va_up (va_up (va_up (fun _ => none) 0 (some a5)) 1 (some a18)) 2 (some a19)) 3 (some a20)) 4 (some a21)) 5 (some a22)) 6 (some a23)) 7 (some a24))))))), (a1, .inr (7, [.ref a2, .ref a4, .ref a3, .ref a12, .ref a13, .ref a14, .long 0, .int 0, .int 0, .int 0, .int 0, .int 0, .int 0, .int 0, .int 0, .int 0]))] := hD
  refine W.widen (k := 0) (n := 0) (Nat.le_of_ble_eq_true rfl) (Nat.le_of_ble_eq_true rfl) ?_
  refine lv_i2l (v := 1) hx hb dX8_checksum_23 (by decide) ?_
  refine lv_ladd hx hb dX8_checksum_24 ?_
  refine tp_l (26439622160672) (by decide) ?_
  refine lv_lstore_n (lv' := [(1, .long 26439622160672), (3, .int 9), (0, .ref a0)]) hx hb dX8_checksum_25 rfl hl (by decide) rfl (fun ls hl => ?_)
  refine lv_iinc (v := 10) (lv' := [(3, .int 10), (1, .long 26439622160672), (0, .ref a0)]) hx hb dX8_checksum_26 hl (k := 1) rfl (by decide) (by decide) rfl (fun ls hl => ?_)
  refine lv_goto (tgt := 4) hx hb dX8_checksum_29 (by decide) ?_
  refine lv_iload_n hx hb dX8_checksum_4 rfl (lv_at hl 0 rfl) ?_
  refine lv_bipush (v := 12) hx hb dX8_checksum_5 (by decide) ?_
  refine lv_icmp_gt (tgt := 32) hx hb dX8_checksum_7 (by decide) (fun c9 => absurd c9 (by decide)) (fun _ => ?_)
  refine lv_ldc2 (v := 31) hx hb hown (hts _ mX8_checksum_1) dX8_checksum_10 ?_
  refine lv_lload_n hx hb dX8_checksum_13 rfl (lv_at hl 1 rfl) ?_
  refine lv_lmul hx hb dX8_checksum_14 ?_
  refine tp_l (819628286980832) (by decide) ?_
  refine lv_aload_n hx hb dX8_checksum_15 rfl (lv_at hl 2 rfl) ?_
  refine va_get (D := D) (ci := 8) (v := .ref a1) (C := RX8) (T := TX8) (N := 7) hx hb hts iX8_checksum_8 hown hN.1 hP 0 rfl rfl 1 (by decide) (hts _ mX8_checksum_2) (fun _ h9 => h9) rfl dX8_checksum_16 ?_
  refine lv_iload_n hx hb dX8_checksum_19 rfl (lv_at hl 0 rfl) ?_
  refine cv_i (As := [.int 10]) (rest := [.long 819628286980832]) (b := a1) (wr := [(a0, .inr (8, [.ref a9, .ref a1, .ref a10, .ref a11, .int 0, .int 0, .int (-1)])), (a6, .inl (cs 0, 64, .inl (fun _ => 0))), (a7, .inl (cs 0, 8, .inl (fun _ => 0))), (a8, .inl (cs 0, 8, .inl (fun _ => 0))), (a3, .inr (2, [.ref a16, .ref a17, .int 0])), (a2, .inr (6, [.int 1, .int 1, .int 50, .null, .ref a15, .ref a7, .ref a8, .ref a6])), (a5, .inr (3, [.int 1, .int 0, .int 0, .int 0, .int (-1), .int 0, .int 0, .int 0, .int 0, .int (-1)])), (a4, .inl (cs 4, 8, .inr (.inr (.inr (.inr (va_up (va_up (va_up (va_up (va_up (va_up (va_up (va_up (fun _ => none) 0 (some a5)) 1 (some a18)) 2 (some a19)) 3 (some a20)) 4 (some a21)) 5 (some a22)) 6 (some a23)) 7 (some a24)))))))]) ⟨hx, hb, hml, hown, hts⟩ (fun sz => k121_X7_count l D cs sz a1 a2 a4 a3 a12 a13 a14) (cwV 1 hts gX8_checksum_X7_count rfl rfl rfl hdX7_count_v ⟨Nat.le_of_ble_eq_true rfl, Nat.le_of_ble_eq_true rfl⟩) hN hP hD hS hA [8] [0, 1, 2, 3, 4, 5, 6, 7] rfl rfl rfl rfl (by decide) (ci := 7) (q0 := 0) rfl rfl rfl rfl hl.1 (Nat.le_of_ble_eq_true rfl) dX8_checksum_20 (Nat.le_of_ble_eq_true rfl) (Nat.le_of_ble_eq_true rfl) (fun u10 H locs hP hD hS => ?_)
  have hP : va_P D vwCl [(a0, .inr (8, [.ref a9, .ref a1, .ref a10, .ref a11, .int 0, .int 0, .int (-1)])), (a6, .inl (cs 0, 64, .inl (fun _ => 0))), (a7, .inl (cs 0, 8, .inl (fun _ => 0))), (a8, .inl (cs 0, 8, .inl (fun _ => 0))), (a3, .inr (2, [.ref a16, .ref a17, .int 0])), (a2, .inr (6, [.int 1, .int 1, .int 50, .null, .ref a15, .ref a7, .ref a8, .ref a6])), (a5, .inr (3, [.int 1, .int 0, .int 0, .int 0, .int (-1), .int 0, .int 0, .int 0, .int 0, .int (-1)])), (a4, .inl (cs 4, 8, .inr (.inr (.inr (.inr (va_up (va_up (va_up (va_up (va_up (va_up (va_up (va_up (fun _ => none) 0 (some a5)) 1 (some a18)) 2 (some a19)) 3 (some a20)) 4 (some a21)) 5 (some a22)) 6 (some a23)) 7 (some a24))))))), (a1, .inr (7, [.ref a2, .ref a4, .ref a3, .ref a12, .ref a13, .ref a14, .long 0, .int 0, .int 0, .int 0, .int 0, .int 0, .int 0, .int 0, .int 0, .int 0]))] H := hP
  have hD : va_D A [(a0, .inr (8, [.ref a9, .ref a1, .ref a10, .ref a11, .int 0, .int 0, .int (-1)])), (a6, .inl (cs 0, 64, .inl (fun _ => 0))), (a7, .inl (cs 0, 8, .inl (fun _ => 0))), (a8, .inl (cs 0, 8, .inl (fun _ => 0))), (a3, .inr (2, [.ref a16, .ref a17, .int 0])), (a2, .inr (6, [.int 1, .int 1, .int 50, .null, .ref a15, .ref a7, .ref a8, .ref a6])), (a5, .inr (3, [.int 1, .int 0, .int 0, .int 0, .int (-1), .int 0, .int 0, .int 0, .int 0, .int (-1)])), (a4, .inl (cs 4, 8, .inr (.inr (.inr (.inr (va_up (va_up (va_up (va_up (va_up (va_up (va_up (va_up (fun _ => none) 0 (some a5)) 1 (some a18)) 2 (some a19)) 3 (some a20)) 4 (some a21)) 5 (some a22)) 6 (some a23)) 7 (some a24))))))), (a1, .inr (7, [.ref a2, .ref a4, .ref a3, .ref a12, .ref a13, .ref a14, .long 0, .int 0, .int 0, .int 0, .int 0, .int 0, .int 0, .int 0, .int 0, .int 0]))] := hD
  refine W.widen (k := 0) (n := 0) (Nat.le_of_ble_eq_true rfl) (Nat.le_of_ble_eq_true rfl) ?_
  refine lv_i2l (v := 0) hx hb dX8_checksum_23 (by decide) ?_
  refine lv_ladd hx hb dX8_checksum_24 ?_
  refine tp_l (819628286980832) (by decide) ?_
  refine lv_lstore_n (lv' := [(1, .long 819628286980832), (3, .int 10), (0, .ref a0)]) hx hb dX8_checksum_25 rfl hl (by decide) rfl (fun ls hl => ?_)
  refine lv_iinc (v := 11) (lv' := [(3, .int 11), (1, .long 819628286980832), (0, .ref a0)]) hx hb dX8_checksum_26 hl (k := 1) rfl (by decide) (by decide) rfl (fun ls hl => ?_)
  refine lv_goto (tgt := 4) hx hb dX8_checksum_29 (by decide) ?_
  refine lv_iload_n hx hb dX8_checksum_4 rfl (lv_at hl 0 rfl) ?_
  refine lv_bipush (v := 12) hx hb dX8_checksum_5 (by decide) ?_
  refine lv_icmp_gt (tgt := 32) hx hb dX8_checksum_7 (by decide) (fun c9 => absurd c9 (by decide)) (fun _ => ?_)
  refine lv_ldc2 (v := 31) hx hb hown (hts _ mX8_checksum_1) dX8_checksum_10 ?_
  refine lv_lload_n hx hb dX8_checksum_13 rfl (lv_at hl 1 rfl) ?_
  refine lv_lmul hx hb dX8_checksum_14 ?_
  refine tp_l (25408476896405792) (by decide) ?_
  refine lv_aload_n hx hb dX8_checksum_15 rfl (lv_at hl 2 rfl) ?_
  refine va_get (D := D) (ci := 8) (v := .ref a1) (C := RX8) (T := TX8) (N := 7) hx hb hts iX8_checksum_8 hown hN.1 hP 0 rfl rfl 1 (by decide) (hts _ mX8_checksum_2) (fun _ h9 => h9) rfl dX8_checksum_16 ?_
  refine lv_iload_n hx hb dX8_checksum_19 rfl (lv_at hl 0 rfl) ?_
  refine cv_i (As := [.int 11]) (rest := [.long 25408476896405792]) (b := a1) (wr := [(a0, .inr (8, [.ref a9, .ref a1, .ref a10, .ref a11, .int 0, .int 0, .int (-1)])), (a6, .inl (cs 0, 64, .inl (fun _ => 0))), (a7, .inl (cs 0, 8, .inl (fun _ => 0))), (a8, .inl (cs 0, 8, .inl (fun _ => 0))), (a3, .inr (2, [.ref a16, .ref a17, .int 0])), (a2, .inr (6, [.int 1, .int 1, .int 50, .null, .ref a15, .ref a7, .ref a8, .ref a6])), (a5, .inr (3, [.int 1, .int 0, .int 0, .int 0, .int (-1), .int 0, .int 0, .int 0, .int 0, .int (-1)])), (a4, .inl (cs 4, 8, .inr (.inr (.inr (.inr (va_up (va_up (va_up (va_up (va_up (va_up (va_up (va_up (fun _ => none) 0 (some a5)) 1 (some a18)) 2 (some a19)) 3 (some a20)) 4 (some a21)) 5 (some a22)) 6 (some a23)) 7 (some a24)))))))]) ⟨hx, hb, hml, hown, hts⟩ (fun sz => k128_X7_count l D cs sz a1 a2 a4 a3 a12 a13 a14) (cwV 1 hts gX8_checksum_X7_count rfl rfl rfl hdX7_count_v ⟨Nat.le_of_ble_eq_true rfl, Nat.le_of_ble_eq_true rfl⟩) hN hP hD hS hA [8] [0, 1, 2, 3, 4, 5, 6, 7] rfl rfl rfl rfl (by decide) (ci := 7) (q0 := 0) rfl rfl rfl rfl hl.1 (Nat.le_of_ble_eq_true rfl) dX8_checksum_20 (Nat.le_of_ble_eq_true rfl) (Nat.le_of_ble_eq_true rfl) (fun u11 H locs hP hD hS => ?_)
  have hP : va_P D vwCl [(a0, .inr (8, [.ref a9, .ref a1, .ref a10, .ref a11, .int 0, .int 0, .int (-1)])), (a6, .inl (cs 0, 64, .inl (fun _ => 0))), (a7, .inl (cs 0, 8, .inl (fun _ => 0))), (a8, .inl (cs 0, 8, .inl (fun _ => 0))), (a3, .inr (2, [.ref a16, .ref a17, .int 0])), (a2, .inr (6, [.int 1, .int 1, .int 50, .null, .ref a15, .ref a7, .ref a8, .ref a6])), (a5, .inr (3, [.int 1, .int 0, .int 0, .int 0, .int (-1), .int 0, .int 0, .int 0, .int 0, .int (-1)])), (a4, .inl (cs 4, 8, .inr (.inr (.inr (.inr (va_up (va_up (va_up (va_up (va_up (va_up (va_up (va_up (fun _ => none) 0 (some a5)) 1 (some a18)) 2 (some a19)) 3 (some a20)) 4 (some a21)) 5 (some a22)) 6 (some a23)) 7 (some a24))))))), (a1, .inr (7, [.ref a2, .ref a4, .ref a3, .ref a12, .ref a13, .ref a14, .long 0, .int 0, .int 0, .int 0, .int 0, .int 0, .int 0, .int 0, .int 0, .int 0]))] H := hP
  have hD : va_D A [(a0, .inr (8, [.ref a9, .ref a1, .ref a10, .ref a11, .int 0, .int 0, .int (-1)])), (a6, .inl (cs 0, 64, .inl (fun _ => 0))), (a7, .inl (cs 0, 8, .inl (fun _ => 0))), (a8, .inl (cs 0, 8, .inl (fun _ => 0))), (a3, .inr (2, [.ref a16, .ref a17, .int 0])), (a2, .inr (6, [.int 1, .int 1, .int 50, .null, .ref a15, .ref a7, .ref a8, .ref a6])), (a5, .inr (3, [.int 1, .int 0, .int 0, .int 0, .int (-1), .int 0, .int 0, .int 0, .int 0, .int (-1)])), (a4, .inl (cs 4, 8, .inr (.inr (.inr (.inr (va_up (va_up (va_up (va_up (va_up (va_up (va_up (va_up (fun _ => none) 0 (some a5)) 1 (some a18)) 2 (some a19)) 3 (some a20)) 4 (some a21)) 5 (some a22)) 6 (some a23)) 7 (some a24))))))), (a1, .inr (7, [.ref a2, .ref a4, .ref a3, .ref a12, .ref a13, .ref a14, .long 0, .int 0, .int 0, .int 0, .int 0, .int 0, .int 0, .int 0, .int 0, .int 0]))] := hD
  refine W.widen (k := 0) (n := 0) (Nat.le_of_ble_eq_true rfl) (Nat.le_of_ble_eq_true rfl) ?_
  refine lv_i2l (v := 0) hx hb dX8_checksum_23 (by decide) ?_
  refine lv_ladd hx hb dX8_checksum_24 ?_
  refine tp_l (25408476896405792) (by decide) ?_
  refine lv_lstore_n (lv' := [(1, .long 25408476896405792), (3, .int 11), (0, .ref a0)]) hx hb dX8_checksum_25 rfl hl (by decide) rfl (fun ls hl => ?_)
  refine lv_iinc (v := 12) (lv' := [(3, .int 12), (1, .long 25408476896405792), (0, .ref a0)]) hx hb dX8_checksum_26 hl (k := 1) rfl (by decide) (by decide) rfl (fun ls hl => ?_)
  refine lv_goto (tgt := 4) hx hb dX8_checksum_29 (by decide) ?_
  refine lv_iload_n hx hb dX8_checksum_4 rfl (lv_at hl 0 rfl) ?_
  refine lv_bipush (v := 12) hx hb dX8_checksum_5 (by decide) ?_
  refine lv_icmp_gt (tgt := 32) hx hb dX8_checksum_7 (by decide) (fun c9 => absurd c9 (by decide)) (fun _ => ?_)
  refine lv_ldc2 (v := 31) hx hb hown (hts _ mX8_checksum_1) dX8_checksum_10 ?_
  refine lv_lload_n hx hb dX8_checksum_13 rfl (lv_at hl 1 rfl) ?_
  refine lv_lmul hx hb dX8_checksum_14 ?_
  refine tp_l (787662783788579552) (by decide) ?_
  refine lv_aload_n hx hb dX8_checksum_15 rfl (lv_at hl 2 rfl) ?_
  refine va_get (D := D) (ci := 8) (v := .ref a1) (C := RX8) (T := TX8) (N := 7) hx hb hts iX8_checksum_8 hown hN.1 hP 0 rfl rfl 1 (by decide) (hts _ mX8_checksum_2) (fun _ h9 => h9) rfl dX8_checksum_16 ?_
  refine lv_iload_n hx hb dX8_checksum_19 rfl (lv_at hl 0 rfl) ?_
  refine cv_i (As := [.int 12]) (rest := [.long 787662783788579552]) (b := a1) (wr := [(a0, .inr (8, [.ref a9, .ref a1, .ref a10, .ref a11, .int 0, .int 0, .int (-1)])), (a7, .inl (cs 0, 8, .inl (fun _ => 0))), (a8, .inl (cs 0, 8, .inl (fun _ => 0))), (a3, .inr (2, [.ref a16, .ref a17, .int 0])), (a5, .inr (3, [.int 1, .int 0, .int 0, .int 0, .int (-1), .int 0, .int 0, .int 0, .int 0, .int (-1)])), (a4, .inl (cs 4, 8, .inr (.inr (.inr (.inr (va_up (va_up (va_up (va_up (va_up (va_up (va_up (va_up (fun _ => none) 0 (some a5)) 1 (some a18)) 2 (some a19)) 3 (some a20)) 4 (some a21)) 5 (some a22)) 6 (some a23)) 7 (some a24)))))))]) ⟨hx, hb, hml, hown, hts⟩ (fun sz => k141_X7_count l D cs sz a1 a2 a6 a4 a3 a12 a13 a14 a15 a7 a8) (cwV 1 hts gX8_checksum_X7_count rfl rfl rfl hdX7_count_v ⟨Nat.le_of_ble_eq_true rfl, Nat.le_of_ble_eq_true rfl⟩) hN hP hD hS hA [8, 5, 1] [0, 2, 3, 4, 6, 7] rfl rfl rfl rfl (by decide) (ci := 7) (q0 := 0) rfl rfl rfl rfl hl.1 (Nat.le_of_ble_eq_true rfl) dX8_checksum_20 (Nat.le_of_ble_eq_true rfl) (Nat.le_of_ble_eq_true rfl) (fun u12 H locs hP hD hS => ?_)
  have hP : va_P D vwCl [(a0, .inr (8, [.ref a9, .ref a1, .ref a10, .ref a11, .int 0, .int 0, .int (-1)])), (a7, .inl (cs 0, 8, .inl (fun _ => 0))), (a8, .inl (cs 0, 8, .inl (fun _ => 0))), (a3, .inr (2, [.ref a16, .ref a17, .int 0])), (a5, .inr (3, [.int 1, .int 0, .int 0, .int 0, .int (-1), .int 0, .int 0, .int 0, .int 0, .int (-1)])), (a4, .inl (cs 4, 8, .inr (.inr (.inr (.inr (va_up (va_up (va_up (va_up (va_up (va_up (va_up (va_up (fun _ => none) 0 (some a5)) 1 (some a18)) 2 (some a19)) 3 (some a20)) 4 (some a21)) 5 (some a22)) 6 (some a23)) 7 (some a24))))))), (a1, .inr (7, [.ref a2, .ref a4, .ref a3, .ref a12, .ref a13, .ref a14, .long 0, .int 0, .int 0, .int 0, .int 0, .int 0, .int 0, .int 0, .int 0, .int 0])), (a2, .inr (6, [.int 1, .int 1, .int 50, .null, .ref a15, .ref a7, .ref a8, .ref a6])), (a6, .inl (cs 0, 64, .inl (fun _ => 0)))] H := hP
  have hD : va_D A [(a0, .inr (8, [.ref a9, .ref a1, .ref a10, .ref a11, .int 0, .int 0, .int (-1)])), (a7, .inl (cs 0, 8, .inl (fun _ => 0))), (a8, .inl (cs 0, 8, .inl (fun _ => 0))), (a3, .inr (2, [.ref a16, .ref a17, .int 0])), (a5, .inr (3, [.int 1, .int 0, .int 0, .int 0, .int (-1), .int 0, .int 0, .int 0, .int 0, .int (-1)])), (a4, .inl (cs 4, 8, .inr (.inr (.inr (.inr (va_up (va_up (va_up (va_up (va_up (va_up (va_up (va_up (fun _ => none) 0 (some a5)) 1 (some a18)) 2 (some a19)) 3 (some a20)) 4 (some a21)) 5 (some a22)) 6 (some a23)) 7 (some a24))))))), (a1, .inr (7, [.ref a2, .ref a4, .ref a3, .ref a12, .ref a13, .ref a14, .long 0, .int 0, .int 0, .int 0, .int 0, .int 0, .int 0, .int 0, .int 0, .int 0])), (a2, .inr (6, [.int 1, .int 1, .int 50, .null, .ref a15, .ref a7, .ref a8, .ref a6])), (a6, .inl (cs 0, 64, .inl (fun _ => 0)))] := hD
  refine W.widen (k := 0) (n := 0) (Nat.le_of_ble_eq_true rfl) (Nat.le_of_ble_eq_true rfl) ?_
  refine lv_i2l (v := 1) hx hb dX8_checksum_23 (by decide) ?_
  refine lv_ladd hx hb dX8_checksum_24 ?_
  refine tp_l (787662783788579553) (by decide) ?_
  refine lv_lstore_n (lv' := [(1, .long 787662783788579553), (3, .int 12), (0, .ref a0)]) hx hb dX8_checksum_25 rfl hl (by decide) rfl (fun ls hl => ?_)
  refine lv_iinc (v := 13) (lv' := [(3, .int 13), (1, .long 787662783788579553), (0, .ref a0)]) hx hb dX8_checksum_26 hl (k := 1) rfl (by decide) (by decide) rfl (fun ls hl => ?_)
  refine lv_goto (tgt := 4) hx hb dX8_checksum_29 (by decide) ?_
  refine lv_iload_n hx hb dX8_checksum_4 rfl (lv_at hl 0 rfl) ?_
  refine lv_bipush (v := 12) hx hb dX8_checksum_5 (by decide) ?_
  refine lv_icmp_gt (tgt := 32) hx hb dX8_checksum_7 (by decide) (fun _ => ?_) (fun c9 => absurd (by decide) c9)
  refine lv_iconst (v := 0) hx hb dX8_checksum_32 (by decide) ?_
  refine lv_istore_n (lv' := [(3, .int 0), (1, .long 787662783788579553), (0, .ref a0)]) hx hb dX8_checksum_33 rfl hl (by decide) rfl (fun ls hl => ?_)
  refine lv_iload_n hx hb dX8_checksum_34 rfl (lv_at hl 0 rfl) ?_
  refine lv_aload_n hx hb dX8_checksum_35 rfl (lv_at hl 2 rfl) ?_
  refine va_get (D := D) (ci := 8) (v := .ref a1) (C := RX8) (T := TX8) (N := 7) hx hb hts iX8_checksum_8 hown hN.1 hP 0 rfl rfl 1 (by decide) (hts _ mX8_checksum_2) (fun _ h9 => h9) rfl dX8_checksum_36 ?_
  refine va_getN (D := D) (ci := 7) (v := .ref a2) (C := RX7) (T := TX7) (N := 16) hx hb hts iX8_checksum_7 hown hN.1 hP 6 rfl rfl 0 (by decide) (hN.f 46 rfl) (fun _ h9 => h9) rfl dX8_checksum_39 ?_
  refine va_getN (D := D) (ci := 6) (v := .int 1) (C := RX6) (T := TX6) (N := 8) hx hb hts iX8_checksum_6 hown hN.1 hP 7 rfl rfl 0 (by decide) (hN.f 37 rfl) (fun _ h9 => h9) rfl dX8_checksum_42 ?_
  refine lv_icmp_ge (tgt := 88) hx hb dX8_checksum_45 (by decide) (fun c9 => absurd c9 (by decide)) (fun _ => ?_)
  refine lv_iconst (v := 0) hx hb dX8_checksum_48 (by decide) ?_
  refine lv_istore (lv' := [(4, .int 0), (3, .int 0), (1, .long 787662783788579553), (0, .ref a0)]) hx hb dX8_checksum_49 hl (by decide) rfl (fun ls hl => ?_)
  refine lv_iload hx hb dX8_checksum_51 (lv_at hl 0 rfl) ?_
  refine lv_bipush (v := 9) hx hb dX8_checksum_53 (by decide) ?_
  refine lv_icmp_gt (tgt := 82) hx hb dX8_checksum_55 (by decide) (fun c9 => absurd c9 (by decide)) (fun _ => ?_)
  refine lv_ldc2 (v := 31) hx hb hown (hts _ mX8_checksum_1) dX8_checksum_58 ?_
  refine lv_lload_n hx hb dX8_checksum_61 rfl (lv_at hl 2 rfl) ?_
  refine lv_lmul hx hb dX8_checksum_62 ?_
  refine tp_l (5970802223736414527) (by decide) ?_
  refine lv_aload_n hx hb dX8_checksum_63 rfl (lv_at hl 3 rfl) ?_
  refine va_get (D := D) (ci := 8) (v := .ref a1) (C := RX8) (T := TX8) (N := 7) hx hb hts iX8_checksum_8 hown hN.1 hP 0 rfl rfl 1 (by decide) (hts _ mX8_checksum_2) (fun _ h9 => h9) rfl dX8_checksum_64 ?_
  refine lv_iload_n hx hb dX8_checksum_67 rfl (lv_at hl 1 rfl) ?_
  refine lv_iload hx hb dX8_checksum_68 (lv_at hl 0 rfl) ?_
  refine cv_i (As := [.int 0, .int 0]) (rest := [.long 5970802223736414527]) (b := a1) (wr := [(a0, .inr (8, [.ref a9, .ref a1, .ref a10, .ref a11, .int 0, .int 0, .int (-1)])), (a7, .inl (cs 0, 8, .inl (fun _ => 0))), (a8, .inl (cs 0, 8, .inl (fun _ => 0))), (a3, .inr (2, [.ref a16, .ref a17, .int 0])), (a2, .inr (6, [.int 1, .int 1, .int 50, .null, .ref a15, .ref a7, .ref a8, .ref a6])), (a6, .inl (cs 0, 64, .inl (fun _ => 0)))]) ⟨hx, hb, hml, hown, hts⟩ (fun sz => k166_X7_tellPlayer l D cs sz a1 a4 a5 a2 a3 a12 a13 a14 a18 a19 a20 a21 a22 a23 a24) (cwV 2 hts gX8_checksum_X7_tellPlayer rfl rfl rfl hdX7_tellPlayer_v ⟨Nat.le_of_ble_eq_true rfl, Nat.le_of_ble_eq_true rfl⟩) hN hP hD hS hA [6, 5, 4] [0, 1, 2, 3, 7, 8] rfl rfl rfl rfl (by decide) (ci := 7) (q0 := 0) rfl rfl rfl rfl hl.1 (Nat.le_of_ble_eq_true rfl) dX8_checksum_70 (Nat.le_of_ble_eq_true rfl) (Nat.le_of_ble_eq_true rfl) (fun u13 H locs hP hD hS => ?_)
  have hP : va_P D vwCl [(a0, .inr (8, [.ref a9, .ref a1, .ref a10, .ref a11, .int 0, .int 0, .int (-1)])), (a7, .inl (cs 0, 8, .inl (fun _ => 0))), (a8, .inl (cs 0, 8, .inl (fun _ => 0))), (a3, .inr (2, [.ref a16, .ref a17, .int 0])), (a2, .inr (6, [.int 1, .int 1, .int 50, .null, .ref a15, .ref a7, .ref a8, .ref a6])), (a6, .inl (cs 0, 64, .inl (fun _ => 0))), (a5, .inr (3, [.int 1, .int 0, .int 0, .int 0, .int (-1), .int 0, .int 0, .int 0, .int 0, .int (-1)])), (a1, .inr (7, [.ref a2, .ref a4, .ref a3, .ref a12, .ref a13, .ref a14, .long 0, .int 0, .int 0, .int 0, .int 0, .int 0, .int 0, .int 0, .int 0, .int 0])), (a4, .inl (cs 4, 8, .inr (.inr (.inr (.inr (va_up (va_up (va_up (va_up (va_up (va_up (va_up (va_up (fun _ => none) 0 (some a5)) 1 (some a18)) 2 (some a19)) 3 (some a20)) 4 (some a21)) 5 (some a22)) 6 (some a23)) 7 (some a24)))))))] H := hP
  have hD : va_D A [(a0, .inr (8, [.ref a9, .ref a1, .ref a10, .ref a11, .int 0, .int 0, .int (-1)])), (a7, .inl (cs 0, 8, .inl (fun _ => 0))), (a8, .inl (cs 0, 8, .inl (fun _ => 0))), (a3, .inr (2, [.ref a16, .ref a17, .int 0])), (a2, .inr (6, [.int 1, .int 1, .int 50, .null, .ref a15, .ref a7, .ref a8, .ref a6])), (a6, .inl (cs 0, 64, .inl (fun _ => 0))), (a5, .inr (3, [.int 1, .int 0, .int 0, .int 0, .int (-1), .int 0, .int 0, .int 0, .int 0, .int (-1)])), (a1, .inr (7, [.ref a2, .ref a4, .ref a3, .ref a12, .ref a13, .ref a14, .long 0, .int 0, .int 0, .int 0, .int 0, .int 0, .int 0, .int 0, .int 0, .int 0])), (a4, .inl (cs 4, 8, .inr (.inr (.inr (.inr (va_up (va_up (va_up (va_up (va_up (va_up (va_up (va_up (fun _ => none) 0 (some a5)) 1 (some a18)) 2 (some a19)) 3 (some a20)) 4 (some a21)) 5 (some a22)) 6 (some a23)) 7 (some a24)))))))] := hD
  refine W.widen (k := 0) (n := 0) (Nat.le_of_ble_eq_true rfl) (Nat.le_of_ble_eq_true rfl) ?_
  refine lv_i2l (v := 1) hx hb dX8_checksum_73 (by decide) ?_
  refine lv_ladd hx hb dX8_checksum_74 ?_
  refine tp_l (5970802223736414528) (by decide) ?_
  refine lv_lstore_n (lv' := [(1, .long 5970802223736414528), (4, .int 0), (3, .int 0), (0, .ref a0)]) hx hb dX8_checksum_75 rfl hl (by decide) rfl (fun ls hl => ?_)
  refine lv_iinc (v := 1) (lv' := [(4, .int 1), (1, .long 5970802223736414528), (3, .int 0), (0, .ref a0)]) hx hb dX8_checksum_76 hl (k := 1) rfl (by decide) (by decide) rfl (fun ls hl => ?_)
  refine lv_goto (tgt := 51) hx hb dX8_checksum_79 (by decide) ?_
  refine lv_iload hx hb dX8_checksum_51 (lv_at hl 0 rfl) ?_
  refine lv_bipush (v := 9) hx hb dX8_checksum_53 (by decide) ?_
  refine lv_icmp_gt (tgt := 82) hx hb dX8_checksum_55 (by decide) (fun c9 => absurd c9 (by decide)) (fun _ => ?_)
  refine lv_ldc2 (v := 31) hx hb hown (hts _ mX8_checksum_1) dX8_checksum_58 ?_
  refine lv_lload_n hx hb dX8_checksum_61 rfl (lv_at hl 1 rfl) ?_
  refine lv_lmul hx hb dX8_checksum_62 ?_
  refine tp_l (627428198733334208) (by decide) ?_
  refine lv_aload_n hx hb dX8_checksum_63 rfl (lv_at hl 3 rfl) ?_
  refine va_get (D := D) (ci := 8) (v := .ref a1) (C := RX8) (T := TX8) (N := 7) hx hb hts iX8_checksum_8 hown hN.1 hP 0 rfl rfl 1 (by decide) (hts _ mX8_checksum_2) (fun _ h9 => h9) rfl dX8_checksum_64 ?_
  refine lv_iload_n hx hb dX8_checksum_67 rfl (lv_at hl 2 rfl) ?_
  refine lv_iload hx hb dX8_checksum_68 (lv_at hl 0 rfl) ?_
  refine cv_i (As := [.int 0, .int 1]) (rest := [.long 627428198733334208]) (b := a1) (wr := [(a0, .inr (8, [.ref a9, .ref a1, .ref a10, .ref a11, .int 0, .int 0, .int (-1)])), (a3, .inr (2, [.ref a16, .ref a17, .int 0])), (a6, .inl (cs 0, 64, .inl (fun _ => 0))), (a5, .inr (3, [.int 1, .int 0, .int 0, .int 0, .int (-1), .int 0, .int 0, .int 0, .int 0, .int (-1)]))]) ⟨hx, hb, hml, hown, hts⟩ (fun sz => k178_X7_tellPlayer l D cs sz a1 a4 a2 a7 a8 a3 a12 a13 a14 a5 a18 a19 a20 a21 a22 a23 a24 a15 a6) (cwV 2 hts gX8_checksum_X7_tellPlayer rfl rfl rfl hdX7_tellPlayer_v ⟨Nat.le_of_ble_eq_true rfl, Nat.le_of_ble_eq_true rfl⟩) hN hP hD hS hA [7, 8, 4, 1, 2] [0, 3, 5, 6] rfl rfl rfl rfl (by decide) (ci := 7) (q0 := 0) rfl rfl rfl rfl hl.1 (Nat.le_of_ble_eq_true rfl) dX8_checksum_70 (Nat.le_of_ble_eq_true rfl) (Nat.le_of_ble_eq_true rfl) (fun u14 H locs hP hD hS => ?_)
  have hP : va_P D vwCl [(a0, .inr (8, [.ref a9, .ref a1, .ref a10, .ref a11, .int 0, .int 0, .int (-1)])), (a3, .inr (2, [.ref a16, .ref a17, .int 0])), (a6, .inl (cs 0, 64, .inl (fun _ => 0))), (a5, .inr (3, [.int 1, .int 0, .int 0, .int 0, .int (-1), .int 0, .int 0, .int 0, .int 0, .int (-1)])), (a4, .inl (cs 4, 8, .inr (.inr (.inr (.inr (va_up (va_up (va_up (va_up (va_up (va_up (va_up (va_up (fun _ => none) 0 (some a5)) 1 (some a18)) 2 (some a19)) 3 (some a20)) 4 (some a21)) 5 (some a22)) 6 (some a23)) 7 (some a24))))))), (a1, .inr (7, [.ref a2, .ref a4, .ref a3, .ref a12, .ref a13, .ref a14, .long 0, .int 0, .int 0, .int 0, .int 0, .int 0, .int 0, .int 0, .int 0, .int 0])), (a2, .inr (6, [.int 1, .int 1, .int 50, .null, .ref a15, .ref a7, .ref a8, .ref a6])), (a7, .inl (cs 0, 8, .inl (fun _ => 0))), (a8, .inl (cs 0, 8, .inl (fun _ => 0)))] H := hP
  have hD : va_D A [(a0, .inr (8, [.ref a9, .ref a1, .ref a10, .ref a11, .int 0, .int 0, .int (-1)])), (a3, .inr (2, [.ref a16, .ref a17, .int 0])), (a6, .inl (cs 0, 64, .inl (fun _ => 0))), (a5, .inr (3, [.int 1, .int 0, .int 0, .int 0, .int (-1), .int 0, .int 0, .int 0, .int 0, .int (-1)])), (a4, .inl (cs 4, 8, .inr (.inr (.inr (.inr (va_up (va_up (va_up (va_up (va_up (va_up (va_up (va_up (fun _ => none) 0 (some a5)) 1 (some a18)) 2 (some a19)) 3 (some a20)) 4 (some a21)) 5 (some a22)) 6 (some a23)) 7 (some a24))))))), (a1, .inr (7, [.ref a2, .ref a4, .ref a3, .ref a12, .ref a13, .ref a14, .long 0, .int 0, .int 0, .int 0, .int 0, .int 0, .int 0, .int 0, .int 0, .int 0])), (a2, .inr (6, [.int 1, .int 1, .int 50, .null, .ref a15, .ref a7, .ref a8, .ref a6])), (a7, .inl (cs 0, 8, .inl (fun _ => 0))), (a8, .inl (cs 0, 8, .inl (fun _ => 0)))] := hD
  refine W.widen (k := 0) (n := 0) (Nat.le_of_ble_eq_true rfl) (Nat.le_of_ble_eq_true rfl) ?_
  refine lv_i2l (v := 0) hx hb dX8_checksum_73 (by decide) ?_
  refine lv_ladd hx hb dX8_checksum_74 ?_
  refine tp_l (627428198733334208) (by decide) ?_
  refine lv_lstore_n (lv' := [(1, .long 627428198733334208), (4, .int 1), (3, .int 0), (0, .ref a0)]) hx hb dX8_checksum_75 rfl hl (by decide) rfl (fun ls hl => ?_)
  refine lv_iinc (v := 2) (lv' := [(4, .int 2), (1, .long 627428198733334208), (3, .int 0), (0, .ref a0)]) hx hb dX8_checksum_76 hl (k := 1) rfl (by decide) (by decide) rfl (fun ls hl => ?_)
  refine lv_goto (tgt := 51) hx hb dX8_checksum_79 (by decide) ?_
  refine lv_iload hx hb dX8_checksum_51 (lv_at hl 0 rfl) ?_
  refine lv_bipush (v := 9) hx hb dX8_checksum_53 (by decide) ?_
  refine lv_icmp_gt (tgt := 82) hx hb dX8_checksum_55 (by decide) (fun c9 => absurd c9 (by decide)) (fun _ => ?_)
  refine lv_ldc2 (v := 31) hx hb hown (hts _ mX8_checksum_1) dX8_checksum_58 ?_
  refine lv_lload_n hx hb dX8_checksum_61 rfl (lv_at hl 1 rfl) ?_
  refine lv_lmul hx hb dX8_checksum_62 ?_
  refine tp_l (1003530087023808832) (by decide) ?_
  refine lv_aload_n hx hb dX8_checksum_63 rfl (lv_at hl 3 rfl) ?_
  refine va_get (D := D) (ci := 8) (v := .ref a1) (C := RX8) (T := TX8) (N := 7) hx hb hts iX8_checksum_8 hown hN.1 hP 0 rfl rfl 1 (by decide) (hts _ mX8_checksum_2) (fun _ h9 => h9) rfl dX8_checksum_64 ?_
  refine lv_iload_n hx hb dX8_checksum_67 rfl (lv_at hl 2 rfl) ?_
  refine lv_iload hx hb dX8_checksum_68 (lv_at hl 0 rfl) ?_
  refine cv_i (As := [.int 0, .int 2]) (rest := [.long 1003530087023808832]) (b := a1) (wr := [(a0, .inr (8, [.ref a9, .ref a1, .ref a10, .ref a11, .int 0, .int 0, .int (-1)])), (a3, .inr (2, [.ref a16, .ref a17, .int 0])), (a6, .inl (cs 0, 64, .inl (fun _ => 0))), (a2, .inr (6, [.int 1, .int 1, .int 50, .null, .ref a15, .ref a7, .ref a8, .ref a6])), (a7, .inl (cs 0, 8, .inl (fun _ => 0))), (a8, .inl (cs 0, 8, .inl (fun _ => 0)))]) ⟨hx, hb, hml, hown, hts⟩ (fun sz => k188_X7_tellPlayer l D cs sz a1 a4 a5 a2 a3 a12 a13 a14 a18 a19 a20 a21 a22 a23 a24) (cwV 2 hts gX8_checksum_X7_tellPlayer rfl rfl rfl hdX7_tellPlayer_v ⟨Nat.le_of_ble_eq_true rfl, Nat.le_of_ble_eq_true rfl⟩) hN hP hD hS hA [5, 4, 3] [0, 1, 2, 6, 7, 8] rfl rfl rfl rfl (by decide) (ci := 7) (q0 := 0) rfl rfl rfl rfl hl.1 (Nat.le_of_ble_eq_true rfl) dX8_checksum_70 (Nat.le_of_ble_eq_true rfl) (Nat.le_of_ble_eq_true rfl) (fun u15 H locs hP hD hS => ?_)
  have hP : va_P D vwCl [(a0, .inr (8, [.ref a9, .ref a1, .ref a10, .ref a11, .int 0, .int 0, .int (-1)])), (a3, .inr (2, [.ref a16, .ref a17, .int 0])), (a6, .inl (cs 0, 64, .inl (fun _ => 0))), (a2, .inr (6, [.int 1, .int 1, .int 50, .null, .ref a15, .ref a7, .ref a8, .ref a6])), (a7, .inl (cs 0, 8, .inl (fun _ => 0))), (a8, .inl (cs 0, 8, .inl (fun _ => 0))), (a5, .inr (3, [.int 1, .int 0, .int 0, .int 0, .int (-1), .int 0, .int 0, .int 0, .int 0, .int (-1)])), (a1, .inr (7, [.ref a2, .ref a4, .ref a3, .ref a12, .ref a13, .ref a14, .long 0, .int 0, .int 0, .int 0, .int 0, .int 0, .int 0, .int 0, .int 0, .int 0])), (a4, .inl (cs 4, 8, .inr (.inr (.inr (.inr (va_up (va_up (va_up (va_up (va_up (va_up (va_up (va_up (fun _ => none) 0 (some a5)) 1 (some a18)) 2 (some a19)) 3 (some a20)) 4 (some a21)) 5 (some a22)) 6 (some a23)) 7 (some a24)))))))] H := hP
  have hD : va_D A [(a0, .inr (8, [.ref a9, .ref a1, .ref a10, .ref a11, .int 0, .int 0, .int (-1)])), (a3, .inr (2, [.ref a16, .ref a17, .int 0])), (a6, .inl (cs 0, 64, .inl (fun _ => 0))), (a2, .inr (6, [.int 1, .int 1, .int 50, .null, .ref a15, .ref a7, .ref a8, .ref a6])), (a7, .inl (cs 0, 8, .inl (fun _ => 0))), (a8, .inl (cs 0, 8, .inl (fun _ => 0))), (a5, .inr (3, [.int 1, .int 0, .int 0, .int 0, .int (-1), .int 0, .int 0, .int 0, .int 0, .int (-1)])), (a1, .inr (7, [.ref a2, .ref a4, .ref a3, .ref a12, .ref a13, .ref a14, .long 0, .int 0, .int 0, .int 0, .int 0, .int 0, .int 0, .int 0, .int 0, .int 0])), (a4, .inl (cs 4, 8, .inr (.inr (.inr (.inr (va_up (va_up (va_up (va_up (va_up (va_up (va_up (va_up (fun _ => none) 0 (some a5)) 1 (some a18)) 2 (some a19)) 3 (some a20)) 4 (some a21)) 5 (some a22)) 6 (some a23)) 7 (some a24)))))))] := hD
  refine W.widen (k := 0) (n := 0) (Nat.le_of_ble_eq_true rfl) (Nat.le_of_ble_eq_true rfl) ?_
  refine lv_i2l (v := 0) hx hb dX8_checksum_73 (by decide) ?_
  refine lv_ladd hx hb dX8_checksum_74 ?_
  refine tp_l (1003530087023808832) (by decide) ?_
  refine lv_lstore_n (lv' := [(1, .long 1003530087023808832), (4, .int 2), (3, .int 0), (0, .ref a0)]) hx hb dX8_checksum_75 rfl hl (by decide) rfl (fun ls hl => ?_)
  refine lv_iinc (v := 3) (lv' := [(4, .int 3), (1, .long 1003530087023808832), (3, .int 0), (0, .ref a0)]) hx hb dX8_checksum_76 hl (k := 1) rfl (by decide) (by decide) rfl (fun ls hl => ?_)
  refine lv_goto (tgt := 51) hx hb dX8_checksum_79 (by decide) ?_
  refine lv_iload hx hb dX8_checksum_51 (lv_at hl 0 rfl) ?_
  refine lv_bipush (v := 9) hx hb dX8_checksum_53 (by decide) ?_
  refine lv_icmp_gt (tgt := 82) hx hb dX8_checksum_55 (by decide) (fun c9 => absurd c9 (by decide)) (fun _ => ?_)
  refine lv_ldc2 (v := 31) hx hb hown (hts _ mX8_checksum_1) dX8_checksum_58 ?_
  refine lv_lload_n hx hb dX8_checksum_61 rfl (lv_at hl 1 rfl) ?_
  refine lv_lmul hx hb dX8_checksum_62 ?_
  refine tp_l ((-5784055449681029440)) (by decide) ?_
  refine lv_aload_n hx hb dX8_checksum_63 rfl (lv_at hl 3 rfl) ?_
  refine va_get (D := D) (ci := 8) (v := .ref a1) (C := RX8) (T := TX8) (N := 7) hx hb hts iX8_checksum_8 hown hN.1 hP 0 rfl rfl 1 (by decide) (hts _ mX8_checksum_2) (fun _ h9 => h9) rfl dX8_checksum_64 ?_
  refine lv_iload_n hx hb dX8_checksum_67 rfl (lv_at hl 2 rfl) ?_
  refine lv_iload hx hb dX8_checksum_68 (lv_at hl 0 rfl) ?_
  refine cv_i (As := [.int 0, .int 3]) (rest := [.long (-5784055449681029440)]) (b := a1) (wr := [(a0, .inr (8, [.ref a9, .ref a1, .ref a10, .ref a11, .int 0, .int 0, .int (-1)])), (a3, .inr (2, [.ref a16, .ref a17, .int 0])), (a6, .inl (cs 0, 64, .inl (fun _ => 0))), (a2, .inr (6, [.int 1, .int 1, .int 50, .null, .ref a15, .ref a7, .ref a8, .ref a6])), (a7, .inl (cs 0, 8, .inl (fun _ => 0))), (a8, .inl (cs 0, 8, .inl (fun _ => 0)))]) ⟨hx, hb, hml, hown, hts⟩ (fun sz => k196_X7_tellPlayer l D cs sz a1 a4 a5 a2 a3 a12 a13 a14 a18 a19 a20 a21 a22 a23 a24) (cwV 2 hts gX8_checksum_X7_tellPlayer rfl rfl rfl hdX7_tellPlayer_v ⟨Nat.le_of_ble_eq_true rfl, Nat.le_of_ble_eq_true rfl⟩) hN hP hD hS hA [7, 8, 6] [0, 1, 2, 3, 4, 5] rfl rfl rfl rfl (by decide) (ci := 7) (q0 := 0) rfl rfl rfl rfl hl.1 (Nat.le_of_ble_eq_true rfl) dX8_checksum_70 (Nat.le_of_ble_eq_true rfl) (Nat.le_of_ble_eq_true rfl) (fun u16 H locs hP hD hS => ?_)
  have hP : va_P D vwCl [(a0, .inr (8, [.ref a9, .ref a1, .ref a10, .ref a11, .int 0, .int 0, .int (-1)])), (a3, .inr (2, [.ref a16, .ref a17, .int 0])), (a6, .inl (cs 0, 64, .inl (fun _ => 0))), (a2, .inr (6, [.int 1, .int 1, .int 50, .null, .ref a15, .ref a7, .ref a8, .ref a6])), (a7, .inl (cs 0, 8, .inl (fun _ => 0))), (a8, .inl (cs 0, 8, .inl (fun _ => 0))), (a5, .inr (3, [.int 1, .int 0, .int 0, .int 0, .int (-1), .int 0, .int 0, .int 0, .int 0, .int (-1)])), (a1, .inr (7, [.ref a2, .ref a4, .ref a3, .ref a12, .ref a13, .ref a14, .long 0, .int 0, .int 0, .int 0, .int 0, .int 0, .int 0, .int 0, .int 0, .int 0])), (a4, .inl (cs 4, 8, .inr (.inr (.inr (.inr (va_up (va_up (va_up (va_up (va_up (va_up (va_up (va_up (fun _ => none) 0 (some a5)) 1 (some a18)) 2 (some a19)) 3 (some a20)) 4 (some a21)) 5 (some a22)) 6 (some a23)) 7 (some a24)))))))] H := hP
  have hD : va_D A [(a0, .inr (8, [.ref a9, .ref a1, .ref a10, .ref a11, .int 0, .int 0, .int (-1)])), (a3, .inr (2, [.ref a16, .ref a17, .int 0])), (a6, .inl (cs 0, 64, .inl (fun _ => 0))), (a2, .inr (6, [.int 1, .int 1, .int 50, .null, .ref a15, .ref a7, .ref a8, .ref a6])), (a7, .inl (cs 0, 8, .inl (fun _ => 0))), (a8, .inl (cs 0, 8, .inl (fun _ => 0))), (a5, .inr (3, [.int 1, .int 0, .int 0, .int 0, .int (-1), .int 0, .int 0, .int 0, .int 0, .int (-1)])), (a1, .inr (7, [.ref a2, .ref a4, .ref a3, .ref a12, .ref a13, .ref a14, .long 0, .int 0, .int 0, .int 0, .int 0, .int 0, .int 0, .int 0, .int 0, .int 0])), (a4, .inl (cs 4, 8, .inr (.inr (.inr (.inr (va_up (va_up (va_up (va_up (va_up (va_up (va_up (va_up (fun _ => none) 0 (some a5)) 1 (some a18)) 2 (some a19)) 3 (some a20)) 4 (some a21)) 5 (some a22)) 6 (some a23)) 7 (some a24)))))))] := hD
  refine W.widen (k := 0) (n := 0) (Nat.le_of_ble_eq_true rfl) (Nat.le_of_ble_eq_true rfl) ?_
  refine lv_i2l (v := 0) hx hb dX8_checksum_73 (by decide) ?_
  refine lv_ladd hx hb dX8_checksum_74 ?_
  refine tp_l ((-5784055449681029440)) (by decide) ?_
  refine lv_lstore_n (lv' := [(1, .long (-5784055449681029440)), (4, .int 3), (3, .int 0), (0, .ref a0)]) hx hb dX8_checksum_75 rfl hl (by decide) rfl (fun ls hl => ?_)
  refine lv_iinc (v := 4) (lv' := [(4, .int 4), (1, .long (-5784055449681029440)), (3, .int 0), (0, .ref a0)]) hx hb dX8_checksum_76 hl (k := 1) rfl (by decide) (by decide) rfl (fun ls hl => ?_)
  refine lv_goto (tgt := 51) hx hb dX8_checksum_79 (by decide) ?_
  refine lv_iload hx hb dX8_checksum_51 (lv_at hl 0 rfl) ?_
  refine lv_bipush (v := 9) hx hb dX8_checksum_53 (by decide) ?_
  refine lv_icmp_gt (tgt := 82) hx hb dX8_checksum_55 (by decide) (fun c9 => absurd c9 (by decide)) (fun _ => ?_)
  refine lv_ldc2 (v := 31) hx hb hown (hts _ mX8_checksum_1) dX8_checksum_58 ?_
  refine lv_lload_n hx hb dX8_checksum_61 rfl (lv_at hl 1 rfl) ?_
  refine lv_lmul hx hb dX8_checksum_62 ?_
  refine tp_l (5161721796983603520) (by decide) ?_
  refine lv_aload_n hx hb dX8_checksum_63 rfl (lv_at hl 3 rfl) ?_
  refine va_get (D := D) (ci := 8) (v := .ref a1) (C := RX8) (T := TX8) (N := 7) hx hb hts iX8_checksum_8 hown hN.1 hP 0 rfl rfl 1 (by decide) (hts _ mX8_checksum_2) (fun _ h9 => h9) rfl dX8_checksum_64 ?_
  refine lv_iload_n hx hb dX8_checksum_67 rfl (lv_at hl 2 rfl) ?_
  refine lv_iload hx hb dX8_checksum_68 (lv_at hl 0 rfl) ?_
  refine cv_i (As := [.int 0, .int 4]) (rest := [.long 5161721796983603520]) (b := a1) (wr := [(a0, .inr (8, [.ref a9, .ref a1, .ref a10, .ref a11, .int 0, .int 0, .int (-1)])), (a3, .inr (2, [.ref a16, .ref a17, .int 0])), (a6, .inl (cs 0, 64, .inl (fun _ => 0))), (a2, .inr (6, [.int 1, .int 1, .int 50, .null, .ref a15, .ref a7, .ref a8, .ref a6])), (a7, .inl (cs 0, 8, .inl (fun _ => 0))), (a8, .inl (cs 0, 8, .inl (fun _ => 0)))]) ⟨hx, hb, hml, hown, hts⟩ (fun sz => k204_X7_tellPlayer l D cs sz a1 a4 a5 a2 a3 a12 a13 a14 a18 a19 a20 a21 a22 a23 a24) (cwV 2 hts gX8_checksum_X7_tellPlayer rfl rfl rfl hdX7_tellPlayer_v ⟨Nat.le_of_ble_eq_true rfl, Nat.le_of_ble_eq_true rfl⟩) hN hP hD hS hA [7, 8, 6] [0, 1, 2, 3, 4, 5] rfl rfl rfl rfl (by decide) (ci := 7) (q0 := 0) rfl rfl rfl rfl hl.1 (Nat.le_of_ble_eq_true rfl) dX8_checksum_70 (Nat.le_of_ble_eq_true rfl) (Nat.le_of_ble_eq_true rfl) (fun u17 H locs hP hD hS => ?_)
  have hP : va_P D vwCl [(a0, .inr (8, [.ref a9, .ref a1, .ref a10, .ref a11, .int 0, .int 0, .int (-1)])), (a3, .inr (2, [.ref a16, .ref a17, .int 0])), (a6, .inl (cs 0, 64, .inl (fun _ => 0))), (a2, .inr (6, [.int 1, .int 1, .int 50, .null, .ref a15, .ref a7, .ref a8, .ref a6])), (a7, .inl (cs 0, 8, .inl (fun _ => 0))), (a8, .inl (cs 0, 8, .inl (fun _ => 0))), (a5, .inr (3, [.int 1, .int 0, .int 0, .int 0, .int (-1), .int 0, .int 0, .int 0, .int 0, .int (-1)])), (a1, .inr (7, [.ref a2, .ref a4, .ref a3, .ref a12, .ref a13, .ref a14, .long 0, .int 0, .int 0, .int 0, .int 0, .int 0, .int 0, .int 0, .int 0, .int 0])), (a4, .inl (cs 4, 8, .inr (.inr (.inr (.inr (va_up (va_up (va_up (va_up (va_up (va_up (va_up (va_up (fun _ => none) 0 (some a5)) 1 (some a18)) 2 (some a19)) 3 (some a20)) 4 (some a21)) 5 (some a22)) 6 (some a23)) 7 (some a24)))))))] H := hP
  have hD : va_D A [(a0, .inr (8, [.ref a9, .ref a1, .ref a10, .ref a11, .int 0, .int 0, .int (-1)])), (a3, .inr (2, [.ref a16, .ref a17, .int 0])), (a6, .inl (cs 0, 64, .inl (fun _ => 0))), (a2, .inr (6, [.int 1, .int 1, .int 50, .null, .ref a15, .ref a7, .ref a8, .ref a6])), (a7, .inl (cs 0, 8, .inl (fun _ => 0))), (a8, .inl (cs 0, 8, .inl (fun _ => 0))), (a5, .inr (3, [.int 1, .int 0, .int 0, .int 0, .int (-1), .int 0, .int 0, .int 0, .int 0, .int (-1)])), (a1, .inr (7, [.ref a2, .ref a4, .ref a3, .ref a12, .ref a13, .ref a14, .long 0, .int 0, .int 0, .int 0, .int 0, .int 0, .int 0, .int 0, .int 0, .int 0])), (a4, .inl (cs 4, 8, .inr (.inr (.inr (.inr (va_up (va_up (va_up (va_up (va_up (va_up (va_up (va_up (fun _ => none) 0 (some a5)) 1 (some a18)) 2 (some a19)) 3 (some a20)) 4 (some a21)) 5 (some a22)) 6 (some a23)) 7 (some a24)))))))] := hD
  refine W.widen (k := 0) (n := 0) (Nat.le_of_ble_eq_true rfl) (Nat.le_of_ble_eq_true rfl) ?_
  refine lv_i2l (v := 0) hx hb dX8_checksum_73 (by decide) ?_
  refine lv_ladd hx hb dX8_checksum_74 ?_
  refine tp_l (5161721796983603520) (by decide) ?_
  refine lv_lstore_n (lv' := [(1, .long 5161721796983603520), (4, .int 4), (3, .int 0), (0, .ref a0)]) hx hb dX8_checksum_75 rfl hl (by decide) rfl (fun ls hl => ?_)
  refine lv_iinc (v := 5) (lv' := [(4, .int 5), (1, .long 5161721796983603520), (3, .int 0), (0, .ref a0)]) hx hb dX8_checksum_76 hl (k := 1) rfl (by decide) (by decide) rfl (fun ls hl => ?_)
  refine lv_goto (tgt := 51) hx hb dX8_checksum_79 (by decide) ?_
  refine lv_iload hx hb dX8_checksum_51 (lv_at hl 0 rfl) ?_
  refine lv_bipush (v := 9) hx hb dX8_checksum_53 (by decide) ?_
  refine lv_icmp_gt (tgt := 82) hx hb dX8_checksum_55 (by decide) (fun c9 => absurd c9 (by decide)) (fun _ => ?_)
  refine lv_ldc2 (v := 31) hx hb hown (hts _ mX8_checksum_1) dX8_checksum_58 ?_
  refine lv_lload_n hx hb dX8_checksum_61 rfl (lv_at hl 1 rfl) ?_
  refine lv_lmul hx hb dX8_checksum_62 ?_
  refine tp_l ((-6007320956894255424)) (by decide) ?_
  refine lv_aload_n hx hb dX8_checksum_63 rfl (lv_at hl 3 rfl) ?_
  refine va_get (D := D) (ci := 8) (v := .ref a1) (C := RX8) (T := TX8) (N := 7) hx hb hts iX8_checksum_8 hown hN.1 hP 0 rfl rfl 1 (by decide) (hts _ mX8_checksum_2) (fun _ h9 => h9) rfl dX8_checksum_64 ?_
  refine lv_iload_n hx hb dX8_checksum_67 rfl (lv_at hl 2 rfl) ?_
  refine lv_iload hx hb dX8_checksum_68 (lv_at hl 0 rfl) ?_
  refine cv_i (As := [.int 0, .int 5]) (rest := [.long (-6007320956894255424)]) (b := a1) (wr := [(a0, .inr (8, [.ref a9, .ref a1, .ref a10, .ref a11, .int 0, .int 0, .int (-1)])), (a3, .inr (2, [.ref a16, .ref a17, .int 0])), (a6, .inl (cs 0, 64, .inl (fun _ => 0))), (a2, .inr (6, [.int 1, .int 1, .int 50, .null, .ref a15, .ref a7, .ref a8, .ref a6])), (a7, .inl (cs 0, 8, .inl (fun _ => 0))), (a8, .inl (cs 0, 8, .inl (fun _ => 0)))]) ⟨hx, hb, hml, hown, hts⟩ (fun sz => k212_X7_tellPlayer l D cs sz a1 a4 a5 a2 a3 a12 a13 a14 a18 a19 a20 a21 a22 a23 a24) (cwV 2 hts gX8_checksum_X7_tellPlayer rfl rfl rfl hdX7_tellPlayer_v ⟨Nat.le_of_ble_eq_true rfl, Nat.le_of_ble_eq_true rfl⟩) hN hP hD hS hA [7, 8, 6] [0, 1, 2, 3, 4, 5] rfl rfl rfl rfl (by decide) (ci := 7) (q0 := 0) rfl rfl rfl rfl hl.1 (Nat.le_of_ble_eq_true rfl) dX8_checksum_70 (Nat.le_of_ble_eq_true rfl) (Nat.le_of_ble_eq_true rfl) (fun u18 H locs hP hD hS => ?_)
  have hP : va_P D vwCl [(a0, .inr (8, [.ref a9, .ref a1, .ref a10, .ref a11, .int 0, .int 0, .int (-1)])), (a3, .inr (2, [.ref a16, .ref a17, .int 0])), (a6, .inl (cs 0, 64, .inl (fun _ => 0))), (a2, .inr (6, [.int 1, .int 1, .int 50, .null, .ref a15, .ref a7, .ref a8, .ref a6])), (a7, .inl (cs 0, 8, .inl (fun _ => 0))), (a8, .inl (cs 0, 8, .inl (fun _ => 0))), (a5, .inr (3, [.int 1, .int 0, .int 0, .int 0, .int (-1), .int 0, .int 0, .int 0, .int 0, .int (-1)])), (a1, .inr (7, [.ref a2, .ref a4, .ref a3, .ref a12, .ref a13, .ref a14, .long 0, .int 0, .int 0, .int 0, .int 0, .int 0, .int 0, .int 0, .int 0, .int 0])), (a4, .inl (cs 4, 8, .inr (.inr (.inr (.inr (va_up (va_up (va_up (va_up (va_up (va_up (va_up (va_up (fun _ => none) 0 (some a5)) 1 (some a18)) 2 (some a19)) 3 (some a20)) 4 (some a21)) 5 (some a22)) 6 (some a23)) 7 (some a24)))))))] H := hP
  have hD : va_D A [(a0, .inr (8, [.ref a9, .ref a1, .ref a10, .ref a11, .int 0, .int 0, .int (-1)])), (a3, .inr (2, [.ref a16, .ref a17, .int 0])), (a6, .inl (cs 0, 64, .inl (fun _ => 0))), (a2, .inr (6, [.int 1, .int 1, .int 50, .null, .ref a15, .ref a7, .ref a8, .ref a6])), (a7, .inl (cs 0, 8, .inl (fun _ => 0))), (a8, .inl (cs 0, 8, .inl (fun _ => 0))), (a5, .inr (3, [.int 1, .int 0, .int 0, .int 0, .int (-1), .int 0, .int 0, .int 0, .int 0, .int (-1)])), (a1, .inr (7, [.ref a2, .ref a4, .ref a3, .ref a12, .ref a13, .ref a14, .long 0, .int 0, .int 0, .int 0, .int 0, .int 0, .int 0, .int 0, .int 0, .int 0])), (a4, .inl (cs 4, 8, .inr (.inr (.inr (.inr (va_up (va_up (va_up (va_up (va_up (va_up (va_up (va_up (fun _ => none) 0 (some a5)) 1 (some a18)) 2 (some a19)) 3 (some a20)) 4 (some a21)) 5 (some a22)) 6 (some a23)) 7 (some a24)))))))] := hD
  refine W.widen (k := 0) (n := 0) (Nat.le_of_ble_eq_true rfl) (Nat.le_of_ble_eq_true rfl) ?_
  refine lv_i2l (v := (-1)) hx hb dX8_checksum_73 (by decide) ?_
  refine lv_ladd hx hb dX8_checksum_74 ?_
  refine tp_l ((-6007320956894255425)) (by decide) ?_
  refine lv_lstore_n (lv' := [(1, .long (-6007320956894255425)), (4, .int 5), (3, .int 0), (0, .ref a0)]) hx hb dX8_checksum_75 rfl hl (by decide) rfl (fun ls hl => ?_)
  refine lv_iinc (v := 6) (lv' := [(4, .int 6), (1, .long (-6007320956894255425)), (3, .int 0), (0, .ref a0)]) hx hb dX8_checksum_76 hl (k := 1) rfl (by decide) (by decide) rfl (fun ls hl => ?_)
  refine lv_goto (tgt := 51) hx hb dX8_checksum_79 (by decide) ?_
  refine lv_iload hx hb dX8_checksum_51 (lv_at hl 0 rfl) ?_
  refine lv_bipush (v := 9) hx hb dX8_checksum_53 (by decide) ?_
  refine lv_icmp_gt (tgt := 82) hx hb dX8_checksum_55 (by decide) (fun c9 => absurd c9 (by decide)) (fun _ => ?_)
  refine lv_ldc2 (v := 31) hx hb hown (hts _ mX8_checksum_1) dX8_checksum_58 ?_
  refine lv_lload_n hx hb dX8_checksum_61 rfl (lv_at hl 1 rfl) ?_
  refine lv_lmul hx hb dX8_checksum_62 ?_
  refine tp_l ((-1759508926626402015)) (by decide) ?_
  refine lv_aload_n hx hb dX8_checksum_63 rfl (lv_at hl 3 rfl) ?_
  refine va_get (D := D) (ci := 8) (v := .ref a1) (C := RX8) (T := TX8) (N := 7) hx hb hts iX8_checksum_8 hown hN.1 hP 0 rfl rfl 1 (by decide) (hts _ mX8_checksum_2) (fun _ h9 => h9) rfl dX8_checksum_64 ?_
  refine lv_iload_n hx hb dX8_checksum_67 rfl (lv_at hl 2 rfl) ?_
  refine lv_iload hx hb dX8_checksum_68 (lv_at hl 0 rfl) ?_
  refine cv_i (As := [.int 0, .int 6]) (rest := [.long (-1759508926626402015)]) (b := a1) (wr := [(a0, .inr (8, [.ref a9, .ref a1, .ref a10, .ref a11, .int 0, .int 0, .int (-1)])), (a3, .inr (2, [.ref a16, .ref a17, .int 0])), (a6, .inl (cs 0, 64, .inl (fun _ => 0))), (a2, .inr (6, [.int 1, .int 1, .int 50, .null, .ref a15, .ref a7, .ref a8, .ref a6])), (a7, .inl (cs 0, 8, .inl (fun _ => 0))), (a8, .inl (cs 0, 8, .inl (fun _ => 0)))]) ⟨hx, hb, hml, hown, hts⟩ (fun sz => k220_X7_tellPlayer l D cs sz a1 a4 a5 a2 a3 a12 a13 a14 a18 a19 a20 a21 a22 a23 a24) (cwV 2 hts gX8_checksum_X7_tellPlayer rfl rfl rfl hdX7_tellPlayer_v ⟨Nat.le_of_ble_eq_true rfl, Nat.le_of_ble_eq_true rfl⟩) hN hP hD hS hA [7, 8, 6] [0, 1, 2, 3, 4, 5] rfl rfl rfl rfl (by decide) (ci := 7) (q0 := 0) rfl rfl rfl rfl hl.1 (Nat.le_of_ble_eq_true rfl) dX8_checksum_70 (Nat.le_of_ble_eq_true rfl) (Nat.le_of_ble_eq_true rfl) (fun u19 H locs hP hD hS => ?_)
  have hP : va_P D vwCl [(a0, .inr (8, [.ref a9, .ref a1, .ref a10, .ref a11, .int 0, .int 0, .int (-1)])), (a3, .inr (2, [.ref a16, .ref a17, .int 0])), (a6, .inl (cs 0, 64, .inl (fun _ => 0))), (a2, .inr (6, [.int 1, .int 1, .int 50, .null, .ref a15, .ref a7, .ref a8, .ref a6])), (a7, .inl (cs 0, 8, .inl (fun _ => 0))), (a8, .inl (cs 0, 8, .inl (fun _ => 0))), (a5, .inr (3, [.int 1, .int 0, .int 0, .int 0, .int (-1), .int 0, .int 0, .int 0, .int 0, .int (-1)])), (a1, .inr (7, [.ref a2, .ref a4, .ref a3, .ref a12, .ref a13, .ref a14, .long 0, .int 0, .int 0, .int 0, .int 0, .int 0, .int 0, .int 0, .int 0, .int 0])), (a4, .inl (cs 4, 8, .inr (.inr (.inr (.inr (va_up (va_up (va_up (va_up (va_up (va_up (va_up (va_up (fun _ => none) 0 (some a5)) 1 (some a18)) 2 (some a19)) 3 (some a20)) 4 (some a21)) 5 (some a22)) 6 (some a23)) 7 (some a24)))))))] H := hP
  have hD : va_D A [(a0, .inr (8, [.ref a9, .ref a1, .ref a10, .ref a11, .int 0, .int 0, .int (-1)])), (a3, .inr (2, [.ref a16, .ref a17, .int 0])), (a6, .inl (cs 0, 64, .inl (fun _ => 0))), (a2, .inr (6, [.int 1, .int 1, .int 50, .null, .ref a15, .ref a7, .ref a8, .ref a6])), (a7, .inl (cs 0, 8, .inl (fun _ => 0))), (a8, .inl (cs 0, 8, .inl (fun _ => 0))), (a5, .inr (3, [.int 1, .int 0, .int 0, .int 0, .int (-1), .int 0, .int 0, .int 0, .int 0, .int (-1)])), (a1, .inr (7, [.ref a2, .ref a4, .ref a3, .ref a12, .ref a13, .ref a14, .long 0, .int 0, .int 0, .int 0, .int 0, .int 0, .int 0, .int 0, .int 0, .int 0])), (a4, .inl (cs 4, 8, .inr (.inr (.inr (.inr (va_up (va_up (va_up (va_up (va_up (va_up (va_up (va_up (fun _ => none) 0 (some a5)) 1 (some a18)) 2 (some a19)) 3 (some a20)) 4 (some a21)) 5 (some a22)) 6 (some a23)) 7 (some a24)))))))] := hD
  refine W.widen (k := 0) (n := 0) (Nat.le_of_ble_eq_true rfl) (Nat.le_of_ble_eq_true rfl) ?_
  refine lv_i2l (v := 0) hx hb dX8_checksum_73 (by decide) ?_
  refine lv_ladd hx hb dX8_checksum_74 ?_
  refine tp_l ((-1759508926626402015)) (by decide) ?_
  refine lv_lstore_n (lv' := [(1, .long (-1759508926626402015)), (4, .int 6), (3, .int 0), (0, .ref a0)]) hx hb dX8_checksum_75 rfl hl (by decide) rfl (fun ls hl => ?_)
  refine lv_iinc (v := 7) (lv' := [(4, .int 7), (1, .long (-1759508926626402015)), (3, .int 0), (0, .ref a0)]) hx hb dX8_checksum_76 hl (k := 1) rfl (by decide) (by decide) rfl (fun ls hl => ?_)
  refine lv_goto (tgt := 51) hx hb dX8_checksum_79 (by decide) ?_
  refine lv_iload hx hb dX8_checksum_51 (lv_at hl 0 rfl) ?_
  refine lv_bipush (v := 9) hx hb dX8_checksum_53 (by decide) ?_
  refine lv_icmp_gt (tgt := 82) hx hb dX8_checksum_55 (by decide) (fun c9 => absurd c9 (by decide)) (fun _ => ?_)
  refine lv_ldc2 (v := 31) hx hb hown (hts _ mX8_checksum_1) dX8_checksum_58 ?_
  refine lv_lload_n hx hb dX8_checksum_61 rfl (lv_at hl 1 rfl) ?_
  refine lv_lmul hx hb dX8_checksum_62 ?_
  refine tp_l (795455495710192383) (by decide) ?_
  refine lv_aload_n hx hb dX8_checksum_63 rfl (lv_at hl 3 rfl) ?_
  refine va_get (D := D) (ci := 8) (v := .ref a1) (C := RX8) (T := TX8) (N := 7) hx hb hts iX8_checksum_8 hown hN.1 hP 0 rfl rfl 1 (by decide) (hts _ mX8_checksum_2) (fun _ h9 => h9) rfl dX8_checksum_64 ?_
  refine lv_iload_n hx hb dX8_checksum_67 rfl (lv_at hl 2 rfl) ?_
  refine lv_iload hx hb dX8_checksum_68 (lv_at hl 0 rfl) ?_
  refine cv_i (As := [.int 0, .int 7]) (rest := [.long 795455495710192383]) (b := a1) (wr := [(a0, .inr (8, [.ref a9, .ref a1, .ref a10, .ref a11, .int 0, .int 0, .int (-1)])), (a3, .inr (2, [.ref a16, .ref a17, .int 0])), (a6, .inl (cs 0, 64, .inl (fun _ => 0))), (a2, .inr (6, [.int 1, .int 1, .int 50, .null, .ref a15, .ref a7, .ref a8, .ref a6])), (a7, .inl (cs 0, 8, .inl (fun _ => 0))), (a8, .inl (cs 0, 8, .inl (fun _ => 0)))]) ⟨hx, hb, hml, hown, hts⟩ (fun sz => k228_X7_tellPlayer l D cs sz a1 a4 a5 a2 a3 a12 a13 a14 a18 a19 a20 a21 a22 a23 a24) (cwV 2 hts gX8_checksum_X7_tellPlayer rfl rfl rfl hdX7_tellPlayer_v ⟨Nat.le_of_ble_eq_true rfl, Nat.le_of_ble_eq_true rfl⟩) hN hP hD hS hA [7, 8, 6] [0, 1, 2, 3, 4, 5] rfl rfl rfl rfl (by decide) (ci := 7) (q0 := 0) rfl rfl rfl rfl hl.1 (Nat.le_of_ble_eq_true rfl) dX8_checksum_70 (Nat.le_of_ble_eq_true rfl) (Nat.le_of_ble_eq_true rfl) (fun u20 H locs hP hD hS => ?_)
  have hP : va_P D vwCl [(a0, .inr (8, [.ref a9, .ref a1, .ref a10, .ref a11, .int 0, .int 0, .int (-1)])), (a3, .inr (2, [.ref a16, .ref a17, .int 0])), (a6, .inl (cs 0, 64, .inl (fun _ => 0))), (a2, .inr (6, [.int 1, .int 1, .int 50, .null, .ref a15, .ref a7, .ref a8, .ref a6])), (a7, .inl (cs 0, 8, .inl (fun _ => 0))), (a8, .inl (cs 0, 8, .inl (fun _ => 0))), (a5, .inr (3, [.int 1, .int 0, .int 0, .int 0, .int (-1), .int 0, .int 0, .int 0, .int 0, .int (-1)])), (a1, .inr (7, [.ref a2, .ref a4, .ref a3, .ref a12, .ref a13, .ref a14, .long 0, .int 0, .int 0, .int 0, .int 0, .int 0, .int 0, .int 0, .int 0, .int 0])), (a4, .inl (cs 4, 8, .inr (.inr (.inr (.inr (va_up (va_up (va_up (va_up (va_up (va_up (va_up (va_up (fun _ => none) 0 (some a5)) 1 (some a18)) 2 (some a19)) 3 (some a20)) 4 (some a21)) 5 (some a22)) 6 (some a23)) 7 (some a24)))))))] H := hP
  have hD : va_D A [(a0, .inr (8, [.ref a9, .ref a1, .ref a10, .ref a11, .int 0, .int 0, .int (-1)])), (a3, .inr (2, [.ref a16, .ref a17, .int 0])), (a6, .inl (cs 0, 64, .inl (fun _ => 0))), (a2, .inr (6, [.int 1, .int 1, .int 50, .null, .ref a15, .ref a7, .ref a8, .ref a6])), (a7, .inl (cs 0, 8, .inl (fun _ => 0))), (a8, .inl (cs 0, 8, .inl (fun _ => 0))), (a5, .inr (3, [.int 1, .int 0, .int 0, .int 0, .int (-1), .int 0, .int 0, .int 0, .int 0, .int (-1)])), (a1, .inr (7, [.ref a2, .ref a4, .ref a3, .ref a12, .ref a13, .ref a14, .long 0, .int 0, .int 0, .int 0, .int 0, .int 0, .int 0, .int 0, .int 0, .int 0])), (a4, .inl (cs 4, 8, .inr (.inr (.inr (.inr (va_up (va_up (va_up (va_up (va_up (va_up (va_up (va_up (fun _ => none) 0 (some a5)) 1 (some a18)) 2 (some a19)) 3 (some a20)) 4 (some a21)) 5 (some a22)) 6 (some a23)) 7 (some a24)))))))] := hD
  refine W.widen (k := 0) (n := 0) (Nat.le_of_ble_eq_true rfl) (Nat.le_of_ble_eq_true rfl) ?_
  refine lv_i2l (v := 0) hx hb dX8_checksum_73 (by decide) ?_
  refine lv_ladd hx hb dX8_checksum_74 ?_
  refine tp_l (795455495710192383) (by decide) ?_
  refine lv_lstore_n (lv' := [(1, .long 795455495710192383), (4, .int 7), (3, .int 0), (0, .ref a0)]) hx hb dX8_checksum_75 rfl hl (by decide) rfl (fun ls hl => ?_)
  refine lv_iinc (v := 8) (lv' := [(4, .int 8), (1, .long 795455495710192383), (3, .int 0), (0, .ref a0)]) hx hb dX8_checksum_76 hl (k := 1) rfl (by decide) (by decide) rfl (fun ls hl => ?_)
  refine lv_goto (tgt := 51) hx hb dX8_checksum_79 (by decide) ?_
  refine lv_iload hx hb dX8_checksum_51 (lv_at hl 0 rfl) ?_
  refine lv_bipush (v := 9) hx hb dX8_checksum_53 (by decide) ?_
  refine lv_icmp_gt (tgt := 82) hx hb dX8_checksum_55 (by decide) (fun c9 => absurd c9 (by decide)) (fun _ => ?_)
  refine lv_ldc2 (v := 31) hx hb hown (hts _ mX8_checksum_1) dX8_checksum_58 ?_
  refine lv_lload_n hx hb dX8_checksum_61 rfl (lv_at hl 1 rfl) ?_
  refine lv_lmul hx hb dX8_checksum_62 ?_
  refine tp_l (6212376293306412257) (by decide) ?_
  refine lv_aload_n hx hb dX8_checksum_63 rfl (lv_at hl 3 rfl) ?_
  refine va_get (D := D) (ci := 8) (v := .ref a1) (C := RX8) (T := TX8) (N := 7) hx hb hts iX8_checksum_8 hown hN.1 hP 0 rfl rfl 1 (by decide) (hts _ mX8_checksum_2) (fun _ h9 => h9) rfl dX8_checksum_64 ?_
  refine lv_iload_n hx hb dX8_checksum_67 rfl (lv_at hl 2 rfl) ?_
  refine lv_iload hx hb dX8_checksum_68 (lv_at hl 0 rfl) ?_
  refine cv_i (As := [.int 0, .int 8]) (rest := [.long 6212376293306412257]) (b := a1) (wr := [(a0, .inr (8, [.ref a9, .ref a1, .ref a10, .ref a11, .int 0, .int 0, .int (-1)])), (a3, .inr (2, [.ref a16, .ref a17, .int 0])), (a6, .inl (cs 0, 64, .inl (fun _ => 0))), (a2, .inr (6, [.int 1, .int 1, .int 50, .null, .ref a15, .ref a7, .ref a8, .ref a6])), (a7, .inl (cs 0, 8, .inl (fun _ => 0))), (a8, .inl (cs 0, 8, .inl (fun _ => 0)))]) ⟨hx, hb, hml, hown, hts⟩ (fun sz => k236_X7_tellPlayer l D cs sz a1 a4 a5 a2 a3 a12 a13 a14 a18 a19 a20 a21 a22 a23 a24) (cwV 2 hts gX8_checksum_X7_tellPlayer rfl rfl rfl hdX7_tellPlayer_v ⟨Nat.le_of_ble_eq_true rfl, Nat.le_of_ble_eq_true rfl⟩) hN hP hD hS hA [7, 8, 6] [0, 1, 2, 3, 4, 5] rfl rfl rfl rfl (by decide) (ci := 7) (q0 := 0) rfl rfl rfl rfl hl.1 (Nat.le_of_ble_eq_true rfl) dX8_checksum_70 (Nat.le_of_ble_eq_true rfl) (Nat.le_of_ble_eq_true rfl) (fun u21 H locs hP hD hS => ?_)
  have hP : va_P D vwCl [(a0, .inr (8, [.ref a9, .ref a1, .ref a10, .ref a11, .int 0, .int 0, .int (-1)])), (a3, .inr (2, [.ref a16, .ref a17, .int 0])), (a6, .inl (cs 0, 64, .inl (fun _ => 0))), (a2, .inr (6, [.int 1, .int 1, .int 50, .null, .ref a15, .ref a7, .ref a8, .ref a6])), (a7, .inl (cs 0, 8, .inl (fun _ => 0))), (a8, .inl (cs 0, 8, .inl (fun _ => 0))), (a5, .inr (3, [.int 1, .int 0, .int 0, .int 0, .int (-1), .int 0, .int 0, .int 0, .int 0, .int (-1)])), (a1, .inr (7, [.ref a2, .ref a4, .ref a3, .ref a12, .ref a13, .ref a14, .long 0, .int 0, .int 0, .int 0, .int 0, .int 0, .int 0, .int 0, .int 0, .int 0])), (a4, .inl (cs 4, 8, .inr (.inr (.inr (.inr (va_up (va_up (va_up (va_up (va_up (va_up (va_up (va_up (fun _ => none) 0 (some a5)) 1 (some a18)) 2 (some a19)) 3 (some a20)) 4 (some a21)) 5 (some a22)) 6 (some a23)) 7 (some a24)))))))] H := hP
  have hD : va_D A [(a0, .inr (8, [.ref a9, .ref a1, .ref a10, .ref a11, .int 0, .int 0, .int (-1)])), (a3, .inr (2, [.ref a16, .ref a17, .int 0])), (a6, .inl (cs 0, 64, .inl (fun _ => 0))), (a2, .inr (6, [.int 1, .int 1, .int 50, .null, .ref a15, .ref a7, .ref a8, .ref a6])), (a7, .inl (cs 0, 8, .inl (fun _ => 0))), (a8, .inl (cs 0, 8, .inl (fun _ => 0))), (a5, .inr (3, [.int 1, .int 0, .int 0, .int 0, .int (-1), .int 0, .int 0, .int 0, .int 0, .int (-1)])), (a1, .inr (7, [.ref a2, .ref a4, .ref a3, .ref a12, .ref a13, .ref a14, .long 0, .int 0, .int 0, .int 0, .int 0, .int 0, .int 0, .int 0, .int 0, .int 0])), (a4, .inl (cs 4, 8, .inr (.inr (.inr (.inr (va_up (va_up (va_up (va_up (va_up (va_up (va_up (va_up (fun _ => none) 0 (some a5)) 1 (some a18)) 2 (some a19)) 3 (some a20)) 4 (some a21)) 5 (some a22)) 6 (some a23)) 7 (some a24)))))))] := hD
  refine W.widen (k := 0) (n := 0) (Nat.le_of_ble_eq_true rfl) (Nat.le_of_ble_eq_true rfl) ?_
  refine lv_i2l (v := (-1)) hx hb dX8_checksum_73 (by decide) ?_
  refine lv_ladd hx hb dX8_checksum_74 ?_
  refine tp_l (6212376293306412256) (by decide) ?_
  refine lv_lstore_n (lv' := [(1, .long 6212376293306412256), (4, .int 8), (3, .int 0), (0, .ref a0)]) hx hb dX8_checksum_75 rfl hl (by decide) rfl (fun ls hl => ?_)
  refine lv_iinc (v := 9) (lv' := [(4, .int 9), (1, .long 6212376293306412256), (3, .int 0), (0, .ref a0)]) hx hb dX8_checksum_76 hl (k := 1) rfl (by decide) (by decide) rfl (fun ls hl => ?_)
  refine lv_goto (tgt := 51) hx hb dX8_checksum_79 (by decide) ?_
  refine lv_iload hx hb dX8_checksum_51 (lv_at hl 0 rfl) ?_
  refine lv_bipush (v := 9) hx hb dX8_checksum_53 (by decide) ?_
  refine lv_icmp_gt (tgt := 82) hx hb dX8_checksum_55 (by decide) (fun c9 => absurd c9 (by decide)) (fun _ => ?_)
  refine lv_ldc2 (v := 31) hx hb hown (hts _ mX8_checksum_1) dX8_checksum_58 ?_
  refine lv_lload_n hx hb dX8_checksum_61 rfl (lv_at hl 1 rfl) ?_
  refine lv_lmul hx hb dX8_checksum_62 ?_
  refine tp_l (8116224355403263776) (by decide) ?_
  refine lv_aload_n hx hb dX8_checksum_63 rfl (lv_at hl 3 rfl) ?_
  refine va_get (D := D) (ci := 8) (v := .ref a1) (C := RX8) (T := TX8) (N := 7) hx hb hts iX8_checksum_8 hown hN.1 hP 0 rfl rfl 1 (by decide) (hts _ mX8_checksum_2) (fun _ h9 => h9) rfl dX8_checksum_64 ?_
  refine lv_iload_n hx hb dX8_checksum_67 rfl (lv_at hl 2 rfl) ?_
  refine lv_iload hx hb dX8_checksum_68 (lv_at hl 0 rfl) ?_
  refine cv_i (As := [.int 0, .int 9]) (rest := [.long 8116224355403263776]) (b := a1) (wr := [(a0, .inr (8, [.ref a9, .ref a1, .ref a10, .ref a11, .int 0, .int 0, .int (-1)])), (a3, .inr (2, [.ref a16, .ref a17, .int 0])), (a6, .inl (cs 0, 64, .inl (fun _ => 0)))]) ⟨hx, hb, hml, hown, hts⟩ (fun sz => k246_X7_tellPlayer l D cs sz a1 a4 a2 a7 a8 a5 a3 a12 a13 a14 a18 a19 a20 a21 a22 a23 a24 a15 a6) (cwV 2 hts gX8_checksum_X7_tellPlayer rfl rfl rfl hdX7_tellPlayer_v ⟨Nat.le_of_ble_eq_true rfl, Nat.le_of_ble_eq_true rfl⟩) hN hP hD hS hA [7, 8, 3, 4, 5, 6] [0, 1, 2] rfl rfl rfl rfl (by decide) (ci := 7) (q0 := 0) rfl rfl rfl rfl hl.1 (Nat.le_of_ble_eq_true rfl) dX8_checksum_70 (Nat.le_of_ble_eq_true rfl) (Nat.le_of_ble_eq_true rfl) (fun u22 H locs hP hD hS => ?_)
  have hP : va_P D vwCl [(a0, .inr (8, [.ref a9, .ref a1, .ref a10, .ref a11, .int 0, .int 0, .int (-1)])), (a3, .inr (2, [.ref a16, .ref a17, .int 0])), (a6, .inl (cs 0, 64, .inl (fun _ => 0))), (a5, .inr (3, [.int 1, .int 0, .int 0, .int 0, .int (-1), .int 0, .int 0, .int 0, .int 0, .int (-1)])), (a4, .inl (cs 4, 8, .inr (.inr (.inr (.inr (va_up (va_up (va_up (va_up (va_up (va_up (va_up (va_up (fun _ => none) 0 (some a5)) 1 (some a18)) 2 (some a19)) 3 (some a20)) 4 (some a21)) 5 (some a22)) 6 (some a23)) 7 (some a24))))))), (a1, .inr (7, [.ref a2, .ref a4, .ref a3, .ref a12, .ref a13, .ref a14, .long 0, .int 0, .int 0, .int 0, .int 0, .int 0, .int 0, .int 0, .int 0, .int 0])), (a2, .inr (6, [.int 1, .int 1, .int 50, .null, .ref a15, .ref a7, .ref a8, .ref a6])), (a7, .inl (cs 0, 8, .inl (fun _ => 0))), (a8, .inl (cs 0, 8, .inl (fun _ => 0)))] H := hP
  have hD : va_D A [(a0, .inr (8, [.ref a9, .ref a1, .ref a10, .ref a11, .int 0, .int 0, .int (-1)])), (a3, .inr (2, [.ref a16, .ref a17, .int 0])), (a6, .inl (cs 0, 64, .inl (fun _ => 0))), (a5, .inr (3, [.int 1, .int 0, .int 0, .int 0, .int (-1), .int 0, .int 0, .int 0, .int 0, .int (-1)])), (a4, .inl (cs 4, 8, .inr (.inr (.inr (.inr (va_up (va_up (va_up (va_up (va_up (va_up (va_up (va_up (fun _ => none) 0 (some a5)) 1 (some a18)) 2 (some a19)) 3 (some a20)) 4 (some a21)) 5 (some a22)) 6 (some a23)) 7 (some a24))))))), (a1, .inr (7, [.ref a2, .ref a4, .ref a3, .ref a12, .ref a13, .ref a14, .long 0, .int 0, .int 0, .int 0, .int 0, .int 0, .int 0, .int 0, .int 0, .int 0])), (a2, .inr (6, [.int 1, .int 1, .int 50, .null, .ref a15, .ref a7, .ref a8, .ref a6])), (a7, .inl (cs 0, 8, .inl (fun _ => 0))), (a8, .inl (cs 0, 8, .inl (fun _ => 0)))] := hD
  refine W.widen (k := 0) (n := 0) (Nat.le_of_ble_eq_true rfl) (Nat.le_of_ble_eq_true rfl) ?_
  refine lv_i2l (v := 0) hx hb dX8_checksum_73 (by decide) ?_
  refine lv_ladd hx hb dX8_checksum_74 ?_
  refine tp_l (8116224355403263776) (by decide) ?_
  refine lv_lstore_n (lv' := [(1, .long 8116224355403263776), (4, .int 9), (3, .int 0), (0, .ref a0)]) hx hb dX8_checksum_75 rfl hl (by decide) rfl (fun ls hl => ?_)
  refine lv_iinc (v := 10) (lv' := [(4, .int 10), (1, .long 8116224355403263776), (3, .int 0), (0, .ref a0)]) hx hb dX8_checksum_76 hl (k := 1) rfl (by decide) (by decide) rfl (fun ls hl => ?_)
  refine lv_goto (tgt := 51) hx hb dX8_checksum_79 (by decide) ?_
  refine lv_iload hx hb dX8_checksum_51 (lv_at hl 0 rfl) ?_
  refine lv_bipush (v := 9) hx hb dX8_checksum_53 (by decide) ?_
  refine lv_icmp_gt (tgt := 82) hx hb dX8_checksum_55 (by decide) (fun _ => ?_) (fun c9 => absurd (by decide) c9)
  refine lv_iinc (v := 1) (lv' := [(3, .int 1), (4, .int 10), (1, .long 8116224355403263776), (0, .ref a0)]) hx hb dX8_checksum_82 hl (k := 2) rfl (by decide) (by decide) rfl (fun ls hl => ?_)
  refine lv_goto (tgt := 34) hx hb dX8_checksum_85 (by decide) ?_
  refine lv_iload_n hx hb dX8_checksum_34 rfl (lv_at hl 0 rfl) ?_
  refine lv_aload_n hx hb dX8_checksum_35 rfl (lv_at hl 3 rfl) ?_
  refine va_get (D := D) (ci := 8) (v := .ref a1) (C := RX8) (T := TX8) (N := 7) hx hb hts iX8_checksum_8 hown hN.1 hP 0 rfl rfl 1 (by decide) (hts _ mX8_checksum_2) (fun _ h9 => h9) rfl dX8_checksum_36 ?_
  refine va_getN (D := D) (ci := 7) (v := .ref a2) (C := RX7) (T := TX7) (N := 16) hx hb hts iX8_checksum_7 hown hN.1 hP 5 rfl rfl 0 (by decide) (hN.f 46 rfl) (fun _ h9 => h9) rfl dX8_checksum_39 ?_
  refine va_getN (D := D) (ci := 6) (v := .int 1) (C := RX6) (T := TX6) (N := 8) hx hb hts iX8_checksum_6 hown hN.1 hP 6 rfl rfl 0 (by decide) (hN.f 37 rfl) (fun _ h9 => h9) rfl dX8_checksum_42 ?_
  refine lv_icmp_ge (tgt := 88) hx hb dX8_checksum_45 (by decide) (fun _ => ?_) (fun c9 => absurd (by decide) c9)
  refine lv_iconst (v := 0) hx hb dX8_checksum_88 (by decide) ?_
  refine lv_istore_n (lv' := [(3, .int 0), (4, .int 10), (1, .long 8116224355403263776), (0, .ref a0)]) hx hb dX8_checksum_89 rfl hl (by decide) rfl (fun ls hl => ?_)
  refine lv_iload_n hx hb dX8_checksum_90 rfl (lv_at hl 0 rfl) ?_
  refine lv_aload_n hx hb dX8_checksum_91 rfl (lv_at hl 3 rfl) ?_
  refine va_get (D := D) (ci := 8) (v := .ref a1) (C := RX8) (T := TX8) (N := 7) hx hb hts iX8_checksum_8 hown hN.1 hP 0 rfl rfl 1 (by decide) (hts _ mX8_checksum_2) (fun _ h9 => h9) rfl dX8_checksum_92 ?_
  refine va_getN (D := D) (ci := 7) (v := .ref a3) (C := RX7) (T := TX7) (N := 16) hx hb hts iX8_checksum_7 hown hN.1 hP 5 rfl rfl 2 (by decide) (hN.f 47 rfl) (fun _ h9 => h9) rfl dX8_checksum_95 ?_
  refine va_getN (D := D) (ci := 2) (v := .int 0) (C := RX2) (T := TX2) (N := 3) hx hb hts iX8_checksum_2 hown hN.1 hP 1 rfl rfl 2 (by decide) (hN.f 3 rfl) (fun _ h9 => h9) rfl dX8_checksum_98 ?_
  refine lv_icmp_ge (tgt := 143) hx hb dX8_checksum_101 (by decide) (fun _ => ?_) (fun c9 => absurd (by decide) c9)
  refine lv_aload_n hx hb dX8_checksum_143 rfl (lv_at hl 3 rfl) ?_
  refine va_get (D := D) (ci := 8) (v := .ref a1) (C := RX8) (T := TX8) (N := 7) hx hb hts iX8_checksum_8 hown hN.1 hP 0 rfl rfl 1 (by decide) (hts _ mX8_checksum_2) (fun _ h9 => h9) rfl dX8_checksum_144 ?_
  refine va_getN (D := D) (ci := 7) (v := .int 0) (C := RX7) (T := TX7) (N := 16) hx hb hts iX8_checksum_7 hown hN.1 hP 5 rfl rfl 11 (by decide) (hN.f 50 rfl) (fun _ h9 => h9) rfl dX8_checksum_147 ?_
  refine lv_if_le (tgt := 203) hx hb dX8_checksum_150 (by decide) (fun _ => ?_) (fun c9 => absurd (by decide) c9)
  refine lv_lload_n hx hb dX8_checksum_203 rfl (lv_at hl 2 rfl) ?_
  exact en_l (fun k => ([] : List Nat).getD k 0) hx hb hr hlocks rfl hP hD hS (Nat.le_of_ble_eq_true rfl) (Nat.le_of_ble_eq_true rfl) dX8_checksum_204
theorem mX9_checksum_1 : (.fieldLink RX9 40 "OneBeatModel" "thrown" "I" : Cond) ∈ wsX9_checksum := List.mem_of_getElem? (i := 1) (by decide +kernel)
theorem iX9_checksum_9 : ∀ w ∈ wsX90, w ∈ wsX9_checksum := fun w h => List.mem_of_mem_drop (List.mem_of_mem_take ((show wsX90 = (wsX9_checksum.drop 79).take 18 by decide +kernel) ▸ h))
theorem mX9_checksum_2 : (.constantLong RX9 305 (31) : Cond) ∈ wsX9_checksum := List.mem_of_getElem? (i := 2) (by decide +kernel)
theorem mX9_checksum_3 : (.fieldLink RX9 18 "OneBeatModel" "data" "[I" : Cond) ∈ wsX9_checksum := List.mem_of_getElem? (i := 3) (by decide +kernel)
