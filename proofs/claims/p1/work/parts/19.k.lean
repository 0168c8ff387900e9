set_option maxHeartbeats 4000000 in
set_option maxRecDepth 100000 in
theorem law_4_0n {p : Program} {l : Launch} {e : Env} {s : State} {m : MethodId} {args : Array Value} {below : List Frame} {meth : Method} {c : Code} {Q : State → Prop} {D : va_G} {cs : Nat → ClassId} {A : Nat → Prop} {xs : Nat → Int32} {b : Nat} (hx : p.tables.exec = Jvm.exec) (hb : c.code = cL_law) (hml : c.maxLocals = 9) (hown : s.vm.findClass RL = some m.cls) (hts : ∀ w ∈ wsL_law, w.before args s = true) (hN : NK D cs s) (hX : va_X b 6 xs s s.heap) (hbl : b < s.heap.size) (hbA : ¬ A b) (hA : ∀ q : Nat, s.heap.size ≤ q → A q) (hZ : ZX A s s.heap) (hZS : ZS cs A s s.heap) (hlt : l.stackTraces = false)
    (kend : ∀ (H : Heap) (locs : List Loc) (ls : Array Slot), va_S A s.heap H locs → lv_has ls 9 [(0, .ref b), (4, .int 0)] → W p l e room_1 s m args below meth c H locs 600002 7302232 Q (F0 m 1169 ls []))
    (a0 a1 a2 a3 a4 a5 a6 a7 a8 a9 a10 a11 a12 a13 a14 a15 a16 a17 a18 a19 a20 a21 a22 : Nat) (y2 : Int32) (hy1 : xs 1 = (0)) (hy2 : xs 2 = (y2)) (g2_2 : y2 < 0) (H : Heap) (locs : List Loc) (ls : Array Slot) (hP : va_P D vwCl [(a0, .inr (8, [.ref a5, .ref a2, .ref a6, .ref a7, .int 0, .int 0, .int (-1)])), (a1, .inr (6, [.int 1, .int 1, .int 50, .null, .ref a8, .ref a9, .ref a10, .ref a11])), (a2, .inr (7, [.ref a1, .ref a12, .ref a13, .ref a14, .ref a15, .ref a16, .long 0, .int 0, .int 0, .int 0, .int 0, .int 0, .int 0, .int 0, .int 0, .int 0])), (a3, .inr (9, [.int 0, .ref a17, .int 0, .int 0, .int 0, .int 0, .int 0, .int (-1), .ref a4, .ref a18, .ref a19, .ref a20, .int 0, .int 0, .int 0, .int 0, .int 0, .ref a21])), (a4, .inl (cs 0, 45783, .inl (layF (fun _ => 0) 1)))] H) (hD : va_D A [(a0, .inr (8, [.ref a5, .ref a2, .ref a6, .ref a7, .int 0, .int 0, .int (-1)])), (a1, .inr (6, [.int 1, .int 1, .int 50, .null, .ref a8, .ref a9, .ref a10, .ref a11])), (a2, .inr (7, [.ref a1, .ref a12, .ref a13, .ref a14, .ref a15, .ref a16, .long 0, .int 0, .int 0, .int 0, .int 0, .int 0, .int 0, .int 0, .int 0, .int 0])), (a3, .inr (9, [.int 0, .ref a17, .int 0, .int 0, .int 0, .int 0, .int 0, .int (-1), .ref a4, .ref a18, .ref a19, .ref a20, .int 0, .int 0, .int 0, .int 0, .int 0, .ref a21])), (a4, .inl (cs 0, 45783, .inl (layF (fun _ => 0) 1)))]) (hS : va_S A s.heap H locs) (hl : lv_has ls 9 [(4, .int 0), (3, .ref a22), (2, .ref a3), (1, .ref a0), (0, .ref b)]) : W p l e room_1 s m args below meth c H locs 391 467079 Q (F0 m 334 ls []) := by
  refine lv_aload_n hx hb dL_law_334 rfl (lv_at hl 3 rfl) ?_
  refine lv_aload_n hx hb dL_law_335 rfl (lv_at hl 4 rfl) ?_
  refine lv_iload hx hb dL_law_336 (lv_at hl 0 rfl) ?_
  refine lv_iconst (v := 1) hx hb dL_law_338 (by decide) ?_
  refine lv_iadd hx hb dL_law_339 ?_
  refine tp_i (1) (by decide) ?_
  refine va_sld hx hb hX hbl hbA hS (vin (by decide +kernel)) dL_law_340 ?_
  refine tp_i (0) hy1 ?_
  refine lv_aload_n hx hb dL_law_341 rfl (lv_at hl 4 rfl) ?_
  refine lv_iload hx hb dL_law_342 (lv_at hl 0 rfl) ?_
  refine lv_iconst (v := 2) hx hb dL_law_344 (by decide) ?_
  refine lv_iadd hx hb dL_law_345 ?_
  refine tp_i (2) (by decide) ?_
  refine va_sld hx hb hX hbl hbA hS (vin (by decide +kernel)) dL_law_346 ?_
  refine tp_i (y2) hy2 ?_
  refine lv_aload_n hx hb dL_law_347 rfl (lv_at hl 1 rfl) ?_
  refine ch_i (As := [.ref a0, .int 0, .int y2, .ref a22]) (rest := []) (wr := [(a3, .inr (9, [.int 0, .ref a17, .int 0, .int 0, .int 0, .int 0, .int 0, .int (-1), .ref a4, .ref a18, .ref a19, .ref a20, .int 0, .int 0, .int 0, .int 0, .int 0, .ref a21])), (a4, .inl (cs 0, 45783, .inl (layF (fun _ => 0) 1)))]) ⟨hx, hb, hml, hown, hts⟩ (fun sz => k255_L_player l D cs sz hlt a0 a2 a1 a22 a5 a6 a7 a12 a13 a14 a15 a16 a8 a9 a10 a11 (y2) g2_2) (vx_cwSW 4 hts gL_law_L_player rfl rfl rfl hdL_player_o ⟨Nat.le_of_ble_eq_true rfl, Nat.le_of_ble_eq_true rfl⟩) hN hP hD hS hA hZ [0, 2, 1] [3, 4] rfl rfl rfl rfl (by decide) rfl rfl hl.1 (Nat.le_of_ble_eq_true rfl) dL_law_348 (Nat.le_of_ble_eq_true rfl) (Nat.le_of_ble_eq_true rfl) (fun u0 H locs hP hD hS => ?_)
  have hP : va_P D vwCl [(a3, .inr (9, [.int 0, .ref a17, .int 0, .int 0, .int 0, .int 0, .int 0, .int (-1), .ref a4, .ref a18, .ref a19, .ref a20, .int 0, .int 0, .int 0, .int 0, .int 0, .ref a21])), (a4, .inl (cs 0, 45783, .inl (layF (fun _ => 0) 1)))] H := hP
  have hD : va_D A [(a3, .inr (9, [.int 0, .ref a17, .int 0, .int 0, .int 0, .int 0, .int 0, .int (-1), .ref a4, .ref a18, .ref a19, .ref a20, .int 0, .int 0, .int 0, .int 0, .int 0, .ref a21])), (a4, .inl (cs 0, 45783, .inl (layF (fun _ => 0) 1)))] := hD
  refine W.widen (k := 392) (n := 467085) (Nat.le_of_ble_eq_true rfl) (Nat.le_of_ble_eq_true rfl) ?_
  refine lv_istore (lv' := [(5, .int 2), (4, .int 0), (3, .ref a22), (2, .ref a3), (1, .ref a0), (0, .ref b)]) hx hb dL_law_351 hl (by decide) rfl (fun ls hl => ?_)
  refine lv_aload_n hx hb dL_law_353 rfl (lv_at hl 3 rfl) ?_
  refine lv_aload_n hx hb dL_law_354 rfl (lv_at hl 5 rfl) ?_
  refine lv_iload hx hb dL_law_355 (lv_at hl 1 rfl) ?_
  refine lv_iconst (v := 1) hx hb dL_law_357 (by decide) ?_
  refine lv_iadd hx hb dL_law_358 ?_
  refine tp_i (1) (by decide) ?_
  refine va_sld hx hb hX hbl hbA hS (vin (by decide +kernel)) dL_law_359 ?_
  refine tp_i (0) hy1 ?_
  refine lv_aload_n hx hb dL_law_360 rfl (lv_at hl 5 rfl) ?_
  refine lv_iload hx hb dL_law_361 (lv_at hl 1 rfl) ?_
  refine lv_iconst (v := 2) hx hb dL_law_363 (by decide) ?_
  refine lv_iadd hx hb dL_law_364 ?_
  refine tp_i (2) (by decide) ?_
  refine va_sld hx hb hX hbl hbA hS (vin (by decide +kernel)) dL_law_365 ?_
  refine tp_i (y2) hy2 ?_
  refine cv_i (As := [.int 0, .int y2]) (rest := []) (b := a3) (wr := []) ⟨hx, hb, hml, hown, hts⟩ (fun sz => k258_X9_player l D cs sz a3 a4 a17 a18 a19 a20 a21 (y2) g2_2) (cwV 2 hts gL_law_X9_player rfl rfl rfl hdX9_player_v ⟨Nat.le_of_ble_eq_true rfl, Nat.le_of_ble_eq_true rfl⟩) hN hP hD hS hA [0, 1] [] rfl rfl rfl rfl (by decide) (ci := 9) (q0 := 0) rfl rfl rfl rfl hl.1 (Nat.le_of_ble_eq_true rfl) dL_law_366 (Nat.le_of_ble_eq_true rfl) (Nat.le_of_ble_eq_true rfl) (fun u1 H locs hP hD hS => ?_)
  have hP : va_P D vwCl [(a4, .inl (cs 0, 45783, .inl (layF (fun _ => 0) 1))), (a3, .inr (9, [.int 2, .ref a17, .int 0, .int 0, .int 0, .int 0, .int 0, .int (-1), .ref a4, .ref a18, .ref a19, .ref a20, .int 0, .int 0, .int 0, .int 0, .int 0, .ref a21]))] H := hP
  have hD : va_D A [(a4, .inl (cs 0, 45783, .inl (layF (fun _ => 0) 1))), (a3, .inr (9, [.int 2, .ref a17, .int 0, .int 0, .int 0, .int 0, .int 0, .int (-1), .ref a4, .ref a18, .ref a19, .ref a20, .int 0, .int 0, .int 0, .int 0, .int 0, .ref a21]))] := hD
  refine W.widen (k := 392) (n := 467085) (Nat.le_of_ble_eq_true rfl) (Nat.le_of_ble_eq_true rfl) ?_
  refine lv_istore (lv' := [(6, .int 0), (5, .int 2), (4, .int 0), (3, .ref a22), (2, .ref a3), (1, .ref a0), (0, .ref b)]) hx hb dL_law_369 hl (by decide) rfl (fun ls hl => ?_)
  refine lv_aload_n hx hb dL_law_371 rfl (lv_at hl 4 rfl) ?_
  refine cv_i (As := []) (rest := []) (b := a3) (wr := [(a4, .inl (cs 0, 45783, .inl (layF (fun _ => 0) 1)))]) ⟨hx, hb, hml, hown, hts⟩ (fun sz => k259_X9_thrown l D cs sz a3 a17 a4 a18 a19 a20 a21) (cwV 0 hts gL_law_X9_thrown rfl rfl rfl hdX9_thrown_v ⟨Nat.le_of_ble_eq_true rfl, Nat.le_of_ble_eq_true rfl⟩) hN hP hD hS hA [1] [0] rfl rfl rfl rfl (by decide) (ci := 9) (q0 := 0) rfl rfl rfl rfl hl.1 (Nat.le_of_ble_eq_true rfl) dL_law_372 (Nat.le_of_ble_eq_true rfl) (Nat.le_of_ble_eq_true rfl) (fun u2 H locs hP hD hS => ?_)
  have hP : va_P D vwCl [(a4, .inl (cs 0, 45783, .inl (layF (fun _ => 0) 1))), (a3, .inr (9, [.int 2, .ref a17, .int 0, .int 0, .int 0, .int 0, .int 0, .int (-1), .ref a4, .ref a18, .ref a19, .ref a20, .int 0, .int 0, .int 0, .int 0, .int 0, .ref a21]))] H := hP
  have hD : va_D A [(a4, .inl (cs 0, 45783, .inl (layF (fun _ => 0) 1))), (a3, .inr (9, [.int 2, .ref a17, .int 0, .int 0, .int 0, .int 0, .int 0, .int (-1), .ref a4, .ref a18, .ref a19, .ref a20, .int 0, .int 0, .int 0, .int 0, .int 0, .ref a21]))] := hD
  refine W.widen (k := 392) (n := 467085) (Nat.le_of_ble_eq_true rfl) (Nat.le_of_ble_eq_true rfl) ?_
  refine lv_iload hx hb dL_law_375 (lv_at hl 1 rfl) ?_
  refine lv_icmp_eq (tgt := 382) hx hb dL_law_377 (by decide) (fun _ => ?_) (fun c9 => absurd (by decide) c9)
  refine lv_iload hx hb dL_law_382 (lv_at hl 1 rfl) ?_
  refine lv_if_ne (tgt := 399) hx hb dL_law_384 (by decide) (fun _ => ?_) (fun c9 => absurd c9 (by decide))
  refine lv_goto (tgt := 1169) hx hb dL_law_399 (by decide) ?_
  refine W.widen (k := 600002) (n := 7302232) (Nat.le_of_ble_eq_true rfl) (Nat.le_of_ble_eq_true rfl) ?_
  exact kend _ _ _ hS (lv_sub hl [6, 2] rfl)

set_option maxHeartbeats 4000000 in
set_option maxRecDepth 100000 in
theorem k260_X8_refuseWhatOutside (l : Launch) (D : va_G) (cs : Nat → ClassId) (sz : Nat) (hlt : l.stackTraces = false) (a0 a1 a2 a3 a4 : Nat) (x0 : Int32) (hf0 : ¬ x0 < 0) (hf1 : ¬ x0 ≤ 9) : KX l yX8_refuseWhatOutside wsX8_refuseWhatOutside 6 100 1 6 D cs sz [.ref a0, .int x0, .int 9] [(a0, .inr (8, [.ref a1, .ref a2, .ref a3, .ref a4, .int 0, .int 0, .int (-1)]))] QnV "java/lang/IllegalArgumentException" := by
  refine KX.of cX8_refuseWhatOutside 3 none (by decide) rfl (Nat.le_of_ble_eq_true rfl) ?_
  intro p e s m below meth c A ls hx hb hr hml hown hts hlocks hnx hP hN hD hA hS hl hZ
  have hown : s.vm.findClass RX8 = some m.cls := hown
  have hl : lv_has ls 3 [(0, .ref a0), (1, .int x0), (2, .int 9)] := hl
  refine lv_iload_n hx hb dX8_refuseWhatOutside_0 rfl (lv_at hl 1 rfl) ?_
  refine lv_if_lt (tgt := 9) hx hb dX8_refuseWhatOutside_1 (by decide) (fun c9 => absurd c9 hf0) (fun _ => ?_)
  refine lv_iload_n hx hb dX8_refuseWhatOutside_4 rfl (lv_at hl 1 rfl) ?_
  refine lv_iload_n hx hb dX8_refuseWhatOutside_5 rfl (lv_at hl 2 rfl) ?_
  refine lv_icmp_le (tgt := 19) hx hb dX8_refuseWhatOutside_6 (by decide) (fun c9 => absurd c9 hf1) (fun _ => ?_)
  exact tx_g2 (E := "java/lang/IllegalArgumentException") 0 hx hb hlt hown hN (by decide +kernel) (hts _ mX8_refuseWhatOutside_1) (hts _ mX8_refuseWhatOutside_2) (hN.s 10 rfl) rfl (fun w h => hts w (xgX8_refuseWhatOutside_49_0 w h)) xnRX8_49_0 xdRX8_49_0 xoRX8_45_49_0 hZ hS hl hml dX8_refuseWhatOutside_9 dX8_refuseWhatOutside_12 dX8_refuseWhatOutside_13 dX8_refuseWhatOutside_15 dX8_refuseWhatOutside_18 hnx (Nat.le_of_ble_eq_true rfl) (Nat.le_of_ble_eq_true rfl) (Nat.le_of_ble_eq_true rfl) (Nat.le_of_ble_eq_true rfl) hlocks (Nat.le_of_ble_eq_true rfl) (Nat.le_of_ble_eq_true rfl)
set_option maxHeartbeats 4000000 in
set_option maxRecDepth 100000 in
theorem k261_X8_player (l : Launch) (D : va_G) (cs : Nat → ClassId) (sz : Nat) (hlt : l.stackTraces = false) (a0 a1 a2 a3 a4 a5 a6 a7 a8 a9 a10 a11 a12 a13 a14 : Nat) (x0 : Int32) (hf0 : ¬ x0 < 0) (hf1 : ¬ x0 ≤ 9) : KX l yX8_player wsX8_player 7 122 1 6 D cs sz [.ref a0, .int 0, .int x0] [(a0, .inr (8, [.ref a3, .ref a1, .ref a4, .ref a5, .int 0, .int 0, .int (-1)])), (a1, .inr (7, [.ref a2, .ref a6, .ref a7, .ref a8, .ref a9, .ref a10, .long 0, .int 0, .int 0, .int 0, .int 0, .int 0, .int 0, .int 0, .int 0, .int 0])), (a2, .inr (6, [.int 1, .int 1, .int 50, .null, .ref a11, .ref a12, .ref a13, .ref a14]))] QnI "java/lang/IllegalArgumentException" := by
  refine KX.of cX8_player 3 (some .int) (by decide) rfl (Nat.le_of_ble_eq_true rfl) ?_
  intro p e s m below meth c A ls hx hb hr hml hown hts hlocks hnx hP hN hD hA hS hl hZ
  have hown : s.vm.findClass RX8 = some m.cls := hown
  have hl : lv_has ls 3 [(0, .ref a0), (1, .int 0), (2, .int x0)] := hl
  refine lv_aload_n hx hb dX8_player_0 rfl (lv_at hl 0 rfl) ?_
  refine lv_iload_n hx hb dX8_player_1 rfl (lv_at hl 1 rfl) ?_
  refine cv_v (As := [.int 0]) (rest := []) (b := a0) (wr := []) ⟨hx, hb, hml, hown, hts⟩ (fun sz => k164_X8_refuseNoPlayer l D cs sz a0 a1 a2 a3 a4 a5 a6 a7 a8 a9 a10 a11 a12 a13 a14) (cwV 1 hts gX8_player_X8_refuseNoPlayer rfl rfl rfl hdX8_refuseNoPlayer_v ⟨Nat.le_of_ble_eq_true rfl, Nat.le_of_ble_eq_true rfl⟩) hN hP hD hS hA [0, 1, 2] [] rfl rfl rfl rfl (by decide) (ci := 8) (q0 := 0) rfl rfl rfl rfl hl.1 (Nat.le_of_ble_eq_true rfl) dX8_player_2 (Nat.le_of_ble_eq_true rfl) (Nat.le_of_ble_eq_true rfl) (fun u0 H locs hP hD hS => ?_)
  have hP : va_P D vwCl [(a0, .inr (8, [.ref a3, .ref a1, .ref a4, .ref a5, .int 0, .int 0, .int (-1)])), (a1, .inr (7, [.ref a2, .ref a6, .ref a7, .ref a8, .ref a9, .ref a10, .long 0, .int 0, .int 0, .int 0, .int 0, .int 0, .int 0, .int 0, .int 0, .int 0])), (a2, .inr (6, [.int 1, .int 1, .int 50, .null, .ref a11, .ref a12, .ref a13, .ref a14]))] H := hP
  have hD : va_D A [(a0, .inr (8, [.ref a3, .ref a1, .ref a4, .ref a5, .int 0, .int 0, .int (-1)])), (a1, .inr (7, [.ref a2, .ref a6, .ref a7, .ref a8, .ref a9, .ref a10, .long 0, .int 0, .int 0, .int 0, .int 0, .int 0, .int 0, .int 0, .int 0, .int 0])), (a2, .inr (6, [.int 1, .int 1, .int 50, .null, .ref a11, .ref a12, .ref a13, .ref a14]))] := hD
  refine W.widen (k := 0) (n := 0) (Nat.le_of_ble_eq_true rfl) (Nat.le_of_ble_eq_true rfl) ?_
  refine lv_aload_n hx hb dX8_player_5 rfl (lv_at hl 0 rfl) ?_
  refine lv_iload_n hx hb dX8_player_6 rfl (lv_at hl 2 rfl) ?_
  refine lv_bipush (v := 9) hx hb dX8_player_7 (by decide) ?_
  exact xp_v (As := [.int x0, .int 9]) (rest := []) (b := a0) ⟨hx, hb, hml, hown, hts⟩ (fun sz => k260_X8_refuseWhatOutside l D cs sz hlt a0 a3 a1 a4 a5 (x0) hf0 hf1) (cwV 2 hts gX8_player_X8_refuseWhatOutside rfl rfl rfl hdX8_refuseWhatOutside_v ⟨Nat.le_of_ble_eq_true rfl, Nat.le_of_ble_eq_true rfl⟩) hN hP hD hS hA hZ [0] rfl rfl (ci := 8) (q0 := 0) rfl rfl rfl rfl hl.1 (Nat.le_of_ble_eq_true rfl) dX8_player_9 (Nat.le_of_ble_eq_true rfl) (Nat.le_of_ble_eq_true rfl) hnx hlocks (Nat.le_of_ble_eq_true rfl) (Nat.le_of_ble_eq_true rfl)
set_option maxHeartbeats 4000000 in
set_option maxRecDepth 100000 in
theorem k262_L_player (l : Launch) (D : va_G) (cs : Nat → ClassId) (sz : Nat) (hlt : l.stackTraces = false) (a0 a1 a2 a3 a4 a5 a6 a7 a8 a9 a10 a11 a12 a13 a14 a15 : Nat) (x0 : Int32) (hf0 : ¬ x0 < 0) (hf1 : ¬ x0 ≤ 9) : KH l yL_player wsL_player 8 144 1 6 D cs sz [.ref a0, .int 0, .int x0, .ref a3] [(a0, .inr (8, [.ref a4, .ref a1, .ref a5, .ref a6, .int 0, .int 0, .int (-1)])), (a1, .inr (7, [.ref a2, .ref a7, .ref a8, .ref a9, .ref a10, .ref a11, .long 0, .int 0, .int 0, .int 0, .int 0, .int 0, .int 0, .int 0, .int 0, .int 0])), (a2, .inr (6, [.int 1, .int 1, .int 50, .null, .ref a12, .ref a13, .ref a14, .ref a15]))] (fun u => []) (2) := by
  refine KH.of cL_player 5 (some .int) (by decide) rfl (Nat.le_of_ble_eq_true rfl) ?_
  intro p e s m below meth c A ls hx hb hr hml hown hts hlocks htab hP hN hD hA hS hl hZ
  have hown : s.vm.findClass RL = some m.cls := hown
  have hl : lv_has ls 5 [(0, .ref a0), (1, .int 0), (2, .int x0), (3, .ref a3)] := hl
  refine lv_aload_n hx hb dL_player_0 rfl (lv_at hl 3 rfl) ?_
  refine lv_iconst (v := 0) hx hb dL_player_1 (by decide) ?_
  refine lv_aload_n hx hb dL_player_2 rfl (lv_at hl 0 rfl) ?_
  refine lv_iload_n hx hb dL_player_3 rfl (lv_at hl 1 rfl) ?_
  refine lv_iload_n hx hb dL_player_4 rfl (lv_at hl 2 rfl) ?_
  refine xc_i (wr := []) (As := [.int 0, .int x0]) (rest := [.int 0, .ref a3]) (b := a0) ⟨hx, hb, hml, hown, hts⟩ (fun sz => k261_X8_player l D cs sz hlt a0 a1 a2 a4 a5 a6 a7 a8 a9 a10 a11 a12 a13 a14 a15 (x0) hf0 hf1) (cwV 2 hts gL_player_X8_player rfl rfl rfl hdX8_player_v ⟨Nat.le_of_ble_eq_true rfl, Nat.le_of_ble_eq_true rfl⟩) hN hP hD hS hA hZ [0, 1, 2] rfl rfl (ci := 8) (q0 := 0) rfl rfl rfl rfl hl.1 (Nat.le_of_ble_eq_true rfl) dL_player_5 (Nat.le_of_ble_eq_true rfl) (Nat.le_of_ble_eq_true rfl) [] rfl rfl (by decide) [⟨0, 10, 13, 22⟩] ⟨0, 10, 17, 13⟩ [] htab (fun z h => by rw [List.mem_singleton.mp h]; exact Or.inr ⟨by decide, "java/lang/IndexOutOfBoundsException", hts _ mL_player_1, hN.2.2.2.2.2.2.2.2 ("java/lang/IllegalArgumentException", "java/lang/IndexOutOfBoundsException") (by decide +kernel)⟩) rfl (by decide) (hts _ mL_player_2) 0 rfl (fun q9_6 H locs hP hD hS => ?_)
  have hP : va_P D vwCl [] H := hP
  have hD : va_D A [] := hD
  refine W.widen (k := 1) (n := 6) (Nat.le_of_ble_eq_true rfl) (Nat.le_of_ble_eq_true rfl) ?_
  refine lv_astore (lv' := [(4, .ref q9_6), (0, .ref a0), (1, .int 0), (2, .int x0), (3, .ref a3)]) hx hb dL_player_17 hl (by decide) rfl (fun ls hl => ?_)
  refine lv_iconst (v := 2) hx hb dL_player_19 (by decide) ?_
  exact en_i (fun k => ([] : List Nat).getD k 0) hx hb hr hlocks rfl rfl hP hD hS (Nat.le_of_ble_eq_true rfl) (Nat.le_of_ble_eq_true rfl) dL_player_20
set_option maxHeartbeats 4000000 in
set_option maxRecDepth 100000 in
theorem k263_X9_in (l : Launch) (D : va_G) (cs : Nat → ClassId) (sz : Nat) (x0 : Int32) (hf0 : ¬ x0 < 0) (hf1 : 9 < x0) : KI l yX9_in wsX9_in 0 0 0 0 D cs sz [.int x0, .int 0, .int 9] [] (fun u => []) (0) := by
  refine KI.of cX9_in 3 (some .boolean) (by decide) rfl (Nat.le_of_ble_eq_true rfl) ?_
  intro p e s m below meth c A ls hx hb hr hml hown hts hlocks hin hP hN hD hA hS hl
  have hown : s.vm.findClass RX9 = some m.cls := hown
  have hl : lv_has ls 3 [(0, .int x0), (1, .int 0), (2, .int 9)] := hl
  refine lv_iload_n hx hb dX9_in_0 rfl (lv_at hl 0 rfl) ?_
  refine lv_iload_n hx hb dX9_in_1 rfl (lv_at hl 1 rfl) ?_
  refine lv_icmp_lt (tgt := 14) hx hb dX9_in_2 (by decide) (fun c9 => absurd c9 hf0) (fun _ => ?_)
  refine lv_iload_n hx hb dX9_in_5 rfl (lv_at hl 0 rfl) ?_
  refine lv_iload_n hx hb dX9_in_6 rfl (lv_at hl 2 rfl) ?_
  refine lv_icmp_gt (tgt := 14) hx hb dX9_in_7 (by decide) (fun _ => ?_) (fun c9 => absurd hf1 c9)
  refine lv_iconst (v := 0) hx hb dX9_in_14 (by decide) ?_
  exact en_i (fun k => ([] : List Nat).getD k 0) hx hb hr hlocks rfl rfl hP hD hS (Nat.le_of_ble_eq_true rfl) (Nat.le_of_ble_eq_true rfl) dX9_in_15
set_option maxHeartbeats 4000000 in
set_option maxRecDepth 100000 in
theorem k264_X9_player (l : Launch) (D : va_G) (cs : Nat → ClassId) (sz : Nat) (a0 a1 a2 a3 a4 a5 a6 : Nat) (x0 : Int32) (hf0 : ¬ x0 < 0) (hf1 : 9 < x0) : KI l yX9_player wsX9_player 2 43 0 0 D cs sz [.ref a0, .int 0, .int x0] [(a0, .inr (9, [.int 0, .ref a2, .int 0, .int 0, .int 0, .int 0, .int 0, .int (-1), .ref a1, .ref a3, .ref a4, .ref a5, .int 0, .int 0, .int 0, .int 0, .int 0, .ref a6])), (a1, .inl (cs 0, 45783, .inl (layF (fun _ => 0) 1)))] (fun u => [(a1, .inl (cs 0, 45783, .inl (layF (fun _ => 0) 1))), (a0, .inr (9, [.int 2, .ref a2, .int 0, .int 0, .int 0, .int 0, .int 0, .int (-1), .ref a1, .ref a3, .ref a4, .ref a5, .int 0, .int 0, .int 0, .int 0, .int 0, .ref a6]))]) (0) := by
  refine KI.of cX9_player 3 (some .int) (by decide) rfl (Nat.le_of_ble_eq_true rfl) ?_
  intro p e s m below meth c A ls hx hb hr hml hown hts hlocks hin hP hN hD hA hS hl
  have hown : s.vm.findClass RX9 = some m.cls := hown
  have hl : lv_has ls 3 [(0, .ref a0), (1, .int 0), (2, .int x0)] := hl
  refine lv_aload_n hx hb dX9_player_0 rfl (lv_at hl 0 rfl) ?_
  refine lv_iconst (v := 0) hx hb dX9_player_1 (by decide) ?_
  refine va_put (D := D) (ci := 9) (v := .int 0) (ty := .int) (C := RX9) (T := TX9) (N := 18) hx hb hts iX9_player_9 tyX9 tyX9_ok nmX9 hown hN.1 hP hD hS 0 rfl rfl 0 (by decide) (hts _ mX9_player_1) (fun _ h9 => h9) rfl (by decide +kernel) rfl rfl (Nat.le_of_ble_eq_true rfl) dX9_player_2 (fun H locs hP hD hS => ?_)
  have hP : va_P D vwCl [(a0, .inr (9, [.int 0, .ref a2, .int 0, .int 0, .int 0, .int 0, .int 0, .int (-1), .ref a1, .ref a3, .ref a4, .ref a5, .int 0, .int 0, .int 0, .int 0, .int 0, .ref a6])), (a1, .inl (cs 0, 45783, .inl (layF (fun _ => 0) 1)))] H := hP
  have hD : va_D A [(a0, .inr (9, [.int 0, .ref a2, .int 0, .int 0, .int 0, .int 0, .int 0, .int (-1), .ref a1, .ref a3, .ref a4, .ref a5, .int 0, .int 0, .int 0, .int 0, .int 0, .ref a6])), (a1, .inl (cs 0, 45783, .inl (layF (fun _ => 0) 1)))] := hD
  refine lv_aload_n hx hb dX9_player_5 rfl (lv_at hl 0 rfl) ?_
  refine lv_iload_n hx hb dX9_player_6 rfl (lv_at hl 1 rfl) ?_
  refine cv_i (As := [.int 0]) (rest := []) (b := a0) (wr := []) ⟨hx, hb, hml, hown, hts⟩ (fun sz => k170_X9_noPlayer l D cs sz a0 a1 a2 a3 a4 a5 a6) (cwV 1 hts gX9_player_X9_noPlayer rfl rfl rfl hdX9_noPlayer_v ⟨Nat.le_of_ble_eq_true rfl, Nat.le_of_ble_eq_true rfl⟩) hN hP hD hS hA [0, 1] [] rfl rfl rfl rfl (by decide) (ci := 9) (q0 := 0) rfl rfl rfl rfl hl.1 (Nat.le_of_ble_eq_true rfl) dX9_player_7 (Nat.le_of_ble_eq_true rfl) (Nat.le_of_ble_eq_true rfl) (fun u0 H locs hP hD hS => ?_)
  have hP : va_P D vwCl [(a1, .inl (cs 0, 45783, .inl (layF (fun _ => 0) 1))), (a0, .inr (9, [.int 0, .ref a2, .int 0, .int 0, .int 0, .int 0, .int 0, .int (-1), .ref a1, .ref a3, .ref a4, .ref a5, .int 0, .int 0, .int 0, .int 0, .int 0, .ref a6]))] H := hP
  have hD : va_D A [(a1, .inl (cs 0, 45783, .inl (layF (fun _ => 0) 1))), (a0, .inr (9, [.int 0, .ref a2, .int 0, .int 0, .int 0, .int 0, .int 0, .int (-1), .ref a1, .ref a3, .ref a4, .ref a5, .int 0, .int 0, .int 0, .int 0, .int 0, .ref a6]))] := hD
  refine W.widen (k := 0) (n := 0) (Nat.le_of_ble_eq_true rfl) (Nat.le_of_ble_eq_true rfl) ?_
  refine lv_if_ne (tgt := 36) hx hb dX9_player_10 (by decide) (fun c9 => absurd (by decide) c9) (fun _ => ?_)
  refine lv_aload_n hx hb dX9_player_13 rfl (lv_at hl 0 rfl) ?_
  refine lv_iload_n hx hb dX9_player_14 rfl (lv_at hl 2 rfl) ?_
  refine lv_iconst (v := 0) hx hb dX9_player_15 (by decide) ?_
  refine lv_bipush (v := 9) hx hb dX9_player_16 (by decide) ?_
  refine cs_i (As := [.int x0, .int 0, .int 9]) (rest := [.ref a0]) (wr := [(a1, .inl (cs 0, 45783, .inl (layF (fun _ => 0) 1))), (a0, .inr (9, [.int 0, .ref a2, .int 0, .int 0, .int 0, .int 0, .int 0, .int (-1), .ref a1, .ref a3, .ref a4, .ref a5, .int 0, .int 0, .int 0, .int 0, .int 0, .ref a6]))]) ⟨hx, hb, hml, hown, hts⟩ (fun sz => k263_X9_in l D cs sz (x0) hf0 hf1) (va_cwS 3 hts gX9_player_X9_in rfl rfl rfl hdX9_in_o ⟨Nat.le_of_ble_eq_true rfl, Nat.le_of_ble_eq_true rfl⟩) hN hP hD hS hA [] [0, 1] rfl rfl rfl rfl (by decide) rfl rfl hl.1 (Nat.le_of_ble_eq_true rfl) dX9_player_18 (Nat.le_of_ble_eq_true rfl) (Nat.le_of_ble_eq_true rfl) (fun u1 H locs hP hD hS => ?_)
  have hP : va_P D vwCl [(a1, .inl (cs 0, 45783, .inl (layF (fun _ => 0) 1))), (a0, .inr (9, [.int 0, .ref a2, .int 0, .int 0, .int 0, .int 0, .int 0, .int (-1), .ref a1, .ref a3, .ref a4, .ref a5, .int 0, .int 0, .int 0, .int 0, .int 0, .ref a6]))] H := hP
  have hD : va_D A [(a1, .inl (cs 0, 45783, .inl (layF (fun _ => 0) 1))), (a0, .inr (9, [.int 0, .ref a2, .int 0, .int 0, .int 0, .int 0, .int 0, .int (-1), .ref a1, .ref a3, .ref a4, .ref a5, .int 0, .int 0, .int 0, .int 0, .int 0, .ref a6]))] := hD
  refine W.widen (k := 0) (n := 0) (Nat.le_of_ble_eq_true rfl) (Nat.le_of_ble_eq_true rfl) ?_
  refine lv_if_ne (tgt := 28) hx hb dX9_player_21 (by decide) (fun c9 => absurd (by decide) c9) (fun _ => ?_)
  refine lv_iconst (v := 1) hx hb dX9_player_24 (by decide) ?_
  refine lv_goto (tgt := 29) hx hb dX9_player_25 (by decide) ?_
  refine lv_iconst (v := 2) hx hb dX9_player_29 (by decide) ?_
  refine cv_i (As := [.int 1, .int 2]) (rest := []) (b := a0) (wr := [(a1, .inl (cs 0, 45783, .inl (layF (fun _ => 0) 1)))]) ⟨hx, hb, hml, hown, hts⟩ (fun sz => k257_X9_fails l D cs sz a0 a2 a1 a3 a4 a5 a6) (cwV 2 hts gX9_player_X9_fails rfl rfl rfl hdX9_fails_v ⟨Nat.le_of_ble_eq_true rfl, Nat.le_of_ble_eq_true rfl⟩) hN hP hD hS hA [1] [0] rfl rfl rfl rfl (by decide) (ci := 9) (q0 := 0) rfl rfl rfl rfl hl.1 (Nat.le_of_ble_eq_true rfl) dX9_player_30 (Nat.le_of_ble_eq_true rfl) (Nat.le_of_ble_eq_true rfl) (fun u2 H locs hP hD hS => ?_)
  have hP : va_P D vwCl [(a1, .inl (cs 0, 45783, .inl (layF (fun _ => 0) 1))), (a0, .inr (9, [.int 2, .ref a2, .int 0, .int 0, .int 0, .int 0, .int 0, .int (-1), .ref a1, .ref a3, .ref a4, .ref a5, .int 0, .int 0, .int 0, .int 0, .int 0, .ref a6]))] H := hP
  have hD : va_D A [(a1, .inl (cs 0, 45783, .inl (layF (fun _ => 0) 1))), (a0, .inr (9, [.int 2, .ref a2, .int 0, .int 0, .int 0, .int 0, .int 0, .int (-1), .ref a1, .ref a3, .ref a4, .ref a5, .int 0, .int 0, .int 0, .int 0, .int 0, .ref a6]))] := hD
  refine W.widen (k := 0) (n := 0) (Nat.le_of_ble_eq_true rfl) (Nat.le_of_ble_eq_true rfl) ?_
  refine lv_if_eq (tgt := 40) hx hb dX9_player_33 (by decide) (fun c9 => absurd c9 (by decide)) (fun _ => ?_)
  refine lv_iconst (v := 0) hx hb dX9_player_36 (by decide) ?_
  refine lv_goto (tgt := 46) hx hb dX9_player_37 (by decide) ?_
  exact en_i (fun k => ([] : List Nat).getD k 0) hx hb hr hlocks rfl rfl hP hD hS (Nat.le_of_ble_eq_true rfl) (Nat.le_of_ble_eq_true rfl) dX9_player_46
set_option maxHeartbeats 4000000 in
set_option maxRecDepth 100000 in
theorem law_4_0b {p : Program} {l : Launch} {e : Env} {s : State} {m : MethodId} {args : Array Value} {below : List Frame} {meth : Method} {c : Code} {Q : State → Prop} {D : va_G} {cs : Nat → ClassId} {A : Nat → Prop} {xs : Nat → Int32} {b : Nat} (hx : p.tables.exec = Jvm.exec) (hb : c.code = cL_law) (hml : c.maxLocals = 9) (hown : s.vm.findClass RL = some m.cls) (hts : ∀ w ∈ wsL_law, w.before args s = true) (hN : NK D cs s) (hX : va_X b 6 xs s s.heap) (hbl : b < s.heap.size) (hbA : ¬ A b) (hA : ∀ q : Nat, s.heap.size ≤ q → A q) (hZ : ZX A s s.heap) (hZS : ZS cs A s s.heap) (hlt : l.stackTraces = false)
    (kend : ∀ (H : Heap) (locs : List Loc) (ls : Array Slot), va_S A s.heap H locs → lv_has ls 9 [(0, .ref b), (4, .int 0)] → W p l e room_1 s m args below meth c H locs 600002 7302232 Q (F0 m 1169 ls []))
    (a0 a1 a2 a3 a4 a5 a6 a7 a8 a9 a10 a11 a12 a13 a14 a15 a16 a17 a18 a19 a20 a21 a22 : Nat) (y2 : Int32) (hy1 : xs 1 = (0)) (hy2 : xs 2 = (y2)) (g2_4 : ¬ y2 < 0) (g2_22 : ¬ y2 ≤ 9) (g2_23 : 9 < y2) (H : Heap) (locs : List Loc) (ls : Array Slot) (hP : va_P D vwCl [(a0, .inr (8, [.ref a5, .ref a2, .ref a6, .ref a7, .int 0, .int 0, .int (-1)])), (a1, .inr (6, [.int 1, .int 1, .int 50, .null, .ref a8, .ref a9, .ref a10, .ref a11])), (a2, .inr (7, [.ref a1, .ref a12, .ref a13, .ref a14, .ref a15, .ref a16, .long 0, .int 0, .int 0, .int 0, .int 0, .int 0, .int 0, .int 0, .int 0, .int 0])), (a3, .inr (9, [.int 0, .ref a17, .int 0, .int 0, .int 0, .int 0, .int 0, .int (-1), .ref a4, .ref a18, .ref a19, .ref a20, .int 0, .int 0, .int 0, .int 0, .int 0, .ref a21])), (a4, .inl (cs 0, 45783, .inl (layF (fun _ => 0) 1)))] H) (hD : va_D A [(a0, .inr (8, [.ref a5, .ref a2, .ref a6, .ref a7, .int 0, .int 0, .int (-1)])), (a1, .inr (6, [.int 1, .int 1, .int 50, .null, .ref a8, .ref a9, .ref a10, .ref a11])), (a2, .inr (7, [.ref a1, .ref a12, .ref a13, .ref a14, .ref a15, .ref a16, .long 0, .int 0, .int 0, .int 0, .int 0, .int 0, .int 0, .int 0, .int 0, .int 0])), (a3, .inr (9, [.int 0, .ref a17, .int 0, .int 0, .int 0, .int 0, .int 0, .int (-1), .ref a4, .ref a18, .ref a19, .ref a20, .int 0, .int 0, .int 0, .int 0, .int 0, .ref a21])), (a4, .inl (cs 0, 45783, .inl (layF (fun _ => 0) 1)))]) (hS : va_S A s.heap H locs) (hl : lv_has ls 9 [(4, .int 0), (3, .ref a22), (2, .ref a3), (1, .ref a0), (0, .ref b)]) : W p l e room_1 s m args below meth c H locs 391 467079 Q (F0 m 334 ls []) := by
  refine lv_aload_n hx hb dL_law_334 rfl (lv_at hl 3 rfl) ?_
  refine lv_aload_n hx hb dL_law_335 rfl (lv_at hl 4 rfl) ?_
  refine lv_iload hx hb dL_law_336 (lv_at hl 0 rfl) ?_
  refine lv_iconst (v := 1) hx hb dL_law_338 (by decide) ?_
  refine lv_iadd hx hb dL_law_339 ?_
  refine tp_i (1) (by decide) ?_
  refine va_sld hx hb hX hbl hbA hS (vin (by decide +kernel)) dL_law_340 ?_
  refine tp_i (0) hy1 ?_
  refine lv_aload_n hx hb dL_law_341 rfl (lv_at hl 4 rfl) ?_
  refine lv_iload hx hb dL_law_342 (lv_at hl 0 rfl) ?_
  refine lv_iconst (v := 2) hx hb dL_law_344 (by decide) ?_
  refine lv_iadd hx hb dL_law_345 ?_
  refine tp_i (2) (by decide) ?_
  refine va_sld hx hb hX hbl hbA hS (vin (by decide +kernel)) dL_law_346 ?_
  refine tp_i (y2) hy2 ?_
  refine lv_aload_n hx hb dL_law_347 rfl (lv_at hl 1 rfl) ?_
  refine ch_i (As := [.ref a0, .int 0, .int y2, .ref a22]) (rest := []) (wr := [(a3, .inr (9, [.int 0, .ref a17, .int 0, .int 0, .int 0, .int 0, .int 0, .int (-1), .ref a4, .ref a18, .ref a19, .ref a20, .int 0, .int 0, .int 0, .int 0, .int 0, .ref a21])), (a4, .inl (cs 0, 45783, .inl (layF (fun _ => 0) 1)))]) ⟨hx, hb, hml, hown, hts⟩ (fun sz => k262_L_player l D cs sz hlt a0 a2 a1 a22 a5 a6 a7 a12 a13 a14 a15 a16 a8 a9 a10 a11 (y2) g2_4 g2_22) (vx_cwSW 4 hts gL_law_L_player rfl rfl rfl hdL_player_o ⟨Nat.le_of_ble_eq_true rfl, Nat.le_of_ble_eq_true rfl⟩) hN hP hD hS hA hZ [0, 2, 1] [3, 4] rfl rfl rfl rfl (by decide) rfl rfl hl.1 (Nat.le_of_ble_eq_true rfl) dL_law_348 (Nat.le_of_ble_eq_true rfl) (Nat.le_of_ble_eq_true rfl) (fun u0 H locs hP hD hS => ?_)
  have hP : va_P D vwCl [(a3, .inr (9, [.int 0, .ref a17, .int 0, .int 0, .int 0, .int 0, .int 0, .int (-1), .ref a4, .ref a18, .ref a19, .ref a20, .int 0, .int 0, .int 0, .int 0, .int 0, .ref a21])), (a4, .inl (cs 0, 45783, .inl (layF (fun _ => 0) 1)))] H := hP
  have hD : va_D A [(a3, .inr (9, [.int 0, .ref a17, .int 0, .int 0, .int 0, .int 0, .int 0, .int (-1), .ref a4, .ref a18, .ref a19, .ref a20, .int 0, .int 0, .int 0, .int 0, .int 0, .ref a21])), (a4, .inl (cs 0, 45783, .inl (layF (fun _ => 0) 1)))] := hD
  refine W.widen (k := 392) (n := 467085) (Nat.le_of_ble_eq_true rfl) (Nat.le_of_ble_eq_true rfl) ?_
  refine lv_istore (lv' := [(5, .int 2), (4, .int 0), (3, .ref a22), (2, .ref a3), (1, .ref a0), (0, .ref b)]) hx hb dL_law_351 hl (by decide) rfl (fun ls hl => ?_)
  refine lv_aload_n hx hb dL_law_353 rfl (lv_at hl 3 rfl) ?_
  refine lv_aload_n hx hb dL_law_354 rfl (lv_at hl 5 rfl) ?_
  refine lv_iload hx hb dL_law_355 (lv_at hl 1 rfl) ?_
  refine lv_iconst (v := 1) hx hb dL_law_357 (by decide) ?_
  refine lv_iadd hx hb dL_law_358 ?_
  refine tp_i (1) (by decide) ?_
  refine va_sld hx hb hX hbl hbA hS (vin (by decide +kernel)) dL_law_359 ?_
  refine tp_i (0) hy1 ?_
  refine lv_aload_n hx hb dL_law_360 rfl (lv_at hl 5 rfl) ?_
  refine lv_iload hx hb dL_law_361 (lv_at hl 1 rfl) ?_
  refine lv_iconst (v := 2) hx hb dL_law_363 (by decide) ?_
  refine lv_iadd hx hb dL_law_364 ?_
  refine tp_i (2) (by decide) ?_
  refine va_sld hx hb hX hbl hbA hS (vin (by decide +kernel)) dL_law_365 ?_
  refine tp_i (y2) hy2 ?_
  refine cv_i (As := [.int 0, .int y2]) (rest := []) (b := a3) (wr := []) ⟨hx, hb, hml, hown, hts⟩ (fun sz => k264_X9_player l D cs sz a3 a4 a17 a18 a19 a20 a21 (y2) g2_4 g2_23) (cwV 2 hts gL_law_X9_player rfl rfl rfl hdX9_player_v ⟨Nat.le_of_ble_eq_true rfl, Nat.le_of_ble_eq_true rfl⟩) hN hP hD hS hA [0, 1] [] rfl rfl rfl rfl (by decide) (ci := 9) (q0 := 0) rfl rfl rfl rfl hl.1 (Nat.le_of_ble_eq_true rfl) dL_law_366 (Nat.le_of_ble_eq_true rfl) (Nat.le_of_ble_eq_true rfl) (fun u1 H locs hP hD hS => ?_)
  have hP : va_P D vwCl [(a4, .inl (cs 0, 45783, .inl (layF (fun _ => 0) 1))), (a3, .inr (9, [.int 2, .ref a17, .int 0, .int 0, .int 0, .int 0, .int 0, .int (-1), .ref a4, .ref a18, .ref a19, .ref a20, .int 0, .int 0, .int 0, .int 0, .int 0, .ref a21]))] H := hP
  have hD : va_D A [(a4, .inl (cs 0, 45783, .inl (layF (fun _ => 0) 1))), (a3, .inr (9, [.int 2, .ref a17, .int 0, .int 0, .int 0, .int 0, .int 0, .int (-1), .ref a4, .ref a18, .ref a19, .ref a20, .int 0, .int 0, .int 0, .int 0, .int 0, .ref a21]))] := hD
  refine W.widen (k := 392) (n := 467085) (Nat.le_of_ble_eq_true rfl) (Nat.le_of_ble_eq_true rfl) ?_
  refine lv_istore (lv' := [(6, .int 0), (5, .int 2), (4, .int 0), (3, .ref a22), (2, .ref a3), (1, .ref a0), (0, .ref b)]) hx hb dL_law_369 hl (by decide) rfl (fun ls hl => ?_)
  refine lv_aload_n hx hb dL_law_371 rfl (lv_at hl 4 rfl) ?_
  refine cv_i (As := []) (rest := []) (b := a3) (wr := [(a4, .inl (cs 0, 45783, .inl (layF (fun _ => 0) 1)))]) ⟨hx, hb, hml, hown, hts⟩ (fun sz => k259_X9_thrown l D cs sz a3 a17 a4 a18 a19 a20 a21) (cwV 0 hts gL_law_X9_thrown rfl rfl rfl hdX9_thrown_v ⟨Nat.le_of_ble_eq_true rfl, Nat.le_of_ble_eq_true rfl⟩) hN hP hD hS hA [1] [0] rfl rfl rfl rfl (by decide) (ci := 9) (q0 := 0) rfl rfl rfl rfl hl.1 (Nat.le_of_ble_eq_true rfl) dL_law_372 (Nat.le_of_ble_eq_true rfl) (Nat.le_of_ble_eq_true rfl) (fun u2 H locs hP hD hS => ?_)
  have hP : va_P D vwCl [(a4, .inl (cs 0, 45783, .inl (layF (fun _ => 0) 1))), (a3, .inr (9, [.int 2, .ref a17, .int 0, .int 0, .int 0, .int 0, .int 0, .int (-1), .ref a4, .ref a18, .ref a19, .ref a20, .int 0, .int 0, .int 0, .int 0, .int 0, .ref a21]))] H := hP
  have hD : va_D A [(a4, .inl (cs 0, 45783, .inl (layF (fun _ => 0) 1))), (a3, .inr (9, [.int 2, .ref a17, .int 0, .int 0, .int 0, .int 0, .int 0, .int (-1), .ref a4, .ref a18, .ref a19, .ref a20, .int 0, .int 0, .int 0, .int 0, .int 0, .ref a21]))] := hD
  refine W.widen (k := 392) (n := 467085) (Nat.le_of_ble_eq_true rfl) (Nat.le_of_ble_eq_true rfl) ?_
  refine lv_iload hx hb dL_law_375 (lv_at hl 1 rfl) ?_
  refine lv_icmp_eq (tgt := 382) hx hb dL_law_377 (by decide) (fun _ => ?_) (fun c9 => absurd (by decide) c9)
  refine lv_iload hx hb dL_law_382 (lv_at hl 1 rfl) ?_
  refine lv_if_ne (tgt := 399) hx hb dL_law_384 (by decide) (fun _ => ?_) (fun c9 => absurd c9 (by decide))
  refine lv_goto (tgt := 1169) hx hb dL_law_399 (by decide) ?_
  refine W.widen (k := 600002) (n := 7302232) (Nat.le_of_ble_eq_true rfl) (Nat.le_of_ble_eq_true rfl) ?_
  exact kend _ _ _ hS (lv_sub hl [6, 2] rfl)

theorem xgX8_refuseNoPlayer_234_2 : ∀ w ∈ (vx_atS RX8 234 "java/lang/IndexOutOfBoundsException" ["java/lang/RuntimeException", "java/lang/Exception"]).filter goodWord, w ∈ wsX8_refuseNoPlayer := fun w h => by unfold wsX8_refuseNoPlayer; exact List.mem_cons_of_mem _ (List.mem_append_right _ h)
theorem xnRX8_234_2 : ∀ w ∈ (vx_atS RX8 234 "java/lang/IndexOutOfBoundsException" ["java/lang/RuntimeException", "java/lang/Exception"]).filter (fun w => !goodWord w), w ∈ Cond.castable "java/lang/IndexOutOfBoundsException" "java/lang/IndexOutOfBoundsException" :: xdD := by decide +kernel
theorem xdRX8_234_2 : xdL.all (fun w => decide (w ∈ (vx_atS RX8 234 "java/lang/IndexOutOfBoundsException" ["java/lang/RuntimeException", "java/lang/Exception"]).filter goodWord)) = true := by decide +kernel
theorem xoRX8_230_234_2 : ∀ w ∈ Cond.classLink RX8 230 "java/lang/IndexOutOfBoundsException" :: Cond.initialized "java/lang/IndexOutOfBoundsException" :: (vx_atS RX8 234 "java/lang/IndexOutOfBoundsException" ["java/lang/RuntimeException", "java/lang/Exception"]), vx_ot w = true := by decide +kernel
theorem mX8_refuseNoPlayer_1 : (.classLink RX8 230 "java/lang/IndexOutOfBoundsException" : Cond) ∈ wsX8_refuseNoPlayer := List.mem_of_getElem? (i := 1) (by decide +kernel)
theorem mX8_refuseNoPlayer_2 : (.initialized "java/lang/IndexOutOfBoundsException" : Cond) ∈ wsX8_refuseNoPlayer := List.mem_of_getElem? (i := 2) (by decide +kernel)
set_option maxHeartbeats 4000000 in
set_option maxRecDepth 100000 in
theorem k265_X8_refuseNoPlayer (l : Launch) (D : va_G) (cs : Nat → ClassId) (sz : Nat) (hlt : l.stackTraces = false) (a0 a1 a2 a3 a4 : Nat) (x0 : Int32) (hf0 : x0 < 0) : KX l yX8_refuseNoPlayer wsX8_refuseNoPlayer 6 100 1 6 D cs sz [.ref a0, .int x0] [(a0, .inr (8, [.ref a1, .ref a2, .ref a3, .ref a4, .int 0, .int 0, .int (-1)]))] QnV "java/lang/IndexOutOfBoundsException" := by
  refine KX.of cX8_refuseNoPlayer 2 none (by decide) rfl (Nat.le_of_ble_eq_true rfl) ?_
  intro p e s m below meth c A ls hx hb hr hml hown hts hlocks hnx hP hN hD hA hS hl hZ
  have hown : s.vm.findClass RX8 = some m.cls := hown
  have hl : lv_has ls 2 [(0, .ref a0), (1, .int x0)] := hl
  refine lv_iload_n hx hb dX8_refuseNoPlayer_0 rfl (lv_at hl 1 rfl) ?_
  refine lv_if_lt (tgt := 18) hx hb dX8_refuseNoPlayer_1 (by decide) (fun _ => ?_) (fun c9 => absurd hf0 c9)
  exact tx_g2 (E := "java/lang/IndexOutOfBoundsException") 2 hx hb hlt hown hN (by decide +kernel) (hts _ mX8_refuseNoPlayer_1) (hts _ mX8_refuseNoPlayer_2) (hN.s 11 rfl) rfl (fun w h => hts w (xgX8_refuseNoPlayer_234_2 w h)) xnRX8_234_2 xdRX8_234_2 xoRX8_230_234_2 hZ hS hl hml dX8_refuseNoPlayer_18 dX8_refuseNoPlayer_21 dX8_refuseNoPlayer_22 dX8_refuseNoPlayer_24 dX8_refuseNoPlayer_27 hnx (Nat.le_of_ble_eq_true rfl) (Nat.le_of_ble_eq_true rfl) (Nat.le_of_ble_eq_true rfl) (Nat.le_of_ble_eq_true rfl) hlocks (Nat.le_of_ble_eq_true rfl) (Nat.le_of_ble_eq_true rfl)
set_option maxHeartbeats 4000000 in
set_option maxRecDepth 100000 in
theorem k266_X8_player (l : Launch) (D : va_G) (cs : Nat → ClassId) (sz : Nat) (hlt : l.stackTraces = false) (a0 a1 a2 a3 a4 : Nat) (x0 : Int32) (x1 : Int32) (hf0 : x0 < 0) : KX l yX8_player wsX8_player 7 121 1 6 D cs sz [.ref a0, .int x0, .int x1] [(a0, .inr (8, [.ref a1, .ref a2, .ref a3, .ref a4, .int 0, .int 0, .int (-1)]))] QnI "java/lang/IndexOutOfBoundsException" := by
  refine KX.of cX8_player 3 (some .int) (by decide) rfl (Nat.le_of_ble_eq_true rfl) ?_
  intro p e s m below meth c A ls hx hb hr hml hown hts hlocks hnx hP hN hD hA hS hl hZ
  have hown : s.vm.findClass RX8 = some m.cls := hown
  have hl : lv_has ls 3 [(0, .ref a0), (1, .int x0), (2, .int x1)] := hl
  refine lv_aload_n hx hb dX8_player_0 rfl (lv_at hl 0 rfl) ?_
  refine lv_iload_n hx hb dX8_player_1 rfl (lv_at hl 1 rfl) ?_
  exact xp_v (As := [.int x0]) (rest := []) (b := a0) ⟨hx, hb, hml, hown, hts⟩ (fun sz => k265_X8_refuseNoPlayer l D cs sz hlt a0 a1 a2 a3 a4 (x0) hf0) (cwV 1 hts gX8_player_X8_refuseNoPlayer rfl rfl rfl hdX8_refuseNoPlayer_v ⟨Nat.le_of_ble_eq_true rfl, Nat.le_of_ble_eq_true rfl⟩) hN hP hD hS hA hZ [0] rfl rfl (ci := 8) (q0 := 0) rfl rfl rfl rfl hl.1 (Nat.le_of_ble_eq_true rfl) dX8_player_2 (Nat.le_of_ble_eq_true rfl) (Nat.le_of_ble_eq_true rfl) hnx hlocks (Nat.le_of_ble_eq_true rfl) (Nat.le_of_ble_eq_true rfl)
set_option maxHeartbeats 4000000 in
set_option maxRecDepth 100000 in
theorem k267_L_player (l : Launch) (D : va_G) (cs : Nat → ClassId) (sz : Nat) (hlt : l.stackTraces = false) (a0 a1 a2 a3 a4 a5 : Nat) (x0 : Int32) (x1 : Int32) (hf0 : x0 < 0) : KH l yL_player wsL_player 8 143 1 6 D cs sz [.ref a0, .int x0, .int x1, .ref a1] [(a0, .inr (8, [.ref a2, .ref a3, .ref a4, .ref a5, .int 0, .int 0, .int (-1)]))] (fun u => []) (1) := by
  refine KH.of cL_player 5 (some .int) (by decide) rfl (Nat.le_of_ble_eq_true rfl) ?_
  intro p e s m below meth c A ls hx hb hr hml hown hts hlocks htab hP hN hD hA hS hl hZ
  have hown : s.vm.findClass RL = some m.cls := hown
  have hl : lv_has ls 5 [(0, .ref a0), (1, .int x0), (2, .int x1), (3, .ref a1)] := hl
  refine lv_aload_n hx hb dL_player_0 rfl (lv_at hl 3 rfl) ?_
  refine lv_iconst (v := 0) hx hb dL_player_1 (by decide) ?_
  refine lv_aload_n hx hb dL_player_2 rfl (lv_at hl 0 rfl) ?_
  refine lv_iload_n hx hb dL_player_3 rfl (lv_at hl 1 rfl) ?_
  refine lv_iload_n hx hb dL_player_4 rfl (lv_at hl 2 rfl) ?_
  refine xc_i (wr := []) (As := [.int x0, .int x1]) (rest := [.int 0, .ref a1]) (b := a0) ⟨hx, hb, hml, hown, hts⟩ (fun sz => k266_X8_player l D cs sz hlt a0 a2 a3 a4 a5 (x0) (x1) hf0) (cwV 2 hts gL_player_X8_player rfl rfl rfl hdX8_player_v ⟨Nat.le_of_ble_eq_true rfl, Nat.le_of_ble_eq_true rfl⟩) hN hP hD hS hA hZ [0] rfl rfl (ci := 8) (q0 := 0) rfl rfl rfl rfl hl.1 (Nat.le_of_ble_eq_true rfl) dL_player_5 (Nat.le_of_ble_eq_true rfl) (Nat.le_of_ble_eq_true rfl) [] rfl rfl (by decide) [] ⟨0, 10, 13, 22⟩ [⟨0, 10, 17, 13⟩] htab (fun z h => nomatch h) rfl (by decide) (hts _ mL_player_1) 2 rfl (fun q9_6 H locs hP hD hS => ?_)
  have hP : va_P D vwCl [] H := hP
  have hD : va_D A [] := hD
  refine W.widen (k := 1) (n := 6) (Nat.le_of_ble_eq_true rfl) (Nat.le_of_ble_eq_true rfl) ?_
  refine lv_astore (lv' := [(4, .ref q9_6), (0, .ref a0), (1, .int x0), (2, .int x1), (3, .ref a1)]) hx hb dL_player_13 hl (by decide) rfl (fun ls hl => ?_)
  refine lv_iconst (v := 1) hx hb dL_player_15 (by decide) ?_
  exact en_i (fun k => ([] : List Nat).getD k 0) hx hb hr hlocks rfl rfl hP hD hS (Nat.le_of_ble_eq_true rfl) (Nat.le_of_ble_eq_true rfl) dL_player_16
set_option maxHeartbeats 4000000 in
set_option maxRecDepth 100000 in
theorem k268_X9_in (l : Launch) (D : va_G) (cs : Nat → ClassId) (sz : Nat) (x0 : Int32) (hf0 : x0 < 0) : KI l yX9_in wsX9_in 0 0 0 0 D cs sz [.int x0, .int 0, .int 0] [] (fun u => []) (0) := by
  refine KI.of cX9_in 3 (some .boolean) (by decide) rfl (Nat.le_of_ble_eq_true rfl) ?_
  intro p e s m below meth c A ls hx hb hr hml hown hts hlocks hin hP hN hD hA hS hl
  have hown : s.vm.findClass RX9 = some m.cls := hown
  have hl : lv_has ls 3 [(0, .int x0), (1, .int 0), (2, .int 0)] := hl
  refine lv_iload_n hx hb dX9_in_0 rfl (lv_at hl 0 rfl) ?_
  refine lv_iload_n hx hb dX9_in_1 rfl (lv_at hl 1 rfl) ?_
  refine lv_icmp_lt (tgt := 14) hx hb dX9_in_2 (by decide) (fun _ => ?_) (fun c9 => absurd hf0 c9)
  refine lv_iconst (v := 0) hx hb dX9_in_14 (by decide) ?_
  exact en_i (fun k => ([] : List Nat).getD k 0) hx hb hr hlocks rfl rfl hP hD hS (Nat.le_of_ble_eq_true rfl) (Nat.le_of_ble_eq_true rfl) dX9_in_15
set_option maxHeartbeats 4000000 in
set_option maxRecDepth 100000 in
theorem k269_X9_noPlayer (l : Launch) (D : va_G) (cs : Nat → ClassId) (sz : Nat) (a0 a1 a2 a3 a4 a5 a6 : Nat) (x0 : Int32) (hf0 : x0 < 0) : KI l yX9_noPlayer wsX9_noPlayer 1 22 0 0 D cs sz [.ref a0, .int x0] [(a0, .inr (9, [.int 0, .ref a2, .int 0, .int 0, .int 0, .int 0, .int 0, .int (-1), .ref a1, .ref a3, .ref a4, .ref a5, .int 0, .int 0, .int 0, .int 0, .int 0, .ref a6])), (a1, .inl (cs 0, 45783, .inl (layF (fun _ => 0) 1)))] (fun u => [(a1, .inl (cs 0, 45783, .inl (layF (fun _ => 0) 1))), (a0, .inr (9, [.int 1, .ref a2, .int 0, .int 0, .int 0, .int 0, .int 0, .int (-1), .ref a1, .ref a3, .ref a4, .ref a5, .int 0, .int 0, .int 0, .int 0, .int 0, .ref a6]))]) (1) := by
  refine KI.of cX9_noPlayer 2 (some .boolean) (by decide) rfl (Nat.le_of_ble_eq_true rfl) ?_
  intro p e s m below meth c A ls hx hb hr hml hown hts hlocks hin hP hN hD hA hS hl
  have hown : s.vm.findClass RX9 = some m.cls := hown
  have hl : lv_has ls 2 [(0, .ref a0), (1, .int x0)] := hl
  refine lv_aload_n hx hb dX9_noPlayer_0 rfl (lv_at hl 0 rfl) ?_
  refine lv_iload_n hx hb dX9_noPlayer_1 rfl (lv_at hl 1 rfl) ?_
  refine lv_iconst (v := 0) hx hb dX9_noPlayer_2 (by decide) ?_
  refine lv_aload_n hx hb dX9_noPlayer_3 rfl (lv_at hl 0 rfl) ?_
  refine va_get (D := D) (ci := 9) (v := .ref a1) (C := RX9) (T := TX9) (N := 18) hx hb hts iX9_noPlayer_9 hown hN.1 hP 0 rfl rfl 8 (by decide) (hts _ mX9_noPlayer_1) (fun _ h9 => h9) rfl dX9_noPlayer_4 ?_
  refine lv_iconst (v := 0) hx hb dX9_noPlayer_7 (by decide) ?_
  refine ld_i (v := 1) hx hb hN hP 1 rfl (vin (by decide +kernel)) (by first | rfl | decide +kernel) dX9_noPlayer_8 ?_
  refine lv_iconst (v := 1) hx hb dX9_noPlayer_9 (by decide) ?_
  refine lv_isub hx hb dX9_noPlayer_10 ?_
  refine tp_i (0) (by decide) ?_
  refine cs_i (As := [.int x0, .int 0, .int 0]) (rest := [.ref a0]) (wr := [(a0, .inr (9, [.int 0, .ref a2, .int 0, .int 0, .int 0, .int 0, .int 0, .int (-1), .ref a1, .ref a3, .ref a4, .ref a5, .int 0, .int 0, .int 0, .int 0, .int 0, .ref a6])), (a1, .inl (cs 0, 45783, .inl (layF (fun _ => 0) 1)))]) ⟨hx, hb, hml, hown, hts⟩ (fun sz => k268_X9_in l D cs sz (x0) hf0) (va_cwS 3 hts gX9_noPlayer_X9_in rfl rfl rfl hdX9_in_o ⟨Nat.le_of_ble_eq_true rfl, Nat.le_of_ble_eq_true rfl⟩) hN hP hD hS hA [] [0, 1] rfl rfl rfl rfl (by decide) rfl rfl hl.1 (Nat.le_of_ble_eq_true rfl) dX9_noPlayer_11 (Nat.le_of_ble_eq_true rfl) (Nat.le_of_ble_eq_true rfl) (fun u0 H locs hP hD hS => ?_)
  have hP : va_P D vwCl [(a0, .inr (9, [.int 0, .ref a2, .int 0, .int 0, .int 0, .int 0, .int 0, .int (-1), .ref a1, .ref a3, .ref a4, .ref a5, .int 0, .int 0, .int 0, .int 0, .int 0, .ref a6])), (a1, .inl (cs 0, 45783, .inl (layF (fun _ => 0) 1)))] H := hP
  have hD : va_D A [(a0, .inr (9, [.int 0, .ref a2, .int 0, .int 0, .int 0, .int 0, .int 0, .int (-1), .ref a1, .ref a3, .ref a4, .ref a5, .int 0, .int 0, .int 0, .int 0, .int 0, .ref a6])), (a1, .inl (cs 0, 45783, .inl (layF (fun _ => 0) 1)))] := hD
  refine W.widen (k := 0) (n := 0) (Nat.le_of_ble_eq_true rfl) (Nat.le_of_ble_eq_true rfl) ?_
  refine lv_if_ne (tgt := 21) hx hb dX9_noPlayer_14 (by decide) (fun c9 => absurd (by decide) c9) (fun _ => ?_)
  refine lv_iconst (v := 1) hx hb dX9_noPlayer_17 (by decide) ?_
  refine lv_goto (tgt := 22) hx hb dX9_noPlayer_18 (by decide) ?_
  refine lv_iconst (v := 1) hx hb dX9_noPlayer_22 (by decide) ?_
  refine cv_i (As := [.int 1, .int 1]) (rest := []) (b := a0) (wr := [(a1, .inl (cs 0, 45783, .inl (layF (fun _ => 0) 1)))]) ⟨hx, hb, hml, hown, hts⟩ (fun sz => k156_X9_fails l D cs sz a0 a2 a1 a3 a4 a5 a6) (cwV 2 hts gX9_noPlayer_X9_fails rfl rfl rfl hdX9_fails_v ⟨Nat.le_of_ble_eq_true rfl, Nat.le_of_ble_eq_true rfl⟩) hN hP hD hS hA [0] [1] rfl rfl rfl rfl (by decide) (ci := 9) (q0 := 0) rfl rfl rfl rfl hl.1 (Nat.le_of_ble_eq_true rfl) dX9_noPlayer_23 (Nat.le_of_ble_eq_true rfl) (Nat.le_of_ble_eq_true rfl) (fun u1 H locs hP hD hS => ?_)
  have hP : va_P D vwCl [(a1, .inl (cs 0, 45783, .inl (layF (fun _ => 0) 1))), (a0, .inr (9, [.int 1, .ref a2, .int 0, .int 0, .int 0, .int 0, .int 0, .int (-1), .ref a1, .ref a3, .ref a4, .ref a5, .int 0, .int 0, .int 0, .int 0, .int 0, .ref a6]))] H := hP
  have hD : va_D A [(a1, .inl (cs 0, 45783, .inl (layF (fun _ => 0) 1))), (a0, .inr (9, [.int 1, .ref a2, .int 0, .int 0, .int 0, .int 0, .int 0, .int (-1), .ref a1, .ref a3, .ref a4, .ref a5, .int 0, .int 0, .int 0, .int 0, .int 0, .ref a6]))] := hD
  refine W.widen (k := 0) (n := 0) (Nat.le_of_ble_eq_true rfl) (Nat.le_of_ble_eq_true rfl) ?_
  exact en_i (fun k => ([] : List Nat).getD k 0) hx hb hr hlocks rfl rfl hP hD hS (Nat.le_of_ble_eq_true rfl) (Nat.le_of_ble_eq_true rfl) dX9_noPlayer_26
set_option maxHeartbeats 4000000 in
set_option maxRecDepth 100000 in
theorem k270_X9_player (l : Launch) (D : va_G) (cs : Nat → ClassId) (sz : Nat) (a0 a1 a2 a3 a4 a5 a6 : Nat) (x0 : Int32) (x1 : Int32) (hf0 : x0 < 0) : KI l yX9_player wsX9_player 2 43 0 0 D cs sz [.ref a0, .int x0, .int x1] [(a0, .inr (9, [.int 0, .ref a2, .int 0, .int 0, .int 0, .int 0, .int 0, .int (-1), .ref a1, .ref a3, .ref a4, .ref a5, .int 0, .int 0, .int 0, .int 0, .int 0, .ref a6])), (a1, .inl (cs 0, 45783, .inl (layF (fun _ => 0) 1)))] (fun u => [(a1, .inl (cs 0, 45783, .inl (layF (fun _ => 0) 1))), (a0, .inr (9, [.int 1, .ref a2, .int 0, .int 0, .int 0, .int 0, .int 0, .int (-1), .ref a1, .ref a3, .ref a4, .ref a5, .int 0, .int 0, .int 0, .int 0, .int 0, .ref a6]))]) (0) := by
  refine KI.of cX9_player 3 (some .int) (by decide) rfl (Nat.le_of_ble_eq_true rfl) ?_
  intro p e s m below meth c A ls hx hb hr hml hown hts hlocks hin hP hN hD hA hS hl
  have hown : s.vm.findClass RX9 = some m.cls := hown
  have hl : lv_has ls 3 [(0, .ref a0), (1, .int x0), (2, .int x1)] := hl
  refine lv_aload_n hx hb dX9_player_0 rfl (lv_at hl 0 rfl) ?_
  refine lv_iconst (v := 0) hx hb dX9_player_1 (by decide) ?_
  refine va_put (D := D) (ci := 9) (v := .int 0) (ty := .int) (C := RX9) (T := TX9) (N := 18) hx hb hts iX9_player_9 tyX9 tyX9_ok nmX9 hown hN.1 hP hD hS 0 rfl rfl 0 (by decide) (hts _ mX9_player_1) (fun _ h9 => h9) rfl (by decide +kernel) rfl rfl (Nat.le_of_ble_eq_true rfl) dX9_player_2 (fun H locs hP hD hS => ?_)
  have hP : va_P D vwCl [(a0, .inr (9, [.int 0, .ref a2, .int 0, .int 0, .int 0, .int 0, .int 0, .int (-1), .ref a1, .ref a3, .ref a4, .ref a5, .int 0, .int 0, .int 0, .int 0, .int 0, .ref a6])), (a1, .inl (cs 0, 45783, .inl (layF (fun _ => 0) 1)))] H := hP
  have hD : va_D A [(a0, .inr (9, [.int 0, .ref a2, .int 0, .int 0, .int 0, .int 0, .int 0, .int (-1), .ref a1, .ref a3, .ref a4, .ref a5, .int 0, .int 0, .int 0, .int 0, .int 0, .ref a6])), (a1, .inl (cs 0, 45783, .inl (layF (fun _ => 0) 1)))] := hD
  refine lv_aload_n hx hb dX9_player_5 rfl (lv_at hl 0 rfl) ?_
  refine lv_iload_n hx hb dX9_player_6 rfl (lv_at hl 1 rfl) ?_
  refine cv_i (As := [.int x0]) (rest := []) (b := a0) (wr := []) ⟨hx, hb, hml, hown, hts⟩ (fun sz => k269_X9_noPlayer l D cs sz a0 a1 a2 a3 a4 a5 a6 (x0) hf0) (cwV 1 hts gX9_player_X9_noPlayer rfl rfl rfl hdX9_noPlayer_v ⟨Nat.le_of_ble_eq_true rfl, Nat.le_of_ble_eq_true rfl⟩) hN hP hD hS hA [0, 1] [] rfl rfl rfl rfl (by decide) (ci := 9) (q0 := 0) rfl rfl rfl rfl hl.1 (Nat.le_of_ble_eq_true rfl) dX9_player_7 (Nat.le_of_ble_eq_true rfl) (Nat.le_of_ble_eq_true rfl) (fun u0 H locs hP hD hS => ?_)
  have hP : va_P D vwCl [(a1, .inl (cs 0, 45783, .inl (layF (fun _ => 0) 1))), (a0, .inr (9, [.int 1, .ref a2, .int 0, .int 0, .int 0, .int 0, .int 0, .int (-1), .ref a1, .ref a3, .ref a4, .ref a5, .int 0, .int 0, .int 0, .int 0, .int 0, .ref a6]))] H := hP
  have hD : va_D A [(a1, .inl (cs 0, 45783, .inl (layF (fun _ => 0) 1))), (a0, .inr (9, [.int 1, .ref a2, .int 0, .int 0, .int 0, .int 0, .int 0, .int (-1), .ref a1, .ref a3, .ref a4, .ref a5, .int 0, .int 0, .int 0, .int 0, .int 0, .ref a6]))] := hD
  refine W.widen (k := 0) (n := 0) (Nat.le_of_ble_eq_true rfl) (Nat.le_of_ble_eq_true rfl) ?_
  refine lv_if_ne (tgt := 36) hx hb dX9_player_10 (by decide) (fun _ => ?_) (fun c9 => absurd c9 (by decide))
  refine lv_iconst (v := 0) hx hb dX9_player_36 (by decide) ?_
  refine lv_goto (tgt := 46) hx hb dX9_player_37 (by decide) ?_
  exact en_i (fun k => ([] : List Nat).getD k 0) hx hb hr hlocks rfl rfl hP hD hS (Nat.le_of_ble_eq_true rfl) (Nat.le_of_ble_eq_true rfl) dX9_player_46
set_option maxHeartbeats 4000000 in
set_option maxRecDepth 100000 in
theorem law_4_n {p : Program} {l : Launch} {e : Env} {s : State} {m : MethodId} {args : Array Value} {below : List Frame} {meth : Method} {c : Code} {Q : State → Prop} {D : va_G} {cs : Nat → ClassId} {A : Nat → Prop} {xs : Nat → Int32} {b : Nat} (hx : p.tables.exec = Jvm.exec) (hb : c.code = cL_law) (hml : c.maxLocals = 9) (hown : s.vm.findClass RL = some m.cls) (hts : ∀ w ∈ wsL_law, w.before args s = true) (hN : NK D cs s) (hX : va_X b 6 xs s s.heap) (hbl : b < s.heap.size) (hbA : ¬ A b) (hA : ∀ q : Nat, s.heap.size ≤ q → A q) (hZ : ZX A s s.heap) (hZS : ZS cs A s s.heap) (hlt : l.stackTraces = false)
    (kend : ∀ (H : Heap) (locs : List Loc) (ls : Array Slot), va_S A s.heap H locs → lv_has ls 9 [(0, .ref b), (4, .int 0)] → W p l e room_1 s m args below meth c H locs 600002 7302232 Q (F0 m 1169 ls []))
    (a0 a1 a2 a3 a4 a5 a6 a7 a8 a9 a10 a11 a12 : Nat) (y1 y2 : Int32) (hy1 : xs 1 = (y1)) (hy2 : xs 2 = (y2)) (g1_2 : y1 < 0) (H : Heap) (locs : List Loc) (ls : Array Slot) (hP : va_P D vwCl [(a0, .inr (8, [.ref a3, .ref a4, .ref a5, .ref a6, .int 0, .int 0, .int (-1)])), (a1, .inr (9, [.int 0, .ref a7, .int 0, .int 0, .int 0, .int 0, .int 0, .int (-1), .ref a2, .ref a8, .ref a9, .ref a10, .int 0, .int 0, .int 0, .int 0, .int 0, .ref a11])), (a2, .inl (cs 0, 45783, .inl (layF (fun _ => 0) 1)))] H) (hD : va_D A [(a0, .inr (8, [.ref a3, .ref a4, .ref a5, .ref a6, .int 0, .int 0, .int (-1)])), (a1, .inr (9, [.int 0, .ref a7, .int 0, .int 0, .int 0, .int 0, .int 0, .int (-1), .ref a2, .ref a8, .ref a9, .ref a10, .int 0, .int 0, .int 0, .int 0, .int 0, .ref a11])), (a2, .inl (cs 0, 45783, .inl (layF (fun _ => 0) 1)))]) (hS : va_S A s.heap H locs) (hl : lv_has ls 9 [(4, .int 0), (3, .ref a12), (2, .ref a1), (1, .ref a0), (0, .ref b)]) : W p l e room_1 s m args below meth c H locs 391 467079 Q (F0 m 334 ls []) := by
  refine lv_aload_n hx hb dL_law_334 rfl (lv_at hl 3 rfl) ?_
  refine lv_aload_n hx hb dL_law_335 rfl (lv_at hl 4 rfl) ?_
  refine lv_iload hx hb dL_law_336 (lv_at hl 0 rfl) ?_
  refine lv_iconst (v := 1) hx hb dL_law_338 (by decide) ?_
  refine lv_iadd hx hb dL_law_339 ?_
  refine tp_i (1) (by decide) ?_
  refine va_sld hx hb hX hbl hbA hS (vin (by decide +kernel)) dL_law_340 ?_
  refine tp_i (y1) hy1 ?_
  refine lv_aload_n hx hb dL_law_341 rfl (lv_at hl 4 rfl) ?_
  refine lv_iload hx hb dL_law_342 (lv_at hl 0 rfl) ?_
  refine lv_iconst (v := 2) hx hb dL_law_344 (by decide) ?_
  refine lv_iadd hx hb dL_law_345 ?_
  refine tp_i (2) (by decide) ?_
  refine va_sld hx hb hX hbl hbA hS (vin (by decide +kernel)) dL_law_346 ?_
  refine tp_i (y2) hy2 ?_
  refine lv_aload_n hx hb dL_law_347 rfl (lv_at hl 1 rfl) ?_
  refine ch_i (As := [.ref a0, .int y1, .int y2, .ref a12]) (rest := []) (wr := [(a1, .inr (9, [.int 0, .ref a7, .int 0, .int 0, .int 0, .int 0, .int 0, .int (-1), .ref a2, .ref a8, .ref a9, .ref a10, .int 0, .int 0, .int 0, .int 0, .int 0, .ref a11])), (a2, .inl (cs 0, 45783, .inl (layF (fun _ => 0) 1)))]) ⟨hx, hb, hml, hown, hts⟩ (fun sz => k267_L_player l D cs sz hlt a0 a12 a3 a4 a5 a6 (y1) (y2) g1_2) (vx_cwSW 4 hts gL_law_L_player rfl rfl rfl hdL_player_o ⟨Nat.le_of_ble_eq_true rfl, Nat.le_of_ble_eq_true rfl⟩) hN hP hD hS hA hZ [0] [1, 2] rfl rfl rfl rfl (by decide) rfl rfl hl.1 (Nat.le_of_ble_eq_true rfl) dL_law_348 (Nat.le_of_ble_eq_true rfl) (Nat.le_of_ble_eq_true rfl) (fun u0 H locs hP hD hS => ?_)
  have hP : va_P D vwCl [(a1, .inr (9, [.int 0, .ref a7, .int 0, .int 0, .int 0, .int 0, .int 0, .int (-1), .ref a2, .ref a8, .ref a9, .ref a10, .int 0, .int 0, .int 0, .int 0, .int 0, .ref a11])), (a2, .inl (cs 0, 45783, .inl (layF (fun _ => 0) 1)))] H := hP
  have hD : va_D A [(a1, .inr (9, [.int 0, .ref a7, .int 0, .int 0, .int 0, .int 0, .int 0, .int (-1), .ref a2, .ref a8, .ref a9, .ref a10, .int 0, .int 0, .int 0, .int 0, .int 0, .ref a11])), (a2, .inl (cs 0, 45783, .inl (layF (fun _ => 0) 1)))] := hD
  refine W.widen (k := 392) (n := 467085) (Nat.le_of_ble_eq_true rfl) (Nat.le_of_ble_eq_true rfl) ?_
  refine lv_istore (lv' := [(5, .int 1), (4, .int 0), (3, .ref a12), (2, .ref a1), (1, .ref a0), (0, .ref b)]) hx hb dL_law_351 hl (by decide) rfl (fun ls hl => ?_)
  refine lv_aload_n hx hb dL_law_353 rfl (lv_at hl 3 rfl) ?_
  refine lv_aload_n hx hb dL_law_354 rfl (lv_at hl 5 rfl) ?_
  refine lv_iload hx hb dL_law_355 (lv_at hl 1 rfl) ?_
  refine lv_iconst (v := 1) hx hb dL_law_357 (by decide) ?_
  refine lv_iadd hx hb dL_law_358 ?_
  refine tp_i (1) (by decide) ?_
  refine va_sld hx hb hX hbl hbA hS (vin (by decide +kernel)) dL_law_359 ?_
  refine tp_i (y1) hy1 ?_
  refine lv_aload_n hx hb dL_law_360 rfl (lv_at hl 5 rfl) ?_
  refine lv_iload hx hb dL_law_361 (lv_at hl 1 rfl) ?_
  refine lv_iconst (v := 2) hx hb dL_law_363 (by decide) ?_
  refine lv_iadd hx hb dL_law_364 ?_
  refine tp_i (2) (by decide) ?_
  refine va_sld hx hb hX hbl hbA hS (vin (by decide +kernel)) dL_law_365 ?_
  refine tp_i (y2) hy2 ?_
  refine cv_i (As := [.int y1, .int y2]) (rest := []) (b := a1) (wr := []) ⟨hx, hb, hml, hown, hts⟩ (fun sz => k270_X9_player l D cs sz a1 a2 a7 a8 a9 a10 a11 (y1) (y2) g1_2) (cwV 2 hts gL_law_X9_player rfl rfl rfl hdX9_player_v ⟨Nat.le_of_ble_eq_true rfl, Nat.le_of_ble_eq_true rfl⟩) hN hP hD hS hA [0, 1] [] rfl rfl rfl rfl (by decide) (ci := 9) (q0 := 0) rfl rfl rfl rfl hl.1 (Nat.le_of_ble_eq_true rfl) dL_law_366 (Nat.le_of_ble_eq_true rfl) (Nat.le_of_ble_eq_true rfl) (fun u1 H locs hP hD hS => ?_)
  have hP : va_P D vwCl [(a2, .inl (cs 0, 45783, .inl (layF (fun _ => 0) 1))), (a1, .inr (9, [.int 1, .ref a7, .int 0, .int 0, .int 0, .int 0, .int 0, .int (-1), .ref a2, .ref a8, .ref a9, .ref a10, .int 0, .int 0, .int 0, .int 0, .int 0, .ref a11]))] H := hP
  have hD : va_D A [(a2, .inl (cs 0, 45783, .inl (layF (fun _ => 0) 1))), (a1, .inr (9, [.int 1, .ref a7, .int 0, .int 0, .int 0, .int 0, .int 0, .int (-1), .ref a2, .ref a8, .ref a9, .ref a10, .int 0, .int 0, .int 0, .int 0, .int 0, .ref a11]))] := hD
  refine W.widen (k := 392) (n := 467085) (Nat.le_of_ble_eq_true rfl) (Nat.le_of_ble_eq_true rfl) ?_
  refine lv_istore (lv' := [(6, .int 0), (5, .int 1), (4, .int 0), (3, .ref a12), (2, .ref a1), (1, .ref a0), (0, .ref b)]) hx hb dL_law_369 hl (by decide) rfl (fun ls hl => ?_)
  refine lv_aload_n hx hb dL_law_371 rfl (lv_at hl 4 rfl) ?_
  refine cv_i (As := []) (rest := []) (b := a1) (wr := [(a2, .inl (cs 0, 45783, .inl (layF (fun _ => 0) 1)))]) ⟨hx, hb, hml, hown, hts⟩ (fun sz => k158_X9_thrown l D cs sz a1 a7 a2 a8 a9 a10 a11) (cwV 0 hts gL_law_X9_thrown rfl rfl rfl hdX9_thrown_v ⟨Nat.le_of_ble_eq_true rfl, Nat.le_of_ble_eq_true rfl⟩) hN hP hD hS hA [1] [0] rfl rfl rfl rfl (by decide) (ci := 9) (q0 := 0) rfl rfl rfl rfl hl.1 (Nat.le_of_ble_eq_true rfl) dL_law_372 (Nat.le_of_ble_eq_true rfl) (Nat.le_of_ble_eq_true rfl) (fun u2 H locs hP hD hS => ?_)
  have hP : va_P D vwCl [(a2, .inl (cs 0, 45783, .inl (layF (fun _ => 0) 1))), (a1, .inr (9, [.int 1, .ref a7, .int 0, .int 0, .int 0, .int 0, .int 0, .int (-1), .ref a2, .ref a8, .ref a9, .ref a10, .int 0, .int 0, .int 0, .int 0, .int 0, .ref a11]))] H := hP
  have hD : va_D A [(a2, .inl (cs 0, 45783, .inl (layF (fun _ => 0) 1))), (a1, .inr (9, [.int 1, .ref a7, .int 0, .int 0, .int 0, .int 0, .int 0, .int (-1), .ref a2, .ref a8, .ref a9, .ref a10, .int 0, .int 0, .int 0, .int 0, .int 0, .ref a11]))] := hD
  refine W.widen (k := 392) (n := 467085) (Nat.le_of_ble_eq_true rfl) (Nat.le_of_ble_eq_true rfl) ?_
  refine lv_iload hx hb dL_law_375 (lv_at hl 1 rfl) ?_
  refine lv_icmp_eq (tgt := 382) hx hb dL_law_377 (by decide) (fun _ => ?_) (fun c9 => absurd (by decide) c9)
  refine lv_iload hx hb dL_law_382 (lv_at hl 1 rfl) ?_
  refine lv_if_ne (tgt := 399) hx hb dL_law_384 (by decide) (fun _ => ?_) (fun c9 => absurd c9 (by decide))
  refine lv_goto (tgt := 1169) hx hb dL_law_399 (by decide) ?_
  refine W.widen (k := 600002) (n := 7302232) (Nat.le_of_ble_eq_true rfl) (Nat.le_of_ble_eq_true rfl) ?_
  exact kend _ _ _ hS (lv_sub hl [6, 2] rfl)

set_option maxHeartbeats 4000000 in
set_option maxRecDepth 100000 in
theorem k271_X8_refuseNoPlayer (l : Launch) (D : va_G) (cs : Nat → ClassId) (sz : Nat) (hlt : l.stackTraces = false) (a0 a1 a2 a3 a4 a5 a6 a7 a8 a9 a10 a11 a12 a13 a14 : Nat) (x0 : Int32) (hf0 : ¬ x0 < 0) (hf1 : ¬ x0 < 1) : KX l yX8_refuseNoPlayer wsX8_refuseNoPlayer 6 100 1 6 D cs sz [.ref a0, .int x0] [(a0, .inr (8, [.ref a3, .ref a1, .ref a4, .ref a5, .int 0, .int 0, .int (-1)])), (a1, .inr (7, [.ref a2, .ref a6, .ref a7, .ref a8, .ref a9, .ref a10, .long 0, .int 0, .int 0, .int 0, .int 0, .int 0, .int 0, .int 0, .int 0, .int 0])), (a2, .inr (6, [.int 1, .int 1, .int 50, .null, .ref a11, .ref a12, .ref a13, .ref a14]))] QnV "java/lang/IndexOutOfBoundsException" := by
  refine KX.of cX8_refuseNoPlayer 2 none (by decide) rfl (Nat.le_of_ble_eq_true rfl) ?_
  intro p e s m below meth c A ls hx hb hr hml hown hts hlocks hnx hP hN hD hA hS hl hZ
  have hown : s.vm.findClass RX8 = some m.cls := hown
  have hl : lv_has ls 2 [(0, .ref a0), (1, .int x0)] := hl
  refine lv_iload_n hx hb dX8_refuseNoPlayer_0 rfl (lv_at hl 1 rfl) ?_
  refine lv_if_lt (tgt := 18) hx hb dX8_refuseNoPlayer_1 (by decide) (fun c9 => absurd c9 hf0) (fun _ => ?_)
  refine lv_iload_n hx hb dX8_refuseNoPlayer_4 rfl (lv_at hl 1 rfl) ?_
  refine lv_aload_n hx hb dX8_refuseNoPlayer_5 rfl (lv_at hl 0 rfl) ?_
  refine va_get (D := D) (ci := 8) (v := .ref a1) (C := RX8) (T := TX8) (N := 7) hx hb hts iX8_refuseNoPlayer_8 hown hN.1 hP 0 rfl rfl 1 (by decide) (hts _ mX8_refuseNoPlayer_3) (fun _ h9 => h9) rfl dX8_refuseNoPlayer_6 ?_
  refine va_getN (D := D) (ci := 7) (v := .ref a2) (C := RX7) (T := TX7) (N := 16) hx hb hts iX8_refuseNoPlayer_7 hown hN.1 hP 1 rfl rfl 0 (by decide) (hN.f 46 rfl) (fun _ h9 => h9) rfl dX8_refuseNoPlayer_9 ?_
  refine va_getN (D := D) (ci := 6) (v := .int 1) (C := RX6) (T := TX6) (N := 8) hx hb hts iX8_refuseNoPlayer_6 hown hN.1 hP 2 rfl rfl 0 (by decide) (hN.f 37 rfl) (fun _ h9 => h9) rfl dX8_refuseNoPlayer_12 ?_
  refine lv_icmp_lt (tgt := 28) hx hb dX8_refuseNoPlayer_15 (by decide) (fun c9 => absurd c9 hf1) (fun _ => ?_)
  exact tx_g2 (E := "java/lang/IndexOutOfBoundsException") 2 hx hb hlt hown hN (by decide +kernel) (hts _ mX8_refuseNoPlayer_1) (hts _ mX8_refuseNoPlayer_2) (hN.s 11 rfl) rfl (fun w h => hts w (xgX8_refuseNoPlayer_234_2 w h)) xnRX8_234_2 xdRX8_234_2 xoRX8_230_234_2 hZ hS hl hml dX8_refuseNoPlayer_18 dX8_refuseNoPlayer_21 dX8_refuseNoPlayer_22 dX8_refuseNoPlayer_24 dX8_refuseNoPlayer_27 hnx (Nat.le_of_ble_eq_true rfl) (Nat.le_of_ble_eq_true rfl) (Nat.le_of_ble_eq_true rfl) (Nat.le_of_ble_eq_true rfl) hlocks (Nat.le_of_ble_eq_true rfl) (Nat.le_of_ble_eq_true rfl)
set_option maxHeartbeats 4000000 in
set_option maxRecDepth 100000 in
theorem k272_X8_player (l : Launch) (D : va_G) (cs : Nat → ClassId) (sz : Nat) (hlt : l.stackTraces = false) (a0 a1 a2 a3 a4 a5 a6 a7 a8 a9 a10 a11 a12 a13 a14 : Nat) (x0 : Int32) (x1 : Int32) (hf0 : ¬ x0 < 0) (hf1 : ¬ x0 < 1) : KX l yX8_player wsX8_player 7 121 1 6 D cs sz [.ref a0, .int x0, .int x1] [(a0, .inr (8, [.ref a3, .ref a1, .ref a4, .ref a5, .int 0, .int 0, .int (-1)])), (a1, .inr (7, [.ref a2, .ref a6, .ref a7, .ref a8, .ref a9, .ref a10, .long 0, .int 0, .int 0, .int 0, .int 0, .int 0, .int 0, .int 0, .int 0, .int 0])), (a2, .inr (6, [.int 1, .int 1, .int 50, .null, .ref a11, .ref a12, .ref a13, .ref a14]))] QnI "java/lang/IndexOutOfBoundsException" := by
  refine KX.of cX8_player 3 (some .int) (by decide) rfl (Nat.le_of_ble_eq_true rfl) ?_
  intro p e s m below meth c A ls hx hb hr hml hown hts hlocks hnx hP hN hD hA hS hl hZ
  have hown : s.vm.findClass RX8 = some m.cls := hown
  have hl : lv_has ls 3 [(0, .ref a0), (1, .int x0), (2, .int x1)] := hl
  refine lv_aload_n hx hb dX8_player_0 rfl (lv_at hl 0 rfl) ?_
  refine lv_iload_n hx hb dX8_player_1 rfl (lv_at hl 1 rfl) ?_
  exact xp_v (As := [.int x0]) (rest := []) (b := a0) ⟨hx, hb, hml, hown, hts⟩ (fun sz => k271_X8_refuseNoPlayer l D cs sz hlt a0 a1 a2 a3 a4 a5 a6 a7 a8 a9 a10 a11 a12 a13 a14 (x0) hf0 hf1) (cwV 1 hts gX8_player_X8_refuseNoPlayer rfl rfl rfl hdX8_refuseNoPlayer_v ⟨Nat.le_of_ble_eq_true rfl, Nat.le_of_ble_eq_true rfl⟩) hN hP hD hS hA hZ [0, 1, 2] rfl rfl (ci := 8) (q0 := 0) rfl rfl rfl rfl hl.1 (Nat.le_of_ble_eq_true rfl) dX8_player_2 (Nat.le_of_ble_eq_true rfl) (Nat.le_of_ble_eq_true rfl) hnx hlocks (Nat.le_of_ble_eq_true rfl) (Nat.le_of_ble_eq_true rfl)
set_option maxHeartbeats 4000000 in
set_option maxRecDepth 100000 in
theorem k273_L_player (l : Launch) (D : va_G) (cs : Nat → ClassId) (sz : Nat) (hlt : l.stackTraces = false) (a0 a1 a2 a3 a4 a5 a6 a7 a8 a9 a10 a11 a12 a13 a14 a15 : Nat) (x0 : Int32) (x1 : Int32) (hf0 : ¬ x0 < 0) (hf1 : ¬ x0 < 1) : KH l yL_player wsL_player 8 143 1 6 D cs sz [.ref a0, .int x0, .int x1, .ref a3] [(a0, .inr (8, [.ref a4, .ref a1, .ref a5, .ref a6, .int 0, .int 0, .int (-1)])), (a1, .inr (7, [.ref a2, .ref a7, .ref a8, .ref a9, .ref a10, .ref a11, .long 0, .int 0, .int 0, .int 0, .int 0, .int 0, .int 0, .int 0, .int 0, .int 0])), (a2, .inr (6, [.int 1, .int 1, .int 50, .null, .ref a12, .ref a13, .ref a14, .ref a15]))] (fun u => []) (1) := by
  refine KH.of cL_player 5 (some .int) (by decide) rfl (Nat.le_of_ble_eq_true rfl) ?_
  intro p e s m below meth c A ls hx hb hr hml hown hts hlocks htab hP hN hD hA hS hl hZ
  have hown : s.vm.findClass RL = some m.cls := hown
  have hl : lv_has ls 5 [(0, .ref a0), (1, .int x0), (2, .int x1), (3, .ref a3)] := hl
  refine lv_aload_n hx hb dL_player_0 rfl (lv_at hl 3 rfl) ?_
  refine lv_iconst (v := 0) hx hb dL_player_1 (by decide) ?_
  refine lv_aload_n hx hb dL_player_2 rfl (lv_at hl 0 rfl) ?_
  refine lv_iload_n hx hb dL_player_3 rfl (lv_at hl 1 rfl) ?_
  refine lv_iload_n hx hb dL_player_4 rfl (lv_at hl 2 rfl) ?_
  refine xc_i (wr := []) (As := [.int x0, .int x1]) (rest := [.int 0, .ref a3]) (b := a0) ⟨hx, hb, hml, hown, hts⟩ (fun sz => k272_X8_player l D cs sz hlt a0 a1 a2 a4 a5 a6 a7 a8 a9 a10 a11 a12 a13 a14 a15 (x0) (x1) hf0 hf1) (cwV 2 hts gL_player_X8_player rfl rfl rfl hdX8_player_v ⟨Nat.le_of_ble_eq_true rfl, Nat.le_of_ble_eq_true rfl⟩) hN hP hD hS hA hZ [0, 1, 2] rfl rfl (ci := 8) (q0 := 0) rfl rfl rfl rfl hl.1 (Nat.le_of_ble_eq_true rfl) dL_player_5 (Nat.le_of_ble_eq_true rfl) (Nat.le_of_ble_eq_true rfl) [] rfl rfl (by decide) [] ⟨0, 10, 13, 22⟩ [⟨0, 10, 17, 13⟩] htab (fun z h => nomatch h) rfl (by decide) (hts _ mL_player_1) 2 rfl (fun q9_6 H locs hP hD hS => ?_)
  have hP : va_P D vwCl [] H := hP
  have hD : va_D A [] := hD
  refine W.widen (k := 1) (n := 6) (Nat.le_of_ble_eq_true rfl) (Nat.le_of_ble_eq_true rfl) ?_
  refine lv_astore (lv' := [(4, .ref q9_6), (0, .ref a0), (1, .int x0), (2, .int x1), (3, .ref a3)]) hx hb dL_player_13 hl (by decide) rfl (fun ls hl => ?_)
  refine lv_iconst (v := 1) hx hb dL_player_15 (by decide) ?_
  exact en_i (fun k => ([] : List Nat).getD k 0) hx hb hr hlocks rfl rfl hP hD hS (Nat.le_of_ble_eq_true rfl) (Nat.le_of_ble_eq_true rfl) dL_player_16
set_option maxHeartbeats 4000000 in
set_option maxRecDepth 100000 in
theorem k274_X9_in (l : Launch) (D : va_G) (cs : Nat → ClassId) (sz : Nat) (x0 : Int32) (hf0 : ¬ x0 < 0) (hf1 : 0 < x0) : KI l yX9_in wsX9_in 0 0 0 0 D cs sz [.int x0, .int 0, .int 0] [] (fun u => []) (0) := by
  refine KI.of cX9_in 3 (some .boolean) (by decide) rfl (Nat.le_of_ble_eq_true rfl) ?_
  intro p e s m below meth c A ls hx hb hr hml hown hts hlocks hin hP hN hD hA hS hl
  have hown : s.vm.findClass RX9 = some m.cls := hown
  have hl : lv_has ls 3 [(0, .int x0), (1, .int 0), (2, .int 0)] := hl
  refine lv_iload_n hx hb dX9_in_0 rfl (lv_at hl 0 rfl) ?_
  refine lv_iload_n hx hb dX9_in_1 rfl (lv_at hl 1 rfl) ?_
  refine lv_icmp_lt (tgt := 14) hx hb dX9_in_2 (by decide) (fun c9 => absurd c9 hf0) (fun _ => ?_)
  refine lv_iload_n hx hb dX9_in_5 rfl (lv_at hl 0 rfl) ?_
  refine lv_iload_n hx hb dX9_in_6 rfl (lv_at hl 2 rfl) ?_
  refine lv_icmp_gt (tgt := 14) hx hb dX9_in_7 (by decide) (fun _ => ?_) (fun c9 => absurd hf1 c9)
  refine lv_iconst (v := 0) hx hb dX9_in_14 (by decide) ?_
  exact en_i (fun k => ([] : List Nat).getD k 0) hx hb hr hlocks rfl rfl hP hD hS (Nat.le_of_ble_eq_true rfl) (Nat.le_of_ble_eq_true rfl) dX9_in_15
set_option maxHeartbeats 4000000 in
set_option maxRecDepth 100000 in
theorem k275_X9_noPlayer (l : Launch) (D : va_G) (cs : Nat → ClassId) (sz : Nat) (a0 a1 a2 a3 a4 a5 a6 : Nat) (x0 : Int32) (hf0 : ¬ x0 < 0) (hf1 : 0 < x0) : KI l yX9_noPlayer wsX9_noPlayer 1 22 0 0 D cs sz [.ref a0, .int x0] [(a0, .inr (9, [.int 0, .ref a2, .int 0, .int 0, .int 0, .int 0, .int 0, .int (-1), .ref a1, .ref a3, .ref a4, .ref a5, .int 0, .int 0, .int 0, .int 0, .int 0, .ref a6])), (a1, .inl (cs 0, 45783, .inl (layF (fun _ => 0) 1)))] (fun u => [(a1, .inl (cs 0, 45783, .inl (layF (fun _ => 0) 1))), (a0, .inr (9, [.int 1, .ref a2, .int 0, .int 0, .int 0, .int 0, .int 0, .int (-1), .ref a1, .ref a3, .ref a4, .ref a5, .int 0, .int 0, .int 0, .int 0, .int 0, .ref a6]))]) (1) := by
  refine KI.of cX9_noPlayer 2 (some .boolean) (by decide) rfl (Nat.le_of_ble_eq_true rfl) ?_
  intro p e s m below meth c A ls hx hb hr hml hown hts hlocks hin hP hN hD hA hS hl
  have hown : s.vm.findClass RX9 = some m.cls := hown
  have hl : lv_has ls 2 [(0, .ref a0), (1, .int x0)] := hl
  refine lv_aload_n hx hb dX9_noPlayer_0 rfl (lv_at hl 0 rfl) ?_
  refine lv_iload_n hx hb dX9_noPlayer_1 rfl (lv_at hl 1 rfl) ?_
  refine lv_iconst (v := 0) hx hb dX9_noPlayer_2 (by decide) ?_
  refine lv_aload_n hx hb dX9_noPlayer_3 rfl (lv_at hl 0 rfl) ?_
  refine va_get (D := D) (ci := 9) (v := .ref a1) (C := RX9) (T := TX9) (N := 18) hx hb hts iX9_noPlayer_9 hown hN.1 hP 0 rfl rfl 8 (by decide) (hts _ mX9_noPlayer_1) (fun _ h9 => h9) rfl dX9_noPlayer_4 ?_
  refine lv_iconst (v := 0) hx hb dX9_noPlayer_7 (by decide) ?_
  refine ld_i (v := 1) hx hb hN hP 1 rfl (vin (by decide +kernel)) (by first | rfl | decide +kernel) dX9_noPlayer_8 ?_
  refine lv_iconst (v := 1) hx hb dX9_noPlayer_9 (by decide) ?_
  refine lv_isub hx hb dX9_noPlayer_10 ?_
  refine tp_i (0) (by decide) ?_
  refine cs_i (As := [.int x0, .int 0, .int 0]) (rest := [.ref a0]) (wr := [(a0, .inr (9, [.int 0, .ref a2, .int 0, .int 0, .int 0, .int 0, .int 0, .int (-1), .ref a1, .ref a3, .ref a4, .ref a5, .int 0, .int 0, .int 0, .int 0, .int 0, .ref a6])), (a1, .inl (cs 0, 45783, .inl (layF (fun _ => 0) 1)))]) ⟨hx, hb, hml, hown, hts⟩ (fun sz => k274_X9_in l D cs sz (x0) hf0 hf1) (va_cwS 3 hts gX9_noPlayer_X9_in rfl rfl rfl hdX9_in_o ⟨Nat.le_of_ble_eq_true rfl, Nat.le_of_ble_eq_true rfl⟩) hN hP hD hS hA [] [0, 1] rfl rfl rfl rfl (by decide) rfl rfl hl.1 (Nat.le_of_ble_eq_true rfl) dX9_noPlayer_11 (Nat.le_of_ble_eq_true rfl) (Nat.le_of_ble_eq_true rfl) (fun u0 H locs hP hD hS => ?_)
  have hP : va_P D vwCl [(a0, .inr (9, [.int 0, .ref a2, .int 0, .int 0, .int 0, .int 0, .int 0, .int (-1), .ref a1, .ref a3, .ref a4, .ref a5, .int 0, .int 0, .int 0, .int 0, .int 0, .ref a6])), (a1, .inl (cs 0, 45783, .inl (layF (fun _ => 0) 1)))] H := hP
  have hD : va_D A [(a0, .inr (9, [.int 0, .ref a2, .int 0, .int 0, .int 0, .int 0, .int 0, .int (-1), .ref a1, .ref a3, .ref a4, .ref a5, .int 0, .int 0, .int 0, .int 0, .int 0, .ref a6])), (a1, .inl (cs 0, 45783, .inl (layF (fun _ => 0) 1)))] := hD
  refine W.widen (k := 0) (n := 0) (Nat.le_of_ble_eq_true rfl) (Nat.le_of_ble_eq_true rfl) ?_
  refine lv_if_ne (tgt := 21) hx hb dX9_noPlayer_14 (by decide) (fun c9 => absurd (by decide) c9) (fun _ => ?_)
  refine lv_iconst (v := 1) hx hb dX9_noPlayer_17 (by decide) ?_
  refine lv_goto (tgt := 22) hx hb dX9_noPlayer_18 (by decide) ?_
  refine lv_iconst (v := 1) hx hb dX9_noPlayer_22 (by decide) ?_
  refine cv_i (As := [.int 1, .int 1]) (rest := []) (b := a0) (wr := [(a1, .inl (cs 0, 45783, .inl (layF (fun _ => 0) 1)))]) ⟨hx, hb, hml, hown, hts⟩ (fun sz => k156_X9_fails l D cs sz a0 a2 a1 a3 a4 a5 a6) (cwV 2 hts gX9_noPlayer_X9_fails rfl rfl rfl hdX9_fails_v ⟨Nat.le_of_ble_eq_true rfl, Nat.le_of_ble_eq_true rfl⟩) hN hP hD hS hA [0] [1] rfl rfl rfl rfl (by decide) (ci := 9) (q0 := 0) rfl rfl rfl rfl hl.1 (Nat.le_of_ble_eq_true rfl) dX9_noPlayer_23 (Nat.le_of_ble_eq_true rfl) (Nat.le_of_ble_eq_true rfl) (fun u1 H locs hP hD hS => ?_)
  have hP : va_P D vwCl [(a1, .inl (cs 0, 45783, .inl (layF (fun _ => 0) 1))), (a0, .inr (9, [.int 1, .ref a2, .int 0, .int 0, .int 0, .int 0, .int 0, .int (-1), .ref a1, .ref a3, .ref a4, .ref a5, .int 0, .int 0, .int 0, .int 0, .int 0, .ref a6]))] H := hP
  have hD : va_D A [(a1, .inl (cs 0, 45783, .inl (layF (fun _ => 0) 1))), (a0, .inr (9, [.int 1, .ref a2, .int 0, .int 0, .int 0, .int 0, .int 0, .int (-1), .ref a1, .ref a3, .ref a4, .ref a5, .int 0, .int 0, .int 0, .int 0, .int 0, .ref a6]))] := hD
  refine W.widen (k := 0) (n := 0) (Nat.le_of_ble_eq_true rfl) (Nat.le_of_ble_eq_true rfl) ?_
  exact en_i (fun k => ([] : List Nat).getD k 0) hx hb hr hlocks rfl rfl hP hD hS (Nat.le_of_ble_eq_true rfl) (Nat.le_of_ble_eq_true rfl) dX9_noPlayer_26
set_option maxHeartbeats 4000000 in
set_option maxRecDepth 100000 in
theorem k276_X9_player (l : Launch) (D : va_G) (cs : Nat → ClassId) (sz : Nat) (a0 a1 a2 a3 a4 a5 a6 : Nat) (x0 : Int32) (x1 : Int32) (hf0 : ¬ x0 < 0) (hf1 : 0 < x0) : KI l yX9_player wsX9_player 2 43 0 0 D cs sz [.ref a0, .int x0, .int x1] [(a0, .inr (9, [.int 0, .ref a2, .int 0, .int 0, .int 0, .int 0, .int 0, .int (-1), .ref a1, .ref a3, .ref a4, .ref a5, .int 0, .int 0, .int 0, .int 0, .int 0, .ref a6])), (a1, .inl (cs 0, 45783, .inl (layF (fun _ => 0) 1)))] (fun u => [(a1, .inl (cs 0, 45783, .inl (layF (fun _ => 0) 1))), (a0, .inr (9, [.int 1, .ref a2, .int 0, .int 0, .int 0, .int 0, .int 0, .int (-1), .ref a1, .ref a3, .ref a4, .ref a5, .int 0, .int 0, .int 0, .int 0, .int 0, .ref a6]))]) (0) := by
  refine KI.of cX9_player 3 (some .int) (by decide) rfl (Nat.le_of_ble_eq_true rfl) ?_
  intro p e s m below meth c A ls hx hb hr hml hown hts hlocks hin hP hN hD hA hS hl
  have hown : s.vm.findClass RX9 = some m.cls := hown
  have hl : lv_has ls 3 [(0, .ref a0), (1, .int x0), (2, .int x1)] := hl
  refine lv_aload_n hx hb dX9_player_0 rfl (lv_at hl 0 rfl) ?_
  refine lv_iconst (v := 0) hx hb dX9_player_1 (by decide) ?_
  refine va_put (D := D) (ci := 9) (v := .int 0) (ty := .int) (C := RX9) (T := TX9) (N := 18) hx hb hts iX9_player_9 tyX9 tyX9_ok nmX9 hown hN.1 hP hD hS 0 rfl rfl 0 (by decide) (hts _ mX9_player_1) (fun _ h9 => h9) rfl (by decide +kernel) rfl rfl (Nat.le_of_ble_eq_true rfl) dX9_player_2 (fun H locs hP hD hS => ?_)
  have hP : va_P D vwCl [(a0, .inr (9, [.int 0, .ref a2, .int 0, .int 0, .int 0, .int 0, .int 0, .int (-1), .ref a1, .ref a3, .ref a4, .ref a5, .int 0, .int 0, .int 0, .int 0, .int 0, .ref a6])), (a1, .inl (cs 0, 45783, .inl (layF (fun _ => 0) 1)))] H := hP
  have hD : va_D A [(a0, .inr (9, [.int 0, .ref a2, .int 0, .int 0, .int 0, .int 0, .int 0, .int (-1), .ref a1, .ref a3, .ref a4, .ref a5, .int 0, .int 0, .int 0, .int 0, .int 0, .ref a6])), (a1, .inl (cs 0, 45783, .inl (layF (fun _ => 0) 1)))] := hD
  refine lv_aload_n hx hb dX9_player_5 rfl (lv_at hl 0 rfl) ?_
  refine lv_iload_n hx hb dX9_player_6 rfl (lv_at hl 1 rfl) ?_
  refine cv_i (As := [.int x0]) (rest := []) (b := a0) (wr := []) ⟨hx, hb, hml, hown, hts⟩ (fun sz => k275_X9_noPlayer l D cs sz a0 a1 a2 a3 a4 a5 a6 (x0) hf0 hf1) (cwV 1 hts gX9_player_X9_noPlayer rfl rfl rfl hdX9_noPlayer_v ⟨Nat.le_of_ble_eq_true rfl, Nat.le_of_ble_eq_true rfl⟩) hN hP hD hS hA [0, 1] [] rfl rfl rfl rfl (by decide) (ci := 9) (q0 := 0) rfl rfl rfl rfl hl.1 (Nat.le_of_ble_eq_true rfl) dX9_player_7 (Nat.le_of_ble_eq_true rfl) (Nat.le_of_ble_eq_true rfl) (fun u0 H locs hP hD hS => ?_)
  have hP : va_P D vwCl [(a1, .inl (cs 0, 45783, .inl (layF (fun _ => 0) 1))), (a0, .inr (9, [.int 1, .ref a2, .int 0, .int 0, .int 0, .int 0, .int 0, .int (-1), .ref a1, .ref a3, .ref a4, .ref a5, .int 0, .int 0, .int 0, .int 0, .int 0, .ref a6]))] H := hP
  have hD : va_D A [(a1, .inl (cs 0, 45783, .inl (layF (fun _ => 0) 1))), (a0, .inr (9, [.int 1, .ref a2, .int 0, .int 0, .int 0, .int 0, .int 0, .int (-1), .ref a1, .ref a3, .ref a4, .ref a5, .int 0, .int 0, .int 0, .int 0, .int 0, .ref a6]))] := hD
  refine W.widen (k := 0) (n := 0) (Nat.le_of_ble_eq_true rfl) (Nat.le_of_ble_eq_true rfl) ?_
  refine lv_if_ne (tgt := 36) hx hb dX9_player_10 (by decide) (fun _ => ?_) (fun c9 => absurd c9 (by decide))
  refine lv_iconst (v := 0) hx hb dX9_player_36 (by decide) ?_
  refine lv_goto (tgt := 46) hx hb dX9_player_37 (by decide) ?_
  exact en_i (fun k => ([] : List Nat).getD k 0) hx hb hr hlocks rfl rfl hP hD hS (Nat.le_of_ble_eq_true rfl) (Nat.le_of_ble_eq_true rfl) dX9_player_46
set_option maxHeartbeats 4000000 in
set_option maxRecDepth 100000 in
theorem law_4_b {p : Program} {l : Launch} {e : Env} {s : State} {m : MethodId} {args : Array Value} {below : List Frame} {meth : Method} {c : Code} {Q : State → Prop} {D : va_G} {cs : Nat → ClassId} {A : Nat → Prop} {xs : Nat → Int32} {b : Nat} (hx : p.tables.exec = Jvm.exec) (hb : c.code = cL_law) (hml : c.maxLocals = 9) (hown : s.vm.findClass RL = some m.cls) (hts : ∀ w ∈ wsL_law, w.before args s = true) (hN : NK D cs s) (hX : va_X b 6 xs s s.heap) (hbl : b < s.heap.size) (hbA : ¬ A b) (hA : ∀ q : Nat, s.heap.size ≤ q → A q) (hZ : ZX A s s.heap) (hZS : ZS cs A s s.heap) (hlt : l.stackTraces = false)
    (kend : ∀ (H : Heap) (locs : List Loc) (ls : Array Slot), va_S A s.heap H locs → lv_has ls 9 [(0, .ref b), (4, .int 0)] → W p l e room_1 s m args below meth c H locs 600002 7302232 Q (F0 m 1169 ls []))
    (a0 a1 a2 a3 a4 a5 a6 a7 a8 a9 a10 a11 a12 a13 a14 a15 a16 a17 a18 a19 a20 a21 a22 : Nat) (y1 y2 : Int32) (hy1 : xs 1 = (y1)) (hy2 : xs 2 = (y2)) (g1_4 : ¬ y1 < 0) (g1_8 : ¬ y1 < 1) (g1_7 : 0 < y1) (H : Heap) (locs : List Loc) (ls : Array Slot) (hP : va_P D vwCl [(a0, .inr (8, [.ref a5, .ref a2, .ref a6, .ref a7, .int 0, .int 0, .int (-1)])), (a1, .inr (6, [.int 1, .int 1, .int 50, .null, .ref a8, .ref a9, .ref a10, .ref a11])), (a2, .inr (7, [.ref a1, .ref a12, .ref a13, .ref a14, .ref a15, .ref a16, .long 0, .int 0, .int 0, .int 0, .int 0, .int 0, .int 0, .int 0, .int 0, .int 0])), (a3, .inr (9, [.int 0, .ref a17, .int 0, .int 0, .int 0, .int 0, .int 0, .int (-1), .ref a4, .ref a18, .ref a19, .ref a20, .int 0, .int 0, .int 0, .int 0, .int 0, .ref a21])), (a4, .inl (cs 0, 45783, .inl (layF (fun _ => 0) 1)))] H) (hD : va_D A [(a0, .inr (8, [.ref a5, .ref a2, .ref a6, .ref a7, .int 0, .int 0, .int (-1)])), (a1, .inr (6, [.int 1, .int 1, .int 50, .null, .ref a8, .ref a9, .ref a10, .ref a11])), (a2, .inr (7, [.ref a1, .ref a12, .ref a13, .ref a14, .ref a15, .ref a16, .long 0, .int 0, .int 0, .int 0, .int 0, .int 0, .int 0, .int 0, .int 0, .int 0])), (a3, .inr (9, [.int 0, .ref a17, .int 0, .int 0, .int 0, .int 0, .int 0, .int (-1), .ref a4, .ref a18, .ref a19, .ref a20, .int 0, .int 0, .int 0, .int 0, .int 0, .ref a21])), (a4, .inl (cs 0, 45783, .inl (layF (fun _ => 0) 1)))]) (hS : va_S A s.heap H locs) (hl : lv_has ls 9 [(4, .int 0), (3, .ref a22), (2, .ref a3), (1, .ref a0), (0, .ref b)]) : W p l e room_1 s m args below meth c H locs 391 467079 Q (F0 m 334 ls []) := by
  refine lv_aload_n hx hb dL_law_334 rfl (lv_at hl 3 rfl) ?_
  refine lv_aload_n hx hb dL_law_335 rfl (lv_at hl 4 rfl) ?_
  refine lv_iload hx hb dL_law_336 (lv_at hl 0 rfl) ?_
  refine lv_iconst (v := 1) hx hb dL_law_338 (by decide) ?_
  refine lv_iadd hx hb dL_law_339 ?_
  refine tp_i (1) (by decide) ?_
  refine va_sld hx hb hX hbl hbA hS (vin (by decide +kernel)) dL_law_340 ?_
  refine tp_i (y1) hy1 ?_
  refine lv_aload_n hx hb dL_law_341 rfl (lv_at hl 4 rfl) ?_
  refine lv_iload hx hb dL_law_342 (lv_at hl 0 rfl) ?_
  refine lv_iconst (v := 2) hx hb dL_law_344 (by decide) ?_
  refine lv_iadd hx hb dL_law_345 ?_
  refine tp_i (2) (by decide) ?_
  refine va_sld hx hb hX hbl hbA hS (vin (by decide +kernel)) dL_law_346 ?_
  refine tp_i (y2) hy2 ?_
  refine lv_aload_n hx hb dL_law_347 rfl (lv_at hl 1 rfl) ?_
  refine ch_i (As := [.ref a0, .int y1, .int y2, .ref a22]) (rest := []) (wr := [(a3, .inr (9, [.int 0, .ref a17, .int 0, .int 0, .int 0, .int 0, .int 0, .int (-1), .ref a4, .ref a18, .ref a19, .ref a20, .int 0, .int 0, .int 0, .int 0, .int 0, .ref a21])), (a4, .inl (cs 0, 45783, .inl (layF (fun _ => 0) 1)))]) ⟨hx, hb, hml, hown, hts⟩ (fun sz => k273_L_player l D cs sz hlt a0 a2 a1 a22 a5 a6 a7 a12 a13 a14 a15 a16 a8 a9 a10 a11 (y1) (y2) g1_4 g1_8) (vx_cwSW 4 hts gL_law_L_player rfl rfl rfl hdL_player_o ⟨Nat.le_of_ble_eq_true rfl, Nat.le_of_ble_eq_true rfl⟩) hN hP hD hS hA hZ [0, 2, 1] [3, 4] rfl rfl rfl rfl (by decide) rfl rfl hl.1 (Nat.le_of_ble_eq_true rfl) dL_law_348 (Nat.le_of_ble_eq_true rfl) (Nat.le_of_ble_eq_true rfl) (fun u0 H locs hP hD hS => ?_)
  have hP : va_P D vwCl [(a3, .inr (9, [.int 0, .ref a17, .int 0, .int 0, .int 0, .int 0, .int 0, .int (-1), .ref a4, .ref a18, .ref a19, .ref a20, .int 0, .int 0, .int 0, .int 0, .int 0, .ref a21])), (a4, .inl (cs 0, 45783, .inl (layF (fun _ => 0) 1)))] H := hP
  have hD : va_D A [(a3, .inr (9, [.int 0, .ref a17, .int 0, .int 0, .int 0, .int 0, .int 0, .int (-1), .ref a4, .ref a18, .ref a19, .ref a20, .int 0, .int 0, .int 0, .int 0, .int 0, .ref a21])), (a4, .inl (cs 0, 45783, .inl (layF (fun _ => 0) 1)))] := hD
  refine W.widen (k := 392) (n := 467085) (Nat.le_of_ble_eq_true rfl) (Nat.le_of_ble_eq_true rfl) ?_
  refine lv_istore (lv' := [(5, .int 1), (4, .int 0), (3, .ref a22), (2, .ref a3), (1, .ref a0), (0, .ref b)]) hx hb dL_law_351 hl (by decide) rfl (fun ls hl => ?_)
  refine lv_aload_n hx hb dL_law_353 rfl (lv_at hl 3 rfl) ?_
  refine lv_aload_n hx hb dL_law_354 rfl (lv_at hl 5 rfl) ?_
  refine lv_iload hx hb dL_law_355 (lv_at hl 1 rfl) ?_
  refine lv_iconst (v := 1) hx hb dL_law_357 (by decide) ?_
  refine lv_iadd hx hb dL_law_358 ?_
  refine tp_i (1) (by decide) ?_
  refine va_sld hx hb hX hbl hbA hS (vin (by decide +kernel)) dL_law_359 ?_
  refine tp_i (y1) hy1 ?_
  refine lv_aload_n hx hb dL_law_360 rfl (lv_at hl 5 rfl) ?_
  refine lv_iload hx hb dL_law_361 (lv_at hl 1 rfl) ?_
  refine lv_iconst (v := 2) hx hb dL_law_363 (by decide) ?_
  refine lv_iadd hx hb dL_law_364 ?_
  refine tp_i (2) (by decide) ?_
  refine va_sld hx hb hX hbl hbA hS (vin (by decide +kernel)) dL_law_365 ?_
  refine tp_i (y2) hy2 ?_
  refine cv_i (As := [.int y1, .int y2]) (rest := []) (b := a3) (wr := []) ⟨hx, hb, hml, hown, hts⟩ (fun sz => k276_X9_player l D cs sz a3 a4 a17 a18 a19 a20 a21 (y1) (y2) g1_4 g1_7) (cwV 2 hts gL_law_X9_player rfl rfl rfl hdX9_player_v ⟨Nat.le_of_ble_eq_true rfl, Nat.le_of_ble_eq_true rfl⟩) hN hP hD hS hA [0, 1] [] rfl rfl rfl rfl (by decide) (ci := 9) (q0 := 0) rfl rfl rfl rfl hl.1 (Nat.le_of_ble_eq_true rfl) dL_law_366 (Nat.le_of_ble_eq_true rfl) (Nat.le_of_ble_eq_true rfl) (fun u1 H locs hP hD hS => ?_)
  have hP : va_P D vwCl [(a4, .inl (cs 0, 45783, .inl (layF (fun _ => 0) 1))), (a3, .inr (9, [.int 1, .ref a17, .int 0, .int 0, .int 0, .int 0, .int 0, .int (-1), .ref a4, .ref a18, .ref a19, .ref a20, .int 0, .int 0, .int 0, .int 0, .int 0, .ref a21]))] H := hP
  have hD : va_D A [(a4, .inl (cs 0, 45783, .inl (layF (fun _ => 0) 1))), (a3, .inr (9, [.int 1, .ref a17, .int 0, .int 0, .int 0, .int 0, .int 0, .int (-1), .ref a4, .ref a18, .ref a19, .ref a20, .int 0, .int 0, .int 0, .int 0, .int 0, .ref a21]))] := hD
  refine W.widen (k := 392) (n := 467085) (Nat.le_of_ble_eq_true rfl) (Nat.le_of_ble_eq_true rfl) ?_
  refine lv_istore (lv' := [(6, .int 0), (5, .int 1), (4, .int 0), (3, .ref a22), (2, .ref a3), (1, .ref a0), (0, .ref b)]) hx hb dL_law_369 hl (by decide) rfl (fun ls hl => ?_)
  refine lv_aload_n hx hb dL_law_371 rfl (lv_at hl 4 rfl) ?_
  refine cv_i (As := []) (rest := []) (b := a3) (wr := [(a4, .inl (cs 0, 45783, .inl (layF (fun _ => 0) 1)))]) ⟨hx, hb, hml, hown, hts⟩ (fun sz => k158_X9_thrown l D cs sz a3 a17 a4 a18 a19 a20 a21) (cwV 0 hts gL_law_X9_thrown rfl rfl rfl hdX9_thrown_v ⟨Nat.le_of_ble_eq_true rfl, Nat.le_of_ble_eq_true rfl⟩) hN hP hD hS hA [1] [0] rfl rfl rfl rfl (by decide) (ci := 9) (q0 := 0) rfl rfl rfl rfl hl.1 (Nat.le_of_ble_eq_true rfl) dL_law_372 (Nat.le_of_ble_eq_true rfl) (Nat.le_of_ble_eq_true rfl) (fun u2 H locs hP hD hS => ?_)
  have hP : va_P D vwCl [(a4, .inl (cs 0, 45783, .inl (layF (fun _ => 0) 1))), (a3, .inr (9, [.int 1, .ref a17, .int 0, .int 0, .int 0, .int 0, .int 0, .int (-1), .ref a4, .ref a18, .ref a19, .ref a20, .int 0, .int 0, .int 0, .int 0, .int 0, .ref a21]))] H := hP
  have hD : va_D A [(a4, .inl (cs 0, 45783, .inl (layF (fun _ => 0) 1))), (a3, .inr (9, [.int 1, .ref a17, .int 0, .int 0, .int 0, .int 0, .int 0, .int (-1), .ref a4, .ref a18, .ref a19, .ref a20, .int 0, .int 0, .int 0, .int 0, .int 0, .ref a21]))] := hD
  refine W.widen (k := 392) (n := 467085) (Nat.le_of_ble_eq_true rfl) (Nat.le_of_ble_eq_true rfl) ?_
  refine lv_iload hx hb dL_law_375 (lv_at hl 1 rfl) ?_
  refine lv_icmp_eq (tgt := 382) hx hb dL_law_377 (by decide) (fun _ => ?_) (fun c9 => absurd (by decide) c9)
  refine lv_iload hx hb dL_law_382 (lv_at hl 1 rfl) ?_
  refine lv_if_ne (tgt := 399) hx hb dL_law_384 (by decide) (fun _ => ?_) (fun c9 => absurd c9 (by decide))
  refine lv_goto (tgt := 1169) hx hb dL_law_399 (by decide) ?_
  refine W.widen (k := 600002) (n := 7302232) (Nat.le_of_ble_eq_true rfl) (Nat.le_of_ble_eq_true rfl) ?_
  exact kend _ _ _ hS (lv_sub hl [6, 2] rfl)

theorem mX8_link_1 : (.fieldLink RX8 19 "OneBeat" "now" "LOneBeat$World;" : Cond) ∈ wsX8_link := List.mem_of_getElem? (i := 1) (by decide +kernel)
theorem iX8_link_8 : ∀ w ∈ wsX80, w ∈ wsX8_link := fun w h => List.mem_of_mem_drop (List.mem_of_mem_take ((show wsX80 = (wsX8_link.drop 30).take 7 by decide +kernel) ▸ h))
set_option maxHeartbeats 4000000 in
set_option maxRecDepth 100000 in
theorem k277_X8_link (l : Launch) (D : va_G) (cs : Nat → ClassId) (sz : Nat) (a0 a1 a2 a3 a4 a5 a6 a7 a8 a9 a10 a11 a12 a13 a14 : Nat) : KI l yX8_link wsX8_link 3 65 0 0 D cs sz [.ref a0, .int 0, .int 0] [(a0, .inr (8, [.ref a4, .ref a1, .ref a5, .ref a6, .int 0, .int 0, .int (-1)])), (a1, .inr (7, [.ref a2, .ref a7, .ref a8, .ref a9, .ref a10, .ref a11, .long 0, .int 0, .int 0, .int 0, .int 0, .int 0, .int 0, .int 0, .int 0, .int 0])), (a2, .inr (6, [.int 1, .int 1, .int 50, .null, .ref a12, .ref a13, .ref a14, .ref a3])), (a3, .inl (cs 0, 64, .inl (fun _ => 0)))] (fun u => [(a0, .inr (8, [.ref a4, .ref a1, .ref a5, .ref a6, .int 0, .int 0, .int (-1)])), (a1, .inr (7, [.ref a2, .ref a7, .ref a8, .ref a9, .ref a10, .ref a11, .long 0, .int 0, .int 0, .int 0, .int 0, .int 0, .int 0, .int 0, .int 0, .int 0])), (a2, .inr (6, [.int 1, .int 1, .int 50, .null, .ref a12, .ref a13, .ref a14, .ref a3])), (a3, .inl (cs 0, 64, .inl (fun _ => 0)))]) (0) := by
  refine KI.of cX8_link 3 (some .int) (by decide) rfl (Nat.le_of_ble_eq_true rfl) ?_
  intro p e s m below meth c A ls hx hb hr hml hown hts hlocks hin hP hN hD hA hS hl
  have hown : s.vm.findClass RX8 = some m.cls := hown
  have hl : lv_has ls 3 [(0, .ref a0), (1, .int 0), (2, .int 0)] := hl
  refine lv_aload_n hx hb dX8_link_0 rfl (lv_at hl 0 rfl) ?_
  refine lv_iload_n hx hb dX8_link_1 rfl (lv_at hl 1 rfl) ?_
  refine cv_v (As := [.int 0]) (rest := []) (b := a0) (wr := [(a3, .inl (cs 0, 64, .inl (fun _ => 0)))]) ⟨hx, hb, hml, hown, hts⟩ (fun sz => k164_X8_refuseNoPlayer l D cs sz a0 a1 a2 a4 a5 a6 a7 a8 a9 a10 a11 a12 a13 a14 a3) (cwV 1 hts gX8_link_X8_refuseNoPlayer rfl rfl rfl hdX8_refuseNoPlayer_v ⟨Nat.le_of_ble_eq_true rfl, Nat.le_of_ble_eq_true rfl⟩) hN hP hD hS hA [0, 1, 2] [3] rfl rfl rfl rfl (by decide) (ci := 8) (q0 := 0) rfl rfl rfl rfl hl.1 (Nat.le_of_ble_eq_true rfl) dX8_link_2 (Nat.le_of_ble_eq_true rfl) (Nat.le_of_ble_eq_true rfl) (fun u0 H locs hP hD hS => ?_)
  have hP : va_P D vwCl [(a3, .inl (cs 0, 64, .inl (fun _ => 0))), (a0, .inr (8, [.ref a4, .ref a1, .ref a5, .ref a6, .int 0, .int 0, .int (-1)])), (a1, .inr (7, [.ref a2, .ref a7, .ref a8, .ref a9, .ref a10, .ref a11, .long 0, .int 0, .int 0, .int 0, .int 0, .int 0, .int 0, .int 0, .int 0, .int 0])), (a2, .inr (6, [.int 1, .int 1, .int 50, .null, .ref a12, .ref a13, .ref a14, .ref a3]))] H := hP
  have hD : va_D A [(a3, .inl (cs 0, 64, .inl (fun _ => 0))), (a0, .inr (8, [.ref a4, .ref a1, .ref a5, .ref a6, .int 0, .int 0, .int (-1)])), (a1, .inr (7, [.ref a2, .ref a7, .ref a8, .ref a9, .ref a10, .ref a11, .long 0, .int 0, .int 0, .int 0, .int 0, .int 0, .int 0, .int 0, .int 0, .int 0])), (a2, .inr (6, [.int 1, .int 1, .int 50, .null, .ref a12, .ref a13, .ref a14, .ref a3]))] := hD
  refine W.widen (k := 0) (n := 0) (Nat.le_of_ble_eq_true rfl) (Nat.le_of_ble_eq_true rfl) ?_
  refine lv_aload_n hx hb dX8_link_5 rfl (lv_at hl 0 rfl) ?_
  refine lv_iload_n hx hb dX8_link_6 rfl (lv_at hl 2 rfl) ?_
  refine cv_v (As := [.int 0]) (rest := []) (b := a0) (wr := [(a3, .inl (cs 0, 64, .inl (fun _ => 0)))]) ⟨hx, hb, hml, hown, hts⟩ (fun sz => k164_X8_refuseNoPlayer l D cs sz a0 a1 a2 a4 a5 a6 a7 a8 a9 a10 a11 a12 a13 a14 a3) (cwV 1 hts gX8_link_X8_refuseNoPlayer rfl rfl rfl hdX8_refuseNoPlayer_v ⟨Nat.le_of_ble_eq_true rfl, Nat.le_of_ble_eq_true rfl⟩) hN hP hD hS hA [1, 2, 3] [0] rfl rfl rfl rfl (by decide) (ci := 8) (q0 := 0) rfl rfl rfl rfl hl.1 (Nat.le_of_ble_eq_true rfl) dX8_link_7 (Nat.le_of_ble_eq_true rfl) (Nat.le_of_ble_eq_true rfl) (fun u1 H locs hP hD hS => ?_)
  have hP : va_P D vwCl [(a3, .inl (cs 0, 64, .inl (fun _ => 0))), (a0, .inr (8, [.ref a4, .ref a1, .ref a5, .ref a6, .int 0, .int 0, .int (-1)])), (a1, .inr (7, [.ref a2, .ref a7, .ref a8, .ref a9, .ref a10, .ref a11, .long 0, .int 0, .int 0, .int 0, .int 0, .int 0, .int 0, .int 0, .int 0, .int 0])), (a2, .inr (6, [.int 1, .int 1, .int 50, .null, .ref a12, .ref a13, .ref a14, .ref a3]))] H := hP
  have hD : va_D A [(a3, .inl (cs 0, 64, .inl (fun _ => 0))), (a0, .inr (8, [.ref a4, .ref a1, .ref a5, .ref a6, .int 0, .int 0, .int (-1)])), (a1, .inr (7, [.ref a2, .ref a7, .ref a8, .ref a9, .ref a10, .ref a11, .long 0, .int 0, .int 0, .int 0, .int 0, .int 0, .int 0, .int 0, .int 0, .int 0])), (a2, .inr (6, [.int 1, .int 1, .int 50, .null, .ref a12, .ref a13, .ref a14, .ref a3]))] := hD
  refine W.widen (k := 0) (n := 0) (Nat.le_of_ble_eq_true rfl) (Nat.le_of_ble_eq_true rfl) ?_
  refine lv_aload_n hx hb dX8_link_10 rfl (lv_at hl 0 rfl) ?_
  refine va_get (D := D) (ci := 8) (v := .ref a1) (C := RX8) (T := TX8) (N := 7) hx hb hts iX8_link_8 hown hN.1 hP 1 rfl rfl 1 (by decide) (hts _ mX8_link_1) (fun _ h9 => h9) rfl dX8_link_11 ?_
  refine lv_iload_n hx hb dX8_link_14 rfl (lv_at hl 1 rfl) ?_
  refine lv_iload_n hx hb dX8_link_15 rfl (lv_at hl 2 rfl) ?_
  refine cv_i (As := [.int 0, .int 0]) (rest := []) (b := a1) (wr := [(a3, .inl (cs 0, 64, .inl (fun _ => 0))), (a0, .inr (8, [.ref a4, .ref a1, .ref a5, .ref a6, .int 0, .int 0, .int (-1)])), (a2, .inr (6, [.int 1, .int 1, .int 50, .null, .ref a12, .ref a13, .ref a14, .ref a3]))]) ⟨hx, hb, hml, hown, hts⟩ (fun sz => k136_X7_isCut l D cs sz a1 a2 a7 a8 a9 a10 a11) (cwV 2 hts gX8_link_X7_isCut rfl rfl rfl hdX7_isCut_v ⟨Nat.le_of_ble_eq_true rfl, Nat.le_of_ble_eq_true rfl⟩) hN hP hD hS hA [2] [0, 1, 3] rfl rfl rfl rfl (by decide) (ci := 7) (q0 := 0) rfl rfl rfl rfl hl.1 (Nat.le_of_ble_eq_true rfl) dX8_link_16 (Nat.le_of_ble_eq_true rfl) (Nat.le_of_ble_eq_true rfl) (fun u2 H locs hP hD hS => ?_)
  have hP : va_P D vwCl [(a3, .inl (cs 0, 64, .inl (fun _ => 0))), (a0, .inr (8, [.ref a4, .ref a1, .ref a5, .ref a6, .int 0, .int 0, .int (-1)])), (a2, .inr (6, [.int 1, .int 1, .int 50, .null, .ref a12, .ref a13, .ref a14, .ref a3])), (a1, .inr (7, [.ref a2, .ref a7, .ref a8, .ref a9, .ref a10, .ref a11, .long 0, .int 0, .int 0, .int 0, .int 0, .int 0, .int 0, .int 0, .int 0, .int 0]))] H := hP
  have hD : va_D A [(a3, .inl (cs 0, 64, .inl (fun _ => 0))), (a0, .inr (8, [.ref a4, .ref a1, .ref a5, .ref a6, .int 0, .int 0, .int (-1)])), (a2, .inr (6, [.int 1, .int 1, .int 50, .null, .ref a12, .ref a13, .ref a14, .ref a3])), (a1, .inr (7, [.ref a2, .ref a7, .ref a8, .ref a9, .ref a10, .ref a11, .long 0, .int 0, .int 0, .int 0, .int 0, .int 0, .int 0, .int 0, .int 0, .int 0]))] := hD
  refine W.widen (k := 0) (n := 0) (Nat.le_of_ble_eq_true rfl) (Nat.le_of_ble_eq_true rfl) ?_
  refine lv_if_eq (tgt := 35) hx hb dX8_link_19 (by decide) (fun _ => ?_) (fun c9 => absurd (by decide) c9)
  refine lv_aload_n hx hb dX8_link_35 rfl (lv_at hl 0 rfl) ?_
  refine va_get (D := D) (ci := 8) (v := .ref a1) (C := RX8) (T := TX8) (N := 7) hx hb hts iX8_link_8 hown hN.1 hP 1 rfl rfl 1 (by decide) (hts _ mX8_link_1) (fun _ h9 => h9) rfl dX8_link_36 ?_
  refine lv_iload_n hx hb dX8_link_39 rfl (lv_at hl 1 rfl) ?_
  refine lv_iload_n hx hb dX8_link_40 rfl (lv_at hl 2 rfl) ?_
  refine cv_i (As := [.int 0, .int 0]) (rest := []) (b := a1) (wr := [(a0, .inr (8, [.ref a4, .ref a1, .ref a5, .ref a6, .int 0, .int 0, .int (-1)]))]) ⟨hx, hb, hml, hown, hts⟩ (fun sz => k138_X7_delay l D cs sz a1 a2 a3 a7 a8 a9 a10 a11 a12 a13 a14) (cwV 2 hts gX8_link_X7_delay rfl rfl rfl hdX7_delay_v ⟨Nat.le_of_ble_eq_true rfl, Nat.le_of_ble_eq_true rfl⟩) hN hP hD hS hA [3, 2, 0] [1] rfl rfl rfl rfl (by decide) (ci := 7) (q0 := 0) rfl rfl rfl rfl hl.1 (Nat.le_of_ble_eq_true rfl) dX8_link_41 (Nat.le_of_ble_eq_true rfl) (Nat.le_of_ble_eq_true rfl) (fun u3 H locs hP hD hS => ?_)
  have hP : va_P D vwCl [(a0, .inr (8, [.ref a4, .ref a1, .ref a5, .ref a6, .int 0, .int 0, .int (-1)])), (a1, .inr (7, [.ref a2, .ref a7, .ref a8, .ref a9, .ref a10, .ref a11, .long 0, .int 0, .int 0, .int 0, .int 0, .int 0, .int 0, .int 0, .int 0, .int 0])), (a2, .inr (6, [.int 1, .int 1, .int 50, .null, .ref a12, .ref a13, .ref a14, .ref a3])), (a3, .inl (cs 0, 64, .inl (fun _ => 0)))] H := hP
  have hD : va_D A [(a0, .inr (8, [.ref a4, .ref a1, .ref a5, .ref a6, .int 0, .int 0, .int (-1)])), (a1, .inr (7, [.ref a2, .ref a7, .ref a8, .ref a9, .ref a10, .ref a11, .long 0, .int 0, .int 0, .int 0, .int 0, .int 0, .int 0, .int 0, .int 0, .int 0])), (a2, .inr (6, [.int 1, .int 1, .int 50, .null, .ref a12, .ref a13, .ref a14, .ref a3])), (a3, .inl (cs 0, 64, .inl (fun _ => 0)))] := hD
  refine W.widen (k := 0) (n := 0) (Nat.le_of_ble_eq_true rfl) (Nat.le_of_ble_eq_true rfl) ?_
  exact en_i (fun k => ([] : List Nat).getD k 0) hx hb hr hlocks rfl rfl hP hD hS (Nat.le_of_ble_eq_true rfl) (Nat.le_of_ble_eq_true rfl) dX8_link_44
theorem hdX8_link_v : yX8_link.cls = RX8 ∧ yX8_link.cls ≠ "java/lang/invoke/MethodHandle" ∧ yX8_link.cls ≠ "java/lang/invoke/VarHandle" ∧ (parseMethodDescriptor yX8_link.desc).map (fun d => d.parameters.length) = some 2 := by decide +kernel
set_option maxHeartbeats 4000000 in
set_option maxRecDepth 100000 in
theorem k278_L_link (l : Launch) (D : va_G) (cs : Nat → ClassId) (sz : Nat) (hlt : l.stackTraces = false) (a0 a1 a2 a3 a4 a5 a6 a7 a8 a9 a10 a11 a12 a13 a14 a15 : Nat) : KH l yL_link wsL_link 4 87 0 0 D cs sz [.ref a0, .int 0, .int 0, .ref a4] [(a0, .inr (8, [.ref a5, .ref a1, .ref a6, .ref a7, .int 0, .int 0, .int (-1)])), (a1, .inr (7, [.ref a2, .ref a8, .ref a9, .ref a10, .ref a11, .ref a12, .long 0, .int 0, .int 0, .int 0, .int 0, .int 0, .int 0, .int 0, .int 0, .int 0])), (a2, .inr (6, [.int 1, .int 1, .int 50, .null, .ref a13, .ref a14, .ref a15, .ref a3])), (a3, .inl (cs 0, 64, .inl (fun _ => 0))), (a4, .inl (cs 3, 1, .inr (.inl (fun _ => 0))))] (fun u => [(a4, .inl (cs 3, 1, .inr (.inl (fun _ => 0)))), (a0, .inr (8, [.ref a5, .ref a1, .ref a6, .ref a7, .int 0, .int 0, .int (-1)])), (a1, .inr (7, [.ref a2, .ref a8, .ref a9, .ref a10, .ref a11, .ref a12, .long 0, .int 0, .int 0, .int 0, .int 0, .int 0, .int 0, .int 0, .int 0, .int 0])), (a2, .inr (6, [.int 1, .int 1, .int 50, .null, .ref a13, .ref a14, .ref a15, .ref a3])), (a3, .inl (cs 0, 64, .inl (fun _ => 0)))]) (0) := by
  refine KH.of cL_link 5 (some .int) (by decide) rfl (Nat.le_of_ble_eq_true rfl) ?_
  intro p e s m below meth c A ls hx hb hr hml hown hts hlocks htab hP hN hD hA hS hl hZ
  have hown : s.vm.findClass RL = some m.cls := hown
  have hl : lv_has ls 5 [(0, .ref a0), (1, .int 0), (2, .int 0), (3, .ref a4)] := hl
  refine lv_aload_n hx hb dL_link_0 rfl (lv_at hl 3 rfl) ?_
  refine lv_iconst (v := 0) hx hb dL_link_1 (by decide) ?_
  refine lv_aload_n hx hb dL_link_2 rfl (lv_at hl 0 rfl) ?_
  refine lv_iload_n hx hb dL_link_3 rfl (lv_at hl 1 rfl) ?_
  refine lv_iload_n hx hb dL_link_4 rfl (lv_at hl 2 rfl) ?_
  refine cv_i (As := [.int 0, .int 0]) (rest := [.int 0, .ref a4]) (b := a0) (wr := [(a4, .inl (cs 3, 1, .inr (.inl (fun _ => 0))))]) ⟨hx, hb, hml, hown, hts⟩ (fun sz => k277_X8_link l D cs sz a0 a1 a2 a3 a5 a6 a7 a8 a9 a10 a11 a12 a13 a14 a15) (cwV 2 hts gL_link_X8_link rfl rfl rfl hdX8_link_v ⟨Nat.le_of_ble_eq_true rfl, Nat.le_of_ble_eq_true rfl⟩) hN hP hD hS hA [0, 1, 2, 3] [4] rfl rfl rfl rfl (by decide) (ci := 8) (q0 := 0) rfl rfl rfl rfl hl.1 (Nat.le_of_ble_eq_true rfl) dL_link_5 (Nat.le_of_ble_eq_true rfl) (Nat.le_of_ble_eq_true rfl) (fun u0 H locs hP hD hS => ?_)
  have hP : va_P D vwCl [(a4, .inl (cs 3, 1, .inr (.inl (fun _ => 0)))), (a0, .inr (8, [.ref a5, .ref a1, .ref a6, .ref a7, .int 0, .int 0, .int (-1)])), (a1, .inr (7, [.ref a2, .ref a8, .ref a9, .ref a10, .ref a11, .ref a12, .long 0, .int 0, .int 0, .int 0, .int 0, .int 0, .int 0, .int 0, .int 0, .int 0])), (a2, .inr (6, [.int 1, .int 1, .int 50, .null, .ref a13, .ref a14, .ref a15, .ref a3])), (a3, .inl (cs 0, 64, .inl (fun _ => 0)))] H := hP
  have hD : va_D A [(a4, .inl (cs 3, 1, .inr (.inl (fun _ => 0)))), (a0, .inr (8, [.ref a5, .ref a1, .ref a6, .ref a7, .int 0, .int 0, .int (-1)])), (a1, .inr (7, [.ref a2, .ref a8, .ref a9, .ref a10, .ref a11, .ref a12, .long 0, .int 0, .int 0, .int 0, .int 0, .int 0, .int 0, .int 0, .int 0, .int 0])), (a2, .inr (6, [.int 1, .int 1, .int 50, .null, .ref a13, .ref a14, .ref a15, .ref a3])), (a3, .inl (cs 0, 64, .inl (fun _ => 0)))] := hD
  refine W.widen (k := 0) (n := 0) (Nat.le_of_ble_eq_true rfl) (Nat.le_of_ble_eq_true rfl) ?_
  refine lv_i2l (v := 0) hx hb dL_link_8 (by decide) ?_
  refine st_l (g := (fun _ => 0)) hx hb hN hP hD hS 0 rfl (vin (by decide +kernel)) (funext (fun j9 => by unfold vp_updL; split <;> rename_i h9 <;> first | rfl | (subst h9; rfl))) dL_link_9 (fun H locs hP hD hS => ?_)
  have hP : va_P D vwCl [(a4, .inl (cs 3, 1, .inr (.inl (fun _ => 0)))), (a0, .inr (8, [.ref a5, .ref a1, .ref a6, .ref a7, .int 0, .int 0, .int (-1)])), (a1, .inr (7, [.ref a2, .ref a8, .ref a9, .ref a10, .ref a11, .ref a12, .long 0, .int 0, .int 0, .int 0, .int 0, .int 0, .int 0, .int 0, .int 0, .int 0])), (a2, .inr (6, [.int 1, .int 1, .int 50, .null, .ref a13, .ref a14, .ref a15, .ref a3])), (a3, .inl (cs 0, 64, .inl (fun _ => 0)))] H := hP
  have hD : va_D A [(a4, .inl (cs 3, 1, .inr (.inl (fun _ => 0)))), (a0, .inr (8, [.ref a5, .ref a1, .ref a6, .ref a7, .int 0, .int 0, .int (-1)])), (a1, .inr (7, [.ref a2, .ref a8, .ref a9, .ref a10, .ref a11, .ref a12, .long 0, .int 0, .int 0, .int 0, .int 0, .int 0, .int 0, .int 0, .int 0, .int 0])), (a2, .inr (6, [.int 1, .int 1, .int 50, .null, .ref a13, .ref a14, .ref a15, .ref a3])), (a3, .inl (cs 0, 64, .inl (fun _ => 0)))] := hD
  refine lv_goto (tgt := 17) hx hb dL_link_10 (by decide) ?_
  refine lv_iconst (v := 0) hx hb dL_link_17 (by decide) ?_
  exact en_i (fun k => ([] : List Nat).getD k 0) hx hb hr hlocks rfl rfl hP hD hS (Nat.le_of_ble_eq_true rfl) (Nat.le_of_ble_eq_true rfl) dL_link_18
theorem mX9_link_1 : (.fieldLink RX9 40 "OneBeatModel" "thrown" "I" : Cond) ∈ wsX9_link := List.mem_of_getElem? (i := 1) (by decide +kernel)
theorem iX9_link_9 : ∀ w ∈ wsX90, w ∈ wsX9_link := fun w h => List.mem_of_mem_drop (List.mem_of_mem_take ((show wsX90 = (wsX9_link.drop 18).take 18 by decide +kernel) ▸ h))
theorem mX9_link_2 : (.fieldLink RX9 18 "OneBeatModel" "data" "[I" : Cond) ∈ wsX9_link := List.mem_of_getElem? (i := 2) (by decide +kernel)
set_option maxHeartbeats 4000000 in
set_option maxRecDepth 100000 in
theorem k279_X9_linkAt (l : Launch) (D : va_G) (cs : Nat → ClassId) (sz : Nat) : KI l yX9_linkAt wsX9_linkAt 0 0 0 0 D cs sz [.int 0, .int 0] [] (fun u => []) (119) := by
  refine KI.of cX9_linkAt 2 (some .int) (by decide) rfl (Nat.le_of_ble_eq_true rfl) ?_
  intro p e s m below meth c A ls hx hb hr hml hown hts hlocks hin hP hN hD hA hS hl
  have hown : s.vm.findClass RX9 = some m.cls := hown
  have hl : lv_has ls 2 [(0, .int 0), (1, .int 0)] := hl
  refine lv_bipush (v := 119) hx hb dX9_linkAt_0 (by decide) ?_
  refine lv_bipush (v := 8) hx hb dX9_linkAt_2 (by decide) ?_
  refine lv_iload_n hx hb dX9_linkAt_4 rfl (lv_at hl 0 rfl) ?_
  refine lv_imul hx hb dX9_linkAt_5 ?_
  refine tp_i (0) (by decide) ?_
  refine lv_iadd hx hb dX9_linkAt_6 ?_
  refine tp_i (119) (by decide) ?_
  refine lv_iload_n hx hb dX9_linkAt_7 rfl (lv_at hl 1 rfl) ?_
  refine lv_iadd hx hb dX9_linkAt_8 ?_
  refine tp_i (119) (by decide) ?_
  exact en_i (fun k => ([] : List Nat).getD k 0) hx hb hr hlocks rfl rfl hP hD hS (Nat.le_of_ble_eq_true rfl) (Nat.le_of_ble_eq_true rfl) dX9_linkAt_9
theorem hdX9_linkAt_o : yX9_linkAt.cls ≠ "java/lang/invoke/MethodHandle" ∧ yX9_linkAt.cls ≠ "java/lang/invoke/VarHandle" ∧ (parseMethodDescriptor yX9_linkAt.desc).map (fun d => d.parameters.length) = some 2 := by decide +kernel
set_option maxHeartbeats 4000000 in
set_option maxRecDepth 100000 in
theorem k280_X9_link (l : Launch) (D : va_G) (cs : Nat → ClassId) (sz : Nat) (a0 a1 a2 a3 a4 a5 a6 : Nat) : KI l yX9_link wsX9_link 2 43 0 0 D cs sz [.ref a0, .int 0, .int 0] [(a0, .inr (9, [.int 0, .ref a2, .int 0, .int 0, .int 0, .int 0, .int 0, .int (-1), .ref a1, .ref a3, .ref a4, .ref a5, .int 0, .int 0, .int 0, .int 0, .int 0, .ref a6])), (a1, .inl (cs 0, 45783, .inl (layF (fun _ => 0) 1)))] (fun u => [(a1, .inl (cs 0, 45783, .inl (layF (fun _ => 0) 1))), (a0, .inr (9, [.int 0, .ref a2, .int 0, .int 0, .int 0, .int 0, .int 0, .int (-1), .ref a1, .ref a3, .ref a4, .ref a5, .int 0, .int 0, .int 0, .int 0, .int 0, .ref a6]))]) (0) := by
  refine KI.of cX9_link 3 (some .int) (by decide) rfl (Nat.le_of_ble_eq_true rfl) ?_
  intro p e s m below meth c A ls hx hb hr hml hown hts hlocks hin hP hN hD hA hS hl
  have hown : s.vm.findClass RX9 = some m.cls := hown
  have hl : lv_has ls 3 [(0, .ref a0), (1, .int 0), (2, .int 0)] := hl
  refine lv_aload_n hx hb dX9_link_0 rfl (lv_at hl 0 rfl) ?_
  refine lv_iconst (v := 0) hx hb dX9_link_1 (by decide) ?_
  refine va_put (D := D) (ci := 9) (v := .int 0) (ty := .int) (C := RX9) (T := TX9) (N := 18) hx hb hts iX9_link_9 tyX9 tyX9_ok nmX9 hown hN.1 hP hD hS 0 rfl rfl 0 (by decide) (hts _ mX9_link_1) (fun _ h9 => h9) rfl (by decide +kernel) rfl rfl (Nat.le_of_ble_eq_true rfl) dX9_link_2 (fun H locs hP hD hS => ?_)
  have hP : va_P D vwCl [(a0, .inr (9, [.int 0, .ref a2, .int 0, .int 0, .int 0, .int 0, .int 0, .int (-1), .ref a1, .ref a3, .ref a4, .ref a5, .int 0, .int 0, .int 0, .int 0, .int 0, .ref a6])), (a1, .inl (cs 0, 45783, .inl (layF (fun _ => 0) 1)))] H := hP
  have hD : va_D A [(a0, .inr (9, [.int 0, .ref a2, .int 0, .int 0, .int 0, .int 0, .int 0, .int (-1), .ref a1, .ref a3, .ref a4, .ref a5, .int 0, .int 0, .int 0, .int 0, .int 0, .ref a6])), (a1, .inl (cs 0, 45783, .inl (layF (fun _ => 0) 1)))] := hD
  refine lv_aload_n hx hb dX9_link_5 rfl (lv_at hl 0 rfl) ?_
  refine lv_iload_n hx hb dX9_link_6 rfl (lv_at hl 1 rfl) ?_
  refine cv_i (As := [.int 0]) (rest := []) (b := a0) (wr := []) ⟨hx, hb, hml, hown, hts⟩ (fun sz => k170_X9_noPlayer l D cs sz a0 a1 a2 a3 a4 a5 a6) (cwV 1 hts gX9_link_X9_noPlayer rfl rfl rfl hdX9_noPlayer_v ⟨Nat.le_of_ble_eq_true rfl, Nat.le_of_ble_eq_true rfl⟩) hN hP hD hS hA [0, 1] [] rfl rfl rfl rfl (by decide) (ci := 9) (q0 := 0) rfl rfl rfl rfl hl.1 (Nat.le_of_ble_eq_true rfl) dX9_link_7 (Nat.le_of_ble_eq_true rfl) (Nat.le_of_ble_eq_true rfl) (fun u0 H locs hP hD hS => ?_)
  have hP : va_P D vwCl [(a1, .inl (cs 0, 45783, .inl (layF (fun _ => 0) 1))), (a0, .inr (9, [.int 0, .ref a2, .int 0, .int 0, .int 0, .int 0, .int 0, .int (-1), .ref a1, .ref a3, .ref a4, .ref a5, .int 0, .int 0, .int 0, .int 0, .int 0, .ref a6]))] H := hP
  have hD : va_D A [(a1, .inl (cs 0, 45783, .inl (layF (fun _ => 0) 1))), (a0, .inr (9, [.int 0, .ref a2, .int 0, .int 0, .int 0, .int 0, .int 0, .int (-1), .ref a1, .ref a3, .ref a4, .ref a5, .int 0, .int 0, .int 0, .int 0, .int 0, .ref a6]))] := hD
  refine W.widen (k := 0) (n := 0) (Nat.le_of_ble_eq_true rfl) (Nat.le_of_ble_eq_true rfl) ?_
  refine lv_if_ne (tgt := 21) hx hb dX9_link_10 (by decide) (fun c9 => absurd (by decide) c9) (fun _ => ?_)
  refine lv_aload_n hx hb dX9_link_13 rfl (lv_at hl 0 rfl) ?_
  refine lv_iload_n hx hb dX9_link_14 rfl (lv_at hl 2 rfl) ?_
  refine cv_i (As := [.int 0]) (rest := []) (b := a0) (wr := []) ⟨hx, hb, hml, hown, hts⟩ (fun sz => k170_X9_noPlayer l D cs sz a0 a1 a2 a3 a4 a5 a6) (cwV 1 hts gX9_link_X9_noPlayer rfl rfl rfl hdX9_noPlayer_v ⟨Nat.le_of_ble_eq_true rfl, Nat.le_of_ble_eq_true rfl⟩) hN hP hD hS hA [1, 0] [] rfl rfl rfl rfl (by decide) (ci := 9) (q0 := 0) rfl rfl rfl rfl hl.1 (Nat.le_of_ble_eq_true rfl) dX9_link_15 (Nat.le_of_ble_eq_true rfl) (Nat.le_of_ble_eq_true rfl) (fun u1 H locs hP hD hS => ?_)
  have hP : va_P D vwCl [(a1, .inl (cs 0, 45783, .inl (layF (fun _ => 0) 1))), (a0, .inr (9, [.int 0, .ref a2, .int 0, .int 0, .int 0, .int 0, .int 0, .int (-1), .ref a1, .ref a3, .ref a4, .ref a5, .int 0, .int 0, .int 0, .int 0, .int 0, .ref a6]))] H := hP
  have hD : va_D A [(a1, .inl (cs 0, 45783, .inl (layF (fun _ => 0) 1))), (a0, .inr (9, [.int 0, .ref a2, .int 0, .int 0, .int 0, .int 0, .int 0, .int (-1), .ref a1, .ref a3, .ref a4, .ref a5, .int 0, .int 0, .int 0, .int 0, .int 0, .ref a6]))] := hD
  refine W.widen (k := 0) (n := 0) (Nat.le_of_ble_eq_true rfl) (Nat.le_of_ble_eq_true rfl) ?_
  refine lv_if_eq (tgt := 25) hx hb dX9_link_18 (by decide) (fun _ => ?_) (fun c9 => absurd (by decide) c9)
  refine lv_aload_n hx hb dX9_link_25 rfl (lv_at hl 0 rfl) ?_
  refine va_get (D := D) (ci := 9) (v := .ref a1) (C := RX9) (T := TX9) (N := 18) hx hb hts iX9_link_9 hown hN.1 hP 1 rfl rfl 8 (by decide) (hts _ mX9_link_2) (fun _ h9 => h9) rfl dX9_link_26 ?_
  refine lv_iload_n hx hb dX9_link_29 rfl (lv_at hl 1 rfl) ?_
  refine lv_iload_n hx hb dX9_link_30 rfl (lv_at hl 2 rfl) ?_
  refine cs_i (As := [.int 0, .int 0]) (rest := [.ref a1]) (wr := [(a1, .inl (cs 0, 45783, .inl (layF (fun _ => 0) 1))), (a0, .inr (9, [.int 0, .ref a2, .int 0, .int 0, .int 0, .int 0, .int 0, .int (-1), .ref a1, .ref a3, .ref a4, .ref a5, .int 0, .int 0, .int 0, .int 0, .int 0, .ref a6]))]) ⟨hx, hb, hml, hown, hts⟩ (fun sz => k279_X9_linkAt l D cs sz ) (va_cwS 2 hts gX9_link_X9_linkAt rfl rfl rfl hdX9_linkAt_o ⟨Nat.le_of_ble_eq_true rfl, Nat.le_of_ble_eq_true rfl⟩) hN hP hD hS hA [] [0, 1] rfl rfl rfl rfl (by decide) rfl rfl hl.1 (Nat.le_of_ble_eq_true rfl) dX9_link_31 (Nat.le_of_ble_eq_true rfl) (Nat.le_of_ble_eq_true rfl) (fun u2 H locs hP hD hS => ?_)
  have hP : va_P D vwCl [(a1, .inl (cs 0, 45783, .inl (layF (fun _ => 0) 1))), (a0, .inr (9, [.int 0, .ref a2, .int 0, .int 0, .int 0, .int 0, .int 0, .int (-1), .ref a1, .ref a3, .ref a4, .ref a5, .int 0, .int 0, .int 0, .int 0, .int 0, .ref a6]))] H := hP
  have hD : va_D A [(a1, .inl (cs 0, 45783, .inl (layF (fun _ => 0) 1))), (a0, .inr (9, [.int 0, .ref a2, .int 0, .int 0, .int 0, .int 0, .int 0, .int (-1), .ref a1, .ref a3, .ref a4, .ref a5, .int 0, .int 0, .int 0, .int 0, .int 0, .ref a6]))] := hD
  refine W.widen (k := 0) (n := 0) (Nat.le_of_ble_eq_true rfl) (Nat.le_of_ble_eq_true rfl) ?_
  refine ld_i (v := 0) hx hb hN hP 0 rfl (vin (by decide +kernel)) (by first | rfl | decide +kernel) dX9_link_34 ?_
  exact en_i (fun k => ([] : List Nat).getD k 0) hx hb hr hlocks rfl rfl hP hD hS (Nat.le_of_ble_eq_true rfl) (Nat.le_of_ble_eq_true rfl) dX9_link_35
theorem hdL_link_o : yL_link.cls ≠ "java/lang/invoke/MethodHandle" ∧ yL_link.cls ≠ "java/lang/invoke/VarHandle" ∧ (parseMethodDescriptor yL_link.desc).map (fun d => d.parameters.length) = some 4 := by decide +kernel
theorem hdX9_link_v : yX9_link.cls = RX9 ∧ yX9_link.cls ≠ "java/lang/invoke/MethodHandle" ∧ yX9_link.cls ≠ "java/lang/invoke/VarHandle" ∧ (parseMethodDescriptor yX9_link.desc).map (fun d => d.parameters.length) = some 2 := by decide +kernel
set_option maxHeartbeats 4000000 in
set_option maxRecDepth 100000 in
theorem law_5_0 {p : Program} {l : Launch} {e : Env} {s : State} {m : MethodId} {args : Array Value} {below : List Frame} {meth : Method} {c : Code} {Q : State → Prop} {D : va_G} {cs : Nat → ClassId} {A : Nat → Prop} {xs : Nat → Int32} {b : Nat} (hx : p.tables.exec = Jvm.exec) (hb : c.code = cL_law) (hml : c.maxLocals = 9) (hown : s.vm.findClass RL = some m.cls) (hts : ∀ w ∈ wsL_law, w.before args s = true) (hN : NK D cs s) (hX : va_X b 6 xs s s.heap) (hbl : b < s.heap.size) (hbA : ¬ A b) (hA : ∀ q : Nat, s.heap.size ≤ q → A q) (hZ : ZX A s s.heap) (hZS : ZS cs A s s.heap) (hlt : l.stackTraces = false)
    (kend : ∀ (H : Heap) (locs : List Loc) (ls : Array Slot), va_S A s.heap H locs → lv_has ls 9 [(0, .ref b), (4, .int 0)] → W p l e room_1 s m args below meth c H locs 600002 7302232 Q (F0 m 1169 ls []))
    (a0 a1 a2 a3 a4 a5 a6 a7 a8 a9 a10 a11 a12 a13 a14 a15 a16 a17 a18 a19 a20 a21 a22 : Nat) (hy1 : xs 1 = (0)) (hy2 : xs 2 = (0))  (H : Heap) (locs : List Loc) (ls : Array Slot) (hP : va_P D vwCl [(a0, .inr (8, [.ref a7, .ref a3, .ref a8, .ref a9, .int 0, .int 0, .int (-1)])), (a1, .inl (cs 0, 64, .inl (fun _ => 0))), (a2, .inr (6, [.int 1, .int 1, .int 50, .null, .ref a10, .ref a11, .ref a12, .ref a1])), (a3, .inr (7, [.ref a2, .ref a13, .ref a14, .ref a15, .ref a16, .ref a17, .long 0, .int 0, .int 0, .int 0, .int 0, .int 0, .int 0, .int 0, .int 0, .int 0])), (a4, .inr (9, [.int 0, .ref a18, .int 0, .int 0, .int 0, .int 0, .int 0, .int (-1), .ref a5, .ref a19, .ref a20, .ref a21, .int 0, .int 0, .int 0, .int 0, .int 0, .ref a22])), (a5, .inl (cs 0, 45783, .inl (layF (fun _ => 0) 1))), (a6, .inl (cs 3, 1, .inr (.inl (fun _ => 0))))] H) (hD : va_D A [(a0, .inr (8, [.ref a7, .ref a3, .ref a8, .ref a9, .int 0, .int 0, .int (-1)])), (a1, .inl (cs 0, 64, .inl (fun _ => 0))), (a2, .inr (6, [.int 1, .int 1, .int 50, .null, .ref a10, .ref a11, .ref a12, .ref a1])), (a3, .inr (7, [.ref a2, .ref a13, .ref a14, .ref a15, .ref a16, .ref a17, .long 0, .int 0, .int 0, .int 0, .int 0, .int 0, .int 0, .int 0, .int 0, .int 0])), (a4, .inr (9, [.int 0, .ref a18, .int 0, .int 0, .int 0, .int 0, .int 0, .int (-1), .ref a5, .ref a19, .ref a20, .ref a21, .int 0, .int 0, .int 0, .int 0, .int 0, .ref a22])), (a5, .inl (cs 0, 45783, .inl (layF (fun _ => 0) 1))), (a6, .inl (cs 3, 1, .inr (.inl (fun _ => 0))))]) (hS : va_S A s.heap H locs) (hl : lv_has ls 9 [(4, .int 0), (3, .ref a6), (2, .ref a4), (1, .ref a0), (0, .ref b)]) : W p l e room_1 s m args below meth c H locs 391 467079 Q (F0 m 402 ls []) := by
  refine lv_aload_n hx hb dL_law_402 rfl (lv_at hl 3 rfl) ?_
  refine lv_aload_n hx hb dL_law_403 rfl (lv_at hl 4 rfl) ?_
  refine lv_iload hx hb dL_law_404 (lv_at hl 0 rfl) ?_
  refine lv_iconst (v := 1) hx hb dL_law_406 (by decide) ?_
  refine lv_iadd hx hb dL_law_407 ?_
  refine tp_i (1) (by decide) ?_
  refine va_sld hx hb hX hbl hbA hS (vin (by decide +kernel)) dL_law_408 ?_
  refine tp_i (0) hy1 ?_
  refine lv_aload_n hx hb dL_law_409 rfl (lv_at hl 4 rfl) ?_
  refine lv_iload hx hb dL_law_410 (lv_at hl 0 rfl) ?_
  refine lv_iconst (v := 2) hx hb dL_law_412 (by decide) ?_
  refine lv_iadd hx hb dL_law_413 ?_
  refine tp_i (2) (by decide) ?_
  refine va_sld hx hb hX hbl hbA hS (vin (by decide +kernel)) dL_law_414 ?_
  refine tp_i (0) hy2 ?_
  refine lv_aload_n hx hb dL_law_415 rfl (lv_at hl 1 rfl) ?_
  refine ch_i (As := [.ref a0, .int 0, .int 0, .ref a6]) (rest := []) (wr := [(a4, .inr (9, [.int 0, .ref a18, .int 0, .int 0, .int 0, .int 0, .int 0, .int (-1), .ref a5, .ref a19, .ref a20, .ref a21, .int 0, .int 0, .int 0, .int 0, .int 0, .ref a22])), (a5, .inl (cs 0, 45783, .inl (layF (fun _ => 0) 1)))]) ⟨hx, hb, hml, hown, hts⟩ (fun sz => k278_L_link l D cs sz hlt a0 a3 a2 a1 a6 a7 a8 a9 a13 a14 a15 a16 a17 a10 a11 a12) (vx_cwSW 4 hts gL_law_L_link rfl rfl rfl hdL_link_o ⟨Nat.le_of_ble_eq_true rfl, Nat.le_of_ble_eq_true rfl⟩) hN hP hD hS hA hZ [0, 3, 2, 1, 6] [4, 5] rfl rfl rfl rfl (by decide) rfl rfl hl.1 (Nat.le_of_ble_eq_true rfl) dL_law_416 (Nat.le_of_ble_eq_true rfl) (Nat.le_of_ble_eq_true rfl) (fun u0 H locs hP hD hS => ?_)
  have hP : va_P D vwCl [(a4, .inr (9, [.int 0, .ref a18, .int 0, .int 0, .int 0, .int 0, .int 0, .int (-1), .ref a5, .ref a19, .ref a20, .ref a21, .int 0, .int 0, .int 0, .int 0, .int 0, .ref a22])), (a5, .inl (cs 0, 45783, .inl (layF (fun _ => 0) 1))), (a6, .inl (cs 3, 1, .inr (.inl (fun _ => 0)))), (a0, .inr (8, [.ref a7, .ref a3, .ref a8, .ref a9, .int 0, .int 0, .int (-1)])), (a3, .inr (7, [.ref a2, .ref a13, .ref a14, .ref a15, .ref a16, .ref a17, .long 0, .int 0, .int 0, .int 0, .int 0, .int 0, .int 0, .int 0, .int 0, .int 0])), (a2, .inr (6, [.int 1, .int 1, .int 50, .null, .ref a10, .ref a11, .ref a12, .ref a1])), (a1, .inl (cs 0, 64, .inl (fun _ => 0)))] H := hP
  have hD : va_D A [(a4, .inr (9, [.int 0, .ref a18, .int 0, .int 0, .int 0, .int 0, .int 0, .int (-1), .ref a5, .ref a19, .ref a20, .ref a21, .int 0, .int 0, .int 0, .int 0, .int 0, .ref a22])), (a5, .inl (cs 0, 45783, .inl (layF (fun _ => 0) 1))), (a6, .inl (cs 3, 1, .inr (.inl (fun _ => 0)))), (a0, .inr (8, [.ref a7, .ref a3, .ref a8, .ref a9, .int 0, .int 0, .int (-1)])), (a3, .inr (7, [.ref a2, .ref a13, .ref a14, .ref a15, .ref a16, .ref a17, .long 0, .int 0, .int 0, .int 0, .int 0, .int 0, .int 0, .int 0, .int 0, .int 0])), (a2, .inr (6, [.int 1, .int 1, .int 50, .null, .ref a10, .ref a11, .ref a12, .ref a1])), (a1, .inl (cs 0, 64, .inl (fun _ => 0)))] := hD
  refine W.widen (k := 391) (n := 467079) (Nat.le_of_ble_eq_true rfl) (Nat.le_of_ble_eq_true rfl) ?_
  refine lv_istore (lv' := [(5, .int 0), (4, .int 0), (3, .ref a6), (2, .ref a4), (1, .ref a0), (0, .ref b)]) hx hb dL_law_419 hl (by decide) rfl (fun ls hl => ?_)
  refine lv_aload_n hx hb dL_law_421 rfl (lv_at hl 3 rfl) ?_
  refine lv_aload_n hx hb dL_law_422 rfl (lv_at hl 5 rfl) ?_
  refine lv_iload hx hb dL_law_423 (lv_at hl 1 rfl) ?_
  refine lv_iconst (v := 1) hx hb dL_law_425 (by decide) ?_
  refine lv_iadd hx hb dL_law_426 ?_
  refine tp_i (1) (by decide) ?_
  refine va_sld hx hb hX hbl hbA hS (vin (by decide +kernel)) dL_law_427 ?_
  refine tp_i (0) hy1 ?_
  refine lv_aload_n hx hb dL_law_428 rfl (lv_at hl 5 rfl) ?_
  refine lv_iload hx hb dL_law_429 (lv_at hl 1 rfl) ?_
  refine lv_iconst (v := 2) hx hb dL_law_431 (by decide) ?_
  refine lv_iadd hx hb dL_law_432 ?_
  refine tp_i (2) (by decide) ?_
  refine va_sld hx hb hX hbl hbA hS (vin (by decide +kernel)) dL_law_433 ?_
  refine tp_i (0) hy2 ?_
  refine cv_i (As := [.int 0, .int 0]) (rest := []) (b := a4) (wr := [(a6, .inl (cs 3, 1, .inr (.inl (fun _ => 0)))), (a0, .inr (8, [.ref a7, .ref a3, .ref a8, .ref a9, .int 0, .int 0, .int (-1)])), (a3, .inr (7, [.ref a2, .ref a13, .ref a14, .ref a15, .ref a16, .ref a17, .long 0, .int 0, .int 0, .int 0, .int 0, .int 0, .int 0, .int 0, .int 0, .int 0])), (a2, .inr (6, [.int 1, .int 1, .int 50, .null, .ref a10, .ref a11, .ref a12, .ref a1])), (a1, .inl (cs 0, 64, .inl (fun _ => 0)))]) ⟨hx, hb, hml, hown, hts⟩ (fun sz => k280_X9_link l D cs sz a4 a5 a18 a19 a20 a21 a22) (cwV 2 hts gL_law_X9_link rfl rfl rfl hdX9_link_v ⟨Nat.le_of_ble_eq_true rfl, Nat.le_of_ble_eq_true rfl⟩) hN hP hD hS hA [0, 1] [2, 3, 4, 5, 6] rfl rfl rfl rfl (by decide) (ci := 9) (q0 := 0) rfl rfl rfl rfl hl.1 (Nat.le_of_ble_eq_true rfl) dL_law_434 (Nat.le_of_ble_eq_true rfl) (Nat.le_of_ble_eq_true rfl) (fun u1 H locs hP hD hS => ?_)
  have hP : va_P D vwCl [(a6, .inl (cs 3, 1, .inr (.inl (fun _ => 0)))), (a0, .inr (8, [.ref a7, .ref a3, .ref a8, .ref a9, .int 0, .int 0, .int (-1)])), (a3, .inr (7, [.ref a2, .ref a13, .ref a14, .ref a15, .ref a16, .ref a17, .long 0, .int 0, .int 0, .int 0, .int 0, .int 0, .int 0, .int 0, .int 0, .int 0])), (a2, .inr (6, [.int 1, .int 1, .int 50, .null, .ref a10, .ref a11, .ref a12, .ref a1])), (a1, .inl (cs 0, 64, .inl (fun _ => 0))), (a5, .inl (cs 0, 45783, .inl (layF (fun _ => 0) 1))), (a4, .inr (9, [.int 0, .ref a18, .int 0, .int 0, .int 0, .int 0, .int 0, .int (-1), .ref a5, .ref a19, .ref a20, .ref a21, .int 0, .int 0, .int 0, .int 0, .int 0, .ref a22]))] H := hP
  have hD : va_D A [(a6, .inl (cs 3, 1, .inr (.inl (fun _ => 0)))), (a0, .inr (8, [.ref a7, .ref a3, .ref a8, .ref a9, .int 0, .int 0, .int (-1)])), (a3, .inr (7, [.ref a2, .ref a13, .ref a14, .ref a15, .ref a16, .ref a17, .long 0, .int 0, .int 0, .int 0, .int 0, .int 0, .int 0, .int 0, .int 0, .int 0])), (a2, .inr (6, [.int 1, .int 1, .int 50, .null, .ref a10, .ref a11, .ref a12, .ref a1])), (a1, .inl (cs 0, 64, .inl (fun _ => 0))), (a5, .inl (cs 0, 45783, .inl (layF (fun _ => 0) 1))), (a4, .inr (9, [.int 0, .ref a18, .int 0, .int 0, .int 0, .int 0, .int 0, .int (-1), .ref a5, .ref a19, .ref a20, .ref a21, .int 0, .int 0, .int 0, .int 0, .int 0, .ref a22]))] := hD
  refine W.widen (k := 391) (n := 467079) (Nat.le_of_ble_eq_true rfl) (Nat.le_of_ble_eq_true rfl) ?_
  refine lv_istore (lv' := [(6, .int 0), (5, .int 0), (4, .int 0), (3, .ref a6), (2, .ref a4), (1, .ref a0), (0, .ref b)]) hx hb dL_law_437 hl (by decide) rfl (fun ls hl => ?_)
  refine lv_aload_n hx hb dL_law_439 rfl (lv_at hl 4 rfl) ?_
  refine cv_i (As := []) (rest := []) (b := a4) (wr := [(a6, .inl (cs 3, 1, .inr (.inl (fun _ => 0)))), (a0, .inr (8, [.ref a7, .ref a3, .ref a8, .ref a9, .int 0, .int 0, .int (-1)])), (a3, .inr (7, [.ref a2, .ref a13, .ref a14, .ref a15, .ref a16, .ref a17, .long 0, .int 0, .int 0, .int 0, .int 0, .int 0, .int 0, .int 0, .int 0, .int 0])), (a2, .inr (6, [.int 1, .int 1, .int 50, .null, .ref a10, .ref a11, .ref a12, .ref a1])), (a1, .inl (cs 0, 64, .inl (fun _ => 0))), (a5, .inl (cs 0, 45783, .inl (layF (fun _ => 0) 1)))]) ⟨hx, hb, hml, hown, hts⟩ (fun sz => k50_X9_thrown l D cs sz a4 a18 a5 a19 a20 a21 a22) (cwV 0 hts gL_law_X9_thrown rfl rfl rfl hdX9_thrown_v ⟨Nat.le_of_ble_eq_true rfl, Nat.le_of_ble_eq_true rfl⟩) hN hP hD hS hA [6] [0, 1, 2, 3, 4, 5] rfl rfl rfl rfl (by decide) (ci := 9) (q0 := 0) rfl rfl rfl rfl hl.1 (Nat.le_of_ble_eq_true rfl) dL_law_440 (Nat.le_of_ble_eq_true rfl) (Nat.le_of_ble_eq_true rfl) (fun u2 H locs hP hD hS => ?_)
  have hP : va_P D vwCl [(a6, .inl (cs 3, 1, .inr (.inl (fun _ => 0)))), (a0, .inr (8, [.ref a7, .ref a3, .ref a8, .ref a9, .int 0, .int 0, .int (-1)])), (a3, .inr (7, [.ref a2, .ref a13, .ref a14, .ref a15, .ref a16, .ref a17, .long 0, .int 0, .int 0, .int 0, .int 0, .int 0, .int 0, .int 0, .int 0, .int 0])), (a2, .inr (6, [.int 1, .int 1, .int 50, .null, .ref a10, .ref a11, .ref a12, .ref a1])), (a1, .inl (cs 0, 64, .inl (fun _ => 0))), (a5, .inl (cs 0, 45783, .inl (layF (fun _ => 0) 1))), (a4, .inr (9, [.int 0, .ref a18, .int 0, .int 0, .int 0, .int 0, .int 0, .int (-1), .ref a5, .ref a19, .ref a20, .ref a21, .int 0, .int 0, .int 0, .int 0, .int 0, .ref a22]))] H := hP
  have hD : va_D A [(a6, .inl (cs 3, 1, .inr (.inl (fun _ => 0)))), (a0, .inr (8, [.ref a7, .ref a3, .ref a8, .ref a9, .int 0, .int 0, .int (-1)])), (a3, .inr (7, [.ref a2, .ref a13, .ref a14, .ref a15, .ref a16, .ref a17, .long 0, .int 0, .int 0, .int 0, .int 0, .int 0, .int 0, .int 0, .int 0, .int 0])), (a2, .inr (6, [.int 1, .int 1, .int 50, .null, .ref a10, .ref a11, .ref a12, .ref a1])), (a1, .inl (cs 0, 64, .inl (fun _ => 0))), (a5, .inl (cs 0, 45783, .inl (layF (fun _ => 0) 1))), (a4, .inr (9, [.int 0, .ref a18, .int 0, .int 0, .int 0, .int 0, .int 0, .int (-1), .ref a5, .ref a19, .ref a20, .ref a21, .int 0, .int 0, .int 0, .int 0, .int 0, .ref a22]))] := hD
  refine W.widen (k := 391) (n := 467079) (Nat.le_of_ble_eq_true rfl) (Nat.le_of_ble_eq_true rfl) ?_
  refine lv_iload hx hb dL_law_443 (lv_at hl 1 rfl) ?_
  refine lv_icmp_eq (tgt := 450) hx hb dL_law_445 (by decide) (fun _ => ?_) (fun c9 => absurd (by decide) c9)
  refine lv_iload hx hb dL_law_450 (lv_at hl 1 rfl) ?_
  refine lv_if_ne (tgt := 467) hx hb dL_law_452 (by decide) (fun c9 => absurd (by decide) c9) (fun _ => ?_)
  refine lv_aload_n hx hb dL_law_455 rfl (lv_at hl 3 rfl) ?_
  refine lv_iconst (v := 0) hx hb dL_law_456 (by decide) ?_
  refine ld_l (v := 0) hx hb hN hP 0 rfl (vin (by decide +kernel)) (by first | rfl | decide +kernel) dL_law_457 ?_
  refine lv_iload hx hb dL_law_458 (lv_at hl 0 rfl) ?_
  refine lv_i2l (v := 0) hx hb dL_law_460 (by decide) ?_
  refine W.lcmp hx hb dL_law_461 ?_
  refine tp_i (0) (by decide) ?_
  refine lv_if_eq (tgt := 467) hx hb dL_law_462 (by decide) (fun _ => ?_) (fun c9 => absurd (by decide) c9)
  refine lv_goto (tgt := 1169) hx hb dL_law_467 (by decide) ?_
  refine W.widen (k := 600002) (n := 7302232) (Nat.le_of_ble_eq_true rfl) (Nat.le_of_ble_eq_true rfl) ?_
  exact kend _ _ _ hS (lv_sub hl [6, 2] rfl)

set_option maxHeartbeats 4000000 in
set_option maxRecDepth 100000 in
theorem k281_X8_link (l : Launch) (D : va_G) (cs : Nat → ClassId) (sz : Nat) (hlt : l.stackTraces = false) (a0 a1 a2 a3 a4 a5 a6 a7 a8 a9 a10 a11 a12 a13 a14 : Nat) (x0 : Int32) (hf0 : x0 < 0) : KX l yX8_link wsX8_link 7 121 1 6 D cs sz [.ref a0, .int 0, .int x0] [(a0, .inr (8, [.ref a3, .ref a1, .ref a4, .ref a5, .int 0, .int 0, .int (-1)])), (a1, .inr (7, [.ref a2, .ref a6, .ref a7, .ref a8, .ref a9, .ref a10, .long 0, .int 0, .int 0, .int 0, .int 0, .int 0, .int 0, .int 0, .int 0, .int 0])), (a2, .inr (6, [.int 1, .int 1, .int 50, .null, .ref a11, .ref a12, .ref a13, .ref a14]))] QnI "java/lang/IndexOutOfBoundsException" := by
  refine KX.of cX8_link 3 (some .int) (by decide) rfl (Nat.le_of_ble_eq_true rfl) ?_
  intro p e s m below meth c A ls hx hb hr hml hown hts hlocks hnx hP hN hD hA hS hl hZ
  have hown : s.vm.findClass RX8 = some m.cls := hown
  have hl : lv_has ls 3 [(0, .ref a0), (1, .int 0), (2, .int x0)] := hl
  refine lv_aload_n hx hb dX8_link_0 rfl (lv_at hl 0 rfl) ?_
  refine lv_iload_n hx hb dX8_link_1 rfl (lv_at hl 1 rfl) ?_
  refine cv_v (As := [.int 0]) (rest := []) (b := a0) (wr := []) ⟨hx, hb, hml, hown, hts⟩ (fun sz => k164_X8_refuseNoPlayer l D cs sz a0 a1 a2 a3 a4 a5 a6 a7 a8 a9 a10 a11 a12 a13 a14) (cwV 1 hts gX8_link_X8_refuseNoPlayer rfl rfl rfl hdX8_refuseNoPlayer_v ⟨Nat.le_of_ble_eq_true rfl, Nat.le_of_ble_eq_true rfl⟩) hN hP hD hS hA [0, 1, 2] [] rfl rfl rfl rfl (by decide) (ci := 8) (q0 := 0) rfl rfl rfl rfl hl.1 (Nat.le_of_ble_eq_true rfl) dX8_link_2 (Nat.le_of_ble_eq_true rfl) (Nat.le_of_ble_eq_true rfl) (fun u0 H locs hP hD hS => ?_)
  have hP : va_P D vwCl [(a0, .inr (8, [.ref a3, .ref a1, .ref a4, .ref a5, .int 0, .int 0, .int (-1)])), (a1, .inr (7, [.ref a2, .ref a6, .ref a7, .ref a8, .ref a9, .ref a10, .long 0, .int 0, .int 0, .int 0, .int 0, .int 0, .int 0, .int 0, .int 0, .int 0])), (a2, .inr (6, [.int 1, .int 1, .int 50, .null, .ref a11, .ref a12, .ref a13, .ref a14]))] H := hP
  have hD : va_D A [(a0, .inr (8, [.ref a3, .ref a1, .ref a4, .ref a5, .int 0, .int 0, .int (-1)])), (a1, .inr (7, [.ref a2, .ref a6, .ref a7, .ref a8, .ref a9, .ref a10, .long 0, .int 0, .int 0, .int 0, .int 0, .int 0, .int 0, .int 0, .int 0, .int 0])), (a2, .inr (6, [.int 1, .int 1, .int 50, .null, .ref a11, .ref a12, .ref a13, .ref a14]))] := hD
  refine W.widen (k := 0) (n := 0) (Nat.le_of_ble_eq_true rfl) (Nat.le_of_ble_eq_true rfl) ?_
  refine lv_aload_n hx hb dX8_link_5 rfl (lv_at hl 0 rfl) ?_
  refine lv_iload_n hx hb dX8_link_6 rfl (lv_at hl 2 rfl) ?_
  exact xp_v (As := [.int x0]) (rest := []) (b := a0) ⟨hx, hb, hml, hown, hts⟩ (fun sz => k265_X8_refuseNoPlayer l D cs sz hlt a0 a3 a1 a4 a5 (x0) hf0) (cwV 1 hts gX8_link_X8_refuseNoPlayer rfl rfl rfl hdX8_refuseNoPlayer_v ⟨Nat.le_of_ble_eq_true rfl, Nat.le_of_ble_eq_true rfl⟩) hN hP hD hS hA hZ [0] rfl rfl (ci := 8) (q0 := 0) rfl rfl rfl rfl hl.1 (Nat.le_of_ble_eq_true rfl) dX8_link_7 (Nat.le_of_ble_eq_true rfl) (Nat.le_of_ble_eq_true rfl) hnx hlocks (Nat.le_of_ble_eq_true rfl) (Nat.le_of_ble_eq_true rfl)
theorem mL_link_1 : (.classLink RL 22 "java/lang/IndexOutOfBoundsException" : Cond) ∈ wsL_link := List.mem_of_getElem? (i := 1) (by decide +kernel)
set_option maxHeartbeats 4000000 in
set_option maxRecDepth 100000 in
theorem k282_L_link (l : Launch) (D : va_G) (cs : Nat → ClassId) (sz : Nat) (hlt : l.stackTraces = false) (a0 a1 a2 a3 a4 a5 a6 a7 a8 a9 a10 a11 a12 a13 a14 a15 : Nat) (x0 : Int32) (hf0 : x0 < 0) : KH l yL_link wsL_link 8 143 1 6 D cs sz [.ref a0, .int 0, .int x0, .ref a3] [(a0, .inr (8, [.ref a4, .ref a1, .ref a5, .ref a6, .int 0, .int 0, .int (-1)])), (a1, .inr (7, [.ref a2, .ref a7, .ref a8, .ref a9, .ref a10, .ref a11, .long 0, .int 0, .int 0, .int 0, .int 0, .int 0, .int 0, .int 0, .int 0, .int 0])), (a2, .inr (6, [.int 1, .int 1, .int 50, .null, .ref a12, .ref a13, .ref a14, .ref a15]))] (fun u => []) (1) := by
  refine KH.of cL_link 5 (some .int) (by decide) rfl (Nat.le_of_ble_eq_true rfl) ?_
  intro p e s m below meth c A ls hx hb hr hml hown hts hlocks htab hP hN hD hA hS hl hZ
  have hown : s.vm.findClass RL = some m.cls := hown
  have hl : lv_has ls 5 [(0, .ref a0), (1, .int 0), (2, .int x0), (3, .ref a3)] := hl
  refine lv_aload_n hx hb dL_link_0 rfl (lv_at hl 3 rfl) ?_
  refine lv_iconst (v := 0) hx hb dL_link_1 (by decide) ?_
  refine lv_aload_n hx hb dL_link_2 rfl (lv_at hl 0 rfl) ?_
  refine lv_iload_n hx hb dL_link_3 rfl (lv_at hl 1 rfl) ?_
  refine lv_iload_n hx hb dL_link_4 rfl (lv_at hl 2 rfl) ?_
  refine xc_i (wr := []) (As := [.int 0, .int x0]) (rest := [.int 0, .ref a3]) (b := a0) ⟨hx, hb, hml, hown, hts⟩ (fun sz => k281_X8_link l D cs sz hlt a0 a1 a2 a4 a5 a6 a7 a8 a9 a10 a11 a12 a13 a14 a15 (x0) hf0) (cwV 2 hts gL_link_X8_link rfl rfl rfl hdX8_link_v ⟨Nat.le_of_ble_eq_true rfl, Nat.le_of_ble_eq_true rfl⟩) hN hP hD hS hA hZ [0, 1, 2] rfl rfl (ci := 8) (q0 := 0) rfl rfl rfl rfl hl.1 (Nat.le_of_ble_eq_true rfl) dL_link_5 (Nat.le_of_ble_eq_true rfl) (Nat.le_of_ble_eq_true rfl) [] rfl rfl (by decide) [] ⟨0, 10, 13, 22⟩ [] htab (fun z h => nomatch h) rfl (by decide) (hts _ mL_link_1) 2 rfl (fun q9_6 H locs hP hD hS => ?_)
  have hP : va_P D vwCl [] H := hP
  have hD : va_D A [] := hD
  refine W.widen (k := 1) (n := 6) (Nat.le_of_ble_eq_true rfl) (Nat.le_of_ble_eq_true rfl) ?_
  refine lv_astore (lv' := [(4, .ref q9_6), (0, .ref a0), (1, .int 0), (2, .int x0), (3, .ref a3)]) hx hb dL_link_13 hl (by decide) rfl (fun ls hl => ?_)
  refine lv_iconst (v := 1) hx hb dL_link_15 (by decide) ?_
  exact en_i (fun k => ([] : List Nat).getD k 0) hx hb hr hlocks rfl rfl hP hD hS (Nat.le_of_ble_eq_true rfl) (Nat.le_of_ble_eq_true rfl) dL_link_16
set_option maxHeartbeats 4000000 in
set_option maxRecDepth 100000 in
theorem k283_X9_link (l : Launch) (D : va_G) (cs : Nat → ClassId) (sz : Nat) (a0 a1 a2 a3 a4 a5 a6 : Nat) (x0 : Int32) (hf0 : x0 < 0) : KI l yX9_link wsX9_link 2 43 0 0 D cs sz [.ref a0, .int 0, .int x0] [(a0, .inr (9, [.int 0, .ref a2, .int 0, .int 0, .int 0, .int 0, .int 0, .int (-1), .ref a1, .ref a3, .ref a4, .ref a5, .int 0, .int 0, .int 0, .int 0, .int 0, .ref a6])), (a1, .inl (cs 0, 45783, .inl (layF (fun _ => 0) 1)))] (fun u => [(a1, .inl (cs 0, 45783, .inl (layF (fun _ => 0) 1))), (a0, .inr (9, [.int 1, .ref a2, .int 0, .int 0, .int 0, .int 0, .int 0, .int (-1), .ref a1, .ref a3, .ref a4, .ref a5, .int 0, .int 0, .int 0, .int 0, .int 0, .ref a6]))]) (0) := by
  refine KI.of cX9_link 3 (some .int) (by decide) rfl (Nat.le_of_ble_eq_true rfl) ?_
  intro p e s m below meth c A ls hx hb hr hml hown hts hlocks hin hP hN hD hA hS hl
  have hown : s.vm.findClass RX9 = some m.cls := hown
  have hl : lv_has ls 3 [(0, .ref a0), (1, .int 0), (2, .int x0)] := hl
  refine lv_aload_n hx hb dX9_link_0 rfl (lv_at hl 0 rfl) ?_
  refine lv_iconst (v := 0) hx hb dX9_link_1 (by decide) ?_
  refine va_put (D := D) (ci := 9) (v := .int 0) (ty := .int) (C := RX9) (T := TX9) (N := 18) hx hb hts iX9_link_9 tyX9 tyX9_ok nmX9 hown hN.1 hP hD hS 0 rfl rfl 0 (by decide) (hts _ mX9_link_1) (fun _ h9 => h9) rfl (by decide +kernel) rfl rfl (Nat.le_of_ble_eq_true rfl) dX9_link_2 (fun H locs hP hD hS => ?_)
  have hP : va_P D vwCl [(a0, .inr (9, [.int 0, .ref a2, .int 0, .int 0, .int 0, .int 0, .int 0, .int (-1), .ref a1, .ref a3, .ref a4, .ref a5, .int 0, .int 0, .int 0, .int 0, .int 0, .ref a6])), (a1, .inl (cs 0, 45783, .inl (layF (fun _ => 0) 1)))] H := hP
  have hD : va_D A [(a0, .inr (9, [.int 0, .ref a2, .int 0, .int 0, .int 0, .int 0, .int 0, .int (-1), .ref a1, .ref a3, .ref a4, .ref a5, .int 0, .int 0, .int 0, .int 0, .int 0, .ref a6])), (a1, .inl (cs 0, 45783, .inl (layF (fun _ => 0) 1)))] := hD
  refine lv_aload_n hx hb dX9_link_5 rfl (lv_at hl 0 rfl) ?_
  refine lv_iload_n hx hb dX9_link_6 rfl (lv_at hl 1 rfl) ?_
  refine cv_i (As := [.int 0]) (rest := []) (b := a0) (wr := []) ⟨hx, hb, hml, hown, hts⟩ (fun sz => k170_X9_noPlayer l D cs sz a0 a1 a2 a3 a4 a5 a6) (cwV 1 hts gX9_link_X9_noPlayer rfl rfl rfl hdX9_noPlayer_v ⟨Nat.le_of_ble_eq_true rfl, Nat.le_of_ble_eq_true rfl⟩) hN hP hD hS hA [0, 1] [] rfl rfl rfl rfl (by decide) (ci := 9) (q0 := 0) rfl rfl rfl rfl hl.1 (Nat.le_of_ble_eq_true rfl) dX9_link_7 (Nat.le_of_ble_eq_true rfl) (Nat.le_of_ble_eq_true rfl) (fun u0 H locs hP hD hS => ?_)
  have hP : va_P D vwCl [(a1, .inl (cs 0, 45783, .inl (layF (fun _ => 0) 1))), (a0, .inr (9, [.int 0, .ref a2, .int 0, .int 0, .int 0, .int 0, .int 0, .int (-1), .ref a1, .ref a3, .ref a4, .ref a5, .int 0, .int 0, .int 0, .int 0, .int 0, .ref a6]))] H := hP
  have hD : va_D A [(a1, .inl (cs 0, 45783, .inl (layF (fun _ => 0) 1))), (a0, .inr (9, [.int 0, .ref a2, .int 0, .int 0, .int 0, .int 0, .int 0, .int (-1), .ref a1, .ref a3, .ref a4, .ref a5, .int 0, .int 0, .int 0, .int 0, .int 0, .ref a6]))] := hD
  refine W.widen (k := 0) (n := 0) (Nat.le_of_ble_eq_true rfl) (Nat.le_of_ble_eq_true rfl) ?_
  refine lv_if_ne (tgt := 21) hx hb dX9_link_10 (by decide) (fun c9 => absurd (by decide) c9) (fun _ => ?_)
  refine lv_aload_n hx hb dX9_link_13 rfl (lv_at hl 0 rfl) ?_
  refine lv_iload_n hx hb dX9_link_14 rfl (lv_at hl 2 rfl) ?_
  refine cv_i (As := [.int x0]) (rest := []) (b := a0) (wr := []) ⟨hx, hb, hml, hown, hts⟩ (fun sz => k269_X9_noPlayer l D cs sz a0 a1 a2 a3 a4 a5 a6 (x0) hf0) (cwV 1 hts gX9_link_X9_noPlayer rfl rfl rfl hdX9_noPlayer_v ⟨Nat.le_of_ble_eq_true rfl, Nat.le_of_ble_eq_true rfl⟩) hN hP hD hS hA [1, 0] [] rfl rfl rfl rfl (by decide) (ci := 9) (q0 := 0) rfl rfl rfl rfl hl.1 (Nat.le_of_ble_eq_true rfl) dX9_link_15 (Nat.le_of_ble_eq_true rfl) (Nat.le_of_ble_eq_true rfl) (fun u1 H locs hP hD hS => ?_)
  have hP : va_P D vwCl [(a1, .inl (cs 0, 45783, .inl (layF (fun _ => 0) 1))), (a0, .inr (9, [.int 1, .ref a2, .int 0, .int 0, .int 0, .int 0, .int 0, .int (-1), .ref a1, .ref a3, .ref a4, .ref a5, .int 0, .int 0, .int 0, .int 0, .int 0, .ref a6]))] H := hP
  have hD : va_D A [(a1, .inl (cs 0, 45783, .inl (layF (fun _ => 0) 1))), (a0, .inr (9, [.int 1, .ref a2, .int 0, .int 0, .int 0, .int 0, .int 0, .int (-1), .ref a1, .ref a3, .ref a4, .ref a5, .int 0, .int 0, .int 0, .int 0, .int 0, .ref a6]))] := hD
  refine W.widen (k := 0) (n := 0) (Nat.le_of_ble_eq_true rfl) (Nat.le_of_ble_eq_true rfl) ?_
  refine lv_if_eq (tgt := 25) hx hb dX9_link_18 (by decide) (fun c9 => absurd c9 (by decide)) (fun _ => ?_)
  refine lv_iconst (v := 0) hx hb dX9_link_21 (by decide) ?_
  refine lv_goto (tgt := 35) hx hb dX9_link_22 (by decide) ?_
  exact en_i (fun k => ([] : List Nat).getD k 0) hx hb hr hlocks rfl rfl hP hD hS (Nat.le_of_ble_eq_true rfl) (Nat.le_of_ble_eq_true rfl) dX9_link_35
set_option maxHeartbeats 4000000 in
set_option maxRecDepth 100000 in
theorem law_5_0n {p : Program} {l : Launch} {e : Env} {s : State} {m : MethodId} {args : Array Value} {below : List Frame} {meth : Method} {c : Code} {Q : State → Prop} {D : va_G} {cs : Nat → ClassId} {A : Nat → Prop} {xs : Nat → Int32} {b : Nat} (hx : p.tables.exec = Jvm.exec) (hb : c.code = cL_law) (hml : c.maxLocals = 9) (hown : s.vm.findClass RL = some m.cls) (hts : ∀ w ∈ wsL_law, w.before args s = true) (hN : NK D cs s) (hX : va_X b 6 xs s s.heap) (hbl : b < s.heap.size) (hbA : ¬ A b) (hA : ∀ q : Nat, s.heap.size ≤ q → A q) (hZ : ZX A s s.heap) (hZS : ZS cs A s s.heap) (hlt : l.stackTraces = false)
    (kend : ∀ (H : Heap) (locs : List Loc) (ls : Array Slot), va_S A s.heap H locs → lv_has ls 9 [(0, .ref b), (4, .int 0)] → W p l e room_1 s m args below meth c H locs 600002 7302232 Q (F0 m 1169 ls []))
    (a0 a1 a2 a3 a4 a5 a6 a7 a8 a9 a10 a11 a12 a13 a14 a15 a16 a17 a18 a19 a20 a21 a22 : Nat) (y2 : Int32) (hy1 : xs 1 = (0)) (hy2 : xs 2 = (y2)) (g2_2 : y2 < 0) (H : Heap) (locs : List Loc) (ls : Array Slot) (hP : va_P D vwCl [(a0, .inr (8, [.ref a5, .ref a2, .ref a6, .ref a7, .int 0, .int 0, .int (-1)])), (a1, .inr (6, [.int 1, .int 1, .int 50, .null, .ref a8, .ref a9, .ref a10, .ref a11])), (a2, .inr (7, [.ref a1, .ref a12, .ref a13, .ref a14, .ref a15, .ref a16, .long 0, .int 0, .int 0, .int 0, .int 0, .int 0, .int 0, .int 0, .int 0, .int 0])), (a3, .inr (9, [.int 0, .ref a17, .int 0, .int 0, .int 0, .int 0, .int 0, .int (-1), .ref a4, .ref a18, .ref a19, .ref a20, .int 0, .int 0, .int 0, .int 0, .int 0, .ref a21])), (a4, .inl (cs 0, 45783, .inl (layF (fun _ => 0) 1)))] H) (hD : va_D A [(a0, .inr (8, [.ref a5, .ref a2, .ref a6, .ref a7, .int 0, .int 0, .int (-1)])), (a1, .inr (6, [.int 1, .int 1, .int 50, .null, .ref a8, .ref a9, .ref a10, .ref a11])), (a2, .inr (7, [.ref a1, .ref a12, .ref a13, .ref a14, .ref a15, .ref a16, .long 0, .int 0, .int 0, .int 0, .int 0, .int 0, .int 0, .int 0, .int 0, .int 0])), (a3, .inr (9, [.int 0, .ref a17, .int 0, .int 0, .int 0, .int 0, .int 0, .int (-1), .ref a4, .ref a18, .ref a19, .ref a20, .int 0, .int 0, .int 0, .int 0, .int 0, .ref a21])), (a4, .inl (cs 0, 45783, .inl (layF (fun _ => 0) 1)))]) (hS : va_S A s.heap H locs) (hl : lv_has ls 9 [(4, .int 0), (3, .ref a22), (2, .ref a3), (1, .ref a0), (0, .ref b)]) : W p l e room_1 s m args below meth c H locs 391 467079 Q (F0 m 402 ls []) := by
  refine lv_aload_n hx hb dL_law_402 rfl (lv_at hl 3 rfl) ?_
  refine lv_aload_n hx hb dL_law_403 rfl (lv_at hl 4 rfl) ?_
  refine lv_iload hx hb dL_law_404 (lv_at hl 0 rfl) ?_
  refine lv_iconst (v := 1) hx hb dL_law_406 (by decide) ?_
  refine lv_iadd hx hb dL_law_407 ?_
  refine tp_i (1) (by decide) ?_
  refine va_sld hx hb hX hbl hbA hS (vin (by decide +kernel)) dL_law_408 ?_
  refine tp_i (0) hy1 ?_
  refine lv_aload_n hx hb dL_law_409 rfl (lv_at hl 4 rfl) ?_
  refine lv_iload hx hb dL_law_410 (lv_at hl 0 rfl) ?_
  refine lv_iconst (v := 2) hx hb dL_law_412 (by decide) ?_
  refine lv_iadd hx hb dL_law_413 ?_
  refine tp_i (2) (by decide) ?_
  refine va_sld hx hb hX hbl hbA hS (vin (by decide +kernel)) dL_law_414 ?_
  refine tp_i (y2) hy2 ?_
  refine lv_aload_n hx hb dL_law_415 rfl (lv_at hl 1 rfl) ?_
  refine ch_i (As := [.ref a0, .int 0, .int y2, .ref a22]) (rest := []) (wr := [(a3, .inr (9, [.int 0, .ref a17, .int 0, .int 0, .int 0, .int 0, .int 0, .int (-1), .ref a4, .ref a18, .ref a19, .ref a20, .int 0, .int 0, .int 0, .int 0, .int 0, .ref a21])), (a4, .inl (cs 0, 45783, .inl (layF (fun _ => 0) 1)))]) ⟨hx, hb, hml, hown, hts⟩ (fun sz => k282_L_link l D cs sz hlt a0 a2 a1 a22 a5 a6 a7 a12 a13 a14 a15 a16 a8 a9 a10 a11 (y2) g2_2) (vx_cwSW 4 hts gL_law_L_link rfl rfl rfl hdL_link_o ⟨Nat.le_of_ble_eq_true rfl, Nat.le_of_ble_eq_true rfl⟩) hN hP hD hS hA hZ [0, 2, 1] [3, 4] rfl rfl rfl rfl (by decide) rfl rfl hl.1 (Nat.le_of_ble_eq_true rfl) dL_law_416 (Nat.le_of_ble_eq_true rfl) (Nat.le_of_ble_eq_true rfl) (fun u0 H locs hP hD hS => ?_)
  have hP : va_P D vwCl [(a3, .inr (9, [.int 0, .ref a17, .int 0, .int 0, .int 0, .int 0, .int 0, .int (-1), .ref a4, .ref a18, .ref a19, .ref a20, .int 0, .int 0, .int 0, .int 0, .int 0, .ref a21])), (a4, .inl (cs 0, 45783, .inl (layF (fun _ => 0) 1)))] H := hP
  have hD : va_D A [(a3, .inr (9, [.int 0, .ref a17, .int 0, .int 0, .int 0, .int 0, .int 0, .int (-1), .ref a4, .ref a18, .ref a19, .ref a20, .int 0, .int 0, .int 0, .int 0, .int 0, .ref a21])), (a4, .inl (cs 0, 45783, .inl (layF (fun _ => 0) 1)))] := hD
  refine W.widen (k := 392) (n := 467085) (Nat.le_of_ble_eq_true rfl) (Nat.le_of_ble_eq_true rfl) ?_
  refine lv_istore (lv' := [(5, .int 1), (4, .int 0), (3, .ref a22), (2, .ref a3), (1, .ref a0), (0, .ref b)]) hx hb dL_law_419 hl (by decide) rfl (fun ls hl => ?_)
  refine lv_aload_n hx hb dL_law_421 rfl (lv_at hl 3 rfl) ?_
  refine lv_aload_n hx hb dL_law_422 rfl (lv_at hl 5 rfl) ?_
  refine lv_iload hx hb dL_law_423 (lv_at hl 1 rfl) ?_
  refine lv_iconst (v := 1) hx hb dL_law_425 (by decide) ?_
  refine lv_iadd hx hb dL_law_426 ?_
  refine tp_i (1) (by decide) ?_
  refine va_sld hx hb hX hbl hbA hS (vin (by decide +kernel)) dL_law_427 ?_
  refine tp_i (0) hy1 ?_
  refine lv_aload_n hx hb dL_law_428 rfl (lv_at hl 5 rfl) ?_
  refine lv_iload hx hb dL_law_429 (lv_at hl 1 rfl) ?_
  refine lv_iconst (v := 2) hx hb dL_law_431 (by decide) ?_
  refine lv_iadd hx hb dL_law_432 ?_
  refine tp_i (2) (by decide) ?_
  refine va_sld hx hb hX hbl hbA hS (vin (by decide +kernel)) dL_law_433 ?_
  refine tp_i (y2) hy2 ?_
  refine cv_i (As := [.int 0, .int y2]) (rest := []) (b := a3) (wr := []) ⟨hx, hb, hml, hown, hts⟩ (fun sz => k283_X9_link l D cs sz a3 a4 a17 a18 a19 a20 a21 (y2) g2_2) (cwV 2 hts gL_law_X9_link rfl rfl rfl hdX9_link_v ⟨Nat.le_of_ble_eq_true rfl, Nat.le_of_ble_eq_true rfl⟩) hN hP hD hS hA [0, 1] [] rfl rfl rfl rfl (by decide) (ci := 9) (q0 := 0) rfl rfl rfl rfl hl.1 (Nat.le_of_ble_eq_true rfl) dL_law_434 (Nat.le_of_ble_eq_true rfl) (Nat.le_of_ble_eq_true rfl) (fun u1 H locs hP hD hS => ?_)
  have hP : va_P D vwCl [(a4, .inl (cs 0, 45783, .inl (layF (fun _ => 0) 1))), (a3, .inr (9, [.int 1, .ref a17, .int 0, .int 0, .int 0, .int 0, .int 0, .int (-1), .ref a4, .ref a18, .ref a19, .ref a20, .int 0, .int 0, .int 0, .int 0, .int 0, .ref a21]))] H := hP
  have hD : va_D A [(a4, .inl (cs 0, 45783, .inl (layF (fun _ => 0) 1))), (a3, .inr (9, [.int 1, .ref a17, .int 0, .int 0, .int 0, .int 0, .int 0, .int (-1), .ref a4, .ref a18, .ref a19, .ref a20, .int 0, .int 0, .int 0, .int 0, .int 0, .ref a21]))] := hD
  refine W.widen (k := 392) (n := 467085) (Nat.le_of_ble_eq_true rfl) (Nat.le_of_ble_eq_true rfl) ?_
  refine lv_istore (lv' := [(6, .int 0), (5, .int 1), (4, .int 0), (3, .ref a22), (2, .ref a3), (1, .ref a0), (0, .ref b)]) hx hb dL_law_437 hl (by decide) rfl (fun ls hl => ?_)
  refine lv_aload_n hx hb dL_law_439 rfl (lv_at hl 4 rfl) ?_
  refine cv_i (As := []) (rest := []) (b := a3) (wr := [(a4, .inl (cs 0, 45783, .inl (layF (fun _ => 0) 1)))]) ⟨hx, hb, hml, hown, hts⟩ (fun sz => k158_X9_thrown l D cs sz a3 a17 a4 a18 a19 a20 a21) (cwV 0 hts gL_law_X9_thrown rfl rfl rfl hdX9_thrown_v ⟨Nat.le_of_ble_eq_true rfl, Nat.le_of_ble_eq_true rfl⟩) hN hP hD hS hA [1] [0] rfl rfl rfl rfl (by decide) (ci := 9) (q0 := 0) rfl rfl rfl rfl hl.1 (Nat.le_of_ble_eq_true rfl) dL_law_440 (Nat.le_of_ble_eq_true rfl) (Nat.le_of_ble_eq_true rfl) (fun u2 H locs hP hD hS => ?_)
  have hP : va_P D vwCl [(a4, .inl (cs 0, 45783, .inl (layF (fun _ => 0) 1))), (a3, .inr (9, [.int 1, .ref a17, .int 0, .int 0, .int 0, .int 0, .int 0, .int (-1), .ref a4, .ref a18, .ref a19, .ref a20, .int 0, .int 0, .int 0, .int 0, .int 0, .ref a21]))] H := hP
  have hD : va_D A [(a4, .inl (cs 0, 45783, .inl (layF (fun _ => 0) 1))), (a3, .inr (9, [.int 1, .ref a17, .int 0, .int 0, .int 0, .int 0, .int 0, .int (-1), .ref a4, .ref a18, .ref a19, .ref a20, .int 0, .int 0, .int 0, .int 0, .int 0, .ref a21]))] := hD
  refine W.widen (k := 392) (n := 467085) (Nat.le_of_ble_eq_true rfl) (Nat.le_of_ble_eq_true rfl) ?_
  refine lv_iload hx hb dL_law_443 (lv_at hl 1 rfl) ?_
  refine lv_icmp_eq (tgt := 450) hx hb dL_law_445 (by decide) (fun _ => ?_) (fun c9 => absurd (by decide) c9)
  refine lv_iload hx hb dL_law_450 (lv_at hl 1 rfl) ?_
  refine lv_if_ne (tgt := 467) hx hb dL_law_452 (by decide) (fun _ => ?_) (fun c9 => absurd c9 (by decide))
  refine lv_goto (tgt := 1169) hx hb dL_law_467 (by decide) ?_
  refine W.widen (k := 600002) (n := 7302232) (Nat.le_of_ble_eq_true rfl) (Nat.le_of_ble_eq_true rfl) ?_
  exact kend _ _ _ hS (lv_sub hl [6, 2] rfl)

set_option maxHeartbeats 4000000 in
set_option maxRecDepth 100000 in
theorem k284_X8_link (l : Launch) (D : va_G) (cs : Nat → ClassId) (sz : Nat) (hlt : l.stackTraces = false) (a0 a1 a2 a3 a4 a5 a6 a7 a8 a9 a10 a11 a12 a13 a14 : Nat) (x0 : Int32) (hf0 : ¬ x0 < 0) (hf1 : ¬ x0 < 1) : KX l yX8_link wsX8_link 7 121 1 6 D cs sz [.ref a0, .int 0, .int x0] [(a0, .inr (8, [.ref a3, .ref a1, .ref a4, .ref a5, .int 0, .int 0, .int (-1)])), (a1, .inr (7, [.ref a2, .ref a6, .ref a7, .ref a8, .ref a9, .ref a10, .long 0, .int 0, .int 0, .int 0, .int 0, .int 0, .int 0, .int 0, .int 0, .int 0])), (a2, .inr (6, [.int 1, .int 1, .int 50, .null, .ref a11, .ref a12, .ref a13, .ref a14]))] QnI "java/lang/IndexOutOfBoundsException" := by
  refine KX.of cX8_link 3 (some .int) (by decide) rfl (Nat.le_of_ble_eq_true rfl) ?_
  intro p e s m below meth c A ls hx hb hr hml hown hts hlocks hnx hP hN hD hA hS hl hZ
  have hown : s.vm.findClass RX8 = some m.cls := hown
  have hl : lv_has ls 3 [(0, .ref a0), (1, .int 0), (2, .int x0)] := hl
  refine lv_aload_n hx hb dX8_link_0 rfl (lv_at hl 0 rfl) ?_
  refine lv_iload_n hx hb dX8_link_1 rfl (lv_at hl 1 rfl) ?_
  refine cv_v (As := [.int 0]) (rest := []) (b := a0) (wr := []) ⟨hx, hb, hml, hown, hts⟩ (fun sz => k164_X8_refuseNoPlayer l D cs sz a0 a1 a2 a3 a4 a5 a6 a7 a8 a9 a10 a11 a12 a13 a14) (cwV 1 hts gX8_link_X8_refuseNoPlayer rfl rfl rfl hdX8_refuseNoPlayer_v ⟨Nat.le_of_ble_eq_true rfl, Nat.le_of_ble_eq_true rfl⟩) hN hP hD hS hA [0, 1, 2] [] rfl rfl rfl rfl (by decide) (ci := 8) (q0 := 0) rfl rfl rfl rfl hl.1 (Nat.le_of_ble_eq_true rfl) dX8_link_2 (Nat.le_of_ble_eq_true rfl) (Nat.le_of_ble_eq_true rfl) (fun u0 H locs hP hD hS => ?_)
  have hP : va_P D vwCl [(a0, .inr (8, [.ref a3, .ref a1, .ref a4, .ref a5, .int 0, .int 0, .int (-1)])), (a1, .inr (7, [.ref a2, .ref a6, .ref a7, .ref a8, .ref a9, .ref a10, .long 0, .int 0, .int 0, .int 0, .int 0, .int 0, .int 0, .int 0, .int 0, .int 0])), (a2, .inr (6, [.int 1, .int 1, .int 50, .null, .ref a11, .ref a12, .ref a13, .ref a14]))] H := hP
  have hD : va_D A [(a0, .inr (8, [.ref a3, .ref a1, .ref a4, .ref a5, .int 0, .int 0, .int (-1)])), (a1, .inr (7, [.ref a2, .ref a6, .ref a7, .ref a8, .ref a9, .ref a10, .long 0, .int 0, .int 0, .int 0, .int 0, .int 0, .int 0, .int 0, .int 0, .int 0])), (a2, .inr (6, [.int 1, .int 1, .int 50, .null, .ref a11, .ref a12, .ref a13, .ref a14]))] := hD
  refine W.widen (k := 0) (n := 0) (Nat.le_of_ble_eq_true rfl) (Nat.le_of_ble_eq_true rfl) ?_
  refine lv_aload_n hx hb dX8_link_5 rfl (lv_at hl 0 rfl) ?_
  refine lv_iload_n hx hb dX8_link_6 rfl (lv_at hl 2 rfl) ?_
  exact xp_v (As := [.int x0]) (rest := []) (b := a0) ⟨hx, hb, hml, hown, hts⟩ (fun sz => k271_X8_refuseNoPlayer l D cs sz hlt a0 a1 a2 a3 a4 a5 a6 a7 a8 a9 a10 a11 a12 a13 a14 (x0) hf0 hf1) (cwV 1 hts gX8_link_X8_refuseNoPlayer rfl rfl rfl hdX8_refuseNoPlayer_v ⟨Nat.le_of_ble_eq_true rfl, Nat.le_of_ble_eq_true rfl⟩) hN hP hD hS hA hZ [0, 1, 2] rfl rfl (ci := 8) (q0 := 0) rfl rfl rfl rfl hl.1 (Nat.le_of_ble_eq_true rfl) dX8_link_7 (Nat.le_of_ble_eq_true rfl) (Nat.le_of_ble_eq_true rfl) hnx hlocks (Nat.le_of_ble_eq_true rfl) (Nat.le_of_ble_eq_true rfl)
set_option maxHeartbeats 4000000 in
set_option maxRecDepth 100000 in
theorem k285_L_link (l : Launch) (D : va_G) (cs : Nat → ClassId) (sz : Nat) (hlt : l.stackTraces = false) (a0 a1 a2 a3 a4 a5 a6 a7 a8 a9 a10 a11 a12 a13 a14 a15 : Nat) (x0 : Int32) (hf0 : ¬ x0 < 0) (hf1 : ¬ x0 < 1) : KH l yL_link wsL_link 8 143 1 6 D cs sz [.ref a0, .int 0, .int x0, .ref a3] [(a0, .inr (8, [.ref a4, .ref a1, .ref a5, .ref a6, .int 0, .int 0, .int (-1)])), (a1, .inr (7, [.ref a2, .ref a7, .ref a8, .ref a9, .ref a10, .ref a11, .long 0, .int 0, .int 0, .int 0, .int 0, .int 0, .int 0, .int 0, .int 0, .int 0])), (a2, .inr (6, [.int 1, .int 1, .int 50, .null, .ref a12, .ref a13, .ref a14, .ref a15]))] (fun u => []) (1) := by
  refine KH.of cL_link 5 (some .int) (by decide) rfl (Nat.le_of_ble_eq_true rfl) ?_
  intro p e s m below meth c A ls hx hb hr hml hown hts hlocks htab hP hN hD hA hS hl hZ
  have hown : s.vm.findClass RL = some m.cls := hown
  have hl : lv_has ls 5 [(0, .ref a0), (1, .int 0), (2, .int x0), (3, .ref a3)] := hl
  refine lv_aload_n hx hb dL_link_0 rfl (lv_at hl 3 rfl) ?_
  refine lv_iconst (v := 0) hx hb dL_link_1 (by decide) ?_
  refine lv_aload_n hx hb dL_link_2 rfl (lv_at hl 0 rfl) ?_
  refine lv_iload_n hx hb dL_link_3 rfl (lv_at hl 1 rfl) ?_
  refine lv_iload_n hx hb dL_link_4 rfl (lv_at hl 2 rfl) ?_
  refine xc_i (wr := []) (As := [.int 0, .int x0]) (rest := [.int 0, .ref a3]) (b := a0) ⟨hx, hb, hml, hown, hts⟩ (fun sz => k284_X8_link l D cs sz hlt a0 a1 a2 a4 a5 a6 a7 a8 a9 a10 a11 a12 a13 a14 a15 (x0) hf0 hf1) (cwV 2 hts gL_link_X8_link rfl rfl rfl hdX8_link_v ⟨Nat.le_of_ble_eq_true rfl, Nat.le_of_ble_eq_true rfl⟩) hN hP hD hS hA hZ [0, 1, 2] rfl rfl (ci := 8) (q0 := 0) rfl rfl rfl rfl hl.1 (Nat.le_of_ble_eq_true rfl) dL_link_5 (Nat.le_of_ble_eq_true rfl) (Nat.le_of_ble_eq_true rfl) [] rfl rfl (by decide) [] ⟨0, 10, 13, 22⟩ [] htab (fun z h => nomatch h) rfl (by decide) (hts _ mL_link_1) 2 rfl (fun q9_6 H locs hP hD hS => ?_)
  have hP : va_P D vwCl [] H := hP
  have hD : va_D A [] := hD
  refine W.widen (k := 1) (n := 6) (Nat.le_of_ble_eq_true rfl) (Nat.le_of_ble_eq_true rfl) ?_
  refine lv_astore (lv' := [(4, .ref q9_6), (0, .ref a0), (1, .int 0), (2, .int x0), (3, .ref a3)]) hx hb dL_link_13 hl (by decide) rfl (fun ls hl => ?_)
  refine lv_iconst (v := 1) hx hb dL_link_15 (by decide) ?_
  exact en_i (fun k => ([] : List Nat).getD k 0) hx hb hr hlocks rfl rfl hP hD hS (Nat.le_of_ble_eq_true rfl) (Nat.le_of_ble_eq_true rfl) dL_link_16
set_option maxHeartbeats 4000000 in
set_option maxRecDepth 100000 in
theorem k286_X9_link (l : Launch) (D : va_G) (cs : Nat → ClassId) (sz : Nat) (a0 a1 a2 a3 a4 a5 a6 : Nat) (x0 : Int32) (hf0 : ¬ x0 < 0) (hf1 : 0 < x0) : KI l yX9_link wsX9_link 2 43 0 0 D cs sz [.ref a0, .int 0, .int x0] [(a0, .inr (9, [.int 0, .ref a2, .int 0, .int 0, .int 0, .int 0, .int 0, .int (-1), .ref a1, .ref a3, .ref a4, .ref a5, .int 0, .int 0, .int 0, .int 0, .int 0, .ref a6])), (a1, .inl (cs 0, 45783, .inl (layF (fun _ => 0) 1)))] (fun u => [(a1, .inl (cs 0, 45783, .inl (layF (fun _ => 0) 1))), (a0, .inr (9, [.int 1, .ref a2, .int 0, .int 0, .int 0, .int 0, .int 0, .int (-1), .ref a1, .ref a3, .ref a4, .ref a5, .int 0, .int 0, .int 0, .int 0, .int 0, .ref a6]))]) (0) := by
  refine KI.of cX9_link 3 (some .int) (by decide) rfl (Nat.le_of_ble_eq_true rfl) ?_
  intro p e s m below meth c A ls hx hb hr hml hown hts hlocks hin hP hN hD hA hS hl
  have hown : s.vm.findClass RX9 = some m.cls := hown
  have hl : lv_has ls 3 [(0, .ref a0), (1, .int 0), (2, .int x0)] := hl
  refine lv_aload_n hx hb dX9_link_0 rfl (lv_at hl 0 rfl) ?_
  refine lv_iconst (v := 0) hx hb dX9_link_1 (by decide) ?_
  refine va_put (D := D) (ci := 9) (v := .int 0) (ty := .int) (C := RX9) (T := TX9) (N := 18) hx hb hts iX9_link_9 tyX9 tyX9_ok nmX9 hown hN.1 hP hD hS 0 rfl rfl 0 (by decide) (hts _ mX9_link_1) (fun _ h9 => h9) rfl (by decide +kernel) rfl rfl (Nat.le_of_ble_eq_true rfl) dX9_link_2 (fun H locs hP hD hS => ?_)
  have hP : va_P D vwCl [(a0, .inr (9, [.int 0, .ref a2, .int 0, .int 0, .int 0, .int 0, .int 0, .int (-1), .ref a1, .ref a3, .ref a4, .ref a5, .int 0, .int 0, .int 0, .int 0, .int 0, .ref a6])), (a1, .inl (cs 0, 45783, .inl (layF (fun _ => 0) 1)))] H := hP
  have hD : va_D A [(a0, .inr (9, [.int 0, .ref a2, .int 0, .int 0, .int 0, .int 0, .int 0, .int (-1), .ref a1, .ref a3, .ref a4, .ref a5, .int 0, .int 0, .int 0, .int 0, .int 0, .ref a6])), (a1, .inl (cs 0, 45783, .inl (layF (fun _ => 0) 1)))] := hD
  refine lv_aload_n hx hb dX9_link_5 rfl (lv_at hl 0 rfl) ?_
  refine lv_iload_n hx hb dX9_link_6 rfl (lv_at hl 1 rfl) ?_
  refine cv_i (As := [.int 0]) (rest := []) (b := a0) (wr := []) ⟨hx, hb, hml, hown, hts⟩ (fun sz => k170_X9_noPlayer l D cs sz a0 a1 a2 a3 a4 a5 a6) (cwV 1 hts gX9_link_X9_noPlayer rfl rfl rfl hdX9_noPlayer_v ⟨Nat.le_of_ble_eq_true rfl, Nat.le_of_ble_eq_true rfl⟩) hN hP hD hS hA [0, 1] [] rfl rfl rfl rfl (by decide) (ci := 9) (q0 := 0) rfl rfl rfl rfl hl.1 (Nat.le_of_ble_eq_true rfl) dX9_link_7 (Nat.le_of_ble_eq_true rfl) (Nat.le_of_ble_eq_true rfl) (fun u0 H locs hP hD hS => ?_)
  have hP : va_P D vwCl [(a1, .inl (cs 0, 45783, .inl (layF (fun _ => 0) 1))), (a0, .inr (9, [.int 0, .ref a2, .int 0, .int 0, .int 0, .int 0, .int 0, .int (-1), .ref a1, .ref a3, .ref a4, .ref a5, .int 0, .int 0, .int 0, .int 0, .int 0, .ref a6]))] H := hP
  have hD : va_D A [(a1, .inl (cs 0, 45783, .inl (layF (fun _ => 0) 1))), (a0, .inr (9, [.int 0, .ref a2, .int 0, .int 0, .int 0, .int 0, .int 0, .int (-1), .ref a1, .ref a3, .ref a4, .ref a5, .int 0, .int 0, .int 0, .int 0, .int 0, .ref a6]))] := hD
  refine W.widen (k := 0) (n := 0) (Nat.le_of_ble_eq_true rfl) (Nat.le_of_ble_eq_true rfl) ?_
  refine lv_if_ne (tgt := 21) hx hb dX9_link_10 (by decide) (fun c9 => absurd (by decide) c9) (fun _ => ?_)
  refine lv_aload_n hx hb dX9_link_13 rfl (lv_at hl 0 rfl) ?_
  refine lv_iload_n hx hb dX9_link_14 rfl (lv_at hl 2 rfl) ?_
  refine cv_i (As := [.int x0]) (rest := []) (b := a0) (wr := []) ⟨hx, hb, hml, hown, hts⟩ (fun sz => k275_X9_noPlayer l D cs sz a0 a1 a2 a3 a4 a5 a6 (x0) hf0 hf1) (cwV 1 hts gX9_link_X9_noPlayer rfl rfl rfl hdX9_noPlayer_v ⟨Nat.le_of_ble_eq_true rfl, Nat.le_of_ble_eq_true rfl⟩) hN hP hD hS hA [1, 0] [] rfl rfl rfl rfl (by decide) (ci := 9) (q0 := 0) rfl rfl rfl rfl hl.1 (Nat.le_of_ble_eq_true rfl) dX9_link_15 (Nat.le_of_ble_eq_true rfl) (Nat.le_of_ble_eq_true rfl) (fun u1 H locs hP hD hS => ?_)
  have hP : va_P D vwCl [(a1, .inl (cs 0, 45783, .inl (layF (fun _ => 0) 1))), (a0, .inr (9, [.int 1, .ref a2, .int 0, .int 0, .int 0, .int 0, .int 0, .int (-1), .ref a1, .ref a3, .ref a4, .ref a5, .int 0, .int 0, .int 0, .int 0, .int 0, .ref a6]))] H := hP
  have hD : va_D A [(a1, .inl (cs 0, 45783, .inl (layF (fun _ => 0) 1))), (a0, .inr (9, [.int 1, .ref a2, .int 0, .int 0, .int 0, .int 0, .int 0, .int (-1), .ref a1, .ref a3, .ref a4, .ref a5, .int 0, .int 0, .int 0, .int 0, .int 0, .ref a6]))] := hD
  refine W.widen (k := 0) (n := 0) (Nat.le_of_ble_eq_true rfl) (Nat.le_of_ble_eq_true rfl) ?_
  refine lv_if_eq (tgt := 25) hx hb dX9_link_18 (by decide) (fun c9 => absurd c9 (by decide)) (fun _ => ?_)
  refine lv_iconst (v := 0) hx hb dX9_link_21 (by decide) ?_
  refine lv_goto (tgt := 35) hx hb dX9_link_22 (by decide) ?_
  exact en_i (fun k => ([] : List Nat).getD k 0) hx hb hr hlocks rfl rfl hP hD hS (Nat.le_of_ble_eq_true rfl) (Nat.le_of_ble_eq_true rfl) dX9_link_35
set_option maxHeartbeats 4000000 in
set_option maxRecDepth 100000 in
theorem law_5_0b {p : Program} {l : Launch} {e : Env} {s : State} {m : MethodId} {args : Array Value} {below : List Frame} {meth : Method} {c : Code} {Q : State → Prop} {D : va_G} {cs : Nat → ClassId} {A : Nat → Prop} {xs : Nat → Int32} {b : Nat} (hx : p.tables.exec = Jvm.exec) (hb : c.code = cL_law) (hml : c.maxLocals = 9) (hown : s.vm.findClass RL = some m.cls) (hts : ∀ w ∈ wsL_law, w.before args s = true) (hN : NK D cs s) (hX : va_X b 6 xs s s.heap) (hbl : b < s.heap.size) (hbA : ¬ A b) (hA : ∀ q : Nat, s.heap.size ≤ q → A q) (hZ : ZX A s s.heap) (hZS : ZS cs A s s.heap) (hlt : l.stackTraces = false)
    (kend : ∀ (H : Heap) (locs : List Loc) (ls : Array Slot), va_S A s.heap H locs → lv_has ls 9 [(0, .ref b), (4, .int 0)] → W p l e room_1 s m args below meth c H locs 600002 7302232 Q (F0 m 1169 ls []))
    (a0 a1 a2 a3 a4 a5 a6 a7 a8 a9 a10 a11 a12 a13 a14 a15 a16 a17 a18 a19 a20 a21 a22 : Nat) (y2 : Int32) (hy1 : xs 1 = (0)) (hy2 : xs 2 = (y2)) (g2_4 : ¬ y2 < 0) (g2_8 : ¬ y2 < 1) (g2_7 : 0 < y2) (H : Heap) (locs : List Loc) (ls : Array Slot) (hP : va_P D vwCl [(a0, .inr (8, [.ref a5, .ref a2, .ref a6, .ref a7, .int 0, .int 0, .int (-1)])), (a1, .inr (6, [.int 1, .int 1, .int 50, .null, .ref a8, .ref a9, .ref a10, .ref a11])), (a2, .inr (7, [.ref a1, .ref a12, .ref a13, .ref a14, .ref a15, .ref a16, .long 0, .int 0, .int 0, .int 0, .int 0, .int 0, .int 0, .int 0, .int 0, .int 0])), (a3, .inr (9, [.int 0, .ref a17, .int 0, .int 0, .int 0, .int 0, .int 0, .int (-1), .ref a4, .ref a18, .ref a19, .ref a20, .int 0, .int 0, .int 0, .int 0, .int 0, .ref a21])), (a4, .inl (cs 0, 45783, .inl (layF (fun _ => 0) 1)))] H) (hD : va_D A [(a0, .inr (8, [.ref a5, .ref a2, .ref a6, .ref a7, .int 0, .int 0, .int (-1)])), (a1, .inr (6, [.int 1, .int 1, .int 50, .null, .ref a8, .ref a9, .ref a10, .ref a11])), (a2, .inr (7, [.ref a1, .ref a12, .ref a13, .ref a14, .ref a15, .ref a16, .long 0, .int 0, .int 0, .int 0, .int 0, .int 0, .int 0, .int 0, .int 0, .int 0])), (a3, .inr (9, [.int 0, .ref a17, .int 0, .int 0, .int 0, .int 0, .int 0, .int (-1), .ref a4, .ref a18, .ref a19, .ref a20, .int 0, .int 0, .int 0, .int 0, .int 0, .ref a21])), (a4, .inl (cs 0, 45783, .inl (layF (fun _ => 0) 1)))]) (hS : va_S A s.heap H locs) (hl : lv_has ls 9 [(4, .int 0), (3, .ref a22), (2, .ref a3), (1, .ref a0), (0, .ref b)]) : W p l e room_1 s m args below meth c H locs 391 467079 Q (F0 m 402 ls []) := by
  refine lv_aload_n hx hb dL_law_402 rfl (lv_at hl 3 rfl) ?_
  refine lv_aload_n hx hb dL_law_403 rfl (lv_at hl 4 rfl) ?_
  refine lv_iload hx hb dL_law_404 (lv_at hl 0 rfl) ?_
  refine lv_iconst (v := 1) hx hb dL_law_406 (by decide) ?_
  refine lv_iadd hx hb dL_law_407 ?_
  refine tp_i (1) (by decide) ?_
  refine va_sld hx hb hX hbl hbA hS (vin (by decide +kernel)) dL_law_408 ?_
  refine tp_i (0) hy1 ?_
  refine lv_aload_n hx hb dL_law_409 rfl (lv_at hl 4 rfl) ?_
  refine lv_iload hx hb dL_law_410 (lv_at hl 0 rfl) ?_
  refine lv_iconst (v := 2) hx hb dL_law_412 (by decide) ?_
  refine lv_iadd hx hb dL_law_413 ?_
  refine tp_i (2) (by decide) ?_
  refine va_sld hx hb hX hbl hbA hS (vin (by decide +kernel)) dL_law_414 ?_
  refine tp_i (y2) hy2 ?_
  refine lv_aload_n hx hb dL_law_415 rfl (lv_at hl 1 rfl) ?_
  refine ch_i (As := [.ref a0, .int 0, .int y2, .ref a22]) (rest := []) (wr := [(a3, .inr (9, [.int 0, .ref a17, .int 0, .int 0, .int 0, .int 0, .int 0, .int (-1), .ref a4, .ref a18, .ref a19, .ref a20, .int 0, .int 0, .int 0, .int 0, .int 0, .ref a21])), (a4, .inl (cs 0, 45783, .inl (layF (fun _ => 0) 1)))]) ⟨hx, hb, hml, hown, hts⟩ (fun sz => k285_L_link l D cs sz hlt a0 a2 a1 a22 a5 a6 a7 a12 a13 a14 a15 a16 a8 a9 a10 a11 (y2) g2_4 g2_8) (vx_cwSW 4 hts gL_law_L_link rfl rfl rfl hdL_link_o ⟨Nat.le_of_ble_eq_true rfl, Nat.le_of_ble_eq_true rfl⟩) hN hP hD hS hA hZ [0, 2, 1] [3, 4] rfl rfl rfl rfl (by decide) rfl rfl hl.1 (Nat.le_of_ble_eq_true rfl) dL_law_416 (Nat.le_of_ble_eq_true rfl) (Nat.le_of_ble_eq_true rfl) (fun u0 H locs hP hD hS => ?_)
  have hP : va_P D vwCl [(a3, .inr (9, [.int 0, .ref a17, .int 0, .int 0, .int 0, .int 0, .int 0, .int (-1), .ref a4, .ref a18, .ref a19, .ref a20, .int 0, .int 0, .int 0, .int 0, .int 0, .ref a21])), (a4, .inl (cs 0, 45783, .inl (layF (fun _ => 0) 1)))] H := hP
  have hD : va_D A [(a3, .inr (9, [.int 0, .ref a17, .int 0, .int 0, .int 0, .int 0, .int 0, .int (-1), .ref a4, .ref a18, .ref a19, .ref a20, .int 0, .int 0, .int 0, .int 0, .int 0, .ref a21])), (a4, .inl (cs 0, 45783, .inl (layF (fun _ => 0) 1)))] := hD
  refine W.widen (k := 392) (n := 467085) (Nat.le_of_ble_eq_true rfl) (Nat.le_of_ble_eq_true rfl) ?_
  refine lv_istore (lv' := [(5, .int 1), (4, .int 0), (3, .ref a22), (2, .ref a3), (1, .ref a0), (0, .ref b)]) hx hb dL_law_419 hl (by decide) rfl (fun ls hl => ?_)
  refine lv_aload_n hx hb dL_law_421 rfl (lv_at hl 3 rfl) ?_
  refine lv_aload_n hx hb dL_law_422 rfl (lv_at hl 5 rfl) ?_
  refine lv_iload hx hb dL_law_423 (lv_at hl 1 rfl) ?_
  refine lv_iconst (v := 1) hx hb dL_law_425 (by decide) ?_
  refine lv_iadd hx hb dL_law_426 ?_
  refine tp_i (1) (by decide) ?_
  refine va_sld hx hb hX hbl hbA hS (vin (by decide +kernel)) dL_law_427 ?_
  refine tp_i (0) hy1 ?_
  refine lv_aload_n hx hb dL_law_428 rfl (lv_at hl 5 rfl) ?_
  refine lv_iload hx hb dL_law_429 (lv_at hl 1 rfl) ?_
  refine lv_iconst (v := 2) hx hb dL_law_431 (by decide) ?_
  refine lv_iadd hx hb dL_law_432 ?_
  refine tp_i (2) (by decide) ?_
  refine va_sld hx hb hX hbl hbA hS (vin (by decide +kernel)) dL_law_433 ?_
  refine tp_i (y2) hy2 ?_
  refine cv_i (As := [.int 0, .int y2]) (rest := []) (b := a3) (wr := []) ⟨hx, hb, hml, hown, hts⟩ (fun sz => k286_X9_link l D cs sz a3 a4 a17 a18 a19 a20 a21 (y2) g2_4 g2_7) (cwV 2 hts gL_law_X9_link rfl rfl rfl hdX9_link_v ⟨Nat.le_of_ble_eq_true rfl, Nat.le_of_ble_eq_true rfl⟩) hN hP hD hS hA [0, 1] [] rfl rfl rfl rfl (by decide) (ci := 9) (q0 := 0) rfl rfl rfl rfl hl.1 (Nat.le_of_ble_eq_true rfl) dL_law_434 (Nat.le_of_ble_eq_true rfl) (Nat.le_of_ble_eq_true rfl) (fun u1 H locs hP hD hS => ?_)
  have hP : va_P D vwCl [(a4, .inl (cs 0, 45783, .inl (layF (fun _ => 0) 1))), (a3, .inr (9, [.int 1, .ref a17, .int 0, .int 0, .int 0, .int 0, .int 0, .int (-1), .ref a4, .ref a18, .ref a19, .ref a20, .int 0, .int 0, .int 0, .int 0, .int 0, .ref a21]))] H := hP
  have hD : va_D A [(a4, .inl (cs 0, 45783, .inl (layF (fun _ => 0) 1))), (a3, .inr (9, [.int 1, .ref a17, .int 0, .int 0, .int 0, .int 0, .int 0, .int (-1), .ref a4, .ref a18, .ref a19, .ref a20, .int 0, .int 0, .int 0, .int 0, .int 0, .ref a21]))] := hD
  refine W.widen (k := 392) (n := 467085) (Nat.le_of_ble_eq_true rfl) (Nat.le_of_ble_eq_true rfl) ?_
  refine lv_istore (lv' := [(6, .int 0), (5, .int 1), (4, .int 0), (3, .ref a22), (2, .ref a3), (1, .ref a0), (0, .ref b)]) hx hb dL_law_437 hl (by decide) rfl (fun ls hl => ?_)
  refine lv_aload_n hx hb dL_law_439 rfl (lv_at hl 4 rfl) ?_
  refine cv_i (As := []) (rest := []) (b := a3) (wr := [(a4, .inl (cs 0, 45783, .inl (layF (fun _ => 0) 1)))]) ⟨hx, hb, hml, hown, hts⟩ (fun sz => k158_X9_thrown l D cs sz a3 a17 a4 a18 a19 a20 a21) (cwV 0 hts gL_law_X9_thrown rfl rfl rfl hdX9_thrown_v ⟨Nat.le_of_ble_eq_true rfl, Nat.le_of_ble_eq_true rfl⟩) hN hP hD hS hA [1] [0] rfl rfl rfl rfl (by decide) (ci := 9) (q0 := 0) rfl rfl rfl rfl hl.1 (Nat.le_of_ble_eq_true rfl) dL_law_440 (Nat.le_of_ble_eq_true rfl) (Nat.le_of_ble_eq_true rfl) (fun u2 H locs hP hD hS => ?_)
  have hP : va_P D vwCl [(a4, .inl (cs 0, 45783, .inl (layF (fun _ => 0) 1))), (a3, .inr (9, [.int 1, .ref a17, .int 0, .int 0, .int 0, .int 0, .int 0, .int (-1), .ref a4, .ref a18, .ref a19, .ref a20, .int 0, .int 0, .int 0, .int 0, .int 0, .ref a21]))] H := hP
  have hD : va_D A [(a4, .inl (cs 0, 45783, .inl (layF (fun _ => 0) 1))), (a3, .inr (9, [.int 1, .ref a17, .int 0, .int 0, .int 0, .int 0, .int 0, .int (-1), .ref a4, .ref a18, .ref a19, .ref a20, .int 0, .int 0, .int 0, .int 0, .int 0, .ref a21]))] := hD
  refine W.widen (k := 392) (n := 467085) (Nat.le_of_ble_eq_true rfl) (Nat.le_of_ble_eq_true rfl) ?_
  refine lv_iload hx hb dL_law_443 (lv_at hl 1 rfl) ?_
  refine lv_icmp_eq (tgt := 450) hx hb dL_law_445 (by decide) (fun _ => ?_) (fun c9 => absurd (by decide) c9)
  refine lv_iload hx hb dL_law_450 (lv_at hl 1 rfl) ?_
  refine lv_if_ne (tgt := 467) hx hb dL_law_452 (by decide) (fun _ => ?_) (fun c9 => absurd c9 (by decide))
  refine lv_goto (tgt := 1169) hx hb dL_law_467 (by decide) ?_
  refine W.widen (k := 600002) (n := 7302232) (Nat.le_of_ble_eq_true rfl) (Nat.le_of_ble_eq_true rfl) ?_
  exact kend _ _ _ hS (lv_sub hl [6, 2] rfl)

set_option maxHeartbeats 4000000 in
set_option maxRecDepth 100000 in
theorem k287_X8_link (l : Launch) (D : va_G) (cs : Nat → ClassId) (sz : Nat) (hlt : l.stackTraces = false) (a0 a1 a2 a3 a4 : Nat) (x0 : Int32) (x1 : Int32) (hf0 : x0 < 0) : KX l yX8_link wsX8_link 7 121 1 6 D cs sz [.ref a0, .int x0, .int x1] [(a0, .inr (8, [.ref a1, .ref a2, .ref a3, .ref a4, .int 0, .int 0, .int (-1)]))] QnI "java/lang/IndexOutOfBoundsException" := by
  refine KX.of cX8_link 3 (some .int) (by decide) rfl (Nat.le_of_ble_eq_true rfl) ?_
  intro p e s m below meth c A ls hx hb hr hml hown hts hlocks hnx hP hN hD hA hS hl hZ
  have hown : s.vm.findClass RX8 = some m.cls := hown
  have hl : lv_has ls 3 [(0, .ref a0), (1, .int x0), (2, .int x1)] := hl
  refine lv_aload_n hx hb dX8_link_0 rfl (lv_at hl 0 rfl) ?_
  refine lv_iload_n hx hb dX8_link_1 rfl (lv_at hl 1 rfl) ?_
  exact xp_v (As := [.int x0]) (rest := []) (b := a0) ⟨hx, hb, hml, hown, hts⟩ (fun sz => k265_X8_refuseNoPlayer l D cs sz hlt a0 a1 a2 a3 a4 (x0) hf0) (cwV 1 hts gX8_link_X8_refuseNoPlayer rfl rfl rfl hdX8_refuseNoPlayer_v ⟨Nat.le_of_ble_eq_true rfl, Nat.le_of_ble_eq_true rfl⟩) hN hP hD hS hA hZ [0] rfl rfl (ci := 8) (q0 := 0) rfl rfl rfl rfl hl.1 (Nat.le_of_ble_eq_true rfl) dX8_link_2 (Nat.le_of_ble_eq_true rfl) (Nat.le_of_ble_eq_true rfl) hnx hlocks (Nat.le_of_ble_eq_true rfl) (Nat.le_of_ble_eq_true rfl)
set_option maxHeartbeats 4000000 in
set_option maxRecDepth 100000 in
theorem k288_L_link (l : Launch) (D : va_G) (cs : Nat → ClassId) (sz : Nat) (hlt : l.stackTraces = false) (a0 a1 a2 a3 a4 a5 : Nat) (x0 : Int32) (x1 : Int32) (hf0 : x0 < 0) : KH l yL_link wsL_link 8 143 1 6 D cs sz [.ref a0, .int x0, .int x1, .ref a1] [(a0, .inr (8, [.ref a2, .ref a3, .ref a4, .ref a5, .int 0, .int 0, .int (-1)]))] (fun u => []) (1) := by
  refine KH.of cL_link 5 (some .int) (by decide) rfl (Nat.le_of_ble_eq_true rfl) ?_
  intro p e s m below meth c A ls hx hb hr hml hown hts hlocks htab hP hN hD hA hS hl hZ
  have hown : s.vm.findClass RL = some m.cls := hown
  have hl : lv_has ls 5 [(0, .ref a0), (1, .int x0), (2, .int x1), (3, .ref a1)] := hl
  refine lv_aload_n hx hb dL_link_0 rfl (lv_at hl 3 rfl) ?_
  refine lv_iconst (v := 0) hx hb dL_link_1 (by decide) ?_
  refine lv_aload_n hx hb dL_link_2 rfl (lv_at hl 0 rfl) ?_
  refine lv_iload_n hx hb dL_link_3 rfl (lv_at hl 1 rfl) ?_
  refine lv_iload_n hx hb dL_link_4 rfl (lv_at hl 2 rfl) ?_
  refine xc_i (wr := []) (As := [.int x0, .int x1]) (rest := [.int 0, .ref a1]) (b := a0) ⟨hx, hb, hml, hown, hts⟩ (fun sz => k287_X8_link l D cs sz hlt a0 a2 a3 a4 a5 (x0) (x1) hf0) (cwV 2 hts gL_link_X8_link rfl rfl rfl hdX8_link_v ⟨Nat.le_of_ble_eq_true rfl, Nat.le_of_ble_eq_true rfl⟩) hN hP hD hS hA hZ [0] rfl rfl (ci := 8) (q0 := 0) rfl rfl rfl rfl hl.1 (Nat.le_of_ble_eq_true rfl) dL_link_5 (Nat.le_of_ble_eq_true rfl) (Nat.le_of_ble_eq_true rfl) [] rfl rfl (by decide) [] ⟨0, 10, 13, 22⟩ [] htab (fun z h => nomatch h) rfl (by decide) (hts _ mL_link_1) 2 rfl (fun q9_6 H locs hP hD hS => ?_)
  have hP : va_P D vwCl [] H := hP
  have hD : va_D A [] := hD
  refine W.widen (k := 1) (n := 6) (Nat.le_of_ble_eq_true rfl) (Nat.le_of_ble_eq_true rfl) ?_
  refine lv_astore (lv' := [(4, .ref q9_6), (0, .ref a0), (1, .int x0), (2, .int x1), (3, .ref a1)]) hx hb dL_link_13 hl (by decide) rfl (fun ls hl => ?_)
  refine lv_iconst (v := 1) hx hb dL_link_15 (by decide) ?_
  exact en_i (fun k => ([] : List Nat).getD k 0) hx hb hr hlocks rfl rfl hP hD hS (Nat.le_of_ble_eq_true rfl) (Nat.le_of_ble_eq_true rfl) dL_link_16
set_option maxHeartbeats 4000000 in
set_option maxRecDepth 100000 in
theorem k289_X9_link (l : Launch) (D : va_G) (cs : Nat → ClassId) (sz : Nat) (a0 a1 a2 a3 a4 a5 a6 : Nat) (x0 : Int32) (x1 : Int32) (hf0 : x0 < 0) : KI l yX9_link wsX9_link 2 43 0 0 D cs sz [.ref a0, .int x0, .int x1] [(a0, .inr (9, [.int 0, .ref a2, .int 0, .int 0, .int 0, .int 0, .int 0, .int (-1), .ref a1, .ref a3, .ref a4, .ref a5, .int 0, .int 0, .int 0, .int 0, .int 0, .ref a6])), (a1, .inl (cs 0, 45783, .inl (layF (fun _ => 0) 1)))] (fun u => [(a1, .inl (cs 0, 45783, .inl (layF (fun _ => 0) 1))), (a0, .inr (9, [.int 1, .ref a2, .int 0, .int 0, .int 0, .int 0, .int 0, .int (-1), .ref a1, .ref a3, .ref a4, .ref a5, .int 0, .int 0, .int 0, .int 0, .int 0, .ref a6]))]) (0) := by
  refine KI.of cX9_link 3 (some .int) (by decide) rfl (Nat.le_of_ble_eq_true rfl) ?_
  intro p e s m below meth c A ls hx hb hr hml hown hts hlocks hin hP hN hD hA hS hl
  have hown : s.vm.findClass RX9 = some m.cls := hown
  have hl : lv_has ls 3 [(0, .ref a0), (1, .int x0), (2, .int x1)] := hl
  refine lv_aload_n hx hb dX9_link_0 rfl (lv_at hl 0 rfl) ?_
  refine lv_iconst (v := 0) hx hb dX9_link_1 (by decide) ?_
  refine va_put (D := D) (ci := 9) (v := .int 0) (ty := .int) (C := RX9) (T := TX9) (N := 18) hx hb hts iX9_link_9 tyX9 tyX9_ok nmX9 hown hN.1 hP hD hS 0 rfl rfl 0 (by decide) (hts _ mX9_link_1) (fun _ h9 => h9) rfl (by decide +kernel) rfl rfl (Nat.le_of_ble_eq_true rfl) dX9_link_2 (fun H locs hP hD hS => ?_)
  have hP : va_P D vwCl [(a0, .inr (9, [.int 0, .ref a2, .int 0, .int 0, .int 0, .int 0, .int 0, .int (-1), .ref a1, .ref a3, .ref a4, .ref a5, .int 0, .int 0, .int 0, .int 0, .int 0, .ref a6])), (a1, .inl (cs 0, 45783, .inl (layF (fun _ => 0) 1)))] H := hP
  have hD : va_D A [(a0, .inr (9, [.int 0, .ref a2, .int 0, .int 0, .int 0, .int 0, .int 0, .int (-1), .ref a1, .ref a3, .ref a4, .ref a5, .int 0, .int 0, .int 0, .int 0, .int 0, .ref a6])), (a1, .inl (cs 0, 45783, .inl (layF (fun _ => 0) 1)))] := hD
  refine lv_aload_n hx hb dX9_link_5 rfl (lv_at hl 0 rfl) ?_
  refine lv_iload_n hx hb dX9_link_6 rfl (lv_at hl 1 rfl) ?_
  refine cv_i (As := [.int x0]) (rest := []) (b := a0) (wr := []) ⟨hx, hb, hml, hown, hts⟩ (fun sz => k269_X9_noPlayer l D cs sz a0 a1 a2 a3 a4 a5 a6 (x0) hf0) (cwV 1 hts gX9_link_X9_noPlayer rfl rfl rfl hdX9_noPlayer_v ⟨Nat.le_of_ble_eq_true rfl, Nat.le_of_ble_eq_true rfl⟩) hN hP hD hS hA [0, 1] [] rfl rfl rfl rfl (by decide) (ci := 9) (q0 := 0) rfl rfl rfl rfl hl.1 (Nat.le_of_ble_eq_true rfl) dX9_link_7 (Nat.le_of_ble_eq_true rfl) (Nat.le_of_ble_eq_true rfl) (fun u0 H locs hP hD hS => ?_)
  have hP : va_P D vwCl [(a1, .inl (cs 0, 45783, .inl (layF (fun _ => 0) 1))), (a0, .inr (9, [.int 1, .ref a2, .int 0, .int 0, .int 0, .int 0, .int 0, .int (-1), .ref a1, .ref a3, .ref a4, .ref a5, .int 0, .int 0, .int 0, .int 0, .int 0, .ref a6]))] H := hP
  have hD : va_D A [(a1, .inl (cs 0, 45783, .inl (layF (fun _ => 0) 1))), (a0, .inr (9, [.int 1, .ref a2, .int 0, .int 0, .int 0, .int 0, .int 0, .int (-1), .ref a1, .ref a3, .ref a4, .ref a5, .int 0, .int 0, .int 0, .int 0, .int 0, .ref a6]))] := hD
  refine W.widen (k := 0) (n := 0) (Nat.le_of_ble_eq_true rfl) (Nat.le_of_ble_eq_true rfl) ?_
  refine lv_if_ne (tgt := 21) hx hb dX9_link_10 (by decide) (fun _ => ?_) (fun c9 => absurd c9 (by decide))
  refine lv_iconst (v := 0) hx hb dX9_link_21 (by decide) ?_
  refine lv_goto (tgt := 35) hx hb dX9_link_22 (by decide) ?_
  exact en_i (fun k => ([] : List Nat).getD k 0) hx hb hr hlocks rfl rfl hP hD hS (Nat.le_of_ble_eq_true rfl) (Nat.le_of_ble_eq_true rfl) dX9_link_35
set_option maxHeartbeats 4000000 in
set_option maxRecDepth 100000 in
theorem law_5_n {p : Program} {l : Launch} {e : Env} {s : State} {m : MethodId} {args : Array Value} {below : List Frame} {meth : Method} {c : Code} {Q : State → Prop} {D : va_G} {cs : Nat → ClassId} {A : Nat → Prop} {xs : Nat → Int32} {b : Nat} (hx : p.tables.exec = Jvm.exec) (hb : c.code = cL_law) (hml : c.maxLocals = 9) (hown : s.vm.findClass RL = some m.cls) (hts : ∀ w ∈ wsL_law, w.before args s = true) (hN : NK D cs s) (hX : va_X b 6 xs s s.heap) (hbl : b < s.heap.size) (hbA : ¬ A b) (hA : ∀ q : Nat, s.heap.size ≤ q → A q) (hZ : ZX A s s.heap) (hZS : ZS cs A s s.heap) (hlt : l.stackTraces = false)
    (kend : ∀ (H : Heap) (locs : List Loc) (ls : Array Slot), va_S A s.heap H locs → lv_has ls 9 [(0, .ref b), (4, .int 0)] → W p l e room_1 s m args below meth c H locs 600002 7302232 Q (F0 m 1169 ls []))
    (a0 a1 a2 a3 a4 a5 a6 a7 a8 a9 a10 a11 a12 : Nat) (y1 y2 : Int32) (hy1 : xs 1 = (y1)) (hy2 : xs 2 = (y2)) (g1_2 : y1 < 0) (H : Heap) (locs : List Loc) (ls : Array Slot) (hP : va_P D vwCl [(a0, .inr (8, [.ref a3, .ref a4, .ref a5, .ref a6, .int 0, .int 0, .int (-1)])), (a1, .inr (9, [.int 0, .ref a7, .int 0, .int 0, .int 0, .int 0, .int 0, .int (-1), .ref a2, .ref a8, .ref a9, .ref a10, .int 0, .int 0, .int 0, .int 0, .int 0, .ref a11])), (a2, .inl (cs 0, 45783, .inl (layF (fun _ => 0) 1)))] H) (hD : va_D A [(a0, .inr (8, [.ref a3, .ref a4, .ref a5, .ref a6, .int 0, .int 0, .int (-1)])), (a1, .inr (9, [.int 0, .ref a7, .int 0, .int 0, .int 0, .int 0, .int 0, .int (-1), .ref a2, .ref a8, .ref a9, .ref a10, .int 0, .int 0, .int 0, .int 0, .int 0, .ref a11])), (a2, .inl (cs 0, 45783, .inl (layF (fun _ => 0) 1)))]) (hS : va_S A s.heap H locs) (hl : lv_has ls 9 [(4, .int 0), (3, .ref a12), (2, .ref a1), (1, .ref a0), (0, .ref b)]) : W p l e room_1 s m args below meth c H locs 391 467079 Q (F0 m 402 ls []) := by
  refine lv_aload_n hx hb dL_law_402 rfl (lv_at hl 3 rfl) ?_
  refine lv_aload_n hx hb dL_law_403 rfl (lv_at hl 4 rfl) ?_
  refine lv_iload hx hb dL_law_404 (lv_at hl 0 rfl) ?_
  refine lv_iconst (v := 1) hx hb dL_law_406 (by decide) ?_
  refine lv_iadd hx hb dL_law_407 ?_
  refine tp_i (1) (by decide) ?_
  refine va_sld hx hb hX hbl hbA hS (vin (by decide +kernel)) dL_law_408 ?_
  refine tp_i (y1) hy1 ?_
  refine lv_aload_n hx hb dL_law_409 rfl (lv_at hl 4 rfl) ?_
  refine lv_iload hx hb dL_law_410 (lv_at hl 0 rfl) ?_
  refine lv_iconst (v := 2) hx hb dL_law_412 (by decide) ?_
  refine lv_iadd hx hb dL_law_413 ?_
  refine tp_i (2) (by decide) ?_
  refine va_sld hx hb hX hbl hbA hS (vin (by decide +kernel)) dL_law_414 ?_
  refine tp_i (y2) hy2 ?_
  refine lv_aload_n hx hb dL_law_415 rfl (lv_at hl 1 rfl) ?_
  refine ch_i (As := [.ref a0, .int y1, .int y2, .ref a12]) (rest := []) (wr := [(a1, .inr (9, [.int 0, .ref a7, .int 0, .int 0, .int 0, .int 0, .int 0, .int (-1), .ref a2, .ref a8, .ref a9, .ref a10, .int 0, .int 0, .int 0, .int 0, .int 0, .ref a11])), (a2, .inl (cs 0, 45783, .inl (layF (fun _ => 0) 1)))]) ⟨hx, hb, hml, hown, hts⟩ (fun sz => k288_L_link l D cs sz hlt a0 a12 a3 a4 a5 a6 (y1) (y2) g1_2) (vx_cwSW 4 hts gL_law_L_link rfl rfl rfl hdL_link_o ⟨Nat.le_of_ble_eq_true rfl, Nat.le_of_ble_eq_true rfl⟩) hN hP hD hS hA hZ [0] [1, 2] rfl rfl rfl rfl (by decide) rfl rfl hl.1 (Nat.le_of_ble_eq_true rfl) dL_law_416 (Nat.le_of_ble_eq_true rfl) (Nat.le_of_ble_eq_true rfl) (fun u0 H locs hP hD hS => ?_)
  have hP : va_P D vwCl [(a1, .inr (9, [.int 0, .ref a7, .int 0, .int 0, .int 0, .int 0, .int 0, .int (-1), .ref a2, .ref a8, .ref a9, .ref a10, .int 0, .int 0, .int 0, .int 0, .int 0, .ref a11])), (a2, .inl (cs 0, 45783, .inl (layF (fun _ => 0) 1)))] H := hP
  have hD : va_D A [(a1, .inr (9, [.int 0, .ref a7, .int 0, .int 0, .int 0, .int 0, .int 0, .int (-1), .ref a2, .ref a8, .ref a9, .ref a10, .int 0, .int 0, .int 0, .int 0, .int 0, .ref a11])), (a2, .inl (cs 0, 45783, .inl (layF (fun _ => 0) 1)))] := hD
  refine W.widen (k := 392) (n := 467085) (Nat.le_of_ble_eq_true rfl) (Nat.le_of_ble_eq_true rfl) ?_
  refine lv_istore (lv' := [(5, .int 1), (4, .int 0), (3, .ref a12), (2, .ref a1), (1, .ref a0), (0, .ref b)]) hx hb dL_law_419 hl (by decide) rfl (fun ls hl => ?_)
  refine lv_aload_n hx hb dL_law_421 rfl (lv_at hl 3 rfl) ?_
  refine lv_aload_n hx hb dL_law_422 rfl (lv_at hl 5 rfl) ?_
  refine lv_iload hx hb dL_law_423 (lv_at hl 1 rfl) ?_
  refine lv_iconst (v := 1) hx hb dL_law_425 (by decide) ?_
  refine lv_iadd hx hb dL_law_426 ?_
  refine tp_i (1) (by decide) ?_
  refine va_sld hx hb hX hbl hbA hS (vin (by decide +kernel)) dL_law_427 ?_
  refine tp_i (y1) hy1 ?_
  refine lv_aload_n hx hb dL_law_428 rfl (lv_at hl 5 rfl) ?_
  refine lv_iload hx hb dL_law_429 (lv_at hl 1 rfl) ?_
  refine lv_iconst (v := 2) hx hb dL_law_431 (by decide) ?_
  refine lv_iadd hx hb dL_law_432 ?_
  refine tp_i (2) (by decide) ?_
  refine va_sld hx hb hX hbl hbA hS (vin (by decide +kernel)) dL_law_433 ?_
  refine tp_i (y2) hy2 ?_
  refine cv_i (As := [.int y1, .int y2]) (rest := []) (b := a1) (wr := []) ⟨hx, hb, hml, hown, hts⟩ (fun sz => k289_X9_link l D cs sz a1 a2 a7 a8 a9 a10 a11 (y1) (y2) g1_2) (cwV 2 hts gL_law_X9_link rfl rfl rfl hdX9_link_v ⟨Nat.le_of_ble_eq_true rfl, Nat.le_of_ble_eq_true rfl⟩) hN hP hD hS hA [0, 1] [] rfl rfl rfl rfl (by decide) (ci := 9) (q0 := 0) rfl rfl rfl rfl hl.1 (Nat.le_of_ble_eq_true rfl) dL_law_434 (Nat.le_of_ble_eq_true rfl) (Nat.le_of_ble_eq_true rfl) (fun u1 H locs hP hD hS => ?_)
  have hP : va_P D vwCl [(a2, .inl (cs 0, 45783, .inl (layF (fun _ => 0) 1))), (a1, .inr (9, [.int 1, .ref a7, .int 0, .int 0, .int 0, .int 0, .int 0, .int (-1), .ref a2, .ref a8, .ref a9, .ref a10, .int 0, .int 0, .int 0, .int 0, .int 0, .ref a11]))] H := hP
  have hD : va_D A [(a2, .inl (cs 0, 45783, .inl (layF (fun _ => 0) 1))), (a1, .inr (9, [.int 1, .ref a7, .int 0, .int 0, .int 0, .int 0, .int 0, .int (-1), .ref a2, .ref a8, .ref a9, .ref a10, .int 0, .int 0, .int 0, .int 0, .int 0, .ref a11]))] := hD
  refine W.widen (k := 392) (n := 467085) (Nat.le_of_ble_eq_true rfl) (Nat.le_of_ble_eq_true rfl) ?_
  refine lv_istore (lv' := [(6, .int 0), (5, .int 1), (4, .int 0), (3, .ref a12), (2, .ref a1), (1, .ref a0), (0, .ref b)]) hx hb dL_law_437 hl (by decide) rfl (fun ls hl => ?_)
  refine lv_aload_n hx hb dL_law_439 rfl (lv_at hl 4 rfl) ?_
  refine cv_i (As := []) (rest := []) (b := a1) (wr := [(a2, .inl (cs 0, 45783, .inl (layF (fun _ => 0) 1)))]) ⟨hx, hb, hml, hown, hts⟩ (fun sz => k158_X9_thrown l D cs sz a1 a7 a2 a8 a9 a10 a11) (cwV 0 hts gL_law_X9_thrown rfl rfl rfl hdX9_thrown_v ⟨Nat.le_of_ble_eq_true rfl, Nat.le_of_ble_eq_true rfl⟩) hN hP hD hS hA [1] [0] rfl rfl rfl rfl (by decide) (ci := 9) (q0 := 0) rfl rfl rfl rfl hl.1 (Nat.le_of_ble_eq_true rfl) dL_law_440 (Nat.le_of_ble_eq_true rfl) (Nat.le_of_ble_eq_true rfl) (fun u2 H locs hP hD hS => ?_)
  have hP : va_P D vwCl [(a2, .inl (cs 0, 45783, .inl (layF (fun _ => 0) 1))), (a1, .inr (9, [.int 1, .ref a7, .int 0, .int 0, .int 0, .int 0, .int 0, .int (-1), .ref a2, .ref a8, .ref a9, .ref a10, .int 0, .int 0, .int 0, .int 0, .int 0, .ref a11]))] H := hP
  have hD : va_D A [(a2, .inl (cs 0, 45783, .inl (layF (fun _ => 0) 1))), (a1, .inr (9, [.int 1, .ref a7, .int 0, .int 0, .int 0, .int 0, .int 0, .int (-1), .ref a2, .ref a8, .ref a9, .ref a10, .int 0, .int 0, .int 0, .int 0, .int 0, .ref a11]))] := hD
  refine W.widen (k := 392) (n := 467085) (Nat.le_of_ble_eq_true rfl) (Nat.le_of_ble_eq_true rfl) ?_
  refine lv_iload hx hb dL_law_443 (lv_at hl 1 rfl) ?_
  refine lv_icmp_eq (tgt := 450) hx hb dL_law_445 (by decide) (fun _ => ?_) (fun c9 => absurd (by decide) c9)
  refine lv_iload hx hb dL_law_450 (lv_at hl 1 rfl) ?_
  refine lv_if_ne (tgt := 467) hx hb dL_law_452 (by decide) (fun _ => ?_) (fun c9 => absurd c9 (by decide))
  refine lv_goto (tgt := 1169) hx hb dL_law_467 (by decide) ?_
  refine W.widen (k := 600002) (n := 7302232) (Nat.le_of_ble_eq_true rfl) (Nat.le_of_ble_eq_true rfl) ?_
  exact kend _ _ _ hS (lv_sub hl [6, 2] rfl)

set_option maxHeartbeats 4000000 in
set_option maxRecDepth 100000 in
theorem k290_X8_link (l : Launch) (D : va_G) (cs : Nat → ClassId) (sz : Nat) (hlt : l.stackTraces = false) (a0 a1 a2 a3 a4 a5 a6 a7 a8 a9 a10 a11 a12 a13 a14 : Nat) (x0 : Int32) (x1 : Int32) (hf0 : ¬ x0 < 0) (hf1 : ¬ x0 < 1) : KX l yX8_link wsX8_link 7 121 1 6 D cs sz [.ref a0, .int x0, .int x1] [(a0, .inr (8, [.ref a3, .ref a1, .ref a4, .ref a5, .int 0, .int 0, .int (-1)])), (a1, .inr (7, [.ref a2, .ref a6, .ref a7, .ref a8, .ref a9, .ref a10, .long 0, .int 0, .int 0, .int 0, .int 0, .int 0, .int 0, .int 0, .int 0, .int 0])), (a2, .inr (6, [.int 1, .int 1, .int 50, .null, .ref a11, .ref a12, .ref a13, .ref a14]))] QnI "java/lang/IndexOutOfBoundsException" := by
  refine KX.of cX8_link 3 (some .int) (by decide) rfl (Nat.le_of_ble_eq_true rfl) ?_
  intro p e s m below meth c A ls hx hb hr hml hown hts hlocks hnx hP hN hD hA hS hl hZ
  have hown : s.vm.findClass RX8 = some m.cls := hown
  have hl : lv_has ls 3 [(0, .ref a0), (1, .int x0), (2, .int x1)] := hl
  refine lv_aload_n hx hb dX8_link_0 rfl (lv_at hl 0 rfl) ?_
  refine lv_iload_n hx hb dX8_link_1 rfl (lv_at hl 1 rfl) ?_
  exact xp_v (As := [.int x0]) (rest := []) (b := a0) ⟨hx, hb, hml, hown, hts⟩ (fun sz => k271_X8_refuseNoPlayer l D cs sz hlt a0 a1 a2 a3 a4 a5 a6 a7 a8 a9 a10 a11 a12 a13 a14 (x0) hf0 hf1) (cwV 1 hts gX8_link_X8_refuseNoPlayer rfl rfl rfl hdX8_refuseNoPlayer_v ⟨Nat.le_of_ble_eq_true rfl, Nat.le_of_ble_eq_true rfl⟩) hN hP hD hS hA hZ [0, 1, 2] rfl rfl (ci := 8) (q0 := 0) rfl rfl rfl rfl hl.1 (Nat.le_of_ble_eq_true rfl) dX8_link_2 (Nat.le_of_ble_eq_true rfl) (Nat.le_of_ble_eq_true rfl) hnx hlocks (Nat.le_of_ble_eq_true rfl) (Nat.le_of_ble_eq_true rfl)
set_option maxHeartbeats 4000000 in
set_option maxRecDepth 100000 in
theorem k291_L_link (l : Launch) (D : va_G) (cs : Nat → ClassId) (sz : Nat) (hlt : l.stackTraces = false) (a0 a1 a2 a3 a4 a5 a6 a7 a8 a9 a10 a11 a12 a13 a14 a15 : Nat) (x0 : Int32) (x1 : Int32) (hf0 : ¬ x0 < 0) (hf1 : ¬ x0 < 1) : KH l yL_link wsL_link 8 143 1 6 D cs sz [.ref a0, .int x0, .int x1, .ref a3] [(a0, .inr (8, [.ref a4, .ref a1, .ref a5, .ref a6, .int 0, .int 0, .int (-1)])), (a1, .inr (7, [.ref a2, .ref a7, .ref a8, .ref a9, .ref a10, .ref a11, .long 0, .int 0, .int 0, .int 0, .int 0, .int 0, .int 0, .int 0, .int 0, .int 0])), (a2, .inr (6, [.int 1, .int 1, .int 50, .null, .ref a12, .ref a13, .ref a14, .ref a15]))] (fun u => []) (1) := by
  refine KH.of cL_link 5 (some .int) (by decide) rfl (Nat.le_of_ble_eq_true rfl) ?_
  intro p e s m below meth c A ls hx hb hr hml hown hts hlocks htab hP hN hD hA hS hl hZ
  have hown : s.vm.findClass RL = some m.cls := hown
  have hl : lv_has ls 5 [(0, .ref a0), (1, .int x0), (2, .int x1), (3, .ref a3)] := hl
  refine lv_aload_n hx hb dL_link_0 rfl (lv_at hl 3 rfl) ?_
  refine lv_iconst (v := 0) hx hb dL_link_1 (by decide) ?_
  refine lv_aload_n hx hb dL_link_2 rfl (lv_at hl 0 rfl) ?_
  refine lv_iload_n hx hb dL_link_3 rfl (lv_at hl 1 rfl) ?_
  refine lv_iload_n hx hb dL_link_4 rfl (lv_at hl 2 rfl) ?_
  refine xc_i (wr := []) (As := [.int x0, .int x1]) (rest := [.int 0, .ref a3]) (b := a0) ⟨hx, hb, hml, hown, hts⟩ (fun sz => k290_X8_link l D cs sz hlt a0 a1 a2 a4 a5 a6 a7 a8 a9 a10 a11 a12 a13 a14 a15 (x0) (x1) hf0 hf1) (cwV 2 hts gL_link_X8_link rfl rfl rfl hdX8_link_v ⟨Nat.le_of_ble_eq_true rfl, Nat.le_of_ble_eq_true rfl⟩) hN hP hD hS hA hZ [0, 1, 2] rfl rfl (ci := 8) (q0 := 0) rfl rfl rfl rfl hl.1 (Nat.le_of_ble_eq_true rfl) dL_link_5 (Nat.le_of_ble_eq_true rfl) (Nat.le_of_ble_eq_true rfl) [] rfl rfl (by decide) [] ⟨0, 10, 13, 22⟩ [] htab (fun z h => nomatch h) rfl (by decide) (hts _ mL_link_1) 2 rfl (fun q9_6 H locs hP hD hS => ?_)
  have hP : va_P D vwCl [] H := hP
  have hD : va_D A [] := hD
  refine W.widen (k := 1) (n := 6) (Nat.le_of_ble_eq_true rfl) (Nat.le_of_ble_eq_true rfl) ?_
  refine lv_astore (lv' := [(4, .ref q9_6), (0, .ref a0), (1, .int x0), (2, .int x1), (3, .ref a3)]) hx hb dL_link_13 hl (by decide) rfl (fun ls hl => ?_)
  refine lv_iconst (v := 1) hx hb dL_link_15 (by decide) ?_
  exact en_i (fun k => ([] : List Nat).getD k 0) hx hb hr hlocks rfl rfl hP hD hS (Nat.le_of_ble_eq_true rfl) (Nat.le_of_ble_eq_true rfl) dL_link_16
set_option maxHeartbeats 4000000 in
set_option maxRecDepth 100000 in
theorem k292_X9_link (l : Launch) (D : va_G) (cs : Nat → ClassId) (sz : Nat) (a0 a1 a2 a3 a4 a5 a6 : Nat) (x0 : Int32) (x1 : Int32) (hf0 : ¬ x0 < 0) (hf1 : 0 < x0) : KI l yX9_link wsX9_link 2 43 0 0 D cs sz [.ref a0, .int x0, .int x1] [(a0, .inr (9, [.int 0, .ref a2, .int 0, .int 0, .int 0, .int 0, .int 0, .int (-1), .ref a1, .ref a3, .ref a4, .ref a5, .int 0, .int 0, .int 0, .int 0, .int 0, .ref a6])), (a1, .inl (cs 0, 45783, .inl (layF (fun _ => 0) 1)))] (fun u => [(a1, .inl (cs 0, 45783, .inl (layF (fun _ => 0) 1))), (a0, .inr (9, [.int 1, .ref a2, .int 0, .int 0, .int 0, .int 0, .int 0, .int (-1), .ref a1, .ref a3, .ref a4, .ref a5, .int 0, .int 0, .int 0, .int 0, .int 0, .ref a6]))]) (0) := by
  refine KI.of cX9_link 3 (some .int) (by decide) rfl (Nat.le_of_ble_eq_true rfl) ?_
  intro p e s m below meth c A ls hx hb hr hml hown hts hlocks hin hP hN hD hA hS hl
  have hown : s.vm.findClass RX9 = some m.cls := hown
  have hl : lv_has ls 3 [(0, .ref a0), (1, .int x0), (2, .int x1)] := hl
  refine lv_aload_n hx hb dX9_link_0 rfl (lv_at hl 0 rfl) ?_
  refine lv_iconst (v := 0) hx hb dX9_link_1 (by decide) ?_
  refine va_put (D := D) (ci := 9) (v := .int 0) (ty := .int) (C := RX9) (T := TX9) (N := 18) hx hb hts iX9_link_9 tyX9 tyX9_ok nmX9 hown hN.1 hP hD hS 0 rfl rfl 0 (by decide) (hts _ mX9_link_1) (fun _ h9 => h9) rfl (by decide +kernel) rfl rfl (Nat.le_of_ble_eq_true rfl) dX9_link_2 (fun H locs hP hD hS => ?_)
  have hP : va_P D vwCl [(a0, .inr (9, [.int 0, .ref a2, .int 0, .int 0, .int 0, .int 0, .int 0, .int (-1), .ref a1, .ref a3, .ref a4, .ref a5, .int 0, .int 0, .int 0, .int 0, .int 0, .ref a6])), (a1, .inl (cs 0, 45783, .inl (layF (fun _ => 0) 1)))] H := hP
  have hD : va_D A [(a0, .inr (9, [.int 0, .ref a2, .int 0, .int 0, .int 0, .int 0, .int 0, .int (-1), .ref a1, .ref a3, .ref a4, .ref a5, .int 0, .int 0, .int 0, .int 0, .int 0, .ref a6])), (a1, .inl (cs 0, 45783, .inl (layF (fun _ => 0) 1)))] := hD
  refine lv_aload_n hx hb dX9_link_5 rfl (lv_at hl 0 rfl) ?_
  refine lv_iload_n hx hb dX9_link_6 rfl (lv_at hl 1 rfl) ?_
  refine cv_i (As := [.int x0]) (rest := []) (b := a0) (wr := []) ⟨hx, hb, hml, hown, hts⟩ (fun sz => k275_X9_noPlayer l D cs sz a0 a1 a2 a3 a4 a5 a6 (x0) hf0 hf1) (cwV 1 hts gX9_link_X9_noPlayer rfl rfl rfl hdX9_noPlayer_v ⟨Nat.le_of_ble_eq_true rfl, Nat.le_of_ble_eq_true rfl⟩) hN hP hD hS hA [0, 1] [] rfl rfl rfl rfl (by decide) (ci := 9) (q0 := 0) rfl rfl rfl rfl hl.1 (Nat.le_of_ble_eq_true rfl) dX9_link_7 (Nat.le_of_ble_eq_true rfl) (Nat.le_of_ble_eq_true rfl) (fun u0 H locs hP hD hS => ?_)
  have hP : va_P D vwCl [(a1, .inl (cs 0, 45783, .inl (layF (fun _ => 0) 1))), (a0, .inr (9, [.int 1, .ref a2, .int 0, .int 0, .int 0, .int 0, .int 0, .int (-1), .ref a1, .ref a3, .ref a4, .ref a5, .int 0, .int 0, .int 0, .int 0, .int 0, .ref a6]))] H := hP
  have hD : va_D A [(a1, .inl (cs 0, 45783, .inl (layF (fun _ => 0) 1))), (a0, .inr (9, [.int 1, .ref a2, .int 0, .int 0, .int 0, .int 0, .int 0, .int (-1), .ref a1, .ref a3, .ref a4, .ref a5, .int 0, .int 0, .int 0, .int 0, .int 0, .ref a6]))] := hD
  refine W.widen (k := 0) (n := 0) (Nat.le_of_ble_eq_true rfl) (Nat.le_of_ble_eq_true rfl) ?_
  refine lv_if_ne (tgt := 21) hx hb dX9_link_10 (by decide) (fun _ => ?_) (fun c9 => absurd c9 (by decide))
  refine lv_iconst (v := 0) hx hb dX9_link_21 (by decide) ?_
  refine lv_goto (tgt := 35) hx hb dX9_link_22 (by decide) ?_
  exact en_i (fun k => ([] : List Nat).getD k 0) hx hb hr hlocks rfl rfl hP hD hS (Nat.le_of_ble_eq_true rfl) (Nat.le_of_ble_eq_true rfl) dX9_link_35
set_option maxHeartbeats 4000000 in
set_option maxRecDepth 100000 in
theorem law_5_b {p : Program} {l : Launch} {e : Env} {s : State} {m : MethodId} {args : Array Value} {below : List Frame} {meth : Method} {c : Code} {Q : State → Prop} {D : va_G} {cs : Nat → ClassId} {A : Nat → Prop} {xs : Nat → Int32} {b : Nat} (hx : p.tables.exec = Jvm.exec) (hb : c.code = cL_law) (hml : c.maxLocals = 9) (hown : s.vm.findClass RL = some m.cls) (hts : ∀ w ∈ wsL_law, w.before args s = true) (hN : NK D cs s) (hX : va_X b 6 xs s s.heap) (hbl : b < s.heap.size) (hbA : ¬ A b) (hA : ∀ q : Nat, s.heap.size ≤ q → A q) (hZ : ZX A s s.heap) (hZS : ZS cs A s s.heap) (hlt : l.stackTraces = false)
    (kend : ∀ (H : Heap) (locs : List Loc) (ls : Array Slot), va_S A s.heap H locs → lv_has ls 9 [(0, .ref b), (4, .int 0)] → W p l e room_1 s m args below meth c H locs 600002 7302232 Q (F0 m 1169 ls []))
    (a0 a1 a2 a3 a4 a5 a6 a7 a8 a9 a10 a11 a12 a13 a14 a15 a16 a17 a18 a19 a20 a21 a22 : Nat) (y1 y2 : Int32) (hy1 : xs 1 = (y1)) (hy2 : xs 2 = (y2)) (g1_4 : ¬ y1 < 0) (g1_8 : ¬ y1 < 1) (g1_7 : 0 < y1) (H : Heap) (locs : List Loc) (ls : Array Slot) (hP : va_P D vwCl [(a0, .inr (8, [.ref a5, .ref a2, .ref a6, .ref a7, .int 0, .int 0, .int (-1)])), (a1, .inr (6, [.int 1, .int 1, .int 50, .null, .ref a8, .ref a9, .ref a10, .ref a11])), (a2, .inr (7, [.ref a1, .ref a12, .ref a13, .ref a14, .ref a15, .ref a16, .long 0, .int 0, .int 0, .int 0, .int 0, .int 0, .int 0, .int 0, .int 0, .int 0])), (a3, .inr (9, [.int 0, .ref a17, .int 0, .int 0, .int 0, .int 0, .int 0, .int (-1), .ref a4, .ref a18, .ref a19, .ref a20, .int 0, .int 0, .int 0, .int 0, .int 0, .ref a21])), (a4, .inl (cs 0, 45783, .inl (layF (fun _ => 0) 1)))] H) (hD : va_D A [(a0, .inr (8, [.ref a5, .ref a2, .ref a6, .ref a7, .int 0, .int 0, .int (-1)])), (a1, .inr (6, [.int 1, .int 1, .int 50, .null, .ref a8, .ref a9, .ref a10, .ref a11])), (a2, .inr (7, [.ref a1, .ref a12, .ref a13, .ref a14, .ref a15, .ref a16, .long 0, .int 0, .int 0, .int 0, .int 0, .int 0, .int 0, .int 0, .int 0, .int 0])), (a3, .inr (9, [.int 0, .ref a17, .int 0, .int 0, .int 0, .int 0, .int 0, .int (-1), .ref a4, .ref a18, .ref a19, .ref a20, .int 0, .int 0, .int 0, .int 0, .int 0, .ref a21])), (a4, .inl (cs 0, 45783, .inl (layF (fun _ => 0) 1)))]) (hS : va_S A s.heap H locs) (hl : lv_has ls 9 [(4, .int 0), (3, .ref a22), (2, .ref a3), (1, .ref a0), (0, .ref b)]) : W p l e room_1 s m args below meth c H locs 391 467079 Q (F0 m 402 ls []) := by
  refine lv_aload_n hx hb dL_law_402 rfl (lv_at hl 3 rfl) ?_
  refine lv_aload_n hx hb dL_law_403 rfl (lv_at hl 4 rfl) ?_
  refine lv_iload hx hb dL_law_404 (lv_at hl 0 rfl) ?_
  refine lv_iconst (v := 1) hx hb dL_law_406 (by decide) ?_
  refine lv_iadd hx hb dL_law_407 ?_
  refine tp_i (1) (by decide) ?_
  refine va_sld hx hb hX hbl hbA hS (vin (by decide +kernel)) dL_law_408 ?_
  refine tp_i (y1) hy1 ?_
  refine lv_aload_n hx hb dL_law_409 rfl (lv_at hl 4 rfl) ?_
  refine lv_iload hx hb dL_law_410 (lv_at hl 0 rfl) ?_
  refine lv_iconst (v := 2) hx hb dL_law_412 (by decide) ?_
  refine lv_iadd hx hb dL_law_413 ?_
  refine tp_i (2) (by decide) ?_
  refine va_sld hx hb hX hbl hbA hS (vin (by decide +kernel)) dL_law_414 ?_
  refine tp_i (y2) hy2 ?_
  refine lv_aload_n hx hb dL_law_415 rfl (lv_at hl 1 rfl) ?_
  refine ch_i (As := [.ref a0, .int y1, .int y2, .ref a22]) (rest := []) (wr := [(a3, .inr (9, [.int 0, .ref a17, .int 0, .int 0, .int 0, .int 0, .int 0, .int (-1), .ref a4, .ref a18, .ref a19, .ref a20, .int 0, .int 0, .int 0, .int 0, .int 0, .ref a21])), (a4, .inl (cs 0, 45783, .inl (layF (fun _ => 0) 1)))]) ⟨hx, hb, hml, hown, hts⟩ (fun sz => k291_L_link l D cs sz hlt a0 a2 a1 a22 a5 a6 a7 a12 a13 a14 a15 a16 a8 a9 a10 a11 (y1) (y2) g1_4 g1_8) (vx_cwSW 4 hts gL_law_L_link rfl rfl rfl hdL_link_o ⟨Nat.le_of_ble_eq_true rfl, Nat.le_of_ble_eq_true rfl⟩) hN hP hD hS hA hZ [0, 2, 1] [3, 4] rfl rfl rfl rfl (by decide) rfl rfl hl.1 (Nat.le_of_ble_eq_true rfl) dL_law_416 (Nat.le_of_ble_eq_true rfl) (Nat.le_of_ble_eq_true rfl) (fun u0 H locs hP hD hS => ?_)
  have hP : va_P D vwCl [(a3, .inr (9, [.int 0, .ref a17, .int 0, .int 0, .int 0, .int 0, .int 0, .int (-1), .ref a4, .ref a18, .ref a19, .ref a20, .int 0, .int 0, .int 0, .int 0, .int 0, .ref a21])), (a4, .inl (cs 0, 45783, .inl (layF (fun _ => 0) 1)))] H := hP
  have hD : va_D A [(a3, .inr (9, [.int 0, .ref a17, .int 0, .int 0, .int 0, .int 0, .int 0, .int (-1), .ref a4, .ref a18, .ref a19, .ref a20, .int 0, .int 0, .int 0, .int 0, .int 0, .ref a21])), (a4, .inl (cs 0, 45783, .inl (layF (fun _ => 0) 1)))] := hD
  refine W.widen (k := 392) (n := 467085) (Nat.le_of_ble_eq_true rfl) (Nat.le_of_ble_eq_true rfl) ?_
  refine lv_istore (lv' := [(5, .int 1), (4, .int 0), (3, .ref a22), (2, .ref a3), (1, .ref a0), (0, .ref b)]) hx hb dL_law_419 hl (by decide) rfl (fun ls hl => ?_)
  refine lv_aload_n hx hb dL_law_421 rfl (lv_at hl 3 rfl) ?_
  refine lv_aload_n hx hb dL_law_422 rfl (lv_at hl 5 rfl) ?_
  refine lv_iload hx hb dL_law_423 (lv_at hl 1 rfl) ?_
  refine lv_iconst (v := 1) hx hb dL_law_425 (by decide) ?_
  refine lv_iadd hx hb dL_law_426 ?_
  refine tp_i (1) (by decide) ?_
  refine va_sld hx hb hX hbl hbA hS (vin (by decide +kernel)) dL_law_427 ?_
  refine tp_i (y1) hy1 ?_
  refine lv_aload_n hx hb dL_law_428 rfl (lv_at hl 5 rfl) ?_
  refine lv_iload hx hb dL_law_429 (lv_at hl 1 rfl) ?_
  refine lv_iconst (v := 2) hx hb dL_law_431 (by decide) ?_
  refine lv_iadd hx hb dL_law_432 ?_
  refine tp_i (2) (by decide) ?_
  refine va_sld hx hb hX hbl hbA hS (vin (by decide +kernel)) dL_law_433 ?_
  refine tp_i (y2) hy2 ?_
  refine cv_i (As := [.int y1, .int y2]) (rest := []) (b := a3) (wr := []) ⟨hx, hb, hml, hown, hts⟩ (fun sz => k292_X9_link l D cs sz a3 a4 a17 a18 a19 a20 a21 (y1) (y2) g1_4 g1_7) (cwV 2 hts gL_law_X9_link rfl rfl rfl hdX9_link_v ⟨Nat.le_of_ble_eq_true rfl, Nat.le_of_ble_eq_true rfl⟩) hN hP hD hS hA [0, 1] [] rfl rfl rfl rfl (by decide) (ci := 9) (q0 := 0) rfl rfl rfl rfl hl.1 (Nat.le_of_ble_eq_true rfl) dL_law_434 (Nat.le_of_ble_eq_true rfl) (Nat.le_of_ble_eq_true rfl) (fun u1 H locs hP hD hS => ?_)
  have hP : va_P D vwCl [(a4, .inl (cs 0, 45783, .inl (layF (fun _ => 0) 1))), (a3, .inr (9, [.int 1, .ref a17, .int 0, .int 0, .int 0, .int 0, .int 0, .int (-1), .ref a4, .ref a18, .ref a19, .ref a20, .int 0, .int 0, .int 0, .int 0, .int 0, .ref a21]))] H := hP
  have hD : va_D A [(a4, .inl (cs 0, 45783, .inl (layF (fun _ => 0) 1))), (a3, .inr (9, [.int 1, .ref a17, .int 0, .int 0, .int 0, .int 0, .int 0, .int (-1), .ref a4, .ref a18, .ref a19, .ref a20, .int 0, .int 0, .int 0, .int 0, .int 0, .ref a21]))] := hD
  refine W.widen (k := 392) (n := 467085) (Nat.le_of_ble_eq_true rfl) (Nat.le_of_ble_eq_true rfl) ?_
  refine lv_istore (lv' := [(6, .int 0), (5, .int 1), (4, .int 0), (3, .ref a22), (2, .ref a3), (1, .ref a0), (0, .ref b)]) hx hb dL_law_437 hl (by decide) rfl (fun ls hl => ?_)
  refine lv_aload_n hx hb dL_law_439 rfl (lv_at hl 4 rfl) ?_
  refine cv_i (As := []) (rest := []) (b := a3) (wr := [(a4, .inl (cs 0, 45783, .inl (layF (fun _ => 0) 1)))]) ⟨hx, hb, hml, hown, hts⟩ (fun sz => k158_X9_thrown l D cs sz a3 a17 a4 a18 a19 a20 a21) (cwV 0 hts gL_law_X9_thrown rfl rfl rfl hdX9_thrown_v ⟨Nat.le_of_ble_eq_true rfl, Nat.le_of_ble_eq_true rfl⟩) hN hP hD hS hA [1] [0] rfl rfl rfl rfl (by decide) (ci := 9) (q0 := 0) rfl rfl rfl rfl hl.1 (Nat.le_of_ble_eq_true rfl) dL_law_440 (Nat.le_of_ble_eq_true rfl) (Nat.le_of_ble_eq_true rfl) (fun u2 H locs hP hD hS => ?_)
  have hP : va_P D vwCl [(a4, .inl (cs 0, 45783, .inl (layF (fun _ => 0) 1))), (a3, .inr (9, [.int 1, .ref a17, .int 0, .int 0, .int 0, .int 0, .int 0, .int (-1), .ref a4, .ref a18, .ref a19, .ref a20, .int 0, .int 0, .int 0, .int 0, .int 0, .ref a21]))] H := hP
  have hD : va_D A [(a4, .inl (cs 0, 45783, .inl (layF (fun _ => 0) 1))), (a3, .inr (9, [.int 1, .ref a17, .int 0, .int 0, .int 0, .int 0, .int 0, .int (-1), .ref a4, .ref a18, .ref a19, .ref a20, .int 0, .int 0, .int 0, .int 0, .int 0, .ref a21]))] := hD
  refine W.widen (k := 392) (n := 467085) (Nat.le_of_ble_eq_true rfl) (Nat.le_of_ble_eq_true rfl) ?_
  refine lv_iload hx hb dL_law_443 (lv_at hl 1 rfl) ?_
  refine lv_icmp_eq (tgt := 450) hx hb dL_law_445 (by decide) (fun _ => ?_) (fun c9 => absurd (by decide) c9)
  refine lv_iload hx hb dL_law_450 (lv_at hl 1 rfl) ?_
  refine lv_if_ne (tgt := 467) hx hb dL_law_452 (by decide) (fun _ => ?_) (fun c9 => absurd c9 (by decide))
  refine lv_goto (tgt := 1169) hx hb dL_law_467 (by decide) ?_
  refine W.widen (k := 600002) (n := 7302232) (Nat.le_of_ble_eq_true rfl) (Nat.le_of_ble_eq_true rfl) ?_
  exact kend _ _ _ hS (lv_sub hl [6, 2] rfl)

theorem xgX8_message_109_3 : ∀ w ∈ (xnse RX8 109).filter goodWord, w ∈ wsX8_message := fun w h => by unfold wsX8_message; exact List.mem_cons_of_mem _ (List.mem_append_left _ (List.mem_append_right _ h))
theorem xnRX8_109_3 : ∀ w ∈ (xnse RX8 109).filter (fun w => !goodWord w), w ∈ Cond.castable "java/util/NoSuchElementException" "java/util/NoSuchElementException" :: xdD := by decide +kernel
theorem xdRX8_109_3 : xdL.all (fun w => decide (w ∈ (xnse RX8 109).filter goodWord)) = true := by decide +kernel
theorem xoRX8_105_109_3 : ∀ w ∈ Cond.classLink RX8 105 "java/util/NoSuchElementException" :: Cond.initialized "java/util/NoSuchElementException" :: (xnse RX8 109), vx_ot w = true := by decide +kernel
theorem mX8_message_1 : (.classLink RX8 105 "java/util/NoSuchElementException" : Cond) ∈ wsX8_message := List.mem_of_getElem? (i := 1) (by decide +kernel)
theorem mX8_message_2 : (.initialized "java/util/NoSuchElementException" : Cond) ∈ wsX8_message := List.mem_of_getElem? (i := 2) (by decide +kernel)
set_option maxHeartbeats 4000000 in
set_option maxRecDepth 100000 in
theorem k293_X8_message (l : Launch) (D : va_G) (cs : Nat → ClassId) (sz : Nat) (hlt : l.stackTraces = false) (a0 a1 a2 a3 a4 : Nat) (x0 : Int32) (x1 : Int32) (hf0 : x0 < 0) : KX l yX8_message wsX8_message 6 100 1 6 D cs sz [.ref a0, .int x0, .int x1] [(a0, .inr (8, [.ref a1, .ref a2, .ref a3, .ref a4, .int 0, .int 0, .int (-1)]))] QnI "java/util/NoSuchElementException" := by
  refine KX.of cX8_message 3 (some .int) (by decide) rfl (Nat.le_of_ble_eq_true rfl) ?_
  intro p e s m below meth c A ls hx hb hr hml hown hts hlocks hnx hP hN hD hA hS hl hZ
  have hown : s.vm.findClass RX8 = some m.cls := hown
  have hl : lv_has ls 3 [(0, .ref a0), (1, .int x0), (2, .int x1)] := hl
  refine lv_iload_n hx hb dX8_message_0 rfl (lv_at hl 1 rfl) ?_
  refine lv_if_lt (tgt := 18) hx hb dX8_message_1 (by decide) (fun _ => ?_) (fun c9 => absurd hf0 c9)
  exact tx_n2 (E := "java/util/NoSuchElementException") 3 hx hb hlt hown hN (by decide +kernel) (hts _ mX8_message_1) (hts _ mX8_message_2) (hN.s 12 rfl) rfl (fun w h => hts w (xgX8_message_109_3 w h)) xnRX8_109_3 xdRX8_109_3 xoRX8_105_109_3 hZ hS hl hml dX8_message_18 dX8_message_21 dX8_message_22 dX8_message_24 dX8_message_27 hnx (Nat.le_of_ble_eq_true rfl) (Nat.le_of_ble_eq_true rfl) (Nat.le_of_ble_eq_true rfl) (Nat.le_of_ble_eq_true rfl) hlocks (Nat.le_of_ble_eq_true rfl) (Nat.le_of_ble_eq_true rfl)
theorem hdX8_message_v : yX8_message.cls = RX8 ∧ yX8_message.cls ≠ "java/lang/invoke/MethodHandle" ∧ yX8_message.cls ≠ "java/lang/invoke/VarHandle" ∧ (parseMethodDescriptor yX8_message.desc).map (fun d => d.parameters.length) = some 2 := by decide +kernel
theorem mL_message_1 : (.classLink RL 30 "java/util/NoSuchElementException" : Cond) ∈ wsL_message := List.mem_of_getElem? (i := 1) (by decide +kernel)
set_option maxHeartbeats 4000000 in
set_option maxRecDepth 100000 in
theorem k294_L_message (l : Launch) (D : va_G) (cs : Nat → ClassId) (sz : Nat) (hlt : l.stackTraces = false) (a0 a1 a2 a3 a4 a5 : Nat) (x0 : Int32) (x1 : Int32) (hf0 : x0 < 0) : KH l yL_message wsL_message 7 122 1 6 D cs sz [.ref a0, .int x0, .int x1, .ref a1] [(a0, .inr (8, [.ref a2, .ref a3, .ref a4, .ref a5, .int 0, .int 0, .int (-1)]))] (fun u => []) (1) := by
  refine KH.of cL_message 5 (some .int) (by decide) rfl (Nat.le_of_ble_eq_true rfl) ?_
  intro p e s m below meth c A ls hx hb hr hml hown hts hlocks htab hP hN hD hA hS hl hZ
  have hown : s.vm.findClass RL = some m.cls := hown
  have hl : lv_has ls 5 [(0, .ref a0), (1, .int x0), (2, .int x1), (3, .ref a1)] := hl
  refine lv_aload_n hx hb dL_message_0 rfl (lv_at hl 3 rfl) ?_
  refine lv_iconst (v := 0) hx hb dL_message_1 (by decide) ?_
  refine lv_aload_n hx hb dL_message_2 rfl (lv_at hl 0 rfl) ?_
  refine lv_iload_n hx hb dL_message_3 rfl (lv_at hl 1 rfl) ?_
  refine lv_iload_n hx hb dL_message_4 rfl (lv_at hl 2 rfl) ?_
  refine xc_i (wr := []) (As := [.int x0, .int x1]) (rest := [.int 0, .ref a1]) (b := a0) ⟨hx, hb, hml, hown, hts⟩ (fun sz => k293_X8_message l D cs sz hlt a0 a2 a3 a4 a5 (x0) (x1) hf0) (cwV 2 hts gL_message_X8_message rfl rfl rfl hdX8_message_v ⟨Nat.le_of_ble_eq_true rfl, Nat.le_of_ble_eq_true rfl⟩) hN hP hD hS hA hZ [0] rfl rfl (ci := 8) (q0 := 0) rfl rfl rfl rfl hl.1 (Nat.le_of_ble_eq_true rfl) dL_message_5 (Nat.le_of_ble_eq_true rfl) (Nat.le_of_ble_eq_true rfl) [] rfl rfl (by decide) [] ⟨0, 10, 13, 30⟩ [⟨0, 10, 17, 13⟩] htab (fun z h => nomatch h) rfl (by decide) (hts _ mL_message_1) 3 rfl (fun q9_6 H locs hP hD hS => ?_)
  have hP : va_P D vwCl [] H := hP
  have hD : va_D A [] := hD
  refine W.widen (k := 1) (n := 6) (Nat.le_of_ble_eq_true rfl) (Nat.le_of_ble_eq_true rfl) ?_
  refine lv_astore (lv' := [(4, .ref q9_6), (0, .ref a0), (1, .int x0), (2, .int x1), (3, .ref a1)]) hx hb dL_message_13 hl (by decide) rfl (fun ls hl => ?_)
  refine lv_iconst (v := 1) hx hb dL_message_15 (by decide) ?_
  exact en_i (fun k => ([] : List Nat).getD k 0) hx hb hr hlocks rfl rfl hP hD hS (Nat.le_of_ble_eq_true rfl) (Nat.le_of_ble_eq_true rfl) dL_message_16
theorem mX9_message_1 : (.fieldLink RX9 40 "OneBeatModel" "thrown" "I" : Cond) ∈ wsX9_message := List.mem_of_getElem? (i := 1) (by decide +kernel)
theorem iX9_message_9 : ∀ w ∈ wsX90, w ∈ wsX9_message := fun w h => List.mem_of_mem_drop (List.mem_of_mem_take ((show wsX90 = (wsX9_message.drop 19).take 18 by decide +kernel) ▸ h))
theorem mX9_message_2 : (.fieldLink RX9 18 "OneBeatModel" "data" "[I" : Cond) ∈ wsX9_message := List.mem_of_getElem? (i := 2) (by decide +kernel)
set_option maxHeartbeats 4000000 in
set_option maxRecDepth 100000 in
theorem k295_X9_in (l : Launch) (D : va_G) (cs : Nat → ClassId) (sz : Nat) (x0 : Int32) (hf0 : x0 < 0) : KI l yX9_in wsX9_in 0 0 0 0 D cs sz [.int x0, .int 0, .int (-1)] [] (fun u => []) (0) := by
  refine KI.of cX9_in 3 (some .boolean) (by decide) rfl (Nat.le_of_ble_eq_true rfl) ?_
  intro p e s m below meth c A ls hx hb hr hml hown hts hlocks hin hP hN hD hA hS hl
  have hown : s.vm.findClass RX9 = some m.cls := hown
  have hl : lv_has ls 3 [(0, .int x0), (1, .int 0), (2, .int (-1))] := hl
  refine lv_iload_n hx hb dX9_in_0 rfl (lv_at hl 0 rfl) ?_
  refine lv_iload_n hx hb dX9_in_1 rfl (lv_at hl 1 rfl) ?_
  refine lv_icmp_lt (tgt := 14) hx hb dX9_in_2 (by decide) (fun _ => ?_) (fun c9 => absurd hf0 c9)
  refine lv_iconst (v := 0) hx hb dX9_in_14 (by decide) ?_
  exact en_i (fun k => ([] : List Nat).getD k 0) hx hb hr hlocks rfl rfl hP hD hS (Nat.le_of_ble_eq_true rfl) (Nat.le_of_ble_eq_true rfl) dX9_in_15
set_option maxHeartbeats 4000000 in
set_option maxRecDepth 100000 in
theorem k296_X9_message (l : Launch) (D : va_G) (cs : Nat → ClassId) (sz : Nat) (a0 a1 a2 a3 a4 a5 a6 : Nat) (x0 : Int32) (x1 : Int32) (hf0 : x0 < 0) : KI l yX9_message wsX9_message 1 22 0 0 D cs sz [.ref a0, .int x0, .int x1] [(a0, .inr (9, [.int 0, .ref a2, .int 0, .int 0, .int 0, .int 0, .int 0, .int (-1), .ref a1, .ref a3, .ref a4, .ref a5, .int 0, .int 0, .int 0, .int 0, .int 0, .ref a6])), (a1, .inl (cs 0, 45783, .inl (layF (fun _ => 0) 1)))] (fun u => [(a1, .inl (cs 0, 45783, .inl (layF (fun _ => 0) 1))), (a0, .inr (9, [.int 1, .ref a2, .int 0, .int 0, .int 0, .int 0, .int 0, .int (-1), .ref a1, .ref a3, .ref a4, .ref a5, .int 0, .int 0, .int 0, .int 0, .int 0, .ref a6]))]) (0) := by
  refine KI.of cX9_message 3 (some .int) (by decide) rfl (Nat.le_of_ble_eq_true rfl) ?_
  intro p e s m below meth c A ls hx hb hr hml hown hts hlocks hin hP hN hD hA hS hl
  have hown : s.vm.findClass RX9 = some m.cls := hown
  have hl : lv_has ls 3 [(0, .ref a0), (1, .int x0), (2, .int x1)] := hl
  refine lv_aload_n hx hb dX9_message_0 rfl (lv_at hl 0 rfl) ?_
  refine lv_iconst (v := 0) hx hb dX9_message_1 (by decide) ?_
  refine va_put (D := D) (ci := 9) (v := .int 0) (ty := .int) (C := RX9) (T := TX9) (N := 18) hx hb hts iX9_message_9 tyX9 tyX9_ok nmX9 hown hN.1 hP hD hS 0 rfl rfl 0 (by decide) (hts _ mX9_message_1) (fun _ h9 => h9) rfl (by decide +kernel) rfl rfl (Nat.le_of_ble_eq_true rfl) dX9_message_2 (fun H locs hP hD hS => ?_)
  have hP : va_P D vwCl [(a0, .inr (9, [.int 0, .ref a2, .int 0, .int 0, .int 0, .int 0, .int 0, .int (-1), .ref a1, .ref a3, .ref a4, .ref a5, .int 0, .int 0, .int 0, .int 0, .int 0, .ref a6])), (a1, .inl (cs 0, 45783, .inl (layF (fun _ => 0) 1)))] H := hP
  have hD : va_D A [(a0, .inr (9, [.int 0, .ref a2, .int 0, .int 0, .int 0, .int 0, .int 0, .int (-1), .ref a1, .ref a3, .ref a4, .ref a5, .int 0, .int 0, .int 0, .int 0, .int 0, .ref a6])), (a1, .inl (cs 0, 45783, .inl (layF (fun _ => 0) 1)))] := hD
  refine lv_aload_n hx hb dX9_message_5 rfl (lv_at hl 0 rfl) ?_
  refine lv_iload_n hx hb dX9_message_6 rfl (lv_at hl 1 rfl) ?_
  refine lv_iconst (v := 0) hx hb dX9_message_7 (by decide) ?_
  refine lv_aload_n hx hb dX9_message_8 rfl (lv_at hl 0 rfl) ?_
  refine va_get (D := D) (ci := 9) (v := .ref a1) (C := RX9) (T := TX9) (N := 18) hx hb hts iX9_message_9 hown hN.1 hP 0 rfl rfl 8 (by decide) (hts _ mX9_message_2) (fun _ h9 => h9) rfl dX9_message_9 ?_
  refine lv_iconst (v := 3) hx hb dX9_message_12 (by decide) ?_
  refine ld_i (v := 0) hx hb hN hP 1 rfl (vin (by decide +kernel)) (by first | rfl | decide +kernel) dX9_message_13 ?_
  refine lv_iconst (v := 1) hx hb dX9_message_14 (by decide) ?_
  refine lv_isub hx hb dX9_message_15 ?_
  refine tp_i ((-1)) (by decide) ?_
  refine cs_i (As := [.int x0, .int 0, .int (-1)]) (rest := [.ref a0]) (wr := [(a0, .inr (9, [.int 0, .ref a2, .int 0, .int 0, .int 0, .int 0, .int 0, .int (-1), .ref a1, .ref a3, .ref a4, .ref a5, .int 0, .int 0, .int 0, .int 0, .int 0, .ref a6])), (a1, .inl (cs 0, 45783, .inl (layF (fun _ => 0) 1)))]) ⟨hx, hb, hml, hown, hts⟩ (fun sz => k295_X9_in l D cs sz (x0) hf0) (va_cwS 3 hts gX9_message_X9_in rfl rfl rfl hdX9_in_o ⟨Nat.le_of_ble_eq_true rfl, Nat.le_of_ble_eq_true rfl⟩) hN hP hD hS hA [] [0, 1] rfl rfl rfl rfl (by decide) rfl rfl hl.1 (Nat.le_of_ble_eq_true rfl) dX9_message_16 (Nat.le_of_ble_eq_true rfl) (Nat.le_of_ble_eq_true rfl) (fun u0 H locs hP hD hS => ?_)
  have hP : va_P D vwCl [(a0, .inr (9, [.int 0, .ref a2, .int 0, .int 0, .int 0, .int 0, .int 0, .int (-1), .ref a1, .ref a3, .ref a4, .ref a5, .int 0, .int 0, .int 0, .int 0, .int 0, .ref a6])), (a1, .inl (cs 0, 45783, .inl (layF (fun _ => 0) 1)))] H := hP
  have hD : va_D A [(a0, .inr (9, [.int 0, .ref a2, .int 0, .int 0, .int 0, .int 0, .int 0, .int (-1), .ref a1, .ref a3, .ref a4, .ref a5, .int 0, .int 0, .int 0, .int 0, .int 0, .ref a6])), (a1, .inl (cs 0, 45783, .inl (layF (fun _ => 0) 1)))] := hD
  refine W.widen (k := 0) (n := 0) (Nat.le_of_ble_eq_true rfl) (Nat.le_of_ble_eq_true rfl) ?_
  refine lv_if_ne (tgt := 26) hx hb dX9_message_19 (by decide) (fun c9 => absurd (by decide) c9) (fun _ => ?_)
  refine lv_iconst (v := 1) hx hb dX9_message_22 (by decide) ?_
  refine lv_goto (tgt := 27) hx hb dX9_message_23 (by decide) ?_
  refine lv_iconst (v := 1) hx hb dX9_message_27 (by decide) ?_
  refine cv_i (As := [.int 1, .int 1]) (rest := []) (b := a0) (wr := [(a1, .inl (cs 0, 45783, .inl (layF (fun _ => 0) 1)))]) ⟨hx, hb, hml, hown, hts⟩ (fun sz => k156_X9_fails l D cs sz a0 a2 a1 a3 a4 a5 a6) (cwV 2 hts gX9_message_X9_fails rfl rfl rfl hdX9_fails_v ⟨Nat.le_of_ble_eq_true rfl, Nat.le_of_ble_eq_true rfl⟩) hN hP hD hS hA [0] [1] rfl rfl rfl rfl (by decide) (ci := 9) (q0 := 0) rfl rfl rfl rfl hl.1 (Nat.le_of_ble_eq_true rfl) dX9_message_28 (Nat.le_of_ble_eq_true rfl) (Nat.le_of_ble_eq_true rfl) (fun u1 H locs hP hD hS => ?_)
  have hP : va_P D vwCl [(a1, .inl (cs 0, 45783, .inl (layF (fun _ => 0) 1))), (a0, .inr (9, [.int 1, .ref a2, .int 0, .int 0, .int 0, .int 0, .int 0, .int (-1), .ref a1, .ref a3, .ref a4, .ref a5, .int 0, .int 0, .int 0, .int 0, .int 0, .ref a6]))] H := hP
  have hD : va_D A [(a1, .inl (cs 0, 45783, .inl (layF (fun _ => 0) 1))), (a0, .inr (9, [.int 1, .ref a2, .int 0, .int 0, .int 0, .int 0, .int 0, .int (-1), .ref a1, .ref a3, .ref a4, .ref a5, .int 0, .int 0, .int 0, .int 0, .int 0, .ref a6]))] := hD
  refine W.widen (k := 0) (n := 0) (Nat.le_of_ble_eq_true rfl) (Nat.le_of_ble_eq_true rfl) ?_
  refine lv_if_ne (tgt := 56) hx hb dX9_message_31 (by decide) (fun _ => ?_) (fun c9 => absurd c9 (by decide))
  refine lv_iconst (v := 0) hx hb dX9_message_56 (by decide) ?_
  refine lv_goto (tgt := 70) hx hb dX9_message_57 (by decide) ?_
  exact en_i (fun k => ([] : List Nat).getD k 0) hx hb hr hlocks rfl rfl hP hD hS (Nat.le_of_ble_eq_true rfl) (Nat.le_of_ble_eq_true rfl) dX9_message_70
theorem hdL_message_o : yL_message.cls ≠ "java/lang/invoke/MethodHandle" ∧ yL_message.cls ≠ "java/lang/invoke/VarHandle" ∧ (parseMethodDescriptor yL_message.desc).map (fun d => d.parameters.length) = some 4 := by decide +kernel
theorem hdX9_message_v : yX9_message.cls = RX9 ∧ yX9_message.cls ≠ "java/lang/invoke/MethodHandle" ∧ yX9_message.cls ≠ "java/lang/invoke/VarHandle" ∧ (parseMethodDescriptor yX9_message.desc).map (fun d => d.parameters.length) = some 2 := by decide +kernel
set_option maxHeartbeats 4000000 in
set_option maxRecDepth 100000 in
theorem law_6_n {p : Program} {l : Launch} {e : Env} {s : State} {m : MethodId} {args : Array Value} {below : List Frame} {meth : Method} {c : Code} {Q : State → Prop} {D : va_G} {cs : Nat → ClassId} {A : Nat → Prop} {xs : Nat → Int32} {b : Nat} (hx : p.tables.exec = Jvm.exec) (hb : c.code = cL_law) (hml : c.maxLocals = 9) (hown : s.vm.findClass RL = some m.cls) (hts : ∀ w ∈ wsL_law, w.before args s = true) (hN : NK D cs s) (hX : va_X b 6 xs s s.heap) (hbl : b < s.heap.size) (hbA : ¬ A b) (hA : ∀ q : Nat, s.heap.size ≤ q → A q) (hZ : ZX A s s.heap) (hZS : ZS cs A s s.heap) (hlt : l.stackTraces = false)
    (kend : ∀ (H : Heap) (locs : List Loc) (ls : Array Slot), va_S A s.heap H locs → lv_has ls 9 [(0, .ref b), (4, .int 0)] → W p l e room_1 s m args below meth c H locs 600002 7302232 Q (F0 m 1169 ls []))
    (a0 a1 a2 a3 a4 a5 a6 a7 a8 a9 a10 a11 a12 : Nat) (y1 y2 : Int32) (hy1 : xs 1 = (y1)) (hy2 : xs 2 = (y2)) (g1_2 : y1 < 0) (H : Heap) (locs : List Loc) (ls : Array Slot) (hP : va_P D vwCl [(a0, .inr (8, [.ref a3, .ref a4, .ref a5, .ref a6, .int 0, .int 0, .int (-1)])), (a1, .inr (9, [.int 0, .ref a7, .int 0, .int 0, .int 0, .int 0, .int 0, .int (-1), .ref a2, .ref a8, .ref a9, .ref a10, .int 0, .int 0, .int 0, .int 0, .int 0, .ref a11])), (a2, .inl (cs 0, 45783, .inl (layF (fun _ => 0) 1)))] H) (hD : va_D A [(a0, .inr (8, [.ref a3, .ref a4, .ref a5, .ref a6, .int 0, .int 0, .int (-1)])), (a1, .inr (9, [.int 0, .ref a7, .int 0, .int 0, .int 0, .int 0, .int 0, .int (-1), .ref a2, .ref a8, .ref a9, .ref a10, .int 0, .int 0, .int 0, .int 0, .int 0, .ref a11])), (a2, .inl (cs 0, 45783, .inl (layF (fun _ => 0) 1)))]) (hS : va_S A s.heap H locs) (hl : lv_has ls 9 [(4, .int 0), (3, .ref a12), (2, .ref a1), (1, .ref a0), (0, .ref b)]) : W p l e room_1 s m args below meth c H locs 391 467079 Q (F0 m 470 ls []) := by
  refine lv_aload_n hx hb dL_law_470 rfl (lv_at hl 3 rfl) ?_
  refine lv_aload_n hx hb dL_law_471 rfl (lv_at hl 4 rfl) ?_
  refine lv_iload hx hb dL_law_472 (lv_at hl 0 rfl) ?_
  refine lv_iconst (v := 1) hx hb dL_law_474 (by decide) ?_
  refine lv_iadd hx hb dL_law_475 ?_
  refine tp_i (1) (by decide) ?_
  refine va_sld hx hb hX hbl hbA hS (vin (by decide +kernel)) dL_law_476 ?_
  refine tp_i (y1) hy1 ?_
  refine lv_aload_n hx hb dL_law_477 rfl (lv_at hl 4 rfl) ?_
  refine lv_iload hx hb dL_law_478 (lv_at hl 0 rfl) ?_
  refine lv_iconst (v := 2) hx hb dL_law_480 (by decide) ?_
  refine lv_iadd hx hb dL_law_481 ?_
  refine tp_i (2) (by decide) ?_
  refine va_sld hx hb hX hbl hbA hS (vin (by decide +kernel)) dL_law_482 ?_
  refine tp_i (y2) hy2 ?_
  refine lv_aload_n hx hb dL_law_483 rfl (lv_at hl 1 rfl) ?_
  refine ch_i (As := [.ref a0, .int y1, .int y2, .ref a12]) (rest := []) (wr := [(a1, .inr (9, [.int 0, .ref a7, .int 0, .int 0, .int 0, .int 0, .int 0, .int (-1), .ref a2, .ref a8, .ref a9, .ref a10, .int 0, .int 0, .int 0, .int 0, .int 0, .ref a11])), (a2, .inl (cs 0, 45783, .inl (layF (fun _ => 0) 1)))]) ⟨hx, hb, hml, hown, hts⟩ (fun sz => k294_L_message l D cs sz hlt a0 a12 a3 a4 a5 a6 (y1) (y2) g1_2) (vx_cwSW 4 hts gL_law_L_message rfl rfl rfl hdL_message_o ⟨Nat.le_of_ble_eq_true rfl, Nat.le_of_ble_eq_true rfl⟩) hN hP hD hS hA hZ [0] [1, 2] rfl rfl rfl rfl (by decide) rfl rfl hl.1 (Nat.le_of_ble_eq_true rfl) dL_law_484 (Nat.le_of_ble_eq_true rfl) (Nat.le_of_ble_eq_true rfl) (fun u0 H locs hP hD hS => ?_)
  have hP : va_P D vwCl [(a1, .inr (9, [.int 0, .ref a7, .int 0, .int 0, .int 0, .int 0, .int 0, .int (-1), .ref a2, .ref a8, .ref a9, .ref a10, .int 0, .int 0, .int 0, .int 0, .int 0, .ref a11])), (a2, .inl (cs 0, 45783, .inl (layF (fun _ => 0) 1)))] H := hP
  have hD : va_D A [(a1, .inr (9, [.int 0, .ref a7, .int 0, .int 0, .int 0, .int 0, .int 0, .int (-1), .ref a2, .ref a8, .ref a9, .ref a10, .int 0, .int 0, .int 0, .int 0, .int 0, .ref a11])), (a2, .inl (cs 0, 45783, .inl (layF (fun _ => 0) 1)))] := hD
  refine W.widen (k := 392) (n := 467085) (Nat.le_of_ble_eq_true rfl) (Nat.le_of_ble_eq_true rfl) ?_
  refine lv_istore (lv' := [(5, .int 1), (4, .int 0), (3, .ref a12), (2, .ref a1), (1, .ref a0), (0, .ref b)]) hx hb dL_law_487 hl (by decide) rfl (fun ls hl => ?_)
  refine lv_aload_n hx hb dL_law_489 rfl (lv_at hl 3 rfl) ?_
  refine lv_aload_n hx hb dL_law_490 rfl (lv_at hl 5 rfl) ?_
  refine lv_iload hx hb dL_law_491 (lv_at hl 1 rfl) ?_
  refine lv_iconst (v := 1) hx hb dL_law_493 (by decide) ?_
  refine lv_iadd hx hb dL_law_494 ?_
  refine tp_i (1) (by decide) ?_
  refine va_sld hx hb hX hbl hbA hS (vin (by decide +kernel)) dL_law_495 ?_
  refine tp_i (y1) hy1 ?_
  refine lv_aload_n hx hb dL_law_496 rfl (lv_at hl 5 rfl) ?_
  refine lv_iload hx hb dL_law_497 (lv_at hl 1 rfl) ?_
  refine lv_iconst (v := 2) hx hb dL_law_499 (by decide) ?_
  refine lv_iadd hx hb dL_law_500 ?_
  refine tp_i (2) (by decide) ?_
  refine va_sld hx hb hX hbl hbA hS (vin (by decide +kernel)) dL_law_501 ?_
  refine tp_i (y2) hy2 ?_
  refine cv_i (As := [.int y1, .int y2]) (rest := []) (b := a1) (wr := []) ⟨hx, hb, hml, hown, hts⟩ (fun sz => k296_X9_message l D cs sz a1 a2 a7 a8 a9 a10 a11 (y1) (y2) g1_2) (cwV 2 hts gL_law_X9_message rfl rfl rfl hdX9_message_v ⟨Nat.le_of_ble_eq_true rfl, Nat.le_of_ble_eq_true rfl⟩) hN hP hD hS hA [0, 1] [] rfl rfl rfl rfl (by decide) (ci := 9) (q0 := 0) rfl rfl rfl rfl hl.1 (Nat.le_of_ble_eq_true rfl) dL_law_502 (Nat.le_of_ble_eq_true rfl) (Nat.le_of_ble_eq_true rfl) (fun u1 H locs hP hD hS => ?_)
  have hP : va_P D vwCl [(a2, .inl (cs 0, 45783, .inl (layF (fun _ => 0) 1))), (a1, .inr (9, [.int 1, .ref a7, .int 0, .int 0, .int 0, .int 0, .int 0, .int (-1), .ref a2, .ref a8, .ref a9, .ref a10, .int 0, .int 0, .int 0, .int 0, .int 0, .ref a11]))] H := hP
  have hD : va_D A [(a2, .inl (cs 0, 45783, .inl (layF (fun _ => 0) 1))), (a1, .inr (9, [.int 1, .ref a7, .int 0, .int 0, .int 0, .int 0, .int 0, .int (-1), .ref a2, .ref a8, .ref a9, .ref a10, .int 0, .int 0, .int 0, .int 0, .int 0, .ref a11]))] := hD
  refine W.widen (k := 392) (n := 467085) (Nat.le_of_ble_eq_true rfl) (Nat.le_of_ble_eq_true rfl) ?_
  refine lv_istore (lv' := [(6, .int 0), (5, .int 1), (4, .int 0), (3, .ref a12), (2, .ref a1), (1, .ref a0), (0, .ref b)]) hx hb dL_law_505 hl (by decide) rfl (fun ls hl => ?_)
  refine lv_aload_n hx hb dL_law_507 rfl (lv_at hl 4 rfl) ?_
  refine cv_i (As := []) (rest := []) (b := a1) (wr := [(a2, .inl (cs 0, 45783, .inl (layF (fun _ => 0) 1)))]) ⟨hx, hb, hml, hown, hts⟩ (fun sz => k158_X9_thrown l D cs sz a1 a7 a2 a8 a9 a10 a11) (cwV 0 hts gL_law_X9_thrown rfl rfl rfl hdX9_thrown_v ⟨Nat.le_of_ble_eq_true rfl, Nat.le_of_ble_eq_true rfl⟩) hN hP hD hS hA [1] [0] rfl rfl rfl rfl (by decide) (ci := 9) (q0 := 0) rfl rfl rfl rfl hl.1 (Nat.le_of_ble_eq_true rfl) dL_law_508 (Nat.le_of_ble_eq_true rfl) (Nat.le_of_ble_eq_true rfl) (fun u2 H locs hP hD hS => ?_)
  have hP : va_P D vwCl [(a2, .inl (cs 0, 45783, .inl (layF (fun _ => 0) 1))), (a1, .inr (9, [.int 1, .ref a7, .int 0, .int 0, .int 0, .int 0, .int 0, .int (-1), .ref a2, .ref a8, .ref a9, .ref a10, .int 0, .int 0, .int 0, .int 0, .int 0, .ref a11]))] H := hP
  have hD : va_D A [(a2, .inl (cs 0, 45783, .inl (layF (fun _ => 0) 1))), (a1, .inr (9, [.int 1, .ref a7, .int 0, .int 0, .int 0, .int 0, .int 0, .int (-1), .ref a2, .ref a8, .ref a9, .ref a10, .int 0, .int 0, .int 0, .int 0, .int 0, .ref a11]))] := hD
  refine W.widen (k := 392) (n := 467085) (Nat.le_of_ble_eq_true rfl) (Nat.le_of_ble_eq_true rfl) ?_
  refine lv_iload hx hb dL_law_511 (lv_at hl 1 rfl) ?_
  refine lv_icmp_eq (tgt := 518) hx hb dL_law_513 (by decide) (fun _ => ?_) (fun c9 => absurd (by decide) c9)
  refine lv_iload hx hb dL_law_518 (lv_at hl 1 rfl) ?_
  refine lv_if_ne (tgt := 535) hx hb dL_law_520 (by decide) (fun _ => ?_) (fun c9 => absurd c9 (by decide))
  refine lv_goto (tgt := 1169) hx hb dL_law_535 (by decide) ?_
  refine W.widen (k := 600002) (n := 7302232) (Nat.le_of_ble_eq_true rfl) (Nat.le_of_ble_eq_true rfl) ?_
  exact kend _ _ _ hS (lv_sub hl [6, 2] rfl)

theorem mX8_message_3 : (.fieldLink RX8 19 "OneBeat" "now" "LOneBeat$World;" : Cond) ∈ wsX8_message := List.mem_of_getElem? (i := 3) (by decide +kernel)
theorem iX8_message_8 : ∀ w ∈ wsX80, w ∈ wsX8_message := fun w h => List.mem_of_mem_drop (List.mem_of_mem_take ((show wsX80 = (wsX8_message.drop 40).take 7 by decide +kernel) ▸ h))
theorem iX8_message_7 : ∀ w ∈ wsX70, w ∈ wsX8_message := fun w h => List.mem_of_mem_drop (List.mem_of_mem_take ((show wsX70 = (wsX8_message.drop 47).take 16 by decide +kernel) ▸ h))
theorem iX8_message_2 : ∀ w ∈ wsX20, w ∈ wsX8_message := fun w h => List.mem_of_mem_drop (List.mem_of_mem_take ((show wsX20 = (wsX8_message.drop 63).take 3 by decide +kernel) ▸ h))
set_option maxHeartbeats 4000000 in
set_option maxRecDepth 100000 in
theorem k297_X8_message (l : Launch) (D : va_G) (cs : Nat → ClassId) (sz : Nat) (hlt : l.stackTraces = false) (a0 a1 a2 a3 a4 a5 a6 a7 a8 a9 a10 a11 a12 : Nat) (x0 : Int32) (x1 : Int32) (hf0 : ¬ x0 < 0) : KX l yX8_message wsX8_message 6 100 1 6 D cs sz [.ref a0, .int x0, .int x1] [(a0, .inr (8, [.ref a3, .ref a1, .ref a4, .ref a5, .int 0, .int 0, .int (-1)])), (a1, .inr (7, [.ref a6, .ref a7, .ref a2, .ref a8, .ref a9, .ref a10, .long 0, .int 0, .int 0, .int 0, .int 0, .int 0, .int 0, .int 0, .int 0, .int 0])), (a2, .inr (2, [.ref a11, .ref a12, .int 0]))] QnI "java/util/NoSuchElementException" := by
  refine KX.of cX8_message 3 (some .int) (by decide) rfl (Nat.le_of_ble_eq_true rfl) ?_
  intro p e s m below meth c A ls hx hb hr hml hown hts hlocks hnx hP hN hD hA hS hl hZ
  have hown : s.vm.findClass RX8 = some m.cls := hown
  have hl : lv_has ls 3 [(0, .ref a0), (1, .int x0), (2, .int x1)] := hl
  refine lv_iload_n hx hb dX8_message_0 rfl (lv_at hl 1 rfl) ?_
  refine lv_if_lt (tgt := 18) hx hb dX8_message_1 (by decide) (fun c9 => absurd c9 hf0) (fun _ => ?_)
  refine lv_iload_n hx hb dX8_message_4 rfl (lv_at hl 1 rfl) ?_
  refine lv_aload_n hx hb dX8_message_5 rfl (lv_at hl 0 rfl) ?_
  refine va_get (D := D) (ci := 8) (v := .ref a1) (C := RX8) (T := TX8) (N := 7) hx hb hts iX8_message_8 hown hN.1 hP 0 rfl rfl 1 (by decide) (hts _ mX8_message_3) (fun _ h9 => h9) rfl dX8_message_6 ?_
  refine va_getN (D := D) (ci := 7) (v := .ref a2) (C := RX7) (T := TX7) (N := 16) hx hb hts iX8_message_7 hown hN.1 hP 1 rfl rfl 2 (by decide) (hN.f 47 rfl) (fun _ h9 => h9) rfl dX8_message_9 ?_
  refine va_getN (D := D) (ci := 2) (v := .int 0) (C := RX2) (T := TX2) (N := 3) hx hb hts iX8_message_2 hown hN.1 hP 2 rfl rfl 2 (by decide) (hN.f 3 rfl) (fun _ h9 => h9) rfl dX8_message_12 ?_
  refine lv_icmp_lt (tgt := 28) hx hb dX8_message_15 (by decide) (fun c9 => absurd c9 hf0) (fun _ => ?_)
  exact tx_n2 (E := "java/util/NoSuchElementException") 3 hx hb hlt hown hN (by decide +kernel) (hts _ mX8_message_1) (hts _ mX8_message_2) (hN.s 12 rfl) rfl (fun w h => hts w (xgX8_message_109_3 w h)) xnRX8_109_3 xdRX8_109_3 xoRX8_105_109_3 hZ hS hl hml dX8_message_18 dX8_message_21 dX8_message_22 dX8_message_24 dX8_message_27 hnx (Nat.le_of_ble_eq_true rfl) (Nat.le_of_ble_eq_true rfl) (Nat.le_of_ble_eq_true rfl) (Nat.le_of_ble_eq_true rfl) hlocks (Nat.le_of_ble_eq_true rfl) (Nat.le_of_ble_eq_true rfl)
set_option maxHeartbeats 4000000 in
set_option maxRecDepth 100000 in
theorem k298_L_message (l : Launch) (D : va_G) (cs : Nat → ClassId) (sz : Nat) (hlt : l.stackTraces = false) (a0 a1 a2 a3 a4 a5 a6 a7 a8 a9 a10 a11 a12 a13 : Nat) (x0 : Int32) (x1 : Int32) (hf0 : ¬ x0 < 0) : KH l yL_message wsL_message 7 122 1 6 D cs sz [.ref a0, .int x0, .int x1, .ref a3] [(a0, .inr (8, [.ref a4, .ref a1, .ref a5, .ref a6, .int 0, .int 0, .int (-1)])), (a1, .inr (7, [.ref a7, .ref a8, .ref a2, .ref a9, .ref a10, .ref a11, .long 0, .int 0, .int 0, .int 0, .int 0, .int 0, .int 0, .int 0, .int 0, .int 0])), (a2, .inr (2, [.ref a12, .ref a13, .int 0]))] (fun u => []) (1) := by
  refine KH.of cL_message 5 (some .int) (by decide) rfl (Nat.le_of_ble_eq_true rfl) ?_
  intro p e s m below meth c A ls hx hb hr hml hown hts hlocks htab hP hN hD hA hS hl hZ
  have hown : s.vm.findClass RL = some m.cls := hown
  have hl : lv_has ls 5 [(0, .ref a0), (1, .int x0), (2, .int x1), (3, .ref a3)] := hl
  refine lv_aload_n hx hb dL_message_0 rfl (lv_at hl 3 rfl) ?_
  refine lv_iconst (v := 0) hx hb dL_message_1 (by decide) ?_
  refine lv_aload_n hx hb dL_message_2 rfl (lv_at hl 0 rfl) ?_
  refine lv_iload_n hx hb dL_message_3 rfl (lv_at hl 1 rfl) ?_
  refine lv_iload_n hx hb dL_message_4 rfl (lv_at hl 2 rfl) ?_
  refine xc_i (wr := []) (As := [.int x0, .int x1]) (rest := [.int 0, .ref a3]) (b := a0) ⟨hx, hb, hml, hown, hts⟩ (fun sz => k297_X8_message l D cs sz hlt a0 a1 a2 a4 a5 a6 a7 a8 a9 a10 a11 a12 a13 (x0) (x1) hf0) (cwV 2 hts gL_message_X8_message rfl rfl rfl hdX8_message_v ⟨Nat.le_of_ble_eq_true rfl, Nat.le_of_ble_eq_true rfl⟩) hN hP hD hS hA hZ [0, 1, 2] rfl rfl (ci := 8) (q0 := 0) rfl rfl rfl rfl hl.1 (Nat.le_of_ble_eq_true rfl) dL_message_5 (Nat.le_of_ble_eq_true rfl) (Nat.le_of_ble_eq_true rfl) [] rfl rfl (by decide) [] ⟨0, 10, 13, 30⟩ [⟨0, 10, 17, 13⟩] htab (fun z h => nomatch h) rfl (by decide) (hts _ mL_message_1) 3 rfl (fun q9_6 H locs hP hD hS => ?_)
  have hP : va_P D vwCl [] H := hP
  have hD : va_D A [] := hD
  refine W.widen (k := 1) (n := 6) (Nat.le_of_ble_eq_true rfl) (Nat.le_of_ble_eq_true rfl) ?_
  refine lv_astore (lv' := [(4, .ref q9_6), (0, .ref a0), (1, .int x0), (2, .int x1), (3, .ref a3)]) hx hb dL_message_13 hl (by decide) rfl (fun ls hl => ?_)
  refine lv_iconst (v := 1) hx hb dL_message_15 (by decide) ?_
  exact en_i (fun k => ([] : List Nat).getD k 0) hx hb hr hlocks rfl rfl hP hD hS (Nat.le_of_ble_eq_true rfl) (Nat.le_of_ble_eq_true rfl) dL_message_16
set_option maxHeartbeats 4000000 in
set_option maxRecDepth 100000 in
theorem k299_X9_in (l : Launch) (D : va_G) (cs : Nat → ClassId) (sz : Nat) (x0 : Int32) (hf0 : ¬ x0 < 0) (hf1 : (-1) < x0) : KI l yX9_in wsX9_in 0 0 0 0 D cs sz [.int x0, .int 0, .int (-1)] [] (fun u => []) (0) := by
  refine KI.of cX9_in 3 (some .boolean) (by decide) rfl (Nat.le_of_ble_eq_true rfl) ?_
  intro p e s m below meth c A ls hx hb hr hml hown hts hlocks hin hP hN hD hA hS hl
  have hown : s.vm.findClass RX9 = some m.cls := hown
  have hl : lv_has ls 3 [(0, .int x0), (1, .int 0), (2, .int (-1))] := hl
  refine lv_iload_n hx hb dX9_in_0 rfl (lv_at hl 0 rfl) ?_
  refine lv_iload_n hx hb dX9_in_1 rfl (lv_at hl 1 rfl) ?_
  refine lv_icmp_lt (tgt := 14) hx hb dX9_in_2 (by decide) (fun c9 => absurd c9 hf0) (fun _ => ?_)
  refine lv_iload_n hx hb dX9_in_5 rfl (lv_at hl 0 rfl) ?_
  refine lv_iload_n hx hb dX9_in_6 rfl (lv_at hl 2 rfl) ?_
  refine lv_icmp_gt (tgt := 14) hx hb dX9_in_7 (by decide) (fun _ => ?_) (fun c9 => absurd hf1 c9)
  refine lv_iconst (v := 0) hx hb dX9_in_14 (by decide) ?_
  exact en_i (fun k => ([] : List Nat).getD k 0) hx hb hr hlocks rfl rfl hP hD hS (Nat.le_of_ble_eq_true rfl) (Nat.le_of_ble_eq_true rfl) dX9_in_15
set_option maxHeartbeats 4000000 in
set_option maxRecDepth 100000 in
theorem k300_X9_message (l : Launch) (D : va_G) (cs : Nat → ClassId) (sz : Nat) (a0 a1 a2 a3 a4 a5 a6 : Nat) (x0 : Int32) (x1 : Int32) (hf0 : ¬ x0 < 0) (hf1 : (-1) < x0) : KI l yX9_message wsX9_message 1 22 0 0 D cs sz [.ref a0, .int x0, .int x1] [(a0, .inr (9, [.int 0, .ref a2, .int 0, .int 0, .int 0, .int 0, .int 0, .int (-1), .ref a1, .ref a3, .ref a4, .ref a5, .int 0, .int 0, .int 0, .int 0, .int 0, .ref a6])), (a1, .inl (cs 0, 45783, .inl (layF (fun _ => 0) 1)))] (fun u => [(a1, .inl (cs 0, 45783, .inl (layF (fun _ => 0) 1))), (a0, .inr (9, [.int 1, .ref a2, .int 0, .int 0, .int 0, .int 0, .int 0, .int (-1), .ref a1, .ref a3, .ref a4, .ref a5, .int 0, .int 0, .int 0, .int 0, .int 0, .ref a6]))]) (0) := by
  refine KI.of cX9_message 3 (some .int) (by decide) rfl (Nat.le_of_ble_eq_true rfl) ?_
  intro p e s m below meth c A ls hx hb hr hml hown hts hlocks hin hP hN hD hA hS hl
  have hown : s.vm.findClass RX9 = some m.cls := hown
  have hl : lv_has ls 3 [(0, .ref a0), (1, .int x0), (2, .int x1)] := hl
  refine lv_aload_n hx hb dX9_message_0 rfl (lv_at hl 0 rfl) ?_
  refine lv_iconst (v := 0) hx hb dX9_message_1 (by decide) ?_
  refine va_put (D := D) (ci := 9) (v := .int 0) (ty := .int) (C := RX9) (T := TX9) (N := 18) hx hb hts iX9_message_9 tyX9 tyX9_ok nmX9 hown hN.1 hP hD hS 0 rfl rfl 0 (by decide) (hts _ mX9_message_1) (fun _ h9 => h9) rfl (by decide +kernel) rfl rfl (Nat.le_of_ble_eq_true rfl) dX9_message_2 (fun H locs hP hD hS => ?_)
  have hP : va_P D vwCl [(a0, .inr (9, [.int 0, .ref a2, .int 0, .int 0, .int 0, .int 0, .int 0, .int (-1), .ref a1, .ref a3, .ref a4, .ref a5, .int 0, .int 0, .int 0, .int 0, .int 0, .ref a6])), (a1, .inl (cs 0, 45783, .inl (layF (fun _ => 0) 1)))] H := hP
  have hD : va_D A [(a0, .inr (9, [.int 0, .ref a2, .int 0, .int 0, .int 0, .int 0, .int 0, .int (-1), .ref a1, .ref a3, .ref a4, .ref a5, .int 0, .int 0, .int 0, .int 0, .int 0, .ref a6])), (a1, .inl (cs 0, 45783, .inl (layF (fun _ => 0) 1)))] := hD
  refine lv_aload_n hx hb dX9_message_5 rfl (lv_at hl 0 rfl) ?_
  refine lv_iload_n hx hb dX9_message_6 rfl (lv_at hl 1 rfl) ?_
  refine lv_iconst (v := 0) hx hb dX9_message_7 (by decide) ?_
  refine lv_aload_n hx hb dX9_message_8 rfl (lv_at hl 0 rfl) ?_
  refine va_get (D := D) (ci := 9) (v := .ref a1) (C := RX9) (T := TX9) (N := 18) hx hb hts iX9_message_9 hown hN.1 hP 0 rfl rfl 8 (by decide) (hts _ mX9_message_2) (fun _ h9 => h9) rfl dX9_message_9 ?_
  refine lv_iconst (v := 3) hx hb dX9_message_12 (by decide) ?_
  refine ld_i (v := 0) hx hb hN hP 1 rfl (vin (by decide +kernel)) (by first | rfl | decide +kernel) dX9_message_13 ?_
  refine lv_iconst (v := 1) hx hb dX9_message_14 (by decide) ?_
  refine lv_isub hx hb dX9_message_15 ?_
  refine tp_i ((-1)) (by decide) ?_
  refine cs_i (As := [.int x0, .int 0, .int (-1)]) (rest := [.ref a0]) (wr := [(a0, .inr (9, [.int 0, .ref a2, .int 0, .int 0, .int 0, .int 0, .int 0, .int (-1), .ref a1, .ref a3, .ref a4, .ref a5, .int 0, .int 0, .int 0, .int 0, .int 0, .ref a6])), (a1, .inl (cs 0, 45783, .inl (layF (fun _ => 0) 1)))]) ⟨hx, hb, hml, hown, hts⟩ (fun sz => k299_X9_in l D cs sz (x0) hf0 hf1) (va_cwS 3 hts gX9_message_X9_in rfl rfl rfl hdX9_in_o ⟨Nat.le_of_ble_eq_true rfl, Nat.le_of_ble_eq_true rfl⟩) hN hP hD hS hA [] [0, 1] rfl rfl rfl rfl (by decide) rfl rfl hl.1 (Nat.le_of_ble_eq_true rfl) dX9_message_16 (Nat.le_of_ble_eq_true rfl) (Nat.le_of_ble_eq_true rfl) (fun u0 H locs hP hD hS => ?_)
  have hP : va_P D vwCl [(a0, .inr (9, [.int 0, .ref a2, .int 0, .int 0, .int 0, .int 0, .int 0, .int (-1), .ref a1, .ref a3, .ref a4, .ref a5, .int 0, .int 0, .int 0, .int 0, .int 0, .ref a6])), (a1, .inl (cs 0, 45783, .inl (layF (fun _ => 0) 1)))] H := hP
  have hD : va_D A [(a0, .inr (9, [.int 0, .ref a2, .int 0, .int 0, .int 0, .int 0, .int 0, .int (-1), .ref a1, .ref a3, .ref a4, .ref a5, .int 0, .int 0, .int 0, .int 0, .int 0, .ref a6])), (a1, .inl (cs 0, 45783, .inl (layF (fun _ => 0) 1)))] := hD
  refine W.widen (k := 0) (n := 0) (Nat.le_of_ble_eq_true rfl) (Nat.le_of_ble_eq_true rfl) ?_
  refine lv_if_ne (tgt := 26) hx hb dX9_message_19 (by decide) (fun c9 => absurd (by decide) c9) (fun _ => ?_)
  refine lv_iconst (v := 1) hx hb dX9_message_22 (by decide) ?_
  refine lv_goto (tgt := 27) hx hb dX9_message_23 (by decide) ?_
  refine lv_iconst (v := 1) hx hb dX9_message_27 (by decide) ?_
  refine cv_i (As := [.int 1, .int 1]) (rest := []) (b := a0) (wr := [(a1, .inl (cs 0, 45783, .inl (layF (fun _ => 0) 1)))]) ⟨hx, hb, hml, hown, hts⟩ (fun sz => k156_X9_fails l D cs sz a0 a2 a1 a3 a4 a5 a6) (cwV 2 hts gX9_message_X9_fails rfl rfl rfl hdX9_fails_v ⟨Nat.le_of_ble_eq_true rfl, Nat.le_of_ble_eq_true rfl⟩) hN hP hD hS hA [0] [1] rfl rfl rfl rfl (by decide) (ci := 9) (q0 := 0) rfl rfl rfl rfl hl.1 (Nat.le_of_ble_eq_true rfl) dX9_message_28 (Nat.le_of_ble_eq_true rfl) (Nat.le_of_ble_eq_true rfl) (fun u1 H locs hP hD hS => ?_)
  have hP : va_P D vwCl [(a1, .inl (cs 0, 45783, .inl (layF (fun _ => 0) 1))), (a0, .inr (9, [.int 1, .ref a2, .int 0, .int 0, .int 0, .int 0, .int 0, .int (-1), .ref a1, .ref a3, .ref a4, .ref a5, .int 0, .int 0, .int 0, .int 0, .int 0, .ref a6]))] H := hP
  have hD : va_D A [(a1, .inl (cs 0, 45783, .inl (layF (fun _ => 0) 1))), (a0, .inr (9, [.int 1, .ref a2, .int 0, .int 0, .int 0, .int 0, .int 0, .int (-1), .ref a1, .ref a3, .ref a4, .ref a5, .int 0, .int 0, .int 0, .int 0, .int 0, .ref a6]))] := hD
  refine W.widen (k := 0) (n := 0) (Nat.le_of_ble_eq_true rfl) (Nat.le_of_ble_eq_true rfl) ?_
  refine lv_if_ne (tgt := 56) hx hb dX9_message_31 (by decide) (fun _ => ?_) (fun c9 => absurd c9 (by decide))
  refine lv_iconst (v := 0) hx hb dX9_message_56 (by decide) ?_
  refine lv_goto (tgt := 70) hx hb dX9_message_57 (by decide) ?_
  exact en_i (fun k => ([] : List Nat).getD k 0) hx hb hr hlocks rfl rfl hP hD hS (Nat.le_of_ble_eq_true rfl) (Nat.le_of_ble_eq_true rfl) dX9_message_70
set_option maxHeartbeats 4000000 in
set_option maxRecDepth 100000 in
theorem law_6_b {p : Program} {l : Launch} {e : Env} {s : State} {m : MethodId} {args : Array Value} {below : List Frame} {meth : Method} {c : Code} {Q : State → Prop} {D : va_G} {cs : Nat → ClassId} {A : Nat → Prop} {xs : Nat → Int32} {b : Nat} (hx : p.tables.exec = Jvm.exec) (hb : c.code = cL_law) (hml : c.maxLocals = 9) (hown : s.vm.findClass RL = some m.cls) (hts : ∀ w ∈ wsL_law, w.before args s = true) (hN : NK D cs s) (hX : va_X b 6 xs s s.heap) (hbl : b < s.heap.size) (hbA : ¬ A b) (hA : ∀ q : Nat, s.heap.size ≤ q → A q) (hZ : ZX A s s.heap) (hZS : ZS cs A s s.heap) (hlt : l.stackTraces = false)
    (kend : ∀ (H : Heap) (locs : List Loc) (ls : Array Slot), va_S A s.heap H locs → lv_has ls 9 [(0, .ref b), (4, .int 0)] → W p l e room_1 s m args below meth c H locs 600002 7302232 Q (F0 m 1169 ls []))
    (a0 a1 a2 a3 a4 a5 a6 a7 a8 a9 a10 a11 a12 a13 a14 a15 a16 a17 a18 a19 a20 : Nat) (y1 y2 : Int32) (hy1 : xs 1 = (y1)) (hy2 : xs 2 = (y2)) (g1_4 : ¬ y1 < 0) (g1_3 : (-1) < y1) (H : Heap) (locs : List Loc) (ls : Array Slot) (hP : va_P D vwCl [(a0, .inr (8, [.ref a5, .ref a1, .ref a6, .ref a7, .int 0, .int 0, .int (-1)])), (a1, .inr (7, [.ref a8, .ref a9, .ref a2, .ref a10, .ref a11, .ref a12, .long 0, .int 0, .int 0, .int 0, .int 0, .int 0, .int 0, .int 0, .int 0, .int 0])), (a2, .inr (2, [.ref a13, .ref a14, .int 0])), (a3, .inr (9, [.int 0, .ref a15, .int 0, .int 0, .int 0, .int 0, .int 0, .int (-1), .ref a4, .ref a16, .ref a17, .ref a18, .int 0, .int 0, .int 0, .int 0, .int 0, .ref a19])), (a4, .inl (cs 0, 45783, .inl (layF (fun _ => 0) 1)))] H) (hD : va_D A [(a0, .inr (8, [.ref a5, .ref a1, .ref a6, .ref a7, .int 0, .int 0, .int (-1)])), (a1, .inr (7, [.ref a8, .ref a9, .ref a2, .ref a10, .ref a11, .ref a12, .long 0, .int 0, .int 0, .int 0, .int 0, .int 0, .int 0, .int 0, .int 0, .int 0])), (a2, .inr (2, [.ref a13, .ref a14, .int 0])), (a3, .inr (9, [.int 0, .ref a15, .int 0, .int 0, .int 0, .int 0, .int 0, .int (-1), .ref a4, .ref a16, .ref a17, .ref a18, .int 0, .int 0, .int 0, .int 0, .int 0, .ref a19])), (a4, .inl (cs 0, 45783, .inl (layF (fun _ => 0) 1)))]) (hS : va_S A s.heap H locs) (hl : lv_has ls 9 [(4, .int 0), (3, .ref a20), (2, .ref a3), (1, .ref a0), (0, .ref b)]) : W p l e room_1 s m args below meth c H locs 391 467079 Q (F0 m 470 ls []) := by
  refine lv_aload_n hx hb dL_law_470 rfl (lv_at hl 3 rfl) ?_
  refine lv_aload_n hx hb dL_law_471 rfl (lv_at hl 4 rfl) ?_
  refine lv_iload hx hb dL_law_472 (lv_at hl 0 rfl) ?_
  refine lv_iconst (v := 1) hx hb dL_law_474 (by decide) ?_
  refine lv_iadd hx hb dL_law_475 ?_
  refine tp_i (1) (by decide) ?_
  refine va_sld hx hb hX hbl hbA hS (vin (by decide +kernel)) dL_law_476 ?_
  refine tp_i (y1) hy1 ?_
  refine lv_aload_n hx hb dL_law_477 rfl (lv_at hl 4 rfl) ?_
  refine lv_iload hx hb dL_law_478 (lv_at hl 0 rfl) ?_
  refine lv_iconst (v := 2) hx hb dL_law_480 (by decide) ?_
  refine lv_iadd hx hb dL_law_481 ?_
  refine tp_i (2) (by decide) ?_
  refine va_sld hx hb hX hbl hbA hS (vin (by decide +kernel)) dL_law_482 ?_
  refine tp_i (y2) hy2 ?_
  refine lv_aload_n hx hb dL_law_483 rfl (lv_at hl 1 rfl) ?_
  refine ch_i (As := [.ref a0, .int y1, .int y2, .ref a20]) (rest := []) (wr := [(a3, .inr (9, [.int 0, .ref a15, .int 0, .int 0, .int 0, .int 0, .int 0, .int (-1), .ref a4, .ref a16, .ref a17, .ref a18, .int 0, .int 0, .int 0, .int 0, .int 0, .ref a19])), (a4, .inl (cs 0, 45783, .inl (layF (fun _ => 0) 1)))]) ⟨hx, hb, hml, hown, hts⟩ (fun sz => k298_L_message l D cs sz hlt a0 a1 a2 a20 a5 a6 a7 a8 a9 a10 a11 a12 a13 a14 (y1) (y2) g1_4) (vx_cwSW 4 hts gL_law_L_message rfl rfl rfl hdL_message_o ⟨Nat.le_of_ble_eq_true rfl, Nat.le_of_ble_eq_true rfl⟩) hN hP hD hS hA hZ [0, 1, 2] [3, 4] rfl rfl rfl rfl (by decide) rfl rfl hl.1 (Nat.le_of_ble_eq_true rfl) dL_law_484 (Nat.le_of_ble_eq_true rfl) (Nat.le_of_ble_eq_true rfl) (fun u0 H locs hP hD hS => ?_)
  have hP : va_P D vwCl [(a3, .inr (9, [.int 0, .ref a15, .int 0, .int 0, .int 0, .int 0, .int 0, .int (-1), .ref a4, .ref a16, .ref a17, .ref a18, .int 0, .int 0, .int 0, .int 0, .int 0, .ref a19])), (a4, .inl (cs 0, 45783, .inl (layF (fun _ => 0) 1)))] H := hP
  have hD : va_D A [(a3, .inr (9, [.int 0, .ref a15, .int 0, .int 0, .int 0, .int 0, .int 0, .int (-1), .ref a4, .ref a16, .ref a17, .ref a18, .int 0, .int 0, .int 0, .int 0, .int 0, .ref a19])), (a4, .inl (cs 0, 45783, .inl (layF (fun _ => 0) 1)))] := hD
  refine W.widen (k := 392) (n := 467085) (Nat.le_of_ble_eq_true rfl) (Nat.le_of_ble_eq_true rfl) ?_
  refine lv_istore (lv' := [(5, .int 1), (4, .int 0), (3, .ref a20), (2, .ref a3), (1, .ref a0), (0, .ref b)]) hx hb dL_law_487 hl (by decide) rfl (fun ls hl => ?_)
  refine lv_aload_n hx hb dL_law_489 rfl (lv_at hl 3 rfl) ?_
  refine lv_aload_n hx hb dL_law_490 rfl (lv_at hl 5 rfl) ?_
  refine lv_iload hx hb dL_law_491 (lv_at hl 1 rfl) ?_
  refine lv_iconst (v := 1) hx hb dL_law_493 (by decide) ?_
  refine lv_iadd hx hb dL_law_494 ?_
  refine tp_i (1) (by decide) ?_
  refine va_sld hx hb hX hbl hbA hS (vin (by decide +kernel)) dL_law_495 ?_
  refine tp_i (y1) hy1 ?_
  refine lv_aload_n hx hb dL_law_496 rfl (lv_at hl 5 rfl) ?_
  refine lv_iload hx hb dL_law_497 (lv_at hl 1 rfl) ?_
  refine lv_iconst (v := 2) hx hb dL_law_499 (by decide) ?_
  refine lv_iadd hx hb dL_law_500 ?_
  refine tp_i (2) (by decide) ?_
  refine va_sld hx hb hX hbl hbA hS (vin (by decide +kernel)) dL_law_501 ?_
  refine tp_i (y2) hy2 ?_
  refine cv_i (As := [.int y1, .int y2]) (rest := []) (b := a3) (wr := []) ⟨hx, hb, hml, hown, hts⟩ (fun sz => k300_X9_message l D cs sz a3 a4 a15 a16 a17 a18 a19 (y1) (y2) g1_4 g1_3) (cwV 2 hts gL_law_X9_message rfl rfl rfl hdX9_message_v ⟨Nat.le_of_ble_eq_true rfl, Nat.le_of_ble_eq_true rfl⟩) hN hP hD hS hA [0, 1] [] rfl rfl rfl rfl (by decide) (ci := 9) (q0 := 0) rfl rfl rfl rfl hl.1 (Nat.le_of_ble_eq_true rfl) dL_law_502 (Nat.le_of_ble_eq_true rfl) (Nat.le_of_ble_eq_true rfl) (fun u1 H locs hP hD hS => ?_)
  have hP : va_P D vwCl [(a4, .inl (cs 0, 45783, .inl (layF (fun _ => 0) 1))), (a3, .inr (9, [.int 1, .ref a15, .int 0, .int 0, .int 0, .int 0, .int 0, .int (-1), .ref a4, .ref a16, .ref a17, .ref a18, .int 0, .int 0, .int 0, .int 0, .int 0, .ref a19]))] H := hP
  have hD : va_D A [(a4, .inl (cs 0, 45783, .inl (layF (fun _ => 0) 1))), (a3, .inr (9, [.int 1, .ref a15, .int 0, .int 0, .int 0, .int 0, .int 0, .int (-1), .ref a4, .ref a16, .ref a17, .ref a18, .int 0, .int 0, .int 0, .int 0, .int 0, .ref a19]))] := hD
  refine W.widen (k := 392) (n := 467085) (Nat.le_of_ble_eq_true rfl) (Nat.le_of_ble_eq_true rfl) ?_
  refine lv_istore (lv' := [(6, .int 0), (5, .int 1), (4, .int 0), (3, .ref a20), (2, .ref a3), (1, .ref a0), (0, .ref b)]) hx hb dL_law_505 hl (by decide) rfl (fun ls hl => ?_)
  refine lv_aload_n hx hb dL_law_507 rfl (lv_at hl 4 rfl) ?_
  refine cv_i (As := []) (rest := []) (b := a3) (wr := [(a4, .inl (cs 0, 45783, .inl (layF (fun _ => 0) 1)))]) ⟨hx, hb, hml, hown, hts⟩ (fun sz => k158_X9_thrown l D cs sz a3 a15 a4 a16 a17 a18 a19) (cwV 0 hts gL_law_X9_thrown rfl rfl rfl hdX9_thrown_v ⟨Nat.le_of_ble_eq_true rfl, Nat.le_of_ble_eq_true rfl⟩) hN hP hD hS hA [1] [0] rfl rfl rfl rfl (by decide) (ci := 9) (q0 := 0) rfl rfl rfl rfl hl.1 (Nat.le_of_ble_eq_true rfl) dL_law_508 (Nat.le_of_ble_eq_true rfl) (Nat.le_of_ble_eq_true rfl) (fun u2 H locs hP hD hS => ?_)
  have hP : va_P D vwCl [(a4, .inl (cs 0, 45783, .inl (layF (fun _ => 0) 1))), (a3, .inr (9, [.int 1, .ref a15, .int 0, .int 0, .int 0, .int 0, .int 0, .int (-1), .ref a4, .ref a16, .ref a17, .ref a18, .int 0, .int 0, .int 0, .int 0, .int 0, .ref a19]))] H := hP
  have hD : va_D A [(a4, .inl (cs 0, 45783, .inl (layF (fun _ => 0) 1))), (a3, .inr (9, [.int 1, .ref a15, .int 0, .int 0, .int 0, .int 0, .int 0, .int (-1), .ref a4, .ref a16, .ref a17, .ref a18, .int 0, .int 0, .int 0, .int 0, .int 0, .ref a19]))] := hD
  refine W.widen (k := 392) (n := 467085) (Nat.le_of_ble_eq_true rfl) (Nat.le_of_ble_eq_true rfl) ?_
  refine lv_iload hx hb dL_law_511 (lv_at hl 1 rfl) ?_
  refine lv_icmp_eq (tgt := 518) hx hb dL_law_513 (by decide) (fun _ => ?_) (fun c9 => absurd (by decide) c9)
  refine lv_iload hx hb dL_law_518 (lv_at hl 1 rfl) ?_
  refine lv_if_ne (tgt := 535) hx hb dL_law_520 (by decide) (fun _ => ?_) (fun c9 => absurd c9 (by decide))
  refine lv_goto (tgt := 1169) hx hb dL_law_535 (by decide) ?_
  refine W.widen (k := 600002) (n := 7302232) (Nat.le_of_ble_eq_true rfl) (Nat.le_of_ble_eq_true rfl) ?_
  exact kend _ _ _ hS (lv_sub hl [6, 2] rfl)

theorem mX8_proposal_3 : (.fieldLink RX8 19 "OneBeat" "now" "LOneBeat$World;" : Cond) ∈ wsX8_proposal := List.mem_of_getElem? (i := 3) (by decide +kernel)
theorem iX8_proposal_8 : ∀ w ∈ wsX80, w ∈ wsX8_proposal := fun w h => List.mem_of_mem_drop (List.mem_of_mem_take ((show wsX80 = (wsX8_proposal.drop 22).take 7 by decide +kernel) ▸ h))
theorem iX8_proposal_7 : ∀ w ∈ wsX70, w ∈ wsX8_proposal := fun w h => List.mem_of_mem_drop (List.mem_of_mem_take ((show wsX70 = (wsX8_proposal.drop 29).take 16 by decide +kernel) ▸ h))
theorem xgX8_proposal_109_3 : ∀ w ∈ (xnse RX8 109).filter goodWord, w ∈ wsX8_proposal := fun w h => by unfold wsX8_proposal; exact List.mem_cons_of_mem _ (List.mem_append_left _ (List.mem_append_right _ h))
theorem mX8_proposal_1 : (.classLink RX8 105 "java/util/NoSuchElementException" : Cond) ∈ wsX8_proposal := List.mem_of_getElem? (i := 1) (by decide +kernel)
theorem mX8_proposal_2 : (.initialized "java/util/NoSuchElementException" : Cond) ∈ wsX8_proposal := List.mem_of_getElem? (i := 2) (by decide +kernel)
set_option maxHeartbeats 4000000 in
set_option maxRecDepth 100000 in
theorem k301_X8_proposal (l : Launch) (D : va_G) (cs : Nat → ClassId) (sz : Nat) (hlt : l.stackTraces = false) (a0 a1 a2 a3 a4 a5 a6 a7 a8 a9 a10 : Nat) (x0 : Int32) : KX l yX8_proposal wsX8_proposal 6 100 1 6 D cs sz [.ref a0, .int x0] [(a0, .inr (8, [.ref a2, .ref a1, .ref a3, .ref a4, .int 0, .int 0, .int (-1)])), (a1, .inr (7, [.ref a5, .ref a6, .ref a7, .ref a8, .ref a9, .ref a10, .long 0, .int 0, .int 0, .int 0, .int 0, .int 0, .int 0, .int 0, .int 0, .int 0]))] QnI "java/util/NoSuchElementException" := by
  refine KX.of cX8_proposal 2 (some .int) (by decide) rfl (Nat.le_of_ble_eq_true rfl) ?_
  intro p e s m below meth c A ls hx hb hr hml hown hts hlocks hnx hP hN hD hA hS hl hZ
  have hown : s.vm.findClass RX8 = some m.cls := hown
  have hl : lv_has ls 2 [(0, .ref a0), (1, .int x0)] := hl
  refine lv_aload_n hx hb dX8_proposal_0 rfl (lv_at hl 0 rfl) ?_
  refine va_get (D := D) (ci := 8) (v := .ref a1) (C := RX8) (T := TX8) (N := 7) hx hb hts iX8_proposal_8 hown hN.1 hP 0 rfl rfl 1 (by decide) (hts _ mX8_proposal_3) (fun _ h9 => h9) rfl dX8_proposal_1 ?_
  refine va_getN (D := D) (ci := 7) (v := .int 0) (C := RX7) (T := TX7) (N := 16) hx hb hts iX8_proposal_7 hown hN.1 hP 1 rfl rfl 11 (by decide) (hN.f 50 rfl) (fun _ h9 => h9) rfl dX8_proposal_4 ?_
  refine lv_if_ne (tgt := 20) hx hb dX8_proposal_7 (by decide) (fun c9 => absurd (by decide) c9) (fun _ => ?_)
  exact tx_n2 (E := "java/util/NoSuchElementException") 3 hx hb hlt hown hN (by decide +kernel) (hts _ mX8_proposal_1) (hts _ mX8_proposal_2) (hN.s 13 rfl) rfl (fun w h => hts w (xgX8_proposal_109_3 w h)) xnRX8_109_3 xdRX8_109_3 xoRX8_105_109_3 hZ hS hl hml dX8_proposal_10 dX8_proposal_13 dX8_proposal_14 dX8_proposal_16 dX8_proposal_19 hnx (Nat.le_of_ble_eq_true rfl) (Nat.le_of_ble_eq_true rfl) (Nat.le_of_ble_eq_true rfl) (Nat.le_of_ble_eq_true rfl) hlocks (Nat.le_of_ble_eq_true rfl) (Nat.le_of_ble_eq_true rfl)
theorem hdX8_proposal_v : yX8_proposal.cls = RX8 ∧ yX8_proposal.cls ≠ "java/lang/invoke/MethodHandle" ∧ yX8_proposal.cls ≠ "java/lang/invoke/VarHandle" ∧ (parseMethodDescriptor yX8_proposal.desc).map (fun d => d.parameters.length) = some 1 := by decide +kernel
theorem mL_proposal_1 : (.classLink RL 30 "java/util/NoSuchElementException" : Cond) ∈ wsL_proposal := List.mem_of_getElem? (i := 1) (by decide +kernel)
set_option maxHeartbeats 4000000 in
set_option maxRecDepth 100000 in
theorem k302_L_proposal (l : Launch) (D : va_G) (cs : Nat → ClassId) (sz : Nat) (hlt : l.stackTraces = false) (a0 a1 a2 a3 a4 a5 a6 a7 a8 a9 a10 a11 : Nat) (x0 : Int32) : KH l yL_proposal wsL_proposal 7 121 1 6 D cs sz [.ref a0, .int x0, .ref a2] [(a0, .inr (8, [.ref a3, .ref a1, .ref a4, .ref a5, .int 0, .int 0, .int (-1)])), (a1, .inr (7, [.ref a6, .ref a7, .ref a8, .ref a9, .ref a10, .ref a11, .long 0, .int 0, .int 0, .int 0, .int 0, .int 0, .int 0, .int 0, .int 0, .int 0]))] (fun u => []) (1) := by
  refine KH.of cL_proposal 4 (some .int) (by decide) rfl (Nat.le_of_ble_eq_true rfl) ?_
  intro p e s m below meth c A ls hx hb hr hml hown hts hlocks htab hP hN hD hA hS hl hZ
  have hown : s.vm.findClass RL = some m.cls := hown
  have hl : lv_has ls 4 [(0, .ref a0), (1, .int x0), (2, .ref a2)] := hl
  refine lv_aload_n hx hb dL_proposal_0 rfl (lv_at hl 2 rfl) ?_
  refine lv_iconst (v := 0) hx hb dL_proposal_1 (by decide) ?_
  refine lv_aload_n hx hb dL_proposal_2 rfl (lv_at hl 0 rfl) ?_
  refine lv_iload_n hx hb dL_proposal_3 rfl (lv_at hl 1 rfl) ?_
  refine xc_i (wr := []) (As := [.int x0]) (rest := [.int 0, .ref a2]) (b := a0) ⟨hx, hb, hml, hown, hts⟩ (fun sz => k301_X8_proposal l D cs sz hlt a0 a1 a3 a4 a5 a6 a7 a8 a9 a10 a11 (x0)) (cwV 1 hts gL_proposal_X8_proposal rfl rfl rfl hdX8_proposal_v ⟨Nat.le_of_ble_eq_true rfl, Nat.le_of_ble_eq_true rfl⟩) hN hP hD hS hA hZ [0, 1] rfl rfl (ci := 8) (q0 := 0) rfl rfl rfl rfl hl.1 (Nat.le_of_ble_eq_true rfl) dL_proposal_4 (Nat.le_of_ble_eq_true rfl) (Nat.le_of_ble_eq_true rfl) [] rfl rfl (by decide) [] ⟨0, 9, 12, 30⟩ [⟨0, 9, 15, 13⟩] htab (fun z h => nomatch h) rfl (by decide) (hts _ mL_proposal_1) 3 rfl (fun q9_5 H locs hP hD hS => ?_)
  have hP : va_P D vwCl [] H := hP
  have hD : va_D A [] := hD
  refine W.widen (k := 1) (n := 6) (Nat.le_of_ble_eq_true rfl) (Nat.le_of_ble_eq_true rfl) ?_
  refine lv_astore_n (lv' := [(3, .ref q9_5), (0, .ref a0), (1, .int x0), (2, .ref a2)]) hx hb dL_proposal_12 rfl hl (by decide) rfl (fun ls hl => ?_)
  refine lv_iconst (v := 1) hx hb dL_proposal_13 (by decide) ?_
  exact en_i (fun k => ([] : List Nat).getD k 0) hx hb hr hlocks rfl rfl hP hD hS (Nat.le_of_ble_eq_true rfl) (Nat.le_of_ble_eq_true rfl) dL_proposal_14
theorem mX9_proposal_1 : (.fieldLink RX9 40 "OneBeatModel" "thrown" "I" : Cond) ∈ wsX9_proposal := List.mem_of_getElem? (i := 1) (by decide +kernel)
theorem iX9_proposal_9 : ∀ w ∈ wsX90, w ∈ wsX9_proposal := fun w h => List.mem_of_mem_drop (List.mem_of_mem_take ((show wsX90 = (wsX9_proposal.drop 11).take 18 by decide +kernel) ▸ h))
theorem mX9_proposal_2 : (.fieldLink RX9 18 "OneBeatModel" "data" "[I" : Cond) ∈ wsX9_proposal := List.mem_of_getElem? (i := 2) (by decide +kernel)
set_option maxHeartbeats 4000000 in
set_option maxRecDepth 100000 in
theorem k303_X9_proposal (l : Launch) (D : va_G) (cs : Nat → ClassId) (sz : Nat) (a0 a1 a2 a3 a4 a5 a6 : Nat) (x0 : Int32) : KI l yX9_proposal wsX9_proposal 1 22 0 0 D cs sz [.ref a0, .int x0] [(a0, .inr (9, [.int 0, .ref a2, .int 0, .int 0, .int 0, .int 0, .int 0, .int (-1), .ref a1, .ref a3, .ref a4, .ref a5, .int 0, .int 0, .int 0, .int 0, .int 0, .ref a6])), (a1, .inl (cs 0, 45783, .inl (layF (fun _ => 0) 1)))] (fun u => [(a1, .inl (cs 0, 45783, .inl (layF (fun _ => 0) 1))), (a0, .inr (9, [.int 1, .ref a2, .int 0, .int 0, .int 0, .int 0, .int 0, .int (-1), .ref a1, .ref a3, .ref a4, .ref a5, .int 0, .int 0, .int 0, .int 0, .int 0, .ref a6]))]) (0) := by
  refine KI.of cX9_proposal 2 (some .int) (by decide) rfl (Nat.le_of_ble_eq_true rfl) ?_
  intro p e s m below meth c A ls hx hb hr hml hown hts hlocks hin hP hN hD hA hS hl
  have hown : s.vm.findClass RX9 = some m.cls := hown
  have hl : lv_has ls 2 [(0, .ref a0), (1, .int x0)] := hl
  refine lv_aload_n hx hb dX9_proposal_0 rfl (lv_at hl 0 rfl) ?_
  refine lv_iconst (v := 0) hx hb dX9_proposal_1 (by decide) ?_
  refine va_put (D := D) (ci := 9) (v := .int 0) (ty := .int) (C := RX9) (T := TX9) (N := 18) hx hb hts iX9_proposal_9 tyX9 tyX9_ok nmX9 hown hN.1 hP hD hS 0 rfl rfl 0 (by decide) (hts _ mX9_proposal_1) (fun _ h9 => h9) rfl (by decide +kernel) rfl rfl (Nat.le_of_ble_eq_true rfl) dX9_proposal_2 (fun H locs hP hD hS => ?_)
  have hP : va_P D vwCl [(a0, .inr (9, [.int 0, .ref a2, .int 0, .int 0, .int 0, .int 0, .int 0, .int (-1), .ref a1, .ref a3, .ref a4, .ref a5, .int 0, .int 0, .int 0, .int 0, .int 0, .ref a6])), (a1, .inl (cs 0, 45783, .inl (layF (fun _ => 0) 1)))] H := hP
  have hD : va_D A [(a0, .inr (9, [.int 0, .ref a2, .int 0, .int 0, .int 0, .int 0, .int 0, .int (-1), .ref a1, .ref a3, .ref a4, .ref a5, .int 0, .int 0, .int 0, .int 0, .int 0, .ref a6])), (a1, .inl (cs 0, 45783, .inl (layF (fun _ => 0) 1)))] := hD
  refine lv_aload_n hx hb dX9_proposal_5 rfl (lv_at hl 0 rfl) ?_
  refine lv_aload_n hx hb dX9_proposal_6 rfl (lv_at hl 0 rfl) ?_
  refine va_get (D := D) (ci := 9) (v := .ref a1) (C := RX9) (T := TX9) (N := 18) hx hb hts iX9_proposal_9 hown hN.1 hP 0 rfl rfl 8 (by decide) (hts _ mX9_proposal_2) (fun _ h9 => h9) rfl dX9_proposal_7 ?_
  refine lv_bipush (v := 6) hx hb dX9_proposal_10 (by decide) ?_
  refine ld_i (v := 0) hx hb hN hP 1 rfl (vin (by decide +kernel)) (by first | rfl | decide +kernel) dX9_proposal_12 ?_
  refine lv_if_ne (tgt := 20) hx hb dX9_proposal_13 (by decide) (fun c9 => absurd (by decide) c9) (fun _ => ?_)
  refine lv_iconst (v := 1) hx hb dX9_proposal_16 (by decide) ?_
  refine lv_goto (tgt := 21) hx hb dX9_proposal_17 (by decide) ?_
  refine lv_iconst (v := 1) hx hb dX9_proposal_21 (by decide) ?_
  refine cv_i (As := [.int 1, .int 1]) (rest := []) (b := a0) (wr := [(a1, .inl (cs 0, 45783, .inl (layF (fun _ => 0) 1)))]) ⟨hx, hb, hml, hown, hts⟩ (fun sz => k156_X9_fails l D cs sz a0 a2 a1 a3 a4 a5 a6) (cwV 2 hts gX9_proposal_X9_fails rfl rfl rfl hdX9_fails_v ⟨Nat.le_of_ble_eq_true rfl, Nat.le_of_ble_eq_true rfl⟩) hN hP hD hS hA [0] [1] rfl rfl rfl rfl (by decide) (ci := 9) (q0 := 0) rfl rfl rfl rfl hl.1 (Nat.le_of_ble_eq_true rfl) dX9_proposal_22 (Nat.le_of_ble_eq_true rfl) (Nat.le_of_ble_eq_true rfl) (fun u0 H locs hP hD hS => ?_)
  have hP : va_P D vwCl [(a1, .inl (cs 0, 45783, .inl (layF (fun _ => 0) 1))), (a0, .inr (9, [.int 1, .ref a2, .int 0, .int 0, .int 0, .int 0, .int 0, .int (-1), .ref a1, .ref a3, .ref a4, .ref a5, .int 0, .int 0, .int 0, .int 0, .int 0, .ref a6]))] H := hP
  have hD : va_D A [(a1, .inl (cs 0, 45783, .inl (layF (fun _ => 0) 1))), (a0, .inr (9, [.int 1, .ref a2, .int 0, .int 0, .int 0, .int 0, .int 0, .int (-1), .ref a1, .ref a3, .ref a4, .ref a5, .int 0, .int 0, .int 0, .int 0, .int 0, .ref a6]))] := hD
  refine W.widen (k := 0) (n := 0) (Nat.le_of_ble_eq_true rfl) (Nat.le_of_ble_eq_true rfl) ?_
  refine lv_if_ne (tgt := 50) hx hb dX9_proposal_25 (by decide) (fun _ => ?_) (fun c9 => absurd c9 (by decide))
  refine lv_iconst (v := 0) hx hb dX9_proposal_50 (by decide) ?_
  refine lv_goto (tgt := 63) hx hb dX9_proposal_51 (by decide) ?_
  exact en_i (fun k => ([] : List Nat).getD k 0) hx hb hr hlocks rfl rfl hP hD hS (Nat.le_of_ble_eq_true rfl) (Nat.le_of_ble_eq_true rfl) dX9_proposal_63
theorem hdL_proposal_o : yL_proposal.cls ≠ "java/lang/invoke/MethodHandle" ∧ yL_proposal.cls ≠ "java/lang/invoke/VarHandle" ∧ (parseMethodDescriptor yL_proposal.desc).map (fun d => d.parameters.length) = some 3 := by decide +kernel
theorem hdX9_proposal_v : yX9_proposal.cls = RX9 ∧ yX9_proposal.cls ≠ "java/lang/invoke/MethodHandle" ∧ yX9_proposal.cls ≠ "java/lang/invoke/VarHandle" ∧ (parseMethodDescriptor yX9_proposal.desc).map (fun d => d.parameters.length) = some 1 := by decide +kernel
set_option maxHeartbeats 4000000 in
set_option maxRecDepth 100000 in
theorem law_7 {p : Program} {l : Launch} {e : Env} {s : State} {m : MethodId} {args : Array Value} {below : List Frame} {meth : Method} {c : Code} {Q : State → Prop} {D : va_G} {cs : Nat → ClassId} {A : Nat → Prop} {xs : Nat → Int32} {b : Nat} (hx : p.tables.exec = Jvm.exec) (hb : c.code = cL_law) (hml : c.maxLocals = 9) (hown : s.vm.findClass RL = some m.cls) (hts : ∀ w ∈ wsL_law, w.before args s = true) (hN : NK D cs s) (hX : va_X b 6 xs s s.heap) (hbl : b < s.heap.size) (hbA : ¬ A b) (hA : ∀ q : Nat, s.heap.size ≤ q → A q) (hZ : ZX A s s.heap) (hZS : ZS cs A s s.heap) (hlt : l.stackTraces = false)
    (kend : ∀ (H : Heap) (locs : List Loc) (ls : Array Slot), va_S A s.heap H locs → lv_has ls 9 [(0, .ref b), (4, .int 0)] → W p l e room_1 s m args below meth c H locs 600002 7302232 Q (F0 m 1169 ls []))
    (a0 a1 a2 a3 a4 a5 a6 a7 a8 a9 a10 a11 a12 a13 a14 a15 a16 a17 a18 : Nat) (y1 : Int32) (hy1 : xs 1 = (y1))  (H : Heap) (locs : List Loc) (ls : Array Slot) (hP : va_P D vwCl [(a0, .inr (8, [.ref a4, .ref a1, .ref a5, .ref a6, .int 0, .int 0, .int (-1)])), (a1, .inr (7, [.ref a7, .ref a8, .ref a9, .ref a10, .ref a11, .ref a12, .long 0, .int 0, .int 0, .int 0, .int 0, .int 0, .int 0, .int 0, .int 0, .int 0])), (a2, .inr (9, [.int 0, .ref a13, .int 0, .int 0, .int 0, .int 0, .int 0, .int (-1), .ref a3, .ref a14, .ref a15, .ref a16, .int 0, .int 0, .int 0, .int 0, .int 0, .ref a17])), (a3, .inl (cs 0, 45783, .inl (layF (fun _ => 0) 1)))] H) (hD : va_D A [(a0, .inr (8, [.ref a4, .ref a1, .ref a5, .ref a6, .int 0, .int 0, .int (-1)])), (a1, .inr (7, [.ref a7, .ref a8, .ref a9, .ref a10, .ref a11, .ref a12, .long 0, .int 0, .int 0, .int 0, .int 0, .int 0, .int 0, .int 0, .int 0, .int 0])), (a2, .inr (9, [.int 0, .ref a13, .int 0, .int 0, .int 0, .int 0, .int 0, .int (-1), .ref a3, .ref a14, .ref a15, .ref a16, .int 0, .int 0, .int 0, .int 0, .int 0, .ref a17])), (a3, .inl (cs 0, 45783, .inl (layF (fun _ => 0) 1)))]) (hS : va_S A s.heap H locs) (hl : lv_has ls 9 [(4, .int 0), (3, .ref a18), (2, .ref a2), (1, .ref a0), (0, .ref b)]) : W p l e room_1 s m args below meth c H locs 391 467079 Q (F0 m 538 ls []) := by
  refine lv_aload_n hx hb dL_law_538 rfl (lv_at hl 3 rfl) ?_
  refine lv_aload_n hx hb dL_law_539 rfl (lv_at hl 4 rfl) ?_
  refine lv_iload hx hb dL_law_540 (lv_at hl 0 rfl) ?_
  refine lv_iconst (v := 1) hx hb dL_law_542 (by decide) ?_
  refine lv_iadd hx hb dL_law_543 ?_
  refine tp_i (1) (by decide) ?_
  refine va_sld hx hb hX hbl hbA hS (vin (by decide +kernel)) dL_law_544 ?_
  refine tp_i (y1) hy1 ?_
  refine lv_aload_n hx hb dL_law_545 rfl (lv_at hl 1 rfl) ?_
  refine ch_i (As := [.ref a0, .int y1, .ref a18]) (rest := []) (wr := [(a2, .inr (9, [.int 0, .ref a13, .int 0, .int 0, .int 0, .int 0, .int 0, .int (-1), .ref a3, .ref a14, .ref a15, .ref a16, .int 0, .int 0, .int 0, .int 0, .int 0, .ref a17])), (a3, .inl (cs 0, 45783, .inl (layF (fun _ => 0) 1)))]) ⟨hx, hb, hml, hown, hts⟩ (fun sz => k302_L_proposal l D cs sz hlt a0 a1 a18 a4 a5 a6 a7 a8 a9 a10 a11 a12 (y1)) (vx_cwSW 3 hts gL_law_L_proposal rfl rfl rfl hdL_proposal_o ⟨Nat.le_of_ble_eq_true rfl, Nat.le_of_ble_eq_true rfl⟩) hN hP hD hS hA hZ [0, 1] [2, 3] rfl rfl rfl rfl (by decide) rfl rfl hl.1 (Nat.le_of_ble_eq_true rfl) dL_law_546 (Nat.le_of_ble_eq_true rfl) (Nat.le_of_ble_eq_true rfl) (fun u0 H locs hP hD hS => ?_)
  have hP : va_P D vwCl [(a2, .inr (9, [.int 0, .ref a13, .int 0, .int 0, .int 0, .int 0, .int 0, .int (-1), .ref a3, .ref a14, .ref a15, .ref a16, .int 0, .int 0, .int 0, .int 0, .int 0, .ref a17])), (a3, .inl (cs 0, 45783, .inl (layF (fun _ => 0) 1)))] H := hP
  have hD : va_D A [(a2, .inr (9, [.int 0, .ref a13, .int 0, .int 0, .int 0, .int 0, .int 0, .int (-1), .ref a3, .ref a14, .ref a15, .ref a16, .int 0, .int 0, .int 0, .int 0, .int 0, .ref a17])), (a3, .inl (cs 0, 45783, .inl (layF (fun _ => 0) 1)))] := hD
  refine W.widen (k := 392) (n := 467085) (Nat.le_of_ble_eq_true rfl) (Nat.le_of_ble_eq_true rfl) ?_
  refine lv_istore (lv' := [(5, .int 1), (4, .int 0), (3, .ref a18), (2, .ref a2), (1, .ref a0), (0, .ref b)]) hx hb dL_law_549 hl (by decide) rfl (fun ls hl => ?_)
  refine lv_aload_n hx hb dL_law_551 rfl (lv_at hl 3 rfl) ?_
  refine lv_aload_n hx hb dL_law_552 rfl (lv_at hl 5 rfl) ?_
  refine lv_iload hx hb dL_law_553 (lv_at hl 1 rfl) ?_
  refine lv_iconst (v := 1) hx hb dL_law_555 (by decide) ?_
  refine lv_iadd hx hb dL_law_556 ?_
  refine tp_i (1) (by decide) ?_
  refine va_sld hx hb hX hbl hbA hS (vin (by decide +kernel)) dL_law_557 ?_
  refine tp_i (y1) hy1 ?_
  refine cv_i (As := [.int y1]) (rest := []) (b := a2) (wr := []) ⟨hx, hb, hml, hown, hts⟩ (fun sz => k303_X9_proposal l D cs sz a2 a3 a13 a14 a15 a16 a17 (y1)) (cwV 1 hts gL_law_X9_proposal rfl rfl rfl hdX9_proposal_v ⟨Nat.le_of_ble_eq_true rfl, Nat.le_of_ble_eq_true rfl⟩) hN hP hD hS hA [0, 1] [] rfl rfl rfl rfl (by decide) (ci := 9) (q0 := 0) rfl rfl rfl rfl hl.1 (Nat.le_of_ble_eq_true rfl) dL_law_558 (Nat.le_of_ble_eq_true rfl) (Nat.le_of_ble_eq_true rfl) (fun u1 H locs hP hD hS => ?_)
  have hP : va_P D vwCl [(a3, .inl (cs 0, 45783, .inl (layF (fun _ => 0) 1))), (a2, .inr (9, [.int 1, .ref a13, .int 0, .int 0, .int 0, .int 0, .int 0, .int (-1), .ref a3, .ref a14, .ref a15, .ref a16, .int 0, .int 0, .int 0, .int 0, .int 0, .ref a17]))] H := hP
  have hD : va_D A [(a3, .inl (cs 0, 45783, .inl (layF (fun _ => 0) 1))), (a2, .inr (9, [.int 1, .ref a13, .int 0, .int 0, .int 0, .int 0, .int 0, .int (-1), .ref a3, .ref a14, .ref a15, .ref a16, .int 0, .int 0, .int 0, .int 0, .int 0, .ref a17]))] := hD
  refine W.widen (k := 392) (n := 467085) (Nat.le_of_ble_eq_true rfl) (Nat.le_of_ble_eq_true rfl) ?_
  refine lv_istore (lv' := [(6, .int 0), (5, .int 1), (4, .int 0), (3, .ref a18), (2, .ref a2), (1, .ref a0), (0, .ref b)]) hx hb dL_law_561 hl (by decide) rfl (fun ls hl => ?_)
  refine lv_aload_n hx hb dL_law_563 rfl (lv_at hl 4 rfl) ?_
  refine cv_i (As := []) (rest := []) (b := a2) (wr := [(a3, .inl (cs 0, 45783, .inl (layF (fun _ => 0) 1)))]) ⟨hx, hb, hml, hown, hts⟩ (fun sz => k158_X9_thrown l D cs sz a2 a13 a3 a14 a15 a16 a17) (cwV 0 hts gL_law_X9_thrown rfl rfl rfl hdX9_thrown_v ⟨Nat.le_of_ble_eq_true rfl, Nat.le_of_ble_eq_true rfl⟩) hN hP hD hS hA [1] [0] rfl rfl rfl rfl (by decide) (ci := 9) (q0 := 0) rfl rfl rfl rfl hl.1 (Nat.le_of_ble_eq_true rfl) dL_law_564 (Nat.le_of_ble_eq_true rfl) (Nat.le_of_ble_eq_true rfl) (fun u2 H locs hP hD hS => ?_)
  have hP : va_P D vwCl [(a3, .inl (cs 0, 45783, .inl (layF (fun _ => 0) 1))), (a2, .inr (9, [.int 1, .ref a13, .int 0, .int 0, .int 0, .int 0, .int 0, .int (-1), .ref a3, .ref a14, .ref a15, .ref a16, .int 0, .int 0, .int 0, .int 0, .int 0, .ref a17]))] H := hP
  have hD : va_D A [(a3, .inl (cs 0, 45783, .inl (layF (fun _ => 0) 1))), (a2, .inr (9, [.int 1, .ref a13, .int 0, .int 0, .int 0, .int 0, .int 0, .int (-1), .ref a3, .ref a14, .ref a15, .ref a16, .int 0, .int 0, .int 0, .int 0, .int 0, .ref a17]))] := hD
  refine W.widen (k := 392) (n := 467085) (Nat.le_of_ble_eq_true rfl) (Nat.le_of_ble_eq_true rfl) ?_
  refine lv_iload hx hb dL_law_567 (lv_at hl 1 rfl) ?_
  refine lv_icmp_eq (tgt := 574) hx hb dL_law_569 (by decide) (fun _ => ?_) (fun c9 => absurd (by decide) c9)
  refine lv_iload hx hb dL_law_574 (lv_at hl 1 rfl) ?_
  refine lv_if_ne (tgt := 591) hx hb dL_law_576 (by decide) (fun _ => ?_) (fun c9 => absurd c9 (by decide))
  refine lv_goto (tgt := 1169) hx hb dL_law_591 (by decide) ?_
  refine W.widen (k := 600002) (n := 7302232) (Nat.le_of_ble_eq_true rfl) (Nat.le_of_ble_eq_true rfl) ?_
  exact kend _ _ _ hS (lv_sub hl [6, 2] rfl)

set_option maxHeartbeats 4000000 in
set_option maxRecDepth 100000 in
theorem k304_X8_refuseWhatOutside (l : Launch) (D : va_G) (cs : Nat → ClassId) (sz : Nat) (a0 a1 a2 a3 a4 : Nat) : KV l yX8_refuseWhatOutside wsX8_refuseWhatOutside 0 0 0 0 D cs sz [.ref a0, .int 0, .int 4] [(a0, .inr (8, [.ref a1, .ref a2, .ref a3, .ref a4, .int 0, .int 0, .int (-1)]))] (fun u => [(a0, .inr (8, [.ref a1, .ref a2, .ref a3, .ref a4, .int 0, .int 0, .int (-1)]))]) := by
  refine KV.of cX8_refuseWhatOutside 3 none (by decide) rfl (Nat.le_of_ble_eq_true rfl) ?_
  intro p e s m below meth c A ls hx hb hr hml hown hts hlocks hin hP hN hD hA hS hl
  have hown : s.vm.findClass RX8 = some m.cls := hown
  have hl : lv_has ls 3 [(0, .ref a0), (1, .int 0), (2, .int 4)] := hl
  refine lv_iload_n hx hb dX8_refuseWhatOutside_0 rfl (lv_at hl 1 rfl) ?_
  refine lv_if_lt (tgt := 9) hx hb dX8_refuseWhatOutside_1 (by decide) (fun c9 => absurd c9 (by decide)) (fun _ => ?_)
  refine lv_iload_n hx hb dX8_refuseWhatOutside_4 rfl (lv_at hl 1 rfl) ?_
  refine lv_iload_n hx hb dX8_refuseWhatOutside_5 rfl (lv_at hl 2 rfl) ?_
  refine lv_icmp_le (tgt := 19) hx hb dX8_refuseWhatOutside_6 (by decide) (fun _ => ?_) (fun c9 => absurd (by decide) c9)
  exact en_v (fun k => ([] : List Nat).getD k 0) hx hb hr hlocks hP hD hS (Nat.le_of_ble_eq_true rfl) (Nat.le_of_ble_eq_true rfl) dX8_refuseWhatOutside_19
theorem mX8_foretold_1 : (.fieldLink RX8 23 "OneBeat" "trial" "LOneBeat$World;" : Cond) ∈ wsX8_foretold := List.mem_of_getElem? (i := 1) (by decide +kernel)
theorem iX8_foretold_8 : ∀ w ∈ wsX80, w ∈ wsX8_foretold := fun w h => List.mem_of_mem_drop (List.mem_of_mem_take ((show wsX80 = (wsX8_foretold.drop 197).take 7 by decide +kernel) ▸ h))
theorem mX8_foretold_2 : (.fieldLink RX8 19 "OneBeat" "now" "LOneBeat$World;" : Cond) ∈ wsX8_foretold := List.mem_of_getElem? (i := 2) (by decide +kernel)
theorem mX7_copyFrom_1 : (.fieldLink RX7 52 "OneBeat$World" "setup" "LOneBeat$Setup;" : Cond) ∈ wsX7_copyFrom := List.mem_of_getElem? (i := 1) (by decide +kernel)
theorem iX7_copyFrom_7 : ∀ w ∈ wsX70, w ∈ wsX7_copyFrom := fun w h => List.mem_of_mem_drop (List.mem_of_mem_take ((show wsX70 = (wsX7_copyFrom.drop 65).take 16 by decide +kernel) ▸ h))
theorem mX7_copyFrom_2 : (.fieldLink RX7 11 "OneBeat$World" "players" "[LOneBeat$Player;" : Cond) ∈ wsX7_copyFrom := List.mem_of_getElem? (i := 2) (by decide +kernel)
theorem mX3_copyFrom_1 : (.fieldLink RX3 7 "OneBeat$Player" "isUp" "Z" : Cond) ∈ wsX3_copyFrom := List.mem_of_getElem? (i := 1) (by decide +kernel)
theorem iX3_copyFrom_3 : ∀ w ∈ wsX30, w ∈ wsX3_copyFrom := fun w h => List.mem_of_mem_drop (List.mem_of_mem_take ((show wsX30 = (wsX3_copyFrom.drop 11).take 10 by decide +kernel) ▸ h))
theorem mX3_copyFrom_2 : (.fieldLink RX3 13 "OneBeat$Player" "guess" "I" : Cond) ∈ wsX3_copyFrom := List.mem_of_getElem? (i := 2) (by decide +kernel)
theorem mX3_copyFrom_3 : (.fieldLink RX3 17 "OneBeat$Player" "song" "I" : Cond) ∈ wsX3_copyFrom := List.mem_of_getElem? (i := 3) (by decide +kernel)
theorem mX3_copyFrom_4 : (.fieldLink RX3 32 "OneBeat$Player" "plan" "I" : Cond) ∈ wsX3_copyFrom := List.mem_of_getElem? (i := 4) (by decide +kernel)
theorem mX3_copyFrom_5 : (.fieldLink RX3 35 "OneBeat$Player" "planNumber" "I" : Cond) ∈ wsX3_copyFrom := List.mem_of_getElem? (i := 5) (by decide +kernel)
theorem mX3_copyFrom_6 : (.fieldLink RX3 38 "OneBeat$Player" "planSong" "I" : Cond) ∈ wsX3_copyFrom := List.mem_of_getElem? (i := 6) (by decide +kernel)
theorem mX3_copyFrom_7 : (.fieldLink RX3 41 "OneBeat$Player" "planBeat" "I" : Cond) ∈ wsX3_copyFrom := List.mem_of_getElem? (i := 7) (by decide +kernel)
theorem mX3_copyFrom_8 : (.fieldLink RX3 23 "OneBeat$Player" "changes" "I" : Cond) ∈ wsX3_copyFrom := List.mem_of_getElem? (i := 8) (by decide +kernel)
theorem mX3_copyFrom_9 : (.fieldLink RX3 26 "OneBeat$Player" "late" "I" : Cond) ∈ wsX3_copyFrom := List.mem_of_getElem? (i := 9) (by decide +kernel)
theorem mX3_copyFrom_10 : (.fieldLink RX3 29 "OneBeat$Player" "changedAt" "I" : Cond) ∈ wsX3_copyFrom := List.mem_of_getElem? (i := 10) (by decide +kernel)
set_option maxHeartbeats 4000000 in
set_option maxRecDepth 100000 in
theorem k305_X3_copyFrom (l : Launch) (D : va_G) (cs : Nat → ClassId) (sz : Nat) (a0 a1 : Nat) : KV l yX3_copyFrom wsX3_copyFrom 0 0 0 0 D cs sz [.ref a0, .ref a1] [(a0, .inr (3, [.int 1, .int 0, .int 0, .int 0, .int (-1), .int 0, .int 0, .int 0, .int 0, .int (-1)])), (a1, .inr (3, [.int 1, .int 0, .int 0, .int 0, .int (-1), .int 0, .int 0, .int 0, .int 0, .int (-1)]))] (fun u => [(a0, .inr (3, [.int 1, .int 0, .int 0, .int 0, .int (-1), .int 0, .int 0, .int 0, .int 0, .int (-1)])), (a1, .inr (3, [.int 1, .int 0, .int 0, .int 0, .int (-1), .int 0, .int 0, .int 0, .int 0, .int (-1)]))]) := by
  refine KV.of cX3_copyFrom 2 none (by decide) rfl (Nat.le_of_ble_eq_true rfl) ?_
  intro p e s m below meth c A ls hx hb hr hml hown hts hlocks hin hP hN hD hA hS hl
  have hown : s.vm.findClass RX3 = some m.cls := hown
  have hl : lv_has ls 2 [(0, .ref a0), (1, .ref a1)] := hl
  refine lv_aload_n hx hb dX3_copyFrom_0 rfl (lv_at hl 0 rfl) ?_
  refine lv_aload_n hx hb dX3_copyFrom_1 rfl (lv_at hl 1 rfl) ?_
  refine va_get (D := D) (ci := 3) (v := .int 1) (C := RX3) (T := TX3) (N := 10) hx hb hts iX3_copyFrom_3 hown hN.1 hP 1 rfl rfl 0 (by decide) (hts _ mX3_copyFrom_1) (fun _ h9 => h9) rfl dX3_copyFrom_2 ?_
  refine va_put (D := D) (ci := 3) (v := .int 1) (ty := .boolean) (C := RX3) (T := TX3) (N := 10) hx hb hts iX3_copyFrom_3 tyX3 tyX3_ok nmX3 hown hN.1 hP hD hS 0 rfl rfl 0 (by decide) (hts _ mX3_copyFrom_1) (fun _ h9 => h9) rfl (by decide +kernel) rfl rfl (Nat.le_of_ble_eq_true rfl) dX3_copyFrom_5 (fun H locs hP hD hS => ?_)
  have hP : va_P D vwCl [(a0, .inr (3, [.int 1, .int 0, .int 0, .int 0, .int (-1), .int 0, .int 0, .int 0, .int 0, .int (-1)])), (a1, .inr (3, [.int 1, .int 0, .int 0, .int 0, .int (-1), .int 0, .int 0, .int 0, .int 0, .int (-1)]))] H := hP
  have hD : va_D A [(a0, .inr (3, [.int 1, .int 0, .int 0, .int 0, .int (-1), .int 0, .int 0, .int 0, .int 0, .int (-1)])), (a1, .inr (3, [.int 1, .int 0, .int 0, .int 0, .int (-1), .int 0, .int 0, .int 0, .int 0, .int (-1)]))] := hD
  refine lv_aload_n hx hb dX3_copyFrom_8 rfl (lv_at hl 0 rfl) ?_
  refine lv_aload_n hx hb dX3_copyFrom_9 rfl (lv_at hl 1 rfl) ?_
  refine va_get (D := D) (ci := 3) (v := .int 0) (C := RX3) (T := TX3) (N := 10) hx hb hts iX3_copyFrom_3 hown hN.1 hP 1 rfl rfl 1 (by decide) (hts _ mX3_copyFrom_2) (fun _ h9 => h9) rfl dX3_copyFrom_10 ?_
  refine va_put (D := D) (ci := 3) (v := .int 0) (ty := .int) (C := RX3) (T := TX3) (N := 10) hx hb hts iX3_copyFrom_3 tyX3 tyX3_ok nmX3 hown hN.1 hP hD hS 0 rfl rfl 1 (by decide) (hts _ mX3_copyFrom_2) (fun _ h9 => h9) rfl (by decide +kernel) rfl rfl (Nat.le_of_ble_eq_true rfl) dX3_copyFrom_13 (fun H locs hP hD hS => ?_)
  have hP : va_P D vwCl [(a0, .inr (3, [.int 1, .int 0, .int 0, .int 0, .int (-1), .int 0, .int 0, .int 0, .int 0, .int (-1)])), (a1, .inr (3, [.int 1, .int 0, .int 0, .int 0, .int (-1), .int 0, .int 0, .int 0, .int 0, .int (-1)]))] H := hP
  have hD : va_D A [(a0, .inr (3, [.int 1, .int 0, .int 0, .int 0, .int (-1), .int 0, .int 0, .int 0, .int 0, .int (-1)])), (a1, .inr (3, [.int 1, .int 0, .int 0, .int 0, .int (-1), .int 0, .int 0, .int 0, .int 0, .int (-1)]))] := hD
  refine lv_aload_n hx hb dX3_copyFrom_16 rfl (lv_at hl 0 rfl) ?_
  refine lv_aload_n hx hb dX3_copyFrom_17 rfl (lv_at hl 1 rfl) ?_
  refine va_get (D := D) (ci := 3) (v := .int 0) (C := RX3) (T := TX3) (N := 10) hx hb hts iX3_copyFrom_3 hown hN.1 hP 1 rfl rfl 2 (by decide) (hts _ mX3_copyFrom_3) (fun _ h9 => h9) rfl dX3_copyFrom_18 ?_
  refine va_put (D := D) (ci := 3) (v := .int 0) (ty := .int) (C := RX3) (T := TX3) (N := 10) hx hb hts iX3_copyFrom_3 tyX3 tyX3_ok nmX3 hown hN.1 hP hD hS 0 rfl rfl 2 (by decide) (hts _ mX3_copyFrom_3) (fun _ h9 => h9) rfl (by decide +kernel) rfl rfl (Nat.le_of_ble_eq_true rfl) dX3_copyFrom_21 (fun H locs hP hD hS => ?_)
  have hP : va_P D vwCl [(a0, .inr (3, [.int 1, .int 0, .int 0, .int 0, .int (-1), .int 0, .int 0, .int 0, .int 0, .int (-1)])), (a1, .inr (3, [.int 1, .int 0, .int 0, .int 0, .int (-1), .int 0, .int 0, .int 0, .int 0, .int (-1)]))] H := hP
  have hD : va_D A [(a0, .inr (3, [.int 1, .int 0, .int 0, .int 0, .int (-1), .int 0, .int 0, .int 0, .int 0, .int (-1)])), (a1, .inr (3, [.int 1, .int 0, .int 0, .int 0, .int (-1), .int 0, .int 0, .int 0, .int 0, .int (-1)]))] := hD
  refine lv_aload_n hx hb dX3_copyFrom_24 rfl (lv_at hl 0 rfl) ?_
  refine lv_aload_n hx hb dX3_copyFrom_25 rfl (lv_at hl 1 rfl) ?_
  refine va_get (D := D) (ci := 3) (v := .int 0) (C := RX3) (T := TX3) (N := 10) hx hb hts iX3_copyFrom_3 hown hN.1 hP 1 rfl rfl 3 (by decide) (hts _ mX3_copyFrom_4) (fun _ h9 => h9) rfl dX3_copyFrom_26 ?_
  refine va_put (D := D) (ci := 3) (v := .int 0) (ty := .int) (C := RX3) (T := TX3) (N := 10) hx hb hts iX3_copyFrom_3 tyX3 tyX3_ok nmX3 hown hN.1 hP hD hS 0 rfl rfl 3 (by decide) (hts _ mX3_copyFrom_4) (fun _ h9 => h9) rfl (by decide +kernel) rfl rfl (Nat.le_of_ble_eq_true rfl) dX3_copyFrom_29 (fun H locs hP hD hS => ?_)
  have hP : va_P D vwCl [(a0, .inr (3, [.int 1, .int 0, .int 0, .int 0, .int (-1), .int 0, .int 0, .int 0, .int 0, .int (-1)])), (a1, .inr (3, [.int 1, .int 0, .int 0, .int 0, .int (-1), .int 0, .int 0, .int 0, .int 0, .int (-1)]))] H := hP
  have hD : va_D A [(a0, .inr (3, [.int 1, .int 0, .int 0, .int 0, .int (-1), .int 0, .int 0, .int 0, .int 0, .int (-1)])), (a1, .inr (3, [.int 1, .int 0, .int 0, .int 0, .int (-1), .int 0, .int 0, .int 0, .int 0, .int (-1)]))] := hD
  refine lv_aload_n hx hb dX3_copyFrom_32 rfl (lv_at hl 0 rfl) ?_
  refine lv_aload_n hx hb dX3_copyFrom_33 rfl (lv_at hl 1 rfl) ?_
  refine va_get (D := D) (ci := 3) (v := .int (-1)) (C := RX3) (T := TX3) (N := 10) hx hb hts iX3_copyFrom_3 hown hN.1 hP 1 rfl rfl 4 (by decide) (hts _ mX3_copyFrom_5) (fun _ h9 => h9) rfl dX3_copyFrom_34 ?_
  refine va_put (D := D) (ci := 3) (v := .int (-1)) (ty := .int) (C := RX3) (T := TX3) (N := 10) hx hb hts iX3_copyFrom_3 tyX3 tyX3_ok nmX3 hown hN.1 hP hD hS 0 rfl rfl 4 (by decide) (hts _ mX3_copyFrom_5) (fun _ h9 => h9) rfl (by decide +kernel) rfl rfl (Nat.le_of_ble_eq_true rfl) dX3_copyFrom_37 (fun H locs hP hD hS => ?_)
  have hP : va_P D vwCl [(a0, .inr (3, [.int 1, .int 0, .int 0, .int 0, .int (-1), .int 0, .int 0, .int 0, .int 0, .int (-1)])), (a1, .inr (3, [.int 1, .int 0, .int 0, .int 0, .int (-1), .int 0, .int 0, .int 0, .int 0, .int (-1)]))] H := hP
  have hD : va_D A [(a0, .inr (3, [.int 1, .int 0, .int 0, .int 0, .int (-1), .int 0, .int 0, .int 0, .int 0, .int (-1)])), (a1, .inr (3, [.int 1, .int 0, .int 0, .int 0, .int (-1), .int 0, .int 0, .int 0, .int 0, .int (-1)]))] := hD
  refine lv_aload_n hx hb dX3_copyFrom_40 rfl (lv_at hl 0 rfl) ?_
  refine lv_aload_n hx hb dX3_copyFrom_41 rfl (lv_at hl 1 rfl) ?_
  refine va_get (D := D) (ci := 3) (v := .int 0) (C := RX3) (T := TX3) (N := 10) hx hb hts iX3_copyFrom_3 hown hN.1 hP 1 rfl rfl 5 (by decide) (hts _ mX3_copyFrom_6) (fun _ h9 => h9) rfl dX3_copyFrom_42 ?_
  refine va_put (D := D) (ci := 3) (v := .int 0) (ty := .int) (C := RX3) (T := TX3) (N := 10) hx hb hts iX3_copyFrom_3 tyX3 tyX3_ok nmX3 hown hN.1 hP hD hS 0 rfl rfl 5 (by decide) (hts _ mX3_copyFrom_6) (fun _ h9 => h9) rfl (by decide +kernel) rfl rfl (Nat.le_of_ble_eq_true rfl) dX3_copyFrom_45 (fun H locs hP hD hS => ?_)
  have hP : va_P D vwCl [(a0, .inr (3, [.int 1, .int 0, .int 0, .int 0, .int (-1), .int 0, .int 0, .int 0, .int 0, .int (-1)])), (a1, .inr (3, [.int 1, .int 0, .int 0, .int 0, .int (-1), .int 0, .int 0, .int 0, .int 0, .int (-1)]))] H := hP
  have hD : va_D A [(a0, .inr (3, [.int 1, .int 0, .int 0, .int 0, .int (-1), .int 0, .int 0, .int 0, .int 0, .int (-1)])), (a1, .inr (3, [.int 1, .int 0, .int 0, .int 0, .int (-1), .int 0, .int 0, .int 0, .int 0, .int (-1)]))] := hD
  refine lv_aload_n hx hb dX3_copyFrom_48 rfl (lv_at hl 0 rfl) ?_
  refine lv_aload_n hx hb dX3_copyFrom_49 rfl (lv_at hl 1 rfl) ?_
  refine va_get (D := D) (ci := 3) (v := .int 0) (C := RX3) (T := TX3) (N := 10) hx hb hts iX3_copyFrom_3 hown hN.1 hP 1 rfl rfl 6 (by decide) (hts _ mX3_copyFrom_7) (fun _ h9 => h9) rfl dX3_copyFrom_50 ?_
  refine va_put (D := D) (ci := 3) (v := .int 0) (ty := .int) (C := RX3) (T := TX3) (N := 10) hx hb hts iX3_copyFrom_3 tyX3 tyX3_ok nmX3 hown hN.1 hP hD hS 0 rfl rfl 6 (by decide) (hts _ mX3_copyFrom_7) (fun _ h9 => h9) rfl (by decide +kernel) rfl rfl (Nat.le_of_ble_eq_true rfl) dX3_copyFrom_53 (fun H locs hP hD hS => ?_)
  have hP : va_P D vwCl [(a0, .inr (3, [.int 1, .int 0, .int 0, .int 0, .int (-1), .int 0, .int 0, .int 0, .int 0, .int (-1)])), (a1, .inr (3, [.int 1, .int 0, .int 0, .int 0, .int (-1), .int 0, .int 0, .int 0, .int 0, .int (-1)]))] H := hP
  have hD : va_D A [(a0, .inr (3, [.int 1, .int 0, .int 0, .int 0, .int (-1), .int 0, .int 0, .int 0, .int 0, .int (-1)])), (a1, .inr (3, [.int 1, .int 0, .int 0, .int 0, .int (-1), .int 0, .int 0, .int 0, .int 0, .int (-1)]))] := hD
  refine lv_aload_n hx hb dX3_copyFrom_56 rfl (lv_at hl 0 rfl) ?_
  refine lv_aload_n hx hb dX3_copyFrom_57 rfl (lv_at hl 1 rfl) ?_
  refine va_get (D := D) (ci := 3) (v := .int 0) (C := RX3) (T := TX3) (N := 10) hx hb hts iX3_copyFrom_3 hown hN.1 hP 1 rfl rfl 7 (by decide) (hts _ mX3_copyFrom_8) (fun _ h9 => h9) rfl dX3_copyFrom_58 ?_
  refine va_put (D := D) (ci := 3) (v := .int 0) (ty := .int) (C := RX3) (T := TX3) (N := 10) hx hb hts iX3_copyFrom_3 tyX3 tyX3_ok nmX3 hown hN.1 hP hD hS 0 rfl rfl 7 (by decide) (hts _ mX3_copyFrom_8) (fun _ h9 => h9) rfl (by decide +kernel) rfl rfl (Nat.le_of_ble_eq_true rfl) dX3_copyFrom_61 (fun H locs hP hD hS => ?_)
  have hP : va_P D vwCl [(a0, .inr (3, [.int 1, .int 0, .int 0, .int 0, .int (-1), .int 0, .int 0, .int 0, .int 0, .int (-1)])), (a1, .inr (3, [.int 1, .int 0, .int 0, .int 0, .int (-1), .int 0, .int 0, .int 0, .int 0, .int (-1)]))] H := hP
  have hD : va_D A [(a0, .inr (3, [.int 1, .int 0, .int 0, .int 0, .int (-1), .int 0, .int 0, .int 0, .int 0, .int (-1)])), (a1, .inr (3, [.int 1, .int 0, .int 0, .int 0, .int (-1), .int 0, .int 0, .int 0, .int 0, .int (-1)]))] := hD
  refine lv_aload_n hx hb dX3_copyFrom_64 rfl (lv_at hl 0 rfl) ?_
  refine lv_aload_n hx hb dX3_copyFrom_65 rfl (lv_at hl 1 rfl) ?_
  refine va_get (D := D) (ci := 3) (v := .int 0) (C := RX3) (T := TX3) (N := 10) hx hb hts iX3_copyFrom_3 hown hN.1 hP 1 rfl rfl 8 (by decide) (hts _ mX3_copyFrom_9) (fun _ h9 => h9) rfl dX3_copyFrom_66 ?_
  refine va_put (D := D) (ci := 3) (v := .int 0) (ty := .int) (C := RX3) (T := TX3) (N := 10) hx hb hts iX3_copyFrom_3 tyX3 tyX3_ok nmX3 hown hN.1 hP hD hS 0 rfl rfl 8 (by decide) (hts _ mX3_copyFrom_9) (fun _ h9 => h9) rfl (by decide +kernel) rfl rfl (Nat.le_of_ble_eq_true rfl) dX3_copyFrom_69 (fun H locs hP hD hS => ?_)
  have hP : va_P D vwCl [(a0, .inr (3, [.int 1, .int 0, .int 0, .int 0, .int (-1), .int 0, .int 0, .int 0, .int 0, .int (-1)])), (a1, .inr (3, [.int 1, .int 0, .int 0, .int 0, .int (-1), .int 0, .int 0, .int 0, .int 0, .int (-1)]))] H := hP
  have hD : va_D A [(a0, .inr (3, [.int 1, .int 0, .int 0, .int 0, .int (-1), .int 0, .int 0, .int 0, .int 0, .int (-1)])), (a1, .inr (3, [.int 1, .int 0, .int 0, .int 0, .int (-1), .int 0, .int 0, .int 0, .int 0, .int (-1)]))] := hD
  refine lv_aload_n hx hb dX3_copyFrom_72 rfl (lv_at hl 0 rfl) ?_
  refine lv_aload_n hx hb dX3_copyFrom_73 rfl (lv_at hl 1 rfl) ?_
  refine va_get (D := D) (ci := 3) (v := .int (-1)) (C := RX3) (T := TX3) (N := 10) hx hb hts iX3_copyFrom_3 hown hN.1 hP 1 rfl rfl 9 (by decide) (hts _ mX3_copyFrom_10) (fun _ h9 => h9) rfl dX3_copyFrom_74 ?_
  refine va_put (D := D) (ci := 3) (v := .int (-1)) (ty := .int) (C := RX3) (T := TX3) (N := 10) hx hb hts iX3_copyFrom_3 tyX3 tyX3_ok nmX3 hown hN.1 hP hD hS 0 rfl rfl 9 (by decide) (hts _ mX3_copyFrom_10) (fun _ h9 => h9) rfl (by decide +kernel) rfl rfl (Nat.le_of_ble_eq_true rfl) dX3_copyFrom_77 (fun H locs hP hD hS => ?_)
  have hP : va_P D vwCl [(a0, .inr (3, [.int 1, .int 0, .int 0, .int 0, .int (-1), .int 0, .int 0, .int 0, .int 0, .int (-1)])), (a1, .inr (3, [.int 1, .int 0, .int 0, .int 0, .int (-1), .int 0, .int 0, .int 0, .int 0, .int (-1)]))] H := hP
  have hD : va_D A [(a0, .inr (3, [.int 1, .int 0, .int 0, .int 0, .int (-1), .int 0, .int 0, .int 0, .int 0, .int (-1)])), (a1, .inr (3, [.int 1, .int 0, .int 0, .int 0, .int (-1), .int 0, .int 0, .int 0, .int 0, .int (-1)]))] := hD
  exact en_v (fun k => ([] : List Nat).getD k 0) hx hb hr hlocks hP hD hS (Nat.le_of_ble_eq_true rfl) (Nat.le_of_ble_eq_true rfl) dX3_copyFrom_80
set_option maxHeartbeats 4000000 in
set_option maxRecDepth 100000 in
theorem k306_X7_at (l : Launch) (D : va_G) (cs : Nat → ClassId) (sz : Nat) (a0 a1 a2 a3 a4 a5 a6 a7 a8 a9 a10 a11 a12 a13 a14 : Nat) : KQ l yX7_at wsX7_at 0 0 0 0 D cs sz [.ref a0, .int 1] [(a0, .inr (7, [.ref a2, .ref a1, .ref a3, .ref a4, .ref a5, .ref a6, .long 0, .int 0, .int 0, .int 0, .int 0, .int 0, .int 0, .int 0, .int 0, .int 0])), (a1, .inl (cs 4, 8, .inr (.inr (.inr (.inr (va_up (va_up (va_up (va_up (va_up (va_up (va_up (va_up (fun _ => none) 0 (some a7)) 1 (some a8)) 2 (some a9)) 3 (some a10)) 4 (some a11)) 5 (some a12)) 6 (some a13)) 7 (some a14)))))))] (fun u => [(a0, .inr (7, [.ref a2, .ref a1, .ref a3, .ref a4, .ref a5, .ref a6, .long 0, .int 0, .int 0, .int 0, .int 0, .int 0, .int 0, .int 0, .int 0, .int 0])), (a1, .inl (cs 4, 8, .inr (.inr (.inr (.inr (va_up (va_up (va_up (va_up (va_up (va_up (va_up (va_up (fun _ => none) 0 (some a7)) 1 (some a8)) 2 (some a9)) 3 (some a10)) 4 (some a11)) 5 (some a12)) 6 (some a13)) 7 (some a14)))))))]) (fun u => some a8) := by
  refine KQ.of cX7_at 2 (some (.object "OneBeat$Player")) (by decide) rfl (Nat.le_of_ble_eq_true rfl) ?_
  intro p e s m below meth c A ls hx hb hr hml hown hts hlocks hin hP hN hD hA hS hl
  have hown : s.vm.findClass RX7 = some m.cls := hown
  have hl : lv_has ls 2 [(0, .ref a0), (1, .int 1)] := hl
  refine lv_aload_n hx hb dX7_at_0 rfl (lv_at hl 0 rfl) ?_
  refine va_get (D := D) (ci := 7) (v := .ref a1) (C := RX7) (T := TX7) (N := 16) hx hb hts iX7_at_7 hown hN.1 hP 0 rfl rfl 1 (by decide) (hts _ mX7_at_1) (fun _ h9 => h9) rfl dX7_at_1 ?_
  refine lv_iload_n hx hb dX7_at_4 rfl (lv_at hl 1 rfl) ?_
  refine lv_bipush (v := 7) hx hb dX7_at_5 (by decide) ?_
  refine lv_iand hx hb dX7_at_7 ?_
  refine tp_i (1) (by decide) ?_
  refine ld_p (v := (.ref a8)) hx hb hN hP 1 rfl (vin (by decide +kernel)) (by first | rfl | decide +kernel) dX7_at_8 ?_
  exact en_q (fun k => ([] : List Nat).getD k 0) (x := (some a8)) hx hb hr hlocks (by first | exact Or.inl ⟨_, rfl⟩ | exact Or.inr ⟨_, rfl⟩) rfl hP hD hS (Nat.le_of_ble_eq_true rfl) (Nat.le_of_ble_eq_true rfl) dX7_at_9
set_option maxHeartbeats 4000000 in
set_option maxRecDepth 100000 in
theorem k307_X7_at (l : Launch) (D : va_G) (cs : Nat → ClassId) (sz : Nat) (a0 a1 a2 a3 a4 a5 a6 a7 a8 a9 a10 a11 a12 a13 a14 : Nat) : KQ l yX7_at wsX7_at 0 0 0 0 D cs sz [.ref a0, .int 2] [(a0, .inr (7, [.ref a2, .ref a1, .ref a3, .ref a4, .ref a5, .ref a6, .long 0, .int 0, .int 0, .int 0, .int 0, .int 0, .int 0, .int 0, .int 0, .int 0])), (a1, .inl (cs 4, 8, .inr (.inr (.inr (.inr (va_up (va_up (va_up (va_up (va_up (va_up (va_up (va_up (fun _ => none) 0 (some a7)) 1 (some a8)) 2 (some a9)) 3 (some a10)) 4 (some a11)) 5 (some a12)) 6 (some a13)) 7 (some a14)))))))] (fun u => [(a0, .inr (7, [.ref a2, .ref a1, .ref a3, .ref a4, .ref a5, .ref a6, .long 0, .int 0, .int 0, .int 0, .int 0, .int 0, .int 0, .int 0, .int 0, .int 0])), (a1, .inl (cs 4, 8, .inr (.inr (.inr (.inr (va_up (va_up (va_up (va_up (va_up (va_up (va_up (va_up (fun _ => none) 0 (some a7)) 1 (some a8)) 2 (some a9)) 3 (some a10)) 4 (some a11)) 5 (some a12)) 6 (some a13)) 7 (some a14)))))))]) (fun u => some a9) := by
  refine KQ.of cX7_at 2 (some (.object "OneBeat$Player")) (by decide) rfl (Nat.le_of_ble_eq_true rfl) ?_
  intro p e s m below meth c A ls hx hb hr hml hown hts hlocks hin hP hN hD hA hS hl
  have hown : s.vm.findClass RX7 = some m.cls := hown
  have hl : lv_has ls 2 [(0, .ref a0), (1, .int 2)] := hl
  refine lv_aload_n hx hb dX7_at_0 rfl (lv_at hl 0 rfl) ?_
  refine va_get (D := D) (ci := 7) (v := .ref a1) (C := RX7) (T := TX7) (N := 16) hx hb hts iX7_at_7 hown hN.1 hP 0 rfl rfl 1 (by decide) (hts _ mX7_at_1) (fun _ h9 => h9) rfl dX7_at_1 ?_
  refine lv_iload_n hx hb dX7_at_4 rfl (lv_at hl 1 rfl) ?_
  refine lv_bipush (v := 7) hx hb dX7_at_5 (by decide) ?_
  refine lv_iand hx hb dX7_at_7 ?_
  refine tp_i (2) (by decide) ?_
  refine ld_p (v := (.ref a9)) hx hb hN hP 1 rfl (vin (by decide +kernel)) (by first | rfl | decide +kernel) dX7_at_8 ?_
  exact en_q (fun k => ([] : List Nat).getD k 0) (x := (some a9)) hx hb hr hlocks (by first | exact Or.inl ⟨_, rfl⟩ | exact Or.inr ⟨_, rfl⟩) rfl hP hD hS (Nat.le_of_ble_eq_true rfl) (Nat.le_of_ble_eq_true rfl) dX7_at_9
set_option maxHeartbeats 4000000 in
set_option maxRecDepth 100000 in
theorem k308_X7_at (l : Launch) (D : va_G) (cs : Nat → ClassId) (sz : Nat) (a0 a1 a2 a3 a4 a5 a6 a7 a8 a9 a10 a11 a12 a13 a14 : Nat) : KQ l yX7_at wsX7_at 0 0 0 0 D cs sz [.ref a0, .int 3] [(a0, .inr (7, [.ref a2, .ref a1, .ref a3, .ref a4, .ref a5, .ref a6, .long 0, .int 0, .int 0, .int 0, .int 0, .int 0, .int 0, .int 0, .int 0, .int 0])), (a1, .inl (cs 4, 8, .inr (.inr (.inr (.inr (va_up (va_up (va_up (va_up (va_up (va_up (va_up (va_up (fun _ => none) 0 (some a7)) 1 (some a8)) 2 (some a9)) 3 (some a10)) 4 (some a11)) 5 (some a12)) 6 (some a13)) 7 (some a14)))))))] (fun u => [(a0, .inr (7, [.ref a2, .ref a1, .ref a3, .ref a4, .ref a5, .ref a6, .long 0, .int 0, .int 0, .int 0, .int 0, .int 0, .int 0, .int 0, .int 0, .int 0])), (a1, .inl (cs 4, 8, .inr (.inr (.inr (.inr (va_up (va_up (va_up (va_up (va_up (va_up (va_up (va_up (fun _ => none) 0 (some a7)) 1 (some a8)) 2 (some a9)) 3 (some a10)) 4 (some a11)) 5 (some a12)) 6 (some a13)) 7 (some a14)))))))]) (fun u => some a10) := by
  refine KQ.of cX7_at 2 (some (.object "OneBeat$Player")) (by decide) rfl (Nat.le_of_ble_eq_true rfl) ?_
  intro p e s m below meth c A ls hx hb hr hml hown hts hlocks hin hP hN hD hA hS hl
  have hown : s.vm.findClass RX7 = some m.cls := hown
  have hl : lv_has ls 2 [(0, .ref a0), (1, .int 3)] := hl
  refine lv_aload_n hx hb dX7_at_0 rfl (lv_at hl 0 rfl) ?_
  refine va_get (D := D) (ci := 7) (v := .ref a1) (C := RX7) (T := TX7) (N := 16) hx hb hts iX7_at_7 hown hN.1 hP 0 rfl rfl 1 (by decide) (hts _ mX7_at_1) (fun _ h9 => h9) rfl dX7_at_1 ?_
  refine lv_iload_n hx hb dX7_at_4 rfl (lv_at hl 1 rfl) ?_
  refine lv_bipush (v := 7) hx hb dX7_at_5 (by decide) ?_
  refine lv_iand hx hb dX7_at_7 ?_
  refine tp_i (3) (by decide) ?_
  refine ld_p (v := (.ref a10)) hx hb hN hP 1 rfl (vin (by decide +kernel)) (by first | rfl | decide +kernel) dX7_at_8 ?_
  exact en_q (fun k => ([] : List Nat).getD k 0) (x := (some a10)) hx hb hr hlocks (by first | exact Or.inl ⟨_, rfl⟩ | exact Or.inr ⟨_, rfl⟩) rfl hP hD hS (Nat.le_of_ble_eq_true rfl) (Nat.le_of_ble_eq_true rfl) dX7_at_9
set_option maxHeartbeats 4000000 in
set_option maxRecDepth 100000 in
theorem k309_X7_at (l : Launch) (D : va_G) (cs : Nat → ClassId) (sz : Nat) (a0 a1 a2 a3 a4 a5 a6 a7 a8 a9 a10 a11 a12 a13 a14 : Nat) : KQ l yX7_at wsX7_at 0 0 0 0 D cs sz [.ref a0, .int 4] [(a0, .inr (7, [.ref a2, .ref a1, .ref a3, .ref a4, .ref a5, .ref a6, .long 0, .int 0, .int 0, .int 0, .int 0, .int 0, .int 0, .int 0, .int 0, .int 0])), (a1, .inl (cs 4, 8, .inr (.inr (.inr (.inr (va_up (va_up (va_up (va_up (va_up (va_up (va_up (va_up (fun _ => none) 0 (some a7)) 1 (some a8)) 2 (some a9)) 3 (some a10)) 4 (some a11)) 5 (some a12)) 6 (some a13)) 7 (some a14)))))))] (fun u => [(a0, .inr (7, [.ref a2, .ref a1, .ref a3, .ref a4, .ref a5, .ref a6, .long 0, .int 0, .int 0, .int 0, .int 0, .int 0, .int 0, .int 0, .int 0, .int 0])), (a1, .inl (cs 4, 8, .inr (.inr (.inr (.inr (va_up (va_up (va_up (va_up (va_up (va_up (va_up (va_up (fun _ => none) 0 (some a7)) 1 (some a8)) 2 (some a9)) 3 (some a10)) 4 (some a11)) 5 (some a12)) 6 (some a13)) 7 (some a14)))))))]) (fun u => some a11) := by
  refine KQ.of cX7_at 2 (some (.object "OneBeat$Player")) (by decide) rfl (Nat.le_of_ble_eq_true rfl) ?_
  intro p e s m below meth c A ls hx hb hr hml hown hts hlocks hin hP hN hD hA hS hl
  have hown : s.vm.findClass RX7 = some m.cls := hown
  have hl : lv_has ls 2 [(0, .ref a0), (1, .int 4)] := hl
  refine lv_aload_n hx hb dX7_at_0 rfl (lv_at hl 0 rfl) ?_
  refine va_get (D := D) (ci := 7) (v := .ref a1) (C := RX7) (T := TX7) (N := 16) hx hb hts iX7_at_7 hown hN.1 hP 0 rfl rfl 1 (by decide) (hts _ mX7_at_1) (fun _ h9 => h9) rfl dX7_at_1 ?_
  refine lv_iload_n hx hb dX7_at_4 rfl (lv_at hl 1 rfl) ?_
  refine lv_bipush (v := 7) hx hb dX7_at_5 (by decide) ?_
  refine lv_iand hx hb dX7_at_7 ?_
  refine tp_i (4) (by decide) ?_
  refine ld_p (v := (.ref a11)) hx hb hN hP 1 rfl (vin (by decide +kernel)) (by first | rfl | decide +kernel) dX7_at_8 ?_
  exact en_q (fun k => ([] : List Nat).getD k 0) (x := (some a11)) hx hb hr hlocks (by first | exact Or.inl ⟨_, rfl⟩ | exact Or.inr ⟨_, rfl⟩) rfl hP hD hS (Nat.le_of_ble_eq_true rfl) (Nat.le_of_ble_eq_true rfl) dX7_at_9
set_option maxHeartbeats 4000000 in
set_option maxRecDepth 100000 in
theorem k310_X7_at (l : Launch) (D : va_G) (cs : Nat → ClassId) (sz : Nat) (a0 a1 a2 a3 a4 a5 a6 a7 a8 a9 a10 a11 a12 a13 a14 : Nat) : KQ l yX7_at wsX7_at 0 0 0 0 D cs sz [.ref a0, .int 5] [(a0, .inr (7, [.ref a2, .ref a1, .ref a3, .ref a4, .ref a5, .ref a6, .long 0, .int 0, .int 0, .int 0, .int 0, .int 0, .int 0, .int 0, .int 0, .int 0])), (a1, .inl (cs 4, 8, .inr (.inr (.inr (.inr (va_up (va_up (va_up (va_up (va_up (va_up (va_up (va_up (fun _ => none) 0 (some a7)) 1 (some a8)) 2 (some a9)) 3 (some a10)) 4 (some a11)) 5 (some a12)) 6 (some a13)) 7 (some a14)))))))] (fun u => [(a0, .inr (7, [.ref a2, .ref a1, .ref a3, .ref a4, .ref a5, .ref a6, .long 0, .int 0, .int 0, .int 0, .int 0, .int 0, .int 0, .int 0, .int 0, .int 0])), (a1, .inl (cs 4, 8, .inr (.inr (.inr (.inr (va_up (va_up (va_up (va_up (va_up (va_up (va_up (va_up (fun _ => none) 0 (some a7)) 1 (some a8)) 2 (some a9)) 3 (some a10)) 4 (some a11)) 5 (some a12)) 6 (some a13)) 7 (some a14)))))))]) (fun u => some a12) := by
  refine KQ.of cX7_at 2 (some (.object "OneBeat$Player")) (by decide) rfl (Nat.le_of_ble_eq_true rfl) ?_
  intro p e s m below meth c A ls hx hb hr hml hown hts hlocks hin hP hN hD hA hS hl
  have hown : s.vm.findClass RX7 = some m.cls := hown
  have hl : lv_has ls 2 [(0, .ref a0), (1, .int 5)] := hl
  refine lv_aload_n hx hb dX7_at_0 rfl (lv_at hl 0 rfl) ?_
  refine va_get (D := D) (ci := 7) (v := .ref a1) (C := RX7) (T := TX7) (N := 16) hx hb hts iX7_at_7 hown hN.1 hP 0 rfl rfl 1 (by decide) (hts _ mX7_at_1) (fun _ h9 => h9) rfl dX7_at_1 ?_
  refine lv_iload_n hx hb dX7_at_4 rfl (lv_at hl 1 rfl) ?_
  refine lv_bipush (v := 7) hx hb dX7_at_5 (by decide) ?_
  refine lv_iand hx hb dX7_at_7 ?_
  refine tp_i (5) (by decide) ?_
  refine ld_p (v := (.ref a12)) hx hb hN hP 1 rfl (vin (by decide +kernel)) (by first | rfl | decide +kernel) dX7_at_8 ?_
  exact en_q (fun k => ([] : List Nat).getD k 0) (x := (some a12)) hx hb hr hlocks (by first | exact Or.inl ⟨_, rfl⟩ | exact Or.inr ⟨_, rfl⟩) rfl hP hD hS (Nat.le_of_ble_eq_true rfl) (Nat.le_of_ble_eq_true rfl) dX7_at_9
set_option maxHeartbeats 4000000 in
set_option maxRecDepth 100000 in
theorem k311_X7_at (l : Launch) (D : va_G) (cs : Nat → ClassId) (sz : Nat) (a0 a1 a2 a3 a4 a5 a6 a7 a8 a9 a10 a11 a12 a13 a14 : Nat) : KQ l yX7_at wsX7_at 0 0 0 0 D cs sz [.ref a0, .int 6] [(a0, .inr (7, [.ref a2, .ref a1, .ref a3, .ref a4, .ref a5, .ref a6, .long 0, .int 0, .int 0, .int 0, .int 0, .int 0, .int 0, .int 0, .int 0, .int 0])), (a1, .inl (cs 4, 8, .inr (.inr (.inr (.inr (va_up (va_up (va_up (va_up (va_up (va_up (va_up (va_up (fun _ => none) 0 (some a7)) 1 (some a8)) 2 (some a9)) 3 (some a10)) 4 (some a11)) 5 (some a12)) 6 (some a13)) 7 (some a14)))))))] (fun u => [(a0, .inr (7, [.ref a2, .ref a1, .ref a3, .ref a4, .ref a5, .ref a6, .long 0, .int 0, .int 0, .int 0, .int 0, .int 0, .int 0, .int 0, .int 0, .int 0])), (a1, .inl (cs 4, 8, .inr (.inr (.inr (.inr (va_up (va_up (va_up (va_up (va_up (va_up (va_up (va_up (fun _ => none) 0 (some a7)) 1 (some a8)) 2 (some a9)) 3 (some a10)) 4 (some a11)) 5 (some a12)) 6 (some a13)) 7 (some a14)))))))]) (fun u => some a13) := by
  refine KQ.of cX7_at 2 (some (.object "OneBeat$Player")) (by decide) rfl (Nat.le_of_ble_eq_true rfl) ?_
  intro p e s m below meth c A ls hx hb hr hml hown hts hlocks hin hP hN hD hA hS hl
  have hown : s.vm.findClass RX7 = some m.cls := hown
  have hl : lv_has ls 2 [(0, .ref a0), (1, .int 6)] := hl
  refine lv_aload_n hx hb dX7_at_0 rfl (lv_at hl 0 rfl) ?_
  refine va_get (D := D) (ci := 7) (v := .ref a1) (C := RX7) (T := TX7) (N := 16) hx hb hts iX7_at_7 hown hN.1 hP 0 rfl rfl 1 (by decide) (hts _ mX7_at_1) (fun _ h9 => h9) rfl dX7_at_1 ?_
  refine lv_iload_n hx hb dX7_at_4 rfl (lv_at hl 1 rfl) ?_
  refine lv_bipush (v := 7) hx hb dX7_at_5 (by decide) ?_
  refine lv_iand hx hb dX7_at_7 ?_
  refine tp_i (6) (by decide) ?_
  refine ld_p (v := (.ref a13)) hx hb hN hP 1 rfl (vin (by decide +kernel)) (by first | rfl | decide +kernel) dX7_at_8 ?_
  exact en_q (fun k => ([] : List Nat).getD k 0) (x := (some a13)) hx hb hr hlocks (by first | exact Or.inl ⟨_, rfl⟩ | exact Or.inr ⟨_, rfl⟩) rfl hP hD hS (Nat.le_of_ble_eq_true rfl) (Nat.le_of_ble_eq_true rfl) dX7_at_9
set_option maxHeartbeats 4000000 in
set_option maxRecDepth 100000 in
theorem k312_X7_at (l : Launch) (D : va_G) (cs : Nat → ClassId) (sz : Nat) (a0 a1 a2 a3 a4 a5 a6 a7 a8 a9 a10 a11 a12 a13 a14 : Nat) : KQ l yX7_at wsX7_at 0 0 0 0 D cs sz [.ref a0, .int 7] [(a0, .inr (7, [.ref a2, .ref a1, .ref a3, .ref a4, .ref a5, .ref a6, .long 0, .int 0, .int 0, .int 0, .int 0, .int 0, .int 0, .int 0, .int 0, .int 0])), (a1, .inl (cs 4, 8, .inr (.inr (.inr (.inr (va_up (va_up (va_up (va_up (va_up (va_up (va_up (va_up (fun _ => none) 0 (some a7)) 1 (some a8)) 2 (some a9)) 3 (some a10)) 4 (some a11)) 5 (some a12)) 6 (some a13)) 7 (some a14)))))))] (fun u => [(a0, .inr (7, [.ref a2, .ref a1, .ref a3, .ref a4, .ref a5, .ref a6, .long 0, .int 0, .int 0, .int 0, .int 0, .int 0, .int 0, .int 0, .int 0, .int 0])), (a1, .inl (cs 4, 8, .inr (.inr (.inr (.inr (va_up (va_up (va_up (va_up (va_up (va_up (va_up (va_up (fun _ => none) 0 (some a7)) 1 (some a8)) 2 (some a9)) 3 (some a10)) 4 (some a11)) 5 (some a12)) 6 (some a13)) 7 (some a14)))))))]) (fun u => some a14) := by
  refine KQ.of cX7_at 2 (some (.object "OneBeat$Player")) (by decide) rfl (Nat.le_of_ble_eq_true rfl) ?_
  intro p e s m below meth c A ls hx hb hr hml hown hts hlocks hin hP hN hD hA hS hl
  have hown : s.vm.findClass RX7 = some m.cls := hown
  have hl : lv_has ls 2 [(0, .ref a0), (1, .int 7)] := hl
  refine lv_aload_n hx hb dX7_at_0 rfl (lv_at hl 0 rfl) ?_
  refine va_get (D := D) (ci := 7) (v := .ref a1) (C := RX7) (T := TX7) (N := 16) hx hb hts iX7_at_7 hown hN.1 hP 0 rfl rfl 1 (by decide) (hts _ mX7_at_1) (fun _ h9 => h9) rfl dX7_at_1 ?_
  refine lv_iload_n hx hb dX7_at_4 rfl (lv_at hl 1 rfl) ?_
  refine lv_bipush (v := 7) hx hb dX7_at_5 (by decide) ?_
  refine lv_iand hx hb dX7_at_7 ?_
  refine tp_i (7) (by decide) ?_
  refine ld_p (v := (.ref a14)) hx hb hN hP 1 rfl (vin (by decide +kernel)) (by first | rfl | decide +kernel) dX7_at_8 ?_
  exact en_q (fun k => ([] : List Nat).getD k 0) (x := (some a14)) hx hb hr hlocks (by first | exact Or.inl ⟨_, rfl⟩ | exact Or.inr ⟨_, rfl⟩) rfl hP hD hS (Nat.le_of_ble_eq_true rfl) (Nat.le_of_ble_eq_true rfl) dX7_at_9
theorem mX7_copyFrom_3 : (.fieldLink RX7 20 "OneBeat$World" "mail" "LOneBeat$Mail;" : Cond) ∈ wsX7_copyFrom := List.mem_of_getElem? (i := 3) (by decide +kernel)
theorem mX2_copyFrom_1 : (.fieldLink RX2 11 "OneBeat$Mail" "rows" "[[I" : Cond) ∈ wsX2_copyFrom := List.mem_of_getElem? (i := 1) (by decide +kernel)
theorem iX2_copyFrom_2 : ∀ w ∈ wsX20, w ∈ wsX2_copyFrom := fun w h => List.mem_of_mem_drop (List.mem_of_mem_take ((show wsX20 = (wsX2_copyFrom.drop 13).take 3 by decide +kernel) ▸ h))
theorem mX2_copyFrom_2 : (.fieldLink RX2 14 "OneBeat$Mail" "counts" "[I" : Cond) ∈ wsX2_copyFrom := List.mem_of_getElem? (i := 2) (by decide +kernel)
theorem mX2_copyFrom_3 : (.methodLink RX2 28 Lib.Math.min.name : Cond) ∈ wsX2_copyFrom := List.mem_of_getElem? (i := 3) (by decide +kernel)
theorem mX2_copyFrom_4 : (.static Lib.Math.min.name : Cond) ∈ wsX2_copyFrom := List.mem_of_getElem? (i := 4) (by decide +kernel)
theorem mX2_copyFrom_5 : (.initialized "java/lang/Math" : Cond) ∈ wsX2_copyFrom := List.mem_of_getElem? (i := 5) (by decide +kernel)
theorem mX2_copyFrom_6 : (.code Lib.Math.min.name Lib.Math.min.code 2 (some .int) : Cond) ∈ wsX2_copyFrom := List.mem_of_getElem? (i := 6) (by decide +kernel)
theorem mX2_copyFrom_8 : (.methodLink RX2 34 arraycopyName : Cond) ∈ wsX2_copyFrom := List.mem_of_getElem? (i := 8) (by decide +kernel)
theorem mX2_copyFrom_9 : (.native arraycopyName : Cond) ∈ wsX2_copyFrom := List.mem_of_getElem? (i := 9) (by decide +kernel)
theorem mX2_copyFrom_10 : (.static arraycopyName : Cond) ∈ wsX2_copyFrom := List.mem_of_getElem? (i := 10) (by decide +kernel)
theorem mX2_copyFrom_11 : (.initialized "java/lang/System" : Cond) ∈ wsX2_copyFrom := List.mem_of_getElem? (i := 11) (by decide +kernel)
theorem mX2_copyFrom_12 : (.fieldLink RX2 24 "OneBeat$Mail" "total" "I" : Cond) ∈ wsX2_copyFrom := List.mem_of_getElem? (i := 12) (by decide +kernel)
