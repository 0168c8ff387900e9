set_option maxHeartbeats 4000000 in
set_option maxRecDepth 100000 in
theorem k133_X9_state (l : Launch) (D : va_G) (cs : Nat → ClassId) (sz : Nat) (a0 a1 a2 a3 a4 a5 a6 : Nat) : KI l yX9_state wsX9_state 1 22 0 0 D cs sz [.ref a0, .int 11] [(a0, .inr (9, [.int 0, .ref a2, .int 0, .int 0, .int 0, .int 0, .int 0, .int (-1), .ref a1, .ref a3, .ref a4, .ref a5, .int 0, .int 0, .int 0, .int 0, .int 0, .ref a6])), (a1, .inl (cs 0, 45783, .inl (layF (fun _ => 0) 1)))] (fun u => [(a0, .inr (9, [.int 0, .ref a2, .int 0, .int 0, .int 0, .int 0, .int 0, .int (-1), .ref a1, .ref a3, .ref a4, .ref a5, .int 0, .int 0, .int 0, .int 0, .int 0, .ref a6])), (a1, .inl (cs 0, 45783, .inl (layF (fun _ => 0) 1)))]) (0) := by
  refine KI.of cX9_state 2 (some .int) (by decide) rfl (Nat.le_of_ble_eq_true rfl) ?_
  intro p e s m below meth c A ls hx hb hr hml hown hts hlocks hin hP hN hD hA hS hl
  have hown : s.vm.findClass RX9 = some m.cls := hown
  have hl : lv_has ls 2 [(0, .ref a0), (1, .int 11)] := hl
  refine lv_aload_n hx hb dX9_state_0 rfl (lv_at hl 0 rfl) ?_
  refine lv_iconst (v := 0) hx hb dX9_state_1 (by decide) ?_
  refine va_put (D := D) (ci := 9) (v := .int 0) (ty := .int) (C := RX9) (T := TX9) (N := 18) hx hb hts iX9_state_9 tyX9 tyX9_ok nmX9 hown hN.1 hP hD hS 0 rfl rfl 0 (by decide) (hts _ mX9_state_1) (fun _ h9 => h9) rfl (by decide +kernel) rfl rfl (Nat.le_of_ble_eq_true rfl) dX9_state_2 (fun H locs hP hD hS => ?_)
  have hP : va_P D vwCl [(a0, .inr (9, [.int 0, .ref a2, .int 0, .int 0, .int 0, .int 0, .int 0, .int (-1), .ref a1, .ref a3, .ref a4, .ref a5, .int 0, .int 0, .int 0, .int 0, .int 0, .ref a6])), (a1, .inl (cs 0, 45783, .inl (layF (fun _ => 0) 1)))] H := hP
  have hD : va_D A [(a0, .inr (9, [.int 0, .ref a2, .int 0, .int 0, .int 0, .int 0, .int 0, .int (-1), .ref a1, .ref a3, .ref a4, .ref a5, .int 0, .int 0, .int 0, .int 0, .int 0, .ref a6])), (a1, .inl (cs 0, 45783, .inl (layF (fun _ => 0) 1)))] := hD
  refine lv_aload_n hx hb dX9_state_5 rfl (lv_at hl 0 rfl) ?_
  refine lv_iload_n hx hb dX9_state_6 rfl (lv_at hl 1 rfl) ?_
  refine lv_iconst (v := 0) hx hb dX9_state_7 (by decide) ?_
  refine lv_bipush (v := 12) hx hb dX9_state_8 (by decide) ?_
  refine cs_i (As := [.int 11, .int 0, .int 12]) (rest := [.ref a0]) (wr := [(a0, .inr (9, [.int 0, .ref a2, .int 0, .int 0, .int 0, .int 0, .int 0, .int (-1), .ref a1, .ref a3, .ref a4, .ref a5, .int 0, .int 0, .int 0, .int 0, .int 0, .ref a6])), (a1, .inl (cs 0, 45783, .inl (layF (fun _ => 0) 1)))]) ⟨hx, hb, hml, hown, hts⟩ (fun sz => k131_X9_in l D cs sz ) (va_cwS 3 hts gX9_state_X9_in rfl rfl rfl hdX9_in_o ⟨Nat.le_of_ble_eq_true rfl, Nat.le_of_ble_eq_true rfl⟩) hN hP hD hS hA [] [0, 1] rfl rfl rfl rfl (by decide) rfl rfl hl.1 (Nat.le_of_ble_eq_true rfl) dX9_state_10 (Nat.le_of_ble_eq_true rfl) (Nat.le_of_ble_eq_true rfl) (fun u0 H locs hP hD hS => ?_)
  have hP : va_P D vwCl [(a0, .inr (9, [.int 0, .ref a2, .int 0, .int 0, .int 0, .int 0, .int 0, .int (-1), .ref a1, .ref a3, .ref a4, .ref a5, .int 0, .int 0, .int 0, .int 0, .int 0, .ref a6])), (a1, .inl (cs 0, 45783, .inl (layF (fun _ => 0) 1)))] H := hP
  have hD : va_D A [(a0, .inr (9, [.int 0, .ref a2, .int 0, .int 0, .int 0, .int 0, .int 0, .int (-1), .ref a1, .ref a3, .ref a4, .ref a5, .int 0, .int 0, .int 0, .int 0, .int 0, .ref a6])), (a1, .inl (cs 0, 45783, .inl (layF (fun _ => 0) 1)))] := hD
  refine W.widen (k := 0) (n := 0) (Nat.le_of_ble_eq_true rfl) (Nat.le_of_ble_eq_true rfl) ?_
  refine lv_if_ne (tgt := 20) hx hb dX9_state_13 (by decide) (fun _ => ?_) (fun c9 => absurd c9 (by decide))
  refine lv_iconst (v := 0) hx hb dX9_state_20 (by decide) ?_
  refine lv_iconst (v := 1) hx hb dX9_state_21 (by decide) ?_
  refine cv_i (As := [.int 0, .int 1]) (rest := []) (b := a0) (wr := [(a1, .inl (cs 0, 45783, .inl (layF (fun _ => 0) 1)))]) ⟨hx, hb, hml, hown, hts⟩ (fun sz => k47_X9_fails l D cs sz a0 a2 a1 a3 a4 a5 a6) (cwV 2 hts gX9_state_X9_fails rfl rfl rfl hdX9_fails_v ⟨Nat.le_of_ble_eq_true rfl, Nat.le_of_ble_eq_true rfl⟩) hN hP hD hS hA [0] [1] rfl rfl rfl rfl (by decide) (ci := 9) (q0 := 0) rfl rfl rfl rfl hl.1 (Nat.le_of_ble_eq_true rfl) dX9_state_22 (Nat.le_of_ble_eq_true rfl) (Nat.le_of_ble_eq_true rfl) (fun u1 H locs hP hD hS => ?_)
  have hP : va_P D vwCl [(a1, .inl (cs 0, 45783, .inl (layF (fun _ => 0) 1))), (a0, .inr (9, [.int 0, .ref a2, .int 0, .int 0, .int 0, .int 0, .int 0, .int (-1), .ref a1, .ref a3, .ref a4, .ref a5, .int 0, .int 0, .int 0, .int 0, .int 0, .ref a6]))] H := hP
  have hD : va_D A [(a1, .inl (cs 0, 45783, .inl (layF (fun _ => 0) 1))), (a0, .inr (9, [.int 0, .ref a2, .int 0, .int 0, .int 0, .int 0, .int 0, .int (-1), .ref a1, .ref a3, .ref a4, .ref a5, .int 0, .int 0, .int 0, .int 0, .int 0, .ref a6]))] := hD
  refine W.widen (k := 0) (n := 0) (Nat.le_of_ble_eq_true rfl) (Nat.le_of_ble_eq_true rfl) ?_
  refine lv_if_eq (tgt := 32) hx hb dX9_state_25 (by decide) (fun _ => ?_) (fun c9 => absurd (by decide) c9)
  refine lv_aload_n hx hb dX9_state_32 rfl (lv_at hl 0 rfl) ?_
  refine lv_iload_n hx hb dX9_state_33 rfl (lv_at hl 1 rfl) ?_
  refine cv_i (As := [.int 11]) (rest := []) (b := a0) (wr := []) ⟨hx, hb, hml, hown, hts⟩ (fun sz => k132_X9_told l D cs sz a0 a1 a2 a3 a4 a5 a6) (cwV 1 hts gX9_state_X9_told rfl rfl rfl hdX9_told_v ⟨Nat.le_of_ble_eq_true rfl, Nat.le_of_ble_eq_true rfl⟩) hN hP hD hS hA [1, 0] [] rfl rfl rfl rfl (by decide) (ci := 9) (q0 := 0) rfl rfl rfl rfl hl.1 (Nat.le_of_ble_eq_true rfl) dX9_state_34 (Nat.le_of_ble_eq_true rfl) (Nat.le_of_ble_eq_true rfl) (fun u2 H locs hP hD hS => ?_)
  have hP : va_P D vwCl [(a0, .inr (9, [.int 0, .ref a2, .int 0, .int 0, .int 0, .int 0, .int 0, .int (-1), .ref a1, .ref a3, .ref a4, .ref a5, .int 0, .int 0, .int 0, .int 0, .int 0, .ref a6])), (a1, .inl (cs 0, 45783, .inl (layF (fun _ => 0) 1)))] H := hP
  have hD : va_D A [(a0, .inr (9, [.int 0, .ref a2, .int 0, .int 0, .int 0, .int 0, .int 0, .int (-1), .ref a1, .ref a3, .ref a4, .ref a5, .int 0, .int 0, .int 0, .int 0, .int 0, .ref a6])), (a1, .inl (cs 0, 45783, .inl (layF (fun _ => 0) 1)))] := hD
  refine W.widen (k := 0) (n := 0) (Nat.le_of_ble_eq_true rfl) (Nat.le_of_ble_eq_true rfl) ?_
  exact en_i (fun k => ([] : List Nat).getD k 0) hx hb hr hlocks rfl rfl hP hD hS (Nat.le_of_ble_eq_true rfl) (Nat.le_of_ble_eq_true rfl) dX9_state_37
set_option maxHeartbeats 4000000 in
set_option maxRecDepth 100000 in
theorem law_3_11 {p : Program} {l : Launch} {e : Env} {s : State} {m : MethodId} {args : Array Value} {below : List Frame} {meth : Method} {c : Code} {Q : State → Prop} {D : va_G} {cs : Nat → ClassId} {A : Nat → Prop} {xs : Nat → Int32} {b : Nat} (hx : p.tables.exec = Jvm.exec) (hb : c.code = cL_law) (hml : c.maxLocals = 9) (hown : s.vm.findClass RL = some m.cls) (hts : ∀ w ∈ wsL_law, w.before args s = true) (hN : NK D cs s) (hX : va_X b 6 xs s s.heap) (hbl : b < s.heap.size) (hbA : ¬ A b) (hA : ∀ q : Nat, s.heap.size ≤ q → A q) (hZ : ZX A s s.heap) (hZS : ZS cs A s s.heap) (hlt : l.stackTraces = false)
    (kend : ∀ (H : Heap) (locs : List Loc) (ls : Array Slot), va_S A s.heap H locs → lv_has ls 9 [(0, .ref b), (4, .int 0)] → W p l e room_1 s m args below meth c H locs 600002 7302232 Q (F0 m 1169 ls []))
    (a0 a1 a2 a3 a4 a5 a6 a7 a8 a9 a10 a11 a12 a13 a14 a15 a16 a17 a18 : Nat) (hy1 : xs 1 = (11))  (H : Heap) (locs : List Loc) (ls : Array Slot) (hP : va_P D vwCl [(a0, .inr (8, [.ref a5, .ref a1, .ref a6, .ref a7, .int 0, .int 0, .int (-1)])), (a1, .inr (7, [.ref a8, .ref a9, .ref a10, .ref a11, .ref a12, .ref a13, .long 0, .int 0, .int 0, .int 0, .int 0, .int 0, .int 0, .int 0, .int 0, .int 0])), (a2, .inr (9, [.int 0, .ref a14, .int 0, .int 0, .int 0, .int 0, .int 0, .int (-1), .ref a3, .ref a15, .ref a16, .ref a17, .int 0, .int 0, .int 0, .int 0, .int 0, .ref a18])), (a3, .inl (cs 0, 45783, .inl (layF (fun _ => 0) 1))), (a4, .inl (cs 3, 1, .inr (.inl (fun _ => 0))))] H) (hD : va_D A [(a0, .inr (8, [.ref a5, .ref a1, .ref a6, .ref a7, .int 0, .int 0, .int (-1)])), (a1, .inr (7, [.ref a8, .ref a9, .ref a10, .ref a11, .ref a12, .ref a13, .long 0, .int 0, .int 0, .int 0, .int 0, .int 0, .int 0, .int 0, .int 0, .int 0])), (a2, .inr (9, [.int 0, .ref a14, .int 0, .int 0, .int 0, .int 0, .int 0, .int (-1), .ref a3, .ref a15, .ref a16, .ref a17, .int 0, .int 0, .int 0, .int 0, .int 0, .ref a18])), (a3, .inl (cs 0, 45783, .inl (layF (fun _ => 0) 1))), (a4, .inl (cs 3, 1, .inr (.inl (fun _ => 0))))]) (hS : va_S A s.heap H locs) (hl : lv_has ls 9 [(4, .int 0), (3, .ref a4), (2, .ref a2), (1, .ref a0), (0, .ref b)]) : W p l e room_1 s m args below meth c H locs 391 467079 Q (F0 m 278 ls []) := by
  refine lv_aload_n hx hb dL_law_278 rfl (lv_at hl 3 rfl) ?_
  refine lv_aload_n hx hb dL_law_279 rfl (lv_at hl 4 rfl) ?_
  refine lv_iload hx hb dL_law_280 (lv_at hl 0 rfl) ?_
  refine lv_iconst (v := 1) hx hb dL_law_282 (by decide) ?_
  refine lv_iadd hx hb dL_law_283 ?_
  refine tp_i (1) (by decide) ?_
  refine va_sld hx hb hX hbl hbA hS (vin (by decide +kernel)) dL_law_284 ?_
  refine tp_i (11) hy1 ?_
  refine lv_aload_n hx hb dL_law_285 rfl (lv_at hl 1 rfl) ?_
  refine ch_i (As := [.ref a0, .int 11, .ref a4]) (rest := []) (wr := [(a2, .inr (9, [.int 0, .ref a14, .int 0, .int 0, .int 0, .int 0, .int 0, .int (-1), .ref a3, .ref a15, .ref a16, .ref a17, .int 0, .int 0, .int 0, .int 0, .int 0, .ref a18])), (a3, .inl (cs 0, 45783, .inl (layF (fun _ => 0) 1)))]) ⟨hx, hb, hml, hown, hts⟩ (fun sz => k130_L_state l D cs sz hlt a0 a1 a4 a5 a6 a7 a8 a9 a10 a11 a12 a13) (vx_cwSW 3 hts gL_law_L_state rfl rfl rfl hdL_state_o ⟨Nat.le_of_ble_eq_true rfl, Nat.le_of_ble_eq_true rfl⟩) hN hP hD hS hA hZ [0, 1, 4] [2, 3] rfl rfl rfl rfl (by decide) rfl rfl hl.1 (Nat.le_of_ble_eq_true rfl) dL_law_286 (Nat.le_of_ble_eq_true rfl) (Nat.le_of_ble_eq_true rfl) (fun u0 H locs hP hD hS => ?_)
  have hP : va_P D vwCl [(a2, .inr (9, [.int 0, .ref a14, .int 0, .int 0, .int 0, .int 0, .int 0, .int (-1), .ref a3, .ref a15, .ref a16, .ref a17, .int 0, .int 0, .int 0, .int 0, .int 0, .ref a18])), (a3, .inl (cs 0, 45783, .inl (layF (fun _ => 0) 1))), (a4, .inl (cs 3, 1, .inr (.inl (fun _ => 0)))), (a0, .inr (8, [.ref a5, .ref a1, .ref a6, .ref a7, .int 0, .int 0, .int (-1)])), (a1, .inr (7, [.ref a8, .ref a9, .ref a10, .ref a11, .ref a12, .ref a13, .long 0, .int 0, .int 0, .int 0, .int 0, .int 0, .int 0, .int 0, .int 0, .int 0]))] H := hP
  have hD : va_D A [(a2, .inr (9, [.int 0, .ref a14, .int 0, .int 0, .int 0, .int 0, .int 0, .int (-1), .ref a3, .ref a15, .ref a16, .ref a17, .int 0, .int 0, .int 0, .int 0, .int 0, .ref a18])), (a3, .inl (cs 0, 45783, .inl (layF (fun _ => 0) 1))), (a4, .inl (cs 3, 1, .inr (.inl (fun _ => 0)))), (a0, .inr (8, [.ref a5, .ref a1, .ref a6, .ref a7, .int 0, .int 0, .int (-1)])), (a1, .inr (7, [.ref a8, .ref a9, .ref a10, .ref a11, .ref a12, .ref a13, .long 0, .int 0, .int 0, .int 0, .int 0, .int 0, .int 0, .int 0, .int 0, .int 0]))] := hD
  refine W.widen (k := 391) (n := 467079) (Nat.le_of_ble_eq_true rfl) (Nat.le_of_ble_eq_true rfl) ?_
  refine lv_istore (lv' := [(5, .int 0), (4, .int 0), (3, .ref a4), (2, .ref a2), (1, .ref a0), (0, .ref b)]) hx hb dL_law_289 hl (by decide) rfl (fun ls hl => ?_)
  refine lv_aload_n hx hb dL_law_291 rfl (lv_at hl 3 rfl) ?_
  refine lv_aload_n hx hb dL_law_292 rfl (lv_at hl 5 rfl) ?_
  refine lv_iload hx hb dL_law_293 (lv_at hl 1 rfl) ?_
  refine lv_iconst (v := 1) hx hb dL_law_295 (by decide) ?_
  refine lv_iadd hx hb dL_law_296 ?_
  refine tp_i (1) (by decide) ?_
  refine va_sld hx hb hX hbl hbA hS (vin (by decide +kernel)) dL_law_297 ?_
  refine tp_i (11) hy1 ?_
  refine cv_i (As := [.int 11]) (rest := []) (b := a2) (wr := [(a4, .inl (cs 3, 1, .inr (.inl (fun _ => 0)))), (a0, .inr (8, [.ref a5, .ref a1, .ref a6, .ref a7, .int 0, .int 0, .int (-1)])), (a1, .inr (7, [.ref a8, .ref a9, .ref a10, .ref a11, .ref a12, .ref a13, .long 0, .int 0, .int 0, .int 0, .int 0, .int 0, .int 0, .int 0, .int 0, .int 0]))]) ⟨hx, hb, hml, hown, hts⟩ (fun sz => k133_X9_state l D cs sz a2 a3 a14 a15 a16 a17 a18) (cwV 1 hts gL_law_X9_state rfl rfl rfl hdX9_state_v ⟨Nat.le_of_ble_eq_true rfl, Nat.le_of_ble_eq_true rfl⟩) hN hP hD hS hA [0, 1] [2, 3, 4] rfl rfl rfl rfl (by decide) (ci := 9) (q0 := 0) rfl rfl rfl rfl hl.1 (Nat.le_of_ble_eq_true rfl) dL_law_298 (Nat.le_of_ble_eq_true rfl) (Nat.le_of_ble_eq_true rfl) (fun u1 H locs hP hD hS => ?_)
  have hP : va_P D vwCl [(a4, .inl (cs 3, 1, .inr (.inl (fun _ => 0)))), (a0, .inr (8, [.ref a5, .ref a1, .ref a6, .ref a7, .int 0, .int 0, .int (-1)])), (a1, .inr (7, [.ref a8, .ref a9, .ref a10, .ref a11, .ref a12, .ref a13, .long 0, .int 0, .int 0, .int 0, .int 0, .int 0, .int 0, .int 0, .int 0, .int 0])), (a2, .inr (9, [.int 0, .ref a14, .int 0, .int 0, .int 0, .int 0, .int 0, .int (-1), .ref a3, .ref a15, .ref a16, .ref a17, .int 0, .int 0, .int 0, .int 0, .int 0, .ref a18])), (a3, .inl (cs 0, 45783, .inl (layF (fun _ => 0) 1)))] H := hP
  have hD : va_D A [(a4, .inl (cs 3, 1, .inr (.inl (fun _ => 0)))), (a0, .inr (8, [.ref a5, .ref a1, .ref a6, .ref a7, .int 0, .int 0, .int (-1)])), (a1, .inr (7, [.ref a8, .ref a9, .ref a10, .ref a11, .ref a12, .ref a13, .long 0, .int 0, .int 0, .int 0, .int 0, .int 0, .int 0, .int 0, .int 0, .int 0])), (a2, .inr (9, [.int 0, .ref a14, .int 0, .int 0, .int 0, .int 0, .int 0, .int (-1), .ref a3, .ref a15, .ref a16, .ref a17, .int 0, .int 0, .int 0, .int 0, .int 0, .ref a18])), (a3, .inl (cs 0, 45783, .inl (layF (fun _ => 0) 1)))] := hD
  refine W.widen (k := 391) (n := 467079) (Nat.le_of_ble_eq_true rfl) (Nat.le_of_ble_eq_true rfl) ?_
  refine lv_istore (lv' := [(6, .int 0), (5, .int 0), (4, .int 0), (3, .ref a4), (2, .ref a2), (1, .ref a0), (0, .ref b)]) hx hb dL_law_301 hl (by decide) rfl (fun ls hl => ?_)
  refine lv_aload_n hx hb dL_law_303 rfl (lv_at hl 4 rfl) ?_
  refine cv_i (As := []) (rest := []) (b := a2) (wr := [(a4, .inl (cs 3, 1, .inr (.inl (fun _ => 0)))), (a0, .inr (8, [.ref a5, .ref a1, .ref a6, .ref a7, .int 0, .int 0, .int (-1)])), (a1, .inr (7, [.ref a8, .ref a9, .ref a10, .ref a11, .ref a12, .ref a13, .long 0, .int 0, .int 0, .int 0, .int 0, .int 0, .int 0, .int 0, .int 0, .int 0])), (a3, .inl (cs 0, 45783, .inl (layF (fun _ => 0) 1)))]) ⟨hx, hb, hml, hown, hts⟩ (fun sz => k50_X9_thrown l D cs sz a2 a14 a3 a15 a16 a17 a18) (cwV 0 hts gL_law_X9_thrown rfl rfl rfl hdX9_thrown_v ⟨Nat.le_of_ble_eq_true rfl, Nat.le_of_ble_eq_true rfl⟩) hN hP hD hS hA [3] [0, 1, 2, 4] rfl rfl rfl rfl (by decide) (ci := 9) (q0 := 0) rfl rfl rfl rfl hl.1 (Nat.le_of_ble_eq_true rfl) dL_law_304 (Nat.le_of_ble_eq_true rfl) (Nat.le_of_ble_eq_true rfl) (fun u2 H locs hP hD hS => ?_)
  have hP : va_P D vwCl [(a4, .inl (cs 3, 1, .inr (.inl (fun _ => 0)))), (a0, .inr (8, [.ref a5, .ref a1, .ref a6, .ref a7, .int 0, .int 0, .int (-1)])), (a1, .inr (7, [.ref a8, .ref a9, .ref a10, .ref a11, .ref a12, .ref a13, .long 0, .int 0, .int 0, .int 0, .int 0, .int 0, .int 0, .int 0, .int 0, .int 0])), (a3, .inl (cs 0, 45783, .inl (layF (fun _ => 0) 1))), (a2, .inr (9, [.int 0, .ref a14, .int 0, .int 0, .int 0, .int 0, .int 0, .int (-1), .ref a3, .ref a15, .ref a16, .ref a17, .int 0, .int 0, .int 0, .int 0, .int 0, .ref a18]))] H := hP
  have hD : va_D A [(a4, .inl (cs 3, 1, .inr (.inl (fun _ => 0)))), (a0, .inr (8, [.ref a5, .ref a1, .ref a6, .ref a7, .int 0, .int 0, .int (-1)])), (a1, .inr (7, [.ref a8, .ref a9, .ref a10, .ref a11, .ref a12, .ref a13, .long 0, .int 0, .int 0, .int 0, .int 0, .int 0, .int 0, .int 0, .int 0, .int 0])), (a3, .inl (cs 0, 45783, .inl (layF (fun _ => 0) 1))), (a2, .inr (9, [.int 0, .ref a14, .int 0, .int 0, .int 0, .int 0, .int 0, .int (-1), .ref a3, .ref a15, .ref a16, .ref a17, .int 0, .int 0, .int 0, .int 0, .int 0, .ref a18]))] := hD
  refine W.widen (k := 391) (n := 467079) (Nat.le_of_ble_eq_true rfl) (Nat.le_of_ble_eq_true rfl) ?_
  refine lv_iload hx hb dL_law_307 (lv_at hl 1 rfl) ?_
  refine lv_icmp_eq (tgt := 314) hx hb dL_law_309 (by decide) (fun _ => ?_) (fun c9 => absurd (by decide) c9)
  refine lv_iload hx hb dL_law_314 (lv_at hl 1 rfl) ?_
  refine lv_if_ne (tgt := 331) hx hb dL_law_316 (by decide) (fun c9 => absurd (by decide) c9) (fun _ => ?_)
  refine lv_aload_n hx hb dL_law_319 rfl (lv_at hl 3 rfl) ?_
  refine lv_iconst (v := 0) hx hb dL_law_320 (by decide) ?_
  refine ld_l (v := 0) hx hb hN hP 0 rfl (vin (by decide +kernel)) (by first | rfl | decide +kernel) dL_law_321 ?_
  refine lv_iload hx hb dL_law_322 (lv_at hl 0 rfl) ?_
  refine lv_i2l (v := 0) hx hb dL_law_324 (by decide) ?_
  refine W.lcmp hx hb dL_law_325 ?_
  refine tp_i (0) (by decide) ?_
  refine lv_if_eq (tgt := 331) hx hb dL_law_326 (by decide) (fun _ => ?_) (fun c9 => absurd (by decide) c9)
  refine lv_goto (tgt := 1169) hx hb dL_law_331 (by decide) ?_
  refine W.widen (k := 600002) (n := 7302232) (Nat.le_of_ble_eq_true rfl) (Nat.le_of_ble_eq_true rfl) ?_
  exact kend _ _ _ hS (lv_sub hl [6, 2] rfl)

set_option maxHeartbeats 4000000 in
set_option maxRecDepth 100000 in
theorem k134_X8_refuseWhatOutside (l : Launch) (D : va_G) (cs : Nat → ClassId) (sz : Nat) (a0 a1 a2 a3 a4 : Nat) : KV l yX8_refuseWhatOutside wsX8_refuseWhatOutside 0 0 0 0 D cs sz [.ref a0, .int 12, .int 12] [(a0, .inr (8, [.ref a1, .ref a2, .ref a3, .ref a4, .int 0, .int 0, .int (-1)]))] (fun u => [(a0, .inr (8, [.ref a1, .ref a2, .ref a3, .ref a4, .int 0, .int 0, .int (-1)]))]) := by
  refine KV.of cX8_refuseWhatOutside 3 none (by decide) rfl (Nat.le_of_ble_eq_true rfl) ?_
  intro p e s m below meth c A ls hx hb hr hml hown hts hlocks hin hP hN hD hA hS hl
  have hown : s.vm.findClass RX8 = some m.cls := hown
  have hl : lv_has ls 3 [(0, .ref a0), (1, .int 12), (2, .int 12)] := hl
  refine lv_iload_n hx hb dX8_refuseWhatOutside_0 rfl (lv_at hl 1 rfl) ?_
  refine lv_if_lt (tgt := 9) hx hb dX8_refuseWhatOutside_1 (by decide) (fun c9 => absurd c9 (by decide)) (fun _ => ?_)
  refine lv_iload_n hx hb dX8_refuseWhatOutside_4 rfl (lv_at hl 1 rfl) ?_
  refine lv_iload_n hx hb dX8_refuseWhatOutside_5 rfl (lv_at hl 2 rfl) ?_
  refine lv_icmp_le (tgt := 19) hx hb dX8_refuseWhatOutside_6 (by decide) (fun _ => ?_) (fun c9 => absurd (by decide) c9)
  exact en_v (fun k => ([] : List Nat).getD k 0) hx hb hr hlocks hP hD hS (Nat.le_of_ble_eq_true rfl) (Nat.le_of_ble_eq_true rfl) dX8_refuseWhatOutside_19
theorem mX7_margin_1 : (.fieldLink RX7 52 "OneBeat$World" "setup" "LOneBeat$Setup;" : Cond) ∈ wsX7_margin := List.mem_of_getElem? (i := 1) (by decide +kernel)
theorem iX7_margin_7 : ∀ w ∈ wsX70, w ∈ wsX7_margin := fun w h => List.mem_of_mem_drop (List.mem_of_mem_take ((show wsX70 = (wsX7_margin.drop 63).take 16 by decide +kernel) ▸ h))
theorem iX7_margin_6 : ∀ w ∈ wsX60, w ∈ wsX7_margin := fun w h => List.mem_of_mem_drop (List.mem_of_mem_take ((show wsX60 = (wsX7_margin.drop 79).take 8 by decide +kernel) ▸ h))
theorem mX7_greatestOpenDelay_1 : (.fieldLink RX7 52 "OneBeat$World" "setup" "LOneBeat$Setup;" : Cond) ∈ wsX7_greatestOpenDelay := List.mem_of_getElem? (i := 1) (by decide +kernel)
theorem iX7_greatestOpenDelay_7 : ∀ w ∈ wsX70, w ∈ wsX7_greatestOpenDelay := fun w h => List.mem_of_mem_drop (List.mem_of_mem_take ((show wsX70 = (wsX7_greatestOpenDelay.drop 26).take 16 by decide +kernel) ▸ h))
theorem iX7_greatestOpenDelay_6 : ∀ w ∈ wsX60, w ∈ wsX7_greatestOpenDelay := fun w h => List.mem_of_mem_drop (List.mem_of_mem_take ((show wsX60 = (wsX7_greatestOpenDelay.drop 42).take 8 by decide +kernel) ▸ h))
theorem mX7_isCut_1 : (.fieldLink RX7 60 "OneBeat$World" "cuts" "J" : Cond) ∈ wsX7_isCut := List.mem_of_getElem? (i := 1) (by decide +kernel)
theorem iX7_isCut_7 : ∀ w ∈ wsX70, w ∈ wsX7_isCut := fun w h => List.mem_of_mem_drop (List.mem_of_mem_take ((show wsX70 = (wsX7_isCut.drop 6).take 16 by decide +kernel) ▸ h))
set_option maxHeartbeats 4000000 in
set_option maxRecDepth 100000 in
theorem k135_X6_place (l : Launch) (D : va_G) (cs : Nat → ClassId) (sz : Nat) : KI l yX6_place wsX6_place 0 0 0 0 D cs sz [.int 0, .int 0] [] (fun u => []) (0) := by
  refine KI.of cX6_place 2 (some .int) (by decide) rfl (Nat.le_of_ble_eq_true rfl) ?_
  intro p e s m below meth c A ls hx hb hr hml hown hts hlocks hin hP hN hD hA hS hl
  have hown : s.vm.findClass RX6 = some m.cls := hown
  have hl : lv_has ls 2 [(0, .int 0), (1, .int 0)] := hl
  refine lv_iload_n hx hb dX6_place_0 rfl (lv_at hl 0 rfl) ?_
  refine lv_bipush (v := 7) hx hb dX6_place_1 (by decide) ?_
  refine lv_iand hx hb dX6_place_3 ?_
  refine tp_i (0) (by decide) ?_
  refine lv_bipush (v := 8) hx hb dX6_place_4 (by decide) ?_
  refine lv_imul hx hb dX6_place_6 ?_
  refine tp_i (0) (by decide) ?_
  refine lv_iload_n hx hb dX6_place_7 rfl (lv_at hl 1 rfl) ?_
  refine lv_bipush (v := 7) hx hb dX6_place_8 (by decide) ?_
  refine lv_iand hx hb dX6_place_10 ?_
  refine tp_i (0) (by decide) ?_
  refine lv_iadd hx hb dX6_place_11 ?_
  refine tp_i (0) (by decide) ?_
  exact en_i (fun k => ([] : List Nat).getD k 0) hx hb hr hlocks rfl rfl hP hD hS (Nat.le_of_ble_eq_true rfl) (Nat.le_of_ble_eq_true rfl) dX6_place_12
theorem hdX6_place_o : yX6_place.cls ≠ "java/lang/invoke/MethodHandle" ∧ yX6_place.cls ≠ "java/lang/invoke/VarHandle" ∧ (parseMethodDescriptor yX6_place.desc).map (fun d => d.parameters.length) = some 2 := by decide +kernel
set_option maxHeartbeats 4000000 in
set_option maxRecDepth 100000 in
theorem k136_X7_isCut (l : Launch) (D : va_G) (cs : Nat → ClassId) (sz : Nat) (a0 a1 a2 a3 a4 a5 a6 : Nat) : KI l yX7_isCut wsX7_isCut 1 21 0 0 D cs sz [.ref a0, .int 0, .int 0] [(a0, .inr (7, [.ref a1, .ref a2, .ref a3, .ref a4, .ref a5, .ref a6, .long 0, .int 0, .int 0, .int 0, .int 0, .int 0, .int 0, .int 0, .int 0, .int 0]))] (fun u => [(a0, .inr (7, [.ref a1, .ref a2, .ref a3, .ref a4, .ref a5, .ref a6, .long 0, .int 0, .int 0, .int 0, .int 0, .int 0, .int 0, .int 0, .int 0, .int 0]))]) (0) := by
  refine KI.of cX7_isCut 3 (some .boolean) (by decide) rfl (Nat.le_of_ble_eq_true rfl) ?_
  intro p e s m below meth c A ls hx hb hr hml hown hts hlocks hin hP hN hD hA hS hl
  have hown : s.vm.findClass RX7 = some m.cls := hown
  have hl : lv_has ls 3 [(0, .ref a0), (1, .int 0), (2, .int 0)] := hl
  refine lv_aload_n hx hb dX7_isCut_0 rfl (lv_at hl 0 rfl) ?_
  refine va_get (D := D) (ci := 7) (v := .long 0) (C := RX7) (T := TX7) (N := 16) hx hb hts iX7_isCut_7 hown hN.1 hP 0 rfl rfl 6 (by decide) (hts _ mX7_isCut_1) (fun _ h9 => h9) rfl dX7_isCut_1 ?_
  refine lv_iload_n hx hb dX7_isCut_4 rfl (lv_at hl 1 rfl) ?_
  refine lv_iload_n hx hb dX7_isCut_5 rfl (lv_at hl 2 rfl) ?_
  refine cs_i (As := [.int 0, .int 0]) (rest := [.long 0]) (wr := [(a0, .inr (7, [.ref a1, .ref a2, .ref a3, .ref a4, .ref a5, .ref a6, .long 0, .int 0, .int 0, .int 0, .int 0, .int 0, .int 0, .int 0, .int 0, .int 0]))]) ⟨hx, hb, hml, hown, hts⟩ (fun sz => k135_X6_place l D cs sz ) (va_cwS 2 hts gX7_isCut_X6_place rfl rfl rfl hdX6_place_o ⟨Nat.le_of_ble_eq_true rfl, Nat.le_of_ble_eq_true rfl⟩) hN hP hD hS hA [] [0] rfl rfl rfl rfl (by decide) rfl rfl hl.1 (Nat.le_of_ble_eq_true rfl) dX7_isCut_6 (Nat.le_of_ble_eq_true rfl) (Nat.le_of_ble_eq_true rfl) (fun u0 H locs hP hD hS => ?_)
  have hP : va_P D vwCl [(a0, .inr (7, [.ref a1, .ref a2, .ref a3, .ref a4, .ref a5, .ref a6, .long 0, .int 0, .int 0, .int 0, .int 0, .int 0, .int 0, .int 0, .int 0, .int 0]))] H := hP
  have hD : va_D A [(a0, .inr (7, [.ref a1, .ref a2, .ref a3, .ref a4, .ref a5, .ref a6, .long 0, .int 0, .int 0, .int 0, .int 0, .int 0, .int 0, .int 0, .int 0, .int 0]))] := hD
  refine W.widen (k := 0) (n := 0) (Nat.le_of_ble_eq_true rfl) (Nat.le_of_ble_eq_true rfl) ?_
  refine lv_lshr (v := 0) hx hb dX7_isCut_9 (by decide) ?_
  refine lv_lconst (v := 1) hx hb dX7_isCut_10 (by decide) ?_
  refine lv_land hx hb dX7_isCut_11 ?_
  refine tp_l (0) (by decide) ?_
  refine lv_lconst (v := 1) hx hb dX7_isCut_12 (by decide) ?_
  refine W.lcmp hx hb dX7_isCut_13 ?_
  refine tp_i ((-1)) (by decide) ?_
  refine lv_if_ne (tgt := 21) hx hb dX7_isCut_14 (by decide) (fun _ => ?_) (fun c9 => absurd c9 (by decide))
  refine lv_iconst (v := 0) hx hb dX7_isCut_21 (by decide) ?_
  exact en_i (fun k => ([] : List Nat).getD k 0) hx hb hr hlocks rfl rfl hP hD hS (Nat.le_of_ble_eq_true rfl) (Nat.le_of_ble_eq_true rfl) dX7_isCut_22
theorem mX7_delay_1 : (.fieldLink RX7 52 "OneBeat$World" "setup" "LOneBeat$Setup;" : Cond) ∈ wsX7_delay := List.mem_of_getElem? (i := 1) (by decide +kernel)
theorem iX7_delay_7 : ∀ w ∈ wsX70, w ∈ wsX7_delay := fun w h => List.mem_of_mem_drop (List.mem_of_mem_take ((show wsX70 = (wsX7_delay.drop 11).take 16 by decide +kernel) ▸ h))
theorem mX6_delayOf_1 : (.fieldLink RX6 20 "OneBeat$Setup" "delay" "[I" : Cond) ∈ wsX6_delayOf := List.mem_of_getElem? (i := 1) (by decide +kernel)
theorem iX6_delayOf_6 : ∀ w ∈ wsX60, w ∈ wsX6_delayOf := fun w h => List.mem_of_mem_drop (List.mem_of_mem_take ((show wsX60 = (wsX6_delayOf.drop 6).take 8 by decide +kernel) ▸ h))
set_option maxHeartbeats 4000000 in
set_option maxRecDepth 100000 in
theorem k137_X6_delayOf (l : Launch) (D : va_G) (cs : Nat → ClassId) (sz : Nat) (a0 a1 a2 a3 a4 : Nat) : KI l yX6_delayOf wsX6_delayOf 1 21 0 0 D cs sz [.ref a0, .int 0, .int 0] [(a0, .inr (6, [.int 1, .int 1, .int 50, .null, .ref a2, .ref a3, .ref a4, .ref a1])), (a1, .inl (cs 0, 64, .inl (fun _ => 0)))] (fun u => [(a0, .inr (6, [.int 1, .int 1, .int 50, .null, .ref a2, .ref a3, .ref a4, .ref a1])), (a1, .inl (cs 0, 64, .inl (fun _ => 0)))]) (0) := by
  refine KI.of cX6_delayOf 3 (some .int) (by decide) rfl (Nat.le_of_ble_eq_true rfl) ?_
  intro p e s m below meth c A ls hx hb hr hml hown hts hlocks hin hP hN hD hA hS hl
  have hown : s.vm.findClass RX6 = some m.cls := hown
  have hl : lv_has ls 3 [(0, .ref a0), (1, .int 0), (2, .int 0)] := hl
  refine lv_aload_n hx hb dX6_delayOf_0 rfl (lv_at hl 0 rfl) ?_
  refine va_get (D := D) (ci := 6) (v := .ref a1) (C := RX6) (T := TX6) (N := 8) hx hb hts iX6_delayOf_6 hown hN.1 hP 0 rfl rfl 7 (by decide) (hts _ mX6_delayOf_1) (fun _ h9 => h9) rfl dX6_delayOf_1 ?_
  refine lv_iload_n hx hb dX6_delayOf_4 rfl (lv_at hl 1 rfl) ?_
  refine lv_iload_n hx hb dX6_delayOf_5 rfl (lv_at hl 2 rfl) ?_
  refine cs_i (As := [.int 0, .int 0]) (rest := [.ref a1]) (wr := [(a0, .inr (6, [.int 1, .int 1, .int 50, .null, .ref a2, .ref a3, .ref a4, .ref a1])), (a1, .inl (cs 0, 64, .inl (fun _ => 0)))]) ⟨hx, hb, hml, hown, hts⟩ (fun sz => k135_X6_place l D cs sz ) (va_cwS 2 hts gX6_delayOf_X6_place rfl rfl rfl hdX6_place_o ⟨Nat.le_of_ble_eq_true rfl, Nat.le_of_ble_eq_true rfl⟩) hN hP hD hS hA [] [0, 1] rfl rfl rfl rfl (by decide) rfl rfl hl.1 (Nat.le_of_ble_eq_true rfl) dX6_delayOf_6 (Nat.le_of_ble_eq_true rfl) (Nat.le_of_ble_eq_true rfl) (fun u0 H locs hP hD hS => ?_)
  have hP : va_P D vwCl [(a0, .inr (6, [.int 1, .int 1, .int 50, .null, .ref a2, .ref a3, .ref a4, .ref a1])), (a1, .inl (cs 0, 64, .inl (fun _ => 0)))] H := hP
  have hD : va_D A [(a0, .inr (6, [.int 1, .int 1, .int 50, .null, .ref a2, .ref a3, .ref a4, .ref a1])), (a1, .inl (cs 0, 64, .inl (fun _ => 0)))] := hD
  refine W.widen (k := 0) (n := 0) (Nat.le_of_ble_eq_true rfl) (Nat.le_of_ble_eq_true rfl) ?_
  refine ld_i (v := 0) hx hb hN hP 1 rfl (vin (by decide +kernel)) (by first | rfl | decide +kernel) dX6_delayOf_9 ?_
  exact en_i (fun k => ([] : List Nat).getD k 0) hx hb hr hlocks rfl rfl hP hD hS (Nat.le_of_ble_eq_true rfl) (Nat.le_of_ble_eq_true rfl) dX6_delayOf_10
theorem hdX6_delayOf_v : yX6_delayOf.cls = RX6 ∧ yX6_delayOf.cls ≠ "java/lang/invoke/MethodHandle" ∧ yX6_delayOf.cls ≠ "java/lang/invoke/VarHandle" ∧ (parseMethodDescriptor yX6_delayOf.desc).map (fun d => d.parameters.length) = some 2 := by decide +kernel
set_option maxHeartbeats 4000000 in
set_option maxRecDepth 100000 in
theorem k138_X7_delay (l : Launch) (D : va_G) (cs : Nat → ClassId) (sz : Nat) (a0 a1 a2 a3 a4 a5 a6 a7 a8 a9 a10 : Nat) : KI l yX7_delay wsX7_delay 2 43 0 0 D cs sz [.ref a0, .int 0, .int 0] [(a0, .inr (7, [.ref a1, .ref a3, .ref a4, .ref a5, .ref a6, .ref a7, .long 0, .int 0, .int 0, .int 0, .int 0, .int 0, .int 0, .int 0, .int 0, .int 0])), (a1, .inr (6, [.int 1, .int 1, .int 50, .null, .ref a8, .ref a9, .ref a10, .ref a2])), (a2, .inl (cs 0, 64, .inl (fun _ => 0)))] (fun u => [(a0, .inr (7, [.ref a1, .ref a3, .ref a4, .ref a5, .ref a6, .ref a7, .long 0, .int 0, .int 0, .int 0, .int 0, .int 0, .int 0, .int 0, .int 0, .int 0])), (a1, .inr (6, [.int 1, .int 1, .int 50, .null, .ref a8, .ref a9, .ref a10, .ref a2])), (a2, .inl (cs 0, 64, .inl (fun _ => 0)))]) (0) := by
  refine KI.of cX7_delay 3 (some .int) (by decide) rfl (Nat.le_of_ble_eq_true rfl) ?_
  intro p e s m below meth c A ls hx hb hr hml hown hts hlocks hin hP hN hD hA hS hl
  have hown : s.vm.findClass RX7 = some m.cls := hown
  have hl : lv_has ls 3 [(0, .ref a0), (1, .int 0), (2, .int 0)] := hl
  refine lv_aload_n hx hb dX7_delay_0 rfl (lv_at hl 0 rfl) ?_
  refine va_get (D := D) (ci := 7) (v := .ref a1) (C := RX7) (T := TX7) (N := 16) hx hb hts iX7_delay_7 hown hN.1 hP 0 rfl rfl 0 (by decide) (hts _ mX7_delay_1) (fun _ h9 => h9) rfl dX7_delay_1 ?_
  refine lv_iload_n hx hb dX7_delay_4 rfl (lv_at hl 1 rfl) ?_
  refine lv_iload_n hx hb dX7_delay_5 rfl (lv_at hl 2 rfl) ?_
  refine cv_i (As := [.int 0, .int 0]) (rest := []) (b := a1) (wr := [(a0, .inr (7, [.ref a1, .ref a3, .ref a4, .ref a5, .ref a6, .ref a7, .long 0, .int 0, .int 0, .int 0, .int 0, .int 0, .int 0, .int 0, .int 0, .int 0]))]) ⟨hx, hb, hml, hown, hts⟩ (fun sz => k137_X6_delayOf l D cs sz a1 a2 a8 a9 a10) (cwV 2 hts gX7_delay_X6_delayOf rfl rfl rfl hdX6_delayOf_v ⟨Nat.le_of_ble_eq_true rfl, Nat.le_of_ble_eq_true rfl⟩) hN hP hD hS hA [1, 2] [0] rfl rfl rfl rfl (by decide) (ci := 6) (q0 := 0) rfl rfl rfl rfl hl.1 (Nat.le_of_ble_eq_true rfl) dX7_delay_6 (Nat.le_of_ble_eq_true rfl) (Nat.le_of_ble_eq_true rfl) (fun u0 H locs hP hD hS => ?_)
  have hP : va_P D vwCl [(a0, .inr (7, [.ref a1, .ref a3, .ref a4, .ref a5, .ref a6, .ref a7, .long 0, .int 0, .int 0, .int 0, .int 0, .int 0, .int 0, .int 0, .int 0, .int 0])), (a1, .inr (6, [.int 1, .int 1, .int 50, .null, .ref a8, .ref a9, .ref a10, .ref a2])), (a2, .inl (cs 0, 64, .inl (fun _ => 0)))] H := hP
  have hD : va_D A [(a0, .inr (7, [.ref a1, .ref a3, .ref a4, .ref a5, .ref a6, .ref a7, .long 0, .int 0, .int 0, .int 0, .int 0, .int 0, .int 0, .int 0, .int 0, .int 0])), (a1, .inr (6, [.int 1, .int 1, .int 50, .null, .ref a8, .ref a9, .ref a10, .ref a2])), (a2, .inl (cs 0, 64, .inl (fun _ => 0)))] := hD
  refine W.widen (k := 0) (n := 0) (Nat.le_of_ble_eq_true rfl) (Nat.le_of_ble_eq_true rfl) ?_
  exact en_i (fun k => ([] : List Nat).getD k 0) hx hb hr hlocks rfl rfl hP hD hS (Nat.le_of_ble_eq_true rfl) (Nat.le_of_ble_eq_true rfl) dX7_delay_9
theorem mX7_greatestOpenDelay_2 : (.methodLink RX7 147 Lib.Math.max.name : Cond) ∈ wsX7_greatestOpenDelay := List.mem_of_getElem? (i := 2) (by decide +kernel)
theorem mX7_greatestOpenDelay_3 : (.static Lib.Math.max.name : Cond) ∈ wsX7_greatestOpenDelay := List.mem_of_getElem? (i := 3) (by decide +kernel)
theorem mX7_greatestOpenDelay_4 : (.initialized "java/lang/Math" : Cond) ∈ wsX7_greatestOpenDelay := List.mem_of_getElem? (i := 4) (by decide +kernel)
theorem mX7_greatestOpenDelay_5 : (.code Lib.Math.max.name Lib.Math.max.code 2 (some .int) : Cond) ∈ wsX7_greatestOpenDelay := List.mem_of_getElem? (i := 5) (by decide +kernel)
theorem hdX7_isCut_v : yX7_isCut.cls = RX7 ∧ yX7_isCut.cls ≠ "java/lang/invoke/MethodHandle" ∧ yX7_isCut.cls ≠ "java/lang/invoke/VarHandle" ∧ (parseMethodDescriptor yX7_isCut.desc).map (fun d => d.parameters.length) = some 2 := by decide +kernel
theorem hdX7_delay_v : yX7_delay.cls = RX7 ∧ yX7_delay.cls ≠ "java/lang/invoke/MethodHandle" ∧ yX7_delay.cls ≠ "java/lang/invoke/VarHandle" ∧ (parseMethodDescriptor yX7_delay.desc).map (fun d => d.parameters.length) = some 2 := by decide +kernel
set_option maxHeartbeats 4000000 in
set_option maxRecDepth 100000 in
theorem k139_X7_greatestOpenDelay (l : Launch) (D : va_G) (cs : Nat → ClassId) (sz : Nat) (a0 a1 a2 a3 a4 a5 a6 a7 a8 a9 a10 : Nat) : KI l yX7_greatestOpenDelay wsX7_greatestOpenDelay 3 65 0 0 D cs sz [.ref a0] [(a0, .inr (7, [.ref a1, .ref a3, .ref a4, .ref a5, .ref a6, .ref a7, .long 0, .int 0, .int 0, .int 0, .int 0, .int 0, .int 0, .int 0, .int 0, .int 0])), (a1, .inr (6, [.int 1, .int 1, .int 50, .null, .ref a8, .ref a9, .ref a10, .ref a2])), (a2, .inl (cs 0, 64, .inl (fun _ => 0)))] (fun u => [(a0, .inr (7, [.ref a1, .ref a3, .ref a4, .ref a5, .ref a6, .ref a7, .long 0, .int 0, .int 0, .int 0, .int 0, .int 0, .int 0, .int 0, .int 0, .int 0])), (a1, .inr (6, [.int 1, .int 1, .int 50, .null, .ref a8, .ref a9, .ref a10, .ref a2])), (a2, .inl (cs 0, 64, .inl (fun _ => 0)))]) (0) := by
  refine KI.of cX7_greatestOpenDelay 4 (some .int) (by decide) rfl (Nat.le_of_ble_eq_true rfl) ?_
  intro p e s m below meth c A ls hx hb hr hml hown hts hlocks hin hP hN hD hA hS hl
  have hown : s.vm.findClass RX7 = some m.cls := hown
  have hl : lv_has ls 4 [(0, .ref a0)] := hl
  refine lv_iconst (v := 0) hx hb dX7_greatestOpenDelay_0 (by decide) ?_
  refine lv_istore_n (lv' := [(1, .int 0), (0, .ref a0)]) hx hb dX7_greatestOpenDelay_1 rfl hl (by decide) rfl (fun ls hl => ?_)
  refine lv_iconst (v := 0) hx hb dX7_greatestOpenDelay_2 (by decide) ?_
  refine lv_istore_n (lv' := [(2, .int 0), (1, .int 0), (0, .ref a0)]) hx hb dX7_greatestOpenDelay_3 rfl hl (by decide) rfl (fun ls hl => ?_)
  refine lv_iload_n hx hb dX7_greatestOpenDelay_4 rfl (lv_at hl 0 rfl) ?_
  refine lv_aload_n hx hb dX7_greatestOpenDelay_5 rfl (lv_at hl 2 rfl) ?_
  refine va_get (D := D) (ci := 7) (v := .ref a1) (C := RX7) (T := TX7) (N := 16) hx hb hts iX7_greatestOpenDelay_7 hown hN.1 hP 0 rfl rfl 0 (by decide) (hts _ mX7_greatestOpenDelay_1) (fun _ h9 => h9) rfl dX7_greatestOpenDelay_6 ?_
  refine va_getN (D := D) (ci := 6) (v := .int 1) (C := RX6) (T := TX6) (N := 8) hx hb hts iX7_greatestOpenDelay_6 hown hN.1 hP 1 rfl rfl 0 (by decide) (hN.f 39 rfl) (fun _ h9 => h9) rfl dX7_greatestOpenDelay_9 ?_
  refine lv_icmp_ge (tgt := 60) hx hb dX7_greatestOpenDelay_12 (by decide) (fun c9 => absurd c9 (by decide)) (fun _ => ?_)
  refine lv_iconst (v := 0) hx hb dX7_greatestOpenDelay_15 (by decide) ?_
  refine lv_istore_n (lv' := [(3, .int 0), (2, .int 0), (1, .int 0), (0, .ref a0)]) hx hb dX7_greatestOpenDelay_16 rfl hl (by decide) rfl (fun ls hl => ?_)
  refine lv_iload_n hx hb dX7_greatestOpenDelay_17 rfl (lv_at hl 0 rfl) ?_
  refine lv_aload_n hx hb dX7_greatestOpenDelay_18 rfl (lv_at hl 3 rfl) ?_
  refine va_get (D := D) (ci := 7) (v := .ref a1) (C := RX7) (T := TX7) (N := 16) hx hb hts iX7_greatestOpenDelay_7 hown hN.1 hP 0 rfl rfl 0 (by decide) (hts _ mX7_greatestOpenDelay_1) (fun _ h9 => h9) rfl dX7_greatestOpenDelay_19 ?_
  refine va_getN (D := D) (ci := 6) (v := .int 1) (C := RX6) (T := TX6) (N := 8) hx hb hts iX7_greatestOpenDelay_6 hown hN.1 hP 1 rfl rfl 0 (by decide) (hN.f 39 rfl) (fun _ h9 => h9) rfl dX7_greatestOpenDelay_22 ?_
  refine lv_icmp_ge (tgt := 54) hx hb dX7_greatestOpenDelay_25 (by decide) (fun c9 => absurd c9 (by decide)) (fun _ => ?_)
  refine lv_aload_n hx hb dX7_greatestOpenDelay_28 rfl (lv_at hl 3 rfl) ?_
  refine lv_iload_n hx hb dX7_greatestOpenDelay_29 rfl (lv_at hl 1 rfl) ?_
  refine lv_iload_n hx hb dX7_greatestOpenDelay_30 rfl (lv_at hl 0 rfl) ?_
  refine cv_i (As := [.int 0, .int 0]) (rest := []) (b := a0) (wr := [(a1, .inr (6, [.int 1, .int 1, .int 50, .null, .ref a8, .ref a9, .ref a10, .ref a2])), (a2, .inl (cs 0, 64, .inl (fun _ => 0)))]) ⟨hx, hb, hml, hown, hts⟩ (fun sz => k136_X7_isCut l D cs sz a0 a1 a3 a4 a5 a6 a7) (cwV 2 hts gX7_greatestOpenDelay_X7_isCut rfl rfl rfl hdX7_isCut_v ⟨Nat.le_of_ble_eq_true rfl, Nat.le_of_ble_eq_true rfl⟩) hN hP hD hS hA [0] [1, 2] rfl rfl rfl rfl (by decide) (ci := 7) (q0 := 0) rfl rfl rfl rfl hl.1 (Nat.le_of_ble_eq_true rfl) dX7_greatestOpenDelay_31 (Nat.le_of_ble_eq_true rfl) (Nat.le_of_ble_eq_true rfl) (fun u0 H locs hP hD hS => ?_)
  have hP : va_P D vwCl [(a1, .inr (6, [.int 1, .int 1, .int 50, .null, .ref a8, .ref a9, .ref a10, .ref a2])), (a2, .inl (cs 0, 64, .inl (fun _ => 0))), (a0, .inr (7, [.ref a1, .ref a3, .ref a4, .ref a5, .ref a6, .ref a7, .long 0, .int 0, .int 0, .int 0, .int 0, .int 0, .int 0, .int 0, .int 0, .int 0]))] H := hP
  have hD : va_D A [(a1, .inr (6, [.int 1, .int 1, .int 50, .null, .ref a8, .ref a9, .ref a10, .ref a2])), (a2, .inl (cs 0, 64, .inl (fun _ => 0))), (a0, .inr (7, [.ref a1, .ref a3, .ref a4, .ref a5, .ref a6, .ref a7, .long 0, .int 0, .int 0, .int 0, .int 0, .int 0, .int 0, .int 0, .int 0, .int 0]))] := hD
  refine W.widen (k := 0) (n := 0) (Nat.le_of_ble_eq_true rfl) (Nat.le_of_ble_eq_true rfl) ?_
  refine lv_if_ne (tgt := 48) hx hb dX7_greatestOpenDelay_34 (by decide) (fun c9 => absurd (by decide) c9) (fun _ => ?_)
  refine lv_iload_n hx hb dX7_greatestOpenDelay_37 rfl (lv_at hl 2 rfl) ?_
  refine lv_aload_n hx hb dX7_greatestOpenDelay_38 rfl (lv_at hl 3 rfl) ?_
  refine lv_iload_n hx hb dX7_greatestOpenDelay_39 rfl (lv_at hl 1 rfl) ?_
  refine lv_iload_n hx hb dX7_greatestOpenDelay_40 rfl (lv_at hl 0 rfl) ?_
  refine cv_i (As := [.int 0, .int 0]) (rest := [.int 0]) (b := a0) (wr := []) ⟨hx, hb, hml, hown, hts⟩ (fun sz => k138_X7_delay l D cs sz a0 a1 a2 a3 a4 a5 a6 a7 a8 a9 a10) (cwV 2 hts gX7_greatestOpenDelay_X7_delay rfl rfl rfl hdX7_delay_v ⟨Nat.le_of_ble_eq_true rfl, Nat.le_of_ble_eq_true rfl⟩) hN hP hD hS hA [2, 0, 1] [] rfl rfl rfl rfl (by decide) (ci := 7) (q0 := 0) rfl rfl rfl rfl hl.1 (Nat.le_of_ble_eq_true rfl) dX7_greatestOpenDelay_41 (Nat.le_of_ble_eq_true rfl) (Nat.le_of_ble_eq_true rfl) (fun u1 H locs hP hD hS => ?_)
  have hP : va_P D vwCl [(a0, .inr (7, [.ref a1, .ref a3, .ref a4, .ref a5, .ref a6, .ref a7, .long 0, .int 0, .int 0, .int 0, .int 0, .int 0, .int 0, .int 0, .int 0, .int 0])), (a1, .inr (6, [.int 1, .int 1, .int 50, .null, .ref a8, .ref a9, .ref a10, .ref a2])), (a2, .inl (cs 0, 64, .inl (fun _ => 0)))] H := hP
  have hD : va_D A [(a0, .inr (7, [.ref a1, .ref a3, .ref a4, .ref a5, .ref a6, .ref a7, .long 0, .int 0, .int 0, .int 0, .int 0, .int 0, .int 0, .int 0, .int 0, .int 0])), (a1, .inr (6, [.int 1, .int 1, .int 50, .null, .ref a8, .ref a9, .ref a10, .ref a2])), (a2, .inl (cs 0, 64, .inl (fun _ => 0)))] := hD
  refine W.widen (k := 0) (n := 0) (Nat.le_of_ble_eq_true rfl) (Nat.le_of_ble_eq_true rfl) ?_
  refine va_mmax hx hb (hml.trans hl.1.symm) hown (hts _ mX7_greatestOpenDelay_2) (hts _ mX7_greatestOpenDelay_3) (hts _ mX7_greatestOpenDelay_4) (hts _ mX7_greatestOpenDelay_5) (Nat.le_of_ble_eq_true rfl) (Nat.le_of_ble_eq_true rfl) (Nat.le_of_ble_eq_true rfl) (Nat.le_of_ble_eq_true rfl) dX7_greatestOpenDelay_44 ?_
  refine tp_i (0) (by decide) ?_
  refine lv_istore_n (lv' := [(1, .int 0), (3, .int 0), (2, .int 0), (0, .ref a0)]) hx hb dX7_greatestOpenDelay_47 rfl hl (by decide) rfl (fun ls hl => ?_)
  refine lv_iinc (v := 1) (lv' := [(3, .int 1), (1, .int 0), (2, .int 0), (0, .ref a0)]) hx hb dX7_greatestOpenDelay_48 hl (k := 1) rfl (by decide) (by decide) rfl (fun ls hl => ?_)
  refine lv_goto (tgt := 17) hx hb dX7_greatestOpenDelay_51 (by decide) ?_
  refine lv_iload_n hx hb dX7_greatestOpenDelay_17 rfl (lv_at hl 0 rfl) ?_
  refine lv_aload_n hx hb dX7_greatestOpenDelay_18 rfl (lv_at hl 3 rfl) ?_
  refine va_get (D := D) (ci := 7) (v := .ref a1) (C := RX7) (T := TX7) (N := 16) hx hb hts iX7_greatestOpenDelay_7 hown hN.1 hP 0 rfl rfl 0 (by decide) (hts _ mX7_greatestOpenDelay_1) (fun _ h9 => h9) rfl dX7_greatestOpenDelay_19 ?_
  refine va_getN (D := D) (ci := 6) (v := .int 1) (C := RX6) (T := TX6) (N := 8) hx hb hts iX7_greatestOpenDelay_6 hown hN.1 hP 1 rfl rfl 0 (by decide) (hN.f 39 rfl) (fun _ h9 => h9) rfl dX7_greatestOpenDelay_22 ?_
  refine lv_icmp_ge (tgt := 54) hx hb dX7_greatestOpenDelay_25 (by decide) (fun _ => ?_) (fun c9 => absurd (by decide) c9)
  refine lv_iinc (v := 1) (lv' := [(2, .int 1), (3, .int 1), (1, .int 0), (0, .ref a0)]) hx hb dX7_greatestOpenDelay_54 hl (k := 2) rfl (by decide) (by decide) rfl (fun ls hl => ?_)
  refine lv_goto (tgt := 4) hx hb dX7_greatestOpenDelay_57 (by decide) ?_
  refine lv_iload_n hx hb dX7_greatestOpenDelay_4 rfl (lv_at hl 0 rfl) ?_
  refine lv_aload_n hx hb dX7_greatestOpenDelay_5 rfl (lv_at hl 3 rfl) ?_
  refine va_get (D := D) (ci := 7) (v := .ref a1) (C := RX7) (T := TX7) (N := 16) hx hb hts iX7_greatestOpenDelay_7 hown hN.1 hP 0 rfl rfl 0 (by decide) (hts _ mX7_greatestOpenDelay_1) (fun _ h9 => h9) rfl dX7_greatestOpenDelay_6 ?_
  refine va_getN (D := D) (ci := 6) (v := .int 1) (C := RX6) (T := TX6) (N := 8) hx hb hts iX7_greatestOpenDelay_6 hown hN.1 hP 1 rfl rfl 0 (by decide) (hN.f 39 rfl) (fun _ h9 => h9) rfl dX7_greatestOpenDelay_9 ?_
  refine lv_icmp_ge (tgt := 60) hx hb dX7_greatestOpenDelay_12 (by decide) (fun _ => ?_) (fun c9 => absurd (by decide) c9)
  refine lv_iload_n hx hb dX7_greatestOpenDelay_60 rfl (lv_at hl 2 rfl) ?_
  exact en_i (fun k => ([] : List Nat).getD k 0) hx hb hr hlocks rfl rfl hP hD hS (Nat.le_of_ble_eq_true rfl) (Nat.le_of_ble_eq_true rfl) dX7_greatestOpenDelay_61
theorem hdX7_greatestOpenDelay_v : yX7_greatestOpenDelay.cls = RX7 ∧ yX7_greatestOpenDelay.cls ≠ "java/lang/invoke/MethodHandle" ∧ yX7_greatestOpenDelay.cls ≠ "java/lang/invoke/VarHandle" ∧ (parseMethodDescriptor yX7_greatestOpenDelay.desc).map (fun d => d.parameters.length) = some 0 := by decide +kernel
set_option maxHeartbeats 4000000 in
set_option maxRecDepth 100000 in
theorem k140_X7_margin (l : Launch) (D : va_G) (cs : Nat → ClassId) (sz : Nat) (a0 a1 a2 a3 a4 a5 a6 a7 a8 a9 a10 : Nat) : KI l yX7_margin wsX7_margin 4 88 0 0 D cs sz [.ref a0, .int 1] [(a0, .inr (7, [.ref a1, .ref a3, .ref a4, .ref a5, .ref a6, .ref a7, .long 0, .int 0, .int 0, .int 0, .int 0, .int 0, .int 0, .int 0, .int 0, .int 0])), (a1, .inr (6, [.int 1, .int 1, .int 50, .null, .ref a8, .ref a9, .ref a10, .ref a2])), (a2, .inl (cs 0, 64, .inl (fun _ => 0)))] (fun u => [(a0, .inr (7, [.ref a1, .ref a3, .ref a4, .ref a5, .ref a6, .ref a7, .long 0, .int 0, .int 0, .int 0, .int 0, .int 0, .int 0, .int 0, .int 0, .int 0])), (a1, .inr (6, [.int 1, .int 1, .int 50, .null, .ref a8, .ref a9, .ref a10, .ref a2])), (a2, .inl (cs 0, 64, .inl (fun _ => 0)))]) (1) := by
  refine KI.of cX7_margin 5 (some .int) (by decide) rfl (Nat.le_of_ble_eq_true rfl) ?_
  intro p e s m below meth c A ls hx hb hr hml hown hts hlocks hin hP hN hD hA hS hl
  have hown : s.vm.findClass RX7 = some m.cls := hown
  have hl : lv_has ls 5 [(0, .ref a0), (1, .int 1)] := hl
  refine lv_aload_n hx hb dX7_margin_0 rfl (lv_at hl 0 rfl) ?_
  refine va_get (D := D) (ci := 7) (v := .ref a1) (C := RX7) (T := TX7) (N := 16) hx hb hts iX7_margin_7 hown hN.1 hP 0 rfl rfl 0 (by decide) (hts _ mX7_margin_1) (fun _ h9 => h9) rfl dX7_margin_1 ?_
  refine va_getN (D := D) (ci := 6) (v := .null) (C := RX6) (T := TX6) (N := 8) hx hb hts iX7_margin_6 hown hN.1 hP 1 rfl rfl 3 (by decide) (hN.f 45 rfl) (fun _ h9 => h9) rfl dX7_margin_4 ?_
  refine lv_astore_nN (lv' := [(2, .null), (0, .ref a0), (1, .int 1)]) hx hb dX7_margin_7 rfl hl (by decide) rfl (fun ls hl => ?_)
  refine lv_aload_n hx hb dX7_margin_8 rfl (lv_at hl 1 rfl) ?_
  refine cv_i (As := []) (rest := []) (b := a0) (wr := []) ⟨hx, hb, hml, hown, hts⟩ (fun sz => k139_X7_greatestOpenDelay l D cs sz a0 a1 a2 a3 a4 a5 a6 a7 a8 a9 a10) (cwV 0 hts gX7_margin_X7_greatestOpenDelay rfl rfl rfl hdX7_greatestOpenDelay_v ⟨Nat.le_of_ble_eq_true rfl, Nat.le_of_ble_eq_true rfl⟩) hN hP hD hS hA [0, 1, 2] [] rfl rfl rfl rfl (by decide) (ci := 7) (q0 := 0) rfl rfl rfl rfl hl.1 (Nat.le_of_ble_eq_true rfl) dX7_margin_9 (Nat.le_of_ble_eq_true rfl) (Nat.le_of_ble_eq_true rfl) (fun u0 H locs hP hD hS => ?_)
  have hP : va_P D vwCl [(a0, .inr (7, [.ref a1, .ref a3, .ref a4, .ref a5, .ref a6, .ref a7, .long 0, .int 0, .int 0, .int 0, .int 0, .int 0, .int 0, .int 0, .int 0, .int 0])), (a1, .inr (6, [.int 1, .int 1, .int 50, .null, .ref a8, .ref a9, .ref a10, .ref a2])), (a2, .inl (cs 0, 64, .inl (fun _ => 0)))] H := hP
  have hD : va_D A [(a0, .inr (7, [.ref a1, .ref a3, .ref a4, .ref a5, .ref a6, .ref a7, .long 0, .int 0, .int 0, .int 0, .int 0, .int 0, .int 0, .int 0, .int 0, .int 0])), (a1, .inr (6, [.int 1, .int 1, .int 50, .null, .ref a8, .ref a9, .ref a10, .ref a2])), (a2, .inl (cs 0, 64, .inl (fun _ => 0)))] := hD
  refine W.widen (k := 0) (n := 0) (Nat.le_of_ble_eq_true rfl) (Nat.le_of_ble_eq_true rfl) ?_
  refine lv_istore_n (lv' := [(3, .int 0), (2, .null), (0, .ref a0), (1, .int 1)]) hx hb dX7_margin_12 rfl hl (by decide) rfl (fun ls hl => ?_)
  refine lv_aload_nN hx hb dX7_margin_13 rfl (lv_at hl 1 rfl) ?_
  refine lv_ifnonnullN hx hb dX7_margin_14 ?_
  refine lv_iconst (v := 2) hx hb dX7_margin_17 (by decide) ?_
  refine lv_iload_n hx hb dX7_margin_18 rfl (lv_at hl 0 rfl) ?_
  refine lv_imul hx hb dX7_margin_19 ?_
  refine tp_i (0) (by decide) ?_
  refine lv_iconst (v := 1) hx hb dX7_margin_20 (by decide) ?_
  refine lv_iadd hx hb dX7_margin_21 ?_
  refine tp_i (1) (by decide) ?_
  exact en_i (fun k => ([] : List Nat).getD k 0) hx hb hr hlocks rfl rfl hP hD hS (Nat.le_of_ble_eq_true rfl) (Nat.le_of_ble_eq_true rfl) dX7_margin_22
theorem hdX7_margin_v : yX7_margin.cls = RX7 ∧ yX7_margin.cls ≠ "java/lang/invoke/MethodHandle" ∧ yX7_margin.cls ≠ "java/lang/invoke/VarHandle" ∧ (parseMethodDescriptor yX7_margin.desc).map (fun d => d.parameters.length) = some 1 := by decide +kernel
set_option maxHeartbeats 4000000 in
set_option maxRecDepth 100000 in
theorem k141_X7_count (l : Launch) (D : va_G) (cs : Nat → ClassId) (sz : Nat) (a0 a1 a2 a3 a4 a5 a6 a7 a8 a9 a10 : Nat) : KI l yX7_count wsX7_count 5 112 0 0 D cs sz [.ref a0, .int 12] [(a0, .inr (7, [.ref a1, .ref a3, .ref a4, .ref a5, .ref a6, .ref a7, .long 0, .int 0, .int 0, .int 0, .int 0, .int 0, .int 0, .int 0, .int 0, .int 0])), (a1, .inr (6, [.int 1, .int 1, .int 50, .null, .ref a8, .ref a9, .ref a10, .ref a2])), (a2, .inl (cs 0, 64, .inl (fun _ => 0)))] (fun u => [(a0, .inr (7, [.ref a1, .ref a3, .ref a4, .ref a5, .ref a6, .ref a7, .long 0, .int 0, .int 0, .int 0, .int 0, .int 0, .int 0, .int 0, .int 0, .int 0])), (a1, .inr (6, [.int 1, .int 1, .int 50, .null, .ref a8, .ref a9, .ref a10, .ref a2])), (a2, .inl (cs 0, 64, .inl (fun _ => 0)))]) (1) := by
  refine KI.of cX7_count 2 (some .int) (by decide) rfl (Nat.le_of_ble_eq_true rfl) ?_
  intro p e s m below meth c A ls hx hb hr hml hown hts hlocks hin hP hN hD hA hS hl
  have hown : s.vm.findClass RX7 = some m.cls := hown
  have hl : lv_has ls 2 [(0, .ref a0), (1, .int 12)] := hl
  refine lv_iload_n hx hb dX7_count_0 rfl (lv_at hl 1 rfl) ?_
  refine lv_tableOut (tgt := 130) hx hb dX7_count_1 (by decide) (by decide) ?_
  refine lv_aload_n hx hb dX7_count_130 rfl (lv_at hl 0 rfl) ?_
  refine lv_iconst (v := 1) hx hb dX7_count_131 (by decide) ?_
  refine cv_i (As := [.int 1]) (rest := []) (b := a0) (wr := []) ⟨hx, hb, hml, hown, hts⟩ (fun sz => k140_X7_margin l D cs sz a0 a1 a2 a3 a4 a5 a6 a7 a8 a9 a10) (cwV 1 hts gX7_count_X7_margin rfl rfl rfl hdX7_margin_v ⟨Nat.le_of_ble_eq_true rfl, Nat.le_of_ble_eq_true rfl⟩) hN hP hD hS hA [0, 1, 2] [] rfl rfl rfl rfl (by decide) (ci := 7) (q0 := 0) rfl rfl rfl rfl hl.1 (Nat.le_of_ble_eq_true rfl) dX7_count_132 (Nat.le_of_ble_eq_true rfl) (Nat.le_of_ble_eq_true rfl) (fun u0 H locs hP hD hS => ?_)
  have hP : va_P D vwCl [(a0, .inr (7, [.ref a1, .ref a3, .ref a4, .ref a5, .ref a6, .ref a7, .long 0, .int 0, .int 0, .int 0, .int 0, .int 0, .int 0, .int 0, .int 0, .int 0])), (a1, .inr (6, [.int 1, .int 1, .int 50, .null, .ref a8, .ref a9, .ref a10, .ref a2])), (a2, .inl (cs 0, 64, .inl (fun _ => 0)))] H := hP
  have hD : va_D A [(a0, .inr (7, [.ref a1, .ref a3, .ref a4, .ref a5, .ref a6, .ref a7, .long 0, .int 0, .int 0, .int 0, .int 0, .int 0, .int 0, .int 0, .int 0, .int 0])), (a1, .inr (6, [.int 1, .int 1, .int 50, .null, .ref a8, .ref a9, .ref a10, .ref a2])), (a2, .inl (cs 0, 64, .inl (fun _ => 0)))] := hD
  refine W.widen (k := 0) (n := 0) (Nat.le_of_ble_eq_true rfl) (Nat.le_of_ble_eq_true rfl) ?_
  exact en_i (fun k => ([] : List Nat).getD k 0) hx hb hr hlocks rfl rfl hP hD hS (Nat.le_of_ble_eq_true rfl) (Nat.le_of_ble_eq_true rfl) dX7_count_135
set_option maxHeartbeats 4000000 in
set_option maxRecDepth 100000 in
theorem k142_X8_state (l : Launch) (D : va_G) (cs : Nat → ClassId) (sz : Nat) (a0 a1 a2 a3 a4 a5 a6 a7 a8 a9 a10 a11 a12 a13 a14 : Nat) : KI l yX8_state wsX8_state 6 133 0 0 D cs sz [.ref a0, .int 12] [(a0, .inr (8, [.ref a4, .ref a1, .ref a5, .ref a6, .int 0, .int 0, .int (-1)])), (a1, .inr (7, [.ref a2, .ref a7, .ref a8, .ref a9, .ref a10, .ref a11, .long 0, .int 0, .int 0, .int 0, .int 0, .int 0, .int 0, .int 0, .int 0, .int 0])), (a2, .inr (6, [.int 1, .int 1, .int 50, .null, .ref a12, .ref a13, .ref a14, .ref a3])), (a3, .inl (cs 0, 64, .inl (fun _ => 0)))] (fun u => [(a0, .inr (8, [.ref a4, .ref a1, .ref a5, .ref a6, .int 0, .int 0, .int (-1)])), (a1, .inr (7, [.ref a2, .ref a7, .ref a8, .ref a9, .ref a10, .ref a11, .long 0, .int 0, .int 0, .int 0, .int 0, .int 0, .int 0, .int 0, .int 0, .int 0])), (a2, .inr (6, [.int 1, .int 1, .int 50, .null, .ref a12, .ref a13, .ref a14, .ref a3])), (a3, .inl (cs 0, 64, .inl (fun _ => 0)))]) (1) := by
  refine KI.of cX8_state 2 (some .int) (by decide) rfl (Nat.le_of_ble_eq_true rfl) ?_
  intro p e s m below meth c A ls hx hb hr hml hown hts hlocks hin hP hN hD hA hS hl
  have hown : s.vm.findClass RX8 = some m.cls := hown
  have hl : lv_has ls 2 [(0, .ref a0), (1, .int 12)] := hl
  refine lv_aload_n hx hb dX8_state_0 rfl (lv_at hl 0 rfl) ?_
  refine lv_iload_n hx hb dX8_state_1 rfl (lv_at hl 1 rfl) ?_
  refine lv_bipush (v := 12) hx hb dX8_state_2 (by decide) ?_
  refine cv_v (As := [.int 12, .int 12]) (rest := []) (b := a0) (wr := [(a1, .inr (7, [.ref a2, .ref a7, .ref a8, .ref a9, .ref a10, .ref a11, .long 0, .int 0, .int 0, .int 0, .int 0, .int 0, .int 0, .int 0, .int 0, .int 0])), (a2, .inr (6, [.int 1, .int 1, .int 50, .null, .ref a12, .ref a13, .ref a14, .ref a3])), (a3, .inl (cs 0, 64, .inl (fun _ => 0)))]) ⟨hx, hb, hml, hown, hts⟩ (fun sz => k134_X8_refuseWhatOutside l D cs sz a0 a4 a1 a5 a6) (cwV 2 hts gX8_state_X8_refuseWhatOutside rfl rfl rfl hdX8_refuseWhatOutside_v ⟨Nat.le_of_ble_eq_true rfl, Nat.le_of_ble_eq_true rfl⟩) hN hP hD hS hA [0] [1, 2, 3] rfl rfl rfl rfl (by decide) (ci := 8) (q0 := 0) rfl rfl rfl rfl hl.1 (Nat.le_of_ble_eq_true rfl) dX8_state_4 (Nat.le_of_ble_eq_true rfl) (Nat.le_of_ble_eq_true rfl) (fun u0 H locs hP hD hS => ?_)
  have hP : va_P D vwCl [(a1, .inr (7, [.ref a2, .ref a7, .ref a8, .ref a9, .ref a10, .ref a11, .long 0, .int 0, .int 0, .int 0, .int 0, .int 0, .int 0, .int 0, .int 0, .int 0])), (a2, .inr (6, [.int 1, .int 1, .int 50, .null, .ref a12, .ref a13, .ref a14, .ref a3])), (a3, .inl (cs 0, 64, .inl (fun _ => 0))), (a0, .inr (8, [.ref a4, .ref a1, .ref a5, .ref a6, .int 0, .int 0, .int (-1)]))] H := hP
  have hD : va_D A [(a1, .inr (7, [.ref a2, .ref a7, .ref a8, .ref a9, .ref a10, .ref a11, .long 0, .int 0, .int 0, .int 0, .int 0, .int 0, .int 0, .int 0, .int 0, .int 0])), (a2, .inr (6, [.int 1, .int 1, .int 50, .null, .ref a12, .ref a13, .ref a14, .ref a3])), (a3, .inl (cs 0, 64, .inl (fun _ => 0))), (a0, .inr (8, [.ref a4, .ref a1, .ref a5, .ref a6, .int 0, .int 0, .int (-1)]))] := hD
  refine W.widen (k := 0) (n := 0) (Nat.le_of_ble_eq_true rfl) (Nat.le_of_ble_eq_true rfl) ?_
  refine lv_aload_n hx hb dX8_state_7 rfl (lv_at hl 0 rfl) ?_
  refine va_get (D := D) (ci := 8) (v := .ref a1) (C := RX8) (T := TX8) (N := 7) hx hb hts iX8_state_8 hown hN.1 hP 3 rfl rfl 1 (by decide) (hts _ mX8_state_1) (fun _ h9 => h9) rfl dX8_state_8 ?_
  refine lv_iload_n hx hb dX8_state_11 rfl (lv_at hl 1 rfl) ?_
  refine cv_i (As := [.int 12]) (rest := []) (b := a1) (wr := [(a0, .inr (8, [.ref a4, .ref a1, .ref a5, .ref a6, .int 0, .int 0, .int (-1)]))]) ⟨hx, hb, hml, hown, hts⟩ (fun sz => k141_X7_count l D cs sz a1 a2 a3 a7 a8 a9 a10 a11 a12 a13 a14) (cwV 1 hts gX8_state_X7_count rfl rfl rfl hdX7_count_v ⟨Nat.le_of_ble_eq_true rfl, Nat.le_of_ble_eq_true rfl⟩) hN hP hD hS hA [0, 1, 2] [3] rfl rfl rfl rfl (by decide) (ci := 7) (q0 := 0) rfl rfl rfl rfl hl.1 (Nat.le_of_ble_eq_true rfl) dX8_state_12 (Nat.le_of_ble_eq_true rfl) (Nat.le_of_ble_eq_true rfl) (fun u1 H locs hP hD hS => ?_)
  have hP : va_P D vwCl [(a0, .inr (8, [.ref a4, .ref a1, .ref a5, .ref a6, .int 0, .int 0, .int (-1)])), (a1, .inr (7, [.ref a2, .ref a7, .ref a8, .ref a9, .ref a10, .ref a11, .long 0, .int 0, .int 0, .int 0, .int 0, .int 0, .int 0, .int 0, .int 0, .int 0])), (a2, .inr (6, [.int 1, .int 1, .int 50, .null, .ref a12, .ref a13, .ref a14, .ref a3])), (a3, .inl (cs 0, 64, .inl (fun _ => 0)))] H := hP
  have hD : va_D A [(a0, .inr (8, [.ref a4, .ref a1, .ref a5, .ref a6, .int 0, .int 0, .int (-1)])), (a1, .inr (7, [.ref a2, .ref a7, .ref a8, .ref a9, .ref a10, .ref a11, .long 0, .int 0, .int 0, .int 0, .int 0, .int 0, .int 0, .int 0, .int 0, .int 0])), (a2, .inr (6, [.int 1, .int 1, .int 50, .null, .ref a12, .ref a13, .ref a14, .ref a3])), (a3, .inl (cs 0, 64, .inl (fun _ => 0)))] := hD
  refine W.widen (k := 0) (n := 0) (Nat.le_of_ble_eq_true rfl) (Nat.le_of_ble_eq_true rfl) ?_
  exact en_i (fun k => ([] : List Nat).getD k 0) hx hb hr hlocks rfl rfl hP hD hS (Nat.le_of_ble_eq_true rfl) (Nat.le_of_ble_eq_true rfl) dX8_state_15
set_option maxHeartbeats 4000000 in
set_option maxRecDepth 100000 in
theorem k143_L_state (l : Launch) (D : va_G) (cs : Nat → ClassId) (sz : Nat) (hlt : l.stackTraces = false) (a0 a1 a2 a3 a4 a5 a6 a7 a8 a9 a10 a11 a12 a13 a14 a15 : Nat) : KH l yL_state wsL_state 7 154 0 0 D cs sz [.ref a0, .int 12, .ref a4] [(a0, .inr (8, [.ref a5, .ref a1, .ref a6, .ref a7, .int 0, .int 0, .int (-1)])), (a1, .inr (7, [.ref a2, .ref a8, .ref a9, .ref a10, .ref a11, .ref a12, .long 0, .int 0, .int 0, .int 0, .int 0, .int 0, .int 0, .int 0, .int 0, .int 0])), (a2, .inr (6, [.int 1, .int 1, .int 50, .null, .ref a13, .ref a14, .ref a15, .ref a3])), (a3, .inl (cs 0, 64, .inl (fun _ => 0))), (a4, .inl (cs 3, 1, .inr (.inl (fun _ => 0))))] (fun u => [(a4, .inl (cs 3, 1, .inr (.inl (vp_updL (fun _ => 0) 0 1)))), (a0, .inr (8, [.ref a5, .ref a1, .ref a6, .ref a7, .int 0, .int 0, .int (-1)])), (a1, .inr (7, [.ref a2, .ref a8, .ref a9, .ref a10, .ref a11, .ref a12, .long 0, .int 0, .int 0, .int 0, .int 0, .int 0, .int 0, .int 0, .int 0, .int 0])), (a2, .inr (6, [.int 1, .int 1, .int 50, .null, .ref a13, .ref a14, .ref a15, .ref a3])), (a3, .inl (cs 0, 64, .inl (fun _ => 0)))]) (0) := by
  refine KH.of cL_state 4 (some .int) (by decide) rfl (Nat.le_of_ble_eq_true rfl) ?_
  intro p e s m below meth c A ls hx hb hr hml hown hts hlocks htab hP hN hD hA hS hl hZ
  have hown : s.vm.findClass RL = some m.cls := hown
  have hl : lv_has ls 4 [(0, .ref a0), (1, .int 12), (2, .ref a4)] := hl
  refine lv_aload_n hx hb dL_state_0 rfl (lv_at hl 2 rfl) ?_
  refine lv_iconst (v := 0) hx hb dL_state_1 (by decide) ?_
  refine lv_aload_n hx hb dL_state_2 rfl (lv_at hl 0 rfl) ?_
  refine lv_iload_n hx hb dL_state_3 rfl (lv_at hl 1 rfl) ?_
  refine cv_i (As := [.int 12]) (rest := [.int 0, .ref a4]) (b := a0) (wr := [(a4, .inl (cs 3, 1, .inr (.inl (fun _ => 0))))]) ⟨hx, hb, hml, hown, hts⟩ (fun sz => k142_X8_state l D cs sz a0 a1 a2 a3 a5 a6 a7 a8 a9 a10 a11 a12 a13 a14 a15) (cwV 1 hts gL_state_X8_state rfl rfl rfl hdX8_state_v ⟨Nat.le_of_ble_eq_true rfl, Nat.le_of_ble_eq_true rfl⟩) hN hP hD hS hA [0, 1, 2, 3] [4] rfl rfl rfl rfl (by decide) (ci := 8) (q0 := 0) rfl rfl rfl rfl hl.1 (Nat.le_of_ble_eq_true rfl) dL_state_4 (Nat.le_of_ble_eq_true rfl) (Nat.le_of_ble_eq_true rfl) (fun u0 H locs hP hD hS => ?_)
  have hP : va_P D vwCl [(a4, .inl (cs 3, 1, .inr (.inl (fun _ => 0)))), (a0, .inr (8, [.ref a5, .ref a1, .ref a6, .ref a7, .int 0, .int 0, .int (-1)])), (a1, .inr (7, [.ref a2, .ref a8, .ref a9, .ref a10, .ref a11, .ref a12, .long 0, .int 0, .int 0, .int 0, .int 0, .int 0, .int 0, .int 0, .int 0, .int 0])), (a2, .inr (6, [.int 1, .int 1, .int 50, .null, .ref a13, .ref a14, .ref a15, .ref a3])), (a3, .inl (cs 0, 64, .inl (fun _ => 0)))] H := hP
  have hD : va_D A [(a4, .inl (cs 3, 1, .inr (.inl (fun _ => 0)))), (a0, .inr (8, [.ref a5, .ref a1, .ref a6, .ref a7, .int 0, .int 0, .int (-1)])), (a1, .inr (7, [.ref a2, .ref a8, .ref a9, .ref a10, .ref a11, .ref a12, .long 0, .int 0, .int 0, .int 0, .int 0, .int 0, .int 0, .int 0, .int 0, .int 0])), (a2, .inr (6, [.int 1, .int 1, .int 50, .null, .ref a13, .ref a14, .ref a15, .ref a3])), (a3, .inl (cs 0, 64, .inl (fun _ => 0)))] := hD
  refine W.widen (k := 0) (n := 0) (Nat.le_of_ble_eq_true rfl) (Nat.le_of_ble_eq_true rfl) ?_
  refine lv_i2l (v := 1) hx hb dL_state_7 (by decide) ?_
  refine st_l (g := (vp_updL (fun _ => 0) 0 1)) hx hb hN hP hD hS 0 rfl (vin (by decide +kernel)) rfl dL_state_8 (fun H locs hP hD hS => ?_)
  have hP : va_P D vwCl [(a4, .inl (cs 3, 1, .inr (.inl (vp_updL (fun _ => 0) 0 1)))), (a0, .inr (8, [.ref a5, .ref a1, .ref a6, .ref a7, .int 0, .int 0, .int (-1)])), (a1, .inr (7, [.ref a2, .ref a8, .ref a9, .ref a10, .ref a11, .ref a12, .long 0, .int 0, .int 0, .int 0, .int 0, .int 0, .int 0, .int 0, .int 0, .int 0])), (a2, .inr (6, [.int 1, .int 1, .int 50, .null, .ref a13, .ref a14, .ref a15, .ref a3])), (a3, .inl (cs 0, 64, .inl (fun _ => 0)))] H := hP
  have hD : va_D A [(a4, .inl (cs 3, 1, .inr (.inl (vp_updL (fun _ => 0) 0 1)))), (a0, .inr (8, [.ref a5, .ref a1, .ref a6, .ref a7, .int 0, .int 0, .int (-1)])), (a1, .inr (7, [.ref a2, .ref a8, .ref a9, .ref a10, .ref a11, .ref a12, .long 0, .int 0, .int 0, .int 0, .int 0, .int 0, .int 0, .int 0, .int 0, .int 0])), (a2, .inr (6, [.int 1, .int 1, .int 50, .null, .ref a13, .ref a14, .ref a15, .ref a3])), (a3, .inl (cs 0, 64, .inl (fun _ => 0)))] := hD
  refine lv_goto (tgt := 15) hx hb dL_state_9 (by decide) ?_
  refine lv_iconst (v := 0) hx hb dL_state_15 (by decide) ?_
  exact en_i (fun k => ([] : List Nat).getD k 0) hx hb hr hlocks rfl rfl hP hD hS (Nat.le_of_ble_eq_true rfl) (Nat.le_of_ble_eq_true rfl) dL_state_16
set_option maxHeartbeats 4000000 in
set_option maxRecDepth 100000 in
theorem k144_X9_in (l : Launch) (D : va_G) (cs : Nat → ClassId) (sz : Nat) : KI l yX9_in wsX9_in 0 0 0 0 D cs sz [.int 12, .int 0, .int 12] [] (fun u => []) (1) := by
  refine KI.of cX9_in 3 (some .boolean) (by decide) rfl (Nat.le_of_ble_eq_true rfl) ?_
  intro p e s m below meth c A ls hx hb hr hml hown hts hlocks hin hP hN hD hA hS hl
  have hown : s.vm.findClass RX9 = some m.cls := hown
  have hl : lv_has ls 3 [(0, .int 12), (1, .int 0), (2, .int 12)] := hl
  refine lv_iload_n hx hb dX9_in_0 rfl (lv_at hl 0 rfl) ?_
  refine lv_iload_n hx hb dX9_in_1 rfl (lv_at hl 1 rfl) ?_
  refine lv_icmp_lt (tgt := 14) hx hb dX9_in_2 (by decide) (fun c9 => absurd c9 (by decide)) (fun _ => ?_)
  refine lv_iload_n hx hb dX9_in_5 rfl (lv_at hl 0 rfl) ?_
  refine lv_iload_n hx hb dX9_in_6 rfl (lv_at hl 2 rfl) ?_
  refine lv_icmp_gt (tgt := 14) hx hb dX9_in_7 (by decide) (fun c9 => absurd c9 (by decide)) (fun _ => ?_)
  refine lv_iconst (v := 1) hx hb dX9_in_10 (by decide) ?_
  refine lv_goto (tgt := 15) hx hb dX9_in_11 (by decide) ?_
  exact en_i (fun k => ([] : List Nat).getD k 0) hx hb hr hlocks rfl rfl hP hD hS (Nat.le_of_ble_eq_true rfl) (Nat.le_of_ble_eq_true rfl) dX9_in_15
theorem mX9_margin_1 : (.fieldLink RX9 18 "OneBeatModel" "data" "[I" : Cond) ∈ wsX9_margin := List.mem_of_getElem? (i := 1) (by decide +kernel)
theorem iX9_margin_9 : ∀ w ∈ wsX90, w ∈ wsX9_margin := fun w h => List.mem_of_mem_drop (List.mem_of_mem_take ((show wsX90 = (wsX9_margin.drop 41).take 18 by decide +kernel) ▸ h))
theorem mX9_longestDelay_1 : (.fieldLink RX9 18 "OneBeatModel" "data" "[I" : Cond) ∈ wsX9_longestDelay := List.mem_of_getElem? (i := 1) (by decide +kernel)
theorem iX9_longestDelay_9 : ∀ w ∈ wsX90, w ∈ wsX9_longestDelay := fun w h => List.mem_of_mem_drop (List.mem_of_mem_take ((show wsX90 = (wsX9_longestDelay.drop 6).take 18 by decide +kernel) ▸ h))
set_option maxHeartbeats 4000000 in
set_option maxRecDepth 100000 in
theorem k145_X9_max (l : Launch) (D : va_G) (cs : Nat → ClassId) (sz : Nat) : KI l yX9_max wsX9_max 0 0 0 0 D cs sz [.int 0, .int 0] [] (fun u => []) (0) := by
  refine KI.of cX9_max 2 (some .int) (by decide) rfl (Nat.le_of_ble_eq_true rfl) ?_
  intro p e s m below meth c A ls hx hb hr hml hown hts hlocks hin hP hN hD hA hS hl
  have hown : s.vm.findClass RX9 = some m.cls := hown
  have hl : lv_has ls 2 [(0, .int 0), (1, .int 0)] := hl
  refine lv_iload_n hx hb dX9_max_0 rfl (lv_at hl 0 rfl) ?_
  refine lv_iload_n hx hb dX9_max_1 rfl (lv_at hl 1 rfl) ?_
  refine lv_icmp_le (tgt := 9) hx hb dX9_max_2 (by decide) (fun _ => ?_) (fun c9 => absurd (by decide) c9)
  refine lv_iload_n hx hb dX9_max_9 rfl (lv_at hl 1 rfl) ?_
  exact en_i (fun k => ([] : List Nat).getD k 0) hx hb hr hlocks rfl rfl hP hD hS (Nat.le_of_ble_eq_true rfl) (Nat.le_of_ble_eq_true rfl) dX9_max_10
theorem hdX9_max_o : yX9_max.cls ≠ "java/lang/invoke/MethodHandle" ∧ yX9_max.cls ≠ "java/lang/invoke/VarHandle" ∧ (parseMethodDescriptor yX9_max.desc).map (fun d => d.parameters.length) = some 2 := by decide +kernel
set_option maxHeartbeats 4000000 in
set_option maxRecDepth 100000 in
theorem k146_X9_longestDelay (l : Launch) (D : va_G) (cs : Nat → ClassId) (sz : Nat) (a0 a1 a2 a3 a4 a5 a6 : Nat) : KI l yX9_longestDelay wsX9_longestDelay 1 21 0 0 D cs sz [.ref a0] [(a0, .inr (9, [.int 0, .ref a2, .int 0, .int 0, .int 0, .int 0, .int 0, .int (-1), .ref a1, .ref a3, .ref a4, .ref a5, .int 0, .int 0, .int 0, .int 0, .int 0, .ref a6])), (a1, .inl (cs 0, 45783, .inl (layF (fun _ => 0) 1)))] (fun u => [(a0, .inr (9, [.int 0, .ref a2, .int 0, .int 0, .int 0, .int 0, .int 0, .int (-1), .ref a1, .ref a3, .ref a4, .ref a5, .int 0, .int 0, .int 0, .int 0, .int 0, .ref a6])), (a1, .inl (cs 0, 45783, .inl (layF (fun _ => 0) 1)))]) (0) := by
  refine KI.of cX9_longestDelay 3 (some .int) (by decide) rfl (Nat.le_of_ble_eq_true rfl) ?_
  intro p e s m below meth c A ls hx hb hr hml hown hts hlocks hin hP hN hD hA hS hl
  have hown : s.vm.findClass RX9 = some m.cls := hown
  have hl : lv_has ls 3 [(0, .ref a0)] := hl
  refine lv_iconst (v := 0) hx hb dX9_longestDelay_0 (by decide) ?_
  refine lv_istore_n (lv' := [(1, .int 0), (0, .ref a0)]) hx hb dX9_longestDelay_1 rfl hl (by decide) rfl (fun ls hl => ?_)
  refine lv_iconst (v := 0) hx hb dX9_longestDelay_2 (by decide) ?_
  refine lv_istore_n (lv' := [(2, .int 0), (1, .int 0), (0, .ref a0)]) hx hb dX9_longestDelay_3 rfl hl (by decide) rfl (fun ls hl => ?_)
  refine lv_iload_n hx hb dX9_longestDelay_4 rfl (lv_at hl 0 rfl) ?_
  refine lv_bipush (v := 64) hx hb dX9_longestDelay_5 (by decide) ?_
  refine lv_icmp_ge (tgt := 30) hx hb dX9_longestDelay_7 (by decide) (fun c9 => absurd c9 (by decide)) (fun _ => ?_)
  refine lv_iload_n hx hb dX9_longestDelay_10 rfl (lv_at hl 1 rfl) ?_
  refine lv_aload_n hx hb dX9_longestDelay_11 rfl (lv_at hl 2 rfl) ?_
  refine va_get (D := D) (ci := 9) (v := .ref a1) (C := RX9) (T := TX9) (N := 18) hx hb hts iX9_longestDelay_9 hown hN.1 hP 0 rfl rfl 8 (by decide) (hts _ mX9_longestDelay_1) (fun _ h9 => h9) rfl dX9_longestDelay_12 ?_
  refine lv_bipush (v := 119) hx hb dX9_longestDelay_15 (by decide) ?_
  refine lv_iload_n hx hb dX9_longestDelay_17 rfl (lv_at hl 0 rfl) ?_
  refine lv_iadd hx hb dX9_longestDelay_18 ?_
  refine tp_i (119) (by decide) ?_
  refine ld_i (v := 0) hx hb hN hP 1 rfl (vin (by decide +kernel)) (by first | rfl | decide +kernel) dX9_longestDelay_19 ?_
  refine cs_i (As := [.int 0, .int 0]) (rest := []) (wr := [(a0, .inr (9, [.int 0, .ref a2, .int 0, .int 0, .int 0, .int 0, .int 0, .int (-1), .ref a1, .ref a3, .ref a4, .ref a5, .int 0, .int 0, .int 0, .int 0, .int 0, .ref a6])), (a1, .inl (cs 0, 45783, .inl (layF (fun _ => 0) 1)))]) ⟨hx, hb, hml, hown, hts⟩ (fun sz => k145_X9_max l D cs sz ) (va_cwS 2 hts gX9_longestDelay_X9_max rfl rfl rfl hdX9_max_o ⟨Nat.le_of_ble_eq_true rfl, Nat.le_of_ble_eq_true rfl⟩) hN hP hD hS hA [] [0, 1] rfl rfl rfl rfl (by decide) rfl rfl hl.1 (Nat.le_of_ble_eq_true rfl) dX9_longestDelay_20 (Nat.le_of_ble_eq_true rfl) (Nat.le_of_ble_eq_true rfl) (fun u0 H locs hP hD hS => ?_)
  have hP : va_P D vwCl [(a0, .inr (9, [.int 0, .ref a2, .int 0, .int 0, .int 0, .int 0, .int 0, .int (-1), .ref a1, .ref a3, .ref a4, .ref a5, .int 0, .int 0, .int 0, .int 0, .int 0, .ref a6])), (a1, .inl (cs 0, 45783, .inl (layF (fun _ => 0) 1)))] H := hP
  have hD : va_D A [(a0, .inr (9, [.int 0, .ref a2, .int 0, .int 0, .int 0, .int 0, .int 0, .int (-1), .ref a1, .ref a3, .ref a4, .ref a5, .int 0, .int 0, .int 0, .int 0, .int 0, .ref a6])), (a1, .inl (cs 0, 45783, .inl (layF (fun _ => 0) 1)))] := hD
  refine W.widen (k := 0) (n := 0) (Nat.le_of_ble_eq_true rfl) (Nat.le_of_ble_eq_true rfl) ?_
  refine lv_istore_n (lv' := [(1, .int 0), (2, .int 0), (0, .ref a0)]) hx hb dX9_longestDelay_23 rfl hl (by decide) rfl (fun ls hl => ?_)
  refine lv_iinc (v := 1) (lv' := [(2, .int 1), (1, .int 0), (0, .ref a0)]) hx hb dX9_longestDelay_24 hl (k := 1) rfl (by decide) (by decide) rfl (fun ls hl => ?_)
  refine lv_goto (tgt := 4) hx hb dX9_longestDelay_27 (by decide) ?_
  refine lv_iload_n hx hb dX9_longestDelay_4 rfl (lv_at hl 0 rfl) ?_
  refine lv_bipush (v := 64) hx hb dX9_longestDelay_5 (by decide) ?_
  refine lv_icmp_ge (tgt := 30) hx hb dX9_longestDelay_7 (by decide) (fun c9 => absurd c9 (by decide)) (fun _ => ?_)
  refine lv_iload_n hx hb dX9_longestDelay_10 rfl (lv_at hl 1 rfl) ?_
  refine lv_aload_n hx hb dX9_longestDelay_11 rfl (lv_at hl 2 rfl) ?_
  refine va_get (D := D) (ci := 9) (v := .ref a1) (C := RX9) (T := TX9) (N := 18) hx hb hts iX9_longestDelay_9 hown hN.1 hP 0 rfl rfl 8 (by decide) (hts _ mX9_longestDelay_1) (fun _ h9 => h9) rfl dX9_longestDelay_12 ?_
  refine lv_bipush (v := 119) hx hb dX9_longestDelay_15 (by decide) ?_
  refine lv_iload_n hx hb dX9_longestDelay_17 rfl (lv_at hl 0 rfl) ?_
  refine lv_iadd hx hb dX9_longestDelay_18 ?_
  refine tp_i (120) (by decide) ?_
  refine ld_i (v := 0) hx hb hN hP 1 rfl (vin (by decide +kernel)) (by first | rfl | decide +kernel) dX9_longestDelay_19 ?_
  refine cs_i (As := [.int 0, .int 0]) (rest := []) (wr := [(a0, .inr (9, [.int 0, .ref a2, .int 0, .int 0, .int 0, .int 0, .int 0, .int (-1), .ref a1, .ref a3, .ref a4, .ref a5, .int 0, .int 0, .int 0, .int 0, .int 0, .ref a6])), (a1, .inl (cs 0, 45783, .inl (layF (fun _ => 0) 1)))]) ⟨hx, hb, hml, hown, hts⟩ (fun sz => k145_X9_max l D cs sz ) (va_cwS 2 hts gX9_longestDelay_X9_max rfl rfl rfl hdX9_max_o ⟨Nat.le_of_ble_eq_true rfl, Nat.le_of_ble_eq_true rfl⟩) hN hP hD hS hA [] [0, 1] rfl rfl rfl rfl (by decide) rfl rfl hl.1 (Nat.le_of_ble_eq_true rfl) dX9_longestDelay_20 (Nat.le_of_ble_eq_true rfl) (Nat.le_of_ble_eq_true rfl) (fun u1 H locs hP hD hS => ?_)
  have hP : va_P D vwCl [(a0, .inr (9, [.int 0, .ref a2, .int 0, .int 0, .int 0, .int 0, .int 0, .int (-1), .ref a1, .ref a3, .ref a4, .ref a5, .int 0, .int 0, .int 0, .int 0, .int 0, .ref a6])), (a1, .inl (cs 0, 45783, .inl (layF (fun _ => 0) 1)))] H := hP
  have hD : va_D A [(a0, .inr (9, [.int 0, .ref a2, .int 0, .int 0, .int 0, .int 0, .int 0, .int (-1), .ref a1, .ref a3, .ref a4, .ref a5, .int 0, .int 0, .int 0, .int 0, .int 0, .ref a6])), (a1, .inl (cs 0, 45783, .inl (layF (fun _ => 0) 1)))] := hD
  refine W.widen (k := 0) (n := 0) (Nat.le_of_ble_eq_true rfl) (Nat.le_of_ble_eq_true rfl) ?_
  refine lv_istore_n (lv' := [(1, .int 0), (2, .int 1), (0, .ref a0)]) hx hb dX9_longestDelay_23 rfl hl (by decide) rfl (fun ls hl => ?_)
  refine lv_iinc (v := 2) (lv' := [(2, .int 2), (1, .int 0), (0, .ref a0)]) hx hb dX9_longestDelay_24 hl (k := 1) rfl (by decide) (by decide) rfl (fun ls hl => ?_)
  refine lv_goto (tgt := 4) hx hb dX9_longestDelay_27 (by decide) ?_
  refine lv_iload_n hx hb dX9_longestDelay_4 rfl (lv_at hl 0 rfl) ?_
  refine lv_bipush (v := 64) hx hb dX9_longestDelay_5 (by decide) ?_
  refine lv_icmp_ge (tgt := 30) hx hb dX9_longestDelay_7 (by decide) (fun c9 => absurd c9 (by decide)) (fun _ => ?_)
  refine lv_iload_n hx hb dX9_longestDelay_10 rfl (lv_at hl 1 rfl) ?_
  refine lv_aload_n hx hb dX9_longestDelay_11 rfl (lv_at hl 2 rfl) ?_
  refine va_get (D := D) (ci := 9) (v := .ref a1) (C := RX9) (T := TX9) (N := 18) hx hb hts iX9_longestDelay_9 hown hN.1 hP 0 rfl rfl 8 (by decide) (hts _ mX9_longestDelay_1) (fun _ h9 => h9) rfl dX9_longestDelay_12 ?_
  refine lv_bipush (v := 119) hx hb dX9_longestDelay_15 (by decide) ?_
  refine lv_iload_n hx hb dX9_longestDelay_17 rfl (lv_at hl 0 rfl) ?_
  refine lv_iadd hx hb dX9_longestDelay_18 ?_
  refine tp_i (121) (by decide) ?_
  refine ld_i (v := 0) hx hb hN hP 1 rfl (vin (by decide +kernel)) (by first | rfl | decide +kernel) dX9_longestDelay_19 ?_
  refine cs_i (As := [.int 0, .int 0]) (rest := []) (wr := [(a0, .inr (9, [.int 0, .ref a2, .int 0, .int 0, .int 0, .int 0, .int 0, .int (-1), .ref a1, .ref a3, .ref a4, .ref a5, .int 0, .int 0, .int 0, .int 0, .int 0, .ref a6])), (a1, .inl (cs 0, 45783, .inl (layF (fun _ => 0) 1)))]) ⟨hx, hb, hml, hown, hts⟩ (fun sz => k145_X9_max l D cs sz ) (va_cwS 2 hts gX9_longestDelay_X9_max rfl rfl rfl hdX9_max_o ⟨Nat.le_of_ble_eq_true rfl, Nat.le_of_ble_eq_true rfl⟩) hN hP hD hS hA [] [0, 1] rfl rfl rfl rfl (by decide) rfl rfl hl.1 (Nat.le_of_ble_eq_true rfl) dX9_longestDelay_20 (Nat.le_of_ble_eq_true rfl) (Nat.le_of_ble_eq_true rfl) (fun u2 H locs hP hD hS => ?_)
  have hP : va_P D vwCl [(a0, .inr (9, [.int 0, .ref a2, .int 0, .int 0, .int 0, .int 0, .int 0, .int (-1), .ref a1, .ref a3, .ref a4, .ref a5, .int 0, .int 0, .int 0, .int 0, .int 0, .ref a6])), (a1, .inl (cs 0, 45783, .inl (layF (fun _ => 0) 1)))] H := hP
  have hD : va_D A [(a0, .inr (9, [.int 0, .ref a2, .int 0, .int 0, .int 0, .int 0, .int 0, .int (-1), .ref a1, .ref a3, .ref a4, .ref a5, .int 0, .int 0, .int 0, .int 0, .int 0, .ref a6])), (a1, .inl (cs 0, 45783, .inl (layF (fun _ => 0) 1)))] := hD
  refine W.widen (k := 0) (n := 0) (Nat.le_of_ble_eq_true rfl) (Nat.le_of_ble_eq_true rfl) ?_
  refine lv_istore_n (lv' := [(1, .int 0), (2, .int 2), (0, .ref a0)]) hx hb dX9_longestDelay_23 rfl hl (by decide) rfl (fun ls hl => ?_)
  refine lv_iinc (v := 3) (lv' := [(2, .int 3), (1, .int 0), (0, .ref a0)]) hx hb dX9_longestDelay_24 hl (k := 1) rfl (by decide) (by decide) rfl (fun ls hl => ?_)
  refine lv_goto (tgt := 4) hx hb dX9_longestDelay_27 (by decide) ?_
  refine lv_iload_n hx hb dX9_longestDelay_4 rfl (lv_at hl 0 rfl) ?_
  refine lv_bipush (v := 64) hx hb dX9_longestDelay_5 (by decide) ?_
  refine lv_icmp_ge (tgt := 30) hx hb dX9_longestDelay_7 (by decide) (fun c9 => absurd c9 (by decide)) (fun _ => ?_)
  refine lv_iload_n hx hb dX9_longestDelay_10 rfl (lv_at hl 1 rfl) ?_
  refine lv_aload_n hx hb dX9_longestDelay_11 rfl (lv_at hl 2 rfl) ?_
  refine va_get (D := D) (ci := 9) (v := .ref a1) (C := RX9) (T := TX9) (N := 18) hx hb hts iX9_longestDelay_9 hown hN.1 hP 0 rfl rfl 8 (by decide) (hts _ mX9_longestDelay_1) (fun _ h9 => h9) rfl dX9_longestDelay_12 ?_
  refine lv_bipush (v := 119) hx hb dX9_longestDelay_15 (by decide) ?_
  refine lv_iload_n hx hb dX9_longestDelay_17 rfl (lv_at hl 0 rfl) ?_
  refine lv_iadd hx hb dX9_longestDelay_18 ?_
  refine tp_i (122) (by decide) ?_
  refine ld_i (v := 0) hx hb hN hP 1 rfl (vin (by decide +kernel)) (by first | rfl | decide +kernel) dX9_longestDelay_19 ?_
  refine cs_i (As := [.int 0, .int 0]) (rest := []) (wr := [(a0, .inr (9, [.int 0, .ref a2, .int 0, .int 0, .int 0, .int 0, .int 0, .int (-1), .ref a1, .ref a3, .ref a4, .ref a5, .int 0, .int 0, .int 0, .int 0, .int 0, .ref a6])), (a1, .inl (cs 0, 45783, .inl (layF (fun _ => 0) 1)))]) ⟨hx, hb, hml, hown, hts⟩ (fun sz => k145_X9_max l D cs sz ) (va_cwS 2 hts gX9_longestDelay_X9_max rfl rfl rfl hdX9_max_o ⟨Nat.le_of_ble_eq_true rfl, Nat.le_of_ble_eq_true rfl⟩) hN hP hD hS hA [] [0, 1] rfl rfl rfl rfl (by decide) rfl rfl hl.1 (Nat.le_of_ble_eq_true rfl) dX9_longestDelay_20 (Nat.le_of_ble_eq_true rfl) (Nat.le_of_ble_eq_true rfl) (fun u3 H locs hP hD hS => ?_)
  have hP : va_P D vwCl [(a0, .inr (9, [.int 0, .ref a2, .int 0, .int 0, .int 0, .int 0, .int 0, .int (-1), .ref a1, .ref a3, .ref a4, .ref a5, .int 0, .int 0, .int 0, .int 0, .int 0, .ref a6])), (a1, .inl (cs 0, 45783, .inl (layF (fun _ => 0) 1)))] H := hP
  have hD : va_D A [(a0, .inr (9, [.int 0, .ref a2, .int 0, .int 0, .int 0, .int 0, .int 0, .int (-1), .ref a1, .ref a3, .ref a4, .ref a5, .int 0, .int 0, .int 0, .int 0, .int 0, .ref a6])), (a1, .inl (cs 0, 45783, .inl (layF (fun _ => 0) 1)))] := hD
  refine W.widen (k := 0) (n := 0) (Nat.le_of_ble_eq_true rfl) (Nat.le_of_ble_eq_true rfl) ?_
  refine lv_istore_n (lv' := [(1, .int 0), (2, .int 3), (0, .ref a0)]) hx hb dX9_longestDelay_23 rfl hl (by decide) rfl (fun ls hl => ?_)
  refine lv_iinc (v := 4) (lv' := [(2, .int 4), (1, .int 0), (0, .ref a0)]) hx hb dX9_longestDelay_24 hl (k := 1) rfl (by decide) (by decide) rfl (fun ls hl => ?_)
  refine lv_goto (tgt := 4) hx hb dX9_longestDelay_27 (by decide) ?_
  refine lv_iload_n hx hb dX9_longestDelay_4 rfl (lv_at hl 0 rfl) ?_
  refine lv_bipush (v := 64) hx hb dX9_longestDelay_5 (by decide) ?_
  refine lv_icmp_ge (tgt := 30) hx hb dX9_longestDelay_7 (by decide) (fun c9 => absurd c9 (by decide)) (fun _ => ?_)
  refine lv_iload_n hx hb dX9_longestDelay_10 rfl (lv_at hl 1 rfl) ?_
  refine lv_aload_n hx hb dX9_longestDelay_11 rfl (lv_at hl 2 rfl) ?_
  refine va_get (D := D) (ci := 9) (v := .ref a1) (C := RX9) (T := TX9) (N := 18) hx hb hts iX9_longestDelay_9 hown hN.1 hP 0 rfl rfl 8 (by decide) (hts _ mX9_longestDelay_1) (fun _ h9 => h9) rfl dX9_longestDelay_12 ?_
  refine lv_bipush (v := 119) hx hb dX9_longestDelay_15 (by decide) ?_
  refine lv_iload_n hx hb dX9_longestDelay_17 rfl (lv_at hl 0 rfl) ?_
  refine lv_iadd hx hb dX9_longestDelay_18 ?_
  refine tp_i (123) (by decide) ?_
  refine ld_i (v := 0) hx hb hN hP 1 rfl (vin (by decide +kernel)) (by first | rfl | decide +kernel) dX9_longestDelay_19 ?_
  refine cs_i (As := [.int 0, .int 0]) (rest := []) (wr := [(a0, .inr (9, [.int 0, .ref a2, .int 0, .int 0, .int 0, .int 0, .int 0, .int (-1), .ref a1, .ref a3, .ref a4, .ref a5, .int 0, .int 0, .int 0, .int 0, .int 0, .ref a6])), (a1, .inl (cs 0, 45783, .inl (layF (fun _ => 0) 1)))]) ⟨hx, hb, hml, hown, hts⟩ (fun sz => k145_X9_max l D cs sz ) (va_cwS 2 hts gX9_longestDelay_X9_max rfl rfl rfl hdX9_max_o ⟨Nat.le_of_ble_eq_true rfl, Nat.le_of_ble_eq_true rfl⟩) hN hP hD hS hA [] [0, 1] rfl rfl rfl rfl (by decide) rfl rfl hl.1 (Nat.le_of_ble_eq_true rfl) dX9_longestDelay_20 (Nat.le_of_ble_eq_true rfl) (Nat.le_of_ble_eq_true rfl) (fun u4 H locs hP hD hS => ?_)
  have hP : va_P D vwCl [(a0, .inr (9, [.int 0, .ref a2, .int 0, .int 0, .int 0, .int 0, .int 0, .int (-1), .ref a1, .ref a3, .ref a4, .ref a5, .int 0, .int 0, .int 0, .int 0, .int 0, .ref a6])), (a1, .inl (cs 0, 45783, .inl (layF (fun _ => 0) 1)))] H := hP
  have hD : va_D A [(a0, .inr (9, [.int 0, .ref a2, .int 0, .int 0, .int 0, .int 0, .int 0, .int (-1), .ref a1, .ref a3, .ref a4, .ref a5, .int 0, .int 0, .int 0, .int 0, .int 0, .ref a6])), (a1, .inl (cs 0, 45783, .inl (layF (fun _ => 0) 1)))] := hD
  refine W.widen (k := 0) (n := 0) (Nat.le_of_ble_eq_true rfl) (Nat.le_of_ble_eq_true rfl) ?_
  refine lv_istore_n (lv' := [(1, .int 0), (2, .int 4), (0, .ref a0)]) hx hb dX9_longestDelay_23 rfl hl (by decide) rfl (fun ls hl => ?_)
  refine lv_iinc (v := 5) (lv' := [(2, .int 5), (1, .int 0), (0, .ref a0)]) hx hb dX9_longestDelay_24 hl (k := 1) rfl (by decide) (by decide) rfl (fun ls hl => ?_)
  refine lv_goto (tgt := 4) hx hb dX9_longestDelay_27 (by decide) ?_
  refine lv_iload_n hx hb dX9_longestDelay_4 rfl (lv_at hl 0 rfl) ?_
  refine lv_bipush (v := 64) hx hb dX9_longestDelay_5 (by decide) ?_
  refine lv_icmp_ge (tgt := 30) hx hb dX9_longestDelay_7 (by decide) (fun c9 => absurd c9 (by decide)) (fun _ => ?_)
  refine lv_iload_n hx hb dX9_longestDelay_10 rfl (lv_at hl 1 rfl) ?_
  refine lv_aload_n hx hb dX9_longestDelay_11 rfl (lv_at hl 2 rfl) ?_
  refine va_get (D := D) (ci := 9) (v := .ref a1) (C := RX9) (T := TX9) (N := 18) hx hb hts iX9_longestDelay_9 hown hN.1 hP 0 rfl rfl 8 (by decide) (hts _ mX9_longestDelay_1) (fun _ h9 => h9) rfl dX9_longestDelay_12 ?_
  refine lv_bipush (v := 119) hx hb dX9_longestDelay_15 (by decide) ?_
  refine lv_iload_n hx hb dX9_longestDelay_17 rfl (lv_at hl 0 rfl) ?_
  refine lv_iadd hx hb dX9_longestDelay_18 ?_
  refine tp_i (124) (by decide) ?_
  refine ld_i (v := 0) hx hb hN hP 1 rfl (vin (by decide +kernel)) (by first | rfl | decide +kernel) dX9_longestDelay_19 ?_
  refine cs_i (As := [.int 0, .int 0]) (rest := []) (wr := [(a0, .inr (9, [.int 0, .ref a2, .int 0, .int 0, .int 0, .int 0, .int 0, .int (-1), .ref a1, .ref a3, .ref a4, .ref a5, .int 0, .int 0, .int 0, .int 0, .int 0, .ref a6])), (a1, .inl (cs 0, 45783, .inl (layF (fun _ => 0) 1)))]) ⟨hx, hb, hml, hown, hts⟩ (fun sz => k145_X9_max l D cs sz ) (va_cwS 2 hts gX9_longestDelay_X9_max rfl rfl rfl hdX9_max_o ⟨Nat.le_of_ble_eq_true rfl, Nat.le_of_ble_eq_true rfl⟩) hN hP hD hS hA [] [0, 1] rfl rfl rfl rfl (by decide) rfl rfl hl.1 (Nat.le_of_ble_eq_true rfl) dX9_longestDelay_20 (Nat.le_of_ble_eq_true rfl) (Nat.le_of_ble_eq_true rfl) (fun u5 H locs hP hD hS => ?_)
  have hP : va_P D vwCl [(a0, .inr (9, [.int 0, .ref a2, .int 0, .int 0, .int 0, .int 0, .int 0, .int (-1), .ref a1, .ref a3, .ref a4, .ref a5, .int 0, .int 0, .int 0, .int 0, .int 0, .ref a6])), (a1, .inl (cs 0, 45783, .inl (layF (fun _ => 0) 1)))] H := hP
  have hD : va_D A [(a0, .inr (9, [.int 0, .ref a2, .int 0, .int 0, .int 0, .int 0, .int 0, .int (-1), .ref a1, .ref a3, .ref a4, .ref a5, .int 0, .int 0, .int 0, .int 0, .int 0, .ref a6])), (a1, .inl (cs 0, 45783, .inl (layF (fun _ => 0) 1)))] := hD
  refine W.widen (k := 0) (n := 0) (Nat.le_of_ble_eq_true rfl) (Nat.le_of_ble_eq_true rfl) ?_
  refine lv_istore_n (lv' := [(1, .int 0), (2, .int 5), (0, .ref a0)]) hx hb dX9_longestDelay_23 rfl hl (by decide) rfl (fun ls hl => ?_)
  refine lv_iinc (v := 6) (lv' := [(2, .int 6), (1, .int 0), (0, .ref a0)]) hx hb dX9_longestDelay_24 hl (k := 1) rfl (by decide) (by decide) rfl (fun ls hl => ?_)
  refine lv_goto (tgt := 4) hx hb dX9_longestDelay_27 (by decide) ?_
  refine lv_iload_n hx hb dX9_longestDelay_4 rfl (lv_at hl 0 rfl) ?_
  refine lv_bipush (v := 64) hx hb dX9_longestDelay_5 (by decide) ?_
  refine lv_icmp_ge (tgt := 30) hx hb dX9_longestDelay_7 (by decide) (fun c9 => absurd c9 (by decide)) (fun _ => ?_)
  refine lv_iload_n hx hb dX9_longestDelay_10 rfl (lv_at hl 1 rfl) ?_
  refine lv_aload_n hx hb dX9_longestDelay_11 rfl (lv_at hl 2 rfl) ?_
  refine va_get (D := D) (ci := 9) (v := .ref a1) (C := RX9) (T := TX9) (N := 18) hx hb hts iX9_longestDelay_9 hown hN.1 hP 0 rfl rfl 8 (by decide) (hts _ mX9_longestDelay_1) (fun _ h9 => h9) rfl dX9_longestDelay_12 ?_
  refine lv_bipush (v := 119) hx hb dX9_longestDelay_15 (by decide) ?_
  refine lv_iload_n hx hb dX9_longestDelay_17 rfl (lv_at hl 0 rfl) ?_
  refine lv_iadd hx hb dX9_longestDelay_18 ?_
  refine tp_i (125) (by decide) ?_
  refine ld_i (v := 0) hx hb hN hP 1 rfl (vin (by decide +kernel)) (by first | rfl | decide +kernel) dX9_longestDelay_19 ?_
  refine cs_i (As := [.int 0, .int 0]) (rest := []) (wr := [(a0, .inr (9, [.int 0, .ref a2, .int 0, .int 0, .int 0, .int 0, .int 0, .int (-1), .ref a1, .ref a3, .ref a4, .ref a5, .int 0, .int 0, .int 0, .int 0, .int 0, .ref a6])), (a1, .inl (cs 0, 45783, .inl (layF (fun _ => 0) 1)))]) ⟨hx, hb, hml, hown, hts⟩ (fun sz => k145_X9_max l D cs sz ) (va_cwS 2 hts gX9_longestDelay_X9_max rfl rfl rfl hdX9_max_o ⟨Nat.le_of_ble_eq_true rfl, Nat.le_of_ble_eq_true rfl⟩) hN hP hD hS hA [] [0, 1] rfl rfl rfl rfl (by decide) rfl rfl hl.1 (Nat.le_of_ble_eq_true rfl) dX9_longestDelay_20 (Nat.le_of_ble_eq_true rfl) (Nat.le_of_ble_eq_true rfl) (fun u6 H locs hP hD hS => ?_)
  have hP : va_P D vwCl [(a0, .inr (9, [.int 0, .ref a2, .int 0, .int 0, .int 0, .int 0, .int 0, .int (-1), .ref a1, .ref a3, .ref a4, .ref a5, .int 0, .int 0, .int 0, .int 0, .int 0, .ref a6])), (a1, .inl (cs 0, 45783, .inl (layF (fun _ => 0) 1)))] H := hP
  have hD : va_D A [(a0, .inr (9, [.int 0, .ref a2, .int 0, .int 0, .int 0, .int 0, .int 0, .int (-1), .ref a1, .ref a3, .ref a4, .ref a5, .int 0, .int 0, .int 0, .int 0, .int 0, .ref a6])), (a1, .inl (cs 0, 45783, .inl (layF (fun _ => 0) 1)))] := hD
  refine W.widen (k := 0) (n := 0) (Nat.le_of_ble_eq_true rfl) (Nat.le_of_ble_eq_true rfl) ?_
  refine lv_istore_n (lv' := [(1, .int 0), (2, .int 6), (0, .ref a0)]) hx hb dX9_longestDelay_23 rfl hl (by decide) rfl (fun ls hl => ?_)
  refine lv_iinc (v := 7) (lv' := [(2, .int 7), (1, .int 0), (0, .ref a0)]) hx hb dX9_longestDelay_24 hl (k := 1) rfl (by decide) (by decide) rfl (fun ls hl => ?_)
  refine lv_goto (tgt := 4) hx hb dX9_longestDelay_27 (by decide) ?_
  refine lv_iload_n hx hb dX9_longestDelay_4 rfl (lv_at hl 0 rfl) ?_
  refine lv_bipush (v := 64) hx hb dX9_longestDelay_5 (by decide) ?_
  refine lv_icmp_ge (tgt := 30) hx hb dX9_longestDelay_7 (by decide) (fun c9 => absurd c9 (by decide)) (fun _ => ?_)
  refine lv_iload_n hx hb dX9_longestDelay_10 rfl (lv_at hl 1 rfl) ?_
  refine lv_aload_n hx hb dX9_longestDelay_11 rfl (lv_at hl 2 rfl) ?_
  refine va_get (D := D) (ci := 9) (v := .ref a1) (C := RX9) (T := TX9) (N := 18) hx hb hts iX9_longestDelay_9 hown hN.1 hP 0 rfl rfl 8 (by decide) (hts _ mX9_longestDelay_1) (fun _ h9 => h9) rfl dX9_longestDelay_12 ?_
  refine lv_bipush (v := 119) hx hb dX9_longestDelay_15 (by decide) ?_
  refine lv_iload_n hx hb dX9_longestDelay_17 rfl (lv_at hl 0 rfl) ?_
  refine lv_iadd hx hb dX9_longestDelay_18 ?_
  refine tp_i (126) (by decide) ?_
  refine ld_i (v := 0) hx hb hN hP 1 rfl (vin (by decide +kernel)) (by first | rfl | decide +kernel) dX9_longestDelay_19 ?_
  refine cs_i (As := [.int 0, .int 0]) (rest := []) (wr := [(a0, .inr (9, [.int 0, .ref a2, .int 0, .int 0, .int 0, .int 0, .int 0, .int (-1), .ref a1, .ref a3, .ref a4, .ref a5, .int 0, .int 0, .int 0, .int 0, .int 0, .ref a6])), (a1, .inl (cs 0, 45783, .inl (layF (fun _ => 0) 1)))]) ⟨hx, hb, hml, hown, hts⟩ (fun sz => k145_X9_max l D cs sz ) (va_cwS 2 hts gX9_longestDelay_X9_max rfl rfl rfl hdX9_max_o ⟨Nat.le_of_ble_eq_true rfl, Nat.le_of_ble_eq_true rfl⟩) hN hP hD hS hA [] [0, 1] rfl rfl rfl rfl (by decide) rfl rfl hl.1 (Nat.le_of_ble_eq_true rfl) dX9_longestDelay_20 (Nat.le_of_ble_eq_true rfl) (Nat.le_of_ble_eq_true rfl) (fun u7 H locs hP hD hS => ?_)
  have hP : va_P D vwCl [(a0, .inr (9, [.int 0, .ref a2, .int 0, .int 0, .int 0, .int 0, .int 0, .int (-1), .ref a1, .ref a3, .ref a4, .ref a5, .int 0, .int 0, .int 0, .int 0, .int 0, .ref a6])), (a1, .inl (cs 0, 45783, .inl (layF (fun _ => 0) 1)))] H := hP
  have hD : va_D A [(a0, .inr (9, [.int 0, .ref a2, .int 0, .int 0, .int 0, .int 0, .int 0, .int (-1), .ref a1, .ref a3, .ref a4, .ref a5, .int 0, .int 0, .int 0, .int 0, .int 0, .ref a6])), (a1, .inl (cs 0, 45783, .inl (layF (fun _ => 0) 1)))] := hD
  refine W.widen (k := 0) (n := 0) (Nat.le_of_ble_eq_true rfl) (Nat.le_of_ble_eq_true rfl) ?_
  refine lv_istore_n (lv' := [(1, .int 0), (2, .int 7), (0, .ref a0)]) hx hb dX9_longestDelay_23 rfl hl (by decide) rfl (fun ls hl => ?_)
  refine lv_iinc (v := 8) (lv' := [(2, .int 8), (1, .int 0), (0, .ref a0)]) hx hb dX9_longestDelay_24 hl (k := 1) rfl (by decide) (by decide) rfl (fun ls hl => ?_)
  refine lv_goto (tgt := 4) hx hb dX9_longestDelay_27 (by decide) ?_
  refine lv_iload_n hx hb dX9_longestDelay_4 rfl (lv_at hl 0 rfl) ?_
  refine lv_bipush (v := 64) hx hb dX9_longestDelay_5 (by decide) ?_
  refine lv_icmp_ge (tgt := 30) hx hb dX9_longestDelay_7 (by decide) (fun c9 => absurd c9 (by decide)) (fun _ => ?_)
  refine lv_iload_n hx hb dX9_longestDelay_10 rfl (lv_at hl 1 rfl) ?_
  refine lv_aload_n hx hb dX9_longestDelay_11 rfl (lv_at hl 2 rfl) ?_
  refine va_get (D := D) (ci := 9) (v := .ref a1) (C := RX9) (T := TX9) (N := 18) hx hb hts iX9_longestDelay_9 hown hN.1 hP 0 rfl rfl 8 (by decide) (hts _ mX9_longestDelay_1) (fun _ h9 => h9) rfl dX9_longestDelay_12 ?_
  refine lv_bipush (v := 119) hx hb dX9_longestDelay_15 (by decide) ?_
  refine lv_iload_n hx hb dX9_longestDelay_17 rfl (lv_at hl 0 rfl) ?_
  refine lv_iadd hx hb dX9_longestDelay_18 ?_
  refine tp_i (127) (by decide) ?_
  refine ld_i (v := 0) hx hb hN hP 1 rfl (vin (by decide +kernel)) (by first | rfl | decide +kernel) dX9_longestDelay_19 ?_
  refine cs_i (As := [.int 0, .int 0]) (rest := []) (wr := [(a0, .inr (9, [.int 0, .ref a2, .int 0, .int 0, .int 0, .int 0, .int 0, .int (-1), .ref a1, .ref a3, .ref a4, .ref a5, .int 0, .int 0, .int 0, .int 0, .int 0, .ref a6])), (a1, .inl (cs 0, 45783, .inl (layF (fun _ => 0) 1)))]) ⟨hx, hb, hml, hown, hts⟩ (fun sz => k145_X9_max l D cs sz ) (va_cwS 2 hts gX9_longestDelay_X9_max rfl rfl rfl hdX9_max_o ⟨Nat.le_of_ble_eq_true rfl, Nat.le_of_ble_eq_true rfl⟩) hN hP hD hS hA [] [0, 1] rfl rfl rfl rfl (by decide) rfl rfl hl.1 (Nat.le_of_ble_eq_true rfl) dX9_longestDelay_20 (Nat.le_of_ble_eq_true rfl) (Nat.le_of_ble_eq_true rfl) (fun u8 H locs hP hD hS => ?_)
  have hP : va_P D vwCl [(a0, .inr (9, [.int 0, .ref a2, .int 0, .int 0, .int 0, .int 0, .int 0, .int (-1), .ref a1, .ref a3, .ref a4, .ref a5, .int 0, .int 0, .int 0, .int 0, .int 0, .ref a6])), (a1, .inl (cs 0, 45783, .inl (layF (fun _ => 0) 1)))] H := hP
  have hD : va_D A [(a0, .inr (9, [.int 0, .ref a2, .int 0, .int 0, .int 0, .int 0, .int 0, .int (-1), .ref a1, .ref a3, .ref a4, .ref a5, .int 0, .int 0, .int 0, .int 0, .int 0, .ref a6])), (a1, .inl (cs 0, 45783, .inl (layF (fun _ => 0) 1)))] := hD
  refine W.widen (k := 0) (n := 0) (Nat.le_of_ble_eq_true rfl) (Nat.le_of_ble_eq_true rfl) ?_
  refine lv_istore_n (lv' := [(1, .int 0), (2, .int 8), (0, .ref a0)]) hx hb dX9_longestDelay_23 rfl hl (by decide) rfl (fun ls hl => ?_)
  refine lv_iinc (v := 9) (lv' := [(2, .int 9), (1, .int 0), (0, .ref a0)]) hx hb dX9_longestDelay_24 hl (k := 1) rfl (by decide) (by decide) rfl (fun ls hl => ?_)
  refine lv_goto (tgt := 4) hx hb dX9_longestDelay_27 (by decide) ?_
  refine lv_iload_n hx hb dX9_longestDelay_4 rfl (lv_at hl 0 rfl) ?_
  refine lv_bipush (v := 64) hx hb dX9_longestDelay_5 (by decide) ?_
  refine lv_icmp_ge (tgt := 30) hx hb dX9_longestDelay_7 (by decide) (fun c9 => absurd c9 (by decide)) (fun _ => ?_)
  refine lv_iload_n hx hb dX9_longestDelay_10 rfl (lv_at hl 1 rfl) ?_
  refine lv_aload_n hx hb dX9_longestDelay_11 rfl (lv_at hl 2 rfl) ?_
  refine va_get (D := D) (ci := 9) (v := .ref a1) (C := RX9) (T := TX9) (N := 18) hx hb hts iX9_longestDelay_9 hown hN.1 hP 0 rfl rfl 8 (by decide) (hts _ mX9_longestDelay_1) (fun _ h9 => h9) rfl dX9_longestDelay_12 ?_
  refine lv_bipush (v := 119) hx hb dX9_longestDelay_15 (by decide) ?_
  refine lv_iload_n hx hb dX9_longestDelay_17 rfl (lv_at hl 0 rfl) ?_
  refine lv_iadd hx hb dX9_longestDelay_18 ?_
  refine tp_i (128) (by decide) ?_
  refine ld_i (v := 0) hx hb hN hP 1 rfl (vin (by decide +kernel)) (by first | rfl | decide +kernel) dX9_longestDelay_19 ?_
  refine cs_i (As := [.int 0, .int 0]) (rest := []) (wr := [(a0, .inr (9, [.int 0, .ref a2, .int 0, .int 0, .int 0, .int 0, .int 0, .int (-1), .ref a1, .ref a3, .ref a4, .ref a5, .int 0, .int 0, .int 0, .int 0, .int 0, .ref a6])), (a1, .inl (cs 0, 45783, .inl (layF (fun _ => 0) 1)))]) ⟨hx, hb, hml, hown, hts⟩ (fun sz => k145_X9_max l D cs sz ) (va_cwS 2 hts gX9_longestDelay_X9_max rfl rfl rfl hdX9_max_o ⟨Nat.le_of_ble_eq_true rfl, Nat.le_of_ble_eq_true rfl⟩) hN hP hD hS hA [] [0, 1] rfl rfl rfl rfl (by decide) rfl rfl hl.1 (Nat.le_of_ble_eq_true rfl) dX9_longestDelay_20 (Nat.le_of_ble_eq_true rfl) (Nat.le_of_ble_eq_true rfl) (fun u9 H locs hP hD hS => ?_)
  have hP : va_P D vwCl [(a0, .inr (9, [.int 0, .ref a2, .int 0, .int 0, .int 0, .int 0, .int 0, .int (-1), .ref a1, .ref a3, .ref a4, .ref a5, .int 0, .int 0, .int 0, .int 0, .int 0, .ref a6])), (a1, .inl (cs 0, 45783, .inl (layF (fun _ => 0) 1)))] H := hP
  have hD : va_D A [(a0, .inr (9, [.int 0, .ref a2, .int 0, .int 0, .int 0, .int 0, .int 0, .int (-1), .ref a1, .ref a3, .ref a4, .ref a5, .int 0, .int 0, .int 0, .int 0, .int 0, .ref a6])), (a1, .inl (cs 0, 45783, .inl (layF (fun _ => 0) 1)))] := hD
  refine W.widen (k := 0) (n := 0) (Nat.le_of_ble_eq_true rfl) (Nat.le_of_ble_eq_true rfl) ?_
  refine lv_istore_n (lv' := [(1, .int 0), (2, .int 9), (0, .ref a0)]) hx hb dX9_longestDelay_23 rfl hl (by decide) rfl (fun ls hl => ?_)
  refine lv_iinc (v := 10) (lv' := [(2, .int 10), (1, .int 0), (0, .ref a0)]) hx hb dX9_longestDelay_24 hl (k := 1) rfl (by decide) (by decide) rfl (fun ls hl => ?_)
  refine lv_goto (tgt := 4) hx hb dX9_longestDelay_27 (by decide) ?_
  refine lv_iload_n hx hb dX9_longestDelay_4 rfl (lv_at hl 0 rfl) ?_
  refine lv_bipush (v := 64) hx hb dX9_longestDelay_5 (by decide) ?_
  refine lv_icmp_ge (tgt := 30) hx hb dX9_longestDelay_7 (by decide) (fun c9 => absurd c9 (by decide)) (fun _ => ?_)
  refine lv_iload_n hx hb dX9_longestDelay_10 rfl (lv_at hl 1 rfl) ?_
  refine lv_aload_n hx hb dX9_longestDelay_11 rfl (lv_at hl 2 rfl) ?_
  refine va_get (D := D) (ci := 9) (v := .ref a1) (C := RX9) (T := TX9) (N := 18) hx hb hts iX9_longestDelay_9 hown hN.1 hP 0 rfl rfl 8 (by decide) (hts _ mX9_longestDelay_1) (fun _ h9 => h9) rfl dX9_longestDelay_12 ?_
  refine lv_bipush (v := 119) hx hb dX9_longestDelay_15 (by decide) ?_
  refine lv_iload_n hx hb dX9_longestDelay_17 rfl (lv_at hl 0 rfl) ?_
  refine lv_iadd hx hb dX9_longestDelay_18 ?_
  refine tp_i (129) (by decide) ?_
  refine ld_i (v := 0) hx hb hN hP 1 rfl (vin (by decide +kernel)) (by first | rfl | decide +kernel) dX9_longestDelay_19 ?_
  refine cs_i (As := [.int 0, .int 0]) (rest := []) (wr := [(a0, .inr (9, [.int 0, .ref a2, .int 0, .int 0, .int 0, .int 0, .int 0, .int (-1), .ref a1, .ref a3, .ref a4, .ref a5, .int 0, .int 0, .int 0, .int 0, .int 0, .ref a6])), (a1, .inl (cs 0, 45783, .inl (layF (fun _ => 0) 1)))]) ⟨hx, hb, hml, hown, hts⟩ (fun sz => k145_X9_max l D cs sz ) (va_cwS 2 hts gX9_longestDelay_X9_max rfl rfl rfl hdX9_max_o ⟨Nat.le_of_ble_eq_true rfl, Nat.le_of_ble_eq_true rfl⟩) hN hP hD hS hA [] [0, 1] rfl rfl rfl rfl (by decide) rfl rfl hl.1 (Nat.le_of_ble_eq_true rfl) dX9_longestDelay_20 (Nat.le_of_ble_eq_true rfl) (Nat.le_of_ble_eq_true rfl) (fun u10 H locs hP hD hS => ?_)
  have hP : va_P D vwCl [(a0, .inr (9, [.int 0, .ref a2, .int 0, .int 0, .int 0, .int 0, .int 0, .int (-1), .ref a1, .ref a3, .ref a4, .ref a5, .int 0, .int 0, .int 0, .int 0, .int 0, .ref a6])), (a1, .inl (cs 0, 45783, .inl (layF (fun _ => 0) 1)))] H := hP
  have hD : va_D A [(a0, .inr (9, [.int 0, .ref a2, .int 0, .int 0, .int 0, .int 0, .int 0, .int (-1), .ref a1, .ref a3, .ref a4, .ref a5, .int 0, .int 0, .int 0, .int 0, .int 0, .ref a6])), (a1, .inl (cs 0, 45783, .inl (layF (fun _ => 0) 1)))] := hD
  refine W.widen (k := 0) (n := 0) (Nat.le_of_ble_eq_true rfl) (Nat.le_of_ble_eq_true rfl) ?_
  refine lv_istore_n (lv' := [(1, .int 0), (2, .int 10), (0, .ref a0)]) hx hb dX9_longestDelay_23 rfl hl (by decide) rfl (fun ls hl => ?_)
  refine lv_iinc (v := 11) (lv' := [(2, .int 11), (1, .int 0), (0, .ref a0)]) hx hb dX9_longestDelay_24 hl (k := 1) rfl (by decide) (by decide) rfl (fun ls hl => ?_)
  refine lv_goto (tgt := 4) hx hb dX9_longestDelay_27 (by decide) ?_
  refine lv_iload_n hx hb dX9_longestDelay_4 rfl (lv_at hl 0 rfl) ?_
  refine lv_bipush (v := 64) hx hb dX9_longestDelay_5 (by decide) ?_
  refine lv_icmp_ge (tgt := 30) hx hb dX9_longestDelay_7 (by decide) (fun c9 => absurd c9 (by decide)) (fun _ => ?_)
  refine lv_iload_n hx hb dX9_longestDelay_10 rfl (lv_at hl 1 rfl) ?_
  refine lv_aload_n hx hb dX9_longestDelay_11 rfl (lv_at hl 2 rfl) ?_
  refine va_get (D := D) (ci := 9) (v := .ref a1) (C := RX9) (T := TX9) (N := 18) hx hb hts iX9_longestDelay_9 hown hN.1 hP 0 rfl rfl 8 (by decide) (hts _ mX9_longestDelay_1) (fun _ h9 => h9) rfl dX9_longestDelay_12 ?_
  refine lv_bipush (v := 119) hx hb dX9_longestDelay_15 (by decide) ?_
  refine lv_iload_n hx hb dX9_longestDelay_17 rfl (lv_at hl 0 rfl) ?_
  refine lv_iadd hx hb dX9_longestDelay_18 ?_
  refine tp_i (130) (by decide) ?_
  refine ld_i (v := 0) hx hb hN hP 1 rfl (vin (by decide +kernel)) (by first | rfl | decide +kernel) dX9_longestDelay_19 ?_
  refine cs_i (As := [.int 0, .int 0]) (rest := []) (wr := [(a0, .inr (9, [.int 0, .ref a2, .int 0, .int 0, .int 0, .int 0, .int 0, .int (-1), .ref a1, .ref a3, .ref a4, .ref a5, .int 0, .int 0, .int 0, .int 0, .int 0, .ref a6])), (a1, .inl (cs 0, 45783, .inl (layF (fun _ => 0) 1)))]) ⟨hx, hb, hml, hown, hts⟩ (fun sz => k145_X9_max l D cs sz ) (va_cwS 2 hts gX9_longestDelay_X9_max rfl rfl rfl hdX9_max_o ⟨Nat.le_of_ble_eq_true rfl, Nat.le_of_ble_eq_true rfl⟩) hN hP hD hS hA [] [0, 1] rfl rfl rfl rfl (by decide) rfl rfl hl.1 (Nat.le_of_ble_eq_true rfl) dX9_longestDelay_20 (Nat.le_of_ble_eq_true rfl) (Nat.le_of_ble_eq_true rfl) (fun u11 H locs hP hD hS => ?_)
  have hP : va_P D vwCl [(a0, .inr (9, [.int 0, .ref a2, .int 0, .int 0, .int 0, .int 0, .int 0, .int (-1), .ref a1, .ref a3, .ref a4, .ref a5, .int 0, .int 0, .int 0, .int 0, .int 0, .ref a6])), (a1, .inl (cs 0, 45783, .inl (layF (fun _ => 0) 1)))] H := hP
  have hD : va_D A [(a0, .inr (9, [.int 0, .ref a2, .int 0, .int 0, .int 0, .int 0, .int 0, .int (-1), .ref a1, .ref a3, .ref a4, .ref a5, .int 0, .int 0, .int 0, .int 0, .int 0, .ref a6])), (a1, .inl (cs 0, 45783, .inl (layF (fun _ => 0) 1)))] := hD
  refine W.widen (k := 0) (n := 0) (Nat.le_of_ble_eq_true rfl) (Nat.le_of_ble_eq_true rfl) ?_
  refine lv_istore_n (lv' := [(1, .int 0), (2, .int 11), (0, .ref a0)]) hx hb dX9_longestDelay_23 rfl hl (by decide) rfl (fun ls hl => ?_)
  refine lv_iinc (v := 12) (lv' := [(2, .int 12), (1, .int 0), (0, .ref a0)]) hx hb dX9_longestDelay_24 hl (k := 1) rfl (by decide) (by decide) rfl (fun ls hl => ?_)
  refine lv_goto (tgt := 4) hx hb dX9_longestDelay_27 (by decide) ?_
  refine lv_iload_n hx hb dX9_longestDelay_4 rfl (lv_at hl 0 rfl) ?_
  refine lv_bipush (v := 64) hx hb dX9_longestDelay_5 (by decide) ?_
  refine lv_icmp_ge (tgt := 30) hx hb dX9_longestDelay_7 (by decide) (fun c9 => absurd c9 (by decide)) (fun _ => ?_)
  refine lv_iload_n hx hb dX9_longestDelay_10 rfl (lv_at hl 1 rfl) ?_
  refine lv_aload_n hx hb dX9_longestDelay_11 rfl (lv_at hl 2 rfl) ?_
  refine va_get (D := D) (ci := 9) (v := .ref a1) (C := RX9) (T := TX9) (N := 18) hx hb hts iX9_longestDelay_9 hown hN.1 hP 0 rfl rfl 8 (by decide) (hts _ mX9_longestDelay_1) (fun _ h9 => h9) rfl dX9_longestDelay_12 ?_
  refine lv_bipush (v := 119) hx hb dX9_longestDelay_15 (by decide) ?_
  refine lv_iload_n hx hb dX9_longestDelay_17 rfl (lv_at hl 0 rfl) ?_
  refine lv_iadd hx hb dX9_longestDelay_18 ?_
  refine tp_i (131) (by decide) ?_
  refine ld_i (v := 0) hx hb hN hP 1 rfl (vin (by decide +kernel)) (by first | rfl | decide +kernel) dX9_longestDelay_19 ?_
  refine cs_i (As := [.int 0, .int 0]) (rest := []) (wr := [(a0, .inr (9, [.int 0, .ref a2, .int 0, .int 0, .int 0, .int 0, .int 0, .int (-1), .ref a1, .ref a3, .ref a4, .ref a5, .int 0, .int 0, .int 0, .int 0, .int 0, .ref a6])), (a1, .inl (cs 0, 45783, .inl (layF (fun _ => 0) 1)))]) ⟨hx, hb, hml, hown, hts⟩ (fun sz => k145_X9_max l D cs sz ) (va_cwS 2 hts gX9_longestDelay_X9_max rfl rfl rfl hdX9_max_o ⟨Nat.le_of_ble_eq_true rfl, Nat.le_of_ble_eq_true rfl⟩) hN hP hD hS hA [] [0, 1] rfl rfl rfl rfl (by decide) rfl rfl hl.1 (Nat.le_of_ble_eq_true rfl) dX9_longestDelay_20 (Nat.le_of_ble_eq_true rfl) (Nat.le_of_ble_eq_true rfl) (fun u12 H locs hP hD hS => ?_)
  have hP : va_P D vwCl [(a0, .inr (9, [.int 0, .ref a2, .int 0, .int 0, .int 0, .int 0, .int 0, .int (-1), .ref a1, .ref a3, .ref a4, .ref a5, .int 0, .int 0, .int 0, .int 0, .int 0, .ref a6])), (a1, .inl (cs 0, 45783, .inl (layF (fun _ => 0) 1)))] H := hP
  have hD : va_D A [(a0, .inr (9, [.int 0, .ref a2, .int 0, .int 0, .int 0, .int 0, .int 0, .int (-1), .ref a1, .ref a3, .ref a4, .ref a5, .int 0, .int 0, .int 0, .int 0, .int 0, .ref a6])), (a1, .inl (cs 0, 45783, .inl (layF (fun _ => 0) 1)))] := hD
  refine W.widen (k := 0) (n := 0) (Nat.le_of_ble_eq_true rfl) (Nat.le_of_ble_eq_true rfl) ?_
  refine lv_istore_n (lv' := [(1, .int 0), (2, .int 12), (0, .ref a0)]) hx hb dX9_longestDelay_23 rfl hl (by decide) rfl (fun ls hl => ?_)
  refine lv_iinc (v := 13) (lv' := [(2, .int 13), (1, .int 0), (0, .ref a0)]) hx hb dX9_longestDelay_24 hl (k := 1) rfl (by decide) (by decide) rfl (fun ls hl => ?_)
  refine lv_goto (tgt := 4) hx hb dX9_longestDelay_27 (by decide) ?_
  refine lv_iload_n hx hb dX9_longestDelay_4 rfl (lv_at hl 0 rfl) ?_
  refine lv_bipush (v := 64) hx hb dX9_longestDelay_5 (by decide) ?_
  refine lv_icmp_ge (tgt := 30) hx hb dX9_longestDelay_7 (by decide) (fun c9 => absurd c9 (by decide)) (fun _ => ?_)
  refine lv_iload_n hx hb dX9_longestDelay_10 rfl (lv_at hl 1 rfl) ?_
  refine lv_aload_n hx hb dX9_longestDelay_11 rfl (lv_at hl 2 rfl) ?_
  refine va_get (D := D) (ci := 9) (v := .ref a1) (C := RX9) (T := TX9) (N := 18) hx hb hts iX9_longestDelay_9 hown hN.1 hP 0 rfl rfl 8 (by decide) (hts _ mX9_longestDelay_1) (fun _ h9 => h9) rfl dX9_longestDelay_12 ?_
  refine lv_bipush (v := 119) hx hb dX9_longestDelay_15 (by decide) ?_
  refine lv_iload_n hx hb dX9_longestDelay_17 rfl (lv_at hl 0 rfl) ?_
  refine lv_iadd hx hb dX9_longestDelay_18 ?_
  refine tp_i (132) (by decide) ?_
  refine ld_i (v := 0) hx hb hN hP 1 rfl (vin (by decide +kernel)) (by first | rfl | decide +kernel) dX9_longestDelay_19 ?_
  refine cs_i (As := [.int 0, .int 0]) (rest := []) (wr := [(a0, .inr (9, [.int 0, .ref a2, .int 0, .int 0, .int 0, .int 0, .int 0, .int (-1), .ref a1, .ref a3, .ref a4, .ref a5, .int 0, .int 0, .int 0, .int 0, .int 0, .ref a6])), (a1, .inl (cs 0, 45783, .inl (layF (fun _ => 0) 1)))]) ⟨hx, hb, hml, hown, hts⟩ (fun sz => k145_X9_max l D cs sz ) (va_cwS 2 hts gX9_longestDelay_X9_max rfl rfl rfl hdX9_max_o ⟨Nat.le_of_ble_eq_true rfl, Nat.le_of_ble_eq_true rfl⟩) hN hP hD hS hA [] [0, 1] rfl rfl rfl rfl (by decide) rfl rfl hl.1 (Nat.le_of_ble_eq_true rfl) dX9_longestDelay_20 (Nat.le_of_ble_eq_true rfl) (Nat.le_of_ble_eq_true rfl) (fun u13 H locs hP hD hS => ?_)
  have hP : va_P D vwCl [(a0, .inr (9, [.int 0, .ref a2, .int 0, .int 0, .int 0, .int 0, .int 0, .int (-1), .ref a1, .ref a3, .ref a4, .ref a5, .int 0, .int 0, .int 0, .int 0, .int 0, .ref a6])), (a1, .inl (cs 0, 45783, .inl (layF (fun _ => 0) 1)))] H := hP
  have hD : va_D A [(a0, .inr (9, [.int 0, .ref a2, .int 0, .int 0, .int 0, .int 0, .int 0, .int (-1), .ref a1, .ref a3, .ref a4, .ref a5, .int 0, .int 0, .int 0, .int 0, .int 0, .ref a6])), (a1, .inl (cs 0, 45783, .inl (layF (fun _ => 0) 1)))] := hD
  refine W.widen (k := 0) (n := 0) (Nat.le_of_ble_eq_true rfl) (Nat.le_of_ble_eq_true rfl) ?_
  refine lv_istore_n (lv' := [(1, .int 0), (2, .int 13), (0, .ref a0)]) hx hb dX9_longestDelay_23 rfl hl (by decide) rfl (fun ls hl => ?_)
  refine lv_iinc (v := 14) (lv' := [(2, .int 14), (1, .int 0), (0, .ref a0)]) hx hb dX9_longestDelay_24 hl (k := 1) rfl (by decide) (by decide) rfl (fun ls hl => ?_)
  refine lv_goto (tgt := 4) hx hb dX9_longestDelay_27 (by decide) ?_
  refine lv_iload_n hx hb dX9_longestDelay_4 rfl (lv_at hl 0 rfl) ?_
  refine lv_bipush (v := 64) hx hb dX9_longestDelay_5 (by decide) ?_
  refine lv_icmp_ge (tgt := 30) hx hb dX9_longestDelay_7 (by decide) (fun c9 => absurd c9 (by decide)) (fun _ => ?_)
  refine lv_iload_n hx hb dX9_longestDelay_10 rfl (lv_at hl 1 rfl) ?_
  refine lv_aload_n hx hb dX9_longestDelay_11 rfl (lv_at hl 2 rfl) ?_
  refine va_get (D := D) (ci := 9) (v := .ref a1) (C := RX9) (T := TX9) (N := 18) hx hb hts iX9_longestDelay_9 hown hN.1 hP 0 rfl rfl 8 (by decide) (hts _ mX9_longestDelay_1) (fun _ h9 => h9) rfl dX9_longestDelay_12 ?_
  refine lv_bipush (v := 119) hx hb dX9_longestDelay_15 (by decide) ?_
  refine lv_iload_n hx hb dX9_longestDelay_17 rfl (lv_at hl 0 rfl) ?_
  refine lv_iadd hx hb dX9_longestDelay_18 ?_
  refine tp_i (133) (by decide) ?_
  refine ld_i (v := 0) hx hb hN hP 1 rfl (vin (by decide +kernel)) (by first | rfl | decide +kernel) dX9_longestDelay_19 ?_
  refine cs_i (As := [.int 0, .int 0]) (rest := []) (wr := [(a0, .inr (9, [.int 0, .ref a2, .int 0, .int 0, .int 0, .int 0, .int 0, .int (-1), .ref a1, .ref a3, .ref a4, .ref a5, .int 0, .int 0, .int 0, .int 0, .int 0, .ref a6])), (a1, .inl (cs 0, 45783, .inl (layF (fun _ => 0) 1)))]) ⟨hx, hb, hml, hown, hts⟩ (fun sz => k145_X9_max l D cs sz ) (va_cwS 2 hts gX9_longestDelay_X9_max rfl rfl rfl hdX9_max_o ⟨Nat.le_of_ble_eq_true rfl, Nat.le_of_ble_eq_true rfl⟩) hN hP hD hS hA [] [0, 1] rfl rfl rfl rfl (by decide) rfl rfl hl.1 (Nat.le_of_ble_eq_true rfl) dX9_longestDelay_20 (Nat.le_of_ble_eq_true rfl) (Nat.le_of_ble_eq_true rfl) (fun u14 H locs hP hD hS => ?_)
  have hP : va_P D vwCl [(a0, .inr (9, [.int 0, .ref a2, .int 0, .int 0, .int 0, .int 0, .int 0, .int (-1), .ref a1, .ref a3, .ref a4, .ref a5, .int 0, .int 0, .int 0, .int 0, .int 0, .ref a6])), (a1, .inl (cs 0, 45783, .inl (layF (fun _ => 0) 1)))] H := hP
  have hD : va_D A [(a0, .inr (9, [.int 0, .ref a2, .int 0, .int 0, .int 0, .int 0, .int 0, .int (-1), .ref a1, .ref a3, .ref a4, .ref a5, .int 0, .int 0, .int 0, .int 0, .int 0, .ref a6])), (a1, .inl (cs 0, 45783, .inl (layF (fun _ => 0) 1)))] := hD
  refine W.widen (k := 0) (n := 0) (Nat.le_of_ble_eq_true rfl) (Nat.le_of_ble_eq_true rfl) ?_
  refine lv_istore_n (lv' := [(1, .int 0), (2, .int 14), (0, .ref a0)]) hx hb dX9_longestDelay_23 rfl hl (by decide) rfl (fun ls hl => ?_)
  refine lv_iinc (v := 15) (lv' := [(2, .int 15), (1, .int 0), (0, .ref a0)]) hx hb dX9_longestDelay_24 hl (k := 1) rfl (by decide) (by decide) rfl (fun ls hl => ?_)
  refine lv_goto (tgt := 4) hx hb dX9_longestDelay_27 (by decide) ?_
  refine lv_iload_n hx hb dX9_longestDelay_4 rfl (lv_at hl 0 rfl) ?_
  refine lv_bipush (v := 64) hx hb dX9_longestDelay_5 (by decide) ?_
  refine lv_icmp_ge (tgt := 30) hx hb dX9_longestDelay_7 (by decide) (fun c9 => absurd c9 (by decide)) (fun _ => ?_)
  refine lv_iload_n hx hb dX9_longestDelay_10 rfl (lv_at hl 1 rfl) ?_
  refine lv_aload_n hx hb dX9_longestDelay_11 rfl (lv_at hl 2 rfl) ?_
  refine va_get (D := D) (ci := 9) (v := .ref a1) (C := RX9) (T := TX9) (N := 18) hx hb hts iX9_longestDelay_9 hown hN.1 hP 0 rfl rfl 8 (by decide) (hts _ mX9_longestDelay_1) (fun _ h9 => h9) rfl dX9_longestDelay_12 ?_
  refine lv_bipush (v := 119) hx hb dX9_longestDelay_15 (by decide) ?_
  refine lv_iload_n hx hb dX9_longestDelay_17 rfl (lv_at hl 0 rfl) ?_
  refine lv_iadd hx hb dX9_longestDelay_18 ?_
  refine tp_i (134) (by decide) ?_
  refine ld_i (v := 0) hx hb hN hP 1 rfl (vin (by decide +kernel)) (by first | rfl | decide +kernel) dX9_longestDelay_19 ?_
  refine cs_i (As := [.int 0, .int 0]) (rest := []) (wr := [(a0, .inr (9, [.int 0, .ref a2, .int 0, .int 0, .int 0, .int 0, .int 0, .int (-1), .ref a1, .ref a3, .ref a4, .ref a5, .int 0, .int 0, .int 0, .int 0, .int 0, .ref a6])), (a1, .inl (cs 0, 45783, .inl (layF (fun _ => 0) 1)))]) ⟨hx, hb, hml, hown, hts⟩ (fun sz => k145_X9_max l D cs sz ) (va_cwS 2 hts gX9_longestDelay_X9_max rfl rfl rfl hdX9_max_o ⟨Nat.le_of_ble_eq_true rfl, Nat.le_of_ble_eq_true rfl⟩) hN hP hD hS hA [] [0, 1] rfl rfl rfl rfl (by decide) rfl rfl hl.1 (Nat.le_of_ble_eq_true rfl) dX9_longestDelay_20 (Nat.le_of_ble_eq_true rfl) (Nat.le_of_ble_eq_true rfl) (fun u15 H locs hP hD hS => ?_)
  have hP : va_P D vwCl [(a0, .inr (9, [.int 0, .ref a2, .int 0, .int 0, .int 0, .int 0, .int 0, .int (-1), .ref a1, .ref a3, .ref a4, .ref a5, .int 0, .int 0, .int 0, .int 0, .int 0, .ref a6])), (a1, .inl (cs 0, 45783, .inl (layF (fun _ => 0) 1)))] H := hP
  have hD : va_D A [(a0, .inr (9, [.int 0, .ref a2, .int 0, .int 0, .int 0, .int 0, .int 0, .int (-1), .ref a1, .ref a3, .ref a4, .ref a5, .int 0, .int 0, .int 0, .int 0, .int 0, .ref a6])), (a1, .inl (cs 0, 45783, .inl (layF (fun _ => 0) 1)))] := hD
  refine W.widen (k := 0) (n := 0) (Nat.le_of_ble_eq_true rfl) (Nat.le_of_ble_eq_true rfl) ?_
  refine lv_istore_n (lv' := [(1, .int 0), (2, .int 15), (0, .ref a0)]) hx hb dX9_longestDelay_23 rfl hl (by decide) rfl (fun ls hl => ?_)
  refine lv_iinc (v := 16) (lv' := [(2, .int 16), (1, .int 0), (0, .ref a0)]) hx hb dX9_longestDelay_24 hl (k := 1) rfl (by decide) (by decide) rfl (fun ls hl => ?_)
  refine lv_goto (tgt := 4) hx hb dX9_longestDelay_27 (by decide) ?_
  refine lv_iload_n hx hb dX9_longestDelay_4 rfl (lv_at hl 0 rfl) ?_
  refine lv_bipush (v := 64) hx hb dX9_longestDelay_5 (by decide) ?_
  refine lv_icmp_ge (tgt := 30) hx hb dX9_longestDelay_7 (by decide) (fun c9 => absurd c9 (by decide)) (fun _ => ?_)
  refine lv_iload_n hx hb dX9_longestDelay_10 rfl (lv_at hl 1 rfl) ?_
  refine lv_aload_n hx hb dX9_longestDelay_11 rfl (lv_at hl 2 rfl) ?_
  refine va_get (D := D) (ci := 9) (v := .ref a1) (C := RX9) (T := TX9) (N := 18) hx hb hts iX9_longestDelay_9 hown hN.1 hP 0 rfl rfl 8 (by decide) (hts _ mX9_longestDelay_1) (fun _ h9 => h9) rfl dX9_longestDelay_12 ?_
  refine lv_bipush (v := 119) hx hb dX9_longestDelay_15 (by decide) ?_
  refine lv_iload_n hx hb dX9_longestDelay_17 rfl (lv_at hl 0 rfl) ?_
  refine lv_iadd hx hb dX9_longestDelay_18 ?_
  refine tp_i (135) (by decide) ?_
  refine ld_i (v := 0) hx hb hN hP 1 rfl (vin (by decide +kernel)) (by first | rfl | decide +kernel) dX9_longestDelay_19 ?_
  refine cs_i (As := [.int 0, .int 0]) (rest := []) (wr := [(a0, .inr (9, [.int 0, .ref a2, .int 0, .int 0, .int 0, .int 0, .int 0, .int (-1), .ref a1, .ref a3, .ref a4, .ref a5, .int 0, .int 0, .int 0, .int 0, .int 0, .ref a6])), (a1, .inl (cs 0, 45783, .inl (layF (fun _ => 0) 1)))]) ⟨hx, hb, hml, hown, hts⟩ (fun sz => k145_X9_max l D cs sz ) (va_cwS 2 hts gX9_longestDelay_X9_max rfl rfl rfl hdX9_max_o ⟨Nat.le_of_ble_eq_true rfl, Nat.le_of_ble_eq_true rfl⟩) hN hP hD hS hA [] [0, 1] rfl rfl rfl rfl (by decide) rfl rfl hl.1 (Nat.le_of_ble_eq_true rfl) dX9_longestDelay_20 (Nat.le_of_ble_eq_true rfl) (Nat.le_of_ble_eq_true rfl) (fun u16 H locs hP hD hS => ?_)
  have hP : va_P D vwCl [(a0, .inr (9, [.int 0, .ref a2, .int 0, .int 0, .int 0, .int 0, .int 0, .int (-1), .ref a1, .ref a3, .ref a4, .ref a5, .int 0, .int 0, .int 0, .int 0, .int 0, .ref a6])), (a1, .inl (cs 0, 45783, .inl (layF (fun _ => 0) 1)))] H := hP
  have hD : va_D A [(a0, .inr (9, [.int 0, .ref a2, .int 0, .int 0, .int 0, .int 0, .int 0, .int (-1), .ref a1, .ref a3, .ref a4, .ref a5, .int 0, .int 0, .int 0, .int 0, .int 0, .ref a6])), (a1, .inl (cs 0, 45783, .inl (layF (fun _ => 0) 1)))] := hD
  refine W.widen (k := 0) (n := 0) (Nat.le_of_ble_eq_true rfl) (Nat.le_of_ble_eq_true rfl) ?_
  refine lv_istore_n (lv' := [(1, .int 0), (2, .int 16), (0, .ref a0)]) hx hb dX9_longestDelay_23 rfl hl (by decide) rfl (fun ls hl => ?_)
  refine lv_iinc (v := 17) (lv' := [(2, .int 17), (1, .int 0), (0, .ref a0)]) hx hb dX9_longestDelay_24 hl (k := 1) rfl (by decide) (by decide) rfl (fun ls hl => ?_)
  refine lv_goto (tgt := 4) hx hb dX9_longestDelay_27 (by decide) ?_
  refine lv_iload_n hx hb dX9_longestDelay_4 rfl (lv_at hl 0 rfl) ?_
  refine lv_bipush (v := 64) hx hb dX9_longestDelay_5 (by decide) ?_
  refine lv_icmp_ge (tgt := 30) hx hb dX9_longestDelay_7 (by decide) (fun c9 => absurd c9 (by decide)) (fun _ => ?_)
  refine lv_iload_n hx hb dX9_longestDelay_10 rfl (lv_at hl 1 rfl) ?_
  refine lv_aload_n hx hb dX9_longestDelay_11 rfl (lv_at hl 2 rfl) ?_
  refine va_get (D := D) (ci := 9) (v := .ref a1) (C := RX9) (T := TX9) (N := 18) hx hb hts iX9_longestDelay_9 hown hN.1 hP 0 rfl rfl 8 (by decide) (hts _ mX9_longestDelay_1) (fun _ h9 => h9) rfl dX9_longestDelay_12 ?_
  refine lv_bipush (v := 119) hx hb dX9_longestDelay_15 (by decide) ?_
  refine lv_iload_n hx hb dX9_longestDelay_17 rfl (lv_at hl 0 rfl) ?_
  refine lv_iadd hx hb dX9_longestDelay_18 ?_
  refine tp_i (136) (by decide) ?_
  refine ld_i (v := 0) hx hb hN hP 1 rfl (vin (by decide +kernel)) (by first | rfl | decide +kernel) dX9_longestDelay_19 ?_
  refine cs_i (As := [.int 0, .int 0]) (rest := []) (wr := [(a0, .inr (9, [.int 0, .ref a2, .int 0, .int 0, .int 0, .int 0, .int 0, .int (-1), .ref a1, .ref a3, .ref a4, .ref a5, .int 0, .int 0, .int 0, .int 0, .int 0, .ref a6])), (a1, .inl (cs 0, 45783, .inl (layF (fun _ => 0) 1)))]) ⟨hx, hb, hml, hown, hts⟩ (fun sz => k145_X9_max l D cs sz ) (va_cwS 2 hts gX9_longestDelay_X9_max rfl rfl rfl hdX9_max_o ⟨Nat.le_of_ble_eq_true rfl, Nat.le_of_ble_eq_true rfl⟩) hN hP hD hS hA [] [0, 1] rfl rfl rfl rfl (by decide) rfl rfl hl.1 (Nat.le_of_ble_eq_true rfl) dX9_longestDelay_20 (Nat.le_of_ble_eq_true rfl) (Nat.le_of_ble_eq_true rfl) (fun u17 H locs hP hD hS => ?_)
  have hP : va_P D vwCl [(a0, .inr (9, [.int 0, .ref a2, .int 0, .int 0, .int 0, .int 0, .int 0, .int (-1), .ref a1, .ref a3, .ref a4, .ref a5, .int 0, .int 0, .int 0, .int 0, .int 0, .ref a6])), (a1, .inl (cs 0, 45783, .inl (layF (fun _ => 0) 1)))] H := hP
  have hD : va_D A [(a0, .inr (9, [.int 0, .ref a2, .int 0, .int 0, .int 0, .int 0, .int 0, .int (-1), .ref a1, .ref a3, .ref a4, .ref a5, .int 0, .int 0, .int 0, .int 0, .int 0, .ref a6])), (a1, .inl (cs 0, 45783, .inl (layF (fun _ => 0) 1)))] := hD
  refine W.widen (k := 0) (n := 0) (Nat.le_of_ble_eq_true rfl) (Nat.le_of_ble_eq_true rfl) ?_
  refine lv_istore_n (lv' := [(1, .int 0), (2, .int 17), (0, .ref a0)]) hx hb dX9_longestDelay_23 rfl hl (by decide) rfl (fun ls hl => ?_)
  refine lv_iinc (v := 18) (lv' := [(2, .int 18), (1, .int 0), (0, .ref a0)]) hx hb dX9_longestDelay_24 hl (k := 1) rfl (by decide) (by decide) rfl (fun ls hl => ?_)
  refine lv_goto (tgt := 4) hx hb dX9_longestDelay_27 (by decide) ?_
  refine lv_iload_n hx hb dX9_longestDelay_4 rfl (lv_at hl 0 rfl) ?_
  refine lv_bipush (v := 64) hx hb dX9_longestDelay_5 (by decide) ?_
  refine lv_icmp_ge (tgt := 30) hx hb dX9_longestDelay_7 (by decide) (fun c9 => absurd c9 (by decide)) (fun _ => ?_)
  refine lv_iload_n hx hb dX9_longestDelay_10 rfl (lv_at hl 1 rfl) ?_
  refine lv_aload_n hx hb dX9_longestDelay_11 rfl (lv_at hl 2 rfl) ?_
  refine va_get (D := D) (ci := 9) (v := .ref a1) (C := RX9) (T := TX9) (N := 18) hx hb hts iX9_longestDelay_9 hown hN.1 hP 0 rfl rfl 8 (by decide) (hts _ mX9_longestDelay_1) (fun _ h9 => h9) rfl dX9_longestDelay_12 ?_
  refine lv_bipush (v := 119) hx hb dX9_longestDelay_15 (by decide) ?_
  refine lv_iload_n hx hb dX9_longestDelay_17 rfl (lv_at hl 0 rfl) ?_
  refine lv_iadd hx hb dX9_longestDelay_18 ?_
  refine tp_i (137) (by decide) ?_
  refine ld_i (v := 0) hx hb hN hP 1 rfl (vin (by decide +kernel)) (by first | rfl | decide +kernel) dX9_longestDelay_19 ?_
  refine cs_i (As := [.int 0, .int 0]) (rest := []) (wr := [(a0, .inr (9, [.int 0, .ref a2, .int 0, .int 0, .int 0, .int 0, .int 0, .int (-1), .ref a1, .ref a3, .ref a4, .ref a5, .int 0, .int 0, .int 0, .int 0, .int 0, .ref a6])), (a1, .inl (cs 0, 45783, .inl (layF (fun _ => 0) 1)))]) ⟨hx, hb, hml, hown, hts⟩ (fun sz => k145_X9_max l D cs sz ) (va_cwS 2 hts gX9_longestDelay_X9_max rfl rfl rfl hdX9_max_o ⟨Nat.le_of_ble_eq_true rfl, Nat.le_of_ble_eq_true rfl⟩) hN hP hD hS hA [] [0, 1] rfl rfl rfl rfl (by decide) rfl rfl hl.1 (Nat.le_of_ble_eq_true rfl) dX9_longestDelay_20 (Nat.le_of_ble_eq_true rfl) (Nat.le_of_ble_eq_true rfl) (fun u18 H locs hP hD hS => ?_)
  have hP : va_P D vwCl [(a0, .inr (9, [.int 0, .ref a2, .int 0, .int 0, .int 0, .int 0, .int 0, .int (-1), .ref a1, .ref a3, .ref a4, .ref a5, .int 0, .int 0, .int 0, .int 0, .int 0, .ref a6])), (a1, .inl (cs 0, 45783, .inl (layF (fun _ => 0) 1)))] H := hP
  have hD : va_D A [(a0, .inr (9, [.int 0, .ref a2, .int 0, .int 0, .int 0, .int 0, .int 0, .int (-1), .ref a1, .ref a3, .ref a4, .ref a5, .int 0, .int 0, .int 0, .int 0, .int 0, .ref a6])), (a1, .inl (cs 0, 45783, .inl (layF (fun _ => 0) 1)))] := hD
  refine W.widen (k := 0) (n := 0) (Nat.le_of_ble_eq_true rfl) (Nat.le_of_ble_eq_true rfl) ?_
  refine lv_istore_n (lv' := [(1, .int 0), (2, .int 18), (0, .ref a0)]) hx hb dX9_longestDelay_23 rfl hl (by decide) rfl (fun ls hl => ?_)
  refine lv_iinc (v := 19) (lv' := [(2, .int 19), (1, .int 0), (0, .ref a0)]) hx hb dX9_longestDelay_24 hl (k := 1) rfl (by decide) (by decide) rfl (fun ls hl => ?_)
  refine lv_goto (tgt := 4) hx hb dX9_longestDelay_27 (by decide) ?_
  refine lv_iload_n hx hb dX9_longestDelay_4 rfl (lv_at hl 0 rfl) ?_
  refine lv_bipush (v := 64) hx hb dX9_longestDelay_5 (by decide) ?_
  refine lv_icmp_ge (tgt := 30) hx hb dX9_longestDelay_7 (by decide) (fun c9 => absurd c9 (by decide)) (fun _ => ?_)
  refine lv_iload_n hx hb dX9_longestDelay_10 rfl (lv_at hl 1 rfl) ?_
  refine lv_aload_n hx hb dX9_longestDelay_11 rfl (lv_at hl 2 rfl) ?_
  refine va_get (D := D) (ci := 9) (v := .ref a1) (C := RX9) (T := TX9) (N := 18) hx hb hts iX9_longestDelay_9 hown hN.1 hP 0 rfl rfl 8 (by decide) (hts _ mX9_longestDelay_1) (fun _ h9 => h9) rfl dX9_longestDelay_12 ?_
  refine lv_bipush (v := 119) hx hb dX9_longestDelay_15 (by decide) ?_
  refine lv_iload_n hx hb dX9_longestDelay_17 rfl (lv_at hl 0 rfl) ?_
  refine lv_iadd hx hb dX9_longestDelay_18 ?_
  refine tp_i (138) (by decide) ?_
  refine ld_i (v := 0) hx hb hN hP 1 rfl (vin (by decide +kernel)) (by first | rfl | decide +kernel) dX9_longestDelay_19 ?_
  refine cs_i (As := [.int 0, .int 0]) (rest := []) (wr := [(a0, .inr (9, [.int 0, .ref a2, .int 0, .int 0, .int 0, .int 0, .int 0, .int (-1), .ref a1, .ref a3, .ref a4, .ref a5, .int 0, .int 0, .int 0, .int 0, .int 0, .ref a6])), (a1, .inl (cs 0, 45783, .inl (layF (fun _ => 0) 1)))]) ⟨hx, hb, hml, hown, hts⟩ (fun sz => k145_X9_max l D cs sz ) (va_cwS 2 hts gX9_longestDelay_X9_max rfl rfl rfl hdX9_max_o ⟨Nat.le_of_ble_eq_true rfl, Nat.le_of_ble_eq_true rfl⟩) hN hP hD hS hA [] [0, 1] rfl rfl rfl rfl (by decide) rfl rfl hl.1 (Nat.le_of_ble_eq_true rfl) dX9_longestDelay_20 (Nat.le_of_ble_eq_true rfl) (Nat.le_of_ble_eq_true rfl) (fun u19 H locs hP hD hS => ?_)
  have hP : va_P D vwCl [(a0, .inr (9, [.int 0, .ref a2, .int 0, .int 0, .int 0, .int 0, .int 0, .int (-1), .ref a1, .ref a3, .ref a4, .ref a5, .int 0, .int 0, .int 0, .int 0, .int 0, .ref a6])), (a1, .inl (cs 0, 45783, .inl (layF (fun _ => 0) 1)))] H := hP
  have hD : va_D A [(a0, .inr (9, [.int 0, .ref a2, .int 0, .int 0, .int 0, .int 0, .int 0, .int (-1), .ref a1, .ref a3, .ref a4, .ref a5, .int 0, .int 0, .int 0, .int 0, .int 0, .ref a6])), (a1, .inl (cs 0, 45783, .inl (layF (fun _ => 0) 1)))] := hD
  refine W.widen (k := 0) (n := 0) (Nat.le_of_ble_eq_true rfl) (Nat.le_of_ble_eq_true rfl) ?_
  refine lv_istore_n (lv' := [(1, .int 0), (2, .int 19), (0, .ref a0)]) hx hb dX9_longestDelay_23 rfl hl (by decide) rfl (fun ls hl => ?_)
  refine lv_iinc (v := 20) (lv' := [(2, .int 20), (1, .int 0), (0, .ref a0)]) hx hb dX9_longestDelay_24 hl (k := 1) rfl (by decide) (by decide) rfl (fun ls hl => ?_)
  refine lv_goto (tgt := 4) hx hb dX9_longestDelay_27 (by decide) ?_
  refine lv_iload_n hx hb dX9_longestDelay_4 rfl (lv_at hl 0 rfl) ?_
  refine lv_bipush (v := 64) hx hb dX9_longestDelay_5 (by decide) ?_
  refine lv_icmp_ge (tgt := 30) hx hb dX9_longestDelay_7 (by decide) (fun c9 => absurd c9 (by decide)) (fun _ => ?_)
  refine lv_iload_n hx hb dX9_longestDelay_10 rfl (lv_at hl 1 rfl) ?_
  refine lv_aload_n hx hb dX9_longestDelay_11 rfl (lv_at hl 2 rfl) ?_
  refine va_get (D := D) (ci := 9) (v := .ref a1) (C := RX9) (T := TX9) (N := 18) hx hb hts iX9_longestDelay_9 hown hN.1 hP 0 rfl rfl 8 (by decide) (hts _ mX9_longestDelay_1) (fun _ h9 => h9) rfl dX9_longestDelay_12 ?_
  refine lv_bipush (v := 119) hx hb dX9_longestDelay_15 (by decide) ?_
  refine lv_iload_n hx hb dX9_longestDelay_17 rfl (lv_at hl 0 rfl) ?_
  refine lv_iadd hx hb dX9_longestDelay_18 ?_
  refine tp_i (139) (by decide) ?_
  refine ld_i (v := 0) hx hb hN hP 1 rfl (vin (by decide +kernel)) (by first | rfl | decide +kernel) dX9_longestDelay_19 ?_
  refine cs_i (As := [.int 0, .int 0]) (rest := []) (wr := [(a0, .inr (9, [.int 0, .ref a2, .int 0, .int 0, .int 0, .int 0, .int 0, .int (-1), .ref a1, .ref a3, .ref a4, .ref a5, .int 0, .int 0, .int 0, .int 0, .int 0, .ref a6])), (a1, .inl (cs 0, 45783, .inl (layF (fun _ => 0) 1)))]) ⟨hx, hb, hml, hown, hts⟩ (fun sz => k145_X9_max l D cs sz ) (va_cwS 2 hts gX9_longestDelay_X9_max rfl rfl rfl hdX9_max_o ⟨Nat.le_of_ble_eq_true rfl, Nat.le_of_ble_eq_true rfl⟩) hN hP hD hS hA [] [0, 1] rfl rfl rfl rfl (by decide) rfl rfl hl.1 (Nat.le_of_ble_eq_true rfl) dX9_longestDelay_20 (Nat.le_of_ble_eq_true rfl) (Nat.le_of_ble_eq_true rfl) (fun u20 H locs hP hD hS => ?_)
  have hP : va_P D vwCl [(a0, .inr (9, [.int 0, .ref a2, .int 0, .int 0, .int 0, .int 0, .int 0, .int (-1), .ref a1, .ref a3, .ref a4, .ref a5, .int 0, .int 0, .int 0, .int 0, .int 0, .ref a6])), (a1, .inl (cs 0, 45783, .inl (layF (fun _ => 0) 1)))] H := hP
  have hD : va_D A [(a0, .inr (9, [.int 0, .ref a2, .int 0, .int 0, .int 0, .int 0, .int 0, .int (-1), .ref a1, .ref a3, .ref a4, .ref a5, .int 0, .int 0, .int 0, .int 0, .int 0, .ref a6])), (a1, .inl (cs 0, 45783, .inl (layF (fun _ => 0) 1)))] := hD
  refine W.widen (k := 0) (n := 0) (Nat.le_of_ble_eq_true rfl) (Nat.le_of_ble_eq_true rfl) ?_
  refine lv_istore_n (lv' := [(1, .int 0), (2, .int 20), (0, .ref a0)]) hx hb dX9_longestDelay_23 rfl hl (by decide) rfl (fun ls hl => ?_)
  refine lv_iinc (v := 21) (lv' := [(2, .int 21), (1, .int 0), (0, .ref a0)]) hx hb dX9_longestDelay_24 hl (k := 1) rfl (by decide) (by decide) rfl (fun ls hl => ?_)
  refine lv_goto (tgt := 4) hx hb dX9_longestDelay_27 (by decide) ?_
  refine lv_iload_n hx hb dX9_longestDelay_4 rfl (lv_at hl 0 rfl) ?_
  refine lv_bipush (v := 64) hx hb dX9_longestDelay_5 (by decide) ?_
  refine lv_icmp_ge (tgt := 30) hx hb dX9_longestDelay_7 (by decide) (fun c9 => absurd c9 (by decide)) (fun _ => ?_)
  refine lv_iload_n hx hb dX9_longestDelay_10 rfl (lv_at hl 1 rfl) ?_
  refine lv_aload_n hx hb dX9_longestDelay_11 rfl (lv_at hl 2 rfl) ?_
  refine va_get (D := D) (ci := 9) (v := .ref a1) (C := RX9) (T := TX9) (N := 18) hx hb hts iX9_longestDelay_9 hown hN.1 hP 0 rfl rfl 8 (by decide) (hts _ mX9_longestDelay_1) (fun _ h9 => h9) rfl dX9_longestDelay_12 ?_
  refine lv_bipush (v := 119) hx hb dX9_longestDelay_15 (by decide) ?_
  refine lv_iload_n hx hb dX9_longestDelay_17 rfl (lv_at hl 0 rfl) ?_
  refine lv_iadd hx hb dX9_longestDelay_18 ?_
  refine tp_i (140) (by decide) ?_
  refine ld_i (v := 0) hx hb hN hP 1 rfl (vin (by decide +kernel)) (by first | rfl | decide +kernel) dX9_longestDelay_19 ?_
  refine cs_i (As := [.int 0, .int 0]) (rest := []) (wr := [(a0, .inr (9, [.int 0, .ref a2, .int 0, .int 0, .int 0, .int 0, .int 0, .int (-1), .ref a1, .ref a3, .ref a4, .ref a5, .int 0, .int 0, .int 0, .int 0, .int 0, .ref a6])), (a1, .inl (cs 0, 45783, .inl (layF (fun _ => 0) 1)))]) ⟨hx, hb, hml, hown, hts⟩ (fun sz => k145_X9_max l D cs sz ) (va_cwS 2 hts gX9_longestDelay_X9_max rfl rfl rfl hdX9_max_o ⟨Nat.le_of_ble_eq_true rfl, Nat.le_of_ble_eq_true rfl⟩) hN hP hD hS hA [] [0, 1] rfl rfl rfl rfl (by decide) rfl rfl hl.1 (Nat.le_of_ble_eq_true rfl) dX9_longestDelay_20 (Nat.le_of_ble_eq_true rfl) (Nat.le_of_ble_eq_true rfl) (fun u21 H locs hP hD hS => ?_)
  have hP : va_P D vwCl [(a0, .inr (9, [.int 0, .ref a2, .int 0, .int 0, .int 0, .int 0, .int 0, .int (-1), .ref a1, .ref a3, .ref a4, .ref a5, .int 0, .int 0, .int 0, .int 0, .int 0, .ref a6])), (a1, .inl (cs 0, 45783, .inl (layF (fun _ => 0) 1)))] H := hP
  have hD : va_D A [(a0, .inr (9, [.int 0, .ref a2, .int 0, .int 0, .int 0, .int 0, .int 0, .int (-1), .ref a1, .ref a3, .ref a4, .ref a5, .int 0, .int 0, .int 0, .int 0, .int 0, .ref a6])), (a1, .inl (cs 0, 45783, .inl (layF (fun _ => 0) 1)))] := hD
  refine W.widen (k := 0) (n := 0) (Nat.le_of_ble_eq_true rfl) (Nat.le_of_ble_eq_true rfl) ?_
  refine lv_istore_n (lv' := [(1, .int 0), (2, .int 21), (0, .ref a0)]) hx hb dX9_longestDelay_23 rfl hl (by decide) rfl (fun ls hl => ?_)
  refine lv_iinc (v := 22) (lv' := [(2, .int 22), (1, .int 0), (0, .ref a0)]) hx hb dX9_longestDelay_24 hl (k := 1) rfl (by decide) (by decide) rfl (fun ls hl => ?_)
  refine lv_goto (tgt := 4) hx hb dX9_longestDelay_27 (by decide) ?_
  refine lv_iload_n hx hb dX9_longestDelay_4 rfl (lv_at hl 0 rfl) ?_
  refine lv_bipush (v := 64) hx hb dX9_longestDelay_5 (by decide) ?_
  refine lv_icmp_ge (tgt := 30) hx hb dX9_longestDelay_7 (by decide) (fun c9 => absurd c9 (by decide)) (fun _ => ?_)
  refine lv_iload_n hx hb dX9_longestDelay_10 rfl (lv_at hl 1 rfl) ?_
  refine lv_aload_n hx hb dX9_longestDelay_11 rfl (lv_at hl 2 rfl) ?_
  refine va_get (D := D) (ci := 9) (v := .ref a1) (C := RX9) (T := TX9) (N := 18) hx hb hts iX9_longestDelay_9 hown hN.1 hP 0 rfl rfl 8 (by decide) (hts _ mX9_longestDelay_1) (fun _ h9 => h9) rfl dX9_longestDelay_12 ?_
  refine lv_bipush (v := 119) hx hb dX9_longestDelay_15 (by decide) ?_
  refine lv_iload_n hx hb dX9_longestDelay_17 rfl (lv_at hl 0 rfl) ?_
  refine lv_iadd hx hb dX9_longestDelay_18 ?_
  refine tp_i (141) (by decide) ?_
  refine ld_i (v := 0) hx hb hN hP 1 rfl (vin (by decide +kernel)) (by first | rfl | decide +kernel) dX9_longestDelay_19 ?_
  refine cs_i (As := [.int 0, .int 0]) (rest := []) (wr := [(a0, .inr (9, [.int 0, .ref a2, .int 0, .int 0, .int 0, .int 0, .int 0, .int (-1), .ref a1, .ref a3, .ref a4, .ref a5, .int 0, .int 0, .int 0, .int 0, .int 0, .ref a6])), (a1, .inl (cs 0, 45783, .inl (layF (fun _ => 0) 1)))]) ⟨hx, hb, hml, hown, hts⟩ (fun sz => k145_X9_max l D cs sz ) (va_cwS 2 hts gX9_longestDelay_X9_max rfl rfl rfl hdX9_max_o ⟨Nat.le_of_ble_eq_true rfl, Nat.le_of_ble_eq_true rfl⟩) hN hP hD hS hA [] [0, 1] rfl rfl rfl rfl (by decide) rfl rfl hl.1 (Nat.le_of_ble_eq_true rfl) dX9_longestDelay_20 (Nat.le_of_ble_eq_true rfl) (Nat.le_of_ble_eq_true rfl) (fun u22 H locs hP hD hS => ?_)
  have hP : va_P D vwCl [(a0, .inr (9, [.int 0, .ref a2, .int 0, .int 0, .int 0, .int 0, .int 0, .int (-1), .ref a1, .ref a3, .ref a4, .ref a5, .int 0, .int 0, .int 0, .int 0, .int 0, .ref a6])), (a1, .inl (cs 0, 45783, .inl (layF (fun _ => 0) 1)))] H := hP
  have hD : va_D A [(a0, .inr (9, [.int 0, .ref a2, .int 0, .int 0, .int 0, .int 0, .int 0, .int (-1), .ref a1, .ref a3, .ref a4, .ref a5, .int 0, .int 0, .int 0, .int 0, .int 0, .ref a6])), (a1, .inl (cs 0, 45783, .inl (layF (fun _ => 0) 1)))] := hD
  refine W.widen (k := 0) (n := 0) (Nat.le_of_ble_eq_true rfl) (Nat.le_of_ble_eq_true rfl) ?_
  refine lv_istore_n (lv' := [(1, .int 0), (2, .int 22), (0, .ref a0)]) hx hb dX9_longestDelay_23 rfl hl (by decide) rfl (fun ls hl => ?_)
  refine lv_iinc (v := 23) (lv' := [(2, .int 23), (1, .int 0), (0, .ref a0)]) hx hb dX9_longestDelay_24 hl (k := 1) rfl (by decide) (by decide) rfl (fun ls hl => ?_)
  refine lv_goto (tgt := 4) hx hb dX9_longestDelay_27 (by decide) ?_
  refine lv_iload_n hx hb dX9_longestDelay_4 rfl (lv_at hl 0 rfl) ?_
  refine lv_bipush (v := 64) hx hb dX9_longestDelay_5 (by decide) ?_
  refine lv_icmp_ge (tgt := 30) hx hb dX9_longestDelay_7 (by decide) (fun c9 => absurd c9 (by decide)) (fun _ => ?_)
  refine lv_iload_n hx hb dX9_longestDelay_10 rfl (lv_at hl 1 rfl) ?_
  refine lv_aload_n hx hb dX9_longestDelay_11 rfl (lv_at hl 2 rfl) ?_
  refine va_get (D := D) (ci := 9) (v := .ref a1) (C := RX9) (T := TX9) (N := 18) hx hb hts iX9_longestDelay_9 hown hN.1 hP 0 rfl rfl 8 (by decide) (hts _ mX9_longestDelay_1) (fun _ h9 => h9) rfl dX9_longestDelay_12 ?_
  refine lv_bipush (v := 119) hx hb dX9_longestDelay_15 (by decide) ?_
  refine lv_iload_n hx hb dX9_longestDelay_17 rfl (lv_at hl 0 rfl) ?_
  refine lv_iadd hx hb dX9_longestDelay_18 ?_
  refine tp_i (142) (by decide) ?_
  refine ld_i (v := 0) hx hb hN hP 1 rfl (vin (by decide +kernel)) (by first | rfl | decide +kernel) dX9_longestDelay_19 ?_
  refine cs_i (As := [.int 0, .int 0]) (rest := []) (wr := [(a0, .inr (9, [.int 0, .ref a2, .int 0, .int 0, .int 0, .int 0, .int 0, .int (-1), .ref a1, .ref a3, .ref a4, .ref a5, .int 0, .int 0, .int 0, .int 0, .int 0, .ref a6])), (a1, .inl (cs 0, 45783, .inl (layF (fun _ => 0) 1)))]) ⟨hx, hb, hml, hown, hts⟩ (fun sz => k145_X9_max l D cs sz ) (va_cwS 2 hts gX9_longestDelay_X9_max rfl rfl rfl hdX9_max_o ⟨Nat.le_of_ble_eq_true rfl, Nat.le_of_ble_eq_true rfl⟩) hN hP hD hS hA [] [0, 1] rfl rfl rfl rfl (by decide) rfl rfl hl.1 (Nat.le_of_ble_eq_true rfl) dX9_longestDelay_20 (Nat.le_of_ble_eq_true rfl) (Nat.le_of_ble_eq_true rfl) (fun u23 H locs hP hD hS => ?_)
  have hP : va_P D vwCl [(a0, .inr (9, [.int 0, .ref a2, .int 0, .int 0, .int 0, .int 0, .int 0, .int (-1), .ref a1, .ref a3, .ref a4, .ref a5, .int 0, .int 0, .int 0, .int 0, .int 0, .ref a6])), (a1, .inl (cs 0, 45783, .inl (layF (fun _ => 0) 1)))] H := hP
  have hD : va_D A [(a0, .inr (9, [.int 0, .ref a2, .int 0, .int 0, .int 0, .int 0, .int 0, .int (-1), .ref a1, .ref a3, .ref a4, .ref a5, .int 0, .int 0, .int 0, .int 0, .int 0, .ref a6])), (a1, .inl (cs 0, 45783, .inl (layF (fun _ => 0) 1)))] := hD
  refine W.widen (k := 0) (n := 0) (Nat.le_of_ble_eq_true rfl) (Nat.le_of_ble_eq_true rfl) ?_
  refine lv_istore_n (lv' := [(1, .int 0), (2, .int 23), (0, .ref a0)]) hx hb dX9_longestDelay_23 rfl hl (by decide) rfl (fun ls hl => ?_)
  refine lv_iinc (v := 24) (lv' := [(2, .int 24), (1, .int 0), (0, .ref a0)]) hx hb dX9_longestDelay_24 hl (k := 1) rfl (by decide) (by decide) rfl (fun ls hl => ?_)
  refine lv_goto (tgt := 4) hx hb dX9_longestDelay_27 (by decide) ?_
  refine lv_iload_n hx hb dX9_longestDelay_4 rfl (lv_at hl 0 rfl) ?_
  refine lv_bipush (v := 64) hx hb dX9_longestDelay_5 (by decide) ?_
  refine lv_icmp_ge (tgt := 30) hx hb dX9_longestDelay_7 (by decide) (fun c9 => absurd c9 (by decide)) (fun _ => ?_)
  refine lv_iload_n hx hb dX9_longestDelay_10 rfl (lv_at hl 1 rfl) ?_
  refine lv_aload_n hx hb dX9_longestDelay_11 rfl (lv_at hl 2 rfl) ?_
  refine va_get (D := D) (ci := 9) (v := .ref a1) (C := RX9) (T := TX9) (N := 18) hx hb hts iX9_longestDelay_9 hown hN.1 hP 0 rfl rfl 8 (by decide) (hts _ mX9_longestDelay_1) (fun _ h9 => h9) rfl dX9_longestDelay_12 ?_
  refine lv_bipush (v := 119) hx hb dX9_longestDelay_15 (by decide) ?_
  refine lv_iload_n hx hb dX9_longestDelay_17 rfl (lv_at hl 0 rfl) ?_
  refine lv_iadd hx hb dX9_longestDelay_18 ?_
  refine tp_i (143) (by decide) ?_
  refine ld_i (v := 0) hx hb hN hP 1 rfl (vin (by decide +kernel)) (by first | rfl | decide +kernel) dX9_longestDelay_19 ?_
  refine cs_i (As := [.int 0, .int 0]) (rest := []) (wr := [(a0, .inr (9, [.int 0, .ref a2, .int 0, .int 0, .int 0, .int 0, .int 0, .int (-1), .ref a1, .ref a3, .ref a4, .ref a5, .int 0, .int 0, .int 0, .int 0, .int 0, .ref a6])), (a1, .inl (cs 0, 45783, .inl (layF (fun _ => 0) 1)))]) ⟨hx, hb, hml, hown, hts⟩ (fun sz => k145_X9_max l D cs sz ) (va_cwS 2 hts gX9_longestDelay_X9_max rfl rfl rfl hdX9_max_o ⟨Nat.le_of_ble_eq_true rfl, Nat.le_of_ble_eq_true rfl⟩) hN hP hD hS hA [] [0, 1] rfl rfl rfl rfl (by decide) rfl rfl hl.1 (Nat.le_of_ble_eq_true rfl) dX9_longestDelay_20 (Nat.le_of_ble_eq_true rfl) (Nat.le_of_ble_eq_true rfl) (fun u24 H locs hP hD hS => ?_)
  have hP : va_P D vwCl [(a0, .inr (9, [.int 0, .ref a2, .int 0, .int 0, .int 0, .int 0, .int 0, .int (-1), .ref a1, .ref a3, .ref a4, .ref a5, .int 0, .int 0, .int 0, .int 0, .int 0, .ref a6])), (a1, .inl (cs 0, 45783, .inl (layF (fun _ => 0) 1)))] H := hP
  have hD : va_D A [(a0, .inr (9, [.int 0, .ref a2, .int 0, .int 0, .int 0, .int 0, .int 0, .int (-1), .ref a1, .ref a3, .ref a4, .ref a5, .int 0, .int 0, .int 0, .int 0, .int 0, .ref a6])), (a1, .inl (cs 0, 45783, .inl (layF (fun _ => 0) 1)))] := hD
  refine W.widen (k := 0) (n := 0) (Nat.le_of_ble_eq_true rfl) (Nat.le_of_ble_eq_true rfl) ?_
  refine lv_istore_n (lv' := [(1, .int 0), (2, .int 24), (0, .ref a0)]) hx hb dX9_longestDelay_23 rfl hl (by decide) rfl (fun ls hl => ?_)
  refine lv_iinc (v := 25) (lv' := [(2, .int 25), (1, .int 0), (0, .ref a0)]) hx hb dX9_longestDelay_24 hl (k := 1) rfl (by decide) (by decide) rfl (fun ls hl => ?_)
  refine lv_goto (tgt := 4) hx hb dX9_longestDelay_27 (by decide) ?_
  refine lv_iload_n hx hb dX9_longestDelay_4 rfl (lv_at hl 0 rfl) ?_
  refine lv_bipush (v := 64) hx hb dX9_longestDelay_5 (by decide) ?_
  refine lv_icmp_ge (tgt := 30) hx hb dX9_longestDelay_7 (by decide) (fun c9 => absurd c9 (by decide)) (fun _ => ?_)
  refine lv_iload_n hx hb dX9_longestDelay_10 rfl (lv_at hl 1 rfl) ?_
  refine lv_aload_n hx hb dX9_longestDelay_11 rfl (lv_at hl 2 rfl) ?_
  refine va_get (D := D) (ci := 9) (v := .ref a1) (C := RX9) (T := TX9) (N := 18) hx hb hts iX9_longestDelay_9 hown hN.1 hP 0 rfl rfl 8 (by decide) (hts _ mX9_longestDelay_1) (fun _ h9 => h9) rfl dX9_longestDelay_12 ?_
  refine lv_bipush (v := 119) hx hb dX9_longestDelay_15 (by decide) ?_
  refine lv_iload_n hx hb dX9_longestDelay_17 rfl (lv_at hl 0 rfl) ?_
  refine lv_iadd hx hb dX9_longestDelay_18 ?_
  refine tp_i (144) (by decide) ?_
  refine ld_i (v := 0) hx hb hN hP 1 rfl (vin (by decide +kernel)) (by first | rfl | decide +kernel) dX9_longestDelay_19 ?_
  refine cs_i (As := [.int 0, .int 0]) (rest := []) (wr := [(a0, .inr (9, [.int 0, .ref a2, .int 0, .int 0, .int 0, .int 0, .int 0, .int (-1), .ref a1, .ref a3, .ref a4, .ref a5, .int 0, .int 0, .int 0, .int 0, .int 0, .ref a6])), (a1, .inl (cs 0, 45783, .inl (layF (fun _ => 0) 1)))]) ⟨hx, hb, hml, hown, hts⟩ (fun sz => k145_X9_max l D cs sz ) (va_cwS 2 hts gX9_longestDelay_X9_max rfl rfl rfl hdX9_max_o ⟨Nat.le_of_ble_eq_true rfl, Nat.le_of_ble_eq_true rfl⟩) hN hP hD hS hA [] [0, 1] rfl rfl rfl rfl (by decide) rfl rfl hl.1 (Nat.le_of_ble_eq_true rfl) dX9_longestDelay_20 (Nat.le_of_ble_eq_true rfl) (Nat.le_of_ble_eq_true rfl) (fun u25 H locs hP hD hS => ?_)
  have hP : va_P D vwCl [(a0, .inr (9, [.int 0, .ref a2, .int 0, .int 0, .int 0, .int 0, .int 0, .int (-1), .ref a1, .ref a3, .ref a4, .ref a5, .int 0, .int 0, .int 0, .int 0, .int 0, .ref a6])), (a1, .inl (cs 0, 45783, .inl (layF (fun _ => 0) 1)))] H := hP
  have hD : va_D A [(a0, .inr (9, [.int 0, .ref a2, .int 0, .int 0, .int 0, .int 0, .int 0, .int (-1), .ref a1, .ref a3, .ref a4, .ref a5, .int 0, .int 0, .int 0, .int 0, .int 0, .ref a6])), (a1, .inl (cs 0, 45783, .inl (layF (fun _ => 0) 1)))] := hD
  refine W.widen (k := 0) (n := 0) (Nat.le_of_ble_eq_true rfl) (Nat.le_of_ble_eq_true rfl) ?_
  refine lv_istore_n (lv' := [(1, .int 0), (2, .int 25), (0, .ref a0)]) hx hb dX9_longestDelay_23 rfl hl (by decide) rfl (fun ls hl => ?_)
  refine lv_iinc (v := 26) (lv' := [(2, .int 26), (1, .int 0), (0, .ref a0)]) hx hb dX9_longestDelay_24 hl (k := 1) rfl (by decide) (by decide) rfl (fun ls hl => ?_)
  refine lv_goto (tgt := 4) hx hb dX9_longestDelay_27 (by decide) ?_
  refine lv_iload_n hx hb dX9_longestDelay_4 rfl (lv_at hl 0 rfl) ?_
  refine lv_bipush (v := 64) hx hb dX9_longestDelay_5 (by decide) ?_
  refine lv_icmp_ge (tgt := 30) hx hb dX9_longestDelay_7 (by decide) (fun c9 => absurd c9 (by decide)) (fun _ => ?_)
  refine lv_iload_n hx hb dX9_longestDelay_10 rfl (lv_at hl 1 rfl) ?_
  refine lv_aload_n hx hb dX9_longestDelay_11 rfl (lv_at hl 2 rfl) ?_
  refine va_get (D := D) (ci := 9) (v := .ref a1) (C := RX9) (T := TX9) (N := 18) hx hb hts iX9_longestDelay_9 hown hN.1 hP 0 rfl rfl 8 (by decide) (hts _ mX9_longestDelay_1) (fun _ h9 => h9) rfl dX9_longestDelay_12 ?_
  refine lv_bipush (v := 119) hx hb dX9_longestDelay_15 (by decide) ?_
  refine lv_iload_n hx hb dX9_longestDelay_17 rfl (lv_at hl 0 rfl) ?_
  refine lv_iadd hx hb dX9_longestDelay_18 ?_
  refine tp_i (145) (by decide) ?_
  refine ld_i (v := 0) hx hb hN hP 1 rfl (vin (by decide +kernel)) (by first | rfl | decide +kernel) dX9_longestDelay_19 ?_
  refine cs_i (As := [.int 0, .int 0]) (rest := []) (wr := [(a0, .inr (9, [.int 0, .ref a2, .int 0, .int 0, .int 0, .int 0, .int 0, .int (-1), .ref a1, .ref a3, .ref a4, .ref a5, .int 0, .int 0, .int 0, .int 0, .int 0, .ref a6])), (a1, .inl (cs 0, 45783, .inl (layF (fun _ => 0) 1)))]) ⟨hx, hb, hml, hown, hts⟩ (fun sz => k145_X9_max l D cs sz ) (va_cwS 2 hts gX9_longestDelay_X9_max rfl rfl rfl hdX9_max_o ⟨Nat.le_of_ble_eq_true rfl, Nat.le_of_ble_eq_true rfl⟩) hN hP hD hS hA [] [0, 1] rfl rfl rfl rfl (by decide) rfl rfl hl.1 (Nat.le_of_ble_eq_true rfl) dX9_longestDelay_20 (Nat.le_of_ble_eq_true rfl) (Nat.le_of_ble_eq_true rfl) (fun u26 H locs hP hD hS => ?_)
  have hP : va_P D vwCl [(a0, .inr (9, [.int 0, .ref a2, .int 0, .int 0, .int 0, .int 0, .int 0, .int (-1), .ref a1, .ref a3, .ref a4, .ref a5, .int 0, .int 0, .int 0, .int 0, .int 0, .ref a6])), (a1, .inl (cs 0, 45783, .inl (layF (fun _ => 0) 1)))] H := hP
  have hD : va_D A [(a0, .inr (9, [.int 0, .ref a2, .int 0, .int 0, .int 0, .int 0, .int 0, .int (-1), .ref a1, .ref a3, .ref a4, .ref a5, .int 0, .int 0, .int 0, .int 0, .int 0, .ref a6])), (a1, .inl (cs 0, 45783, .inl (layF (fun _ => 0) 1)))] := hD
  refine W.widen (k := 0) (n := 0) (Nat.le_of_ble_eq_true rfl) (Nat.le_of_ble_eq_true rfl) ?_
  refine lv_istore_n (lv' := [(1, .int 0), (2, .int 26), (0, .ref a0)]) hx hb dX9_longestDelay_23 rfl hl (by decide) rfl (fun ls hl => ?_)
  refine lv_iinc (v := 27) (lv' := [(2, .int 27), (1, .int 0), (0, .ref a0)]) hx hb dX9_longestDelay_24 hl (k := 1) rfl (by decide) (by decide) rfl (fun ls hl => ?_)
  refine lv_goto (tgt := 4) hx hb dX9_longestDelay_27 (by decide) ?_
  refine lv_iload_n hx hb dX9_longestDelay_4 rfl (lv_at hl 0 rfl) ?_
  refine lv_bipush (v := 64) hx hb dX9_longestDelay_5 (by decide) ?_
  refine lv_icmp_ge (tgt := 30) hx hb dX9_longestDelay_7 (by decide) (fun c9 => absurd c9 (by decide)) (fun _ => ?_)
  refine lv_iload_n hx hb dX9_longestDelay_10 rfl (lv_at hl 1 rfl) ?_
  refine lv_aload_n hx hb dX9_longestDelay_11 rfl (lv_at hl 2 rfl) ?_
  refine va_get (D := D) (ci := 9) (v := .ref a1) (C := RX9) (T := TX9) (N := 18) hx hb hts iX9_longestDelay_9 hown hN.1 hP 0 rfl rfl 8 (by decide) (hts _ mX9_longestDelay_1) (fun _ h9 => h9) rfl dX9_longestDelay_12 ?_
  refine lv_bipush (v := 119) hx hb dX9_longestDelay_15 (by decide) ?_
  refine lv_iload_n hx hb dX9_longestDelay_17 rfl (lv_at hl 0 rfl) ?_
  refine lv_iadd hx hb dX9_longestDelay_18 ?_
  refine tp_i (146) (by decide) ?_
  refine ld_i (v := 0) hx hb hN hP 1 rfl (vin (by decide +kernel)) (by first | rfl | decide +kernel) dX9_longestDelay_19 ?_
  refine cs_i (As := [.int 0, .int 0]) (rest := []) (wr := [(a0, .inr (9, [.int 0, .ref a2, .int 0, .int 0, .int 0, .int 0, .int 0, .int (-1), .ref a1, .ref a3, .ref a4, .ref a5, .int 0, .int 0, .int 0, .int 0, .int 0, .ref a6])), (a1, .inl (cs 0, 45783, .inl (layF (fun _ => 0) 1)))]) ⟨hx, hb, hml, hown, hts⟩ (fun sz => k145_X9_max l D cs sz ) (va_cwS 2 hts gX9_longestDelay_X9_max rfl rfl rfl hdX9_max_o ⟨Nat.le_of_ble_eq_true rfl, Nat.le_of_ble_eq_true rfl⟩) hN hP hD hS hA [] [0, 1] rfl rfl rfl rfl (by decide) rfl rfl hl.1 (Nat.le_of_ble_eq_true rfl) dX9_longestDelay_20 (Nat.le_of_ble_eq_true rfl) (Nat.le_of_ble_eq_true rfl) (fun u27 H locs hP hD hS => ?_)
  have hP : va_P D vwCl [(a0, .inr (9, [.int 0, .ref a2, .int 0, .int 0, .int 0, .int 0, .int 0, .int (-1), .ref a1, .ref a3, .ref a4, .ref a5, .int 0, .int 0, .int 0, .int 0, .int 0, .ref a6])), (a1, .inl (cs 0, 45783, .inl (layF (fun _ => 0) 1)))] H := hP
  have hD : va_D A [(a0, .inr (9, [.int 0, .ref a2, .int 0, .int 0, .int 0, .int 0, .int 0, .int (-1), .ref a1, .ref a3, .ref a4, .ref a5, .int 0, .int 0, .int 0, .int 0, .int 0, .ref a6])), (a1, .inl (cs 0, 45783, .inl (layF (fun _ => 0) 1)))] := hD
  refine W.widen (k := 0) (n := 0) (Nat.le_of_ble_eq_true rfl) (Nat.le_of_ble_eq_true rfl) ?_
  refine lv_istore_n (lv' := [(1, .int 0), (2, .int 27), (0, .ref a0)]) hx hb dX9_longestDelay_23 rfl hl (by decide) rfl (fun ls hl => ?_)
  refine lv_iinc (v := 28) (lv' := [(2, .int 28), (1, .int 0), (0, .ref a0)]) hx hb dX9_longestDelay_24 hl (k := 1) rfl (by decide) (by decide) rfl (fun ls hl => ?_)
  refine lv_goto (tgt := 4) hx hb dX9_longestDelay_27 (by decide) ?_
  refine lv_iload_n hx hb dX9_longestDelay_4 rfl (lv_at hl 0 rfl) ?_
  refine lv_bipush (v := 64) hx hb dX9_longestDelay_5 (by decide) ?_
  refine lv_icmp_ge (tgt := 30) hx hb dX9_longestDelay_7 (by decide) (fun c9 => absurd c9 (by decide)) (fun _ => ?_)
  refine lv_iload_n hx hb dX9_longestDelay_10 rfl (lv_at hl 1 rfl) ?_
  refine lv_aload_n hx hb dX9_longestDelay_11 rfl (lv_at hl 2 rfl) ?_
  refine va_get (D := D) (ci := 9) (v := .ref a1) (C := RX9) (T := TX9) (N := 18) hx hb hts iX9_longestDelay_9 hown hN.1 hP 0 rfl rfl 8 (by decide) (hts _ mX9_longestDelay_1) (fun _ h9 => h9) rfl dX9_longestDelay_12 ?_
  refine lv_bipush (v := 119) hx hb dX9_longestDelay_15 (by decide) ?_
  refine lv_iload_n hx hb dX9_longestDelay_17 rfl (lv_at hl 0 rfl) ?_
  refine lv_iadd hx hb dX9_longestDelay_18 ?_
  refine tp_i (147) (by decide) ?_
  refine ld_i (v := 0) hx hb hN hP 1 rfl (vin (by decide +kernel)) (by first | rfl | decide +kernel) dX9_longestDelay_19 ?_
  refine cs_i (As := [.int 0, .int 0]) (rest := []) (wr := [(a0, .inr (9, [.int 0, .ref a2, .int 0, .int 0, .int 0, .int 0, .int 0, .int (-1), .ref a1, .ref a3, .ref a4, .ref a5, .int 0, .int 0, .int 0, .int 0, .int 0, .ref a6])), (a1, .inl (cs 0, 45783, .inl (layF (fun _ => 0) 1)))]) ⟨hx, hb, hml, hown, hts⟩ (fun sz => k145_X9_max l D cs sz ) (va_cwS 2 hts gX9_longestDelay_X9_max rfl rfl rfl hdX9_max_o ⟨Nat.le_of_ble_eq_true rfl, Nat.le_of_ble_eq_true rfl⟩) hN hP hD hS hA [] [0, 1] rfl rfl rfl rfl (by decide) rfl rfl hl.1 (Nat.le_of_ble_eq_true rfl) dX9_longestDelay_20 (Nat.le_of_ble_eq_true rfl) (Nat.le_of_ble_eq_true rfl) (fun u28 H locs hP hD hS => ?_)
  have hP : va_P D vwCl [(a0, .inr (9, [.int 0, .ref a2, .int 0, .int 0, .int 0, .int 0, .int 0, .int (-1), .ref a1, .ref a3, .ref a4, .ref a5, .int 0, .int 0, .int 0, .int 0, .int 0, .ref a6])), (a1, .inl (cs 0, 45783, .inl (layF (fun _ => 0) 1)))] H := hP
  have hD : va_D A [(a0, .inr (9, [.int 0, .ref a2, .int 0, .int 0, .int 0, .int 0, .int 0, .int (-1), .ref a1, .ref a3, .ref a4, .ref a5, .int 0, .int 0, .int 0, .int 0, .int 0, .ref a6])), (a1, .inl (cs 0, 45783, .inl (layF (fun _ => 0) 1)))] := hD
  refine W.widen (k := 0) (n := 0) (Nat.le_of_ble_eq_true rfl) (Nat.le_of_ble_eq_true rfl) ?_
  refine lv_istore_n (lv' := [(1, .int 0), (2, .int 28), (0, .ref a0)]) hx hb dX9_longestDelay_23 rfl hl (by decide) rfl (fun ls hl => ?_)
  refine lv_iinc (v := 29) (lv' := [(2, .int 29), (1, .int 0), (0, .ref a0)]) hx hb dX9_longestDelay_24 hl (k := 1) rfl (by decide) (by decide) rfl (fun ls hl => ?_)
  refine lv_goto (tgt := 4) hx hb dX9_longestDelay_27 (by decide) ?_
  refine lv_iload_n hx hb dX9_longestDelay_4 rfl (lv_at hl 0 rfl) ?_
  refine lv_bipush (v := 64) hx hb dX9_longestDelay_5 (by decide) ?_
  refine lv_icmp_ge (tgt := 30) hx hb dX9_longestDelay_7 (by decide) (fun c9 => absurd c9 (by decide)) (fun _ => ?_)
  refine lv_iload_n hx hb dX9_longestDelay_10 rfl (lv_at hl 1 rfl) ?_
  refine lv_aload_n hx hb dX9_longestDelay_11 rfl (lv_at hl 2 rfl) ?_
  refine va_get (D := D) (ci := 9) (v := .ref a1) (C := RX9) (T := TX9) (N := 18) hx hb hts iX9_longestDelay_9 hown hN.1 hP 0 rfl rfl 8 (by decide) (hts _ mX9_longestDelay_1) (fun _ h9 => h9) rfl dX9_longestDelay_12 ?_
  refine lv_bipush (v := 119) hx hb dX9_longestDelay_15 (by decide) ?_
  refine lv_iload_n hx hb dX9_longestDelay_17 rfl (lv_at hl 0 rfl) ?_
  refine lv_iadd hx hb dX9_longestDelay_18 ?_
  refine tp_i (148) (by decide) ?_
  refine ld_i (v := 0) hx hb hN hP 1 rfl (vin (by decide +kernel)) (by first | rfl | decide +kernel) dX9_longestDelay_19 ?_
  refine cs_i (As := [.int 0, .int 0]) (rest := []) (wr := [(a0, .inr (9, [.int 0, .ref a2, .int 0, .int 0, .int 0, .int 0, .int 0, .int (-1), .ref a1, .ref a3, .ref a4, .ref a5, .int 0, .int 0, .int 0, .int 0, .int 0, .ref a6])), (a1, .inl (cs 0, 45783, .inl (layF (fun _ => 0) 1)))]) ⟨hx, hb, hml, hown, hts⟩ (fun sz => k145_X9_max l D cs sz ) (va_cwS 2 hts gX9_longestDelay_X9_max rfl rfl rfl hdX9_max_o ⟨Nat.le_of_ble_eq_true rfl, Nat.le_of_ble_eq_true rfl⟩) hN hP hD hS hA [] [0, 1] rfl rfl rfl rfl (by decide) rfl rfl hl.1 (Nat.le_of_ble_eq_true rfl) dX9_longestDelay_20 (Nat.le_of_ble_eq_true rfl) (Nat.le_of_ble_eq_true rfl) (fun u29 H locs hP hD hS => ?_)
  have hP : va_P D vwCl [(a0, .inr (9, [.int 0, .ref a2, .int 0, .int 0, .int 0, .int 0, .int 0, .int (-1), .ref a1, .ref a3, .ref a4, .ref a5, .int 0, .int 0, .int 0, .int 0, .int 0, .ref a6])), (a1, .inl (cs 0, 45783, .inl (layF (fun _ => 0) 1)))] H := hP
  have hD : va_D A [(a0, .inr (9, [.int 0, .ref a2, .int 0, .int 0, .int 0, .int 0, .int 0, .int (-1), .ref a1, .ref a3, .ref a4, .ref a5, .int 0, .int 0, .int 0, .int 0, .int 0, .ref a6])), (a1, .inl (cs 0, 45783, .inl (layF (fun _ => 0) 1)))] := hD
  refine W.widen (k := 0) (n := 0) (Nat.le_of_ble_eq_true rfl) (Nat.le_of_ble_eq_true rfl) ?_
  refine lv_istore_n (lv' := [(1, .int 0), (2, .int 29), (0, .ref a0)]) hx hb dX9_longestDelay_23 rfl hl (by decide) rfl (fun ls hl => ?_)
  refine lv_iinc (v := 30) (lv' := [(2, .int 30), (1, .int 0), (0, .ref a0)]) hx hb dX9_longestDelay_24 hl (k := 1) rfl (by decide) (by decide) rfl (fun ls hl => ?_)
  refine lv_goto (tgt := 4) hx hb dX9_longestDelay_27 (by decide) ?_
  refine lv_iload_n hx hb dX9_longestDelay_4 rfl (lv_at hl 0 rfl) ?_
  refine lv_bipush (v := 64) hx hb dX9_longestDelay_5 (by decide) ?_
  refine lv_icmp_ge (tgt := 30) hx hb dX9_longestDelay_7 (by decide) (fun c9 => absurd c9 (by decide)) (fun _ => ?_)
  refine lv_iload_n hx hb dX9_longestDelay_10 rfl (lv_at hl 1 rfl) ?_
  refine lv_aload_n hx hb dX9_longestDelay_11 rfl (lv_at hl 2 rfl) ?_
  refine va_get (D := D) (ci := 9) (v := .ref a1) (C := RX9) (T := TX9) (N := 18) hx hb hts iX9_longestDelay_9 hown hN.1 hP 0 rfl rfl 8 (by decide) (hts _ mX9_longestDelay_1) (fun _ h9 => h9) rfl dX9_longestDelay_12 ?_
  refine lv_bipush (v := 119) hx hb dX9_longestDelay_15 (by decide) ?_
  refine lv_iload_n hx hb dX9_longestDelay_17 rfl (lv_at hl 0 rfl) ?_
  refine lv_iadd hx hb dX9_longestDelay_18 ?_
  refine tp_i (149) (by decide) ?_
  refine ld_i (v := 0) hx hb hN hP 1 rfl (vin (by decide +kernel)) (by first | rfl | decide +kernel) dX9_longestDelay_19 ?_
  refine cs_i (As := [.int 0, .int 0]) (rest := []) (wr := [(a0, .inr (9, [.int 0, .ref a2, .int 0, .int 0, .int 0, .int 0, .int 0, .int (-1), .ref a1, .ref a3, .ref a4, .ref a5, .int 0, .int 0, .int 0, .int 0, .int 0, .ref a6])), (a1, .inl (cs 0, 45783, .inl (layF (fun _ => 0) 1)))]) ⟨hx, hb, hml, hown, hts⟩ (fun sz => k145_X9_max l D cs sz ) (va_cwS 2 hts gX9_longestDelay_X9_max rfl rfl rfl hdX9_max_o ⟨Nat.le_of_ble_eq_true rfl, Nat.le_of_ble_eq_true rfl⟩) hN hP hD hS hA [] [0, 1] rfl rfl rfl rfl (by decide) rfl rfl hl.1 (Nat.le_of_ble_eq_true rfl) dX9_longestDelay_20 (Nat.le_of_ble_eq_true rfl) (Nat.le_of_ble_eq_true rfl) (fun u30 H locs hP hD hS => ?_)
  have hP : va_P D vwCl [(a0, .inr (9, [.int 0, .ref a2, .int 0, .int 0, .int 0, .int 0, .int 0, .int (-1), .ref a1, .ref a3, .ref a4, .ref a5, .int 0, .int 0, .int 0, .int 0, .int 0, .ref a6])), (a1, .inl (cs 0, 45783, .inl (layF (fun _ => 0) 1)))] H := hP
  have hD : va_D A [(a0, .inr (9, [.int 0, .ref a2, .int 0, .int 0, .int 0, .int 0, .int 0, .int (-1), .ref a1, .ref a3, .ref a4, .ref a5, .int 0, .int 0, .int 0, .int 0, .int 0, .ref a6])), (a1, .inl (cs 0, 45783, .inl (layF (fun _ => 0) 1)))] := hD
  refine W.widen (k := 0) (n := 0) (Nat.le_of_ble_eq_true rfl) (Nat.le_of_ble_eq_true rfl) ?_
  refine lv_istore_n (lv' := [(1, .int 0), (2, .int 30), (0, .ref a0)]) hx hb dX9_longestDelay_23 rfl hl (by decide) rfl (fun ls hl => ?_)
  refine lv_iinc (v := 31) (lv' := [(2, .int 31), (1, .int 0), (0, .ref a0)]) hx hb dX9_longestDelay_24 hl (k := 1) rfl (by decide) (by decide) rfl (fun ls hl => ?_)
  refine lv_goto (tgt := 4) hx hb dX9_longestDelay_27 (by decide) ?_
  refine lv_iload_n hx hb dX9_longestDelay_4 rfl (lv_at hl 0 rfl) ?_
  refine lv_bipush (v := 64) hx hb dX9_longestDelay_5 (by decide) ?_
  refine lv_icmp_ge (tgt := 30) hx hb dX9_longestDelay_7 (by decide) (fun c9 => absurd c9 (by decide)) (fun _ => ?_)
  refine lv_iload_n hx hb dX9_longestDelay_10 rfl (lv_at hl 1 rfl) ?_
  refine lv_aload_n hx hb dX9_longestDelay_11 rfl (lv_at hl 2 rfl) ?_
  refine va_get (D := D) (ci := 9) (v := .ref a1) (C := RX9) (T := TX9) (N := 18) hx hb hts iX9_longestDelay_9 hown hN.1 hP 0 rfl rfl 8 (by decide) (hts _ mX9_longestDelay_1) (fun _ h9 => h9) rfl dX9_longestDelay_12 ?_
  refine lv_bipush (v := 119) hx hb dX9_longestDelay_15 (by decide) ?_
  refine lv_iload_n hx hb dX9_longestDelay_17 rfl (lv_at hl 0 rfl) ?_
  refine lv_iadd hx hb dX9_longestDelay_18 ?_
  refine tp_i (150) (by decide) ?_
  refine ld_i (v := 0) hx hb hN hP 1 rfl (vin (by decide +kernel)) (by first | rfl | decide +kernel) dX9_longestDelay_19 ?_
  refine cs_i (As := [.int 0, .int 0]) (rest := []) (wr := [(a0, .inr (9, [.int 0, .ref a2, .int 0, .int 0, .int 0, .int 0, .int 0, .int (-1), .ref a1, .ref a3, .ref a4, .ref a5, .int 0, .int 0, .int 0, .int 0, .int 0, .ref a6])), (a1, .inl (cs 0, 45783, .inl (layF (fun _ => 0) 1)))]) ⟨hx, hb, hml, hown, hts⟩ (fun sz => k145_X9_max l D cs sz ) (va_cwS 2 hts gX9_longestDelay_X9_max rfl rfl rfl hdX9_max_o ⟨Nat.le_of_ble_eq_true rfl, Nat.le_of_ble_eq_true rfl⟩) hN hP hD hS hA [] [0, 1] rfl rfl rfl rfl (by decide) rfl rfl hl.1 (Nat.le_of_ble_eq_true rfl) dX9_longestDelay_20 (Nat.le_of_ble_eq_true rfl) (Nat.le_of_ble_eq_true rfl) (fun u31 H locs hP hD hS => ?_)
  have hP : va_P D vwCl [(a0, .inr (9, [.int 0, .ref a2, .int 0, .int 0, .int 0, .int 0, .int 0, .int (-1), .ref a1, .ref a3, .ref a4, .ref a5, .int 0, .int 0, .int 0, .int 0, .int 0, .ref a6])), (a1, .inl (cs 0, 45783, .inl (layF (fun _ => 0) 1)))] H := hP
  have hD : va_D A [(a0, .inr (9, [.int 0, .ref a2, .int 0, .int 0, .int 0, .int 0, .int 0, .int (-1), .ref a1, .ref a3, .ref a4, .ref a5, .int 0, .int 0, .int 0, .int 0, .int 0, .ref a6])), (a1, .inl (cs 0, 45783, .inl (layF (fun _ => 0) 1)))] := hD
  refine W.widen (k := 0) (n := 0) (Nat.le_of_ble_eq_true rfl) (Nat.le_of_ble_eq_true rfl) ?_
  refine lv_istore_n (lv' := [(1, .int 0), (2, .int 31), (0, .ref a0)]) hx hb dX9_longestDelay_23 rfl hl (by decide) rfl (fun ls hl => ?_)
  refine lv_iinc (v := 32) (lv' := [(2, .int 32), (1, .int 0), (0, .ref a0)]) hx hb dX9_longestDelay_24 hl (k := 1) rfl (by decide) (by decide) rfl (fun ls hl => ?_)
  refine lv_goto (tgt := 4) hx hb dX9_longestDelay_27 (by decide) ?_
  refine lv_iload_n hx hb dX9_longestDelay_4 rfl (lv_at hl 0 rfl) ?_
  refine lv_bipush (v := 64) hx hb dX9_longestDelay_5 (by decide) ?_
  refine lv_icmp_ge (tgt := 30) hx hb dX9_longestDelay_7 (by decide) (fun c9 => absurd c9 (by decide)) (fun _ => ?_)
  refine lv_iload_n hx hb dX9_longestDelay_10 rfl (lv_at hl 1 rfl) ?_
  refine lv_aload_n hx hb dX9_longestDelay_11 rfl (lv_at hl 2 rfl) ?_
  refine va_get (D := D) (ci := 9) (v := .ref a1) (C := RX9) (T := TX9) (N := 18) hx hb hts iX9_longestDelay_9 hown hN.1 hP 0 rfl rfl 8 (by decide) (hts _ mX9_longestDelay_1) (fun _ h9 => h9) rfl dX9_longestDelay_12 ?_
  refine lv_bipush (v := 119) hx hb dX9_longestDelay_15 (by decide) ?_
  refine lv_iload_n hx hb dX9_longestDelay_17 rfl (lv_at hl 0 rfl) ?_
  refine lv_iadd hx hb dX9_longestDelay_18 ?_
  refine tp_i (151) (by decide) ?_
  refine ld_i (v := 0) hx hb hN hP 1 rfl (vin (by decide +kernel)) (by first | rfl | decide +kernel) dX9_longestDelay_19 ?_
  refine cs_i (As := [.int 0, .int 0]) (rest := []) (wr := [(a0, .inr (9, [.int 0, .ref a2, .int 0, .int 0, .int 0, .int 0, .int 0, .int (-1), .ref a1, .ref a3, .ref a4, .ref a5, .int 0, .int 0, .int 0, .int 0, .int 0, .ref a6])), (a1, .inl (cs 0, 45783, .inl (layF (fun _ => 0) 1)))]) ⟨hx, hb, hml, hown, hts⟩ (fun sz => k145_X9_max l D cs sz ) (va_cwS 2 hts gX9_longestDelay_X9_max rfl rfl rfl hdX9_max_o ⟨Nat.le_of_ble_eq_true rfl, Nat.le_of_ble_eq_true rfl⟩) hN hP hD hS hA [] [0, 1] rfl rfl rfl rfl (by decide) rfl rfl hl.1 (Nat.le_of_ble_eq_true rfl) dX9_longestDelay_20 (Nat.le_of_ble_eq_true rfl) (Nat.le_of_ble_eq_true rfl) (fun u32 H locs hP hD hS => ?_)
  have hP : va_P D vwCl [(a0, .inr (9, [.int 0, .ref a2, .int 0, .int 0, .int 0, .int 0, .int 0, .int (-1), .ref a1, .ref a3, .ref a4, .ref a5, .int 0, .int 0, .int 0, .int 0, .int 0, .ref a6])), (a1, .inl (cs 0, 45783, .inl (layF (fun _ => 0) 1)))] H := hP
  have hD : va_D A [(a0, .inr (9, [.int 0, .ref a2, .int 0, .int 0, .int 0, .int 0, .int 0, .int (-1), .ref a1, .ref a3, .ref a4, .ref a5, .int 0, .int 0, .int 0, .int 0, .int 0, .ref a6])), (a1, .inl (cs 0, 45783, .inl (layF (fun _ => 0) 1)))] := hD
  refine W.widen (k := 0) (n := 0) (Nat.le_of_ble_eq_true rfl) (Nat.le_of_ble_eq_true rfl) ?_
  refine lv_istore_n (lv' := [(1, .int 0), (2, .int 32), (0, .ref a0)]) hx hb dX9_longestDelay_23 rfl hl (by decide) rfl (fun ls hl => ?_)
  refine lv_iinc (v := 33) (lv' := [(2, .int 33), (1, .int 0), (0, .ref a0)]) hx hb dX9_longestDelay_24 hl (k := 1) rfl (by decide) (by decide) rfl (fun ls hl => ?_)
  refine lv_goto (tgt := 4) hx hb dX9_longestDelay_27 (by decide) ?_
  refine lv_iload_n hx hb dX9_longestDelay_4 rfl (lv_at hl 0 rfl) ?_
  refine lv_bipush (v := 64) hx hb dX9_longestDelay_5 (by decide) ?_
  refine lv_icmp_ge (tgt := 30) hx hb dX9_longestDelay_7 (by decide) (fun c9 => absurd c9 (by decide)) (fun _ => ?_)
  refine lv_iload_n hx hb dX9_longestDelay_10 rfl (lv_at hl 1 rfl) ?_
  refine lv_aload_n hx hb dX9_longestDelay_11 rfl (lv_at hl 2 rfl) ?_
  refine va_get (D := D) (ci := 9) (v := .ref a1) (C := RX9) (T := TX9) (N := 18) hx hb hts iX9_longestDelay_9 hown hN.1 hP 0 rfl rfl 8 (by decide) (hts _ mX9_longestDelay_1) (fun _ h9 => h9) rfl dX9_longestDelay_12 ?_
  refine lv_bipush (v := 119) hx hb dX9_longestDelay_15 (by decide) ?_
  refine lv_iload_n hx hb dX9_longestDelay_17 rfl (lv_at hl 0 rfl) ?_
  refine lv_iadd hx hb dX9_longestDelay_18 ?_
  refine tp_i (152) (by decide) ?_
  refine ld_i (v := 0) hx hb hN hP 1 rfl (vin (by decide +kernel)) (by first | rfl | decide +kernel) dX9_longestDelay_19 ?_
  refine cs_i (As := [.int 0, .int 0]) (rest := []) (wr := [(a0, .inr (9, [.int 0, .ref a2, .int 0, .int 0, .int 0, .int 0, .int 0, .int (-1), .ref a1, .ref a3, .ref a4, .ref a5, .int 0, .int 0, .int 0, .int 0, .int 0, .ref a6])), (a1, .inl (cs 0, 45783, .inl (layF (fun _ => 0) 1)))]) ⟨hx, hb, hml, hown, hts⟩ (fun sz => k145_X9_max l D cs sz ) (va_cwS 2 hts gX9_longestDelay_X9_max rfl rfl rfl hdX9_max_o ⟨Nat.le_of_ble_eq_true rfl, Nat.le_of_ble_eq_true rfl⟩) hN hP hD hS hA [] [0, 1] rfl rfl rfl rfl (by decide) rfl rfl hl.1 (Nat.le_of_ble_eq_true rfl) dX9_longestDelay_20 (Nat.le_of_ble_eq_true rfl) (Nat.le_of_ble_eq_true rfl) (fun u33 H locs hP hD hS => ?_)
  have hP : va_P D vwCl [(a0, .inr (9, [.int 0, .ref a2, .int 0, .int 0, .int 0, .int 0, .int 0, .int (-1), .ref a1, .ref a3, .ref a4, .ref a5, .int 0, .int 0, .int 0, .int 0, .int 0, .ref a6])), (a1, .inl (cs 0, 45783, .inl (layF (fun _ => 0) 1)))] H := hP
  have hD : va_D A [(a0, .inr (9, [.int 0, .ref a2, .int 0, .int 0, .int 0, .int 0, .int 0, .int (-1), .ref a1, .ref a3, .ref a4, .ref a5, .int 0, .int 0, .int 0, .int 0, .int 0, .ref a6])), (a1, .inl (cs 0, 45783, .inl (layF (fun _ => 0) 1)))] := hD
  refine W.widen (k := 0) (n := 0) (Nat.le_of_ble_eq_true rfl) (Nat.le_of_ble_eq_true rfl) ?_
  refine lv_istore_n (lv' := [(1, .int 0), (2, .int 33), (0, .ref a0)]) hx hb dX9_longestDelay_23 rfl hl (by decide) rfl (fun ls hl => ?_)
  refine lv_iinc (v := 34) (lv' := [(2, .int 34), (1, .int 0), (0, .ref a0)]) hx hb dX9_longestDelay_24 hl (k := 1) rfl (by decide) (by decide) rfl (fun ls hl => ?_)
  refine lv_goto (tgt := 4) hx hb dX9_longestDelay_27 (by decide) ?_
  refine lv_iload_n hx hb dX9_longestDelay_4 rfl (lv_at hl 0 rfl) ?_
  refine lv_bipush (v := 64) hx hb dX9_longestDelay_5 (by decide) ?_
  refine lv_icmp_ge (tgt := 30) hx hb dX9_longestDelay_7 (by decide) (fun c9 => absurd c9 (by decide)) (fun _ => ?_)
  refine lv_iload_n hx hb dX9_longestDelay_10 rfl (lv_at hl 1 rfl) ?_
  refine lv_aload_n hx hb dX9_longestDelay_11 rfl (lv_at hl 2 rfl) ?_
  refine va_get (D := D) (ci := 9) (v := .ref a1) (C := RX9) (T := TX9) (N := 18) hx hb hts iX9_longestDelay_9 hown hN.1 hP 0 rfl rfl 8 (by decide) (hts _ mX9_longestDelay_1) (fun _ h9 => h9) rfl dX9_longestDelay_12 ?_
  refine lv_bipush (v := 119) hx hb dX9_longestDelay_15 (by decide) ?_
  refine lv_iload_n hx hb dX9_longestDelay_17 rfl (lv_at hl 0 rfl) ?_
  refine lv_iadd hx hb dX9_longestDelay_18 ?_
  refine tp_i (153) (by decide) ?_
  refine ld_i (v := 0) hx hb hN hP 1 rfl (vin (by decide +kernel)) (by first | rfl | decide +kernel) dX9_longestDelay_19 ?_
  refine cs_i (As := [.int 0, .int 0]) (rest := []) (wr := [(a0, .inr (9, [.int 0, .ref a2, .int 0, .int 0, .int 0, .int 0, .int 0, .int (-1), .ref a1, .ref a3, .ref a4, .ref a5, .int 0, .int 0, .int 0, .int 0, .int 0, .ref a6])), (a1, .inl (cs 0, 45783, .inl (layF (fun _ => 0) 1)))]) ⟨hx, hb, hml, hown, hts⟩ (fun sz => k145_X9_max l D cs sz ) (va_cwS 2 hts gX9_longestDelay_X9_max rfl rfl rfl hdX9_max_o ⟨Nat.le_of_ble_eq_true rfl, Nat.le_of_ble_eq_true rfl⟩) hN hP hD hS hA [] [0, 1] rfl rfl rfl rfl (by decide) rfl rfl hl.1 (Nat.le_of_ble_eq_true rfl) dX9_longestDelay_20 (Nat.le_of_ble_eq_true rfl) (Nat.le_of_ble_eq_true rfl) (fun u34 H locs hP hD hS => ?_)
  have hP : va_P D vwCl [(a0, .inr (9, [.int 0, .ref a2, .int 0, .int 0, .int 0, .int 0, .int 0, .int (-1), .ref a1, .ref a3, .ref a4, .ref a5, .int 0, .int 0, .int 0, .int 0, .int 0, .ref a6])), (a1, .inl (cs 0, 45783, .inl (layF (fun _ => 0) 1)))] H := hP
  have hD : va_D A [(a0, .inr (9, [.int 0, .ref a2, .int 0, .int 0, .int 0, .int 0, .int 0, .int (-1), .ref a1, .ref a3, .ref a4, .ref a5, .int 0, .int 0, .int 0, .int 0, .int 0, .ref a6])), (a1, .inl (cs 0, 45783, .inl (layF (fun _ => 0) 1)))] := hD
  refine W.widen (k := 0) (n := 0) (Nat.le_of_ble_eq_true rfl) (Nat.le_of_ble_eq_true rfl) ?_
  refine lv_istore_n (lv' := [(1, .int 0), (2, .int 34), (0, .ref a0)]) hx hb dX9_longestDelay_23 rfl hl (by decide) rfl (fun ls hl => ?_)
  refine lv_iinc (v := 35) (lv' := [(2, .int 35), (1, .int 0), (0, .ref a0)]) hx hb dX9_longestDelay_24 hl (k := 1) rfl (by decide) (by decide) rfl (fun ls hl => ?_)
  refine lv_goto (tgt := 4) hx hb dX9_longestDelay_27 (by decide) ?_
  refine lv_iload_n hx hb dX9_longestDelay_4 rfl (lv_at hl 0 rfl) ?_
  refine lv_bipush (v := 64) hx hb dX9_longestDelay_5 (by decide) ?_
  refine lv_icmp_ge (tgt := 30) hx hb dX9_longestDelay_7 (by decide) (fun c9 => absurd c9 (by decide)) (fun _ => ?_)
  refine lv_iload_n hx hb dX9_longestDelay_10 rfl (lv_at hl 1 rfl) ?_
  refine lv_aload_n hx hb dX9_longestDelay_11 rfl (lv_at hl 2 rfl) ?_
  refine va_get (D := D) (ci := 9) (v := .ref a1) (C := RX9) (T := TX9) (N := 18) hx hb hts iX9_longestDelay_9 hown hN.1 hP 0 rfl rfl 8 (by decide) (hts _ mX9_longestDelay_1) (fun _ h9 => h9) rfl dX9_longestDelay_12 ?_
  refine lv_bipush (v := 119) hx hb dX9_longestDelay_15 (by decide) ?_
  refine lv_iload_n hx hb dX9_longestDelay_17 rfl (lv_at hl 0 rfl) ?_
  refine lv_iadd hx hb dX9_longestDelay_18 ?_
  refine tp_i (154) (by decide) ?_
  refine ld_i (v := 0) hx hb hN hP 1 rfl (vin (by decide +kernel)) (by first | rfl | decide +kernel) dX9_longestDelay_19 ?_
  refine cs_i (As := [.int 0, .int 0]) (rest := []) (wr := [(a0, .inr (9, [.int 0, .ref a2, .int 0, .int 0, .int 0, .int 0, .int 0, .int (-1), .ref a1, .ref a3, .ref a4, .ref a5, .int 0, .int 0, .int 0, .int 0, .int 0, .ref a6])), (a1, .inl (cs 0, 45783, .inl (layF (fun _ => 0) 1)))]) ⟨hx, hb, hml, hown, hts⟩ (fun sz => k145_X9_max l D cs sz ) (va_cwS 2 hts gX9_longestDelay_X9_max rfl rfl rfl hdX9_max_o ⟨Nat.le_of_ble_eq_true rfl, Nat.le_of_ble_eq_true rfl⟩) hN hP hD hS hA [] [0, 1] rfl rfl rfl rfl (by decide) rfl rfl hl.1 (Nat.le_of_ble_eq_true rfl) dX9_longestDelay_20 (Nat.le_of_ble_eq_true rfl) (Nat.le_of_ble_eq_true rfl) (fun u35 H locs hP hD hS => ?_)
  have hP : va_P D vwCl [(a0, .inr (9, [.int 0, .ref a2, .int 0, .int 0, .int 0, .int 0, .int 0, .int (-1), .ref a1, .ref a3, .ref a4, .ref a5, .int 0, .int 0, .int 0, .int 0, .int 0, .ref a6])), (a1, .inl (cs 0, 45783, .inl (layF (fun _ => 0) 1)))] H := hP
  have hD : va_D A [(a0, .inr (9, [.int 0, .ref a2, .int 0, .int 0, .int 0, .int 0, .int 0, .int (-1), .ref a1, .ref a3, .ref a4, .ref a5, .int 0, .int 0, .int 0, .int 0, .int 0, .ref a6])), (a1, .inl (cs 0, 45783, .inl (layF (fun _ => 0) 1)))] := hD
  refine W.widen (k := 0) (n := 0) (Nat.le_of_ble_eq_true rfl) (Nat.le_of_ble_eq_true rfl) ?_
  refine lv_istore_n (lv' := [(1, .int 0), (2, .int 35), (0, .ref a0)]) hx hb dX9_longestDelay_23 rfl hl (by decide) rfl (fun ls hl => ?_)
  refine lv_iinc (v := 36) (lv' := [(2, .int 36), (1, .int 0), (0, .ref a0)]) hx hb dX9_longestDelay_24 hl (k := 1) rfl (by decide) (by decide) rfl (fun ls hl => ?_)
  refine lv_goto (tgt := 4) hx hb dX9_longestDelay_27 (by decide) ?_
  refine lv_iload_n hx hb dX9_longestDelay_4 rfl (lv_at hl 0 rfl) ?_
  refine lv_bipush (v := 64) hx hb dX9_longestDelay_5 (by decide) ?_
  refine lv_icmp_ge (tgt := 30) hx hb dX9_longestDelay_7 (by decide) (fun c9 => absurd c9 (by decide)) (fun _ => ?_)
  refine lv_iload_n hx hb dX9_longestDelay_10 rfl (lv_at hl 1 rfl) ?_
  refine lv_aload_n hx hb dX9_longestDelay_11 rfl (lv_at hl 2 rfl) ?_
  refine va_get (D := D) (ci := 9) (v := .ref a1) (C := RX9) (T := TX9) (N := 18) hx hb hts iX9_longestDelay_9 hown hN.1 hP 0 rfl rfl 8 (by decide) (hts _ mX9_longestDelay_1) (fun _ h9 => h9) rfl dX9_longestDelay_12 ?_
  refine lv_bipush (v := 119) hx hb dX9_longestDelay_15 (by decide) ?_
  refine lv_iload_n hx hb dX9_longestDelay_17 rfl (lv_at hl 0 rfl) ?_
  refine lv_iadd hx hb dX9_longestDelay_18 ?_
  refine tp_i (155) (by decide) ?_
  refine ld_i (v := 0) hx hb hN hP 1 rfl (vin (by decide +kernel)) (by first | rfl | decide +kernel) dX9_longestDelay_19 ?_
  refine cs_i (As := [.int 0, .int 0]) (rest := []) (wr := [(a0, .inr (9, [.int 0, .ref a2, .int 0, .int 0, .int 0, .int 0, .int 0, .int (-1), .ref a1, .ref a3, .ref a4, .ref a5, .int 0, .int 0, .int 0, .int 0, .int 0, .ref a6])), (a1, .inl (cs 0, 45783, .inl (layF (fun _ => 0) 1)))]) ⟨hx, hb, hml, hown, hts⟩ (fun sz => k145_X9_max l D cs sz ) (va_cwS 2 hts gX9_longestDelay_X9_max rfl rfl rfl hdX9_max_o ⟨Nat.le_of_ble_eq_true rfl, Nat.le_of_ble_eq_true rfl⟩) hN hP hD hS hA [] [0, 1] rfl rfl rfl rfl (by decide) rfl rfl hl.1 (Nat.le_of_ble_eq_true rfl) dX9_longestDelay_20 (Nat.le_of_ble_eq_true rfl) (Nat.le_of_ble_eq_true rfl) (fun u36 H locs hP hD hS => ?_)
  have hP : va_P D vwCl [(a0, .inr (9, [.int 0, .ref a2, .int 0, .int 0, .int 0, .int 0, .int 0, .int (-1), .ref a1, .ref a3, .ref a4, .ref a5, .int 0, .int 0, .int 0, .int 0, .int 0, .ref a6])), (a1, .inl (cs 0, 45783, .inl (layF (fun _ => 0) 1)))] H := hP
  have hD : va_D A [(a0, .inr (9, [.int 0, .ref a2, .int 0, .int 0, .int 0, .int 0, .int 0, .int (-1), .ref a1, .ref a3, .ref a4, .ref a5, .int 0, .int 0, .int 0, .int 0, .int 0, .ref a6])), (a1, .inl (cs 0, 45783, .inl (layF (fun _ => 0) 1)))] := hD
  refine W.widen (k := 0) (n := 0) (Nat.le_of_ble_eq_true rfl) (Nat.le_of_ble_eq_true rfl) ?_
  refine lv_istore_n (lv' := [(1, .int 0), (2, .int 36), (0, .ref a0)]) hx hb dX9_longestDelay_23 rfl hl (by decide) rfl (fun ls hl => ?_)
  refine lv_iinc (v := 37) (lv' := [(2, .int 37), (1, .int 0), (0, .ref a0)]) hx hb dX9_longestDelay_24 hl (k := 1) rfl (by decide) (by decide) rfl (fun ls hl => ?_)
  refine lv_goto (tgt := 4) hx hb dX9_longestDelay_27 (by decide) ?_
  refine lv_iload_n hx hb dX9_longestDelay_4 rfl (lv_at hl 0 rfl) ?_
  refine lv_bipush (v := 64) hx hb dX9_longestDelay_5 (by decide) ?_
  refine lv_icmp_ge (tgt := 30) hx hb dX9_longestDelay_7 (by decide) (fun c9 => absurd c9 (by decide)) (fun _ => ?_)
  refine lv_iload_n hx hb dX9_longestDelay_10 rfl (lv_at hl 1 rfl) ?_
  refine lv_aload_n hx hb dX9_longestDelay_11 rfl (lv_at hl 2 rfl) ?_
  refine va_get (D := D) (ci := 9) (v := .ref a1) (C := RX9) (T := TX9) (N := 18) hx hb hts iX9_longestDelay_9 hown hN.1 hP 0 rfl rfl 8 (by decide) (hts _ mX9_longestDelay_1) (fun _ h9 => h9) rfl dX9_longestDelay_12 ?_
  refine lv_bipush (v := 119) hx hb dX9_longestDelay_15 (by decide) ?_
  refine lv_iload_n hx hb dX9_longestDelay_17 rfl (lv_at hl 0 rfl) ?_
  refine lv_iadd hx hb dX9_longestDelay_18 ?_
  refine tp_i (156) (by decide) ?_
  refine ld_i (v := 0) hx hb hN hP 1 rfl (vin (by decide +kernel)) (by first | rfl | decide +kernel) dX9_longestDelay_19 ?_
  refine cs_i (As := [.int 0, .int 0]) (rest := []) (wr := [(a0, .inr (9, [.int 0, .ref a2, .int 0, .int 0, .int 0, .int 0, .int 0, .int (-1), .ref a1, .ref a3, .ref a4, .ref a5, .int 0, .int 0, .int 0, .int 0, .int 0, .ref a6])), (a1, .inl (cs 0, 45783, .inl (layF (fun _ => 0) 1)))]) ⟨hx, hb, hml, hown, hts⟩ (fun sz => k145_X9_max l D cs sz ) (va_cwS 2 hts gX9_longestDelay_X9_max rfl rfl rfl hdX9_max_o ⟨Nat.le_of_ble_eq_true rfl, Nat.le_of_ble_eq_true rfl⟩) hN hP hD hS hA [] [0, 1] rfl rfl rfl rfl (by decide) rfl rfl hl.1 (Nat.le_of_ble_eq_true rfl) dX9_longestDelay_20 (Nat.le_of_ble_eq_true rfl) (Nat.le_of_ble_eq_true rfl) (fun u37 H locs hP hD hS => ?_)
  have hP : va_P D vwCl [(a0, .inr (9, [.int 0, .ref a2, .int 0, .int 0, .int 0, .int 0, .int 0, .int (-1), .ref a1, .ref a3, .ref a4, .ref a5, .int 0, .int 0, .int 0, .int 0, .int 0, .ref a6])), (a1, .inl (cs 0, 45783, .inl (layF (fun _ => 0) 1)))] H := hP
  have hD : va_D A [(a0, .inr (9, [.int 0, .ref a2, .int 0, .int 0, .int 0, .int 0, .int 0, .int (-1), .ref a1, .ref a3, .ref a4, .ref a5, .int 0, .int 0, .int 0, .int 0, .int 0, .ref a6])), (a1, .inl (cs 0, 45783, .inl (layF (fun _ => 0) 1)))] := hD
  refine W.widen (k := 0) (n := 0) (Nat.le_of_ble_eq_true rfl) (Nat.le_of_ble_eq_true rfl) ?_
  refine lv_istore_n (lv' := [(1, .int 0), (2, .int 37), (0, .ref a0)]) hx hb dX9_longestDelay_23 rfl hl (by decide) rfl (fun ls hl => ?_)
  refine lv_iinc (v := 38) (lv' := [(2, .int 38), (1, .int 0), (0, .ref a0)]) hx hb dX9_longestDelay_24 hl (k := 1) rfl (by decide) (by decide) rfl (fun ls hl => ?_)
  refine lv_goto (tgt := 4) hx hb dX9_longestDelay_27 (by decide) ?_
  refine lv_iload_n hx hb dX9_longestDelay_4 rfl (lv_at hl 0 rfl) ?_
  refine lv_bipush (v := 64) hx hb dX9_longestDelay_5 (by decide) ?_
  refine lv_icmp_ge (tgt := 30) hx hb dX9_longestDelay_7 (by decide) (fun c9 => absurd c9 (by decide)) (fun _ => ?_)
  refine lv_iload_n hx hb dX9_longestDelay_10 rfl (lv_at hl 1 rfl) ?_
  refine lv_aload_n hx hb dX9_longestDelay_11 rfl (lv_at hl 2 rfl) ?_
  refine va_get (D := D) (ci := 9) (v := .ref a1) (C := RX9) (T := TX9) (N := 18) hx hb hts iX9_longestDelay_9 hown hN.1 hP 0 rfl rfl 8 (by decide) (hts _ mX9_longestDelay_1) (fun _ h9 => h9) rfl dX9_longestDelay_12 ?_
  refine lv_bipush (v := 119) hx hb dX9_longestDelay_15 (by decide) ?_
  refine lv_iload_n hx hb dX9_longestDelay_17 rfl (lv_at hl 0 rfl) ?_
  refine lv_iadd hx hb dX9_longestDelay_18 ?_
  refine tp_i (157) (by decide) ?_
  refine ld_i (v := 0) hx hb hN hP 1 rfl (vin (by decide +kernel)) (by first | rfl | decide +kernel) dX9_longestDelay_19 ?_
  refine cs_i (As := [.int 0, .int 0]) (rest := []) (wr := [(a0, .inr (9, [.int 0, .ref a2, .int 0, .int 0, .int 0, .int 0, .int 0, .int (-1), .ref a1, .ref a3, .ref a4, .ref a5, .int 0, .int 0, .int 0, .int 0, .int 0, .ref a6])), (a1, .inl (cs 0, 45783, .inl (layF (fun _ => 0) 1)))]) ⟨hx, hb, hml, hown, hts⟩ (fun sz => k145_X9_max l D cs sz ) (va_cwS 2 hts gX9_longestDelay_X9_max rfl rfl rfl hdX9_max_o ⟨Nat.le_of_ble_eq_true rfl, Nat.le_of_ble_eq_true rfl⟩) hN hP hD hS hA [] [0, 1] rfl rfl rfl rfl (by decide) rfl rfl hl.1 (Nat.le_of_ble_eq_true rfl) dX9_longestDelay_20 (Nat.le_of_ble_eq_true rfl) (Nat.le_of_ble_eq_true rfl) (fun u38 H locs hP hD hS => ?_)
  have hP : va_P D vwCl [(a0, .inr (9, [.int 0, .ref a2, .int 0, .int 0, .int 0, .int 0, .int 0, .int (-1), .ref a1, .ref a3, .ref a4, .ref a5, .int 0, .int 0, .int 0, .int 0, .int 0, .ref a6])), (a1, .inl (cs 0, 45783, .inl (layF (fun _ => 0) 1)))] H := hP
  have hD : va_D A [(a0, .inr (9, [.int 0, .ref a2, .int 0, .int 0, .int 0, .int 0, .int 0, .int (-1), .ref a1, .ref a3, .ref a4, .ref a5, .int 0, .int 0, .int 0, .int 0, .int 0, .ref a6])), (a1, .inl (cs 0, 45783, .inl (layF (fun _ => 0) 1)))] := hD
  refine W.widen (k := 0) (n := 0) (Nat.le_of_ble_eq_true rfl) (Nat.le_of_ble_eq_true rfl) ?_
  refine lv_istore_n (lv' := [(1, .int 0), (2, .int 38), (0, .ref a0)]) hx hb dX9_longestDelay_23 rfl hl (by decide) rfl (fun ls hl => ?_)
  refine lv_iinc (v := 39) (lv' := [(2, .int 39), (1, .int 0), (0, .ref a0)]) hx hb dX9_longestDelay_24 hl (k := 1) rfl (by decide) (by decide) rfl (fun ls hl => ?_)
  refine lv_goto (tgt := 4) hx hb dX9_longestDelay_27 (by decide) ?_
  refine lv_iload_n hx hb dX9_longestDelay_4 rfl (lv_at hl 0 rfl) ?_
  refine lv_bipush (v := 64) hx hb dX9_longestDelay_5 (by decide) ?_
  refine lv_icmp_ge (tgt := 30) hx hb dX9_longestDelay_7 (by decide) (fun c9 => absurd c9 (by decide)) (fun _ => ?_)
  refine lv_iload_n hx hb dX9_longestDelay_10 rfl (lv_at hl 1 rfl) ?_
  refine lv_aload_n hx hb dX9_longestDelay_11 rfl (lv_at hl 2 rfl) ?_
  refine va_get (D := D) (ci := 9) (v := .ref a1) (C := RX9) (T := TX9) (N := 18) hx hb hts iX9_longestDelay_9 hown hN.1 hP 0 rfl rfl 8 (by decide) (hts _ mX9_longestDelay_1) (fun _ h9 => h9) rfl dX9_longestDelay_12 ?_
  refine lv_bipush (v := 119) hx hb dX9_longestDelay_15 (by decide) ?_
  refine lv_iload_n hx hb dX9_longestDelay_17 rfl (lv_at hl 0 rfl) ?_
  refine lv_iadd hx hb dX9_longestDelay_18 ?_
  refine tp_i (158) (by decide) ?_
  refine ld_i (v := 0) hx hb hN hP 1 rfl (vin (by decide +kernel)) (by first | rfl | decide +kernel) dX9_longestDelay_19 ?_
  refine cs_i (As := [.int 0, .int 0]) (rest := []) (wr := [(a0, .inr (9, [.int 0, .ref a2, .int 0, .int 0, .int 0, .int 0, .int 0, .int (-1), .ref a1, .ref a3, .ref a4, .ref a5, .int 0, .int 0, .int 0, .int 0, .int 0, .ref a6])), (a1, .inl (cs 0, 45783, .inl (layF (fun _ => 0) 1)))]) ⟨hx, hb, hml, hown, hts⟩ (fun sz => k145_X9_max l D cs sz ) (va_cwS 2 hts gX9_longestDelay_X9_max rfl rfl rfl hdX9_max_o ⟨Nat.le_of_ble_eq_true rfl, Nat.le_of_ble_eq_true rfl⟩) hN hP hD hS hA [] [0, 1] rfl rfl rfl rfl (by decide) rfl rfl hl.1 (Nat.le_of_ble_eq_true rfl) dX9_longestDelay_20 (Nat.le_of_ble_eq_true rfl) (Nat.le_of_ble_eq_true rfl) (fun u39 H locs hP hD hS => ?_)
  have hP : va_P D vwCl [(a0, .inr (9, [.int 0, .ref a2, .int 0, .int 0, .int 0, .int 0, .int 0, .int (-1), .ref a1, .ref a3, .ref a4, .ref a5, .int 0, .int 0, .int 0, .int 0, .int 0, .ref a6])), (a1, .inl (cs 0, 45783, .inl (layF (fun _ => 0) 1)))] H := hP
  have hD : va_D A [(a0, .inr (9, [.int 0, .ref a2, .int 0, .int 0, .int 0, .int 0, .int 0, .int (-1), .ref a1, .ref a3, .ref a4, .ref a5, .int 0, .int 0, .int 0, .int 0, .int 0, .ref a6])), (a1, .inl (cs 0, 45783, .inl (layF (fun _ => 0) 1)))] := hD
  refine W.widen (k := 0) (n := 0) (Nat.le_of_ble_eq_true rfl) (Nat.le_of_ble_eq_true rfl) ?_
  refine lv_istore_n (lv' := [(1, .int 0), (2, .int 39), (0, .ref a0)]) hx hb dX9_longestDelay_23 rfl hl (by decide) rfl (fun ls hl => ?_)
  refine lv_iinc (v := 40) (lv' := [(2, .int 40), (1, .int 0), (0, .ref a0)]) hx hb dX9_longestDelay_24 hl (k := 1) rfl (by decide) (by decide) rfl (fun ls hl => ?_)
  refine lv_goto (tgt := 4) hx hb dX9_longestDelay_27 (by decide) ?_
  refine lv_iload_n hx hb dX9_longestDelay_4 rfl (lv_at hl 0 rfl) ?_
  refine lv_bipush (v := 64) hx hb dX9_longestDelay_5 (by decide) ?_
  refine lv_icmp_ge (tgt := 30) hx hb dX9_longestDelay_7 (by decide) (fun c9 => absurd c9 (by decide)) (fun _ => ?_)
  refine lv_iload_n hx hb dX9_longestDelay_10 rfl (lv_at hl 1 rfl) ?_
  refine lv_aload_n hx hb dX9_longestDelay_11 rfl (lv_at hl 2 rfl) ?_
  refine va_get (D := D) (ci := 9) (v := .ref a1) (C := RX9) (T := TX9) (N := 18) hx hb hts iX9_longestDelay_9 hown hN.1 hP 0 rfl rfl 8 (by decide) (hts _ mX9_longestDelay_1) (fun _ h9 => h9) rfl dX9_longestDelay_12 ?_
  refine lv_bipush (v := 119) hx hb dX9_longestDelay_15 (by decide) ?_
  refine lv_iload_n hx hb dX9_longestDelay_17 rfl (lv_at hl 0 rfl) ?_
  refine lv_iadd hx hb dX9_longestDelay_18 ?_
  refine tp_i (159) (by decide) ?_
  refine ld_i (v := 0) hx hb hN hP 1 rfl (vin (by decide +kernel)) (by first | rfl | decide +kernel) dX9_longestDelay_19 ?_
  refine cs_i (As := [.int 0, .int 0]) (rest := []) (wr := [(a0, .inr (9, [.int 0, .ref a2, .int 0, .int 0, .int 0, .int 0, .int 0, .int (-1), .ref a1, .ref a3, .ref a4, .ref a5, .int 0, .int 0, .int 0, .int 0, .int 0, .ref a6])), (a1, .inl (cs 0, 45783, .inl (layF (fun _ => 0) 1)))]) ⟨hx, hb, hml, hown, hts⟩ (fun sz => k145_X9_max l D cs sz ) (va_cwS 2 hts gX9_longestDelay_X9_max rfl rfl rfl hdX9_max_o ⟨Nat.le_of_ble_eq_true rfl, Nat.le_of_ble_eq_true rfl⟩) hN hP hD hS hA [] [0, 1] rfl rfl rfl rfl (by decide) rfl rfl hl.1 (Nat.le_of_ble_eq_true rfl) dX9_longestDelay_20 (Nat.le_of_ble_eq_true rfl) (Nat.le_of_ble_eq_true rfl) (fun u40 H locs hP hD hS => ?_)
  have hP : va_P D vwCl [(a0, .inr (9, [.int 0, .ref a2, .int 0, .int 0, .int 0, .int 0, .int 0, .int (-1), .ref a1, .ref a3, .ref a4, .ref a5, .int 0, .int 0, .int 0, .int 0, .int 0, .ref a6])), (a1, .inl (cs 0, 45783, .inl (layF (fun _ => 0) 1)))] H := hP
  have hD : va_D A [(a0, .inr (9, [.int 0, .ref a2, .int 0, .int 0, .int 0, .int 0, .int 0, .int (-1), .ref a1, .ref a3, .ref a4, .ref a5, .int 0, .int 0, .int 0, .int 0, .int 0, .ref a6])), (a1, .inl (cs 0, 45783, .inl (layF (fun _ => 0) 1)))] := hD
  refine W.widen (k := 0) (n := 0) (Nat.le_of_ble_eq_true rfl) (Nat.le_of_ble_eq_true rfl) ?_
  refine lv_istore_n (lv' := [(1, .int 0), (2, .int 40), (0, .ref a0)]) hx hb dX9_longestDelay_23 rfl hl (by decide) rfl (fun ls hl => ?_)
  refine lv_iinc (v := 41) (lv' := [(2, .int 41), (1, .int 0), (0, .ref a0)]) hx hb dX9_longestDelay_24 hl (k := 1) rfl (by decide) (by decide) rfl (fun ls hl => ?_)
  refine lv_goto (tgt := 4) hx hb dX9_longestDelay_27 (by decide) ?_
  refine lv_iload_n hx hb dX9_longestDelay_4 rfl (lv_at hl 0 rfl) ?_
  refine lv_bipush (v := 64) hx hb dX9_longestDelay_5 (by decide) ?_
  refine lv_icmp_ge (tgt := 30) hx hb dX9_longestDelay_7 (by decide) (fun c9 => absurd c9 (by decide)) (fun _ => ?_)
  refine lv_iload_n hx hb dX9_longestDelay_10 rfl (lv_at hl 1 rfl) ?_
  refine lv_aload_n hx hb dX9_longestDelay_11 rfl (lv_at hl 2 rfl) ?_
  refine va_get (D := D) (ci := 9) (v := .ref a1) (C := RX9) (T := TX9) (N := 18) hx hb hts iX9_longestDelay_9 hown hN.1 hP 0 rfl rfl 8 (by decide) (hts _ mX9_longestDelay_1) (fun _ h9 => h9) rfl dX9_longestDelay_12 ?_
  refine lv_bipush (v := 119) hx hb dX9_longestDelay_15 (by decide) ?_
  refine lv_iload_n hx hb dX9_longestDelay_17 rfl (lv_at hl 0 rfl) ?_
  refine lv_iadd hx hb dX9_longestDelay_18 ?_
  refine tp_i (160) (by decide) ?_
  refine ld_i (v := 0) hx hb hN hP 1 rfl (vin (by decide +kernel)) (by first | rfl | decide +kernel) dX9_longestDelay_19 ?_
  refine cs_i (As := [.int 0, .int 0]) (rest := []) (wr := [(a0, .inr (9, [.int 0, .ref a2, .int 0, .int 0, .int 0, .int 0, .int 0, .int (-1), .ref a1, .ref a3, .ref a4, .ref a5, .int 0, .int 0, .int 0, .int 0, .int 0, .ref a6])), (a1, .inl (cs 0, 45783, .inl (layF (fun _ => 0) 1)))]) ⟨hx, hb, hml, hown, hts⟩ (fun sz => k145_X9_max l D cs sz ) (va_cwS 2 hts gX9_longestDelay_X9_max rfl rfl rfl hdX9_max_o ⟨Nat.le_of_ble_eq_true rfl, Nat.le_of_ble_eq_true rfl⟩) hN hP hD hS hA [] [0, 1] rfl rfl rfl rfl (by decide) rfl rfl hl.1 (Nat.le_of_ble_eq_true rfl) dX9_longestDelay_20 (Nat.le_of_ble_eq_true rfl) (Nat.le_of_ble_eq_true rfl) (fun u41 H locs hP hD hS => ?_)
  have hP : va_P D vwCl [(a0, .inr (9, [.int 0, .ref a2, .int 0, .int 0, .int 0, .int 0, .int 0, .int (-1), .ref a1, .ref a3, .ref a4, .ref a5, .int 0, .int 0, .int 0, .int 0, .int 0, .ref a6])), (a1, .inl (cs 0, 45783, .inl (layF (fun _ => 0) 1)))] H := hP
  have hD : va_D A [(a0, .inr (9, [.int 0, .ref a2, .int 0, .int 0, .int 0, .int 0, .int 0, .int (-1), .ref a1, .ref a3, .ref a4, .ref a5, .int 0, .int 0, .int 0, .int 0, .int 0, .ref a6])), (a1, .inl (cs 0, 45783, .inl (layF (fun _ => 0) 1)))] := hD
  refine W.widen (k := 0) (n := 0) (Nat.le_of_ble_eq_true rfl) (Nat.le_of_ble_eq_true rfl) ?_
  refine lv_istore_n (lv' := [(1, .int 0), (2, .int 41), (0, .ref a0)]) hx hb dX9_longestDelay_23 rfl hl (by decide) rfl (fun ls hl => ?_)
  refine lv_iinc (v := 42) (lv' := [(2, .int 42), (1, .int 0), (0, .ref a0)]) hx hb dX9_longestDelay_24 hl (k := 1) rfl (by decide) (by decide) rfl (fun ls hl => ?_)
  refine lv_goto (tgt := 4) hx hb dX9_longestDelay_27 (by decide) ?_
  refine lv_iload_n hx hb dX9_longestDelay_4 rfl (lv_at hl 0 rfl) ?_
  refine lv_bipush (v := 64) hx hb dX9_longestDelay_5 (by decide) ?_
  refine lv_icmp_ge (tgt := 30) hx hb dX9_longestDelay_7 (by decide) (fun c9 => absurd c9 (by decide)) (fun _ => ?_)
  refine lv_iload_n hx hb dX9_longestDelay_10 rfl (lv_at hl 1 rfl) ?_
  refine lv_aload_n hx hb dX9_longestDelay_11 rfl (lv_at hl 2 rfl) ?_
  refine va_get (D := D) (ci := 9) (v := .ref a1) (C := RX9) (T := TX9) (N := 18) hx hb hts iX9_longestDelay_9 hown hN.1 hP 0 rfl rfl 8 (by decide) (hts _ mX9_longestDelay_1) (fun _ h9 => h9) rfl dX9_longestDelay_12 ?_
  refine lv_bipush (v := 119) hx hb dX9_longestDelay_15 (by decide) ?_
  refine lv_iload_n hx hb dX9_longestDelay_17 rfl (lv_at hl 0 rfl) ?_
  refine lv_iadd hx hb dX9_longestDelay_18 ?_
  refine tp_i (161) (by decide) ?_
  refine ld_i (v := 0) hx hb hN hP 1 rfl (vin (by decide +kernel)) (by first | rfl | decide +kernel) dX9_longestDelay_19 ?_
  refine cs_i (As := [.int 0, .int 0]) (rest := []) (wr := [(a0, .inr (9, [.int 0, .ref a2, .int 0, .int 0, .int 0, .int 0, .int 0, .int (-1), .ref a1, .ref a3, .ref a4, .ref a5, .int 0, .int 0, .int 0, .int 0, .int 0, .ref a6])), (a1, .inl (cs 0, 45783, .inl (layF (fun _ => 0) 1)))]) ⟨hx, hb, hml, hown, hts⟩ (fun sz => k145_X9_max l D cs sz ) (va_cwS 2 hts gX9_longestDelay_X9_max rfl rfl rfl hdX9_max_o ⟨Nat.le_of_ble_eq_true rfl, Nat.le_of_ble_eq_true rfl⟩) hN hP hD hS hA [] [0, 1] rfl rfl rfl rfl (by decide) rfl rfl hl.1 (Nat.le_of_ble_eq_true rfl) dX9_longestDelay_20 (Nat.le_of_ble_eq_true rfl) (Nat.le_of_ble_eq_true rfl) (fun u42 H locs hP hD hS => ?_)
  have hP : va_P D vwCl [(a0, .inr (9, [.int 0, .ref a2, .int 0, .int 0, .int 0, .int 0, .int 0, .int (-1), .ref a1, .ref a3, .ref a4, .ref a5, .int 0, .int 0, .int 0, .int 0, .int 0, .ref a6])), (a1, .inl (cs 0, 45783, .inl (layF (fun _ => 0) 1)))] H := hP
  have hD : va_D A [(a0, .inr (9, [.int 0, .ref a2, .int 0, .int 0, .int 0, .int 0, .int 0, .int (-1), .ref a1, .ref a3, .ref a4, .ref a5, .int 0, .int 0, .int 0, .int 0, .int 0, .ref a6])), (a1, .inl (cs 0, 45783, .inl (layF (fun _ => 0) 1)))] := hD
  refine W.widen (k := 0) (n := 0) (Nat.le_of_ble_eq_true rfl) (Nat.le_of_ble_eq_true rfl) ?_
  refine lv_istore_n (lv' := [(1, .int 0), (2, .int 42), (0, .ref a0)]) hx hb dX9_longestDelay_23 rfl hl (by decide) rfl (fun ls hl => ?_)
  refine lv_iinc (v := 43) (lv' := [(2, .int 43), (1, .int 0), (0, .ref a0)]) hx hb dX9_longestDelay_24 hl (k := 1) rfl (by decide) (by decide) rfl (fun ls hl => ?_)
  refine lv_goto (tgt := 4) hx hb dX9_longestDelay_27 (by decide) ?_
  refine lv_iload_n hx hb dX9_longestDelay_4 rfl (lv_at hl 0 rfl) ?_
  refine lv_bipush (v := 64) hx hb dX9_longestDelay_5 (by decide) ?_
  refine lv_icmp_ge (tgt := 30) hx hb dX9_longestDelay_7 (by decide) (fun c9 => absurd c9 (by decide)) (fun _ => ?_)
  refine lv_iload_n hx hb dX9_longestDelay_10 rfl (lv_at hl 1 rfl) ?_
  refine lv_aload_n hx hb dX9_longestDelay_11 rfl (lv_at hl 2 rfl) ?_
  refine va_get (D := D) (ci := 9) (v := .ref a1) (C := RX9) (T := TX9) (N := 18) hx hb hts iX9_longestDelay_9 hown hN.1 hP 0 rfl rfl 8 (by decide) (hts _ mX9_longestDelay_1) (fun _ h9 => h9) rfl dX9_longestDelay_12 ?_
  refine lv_bipush (v := 119) hx hb dX9_longestDelay_15 (by decide) ?_
  refine lv_iload_n hx hb dX9_longestDelay_17 rfl (lv_at hl 0 rfl) ?_
  refine lv_iadd hx hb dX9_longestDelay_18 ?_
  refine tp_i (162) (by decide) ?_
  refine ld_i (v := 0) hx hb hN hP 1 rfl (vin (by decide +kernel)) (by first | rfl | decide +kernel) dX9_longestDelay_19 ?_
  refine cs_i (As := [.int 0, .int 0]) (rest := []) (wr := [(a0, .inr (9, [.int 0, .ref a2, .int 0, .int 0, .int 0, .int 0, .int 0, .int (-1), .ref a1, .ref a3, .ref a4, .ref a5, .int 0, .int 0, .int 0, .int 0, .int 0, .ref a6])), (a1, .inl (cs 0, 45783, .inl (layF (fun _ => 0) 1)))]) ⟨hx, hb, hml, hown, hts⟩ (fun sz => k145_X9_max l D cs sz ) (va_cwS 2 hts gX9_longestDelay_X9_max rfl rfl rfl hdX9_max_o ⟨Nat.le_of_ble_eq_true rfl, Nat.le_of_ble_eq_true rfl⟩) hN hP hD hS hA [] [0, 1] rfl rfl rfl rfl (by decide) rfl rfl hl.1 (Nat.le_of_ble_eq_true rfl) dX9_longestDelay_20 (Nat.le_of_ble_eq_true rfl) (Nat.le_of_ble_eq_true rfl) (fun u43 H locs hP hD hS => ?_)
  have hP : va_P D vwCl [(a0, .inr (9, [.int 0, .ref a2, .int 0, .int 0, .int 0, .int 0, .int 0, .int (-1), .ref a1, .ref a3, .ref a4, .ref a5, .int 0, .int 0, .int 0, .int 0, .int 0, .ref a6])), (a1, .inl (cs 0, 45783, .inl (layF (fun _ => 0) 1)))] H := hP
  have hD : va_D A [(a0, .inr (9, [.int 0, .ref a2, .int 0, .int 0, .int 0, .int 0, .int 0, .int (-1), .ref a1, .ref a3, .ref a4, .ref a5, .int 0, .int 0, .int 0, .int 0, .int 0, .ref a6])), (a1, .inl (cs 0, 45783, .inl (layF (fun _ => 0) 1)))] := hD
  refine W.widen (k := 0) (n := 0) (Nat.le_of_ble_eq_true rfl) (Nat.le_of_ble_eq_true rfl) ?_
  refine lv_istore_n (lv' := [(1, .int 0), (2, .int 43), (0, .ref a0)]) hx hb dX9_longestDelay_23 rfl hl (by decide) rfl (fun ls hl => ?_)
  refine lv_iinc (v := 44) (lv' := [(2, .int 44), (1, .int 0), (0, .ref a0)]) hx hb dX9_longestDelay_24 hl (k := 1) rfl (by decide) (by decide) rfl (fun ls hl => ?_)
  refine lv_goto (tgt := 4) hx hb dX9_longestDelay_27 (by decide) ?_
  refine lv_iload_n hx hb dX9_longestDelay_4 rfl (lv_at hl 0 rfl) ?_
  refine lv_bipush (v := 64) hx hb dX9_longestDelay_5 (by decide) ?_
  refine lv_icmp_ge (tgt := 30) hx hb dX9_longestDelay_7 (by decide) (fun c9 => absurd c9 (by decide)) (fun _ => ?_)
  refine lv_iload_n hx hb dX9_longestDelay_10 rfl (lv_at hl 1 rfl) ?_
  refine lv_aload_n hx hb dX9_longestDelay_11 rfl (lv_at hl 2 rfl) ?_
  refine va_get (D := D) (ci := 9) (v := .ref a1) (C := RX9) (T := TX9) (N := 18) hx hb hts iX9_longestDelay_9 hown hN.1 hP 0 rfl rfl 8 (by decide) (hts _ mX9_longestDelay_1) (fun _ h9 => h9) rfl dX9_longestDelay_12 ?_
  refine lv_bipush (v := 119) hx hb dX9_longestDelay_15 (by decide) ?_
  refine lv_iload_n hx hb dX9_longestDelay_17 rfl (lv_at hl 0 rfl) ?_
  refine lv_iadd hx hb dX9_longestDelay_18 ?_
  refine tp_i (163) (by decide) ?_
  refine ld_i (v := 0) hx hb hN hP 1 rfl (vin (by decide +kernel)) (by first | rfl | decide +kernel) dX9_longestDelay_19 ?_
  refine cs_i (As := [.int 0, .int 0]) (rest := []) (wr := [(a0, .inr (9, [.int 0, .ref a2, .int 0, .int 0, .int 0, .int 0, .int 0, .int (-1), .ref a1, .ref a3, .ref a4, .ref a5, .int 0, .int 0, .int 0, .int 0, .int 0, .ref a6])), (a1, .inl (cs 0, 45783, .inl (layF (fun _ => 0) 1)))]) ⟨hx, hb, hml, hown, hts⟩ (fun sz => k145_X9_max l D cs sz ) (va_cwS 2 hts gX9_longestDelay_X9_max rfl rfl rfl hdX9_max_o ⟨Nat.le_of_ble_eq_true rfl, Nat.le_of_ble_eq_true rfl⟩) hN hP hD hS hA [] [0, 1] rfl rfl rfl rfl (by decide) rfl rfl hl.1 (Nat.le_of_ble_eq_true rfl) dX9_longestDelay_20 (Nat.le_of_ble_eq_true rfl) (Nat.le_of_ble_eq_true rfl) (fun u44 H locs hP hD hS => ?_)
  have hP : va_P D vwCl [(a0, .inr (9, [.int 0, .ref a2, .int 0, .int 0, .int 0, .int 0, .int 0, .int (-1), .ref a1, .ref a3, .ref a4, .ref a5, .int 0, .int 0, .int 0, .int 0, .int 0, .ref a6])), (a1, .inl (cs 0, 45783, .inl (layF (fun _ => 0) 1)))] H := hP
  have hD : va_D A [(a0, .inr (9, [.int 0, .ref a2, .int 0, .int 0, .int 0, .int 0, .int 0, .int (-1), .ref a1, .ref a3, .ref a4, .ref a5, .int 0, .int 0, .int 0, .int 0, .int 0, .ref a6])), (a1, .inl (cs 0, 45783, .inl (layF (fun _ => 0) 1)))] := hD
  refine W.widen (k := 0) (n := 0) (Nat.le_of_ble_eq_true rfl) (Nat.le_of_ble_eq_true rfl) ?_
  refine lv_istore_n (lv' := [(1, .int 0), (2, .int 44), (0, .ref a0)]) hx hb dX9_longestDelay_23 rfl hl (by decide) rfl (fun ls hl => ?_)
  refine lv_iinc (v := 45) (lv' := [(2, .int 45), (1, .int 0), (0, .ref a0)]) hx hb dX9_longestDelay_24 hl (k := 1) rfl (by decide) (by decide) rfl (fun ls hl => ?_)
  refine lv_goto (tgt := 4) hx hb dX9_longestDelay_27 (by decide) ?_
  refine lv_iload_n hx hb dX9_longestDelay_4 rfl (lv_at hl 0 rfl) ?_
  refine lv_bipush (v := 64) hx hb dX9_longestDelay_5 (by decide) ?_
  refine lv_icmp_ge (tgt := 30) hx hb dX9_longestDelay_7 (by decide) (fun c9 => absurd c9 (by decide)) (fun _ => ?_)
  refine lv_iload_n hx hb dX9_longestDelay_10 rfl (lv_at hl 1 rfl) ?_
  refine lv_aload_n hx hb dX9_longestDelay_11 rfl (lv_at hl 2 rfl) ?_
  refine va_get (D := D) (ci := 9) (v := .ref a1) (C := RX9) (T := TX9) (N := 18) hx hb hts iX9_longestDelay_9 hown hN.1 hP 0 rfl rfl 8 (by decide) (hts _ mX9_longestDelay_1) (fun _ h9 => h9) rfl dX9_longestDelay_12 ?_
  refine lv_bipush (v := 119) hx hb dX9_longestDelay_15 (by decide) ?_
  refine lv_iload_n hx hb dX9_longestDelay_17 rfl (lv_at hl 0 rfl) ?_
  refine lv_iadd hx hb dX9_longestDelay_18 ?_
  refine tp_i (164) (by decide) ?_
  refine ld_i (v := 0) hx hb hN hP 1 rfl (vin (by decide +kernel)) (by first | rfl | decide +kernel) dX9_longestDelay_19 ?_
  refine cs_i (As := [.int 0, .int 0]) (rest := []) (wr := [(a0, .inr (9, [.int 0, .ref a2, .int 0, .int 0, .int 0, .int 0, .int 0, .int (-1), .ref a1, .ref a3, .ref a4, .ref a5, .int 0, .int 0, .int 0, .int 0, .int 0, .ref a6])), (a1, .inl (cs 0, 45783, .inl (layF (fun _ => 0) 1)))]) ⟨hx, hb, hml, hown, hts⟩ (fun sz => k145_X9_max l D cs sz ) (va_cwS 2 hts gX9_longestDelay_X9_max rfl rfl rfl hdX9_max_o ⟨Nat.le_of_ble_eq_true rfl, Nat.le_of_ble_eq_true rfl⟩) hN hP hD hS hA [] [0, 1] rfl rfl rfl rfl (by decide) rfl rfl hl.1 (Nat.le_of_ble_eq_true rfl) dX9_longestDelay_20 (Nat.le_of_ble_eq_true rfl) (Nat.le_of_ble_eq_true rfl) (fun u45 H locs hP hD hS => ?_)
  have hP : va_P D vwCl [(a0, .inr (9, [.int 0, .ref a2, .int 0, .int 0, .int 0, .int 0, .int 0, .int (-1), .ref a1, .ref a3, .ref a4, .ref a5, .int 0, .int 0, .int 0, .int 0, .int 0, .ref a6])), (a1, .inl (cs 0, 45783, .inl (layF (fun _ => 0) 1)))] H := hP
  have hD : va_D A [(a0, .inr (9, [.int 0, .ref a2, .int 0, .int 0, .int 0, .int 0, .int 0, .int (-1), .ref a1, .ref a3, .ref a4, .ref a5, .int 0, .int 0, .int 0, .int 0, .int 0, .ref a6])), (a1, .inl (cs 0, 45783, .inl (layF (fun _ => 0) 1)))] := hD
  refine W.widen (k := 0) (n := 0) (Nat.le_of_ble_eq_true rfl) (Nat.le_of_ble_eq_true rfl) ?_
  refine lv_istore_n (lv' := [(1, .int 0), (2, .int 45), (0, .ref a0)]) hx hb dX9_longestDelay_23 rfl hl (by decide) rfl (fun ls hl => ?_)
  refine lv_iinc (v := 46) (lv' := [(2, .int 46), (1, .int 0), (0, .ref a0)]) hx hb dX9_longestDelay_24 hl (k := 1) rfl (by decide) (by decide) rfl (fun ls hl => ?_)
  refine lv_goto (tgt := 4) hx hb dX9_longestDelay_27 (by decide) ?_
  refine lv_iload_n hx hb dX9_longestDelay_4 rfl (lv_at hl 0 rfl) ?_
  refine lv_bipush (v := 64) hx hb dX9_longestDelay_5 (by decide) ?_
  refine lv_icmp_ge (tgt := 30) hx hb dX9_longestDelay_7 (by decide) (fun c9 => absurd c9 (by decide)) (fun _ => ?_)
  refine lv_iload_n hx hb dX9_longestDelay_10 rfl (lv_at hl 1 rfl) ?_
  refine lv_aload_n hx hb dX9_longestDelay_11 rfl (lv_at hl 2 rfl) ?_
  refine va_get (D := D) (ci := 9) (v := .ref a1) (C := RX9) (T := TX9) (N := 18) hx hb hts iX9_longestDelay_9 hown hN.1 hP 0 rfl rfl 8 (by decide) (hts _ mX9_longestDelay_1) (fun _ h9 => h9) rfl dX9_longestDelay_12 ?_
  refine lv_bipush (v := 119) hx hb dX9_longestDelay_15 (by decide) ?_
  refine lv_iload_n hx hb dX9_longestDelay_17 rfl (lv_at hl 0 rfl) ?_
  refine lv_iadd hx hb dX9_longestDelay_18 ?_
  refine tp_i (165) (by decide) ?_
  refine ld_i (v := 0) hx hb hN hP 1 rfl (vin (by decide +kernel)) (by first | rfl | decide +kernel) dX9_longestDelay_19 ?_
  refine cs_i (As := [.int 0, .int 0]) (rest := []) (wr := [(a0, .inr (9, [.int 0, .ref a2, .int 0, .int 0, .int 0, .int 0, .int 0, .int (-1), .ref a1, .ref a3, .ref a4, .ref a5, .int 0, .int 0, .int 0, .int 0, .int 0, .ref a6])), (a1, .inl (cs 0, 45783, .inl (layF (fun _ => 0) 1)))]) ⟨hx, hb, hml, hown, hts⟩ (fun sz => k145_X9_max l D cs sz ) (va_cwS 2 hts gX9_longestDelay_X9_max rfl rfl rfl hdX9_max_o ⟨Nat.le_of_ble_eq_true rfl, Nat.le_of_ble_eq_true rfl⟩) hN hP hD hS hA [] [0, 1] rfl rfl rfl rfl (by decide) rfl rfl hl.1 (Nat.le_of_ble_eq_true rfl) dX9_longestDelay_20 (Nat.le_of_ble_eq_true rfl) (Nat.le_of_ble_eq_true rfl) (fun u46 H locs hP hD hS => ?_)
  have hP : va_P D vwCl [(a0, .inr (9, [.int 0, .ref a2, .int 0, .int 0, .int 0, .int 0, .int 0, .int (-1), .ref a1, .ref a3, .ref a4, .ref a5, .int 0, .int 0, .int 0, .int 0, .int 0, .ref a6])), (a1, .inl (cs 0, 45783, .inl (layF (fun _ => 0) 1)))] H := hP
  have hD : va_D A [(a0, .inr (9, [.int 0, .ref a2, .int 0, .int 0, .int 0, .int 0, .int 0, .int (-1), .ref a1, .ref a3, .ref a4, .ref a5, .int 0, .int 0, .int 0, .int 0, .int 0, .ref a6])), (a1, .inl (cs 0, 45783, .inl (layF (fun _ => 0) 1)))] := hD
  refine W.widen (k := 0) (n := 0) (Nat.le_of_ble_eq_true rfl) (Nat.le_of_ble_eq_true rfl) ?_
  refine lv_istore_n (lv' := [(1, .int 0), (2, .int 46), (0, .ref a0)]) hx hb dX9_longestDelay_23 rfl hl (by decide) rfl (fun ls hl => ?_)
  refine lv_iinc (v := 47) (lv' := [(2, .int 47), (1, .int 0), (0, .ref a0)]) hx hb dX9_longestDelay_24 hl (k := 1) rfl (by decide) (by decide) rfl (fun ls hl => ?_)
  refine lv_goto (tgt := 4) hx hb dX9_longestDelay_27 (by decide) ?_
  refine lv_iload_n hx hb dX9_longestDelay_4 rfl (lv_at hl 0 rfl) ?_
  refine lv_bipush (v := 64) hx hb dX9_longestDelay_5 (by decide) ?_
  refine lv_icmp_ge (tgt := 30) hx hb dX9_longestDelay_7 (by decide) (fun c9 => absurd c9 (by decide)) (fun _ => ?_)
  refine lv_iload_n hx hb dX9_longestDelay_10 rfl (lv_at hl 1 rfl) ?_
  refine lv_aload_n hx hb dX9_longestDelay_11 rfl (lv_at hl 2 rfl) ?_
  refine va_get (D := D) (ci := 9) (v := .ref a1) (C := RX9) (T := TX9) (N := 18) hx hb hts iX9_longestDelay_9 hown hN.1 hP 0 rfl rfl 8 (by decide) (hts _ mX9_longestDelay_1) (fun _ h9 => h9) rfl dX9_longestDelay_12 ?_
  refine lv_bipush (v := 119) hx hb dX9_longestDelay_15 (by decide) ?_
  refine lv_iload_n hx hb dX9_longestDelay_17 rfl (lv_at hl 0 rfl) ?_
  refine lv_iadd hx hb dX9_longestDelay_18 ?_
  refine tp_i (166) (by decide) ?_
  refine ld_i (v := 0) hx hb hN hP 1 rfl (vin (by decide +kernel)) (by first | rfl | decide +kernel) dX9_longestDelay_19 ?_
  refine cs_i (As := [.int 0, .int 0]) (rest := []) (wr := [(a0, .inr (9, [.int 0, .ref a2, .int 0, .int 0, .int 0, .int 0, .int 0, .int (-1), .ref a1, .ref a3, .ref a4, .ref a5, .int 0, .int 0, .int 0, .int 0, .int 0, .ref a6])), (a1, .inl (cs 0, 45783, .inl (layF (fun _ => 0) 1)))]) ⟨hx, hb, hml, hown, hts⟩ (fun sz => k145_X9_max l D cs sz ) (va_cwS 2 hts gX9_longestDelay_X9_max rfl rfl rfl hdX9_max_o ⟨Nat.le_of_ble_eq_true rfl, Nat.le_of_ble_eq_true rfl⟩) hN hP hD hS hA [] [0, 1] rfl rfl rfl rfl (by decide) rfl rfl hl.1 (Nat.le_of_ble_eq_true rfl) dX9_longestDelay_20 (Nat.le_of_ble_eq_true rfl) (Nat.le_of_ble_eq_true rfl) (fun u47 H locs hP hD hS => ?_)
  have hP : va_P D vwCl [(a0, .inr (9, [.int 0, .ref a2, .int 0, .int 0, .int 0, .int 0, .int 0, .int (-1), .ref a1, .ref a3, .ref a4, .ref a5, .int 0, .int 0, .int 0, .int 0, .int 0, .ref a6])), (a1, .inl (cs 0, 45783, .inl (layF (fun _ => 0) 1)))] H := hP
  have hD : va_D A [(a0, .inr (9, [.int 0, .ref a2, .int 0, .int 0, .int 0, .int 0, .int 0, .int (-1), .ref a1, .ref a3, .ref a4, .ref a5, .int 0, .int 0, .int 0, .int 0, .int 0, .ref a6])), (a1, .inl (cs 0, 45783, .inl (layF (fun _ => 0) 1)))] := hD
  refine W.widen (k := 0) (n := 0) (Nat.le_of_ble_eq_true rfl) (Nat.le_of_ble_eq_true rfl) ?_
  refine lv_istore_n (lv' := [(1, .int 0), (2, .int 47), (0, .ref a0)]) hx hb dX9_longestDelay_23 rfl hl (by decide) rfl (fun ls hl => ?_)
  refine lv_iinc (v := 48) (lv' := [(2, .int 48), (1, .int 0), (0, .ref a0)]) hx hb dX9_longestDelay_24 hl (k := 1) rfl (by decide) (by decide) rfl (fun ls hl => ?_)
  refine lv_goto (tgt := 4) hx hb dX9_longestDelay_27 (by decide) ?_
  refine lv_iload_n hx hb dX9_longestDelay_4 rfl (lv_at hl 0 rfl) ?_
  refine lv_bipush (v := 64) hx hb dX9_longestDelay_5 (by decide) ?_
  refine lv_icmp_ge (tgt := 30) hx hb dX9_longestDelay_7 (by decide) (fun c9 => absurd c9 (by decide)) (fun _ => ?_)
  refine lv_iload_n hx hb dX9_longestDelay_10 rfl (lv_at hl 1 rfl) ?_
  refine lv_aload_n hx hb dX9_longestDelay_11 rfl (lv_at hl 2 rfl) ?_
  refine va_get (D := D) (ci := 9) (v := .ref a1) (C := RX9) (T := TX9) (N := 18) hx hb hts iX9_longestDelay_9 hown hN.1 hP 0 rfl rfl 8 (by decide) (hts _ mX9_longestDelay_1) (fun _ h9 => h9) rfl dX9_longestDelay_12 ?_
  refine lv_bipush (v := 119) hx hb dX9_longestDelay_15 (by decide) ?_
  refine lv_iload_n hx hb dX9_longestDelay_17 rfl (lv_at hl 0 rfl) ?_
  refine lv_iadd hx hb dX9_longestDelay_18 ?_
  refine tp_i (167) (by decide) ?_
  refine ld_i (v := 0) hx hb hN hP 1 rfl (vin (by decide +kernel)) (by first | rfl | decide +kernel) dX9_longestDelay_19 ?_
  refine cs_i (As := [.int 0, .int 0]) (rest := []) (wr := [(a0, .inr (9, [.int 0, .ref a2, .int 0, .int 0, .int 0, .int 0, .int 0, .int (-1), .ref a1, .ref a3, .ref a4, .ref a5, .int 0, .int 0, .int 0, .int 0, .int 0, .ref a6])), (a1, .inl (cs 0, 45783, .inl (layF (fun _ => 0) 1)))]) ⟨hx, hb, hml, hown, hts⟩ (fun sz => k145_X9_max l D cs sz ) (va_cwS 2 hts gX9_longestDelay_X9_max rfl rfl rfl hdX9_max_o ⟨Nat.le_of_ble_eq_true rfl, Nat.le_of_ble_eq_true rfl⟩) hN hP hD hS hA [] [0, 1] rfl rfl rfl rfl (by decide) rfl rfl hl.1 (Nat.le_of_ble_eq_true rfl) dX9_longestDelay_20 (Nat.le_of_ble_eq_true rfl) (Nat.le_of_ble_eq_true rfl) (fun u48 H locs hP hD hS => ?_)
  have hP : va_P D vwCl [(a0, .inr (9, [.int 0, .ref a2, .int 0, .int 0, .int 0, .int 0, .int 0, .int (-1), .ref a1, .ref a3, .ref a4, .ref a5, .int 0, .int 0, .int 0, .int 0, .int 0, .ref a6])), (a1, .inl (cs 0, 45783, .inl (layF (fun _ => 0) 1)))] H := hP
  have hD : va_D A [(a0, .inr (9, [.int 0, .ref a2, .int 0, .int 0, .int 0, .int 0, .int 0, .int (-1), .ref a1, .ref a3, .ref a4, .ref a5, .int 0, .int 0, .int 0, .int 0, .int 0, .ref a6])), (a1, .inl (cs 0, 45783, .inl (layF (fun _ => 0) 1)))] := hD
  refine W.widen (k := 0) (n := 0) (Nat.le_of_ble_eq_true rfl) (Nat.le_of_ble_eq_true rfl) ?_
  refine lv_istore_n (lv' := [(1, .int 0), (2, .int 48), (0, .ref a0)]) hx hb dX9_longestDelay_23 rfl hl (by decide) rfl (fun ls hl => ?_)
  refine lv_iinc (v := 49) (lv' := [(2, .int 49), (1, .int 0), (0, .ref a0)]) hx hb dX9_longestDelay_24 hl (k := 1) rfl (by decide) (by decide) rfl (fun ls hl => ?_)
  refine lv_goto (tgt := 4) hx hb dX9_longestDelay_27 (by decide) ?_
  refine lv_iload_n hx hb dX9_longestDelay_4 rfl (lv_at hl 0 rfl) ?_
  refine lv_bipush (v := 64) hx hb dX9_longestDelay_5 (by decide) ?_
  refine lv_icmp_ge (tgt := 30) hx hb dX9_longestDelay_7 (by decide) (fun c9 => absurd c9 (by decide)) (fun _ => ?_)
  refine lv_iload_n hx hb dX9_longestDelay_10 rfl (lv_at hl 1 rfl) ?_
  refine lv_aload_n hx hb dX9_longestDelay_11 rfl (lv_at hl 2 rfl) ?_
  refine va_get (D := D) (ci := 9) (v := .ref a1) (C := RX9) (T := TX9) (N := 18) hx hb hts iX9_longestDelay_9 hown hN.1 hP 0 rfl rfl 8 (by decide) (hts _ mX9_longestDelay_1) (fun _ h9 => h9) rfl dX9_longestDelay_12 ?_
  refine lv_bipush (v := 119) hx hb dX9_longestDelay_15 (by decide) ?_
  refine lv_iload_n hx hb dX9_longestDelay_17 rfl (lv_at hl 0 rfl) ?_
  refine lv_iadd hx hb dX9_longestDelay_18 ?_
  refine tp_i (168) (by decide) ?_
  refine ld_i (v := 0) hx hb hN hP 1 rfl (vin (by decide +kernel)) (by first | rfl | decide +kernel) dX9_longestDelay_19 ?_
  refine cs_i (As := [.int 0, .int 0]) (rest := []) (wr := [(a0, .inr (9, [.int 0, .ref a2, .int 0, .int 0, .int 0, .int 0, .int 0, .int (-1), .ref a1, .ref a3, .ref a4, .ref a5, .int 0, .int 0, .int 0, .int 0, .int 0, .ref a6])), (a1, .inl (cs 0, 45783, .inl (layF (fun _ => 0) 1)))]) ⟨hx, hb, hml, hown, hts⟩ (fun sz => k145_X9_max l D cs sz ) (va_cwS 2 hts gX9_longestDelay_X9_max rfl rfl rfl hdX9_max_o ⟨Nat.le_of_ble_eq_true rfl, Nat.le_of_ble_eq_true rfl⟩) hN hP hD hS hA [] [0, 1] rfl rfl rfl rfl (by decide) rfl rfl hl.1 (Nat.le_of_ble_eq_true rfl) dX9_longestDelay_20 (Nat.le_of_ble_eq_true rfl) (Nat.le_of_ble_eq_true rfl) (fun u49 H locs hP hD hS => ?_)
  have hP : va_P D vwCl [(a0, .inr (9, [.int 0, .ref a2, .int 0, .int 0, .int 0, .int 0, .int 0, .int (-1), .ref a1, .ref a3, .ref a4, .ref a5, .int 0, .int 0, .int 0, .int 0, .int 0, .ref a6])), (a1, .inl (cs 0, 45783, .inl (layF (fun _ => 0) 1)))] H := hP
  have hD : va_D A [(a0, .inr (9, [.int 0, .ref a2, .int 0, .int 0, .int 0, .int 0, .int 0, .int (-1), .ref a1, .ref a3, .ref a4, .ref a5, .int 0, .int 0, .int 0, .int 0, .int 0, .ref a6])), (a1, .inl (cs 0, 45783, .inl (layF (fun _ => 0) 1)))] := hD
  refine W.widen (k := 0) (n := 0) (Nat.le_of_ble_eq_true rfl) (Nat.le_of_ble_eq_true rfl) ?_
  refine lv_istore_n (lv' := [(1, .int 0), (2, .int 49), (0, .ref a0)]) hx hb dX9_longestDelay_23 rfl hl (by decide) rfl (fun ls hl => ?_)
  refine lv_iinc (v := 50) (lv' := [(2, .int 50), (1, .int 0), (0, .ref a0)]) hx hb dX9_longestDelay_24 hl (k := 1) rfl (by decide) (by decide) rfl (fun ls hl => ?_)
  refine lv_goto (tgt := 4) hx hb dX9_longestDelay_27 (by decide) ?_
  refine lv_iload_n hx hb dX9_longestDelay_4 rfl (lv_at hl 0 rfl) ?_
  refine lv_bipush (v := 64) hx hb dX9_longestDelay_5 (by decide) ?_
  refine lv_icmp_ge (tgt := 30) hx hb dX9_longestDelay_7 (by decide) (fun c9 => absurd c9 (by decide)) (fun _ => ?_)
  refine lv_iload_n hx hb dX9_longestDelay_10 rfl (lv_at hl 1 rfl) ?_
  refine lv_aload_n hx hb dX9_longestDelay_11 rfl (lv_at hl 2 rfl) ?_
  refine va_get (D := D) (ci := 9) (v := .ref a1) (C := RX9) (T := TX9) (N := 18) hx hb hts iX9_longestDelay_9 hown hN.1 hP 0 rfl rfl 8 (by decide) (hts _ mX9_longestDelay_1) (fun _ h9 => h9) rfl dX9_longestDelay_12 ?_
  refine lv_bipush (v := 119) hx hb dX9_longestDelay_15 (by decide) ?_
  refine lv_iload_n hx hb dX9_longestDelay_17 rfl (lv_at hl 0 rfl) ?_
  refine lv_iadd hx hb dX9_longestDelay_18 ?_
  refine tp_i (169) (by decide) ?_
  refine ld_i (v := 0) hx hb hN hP 1 rfl (vin (by decide +kernel)) (by first | rfl | decide +kernel) dX9_longestDelay_19 ?_
  refine cs_i (As := [.int 0, .int 0]) (rest := []) (wr := [(a0, .inr (9, [.int 0, .ref a2, .int 0, .int 0, .int 0, .int 0, .int 0, .int (-1), .ref a1, .ref a3, .ref a4, .ref a5, .int 0, .int 0, .int 0, .int 0, .int 0, .ref a6])), (a1, .inl (cs 0, 45783, .inl (layF (fun _ => 0) 1)))]) ⟨hx, hb, hml, hown, hts⟩ (fun sz => k145_X9_max l D cs sz ) (va_cwS 2 hts gX9_longestDelay_X9_max rfl rfl rfl hdX9_max_o ⟨Nat.le_of_ble_eq_true rfl, Nat.le_of_ble_eq_true rfl⟩) hN hP hD hS hA [] [0, 1] rfl rfl rfl rfl (by decide) rfl rfl hl.1 (Nat.le_of_ble_eq_true rfl) dX9_longestDelay_20 (Nat.le_of_ble_eq_true rfl) (Nat.le_of_ble_eq_true rfl) (fun u50 H locs hP hD hS => ?_)
  have hP : va_P D vwCl [(a0, .inr (9, [.int 0, .ref a2, .int 0, .int 0, .int 0, .int 0, .int 0, .int (-1), .ref a1, .ref a3, .ref a4, .ref a5, .int 0, .int 0, .int 0, .int 0, .int 0, .ref a6])), (a1, .inl (cs 0, 45783, .inl (layF (fun _ => 0) 1)))] H := hP
  have hD : va_D A [(a0, .inr (9, [.int 0, .ref a2, .int 0, .int 0, .int 0, .int 0, .int 0, .int (-1), .ref a1, .ref a3, .ref a4, .ref a5, .int 0, .int 0, .int 0, .int 0, .int 0, .ref a6])), (a1, .inl (cs 0, 45783, .inl (layF (fun _ => 0) 1)))] := hD
  refine W.widen (k := 0) (n := 0) (Nat.le_of_ble_eq_true rfl) (Nat.le_of_ble_eq_true rfl) ?_
  refine lv_istore_n (lv' := [(1, .int 0), (2, .int 50), (0, .ref a0)]) hx hb dX9_longestDelay_23 rfl hl (by decide) rfl (fun ls hl => ?_)
  refine lv_iinc (v := 51) (lv' := [(2, .int 51), (1, .int 0), (0, .ref a0)]) hx hb dX9_longestDelay_24 hl (k := 1) rfl (by decide) (by decide) rfl (fun ls hl => ?_)
  refine lv_goto (tgt := 4) hx hb dX9_longestDelay_27 (by decide) ?_
  refine lv_iload_n hx hb dX9_longestDelay_4 rfl (lv_at hl 0 rfl) ?_
  refine lv_bipush (v := 64) hx hb dX9_longestDelay_5 (by decide) ?_
  refine lv_icmp_ge (tgt := 30) hx hb dX9_longestDelay_7 (by decide) (fun c9 => absurd c9 (by decide)) (fun _ => ?_)
  refine lv_iload_n hx hb dX9_longestDelay_10 rfl (lv_at hl 1 rfl) ?_
  refine lv_aload_n hx hb dX9_longestDelay_11 rfl (lv_at hl 2 rfl) ?_
  refine va_get (D := D) (ci := 9) (v := .ref a1) (C := RX9) (T := TX9) (N := 18) hx hb hts iX9_longestDelay_9 hown hN.1 hP 0 rfl rfl 8 (by decide) (hts _ mX9_longestDelay_1) (fun _ h9 => h9) rfl dX9_longestDelay_12 ?_
  refine lv_bipush (v := 119) hx hb dX9_longestDelay_15 (by decide) ?_
  refine lv_iload_n hx hb dX9_longestDelay_17 rfl (lv_at hl 0 rfl) ?_
  refine lv_iadd hx hb dX9_longestDelay_18 ?_
  refine tp_i (170) (by decide) ?_
  refine ld_i (v := 0) hx hb hN hP 1 rfl (vin (by decide +kernel)) (by first | rfl | decide +kernel) dX9_longestDelay_19 ?_
  refine cs_i (As := [.int 0, .int 0]) (rest := []) (wr := [(a0, .inr (9, [.int 0, .ref a2, .int 0, .int 0, .int 0, .int 0, .int 0, .int (-1), .ref a1, .ref a3, .ref a4, .ref a5, .int 0, .int 0, .int 0, .int 0, .int 0, .ref a6])), (a1, .inl (cs 0, 45783, .inl (layF (fun _ => 0) 1)))]) ⟨hx, hb, hml, hown, hts⟩ (fun sz => k145_X9_max l D cs sz ) (va_cwS 2 hts gX9_longestDelay_X9_max rfl rfl rfl hdX9_max_o ⟨Nat.le_of_ble_eq_true rfl, Nat.le_of_ble_eq_true rfl⟩) hN hP hD hS hA [] [0, 1] rfl rfl rfl rfl (by decide) rfl rfl hl.1 (Nat.le_of_ble_eq_true rfl) dX9_longestDelay_20 (Nat.le_of_ble_eq_true rfl) (Nat.le_of_ble_eq_true rfl) (fun u51 H locs hP hD hS => ?_)
  have hP : va_P D vwCl [(a0, .inr (9, [.int 0, .ref a2, .int 0, .int 0, .int 0, .int 0, .int 0, .int (-1), .ref a1, .ref a3, .ref a4, .ref a5, .int 0, .int 0, .int 0, .int 0, .int 0, .ref a6])), (a1, .inl (cs 0, 45783, .inl (layF (fun _ => 0) 1)))] H := hP
  have hD : va_D A [(a0, .inr (9, [.int 0, .ref a2, .int 0, .int 0, .int 0, .int 0, .int 0, .int (-1), .ref a1, .ref a3, .ref a4, .ref a5, .int 0, .int 0, .int 0, .int 0, .int 0, .ref a6])), (a1, .inl (cs 0, 45783, .inl (layF (fun _ => 0) 1)))] := hD
  refine W.widen (k := 0) (n := 0) (Nat.le_of_ble_eq_true rfl) (Nat.le_of_ble_eq_true rfl) ?_
  refine lv_istore_n (lv' := [(1, .int 0), (2, .int 51), (0, .ref a0)]) hx hb dX9_longestDelay_23 rfl hl (by decide) rfl (fun ls hl => ?_)
  refine lv_iinc (v := 52) (lv' := [(2, .int 52), (1, .int 0), (0, .ref a0)]) hx hb dX9_longestDelay_24 hl (k := 1) rfl (by decide) (by decide) rfl (fun ls hl => ?_)
  refine lv_goto (tgt := 4) hx hb dX9_longestDelay_27 (by decide) ?_
  refine lv_iload_n hx hb dX9_longestDelay_4 rfl (lv_at hl 0 rfl) ?_
  refine lv_bipush (v := 64) hx hb dX9_longestDelay_5 (by decide) ?_
  refine lv_icmp_ge (tgt := 30) hx hb dX9_longestDelay_7 (by decide) (fun c9 => absurd c9 (by decide)) (fun _ => ?_)
  refine lv_iload_n hx hb dX9_longestDelay_10 rfl (lv_at hl 1 rfl) ?_
  refine lv_aload_n hx hb dX9_longestDelay_11 rfl (lv_at hl 2 rfl) ?_
  refine va_get (D := D) (ci := 9) (v := .ref a1) (C := RX9) (T := TX9) (N := 18) hx hb hts iX9_longestDelay_9 hown hN.1 hP 0 rfl rfl 8 (by decide) (hts _ mX9_longestDelay_1) (fun _ h9 => h9) rfl dX9_longestDelay_12 ?_
  refine lv_bipush (v := 119) hx hb dX9_longestDelay_15 (by decide) ?_
  refine lv_iload_n hx hb dX9_longestDelay_17 rfl (lv_at hl 0 rfl) ?_
  refine lv_iadd hx hb dX9_longestDelay_18 ?_
  refine tp_i (171) (by decide) ?_
  refine ld_i (v := 0) hx hb hN hP 1 rfl (vin (by decide +kernel)) (by first | rfl | decide +kernel) dX9_longestDelay_19 ?_
  refine cs_i (As := [.int 0, .int 0]) (rest := []) (wr := [(a0, .inr (9, [.int 0, .ref a2, .int 0, .int 0, .int 0, .int 0, .int 0, .int (-1), .ref a1, .ref a3, .ref a4, .ref a5, .int 0, .int 0, .int 0, .int 0, .int 0, .ref a6])), (a1, .inl (cs 0, 45783, .inl (layF (fun _ => 0) 1)))]) ⟨hx, hb, hml, hown, hts⟩ (fun sz => k145_X9_max l D cs sz ) (va_cwS 2 hts gX9_longestDelay_X9_max rfl rfl rfl hdX9_max_o ⟨Nat.le_of_ble_eq_true rfl, Nat.le_of_ble_eq_true rfl⟩) hN hP hD hS hA [] [0, 1] rfl rfl rfl rfl (by decide) rfl rfl hl.1 (Nat.le_of_ble_eq_true rfl) dX9_longestDelay_20 (Nat.le_of_ble_eq_true rfl) (Nat.le_of_ble_eq_true rfl) (fun u52 H locs hP hD hS => ?_)
  have hP : va_P D vwCl [(a0, .inr (9, [.int 0, .ref a2, .int 0, .int 0, .int 0, .int 0, .int 0, .int (-1), .ref a1, .ref a3, .ref a4, .ref a5, .int 0, .int 0, .int 0, .int 0, .int 0, .ref a6])), (a1, .inl (cs 0, 45783, .inl (layF (fun _ => 0) 1)))] H := hP
  have hD : va_D A [(a0, .inr (9, [.int 0, .ref a2, .int 0, .int 0, .int 0, .int 0, .int 0, .int (-1), .ref a1, .ref a3, .ref a4, .ref a5, .int 0, .int 0, .int 0, .int 0, .int 0, .ref a6])), (a1, .inl (cs 0, 45783, .inl (layF (fun _ => 0) 1)))] := hD
  refine W.widen (k := 0) (n := 0) (Nat.le_of_ble_eq_true rfl) (Nat.le_of_ble_eq_true rfl) ?_
  refine lv_istore_n (lv' := [(1, .int 0), (2, .int 52), (0, .ref a0)]) hx hb dX9_longestDelay_23 rfl hl (by decide) rfl (fun ls hl => ?_)
  refine lv_iinc (v := 53) (lv' := [(2, .int 53), (1, .int 0), (0, .ref a0)]) hx hb dX9_longestDelay_24 hl (k := 1) rfl (by decide) (by decide) rfl (fun ls hl => ?_)
  refine lv_goto (tgt := 4) hx hb dX9_longestDelay_27 (by decide) ?_
  refine lv_iload_n hx hb dX9_longestDelay_4 rfl (lv_at hl 0 rfl) ?_
  refine lv_bipush (v := 64) hx hb dX9_longestDelay_5 (by decide) ?_
  refine lv_icmp_ge (tgt := 30) hx hb dX9_longestDelay_7 (by decide) (fun c9 => absurd c9 (by decide)) (fun _ => ?_)
  refine lv_iload_n hx hb dX9_longestDelay_10 rfl (lv_at hl 1 rfl) ?_
  refine lv_aload_n hx hb dX9_longestDelay_11 rfl (lv_at hl 2 rfl) ?_
  refine va_get (D := D) (ci := 9) (v := .ref a1) (C := RX9) (T := TX9) (N := 18) hx hb hts iX9_longestDelay_9 hown hN.1 hP 0 rfl rfl 8 (by decide) (hts _ mX9_longestDelay_1) (fun _ h9 => h9) rfl dX9_longestDelay_12 ?_
  refine lv_bipush (v := 119) hx hb dX9_longestDelay_15 (by decide) ?_
  refine lv_iload_n hx hb dX9_longestDelay_17 rfl (lv_at hl 0 rfl) ?_
  refine lv_iadd hx hb dX9_longestDelay_18 ?_
  refine tp_i (172) (by decide) ?_
  refine ld_i (v := 0) hx hb hN hP 1 rfl (vin (by decide +kernel)) (by first | rfl | decide +kernel) dX9_longestDelay_19 ?_
  refine cs_i (As := [.int 0, .int 0]) (rest := []) (wr := [(a0, .inr (9, [.int 0, .ref a2, .int 0, .int 0, .int 0, .int 0, .int 0, .int (-1), .ref a1, .ref a3, .ref a4, .ref a5, .int 0, .int 0, .int 0, .int 0, .int 0, .ref a6])), (a1, .inl (cs 0, 45783, .inl (layF (fun _ => 0) 1)))]) ⟨hx, hb, hml, hown, hts⟩ (fun sz => k145_X9_max l D cs sz ) (va_cwS 2 hts gX9_longestDelay_X9_max rfl rfl rfl hdX9_max_o ⟨Nat.le_of_ble_eq_true rfl, Nat.le_of_ble_eq_true rfl⟩) hN hP hD hS hA [] [0, 1] rfl rfl rfl rfl (by decide) rfl rfl hl.1 (Nat.le_of_ble_eq_true rfl) dX9_longestDelay_20 (Nat.le_of_ble_eq_true rfl) (Nat.le_of_ble_eq_true rfl) (fun u53 H locs hP hD hS => ?_)
  have hP : va_P D vwCl [(a0, .inr (9, [.int 0, .ref a2, .int 0, .int 0, .int 0, .int 0, .int 0, .int (-1), .ref a1, .ref a3, .ref a4, .ref a5, .int 0, .int 0, .int 0, .int 0, .int 0, .ref a6])), (a1, .inl (cs 0, 45783, .inl (layF (fun _ => 0) 1)))] H := hP
  have hD : va_D A [(a0, .inr (9, [.int 0, .ref a2, .int 0, .int 0, .int 0, .int 0, .int 0, .int (-1), .ref a1, .ref a3, .ref a4, .ref a5, .int 0, .int 0, .int 0, .int 0, .int 0, .ref a6])), (a1, .inl (cs 0, 45783, .inl (layF (fun _ => 0) 1)))] := hD
  refine W.widen (k := 0) (n := 0) (Nat.le_of_ble_eq_true rfl) (Nat.le_of_ble_eq_true rfl) ?_
  refine lv_istore_n (lv' := [(1, .int 0), (2, .int 53), (0, .ref a0)]) hx hb dX9_longestDelay_23 rfl hl (by decide) rfl (fun ls hl => ?_)
  refine lv_iinc (v := 54) (lv' := [(2, .int 54), (1, .int 0), (0, .ref a0)]) hx hb dX9_longestDelay_24 hl (k := 1) rfl (by decide) (by decide) rfl (fun ls hl => ?_)
  refine lv_goto (tgt := 4) hx hb dX9_longestDelay_27 (by decide) ?_
  refine lv_iload_n hx hb dX9_longestDelay_4 rfl (lv_at hl 0 rfl) ?_
  refine lv_bipush (v := 64) hx hb dX9_longestDelay_5 (by decide) ?_
  refine lv_icmp_ge (tgt := 30) hx hb dX9_longestDelay_7 (by decide) (fun c9 => absurd c9 (by decide)) (fun _ => ?_)
  refine lv_iload_n hx hb dX9_longestDelay_10 rfl (lv_at hl 1 rfl) ?_
  refine lv_aload_n hx hb dX9_longestDelay_11 rfl (lv_at hl 2 rfl) ?_
  refine va_get (D := D) (ci := 9) (v := .ref a1) (C := RX9) (T := TX9) (N := 18) hx hb hts iX9_longestDelay_9 hown hN.1 hP 0 rfl rfl 8 (by decide) (hts _ mX9_longestDelay_1) (fun _ h9 => h9) rfl dX9_longestDelay_12 ?_
  refine lv_bipush (v := 119) hx hb dX9_longestDelay_15 (by decide) ?_
  refine lv_iload_n hx hb dX9_longestDelay_17 rfl (lv_at hl 0 rfl) ?_
  refine lv_iadd hx hb dX9_longestDelay_18 ?_
  refine tp_i (173) (by decide) ?_
  refine ld_i (v := 0) hx hb hN hP 1 rfl (vin (by decide +kernel)) (by first | rfl | decide +kernel) dX9_longestDelay_19 ?_
  refine cs_i (As := [.int 0, .int 0]) (rest := []) (wr := [(a0, .inr (9, [.int 0, .ref a2, .int 0, .int 0, .int 0, .int 0, .int 0, .int (-1), .ref a1, .ref a3, .ref a4, .ref a5, .int 0, .int 0, .int 0, .int 0, .int 0, .ref a6])), (a1, .inl (cs 0, 45783, .inl (layF (fun _ => 0) 1)))]) ⟨hx, hb, hml, hown, hts⟩ (fun sz => k145_X9_max l D cs sz ) (va_cwS 2 hts gX9_longestDelay_X9_max rfl rfl rfl hdX9_max_o ⟨Nat.le_of_ble_eq_true rfl, Nat.le_of_ble_eq_true rfl⟩) hN hP hD hS hA [] [0, 1] rfl rfl rfl rfl (by decide) rfl rfl hl.1 (Nat.le_of_ble_eq_true rfl) dX9_longestDelay_20 (Nat.le_of_ble_eq_true rfl) (Nat.le_of_ble_eq_true rfl) (fun u54 H locs hP hD hS => ?_)
  have hP : va_P D vwCl [(a0, .inr (9, [.int 0, .ref a2, .int 0, .int 0, .int 0, .int 0, .int 0, .int (-1), .ref a1, .ref a3, .ref a4, .ref a5, .int 0, .int 0, .int 0, .int 0, .int 0, .ref a6])), (a1, .inl (cs 0, 45783, .inl (layF (fun _ => 0) 1)))] H := hP
  have hD : va_D A [(a0, .inr (9, [.int 0, .ref a2, .int 0, .int 0, .int 0, .int 0, .int 0, .int (-1), .ref a1, .ref a3, .ref a4, .ref a5, .int 0, .int 0, .int 0, .int 0, .int 0, .ref a6])), (a1, .inl (cs 0, 45783, .inl (layF (fun _ => 0) 1)))] := hD
  refine W.widen (k := 0) (n := 0) (Nat.le_of_ble_eq_true rfl) (Nat.le_of_ble_eq_true rfl) ?_
  refine lv_istore_n (lv' := [(1, .int 0), (2, .int 54), (0, .ref a0)]) hx hb dX9_longestDelay_23 rfl hl (by decide) rfl (fun ls hl => ?_)
  refine lv_iinc (v := 55) (lv' := [(2, .int 55), (1, .int 0), (0, .ref a0)]) hx hb dX9_longestDelay_24 hl (k := 1) rfl (by decide) (by decide) rfl (fun ls hl => ?_)
  refine lv_goto (tgt := 4) hx hb dX9_longestDelay_27 (by decide) ?_
  refine lv_iload_n hx hb dX9_longestDelay_4 rfl (lv_at hl 0 rfl) ?_
  refine lv_bipush (v := 64) hx hb dX9_longestDelay_5 (by decide) ?_
  refine lv_icmp_ge (tgt := 30) hx hb dX9_longestDelay_7 (by decide) (fun c9 => absurd c9 (by decide)) (fun _ => ?_)
  refine lv_iload_n hx hb dX9_longestDelay_10 rfl (lv_at hl 1 rfl) ?_
  refine lv_aload_n hx hb dX9_longestDelay_11 rfl (lv_at hl 2 rfl) ?_
  refine va_get (D := D) (ci := 9) (v := .ref a1) (C := RX9) (T := TX9) (N := 18) hx hb hts iX9_longestDelay_9 hown hN.1 hP 0 rfl rfl 8 (by decide) (hts _ mX9_longestDelay_1) (fun _ h9 => h9) rfl dX9_longestDelay_12 ?_
  refine lv_bipush (v := 119) hx hb dX9_longestDelay_15 (by decide) ?_
  refine lv_iload_n hx hb dX9_longestDelay_17 rfl (lv_at hl 0 rfl) ?_
  refine lv_iadd hx hb dX9_longestDelay_18 ?_
  refine tp_i (174) (by decide) ?_
  refine ld_i (v := 0) hx hb hN hP 1 rfl (vin (by decide +kernel)) (by first | rfl | decide +kernel) dX9_longestDelay_19 ?_
  refine cs_i (As := [.int 0, .int 0]) (rest := []) (wr := [(a0, .inr (9, [.int 0, .ref a2, .int 0, .int 0, .int 0, .int 0, .int 0, .int (-1), .ref a1, .ref a3, .ref a4, .ref a5, .int 0, .int 0, .int 0, .int 0, .int 0, .ref a6])), (a1, .inl (cs 0, 45783, .inl (layF (fun _ => 0) 1)))]) ⟨hx, hb, hml, hown, hts⟩ (fun sz => k145_X9_max l D cs sz ) (va_cwS 2 hts gX9_longestDelay_X9_max rfl rfl rfl hdX9_max_o ⟨Nat.le_of_ble_eq_true rfl, Nat.le_of_ble_eq_true rfl⟩) hN hP hD hS hA [] [0, 1] rfl rfl rfl rfl (by decide) rfl rfl hl.1 (Nat.le_of_ble_eq_true rfl) dX9_longestDelay_20 (Nat.le_of_ble_eq_true rfl) (Nat.le_of_ble_eq_true rfl) (fun u55 H locs hP hD hS => ?_)
  have hP : va_P D vwCl [(a0, .inr (9, [.int 0, .ref a2, .int 0, .int 0, .int 0, .int 0, .int 0, .int (-1), .ref a1, .ref a3, .ref a4, .ref a5, .int 0, .int 0, .int 0, .int 0, .int 0, .ref a6])), (a1, .inl (cs 0, 45783, .inl (layF (fun _ => 0) 1)))] H := hP
  have hD : va_D A [(a0, .inr (9, [.int 0, .ref a2, .int 0, .int 0, .int 0, .int 0, .int 0, .int (-1), .ref a1, .ref a3, .ref a4, .ref a5, .int 0, .int 0, .int 0, .int 0, .int 0, .ref a6])), (a1, .inl (cs 0, 45783, .inl (layF (fun _ => 0) 1)))] := hD
  refine W.widen (k := 0) (n := 0) (Nat.le_of_ble_eq_true rfl) (Nat.le_of_ble_eq_true rfl) ?_
  refine lv_istore_n (lv' := [(1, .int 0), (2, .int 55), (0, .ref a0)]) hx hb dX9_longestDelay_23 rfl hl (by decide) rfl (fun ls hl => ?_)
  refine lv_iinc (v := 56) (lv' := [(2, .int 56), (1, .int 0), (0, .ref a0)]) hx hb dX9_longestDelay_24 hl (k := 1) rfl (by decide) (by decide) rfl (fun ls hl => ?_)
  refine lv_goto (tgt := 4) hx hb dX9_longestDelay_27 (by decide) ?_
  refine lv_iload_n hx hb dX9_longestDelay_4 rfl (lv_at hl 0 rfl) ?_
  refine lv_bipush (v := 64) hx hb dX9_longestDelay_5 (by decide) ?_
  refine lv_icmp_ge (tgt := 30) hx hb dX9_longestDelay_7 (by decide) (fun c9 => absurd c9 (by decide)) (fun _ => ?_)
  refine lv_iload_n hx hb dX9_longestDelay_10 rfl (lv_at hl 1 rfl) ?_
  refine lv_aload_n hx hb dX9_longestDelay_11 rfl (lv_at hl 2 rfl) ?_
  refine va_get (D := D) (ci := 9) (v := .ref a1) (C := RX9) (T := TX9) (N := 18) hx hb hts iX9_longestDelay_9 hown hN.1 hP 0 rfl rfl 8 (by decide) (hts _ mX9_longestDelay_1) (fun _ h9 => h9) rfl dX9_longestDelay_12 ?_
  refine lv_bipush (v := 119) hx hb dX9_longestDelay_15 (by decide) ?_
  refine lv_iload_n hx hb dX9_longestDelay_17 rfl (lv_at hl 0 rfl) ?_
  refine lv_iadd hx hb dX9_longestDelay_18 ?_
  refine tp_i (175) (by decide) ?_
  refine ld_i (v := 0) hx hb hN hP 1 rfl (vin (by decide +kernel)) (by first | rfl | decide +kernel) dX9_longestDelay_19 ?_
  refine cs_i (As := [.int 0, .int 0]) (rest := []) (wr := [(a0, .inr (9, [.int 0, .ref a2, .int 0, .int 0, .int 0, .int 0, .int 0, .int (-1), .ref a1, .ref a3, .ref a4, .ref a5, .int 0, .int 0, .int 0, .int 0, .int 0, .ref a6])), (a1, .inl (cs 0, 45783, .inl (layF (fun _ => 0) 1)))]) ⟨hx, hb, hml, hown, hts⟩ (fun sz => k145_X9_max l D cs sz ) (va_cwS 2 hts gX9_longestDelay_X9_max rfl rfl rfl hdX9_max_o ⟨Nat.le_of_ble_eq_true rfl, Nat.le_of_ble_eq_true rfl⟩) hN hP hD hS hA [] [0, 1] rfl rfl rfl rfl (by decide) rfl rfl hl.1 (Nat.le_of_ble_eq_true rfl) dX9_longestDelay_20 (Nat.le_of_ble_eq_true rfl) (Nat.le_of_ble_eq_true rfl) (fun u56 H locs hP hD hS => ?_)
  have hP : va_P D vwCl [(a0, .inr (9, [.int 0, .ref a2, .int 0, .int 0, .int 0, .int 0, .int 0, .int (-1), .ref a1, .ref a3, .ref a4, .ref a5, .int 0, .int 0, .int 0, .int 0, .int 0, .ref a6])), (a1, .inl (cs 0, 45783, .inl (layF (fun _ => 0) 1)))] H := hP
  have hD : va_D A [(a0, .inr (9, [.int 0, .ref a2, .int 0, .int 0, .int 0, .int 0, .int 0, .int (-1), .ref a1, .ref a3, .ref a4, .ref a5, .int 0, .int 0, .int 0, .int 0, .int 0, .ref a6])), (a1, .inl (cs 0, 45783, .inl (layF (fun _ => 0) 1)))] := hD
  refine W.widen (k := 0) (n := 0) (Nat.le_of_ble_eq_true rfl) (Nat.le_of_ble_eq_true rfl) ?_
  refine lv_istore_n (lv' := [(1, .int 0), (2, .int 56), (0, .ref a0)]) hx hb dX9_longestDelay_23 rfl hl (by decide) rfl (fun ls hl => ?_)
  refine lv_iinc (v := 57) (lv' := [(2, .int 57), (1, .int 0), (0, .ref a0)]) hx hb dX9_longestDelay_24 hl (k := 1) rfl (by decide) (by decide) rfl (fun ls hl => ?_)
  refine lv_goto (tgt := 4) hx hb dX9_longestDelay_27 (by decide) ?_
  refine lv_iload_n hx hb dX9_longestDelay_4 rfl (lv_at hl 0 rfl) ?_
  refine lv_bipush (v := 64) hx hb dX9_longestDelay_5 (by decide) ?_
  refine lv_icmp_ge (tgt := 30) hx hb dX9_longestDelay_7 (by decide) (fun c9 => absurd c9 (by decide)) (fun _ => ?_)
  refine lv_iload_n hx hb dX9_longestDelay_10 rfl (lv_at hl 1 rfl) ?_
  refine lv_aload_n hx hb dX9_longestDelay_11 rfl (lv_at hl 2 rfl) ?_
  refine va_get (D := D) (ci := 9) (v := .ref a1) (C := RX9) (T := TX9) (N := 18) hx hb hts iX9_longestDelay_9 hown hN.1 hP 0 rfl rfl 8 (by decide) (hts _ mX9_longestDelay_1) (fun _ h9 => h9) rfl dX9_longestDelay_12 ?_
  refine lv_bipush (v := 119) hx hb dX9_longestDelay_15 (by decide) ?_
  refine lv_iload_n hx hb dX9_longestDelay_17 rfl (lv_at hl 0 rfl) ?_
  refine lv_iadd hx hb dX9_longestDelay_18 ?_
  refine tp_i (176) (by decide) ?_
  refine ld_i (v := 0) hx hb hN hP 1 rfl (vin (by decide +kernel)) (by first | rfl | decide +kernel) dX9_longestDelay_19 ?_
  refine cs_i (As := [.int 0, .int 0]) (rest := []) (wr := [(a0, .inr (9, [.int 0, .ref a2, .int 0, .int 0, .int 0, .int 0, .int 0, .int (-1), .ref a1, .ref a3, .ref a4, .ref a5, .int 0, .int 0, .int 0, .int 0, .int 0, .ref a6])), (a1, .inl (cs 0, 45783, .inl (layF (fun _ => 0) 1)))]) ⟨hx, hb, hml, hown, hts⟩ (fun sz => k145_X9_max l D cs sz ) (va_cwS 2 hts gX9_longestDelay_X9_max rfl rfl rfl hdX9_max_o ⟨Nat.le_of_ble_eq_true rfl, Nat.le_of_ble_eq_true rfl⟩) hN hP hD hS hA [] [0, 1] rfl rfl rfl rfl (by decide) rfl rfl hl.1 (Nat.le_of_ble_eq_true rfl) dX9_longestDelay_20 (Nat.le_of_ble_eq_true rfl) (Nat.le_of_ble_eq_true rfl) (fun u57 H locs hP hD hS => ?_)
  have hP : va_P D vwCl [(a0, .inr (9, [.int 0, .ref a2, .int 0, .int 0, .int 0, .int 0, .int 0, .int (-1), .ref a1, .ref a3, .ref a4, .ref a5, .int 0, .int 0, .int 0, .int 0, .int 0, .ref a6])), (a1, .inl (cs 0, 45783, .inl (layF (fun _ => 0) 1)))] H := hP
  have hD : va_D A [(a0, .inr (9, [.int 0, .ref a2, .int 0, .int 0, .int 0, .int 0, .int 0, .int (-1), .ref a1, .ref a3, .ref a4, .ref a5, .int 0, .int 0, .int 0, .int 0, .int 0, .ref a6])), (a1, .inl (cs 0, 45783, .inl (layF (fun _ => 0) 1)))] := hD
  refine W.widen (k := 0) (n := 0) (Nat.le_of_ble_eq_true rfl) (Nat.le_of_ble_eq_true rfl) ?_
  refine lv_istore_n (lv' := [(1, .int 0), (2, .int 57), (0, .ref a0)]) hx hb dX9_longestDelay_23 rfl hl (by decide) rfl (fun ls hl => ?_)
  refine lv_iinc (v := 58) (lv' := [(2, .int 58), (1, .int 0), (0, .ref a0)]) hx hb dX9_longestDelay_24 hl (k := 1) rfl (by decide) (by decide) rfl (fun ls hl => ?_)
  refine lv_goto (tgt := 4) hx hb dX9_longestDelay_27 (by decide) ?_
  refine lv_iload_n hx hb dX9_longestDelay_4 rfl (lv_at hl 0 rfl) ?_
  refine lv_bipush (v := 64) hx hb dX9_longestDelay_5 (by decide) ?_
  refine lv_icmp_ge (tgt := 30) hx hb dX9_longestDelay_7 (by decide) (fun c9 => absurd c9 (by decide)) (fun _ => ?_)
  refine lv_iload_n hx hb dX9_longestDelay_10 rfl (lv_at hl 1 rfl) ?_
  refine lv_aload_n hx hb dX9_longestDelay_11 rfl (lv_at hl 2 rfl) ?_
  refine va_get (D := D) (ci := 9) (v := .ref a1) (C := RX9) (T := TX9) (N := 18) hx hb hts iX9_longestDelay_9 hown hN.1 hP 0 rfl rfl 8 (by decide) (hts _ mX9_longestDelay_1) (fun _ h9 => h9) rfl dX9_longestDelay_12 ?_
  refine lv_bipush (v := 119) hx hb dX9_longestDelay_15 (by decide) ?_
  refine lv_iload_n hx hb dX9_longestDelay_17 rfl (lv_at hl 0 rfl) ?_
  refine lv_iadd hx hb dX9_longestDelay_18 ?_
  refine tp_i (177) (by decide) ?_
  refine ld_i (v := 0) hx hb hN hP 1 rfl (vin (by decide +kernel)) (by first | rfl | decide +kernel) dX9_longestDelay_19 ?_
  refine cs_i (As := [.int 0, .int 0]) (rest := []) (wr := [(a0, .inr (9, [.int 0, .ref a2, .int 0, .int 0, .int 0, .int 0, .int 0, .int (-1), .ref a1, .ref a3, .ref a4, .ref a5, .int 0, .int 0, .int 0, .int 0, .int 0, .ref a6])), (a1, .inl (cs 0, 45783, .inl (layF (fun _ => 0) 1)))]) ⟨hx, hb, hml, hown, hts⟩ (fun sz => k145_X9_max l D cs sz ) (va_cwS 2 hts gX9_longestDelay_X9_max rfl rfl rfl hdX9_max_o ⟨Nat.le_of_ble_eq_true rfl, Nat.le_of_ble_eq_true rfl⟩) hN hP hD hS hA [] [0, 1] rfl rfl rfl rfl (by decide) rfl rfl hl.1 (Nat.le_of_ble_eq_true rfl) dX9_longestDelay_20 (Nat.le_of_ble_eq_true rfl) (Nat.le_of_ble_eq_true rfl) (fun u58 H locs hP hD hS => ?_)
  have hP : va_P D vwCl [(a0, .inr (9, [.int 0, .ref a2, .int 0, .int 0, .int 0, .int 0, .int 0, .int (-1), .ref a1, .ref a3, .ref a4, .ref a5, .int 0, .int 0, .int 0, .int 0, .int 0, .ref a6])), (a1, .inl (cs 0, 45783, .inl (layF (fun _ => 0) 1)))] H := hP
  have hD : va_D A [(a0, .inr (9, [.int 0, .ref a2, .int 0, .int 0, .int 0, .int 0, .int 0, .int (-1), .ref a1, .ref a3, .ref a4, .ref a5, .int 0, .int 0, .int 0, .int 0, .int 0, .ref a6])), (a1, .inl (cs 0, 45783, .inl (layF (fun _ => 0) 1)))] := hD
  refine W.widen (k := 0) (n := 0) (Nat.le_of_ble_eq_true rfl) (Nat.le_of_ble_eq_true rfl) ?_
  refine lv_istore_n (lv' := [(1, .int 0), (2, .int 58), (0, .ref a0)]) hx hb dX9_longestDelay_23 rfl hl (by decide) rfl (fun ls hl => ?_)
  refine lv_iinc (v := 59) (lv' := [(2, .int 59), (1, .int 0), (0, .ref a0)]) hx hb dX9_longestDelay_24 hl (k := 1) rfl (by decide) (by decide) rfl (fun ls hl => ?_)
  refine lv_goto (tgt := 4) hx hb dX9_longestDelay_27 (by decide) ?_
  refine lv_iload_n hx hb dX9_longestDelay_4 rfl (lv_at hl 0 rfl) ?_
  refine lv_bipush (v := 64) hx hb dX9_longestDelay_5 (by decide) ?_
  refine lv_icmp_ge (tgt := 30) hx hb dX9_longestDelay_7 (by decide) (fun c9 => absurd c9 (by decide)) (fun _ => ?_)
  refine lv_iload_n hx hb dX9_longestDelay_10 rfl (lv_at hl 1 rfl) ?_
  refine lv_aload_n hx hb dX9_longestDelay_11 rfl (lv_at hl 2 rfl) ?_
  refine va_get (D := D) (ci := 9) (v := .ref a1) (C := RX9) (T := TX9) (N := 18) hx hb hts iX9_longestDelay_9 hown hN.1 hP 0 rfl rfl 8 (by decide) (hts _ mX9_longestDelay_1) (fun _ h9 => h9) rfl dX9_longestDelay_12 ?_
  refine lv_bipush (v := 119) hx hb dX9_longestDelay_15 (by decide) ?_
  refine lv_iload_n hx hb dX9_longestDelay_17 rfl (lv_at hl 0 rfl) ?_
  refine lv_iadd hx hb dX9_longestDelay_18 ?_
  refine tp_i (178) (by decide) ?_
  refine ld_i (v := 0) hx hb hN hP 1 rfl (vin (by decide +kernel)) (by first | rfl | decide +kernel) dX9_longestDelay_19 ?_
  refine cs_i (As := [.int 0, .int 0]) (rest := []) (wr := [(a0, .inr (9, [.int 0, .ref a2, .int 0, .int 0, .int 0, .int 0, .int 0, .int (-1), .ref a1, .ref a3, .ref a4, .ref a5, .int 0, .int 0, .int 0, .int 0, .int 0, .ref a6])), (a1, .inl (cs 0, 45783, .inl (layF (fun _ => 0) 1)))]) ⟨hx, hb, hml, hown, hts⟩ (fun sz => k145_X9_max l D cs sz ) (va_cwS 2 hts gX9_longestDelay_X9_max rfl rfl rfl hdX9_max_o ⟨Nat.le_of_ble_eq_true rfl, Nat.le_of_ble_eq_true rfl⟩) hN hP hD hS hA [] [0, 1] rfl rfl rfl rfl (by decide) rfl rfl hl.1 (Nat.le_of_ble_eq_true rfl) dX9_longestDelay_20 (Nat.le_of_ble_eq_true rfl) (Nat.le_of_ble_eq_true rfl) (fun u59 H locs hP hD hS => ?_)
  have hP : va_P D vwCl [(a0, .inr (9, [.int 0, .ref a2, .int 0, .int 0, .int 0, .int 0, .int 0, .int (-1), .ref a1, .ref a3, .ref a4, .ref a5, .int 0, .int 0, .int 0, .int 0, .int 0, .ref a6])), (a1, .inl (cs 0, 45783, .inl (layF (fun _ => 0) 1)))] H := hP
  have hD : va_D A [(a0, .inr (9, [.int 0, .ref a2, .int 0, .int 0, .int 0, .int 0, .int 0, .int (-1), .ref a1, .ref a3, .ref a4, .ref a5, .int 0, .int 0, .int 0, .int 0, .int 0, .ref a6])), (a1, .inl (cs 0, 45783, .inl (layF (fun _ => 0) 1)))] := hD
  refine W.widen (k := 0) (n := 0) (Nat.le_of_ble_eq_true rfl) (Nat.le_of_ble_eq_true rfl) ?_
  refine lv_istore_n (lv' := [(1, .int 0), (2, .int 59), (0, .ref a0)]) hx hb dX9_longestDelay_23 rfl hl (by decide) rfl (fun ls hl => ?_)
  refine lv_iinc (v := 60) (lv' := [(2, .int 60), (1, .int 0), (0, .ref a0)]) hx hb dX9_longestDelay_24 hl (k := 1) rfl (by decide) (by decide) rfl (fun ls hl => ?_)
  refine lv_goto (tgt := 4) hx hb dX9_longestDelay_27 (by decide) ?_
  refine lv_iload_n hx hb dX9_longestDelay_4 rfl (lv_at hl 0 rfl) ?_
  refine lv_bipush (v := 64) hx hb dX9_longestDelay_5 (by decide) ?_
  refine lv_icmp_ge (tgt := 30) hx hb dX9_longestDelay_7 (by decide) (fun c9 => absurd c9 (by decide)) (fun _ => ?_)
  refine lv_iload_n hx hb dX9_longestDelay_10 rfl (lv_at hl 1 rfl) ?_
  refine lv_aload_n hx hb dX9_longestDelay_11 rfl (lv_at hl 2 rfl) ?_
  refine va_get (D := D) (ci := 9) (v := .ref a1) (C := RX9) (T := TX9) (N := 18) hx hb hts iX9_longestDelay_9 hown hN.1 hP 0 rfl rfl 8 (by decide) (hts _ mX9_longestDelay_1) (fun _ h9 => h9) rfl dX9_longestDelay_12 ?_
  refine lv_bipush (v := 119) hx hb dX9_longestDelay_15 (by decide) ?_
  refine lv_iload_n hx hb dX9_longestDelay_17 rfl (lv_at hl 0 rfl) ?_
  refine lv_iadd hx hb dX9_longestDelay_18 ?_
  refine tp_i (179) (by decide) ?_
  refine ld_i (v := 0) hx hb hN hP 1 rfl (vin (by decide +kernel)) (by first | rfl | decide +kernel) dX9_longestDelay_19 ?_
  refine cs_i (As := [.int 0, .int 0]) (rest := []) (wr := [(a0, .inr (9, [.int 0, .ref a2, .int 0, .int 0, .int 0, .int 0, .int 0, .int (-1), .ref a1, .ref a3, .ref a4, .ref a5, .int 0, .int 0, .int 0, .int 0, .int 0, .ref a6])), (a1, .inl (cs 0, 45783, .inl (layF (fun _ => 0) 1)))]) ⟨hx, hb, hml, hown, hts⟩ (fun sz => k145_X9_max l D cs sz ) (va_cwS 2 hts gX9_longestDelay_X9_max rfl rfl rfl hdX9_max_o ⟨Nat.le_of_ble_eq_true rfl, Nat.le_of_ble_eq_true rfl⟩) hN hP hD hS hA [] [0, 1] rfl rfl rfl rfl (by decide) rfl rfl hl.1 (Nat.le_of_ble_eq_true rfl) dX9_longestDelay_20 (Nat.le_of_ble_eq_true rfl) (Nat.le_of_ble_eq_true rfl) (fun u60 H locs hP hD hS => ?_)
  have hP : va_P D vwCl [(a0, .inr (9, [.int 0, .ref a2, .int 0, .int 0, .int 0, .int 0, .int 0, .int (-1), .ref a1, .ref a3, .ref a4, .ref a5, .int 0, .int 0, .int 0, .int 0, .int 0, .ref a6])), (a1, .inl (cs 0, 45783, .inl (layF (fun _ => 0) 1)))] H := hP
  have hD : va_D A [(a0, .inr (9, [.int 0, .ref a2, .int 0, .int 0, .int 0, .int 0, .int 0, .int (-1), .ref a1, .ref a3, .ref a4, .ref a5, .int 0, .int 0, .int 0, .int 0, .int 0, .ref a6])), (a1, .inl (cs 0, 45783, .inl (layF (fun _ => 0) 1)))] := hD
  refine W.widen (k := 0) (n := 0) (Nat.le_of_ble_eq_true rfl) (Nat.le_of_ble_eq_true rfl) ?_
  refine lv_istore_n (lv' := [(1, .int 0), (2, .int 60), (0, .ref a0)]) hx hb dX9_longestDelay_23 rfl hl (by decide) rfl (fun ls hl => ?_)
  refine lv_iinc (v := 61) (lv' := [(2, .int 61), (1, .int 0), (0, .ref a0)]) hx hb dX9_longestDelay_24 hl (k := 1) rfl (by decide) (by decide) rfl (fun ls hl => ?_)
  refine lv_goto (tgt := 4) hx hb dX9_longestDelay_27 (by decide) ?_
  refine lv_iload_n hx hb dX9_longestDelay_4 rfl (lv_at hl 0 rfl) ?_
  refine lv_bipush (v := 64) hx hb dX9_longestDelay_5 (by decide) ?_
  refine lv_icmp_ge (tgt := 30) hx hb dX9_longestDelay_7 (by decide) (fun c9 => absurd c9 (by decide)) (fun _ => ?_)
  refine lv_iload_n hx hb dX9_longestDelay_10 rfl (lv_at hl 1 rfl) ?_
  refine lv_aload_n hx hb dX9_longestDelay_11 rfl (lv_at hl 2 rfl) ?_
  refine va_get (D := D) (ci := 9) (v := .ref a1) (C := RX9) (T := TX9) (N := 18) hx hb hts iX9_longestDelay_9 hown hN.1 hP 0 rfl rfl 8 (by decide) (hts _ mX9_longestDelay_1) (fun _ h9 => h9) rfl dX9_longestDelay_12 ?_
  refine lv_bipush (v := 119) hx hb dX9_longestDelay_15 (by decide) ?_
  refine lv_iload_n hx hb dX9_longestDelay_17 rfl (lv_at hl 0 rfl) ?_
  refine lv_iadd hx hb dX9_longestDelay_18 ?_
  refine tp_i (180) (by decide) ?_
  refine ld_i (v := 0) hx hb hN hP 1 rfl (vin (by decide +kernel)) (by first | rfl | decide +kernel) dX9_longestDelay_19 ?_
  refine cs_i (As := [.int 0, .int 0]) (rest := []) (wr := [(a0, .inr (9, [.int 0, .ref a2, .int 0, .int 0, .int 0, .int 0, .int 0, .int (-1), .ref a1, .ref a3, .ref a4, .ref a5, .int 0, .int 0, .int 0, .int 0, .int 0, .ref a6])), (a1, .inl (cs 0, 45783, .inl (layF (fun _ => 0) 1)))]) ⟨hx, hb, hml, hown, hts⟩ (fun sz => k145_X9_max l D cs sz ) (va_cwS 2 hts gX9_longestDelay_X9_max rfl rfl rfl hdX9_max_o ⟨Nat.le_of_ble_eq_true rfl, Nat.le_of_ble_eq_true rfl⟩) hN hP hD hS hA [] [0, 1] rfl rfl rfl rfl (by decide) rfl rfl hl.1 (Nat.le_of_ble_eq_true rfl) dX9_longestDelay_20 (Nat.le_of_ble_eq_true rfl) (Nat.le_of_ble_eq_true rfl) (fun u61 H locs hP hD hS => ?_)
  have hP : va_P D vwCl [(a0, .inr (9, [.int 0, .ref a2, .int 0, .int 0, .int 0, .int 0, .int 0, .int (-1), .ref a1, .ref a3, .ref a4, .ref a5, .int 0, .int 0, .int 0, .int 0, .int 0, .ref a6])), (a1, .inl (cs 0, 45783, .inl (layF (fun _ => 0) 1)))] H := hP
  have hD : va_D A [(a0, .inr (9, [.int 0, .ref a2, .int 0, .int 0, .int 0, .int 0, .int 0, .int (-1), .ref a1, .ref a3, .ref a4, .ref a5, .int 0, .int 0, .int 0, .int 0, .int 0, .ref a6])), (a1, .inl (cs 0, 45783, .inl (layF (fun _ => 0) 1)))] := hD
  refine W.widen (k := 0) (n := 0) (Nat.le_of_ble_eq_true rfl) (Nat.le_of_ble_eq_true rfl) ?_
  refine lv_istore_n (lv' := [(1, .int 0), (2, .int 61), (0, .ref a0)]) hx hb dX9_longestDelay_23 rfl hl (by decide) rfl (fun ls hl => ?_)
  refine lv_iinc (v := 62) (lv' := [(2, .int 62), (1, .int 0), (0, .ref a0)]) hx hb dX9_longestDelay_24 hl (k := 1) rfl (by decide) (by decide) rfl (fun ls hl => ?_)
  refine lv_goto (tgt := 4) hx hb dX9_longestDelay_27 (by decide) ?_
  refine lv_iload_n hx hb dX9_longestDelay_4 rfl (lv_at hl 0 rfl) ?_
  refine lv_bipush (v := 64) hx hb dX9_longestDelay_5 (by decide) ?_
  refine lv_icmp_ge (tgt := 30) hx hb dX9_longestDelay_7 (by decide) (fun c9 => absurd c9 (by decide)) (fun _ => ?_)
  refine lv_iload_n hx hb dX9_longestDelay_10 rfl (lv_at hl 1 rfl) ?_
  refine lv_aload_n hx hb dX9_longestDelay_11 rfl (lv_at hl 2 rfl) ?_
  refine va_get (D := D) (ci := 9) (v := .ref a1) (C := RX9) (T := TX9) (N := 18) hx hb hts iX9_longestDelay_9 hown hN.1 hP 0 rfl rfl 8 (by decide) (hts _ mX9_longestDelay_1) (fun _ h9 => h9) rfl dX9_longestDelay_12 ?_
  refine lv_bipush (v := 119) hx hb dX9_longestDelay_15 (by decide) ?_
  refine lv_iload_n hx hb dX9_longestDelay_17 rfl (lv_at hl 0 rfl) ?_
  refine lv_iadd hx hb dX9_longestDelay_18 ?_
  refine tp_i (181) (by decide) ?_
  refine ld_i (v := 0) hx hb hN hP 1 rfl (vin (by decide +kernel)) (by first | rfl | decide +kernel) dX9_longestDelay_19 ?_
  refine cs_i (As := [.int 0, .int 0]) (rest := []) (wr := [(a0, .inr (9, [.int 0, .ref a2, .int 0, .int 0, .int 0, .int 0, .int 0, .int (-1), .ref a1, .ref a3, .ref a4, .ref a5, .int 0, .int 0, .int 0, .int 0, .int 0, .ref a6])), (a1, .inl (cs 0, 45783, .inl (layF (fun _ => 0) 1)))]) ⟨hx, hb, hml, hown, hts⟩ (fun sz => k145_X9_max l D cs sz ) (va_cwS 2 hts gX9_longestDelay_X9_max rfl rfl rfl hdX9_max_o ⟨Nat.le_of_ble_eq_true rfl, Nat.le_of_ble_eq_true rfl⟩) hN hP hD hS hA [] [0, 1] rfl rfl rfl rfl (by decide) rfl rfl hl.1 (Nat.le_of_ble_eq_true rfl) dX9_longestDelay_20 (Nat.le_of_ble_eq_true rfl) (Nat.le_of_ble_eq_true rfl) (fun u62 H locs hP hD hS => ?_)
  have hP : va_P D vwCl [(a0, .inr (9, [.int 0, .ref a2, .int 0, .int 0, .int 0, .int 0, .int 0, .int (-1), .ref a1, .ref a3, .ref a4, .ref a5, .int 0, .int 0, .int 0, .int 0, .int 0, .ref a6])), (a1, .inl (cs 0, 45783, .inl (layF (fun _ => 0) 1)))] H := hP
  have hD : va_D A [(a0, .inr (9, [.int 0, .ref a2, .int 0, .int 0, .int 0, .int 0, .int 0, .int (-1), .ref a1, .ref a3, .ref a4, .ref a5, .int 0, .int 0, .int 0, .int 0, .int 0, .ref a6])), (a1, .inl (cs 0, 45783, .inl (layF (fun _ => 0) 1)))] := hD
  refine W.widen (k := 0) (n := 0) (Nat.le_of_ble_eq_true rfl) (Nat.le_of_ble_eq_true rfl) ?_
  refine lv_istore_n (lv' := [(1, .int 0), (2, .int 62), (0, .ref a0)]) hx hb dX9_longestDelay_23 rfl hl (by decide) rfl (fun ls hl => ?_)
  refine lv_iinc (v := 63) (lv' := [(2, .int 63), (1, .int 0), (0, .ref a0)]) hx hb dX9_longestDelay_24 hl (k := 1) rfl (by decide) (by decide) rfl (fun ls hl => ?_)
  refine lv_goto (tgt := 4) hx hb dX9_longestDelay_27 (by decide) ?_
  refine lv_iload_n hx hb dX9_longestDelay_4 rfl (lv_at hl 0 rfl) ?_
  refine lv_bipush (v := 64) hx hb dX9_longestDelay_5 (by decide) ?_
  refine lv_icmp_ge (tgt := 30) hx hb dX9_longestDelay_7 (by decide) (fun c9 => absurd c9 (by decide)) (fun _ => ?_)
  refine lv_iload_n hx hb dX9_longestDelay_10 rfl (lv_at hl 1 rfl) ?_
  refine lv_aload_n hx hb dX9_longestDelay_11 rfl (lv_at hl 2 rfl) ?_
  refine va_get (D := D) (ci := 9) (v := .ref a1) (C := RX9) (T := TX9) (N := 18) hx hb hts iX9_longestDelay_9 hown hN.1 hP 0 rfl rfl 8 (by decide) (hts _ mX9_longestDelay_1) (fun _ h9 => h9) rfl dX9_longestDelay_12 ?_
  refine lv_bipush (v := 119) hx hb dX9_longestDelay_15 (by decide) ?_
  refine lv_iload_n hx hb dX9_longestDelay_17 rfl (lv_at hl 0 rfl) ?_
  refine lv_iadd hx hb dX9_longestDelay_18 ?_
  refine tp_i (182) (by decide) ?_
  refine ld_i (v := 0) hx hb hN hP 1 rfl (vin (by decide +kernel)) (by first | rfl | decide +kernel) dX9_longestDelay_19 ?_
  refine cs_i (As := [.int 0, .int 0]) (rest := []) (wr := [(a0, .inr (9, [.int 0, .ref a2, .int 0, .int 0, .int 0, .int 0, .int 0, .int (-1), .ref a1, .ref a3, .ref a4, .ref a5, .int 0, .int 0, .int 0, .int 0, .int 0, .ref a6])), (a1, .inl (cs 0, 45783, .inl (layF (fun _ => 0) 1)))]) ⟨hx, hb, hml, hown, hts⟩ (fun sz => k145_X9_max l D cs sz ) (va_cwS 2 hts gX9_longestDelay_X9_max rfl rfl rfl hdX9_max_o ⟨Nat.le_of_ble_eq_true rfl, Nat.le_of_ble_eq_true rfl⟩) hN hP hD hS hA [] [0, 1] rfl rfl rfl rfl (by decide) rfl rfl hl.1 (Nat.le_of_ble_eq_true rfl) dX9_longestDelay_20 (Nat.le_of_ble_eq_true rfl) (Nat.le_of_ble_eq_true rfl) (fun u63 H locs hP hD hS => ?_)
  have hP : va_P D vwCl [(a0, .inr (9, [.int 0, .ref a2, .int 0, .int 0, .int 0, .int 0, .int 0, .int (-1), .ref a1, .ref a3, .ref a4, .ref a5, .int 0, .int 0, .int 0, .int 0, .int 0, .ref a6])), (a1, .inl (cs 0, 45783, .inl (layF (fun _ => 0) 1)))] H := hP
  have hD : va_D A [(a0, .inr (9, [.int 0, .ref a2, .int 0, .int 0, .int 0, .int 0, .int 0, .int (-1), .ref a1, .ref a3, .ref a4, .ref a5, .int 0, .int 0, .int 0, .int 0, .int 0, .ref a6])), (a1, .inl (cs 0, 45783, .inl (layF (fun _ => 0) 1)))] := hD
  refine W.widen (k := 0) (n := 0) (Nat.le_of_ble_eq_true rfl) (Nat.le_of_ble_eq_true rfl) ?_
  refine lv_istore_n (lv' := [(1, .int 0), (2, .int 63), (0, .ref a0)]) hx hb dX9_longestDelay_23 rfl hl (by decide) rfl (fun ls hl => ?_)
  refine lv_iinc (v := 64) (lv' := [(2, .int 64), (1, .int 0), (0, .ref a0)]) hx hb dX9_longestDelay_24 hl (k := 1) rfl (by decide) (by decide) rfl (fun ls hl => ?_)
  refine lv_goto (tgt := 4) hx hb dX9_longestDelay_27 (by decide) ?_
  refine lv_iload_n hx hb dX9_longestDelay_4 rfl (lv_at hl 0 rfl) ?_
  refine lv_bipush (v := 64) hx hb dX9_longestDelay_5 (by decide) ?_
  refine lv_icmp_ge (tgt := 30) hx hb dX9_longestDelay_7 (by decide) (fun _ => ?_) (fun c9 => absurd (by decide) c9)
  refine lv_iload_n hx hb dX9_longestDelay_30 rfl (lv_at hl 1 rfl) ?_
  exact en_i (fun k => ([] : List Nat).getD k 0) hx hb hr hlocks rfl rfl hP hD hS (Nat.le_of_ble_eq_true rfl) (Nat.le_of_ble_eq_true rfl) dX9_longestDelay_31
set_option maxHeartbeats 4000000 in
set_option maxRecDepth 100000 in
theorem k147_X9_min (l : Launch) (D : va_G) (cs : Nat → ClassId) (sz : Nat) : KI l yX9_min wsX9_min 0 0 0 0 D cs sz [.int 1000, .int 1] [] (fun u => []) (1) := by
  refine KI.of cX9_min 2 (some .int) (by decide) rfl (Nat.le_of_ble_eq_true rfl) ?_
  intro p e s m below meth c A ls hx hb hr hml hown hts hlocks hin hP hN hD hA hS hl
  have hown : s.vm.findClass RX9 = some m.cls := hown
  have hl : lv_has ls 2 [(0, .int 1000), (1, .int 1)] := hl
  refine lv_iload_n hx hb dX9_min_0 rfl (lv_at hl 0 rfl) ?_
  refine lv_iload_n hx hb dX9_min_1 rfl (lv_at hl 1 rfl) ?_
  refine lv_icmp_ge (tgt := 9) hx hb dX9_min_2 (by decide) (fun _ => ?_) (fun c9 => absurd (by decide) c9)
  refine lv_iload_n hx hb dX9_min_9 rfl (lv_at hl 1 rfl) ?_
  exact en_i (fun k => ([] : List Nat).getD k 0) hx hb hr hlocks rfl rfl hP hD hS (Nat.le_of_ble_eq_true rfl) (Nat.le_of_ble_eq_true rfl) dX9_min_10
set_option maxHeartbeats 4000000 in
set_option maxRecDepth 100000 in
theorem k148_X9_max (l : Launch) (D : va_G) (cs : Nat → ClassId) (sz : Nat) : KI l yX9_max wsX9_max 0 0 0 0 D cs sz [.int 1, .int 1] [] (fun u => []) (1) := by
  refine KI.of cX9_max 2 (some .int) (by decide) rfl (Nat.le_of_ble_eq_true rfl) ?_
  intro p e s m below meth c A ls hx hb hr hml hown hts hlocks hin hP hN hD hA hS hl
  have hown : s.vm.findClass RX9 = some m.cls := hown
  have hl : lv_has ls 2 [(0, .int 1), (1, .int 1)] := hl
  refine lv_iload_n hx hb dX9_max_0 rfl (lv_at hl 0 rfl) ?_
  refine lv_iload_n hx hb dX9_max_1 rfl (lv_at hl 1 rfl) ?_
  refine lv_icmp_le (tgt := 9) hx hb dX9_max_2 (by decide) (fun _ => ?_) (fun c9 => absurd (by decide) c9)
  refine lv_iload_n hx hb dX9_max_9 rfl (lv_at hl 1 rfl) ?_
  exact en_i (fun k => ([] : List Nat).getD k 0) hx hb hr hlocks rfl rfl hP hD hS (Nat.le_of_ble_eq_true rfl) (Nat.le_of_ble_eq_true rfl) dX9_max_10
theorem hdX9_longestDelay_v : yX9_longestDelay.cls = RX9 ∧ yX9_longestDelay.cls ≠ "java/lang/invoke/MethodHandle" ∧ yX9_longestDelay.cls ≠ "java/lang/invoke/VarHandle" ∧ (parseMethodDescriptor yX9_longestDelay.desc).map (fun d => d.parameters.length) = some 0 := by decide +kernel
theorem hdX9_min_o : yX9_min.cls ≠ "java/lang/invoke/MethodHandle" ∧ yX9_min.cls ≠ "java/lang/invoke/VarHandle" ∧ (parseMethodDescriptor yX9_min.desc).map (fun d => d.parameters.length) = some 2 := by decide +kernel
set_option maxHeartbeats 4000000 in
set_option maxRecDepth 100000 in
theorem k149_X9_margin (l : Launch) (D : va_G) (cs : Nat → ClassId) (sz : Nat) (a0 a1 a2 a3 a4 a5 a6 : Nat) : KI l yX9_margin wsX9_margin 2 43 0 0 D cs sz [.ref a0, .int 1] [(a0, .inr (9, [.int 0, .ref a2, .int 0, .int 0, .int 0, .int 0, .int 0, .int (-1), .ref a1, .ref a3, .ref a4, .ref a5, .int 0, .int 0, .int 0, .int 0, .int 0, .ref a6])), (a1, .inl (cs 0, 45783, .inl (layF (fun _ => 0) 1)))] (fun u => [(a0, .inr (9, [.int 0, .ref a2, .int 0, .int 0, .int 0, .int 0, .int 0, .int (-1), .ref a1, .ref a3, .ref a4, .ref a5, .int 0, .int 0, .int 0, .int 0, .int 0, .ref a6])), (a1, .inl (cs 0, 45783, .inl (layF (fun _ => 0) 1)))]) (1) := by
  refine KI.of cX9_margin 2 (some .int) (by decide) rfl (Nat.le_of_ble_eq_true rfl) ?_
  intro p e s m below meth c A ls hx hb hr hml hown hts hlocks hin hP hN hD hA hS hl
  have hown : s.vm.findClass RX9 = some m.cls := hown
  have hl : lv_has ls 2 [(0, .ref a0), (1, .int 1)] := hl
  refine lv_iconst (v := 1) hx hb dX9_margin_0 (by decide) ?_
  refine lv_sipush (v := 1000) hx hb dX9_margin_1 (by decide) ?_
  refine lv_aload_n hx hb dX9_margin_4 rfl (lv_at hl 0 rfl) ?_
  refine va_get (D := D) (ci := 9) (v := .ref a1) (C := RX9) (T := TX9) (N := 18) hx hb hts iX9_margin_9 hown hN.1 hP 0 rfl rfl 8 (by decide) (hts _ mX9_margin_1) (fun _ h9 => h9) rfl dX9_margin_5 ?_
  refine lv_bipush (v := 13) hx hb dX9_margin_8 (by decide) ?_
  refine ld_i (v := 0) hx hb hN hP 1 rfl (vin (by decide +kernel)) (by first | rfl | decide +kernel) dX9_margin_10 ?_
  refine lv_iconst (v := 1) hx hb dX9_margin_11 (by decide) ?_
  refine lv_icmp_ne (tgt := 23) hx hb dX9_margin_12 (by decide) (fun _ => ?_) (fun c9 => absurd c9 (by decide))
  refine lv_iconst (v := 2) hx hb dX9_margin_23 (by decide) ?_
  refine lv_aload_n hx hb dX9_margin_24 rfl (lv_at hl 0 rfl) ?_
  refine cv_i (As := []) (rest := [.int 2, .int 1000, .int 1]) (b := a0) (wr := []) ⟨hx, hb, hml, hown, hts⟩ (fun sz => k146_X9_longestDelay l D cs sz a0 a1 a2 a3 a4 a5 a6) (cwV 0 hts gX9_margin_X9_longestDelay rfl rfl rfl hdX9_longestDelay_v ⟨Nat.le_of_ble_eq_true rfl, Nat.le_of_ble_eq_true rfl⟩) hN hP hD hS hA [0, 1] [] rfl rfl rfl rfl (by decide) (ci := 9) (q0 := 0) rfl rfl rfl rfl hl.1 (Nat.le_of_ble_eq_true rfl) dX9_margin_25 (Nat.le_of_ble_eq_true rfl) (Nat.le_of_ble_eq_true rfl) (fun u0 H locs hP hD hS => ?_)
  have hP : va_P D vwCl [(a0, .inr (9, [.int 0, .ref a2, .int 0, .int 0, .int 0, .int 0, .int 0, .int (-1), .ref a1, .ref a3, .ref a4, .ref a5, .int 0, .int 0, .int 0, .int 0, .int 0, .ref a6])), (a1, .inl (cs 0, 45783, .inl (layF (fun _ => 0) 1)))] H := hP
  have hD : va_D A [(a0, .inr (9, [.int 0, .ref a2, .int 0, .int 0, .int 0, .int 0, .int 0, .int (-1), .ref a1, .ref a3, .ref a4, .ref a5, .int 0, .int 0, .int 0, .int 0, .int 0, .ref a6])), (a1, .inl (cs 0, 45783, .inl (layF (fun _ => 0) 1)))] := hD
  refine W.widen (k := 0) (n := 0) (Nat.le_of_ble_eq_true rfl) (Nat.le_of_ble_eq_true rfl) ?_
  refine lv_imul hx hb dX9_margin_28 ?_
  refine tp_i (0) (by decide) ?_
  refine lv_iconst (v := 1) hx hb dX9_margin_29 (by decide) ?_
  refine lv_iadd hx hb dX9_margin_30 ?_
  refine tp_i (1) (by decide) ?_
  refine cs_i (As := [.int 1000, .int 1]) (rest := [.int 1]) (wr := [(a0, .inr (9, [.int 0, .ref a2, .int 0, .int 0, .int 0, .int 0, .int 0, .int (-1), .ref a1, .ref a3, .ref a4, .ref a5, .int 0, .int 0, .int 0, .int 0, .int 0, .ref a6])), (a1, .inl (cs 0, 45783, .inl (layF (fun _ => 0) 1)))]) ⟨hx, hb, hml, hown, hts⟩ (fun sz => k147_X9_min l D cs sz ) (va_cwS 2 hts gX9_margin_X9_min rfl rfl rfl hdX9_min_o ⟨Nat.le_of_ble_eq_true rfl, Nat.le_of_ble_eq_true rfl⟩) hN hP hD hS hA [] [0, 1] rfl rfl rfl rfl (by decide) rfl rfl hl.1 (Nat.le_of_ble_eq_true rfl) dX9_margin_31 (Nat.le_of_ble_eq_true rfl) (Nat.le_of_ble_eq_true rfl) (fun u1 H locs hP hD hS => ?_)
  have hP : va_P D vwCl [(a0, .inr (9, [.int 0, .ref a2, .int 0, .int 0, .int 0, .int 0, .int 0, .int (-1), .ref a1, .ref a3, .ref a4, .ref a5, .int 0, .int 0, .int 0, .int 0, .int 0, .ref a6])), (a1, .inl (cs 0, 45783, .inl (layF (fun _ => 0) 1)))] H := hP
  have hD : va_D A [(a0, .inr (9, [.int 0, .ref a2, .int 0, .int 0, .int 0, .int 0, .int 0, .int (-1), .ref a1, .ref a3, .ref a4, .ref a5, .int 0, .int 0, .int 0, .int 0, .int 0, .ref a6])), (a1, .inl (cs 0, 45783, .inl (layF (fun _ => 0) 1)))] := hD
  refine W.widen (k := 0) (n := 0) (Nat.le_of_ble_eq_true rfl) (Nat.le_of_ble_eq_true rfl) ?_
  refine cs_i (As := [.int 1, .int 1]) (rest := []) (wr := [(a0, .inr (9, [.int 0, .ref a2, .int 0, .int 0, .int 0, .int 0, .int 0, .int (-1), .ref a1, .ref a3, .ref a4, .ref a5, .int 0, .int 0, .int 0, .int 0, .int 0, .ref a6])), (a1, .inl (cs 0, 45783, .inl (layF (fun _ => 0) 1)))]) ⟨hx, hb, hml, hown, hts⟩ (fun sz => k148_X9_max l D cs sz ) (va_cwS 2 hts gX9_margin_X9_max rfl rfl rfl hdX9_max_o ⟨Nat.le_of_ble_eq_true rfl, Nat.le_of_ble_eq_true rfl⟩) hN hP hD hS hA [] [0, 1] rfl rfl rfl rfl (by decide) rfl rfl hl.1 (Nat.le_of_ble_eq_true rfl) dX9_margin_34 (Nat.le_of_ble_eq_true rfl) (Nat.le_of_ble_eq_true rfl) (fun u2 H locs hP hD hS => ?_)
  have hP : va_P D vwCl [(a0, .inr (9, [.int 0, .ref a2, .int 0, .int 0, .int 0, .int 0, .int 0, .int (-1), .ref a1, .ref a3, .ref a4, .ref a5, .int 0, .int 0, .int 0, .int 0, .int 0, .ref a6])), (a1, .inl (cs 0, 45783, .inl (layF (fun _ => 0) 1)))] H := hP
  have hD : va_D A [(a0, .inr (9, [.int 0, .ref a2, .int 0, .int 0, .int 0, .int 0, .int 0, .int (-1), .ref a1, .ref a3, .ref a4, .ref a5, .int 0, .int 0, .int 0, .int 0, .int 0, .ref a6])), (a1, .inl (cs 0, 45783, .inl (layF (fun _ => 0) 1)))] := hD
  refine W.widen (k := 0) (n := 0) (Nat.le_of_ble_eq_true rfl) (Nat.le_of_ble_eq_true rfl) ?_
  exact en_i (fun k => ([] : List Nat).getD k 0) hx hb hr hlocks rfl rfl hP hD hS (Nat.le_of_ble_eq_true rfl) (Nat.le_of_ble_eq_true rfl) dX9_margin_37
theorem hdX9_margin_v : yX9_margin.cls = RX9 ∧ yX9_margin.cls ≠ "java/lang/invoke/MethodHandle" ∧ yX9_margin.cls ≠ "java/lang/invoke/VarHandle" ∧ (parseMethodDescriptor yX9_margin.desc).map (fun d => d.parameters.length) = some 1 := by decide +kernel
set_option maxHeartbeats 4000000 in
set_option maxRecDepth 100000 in
theorem k150_X9_told (l : Launch) (D : va_G) (cs : Nat → ClassId) (sz : Nat) (a0 a1 a2 a3 a4 a5 a6 : Nat) : KI l yX9_told wsX9_told 3 64 0 0 D cs sz [.ref a0, .int 12] [(a0, .inr (9, [.int 0, .ref a2, .int 0, .int 0, .int 0, .int 0, .int 0, .int (-1), .ref a1, .ref a3, .ref a4, .ref a5, .int 0, .int 0, .int 0, .int 0, .int 0, .ref a6])), (a1, .inl (cs 0, 45783, .inl (layF (fun _ => 0) 1)))] (fun u => [(a0, .inr (9, [.int 0, .ref a2, .int 0, .int 0, .int 0, .int 0, .int 0, .int (-1), .ref a1, .ref a3, .ref a4, .ref a5, .int 0, .int 0, .int 0, .int 0, .int 0, .ref a6])), (a1, .inl (cs 0, 45783, .inl (layF (fun _ => 0) 1)))]) (1) := by
  refine KI.of cX9_told 2 (some .int) (by decide) rfl (Nat.le_of_ble_eq_true rfl) ?_
  intro p e s m below meth c A ls hx hb hr hml hown hts hlocks hin hP hN hD hA hS hl
  have hown : s.vm.findClass RX9 = some m.cls := hown
  have hl : lv_has ls 2 [(0, .ref a0), (1, .int 12)] := hl
  refine lv_iload_n hx hb dX9_told_0 rfl (lv_at hl 1 rfl) ?_
  refine lv_tableIn (tgt := 53) (off := 52) hx hb dX9_told_1 (by decide) (by decide) (by decide) (by decide) ?_
  refine lv_aload_n hx hb dX9_told_53 rfl (lv_at hl 0 rfl) ?_
  refine lv_iconst (v := 1) hx hb dX9_told_54 (by decide) ?_
  refine cv_i (As := [.int 1]) (rest := []) (b := a0) (wr := []) ⟨hx, hb, hml, hown, hts⟩ (fun sz => k149_X9_margin l D cs sz a0 a1 a2 a3 a4 a5 a6) (cwV 1 hts gX9_told_X9_margin rfl rfl rfl hdX9_margin_v ⟨Nat.le_of_ble_eq_true rfl, Nat.le_of_ble_eq_true rfl⟩) hN hP hD hS hA [0, 1] [] rfl rfl rfl rfl (by decide) (ci := 9) (q0 := 0) rfl rfl rfl rfl hl.1 (Nat.le_of_ble_eq_true rfl) dX9_told_55 (Nat.le_of_ble_eq_true rfl) (Nat.le_of_ble_eq_true rfl) (fun u0 H locs hP hD hS => ?_)
  have hP : va_P D vwCl [(a0, .inr (9, [.int 0, .ref a2, .int 0, .int 0, .int 0, .int 0, .int 0, .int (-1), .ref a1, .ref a3, .ref a4, .ref a5, .int 0, .int 0, .int 0, .int 0, .int 0, .ref a6])), (a1, .inl (cs 0, 45783, .inl (layF (fun _ => 0) 1)))] H := hP
  have hD : va_D A [(a0, .inr (9, [.int 0, .ref a2, .int 0, .int 0, .int 0, .int 0, .int 0, .int (-1), .ref a1, .ref a3, .ref a4, .ref a5, .int 0, .int 0, .int 0, .int 0, .int 0, .ref a6])), (a1, .inl (cs 0, 45783, .inl (layF (fun _ => 0) 1)))] := hD
  refine W.widen (k := 0) (n := 0) (Nat.le_of_ble_eq_true rfl) (Nat.le_of_ble_eq_true rfl) ?_
  exact en_i (fun k => ([] : List Nat).getD k 0) hx hb hr hlocks rfl rfl hP hD hS (Nat.le_of_ble_eq_true rfl) (Nat.le_of_ble_eq_true rfl) dX9_told_58
set_option maxHeartbeats 4000000 in
set_option maxRecDepth 100000 in
theorem k151_X9_state (l : Launch) (D : va_G) (cs : Nat → ClassId) (sz : Nat) (a0 a1 a2 a3 a4 a5 a6 : Nat) : KI l yX9_state wsX9_state 4 85 0 0 D cs sz [.ref a0, .int 12] [(a0, .inr (9, [.int 0, .ref a2, .int 0, .int 0, .int 0, .int 0, .int 0, .int (-1), .ref a1, .ref a3, .ref a4, .ref a5, .int 0, .int 0, .int 0, .int 0, .int 0, .ref a6])), (a1, .inl (cs 0, 45783, .inl (layF (fun _ => 0) 1)))] (fun u => [(a0, .inr (9, [.int 0, .ref a2, .int 0, .int 0, .int 0, .int 0, .int 0, .int (-1), .ref a1, .ref a3, .ref a4, .ref a5, .int 0, .int 0, .int 0, .int 0, .int 0, .ref a6])), (a1, .inl (cs 0, 45783, .inl (layF (fun _ => 0) 1)))]) (1) := by
  refine KI.of cX9_state 2 (some .int) (by decide) rfl (Nat.le_of_ble_eq_true rfl) ?_
  intro p e s m below meth c A ls hx hb hr hml hown hts hlocks hin hP hN hD hA hS hl
  have hown : s.vm.findClass RX9 = some m.cls := hown
  have hl : lv_has ls 2 [(0, .ref a0), (1, .int 12)] := hl
  refine lv_aload_n hx hb dX9_state_0 rfl (lv_at hl 0 rfl) ?_
  refine lv_iconst (v := 0) hx hb dX9_state_1 (by decide) ?_
  refine va_put (D := D) (ci := 9) (v := .int 0) (ty := .int) (C := RX9) (T := TX9) (N := 18) hx hb hts iX9_state_9 tyX9 tyX9_ok nmX9 hown hN.1 hP hD hS 0 rfl rfl 0 (by decide) (hts _ mX9_state_1) (fun _ h9 => h9) rfl (by decide +kernel) rfl rfl (Nat.le_of_ble_eq_true rfl) dX9_state_2 (fun H locs hP hD hS => ?_)
  have hP : va_P D vwCl [(a0, .inr (9, [.int 0, .ref a2, .int 0, .int 0, .int 0, .int 0, .int 0, .int (-1), .ref a1, .ref a3, .ref a4, .ref a5, .int 0, .int 0, .int 0, .int 0, .int 0, .ref a6])), (a1, .inl (cs 0, 45783, .inl (layF (fun _ => 0) 1)))] H := hP
  have hD : va_D A [(a0, .inr (9, [.int 0, .ref a2, .int 0, .int 0, .int 0, .int 0, .int 0, .int (-1), .ref a1, .ref a3, .ref a4, .ref a5, .int 0, .int 0, .int 0, .int 0, .int 0, .ref a6])), (a1, .inl (cs 0, 45783, .inl (layF (fun _ => 0) 1)))] := hD
  refine lv_aload_n hx hb dX9_state_5 rfl (lv_at hl 0 rfl) ?_
  refine lv_iload_n hx hb dX9_state_6 rfl (lv_at hl 1 rfl) ?_
  refine lv_iconst (v := 0) hx hb dX9_state_7 (by decide) ?_
  refine lv_bipush (v := 12) hx hb dX9_state_8 (by decide) ?_
  refine cs_i (As := [.int 12, .int 0, .int 12]) (rest := [.ref a0]) (wr := [(a0, .inr (9, [.int 0, .ref a2, .int 0, .int 0, .int 0, .int 0, .int 0, .int (-1), .ref a1, .ref a3, .ref a4, .ref a5, .int 0, .int 0, .int 0, .int 0, .int 0, .ref a6])), (a1, .inl (cs 0, 45783, .inl (layF (fun _ => 0) 1)))]) ⟨hx, hb, hml, hown, hts⟩ (fun sz => k144_X9_in l D cs sz ) (va_cwS 3 hts gX9_state_X9_in rfl rfl rfl hdX9_in_o ⟨Nat.le_of_ble_eq_true rfl, Nat.le_of_ble_eq_true rfl⟩) hN hP hD hS hA [] [0, 1] rfl rfl rfl rfl (by decide) rfl rfl hl.1 (Nat.le_of_ble_eq_true rfl) dX9_state_10 (Nat.le_of_ble_eq_true rfl) (Nat.le_of_ble_eq_true rfl) (fun u0 H locs hP hD hS => ?_)
  have hP : va_P D vwCl [(a0, .inr (9, [.int 0, .ref a2, .int 0, .int 0, .int 0, .int 0, .int 0, .int (-1), .ref a1, .ref a3, .ref a4, .ref a5, .int 0, .int 0, .int 0, .int 0, .int 0, .ref a6])), (a1, .inl (cs 0, 45783, .inl (layF (fun _ => 0) 1)))] H := hP
  have hD : va_D A [(a0, .inr (9, [.int 0, .ref a2, .int 0, .int 0, .int 0, .int 0, .int 0, .int (-1), .ref a1, .ref a3, .ref a4, .ref a5, .int 0, .int 0, .int 0, .int 0, .int 0, .ref a6])), (a1, .inl (cs 0, 45783, .inl (layF (fun _ => 0) 1)))] := hD
  refine W.widen (k := 0) (n := 0) (Nat.le_of_ble_eq_true rfl) (Nat.le_of_ble_eq_true rfl) ?_
  refine lv_if_ne (tgt := 20) hx hb dX9_state_13 (by decide) (fun _ => ?_) (fun c9 => absurd c9 (by decide))
  refine lv_iconst (v := 0) hx hb dX9_state_20 (by decide) ?_
  refine lv_iconst (v := 1) hx hb dX9_state_21 (by decide) ?_
  refine cv_i (As := [.int 0, .int 1]) (rest := []) (b := a0) (wr := [(a1, .inl (cs 0, 45783, .inl (layF (fun _ => 0) 1)))]) ⟨hx, hb, hml, hown, hts⟩ (fun sz => k47_X9_fails l D cs sz a0 a2 a1 a3 a4 a5 a6) (cwV 2 hts gX9_state_X9_fails rfl rfl rfl hdX9_fails_v ⟨Nat.le_of_ble_eq_true rfl, Nat.le_of_ble_eq_true rfl⟩) hN hP hD hS hA [0] [1] rfl rfl rfl rfl (by decide) (ci := 9) (q0 := 0) rfl rfl rfl rfl hl.1 (Nat.le_of_ble_eq_true rfl) dX9_state_22 (Nat.le_of_ble_eq_true rfl) (Nat.le_of_ble_eq_true rfl) (fun u1 H locs hP hD hS => ?_)
  have hP : va_P D vwCl [(a1, .inl (cs 0, 45783, .inl (layF (fun _ => 0) 1))), (a0, .inr (9, [.int 0, .ref a2, .int 0, .int 0, .int 0, .int 0, .int 0, .int (-1), .ref a1, .ref a3, .ref a4, .ref a5, .int 0, .int 0, .int 0, .int 0, .int 0, .ref a6]))] H := hP
  have hD : va_D A [(a1, .inl (cs 0, 45783, .inl (layF (fun _ => 0) 1))), (a0, .inr (9, [.int 0, .ref a2, .int 0, .int 0, .int 0, .int 0, .int 0, .int (-1), .ref a1, .ref a3, .ref a4, .ref a5, .int 0, .int 0, .int 0, .int 0, .int 0, .ref a6]))] := hD
  refine W.widen (k := 0) (n := 0) (Nat.le_of_ble_eq_true rfl) (Nat.le_of_ble_eq_true rfl) ?_
  refine lv_if_eq (tgt := 32) hx hb dX9_state_25 (by decide) (fun _ => ?_) (fun c9 => absurd (by decide) c9)
  refine lv_aload_n hx hb dX9_state_32 rfl (lv_at hl 0 rfl) ?_
  refine lv_iload_n hx hb dX9_state_33 rfl (lv_at hl 1 rfl) ?_
  refine cv_i (As := [.int 12]) (rest := []) (b := a0) (wr := []) ⟨hx, hb, hml, hown, hts⟩ (fun sz => k150_X9_told l D cs sz a0 a1 a2 a3 a4 a5 a6) (cwV 1 hts gX9_state_X9_told rfl rfl rfl hdX9_told_v ⟨Nat.le_of_ble_eq_true rfl, Nat.le_of_ble_eq_true rfl⟩) hN hP hD hS hA [1, 0] [] rfl rfl rfl rfl (by decide) (ci := 9) (q0 := 0) rfl rfl rfl rfl hl.1 (Nat.le_of_ble_eq_true rfl) dX9_state_34 (Nat.le_of_ble_eq_true rfl) (Nat.le_of_ble_eq_true rfl) (fun u2 H locs hP hD hS => ?_)
  have hP : va_P D vwCl [(a0, .inr (9, [.int 0, .ref a2, .int 0, .int 0, .int 0, .int 0, .int 0, .int (-1), .ref a1, .ref a3, .ref a4, .ref a5, .int 0, .int 0, .int 0, .int 0, .int 0, .ref a6])), (a1, .inl (cs 0, 45783, .inl (layF (fun _ => 0) 1)))] H := hP
  have hD : va_D A [(a0, .inr (9, [.int 0, .ref a2, .int 0, .int 0, .int 0, .int 0, .int 0, .int (-1), .ref a1, .ref a3, .ref a4, .ref a5, .int 0, .int 0, .int 0, .int 0, .int 0, .ref a6])), (a1, .inl (cs 0, 45783, .inl (layF (fun _ => 0) 1)))] := hD
  refine W.widen (k := 0) (n := 0) (Nat.le_of_ble_eq_true rfl) (Nat.le_of_ble_eq_true rfl) ?_
  exact en_i (fun k => ([] : List Nat).getD k 0) hx hb hr hlocks rfl rfl hP hD hS (Nat.le_of_ble_eq_true rfl) (Nat.le_of_ble_eq_true rfl) dX9_state_37
set_option maxHeartbeats 4000000 in
set_option maxRecDepth 100000 in
theorem law_3_12 {p : Program} {l : Launch} {e : Env} {s : State} {m : MethodId} {args : Array Value} {below : List Frame} {meth : Method} {c : Code} {Q : State → Prop} {D : va_G} {cs : Nat → ClassId} {A : Nat → Prop} {xs : Nat → Int32} {b : Nat} (hx : p.tables.exec = Jvm.exec) (hb : c.code = cL_law) (hml : c.maxLocals = 9) (hown : s.vm.findClass RL = some m.cls) (hts : ∀ w ∈ wsL_law, w.before args s = true) (hN : NK D cs s) (hX : va_X b 6 xs s s.heap) (hbl : b < s.heap.size) (hbA : ¬ A b) (hA : ∀ q : Nat, s.heap.size ≤ q → A q) (hZ : ZX A s s.heap) (hZS : ZS cs A s s.heap) (hlt : l.stackTraces = false)
    (kend : ∀ (H : Heap) (locs : List Loc) (ls : Array Slot), va_S A s.heap H locs → lv_has ls 9 [(0, .ref b), (4, .int 0)] → W p l e room_1 s m args below meth c H locs 600002 7302232 Q (F0 m 1169 ls []))
    (a0 a1 a2 a3 a4 a5 a6 a7 a8 a9 a10 a11 a12 a13 a14 a15 a16 a17 a18 a19 a20 a21 a22 : Nat) (hy1 : xs 1 = (12))  (H : Heap) (locs : List Loc) (ls : Array Slot) (hP : va_P D vwCl [(a0, .inr (8, [.ref a7, .ref a3, .ref a8, .ref a9, .int 0, .int 0, .int (-1)])), (a1, .inl (cs 0, 64, .inl (fun _ => 0))), (a2, .inr (6, [.int 1, .int 1, .int 50, .null, .ref a10, .ref a11, .ref a12, .ref a1])), (a3, .inr (7, [.ref a2, .ref a13, .ref a14, .ref a15, .ref a16, .ref a17, .long 0, .int 0, .int 0, .int 0, .int 0, .int 0, .int 0, .int 0, .int 0, .int 0])), (a4, .inr (9, [.int 0, .ref a18, .int 0, .int 0, .int 0, .int 0, .int 0, .int (-1), .ref a5, .ref a19, .ref a20, .ref a21, .int 0, .int 0, .int 0, .int 0, .int 0, .ref a22])), (a5, .inl (cs 0, 45783, .inl (layF (fun _ => 0) 1))), (a6, .inl (cs 3, 1, .inr (.inl (fun _ => 0))))] H) (hD : va_D A [(a0, .inr (8, [.ref a7, .ref a3, .ref a8, .ref a9, .int 0, .int 0, .int (-1)])), (a1, .inl (cs 0, 64, .inl (fun _ => 0))), (a2, .inr (6, [.int 1, .int 1, .int 50, .null, .ref a10, .ref a11, .ref a12, .ref a1])), (a3, .inr (7, [.ref a2, .ref a13, .ref a14, .ref a15, .ref a16, .ref a17, .long 0, .int 0, .int 0, .int 0, .int 0, .int 0, .int 0, .int 0, .int 0, .int 0])), (a4, .inr (9, [.int 0, .ref a18, .int 0, .int 0, .int 0, .int 0, .int 0, .int (-1), .ref a5, .ref a19, .ref a20, .ref a21, .int 0, .int 0, .int 0, .int 0, .int 0, .ref a22])), (a5, .inl (cs 0, 45783, .inl (layF (fun _ => 0) 1))), (a6, .inl (cs 3, 1, .inr (.inl (fun _ => 0))))]) (hS : va_S A s.heap H locs) (hl : lv_has ls 9 [(4, .int 0), (3, .ref a6), (2, .ref a4), (1, .ref a0), (0, .ref b)]) : W p l e room_1 s m args below meth c H locs 391 467079 Q (F0 m 278 ls []) := by
  refine lv_aload_n hx hb dL_law_278 rfl (lv_at hl 3 rfl) ?_
  refine lv_aload_n hx hb dL_law_279 rfl (lv_at hl 4 rfl) ?_
  refine lv_iload hx hb dL_law_280 (lv_at hl 0 rfl) ?_
  refine lv_iconst (v := 1) hx hb dL_law_282 (by decide) ?_
  refine lv_iadd hx hb dL_law_283 ?_
  refine tp_i (1) (by decide) ?_
  refine va_sld hx hb hX hbl hbA hS (vin (by decide +kernel)) dL_law_284 ?_
  refine tp_i (12) hy1 ?_
  refine lv_aload_n hx hb dL_law_285 rfl (lv_at hl 1 rfl) ?_
  refine ch_i (As := [.ref a0, .int 12, .ref a6]) (rest := []) (wr := [(a4, .inr (9, [.int 0, .ref a18, .int 0, .int 0, .int 0, .int 0, .int 0, .int (-1), .ref a5, .ref a19, .ref a20, .ref a21, .int 0, .int 0, .int 0, .int 0, .int 0, .ref a22])), (a5, .inl (cs 0, 45783, .inl (layF (fun _ => 0) 1)))]) ⟨hx, hb, hml, hown, hts⟩ (fun sz => k143_L_state l D cs sz hlt a0 a3 a2 a1 a6 a7 a8 a9 a13 a14 a15 a16 a17 a10 a11 a12) (vx_cwSW 3 hts gL_law_L_state rfl rfl rfl hdL_state_o ⟨Nat.le_of_ble_eq_true rfl, Nat.le_of_ble_eq_true rfl⟩) hN hP hD hS hA hZ [0, 3, 2, 1, 6] [4, 5] rfl rfl rfl rfl (by decide) rfl rfl hl.1 (Nat.le_of_ble_eq_true rfl) dL_law_286 (Nat.le_of_ble_eq_true rfl) (Nat.le_of_ble_eq_true rfl) (fun u0 H locs hP hD hS => ?_)
  have hP : va_P D vwCl [(a4, .inr (9, [.int 0, .ref a18, .int 0, .int 0, .int 0, .int 0, .int 0, .int (-1), .ref a5, .ref a19, .ref a20, .ref a21, .int 0, .int 0, .int 0, .int 0, .int 0, .ref a22])), (a5, .inl (cs 0, 45783, .inl (layF (fun _ => 0) 1))), (a6, .inl (cs 3, 1, .inr (.inl (vp_updL (fun _ => 0) 0 1)))), (a0, .inr (8, [.ref a7, .ref a3, .ref a8, .ref a9, .int 0, .int 0, .int (-1)])), (a3, .inr (7, [.ref a2, .ref a13, .ref a14, .ref a15, .ref a16, .ref a17, .long 0, .int 0, .int 0, .int 0, .int 0, .int 0, .int 0, .int 0, .int 0, .int 0])), (a2, .inr (6, [.int 1, .int 1, .int 50, .null, .ref a10, .ref a11, .ref a12, .ref a1])), (a1, .inl (cs 0, 64, .inl (fun _ => 0)))] H := hP
  have hD : va_D A [(a4, .inr (9, [.int 0, .ref a18, .int 0, .int 0, .int 0, .int 0, .int 0, .int (-1), .ref a5, .ref a19, .ref a20, .ref a21, .int 0, .int 0, .int 0, .int 0, .int 0, .ref a22])), (a5, .inl (cs 0, 45783, .inl (layF (fun _ => 0) 1))), (a6, .inl (cs 3, 1, .inr (.inl (vp_updL (fun _ => 0) 0 1)))), (a0, .inr (8, [.ref a7, .ref a3, .ref a8, .ref a9, .int 0, .int 0, .int (-1)])), (a3, .inr (7, [.ref a2, .ref a13, .ref a14, .ref a15, .ref a16, .ref a17, .long 0, .int 0, .int 0, .int 0, .int 0, .int 0, .int 0, .int 0, .int 0, .int 0])), (a2, .inr (6, [.int 1, .int 1, .int 50, .null, .ref a10, .ref a11, .ref a12, .ref a1])), (a1, .inl (cs 0, 64, .inl (fun _ => 0)))] := hD
  refine W.widen (k := 391) (n := 467079) (Nat.le_of_ble_eq_true rfl) (Nat.le_of_ble_eq_true rfl) ?_
  refine lv_istore (lv' := [(5, .int 0), (4, .int 0), (3, .ref a6), (2, .ref a4), (1, .ref a0), (0, .ref b)]) hx hb dL_law_289 hl (by decide) rfl (fun ls hl => ?_)
  refine lv_aload_n hx hb dL_law_291 rfl (lv_at hl 3 rfl) ?_
  refine lv_aload_n hx hb dL_law_292 rfl (lv_at hl 5 rfl) ?_
  refine lv_iload hx hb dL_law_293 (lv_at hl 1 rfl) ?_
  refine lv_iconst (v := 1) hx hb dL_law_295 (by decide) ?_
  refine lv_iadd hx hb dL_law_296 ?_
  refine tp_i (1) (by decide) ?_
  refine va_sld hx hb hX hbl hbA hS (vin (by decide +kernel)) dL_law_297 ?_
  refine tp_i (12) hy1 ?_
  refine cv_i (As := [.int 12]) (rest := []) (b := a4) (wr := [(a6, .inl (cs 3, 1, .inr (.inl (vp_updL (fun _ => 0) 0 1)))), (a0, .inr (8, [.ref a7, .ref a3, .ref a8, .ref a9, .int 0, .int 0, .int (-1)])), (a3, .inr (7, [.ref a2, .ref a13, .ref a14, .ref a15, .ref a16, .ref a17, .long 0, .int 0, .int 0, .int 0, .int 0, .int 0, .int 0, .int 0, .int 0, .int 0])), (a2, .inr (6, [.int 1, .int 1, .int 50, .null, .ref a10, .ref a11, .ref a12, .ref a1])), (a1, .inl (cs 0, 64, .inl (fun _ => 0)))]) ⟨hx, hb, hml, hown, hts⟩ (fun sz => k151_X9_state l D cs sz a4 a5 a18 a19 a20 a21 a22) (cwV 1 hts gL_law_X9_state rfl rfl rfl hdX9_state_v ⟨Nat.le_of_ble_eq_true rfl, Nat.le_of_ble_eq_true rfl⟩) hN hP hD hS hA [0, 1] [2, 3, 4, 5, 6] rfl rfl rfl rfl (by decide) (ci := 9) (q0 := 0) rfl rfl rfl rfl hl.1 (Nat.le_of_ble_eq_true rfl) dL_law_298 (Nat.le_of_ble_eq_true rfl) (Nat.le_of_ble_eq_true rfl) (fun u1 H locs hP hD hS => ?_)
  have hP : va_P D vwCl [(a6, .inl (cs 3, 1, .inr (.inl (vp_updL (fun _ => 0) 0 1)))), (a0, .inr (8, [.ref a7, .ref a3, .ref a8, .ref a9, .int 0, .int 0, .int (-1)])), (a3, .inr (7, [.ref a2, .ref a13, .ref a14, .ref a15, .ref a16, .ref a17, .long 0, .int 0, .int 0, .int 0, .int 0, .int 0, .int 0, .int 0, .int 0, .int 0])), (a2, .inr (6, [.int 1, .int 1, .int 50, .null, .ref a10, .ref a11, .ref a12, .ref a1])), (a1, .inl (cs 0, 64, .inl (fun _ => 0))), (a4, .inr (9, [.int 0, .ref a18, .int 0, .int 0, .int 0, .int 0, .int 0, .int (-1), .ref a5, .ref a19, .ref a20, .ref a21, .int 0, .int 0, .int 0, .int 0, .int 0, .ref a22])), (a5, .inl (cs 0, 45783, .inl (layF (fun _ => 0) 1)))] H := hP
  have hD : va_D A [(a6, .inl (cs 3, 1, .inr (.inl (vp_updL (fun _ => 0) 0 1)))), (a0, .inr (8, [.ref a7, .ref a3, .ref a8, .ref a9, .int 0, .int 0, .int (-1)])), (a3, .inr (7, [.ref a2, .ref a13, .ref a14, .ref a15, .ref a16, .ref a17, .long 0, .int 0, .int 0, .int 0, .int 0, .int 0, .int 0, .int 0, .int 0, .int 0])), (a2, .inr (6, [.int 1, .int 1, .int 50, .null, .ref a10, .ref a11, .ref a12, .ref a1])), (a1, .inl (cs 0, 64, .inl (fun _ => 0))), (a4, .inr (9, [.int 0, .ref a18, .int 0, .int 0, .int 0, .int 0, .int 0, .int (-1), .ref a5, .ref a19, .ref a20, .ref a21, .int 0, .int 0, .int 0, .int 0, .int 0, .ref a22])), (a5, .inl (cs 0, 45783, .inl (layF (fun _ => 0) 1)))] := hD
  refine W.widen (k := 391) (n := 467079) (Nat.le_of_ble_eq_true rfl) (Nat.le_of_ble_eq_true rfl) ?_
  refine lv_istore (lv' := [(6, .int 1), (5, .int 0), (4, .int 0), (3, .ref a6), (2, .ref a4), (1, .ref a0), (0, .ref b)]) hx hb dL_law_301 hl (by decide) rfl (fun ls hl => ?_)
  refine lv_aload_n hx hb dL_law_303 rfl (lv_at hl 4 rfl) ?_
  refine cv_i (As := []) (rest := []) (b := a4) (wr := [(a6, .inl (cs 3, 1, .inr (.inl (vp_updL (fun _ => 0) 0 1)))), (a0, .inr (8, [.ref a7, .ref a3, .ref a8, .ref a9, .int 0, .int 0, .int (-1)])), (a3, .inr (7, [.ref a2, .ref a13, .ref a14, .ref a15, .ref a16, .ref a17, .long 0, .int 0, .int 0, .int 0, .int 0, .int 0, .int 0, .int 0, .int 0, .int 0])), (a2, .inr (6, [.int 1, .int 1, .int 50, .null, .ref a10, .ref a11, .ref a12, .ref a1])), (a1, .inl (cs 0, 64, .inl (fun _ => 0))), (a5, .inl (cs 0, 45783, .inl (layF (fun _ => 0) 1)))]) ⟨hx, hb, hml, hown, hts⟩ (fun sz => k50_X9_thrown l D cs sz a4 a18 a5 a19 a20 a21 a22) (cwV 0 hts gL_law_X9_thrown rfl rfl rfl hdX9_thrown_v ⟨Nat.le_of_ble_eq_true rfl, Nat.le_of_ble_eq_true rfl⟩) hN hP hD hS hA [5] [0, 1, 2, 3, 4, 6] rfl rfl rfl rfl (by decide) (ci := 9) (q0 := 0) rfl rfl rfl rfl hl.1 (Nat.le_of_ble_eq_true rfl) dL_law_304 (Nat.le_of_ble_eq_true rfl) (Nat.le_of_ble_eq_true rfl) (fun u2 H locs hP hD hS => ?_)
  have hP : va_P D vwCl [(a6, .inl (cs 3, 1, .inr (.inl (vp_updL (fun _ => 0) 0 1)))), (a0, .inr (8, [.ref a7, .ref a3, .ref a8, .ref a9, .int 0, .int 0, .int (-1)])), (a3, .inr (7, [.ref a2, .ref a13, .ref a14, .ref a15, .ref a16, .ref a17, .long 0, .int 0, .int 0, .int 0, .int 0, .int 0, .int 0, .int 0, .int 0, .int 0])), (a2, .inr (6, [.int 1, .int 1, .int 50, .null, .ref a10, .ref a11, .ref a12, .ref a1])), (a1, .inl (cs 0, 64, .inl (fun _ => 0))), (a5, .inl (cs 0, 45783, .inl (layF (fun _ => 0) 1))), (a4, .inr (9, [.int 0, .ref a18, .int 0, .int 0, .int 0, .int 0, .int 0, .int (-1), .ref a5, .ref a19, .ref a20, .ref a21, .int 0, .int 0, .int 0, .int 0, .int 0, .ref a22]))] H := hP
  have hD : va_D A [(a6, .inl (cs 3, 1, .inr (.inl (vp_updL (fun _ => 0) 0 1)))), (a0, .inr (8, [.ref a7, .ref a3, .ref a8, .ref a9, .int 0, .int 0, .int (-1)])), (a3, .inr (7, [.ref a2, .ref a13, .ref a14, .ref a15, .ref a16, .ref a17, .long 0, .int 0, .int 0, .int 0, .int 0, .int 0, .int 0, .int 0, .int 0, .int 0])), (a2, .inr (6, [.int 1, .int 1, .int 50, .null, .ref a10, .ref a11, .ref a12, .ref a1])), (a1, .inl (cs 0, 64, .inl (fun _ => 0))), (a5, .inl (cs 0, 45783, .inl (layF (fun _ => 0) 1))), (a4, .inr (9, [.int 0, .ref a18, .int 0, .int 0, .int 0, .int 0, .int 0, .int (-1), .ref a5, .ref a19, .ref a20, .ref a21, .int 0, .int 0, .int 0, .int 0, .int 0, .ref a22]))] := hD
  refine W.widen (k := 391) (n := 467079) (Nat.le_of_ble_eq_true rfl) (Nat.le_of_ble_eq_true rfl) ?_
  refine lv_iload hx hb dL_law_307 (lv_at hl 1 rfl) ?_
  refine lv_icmp_eq (tgt := 314) hx hb dL_law_309 (by decide) (fun _ => ?_) (fun c9 => absurd (by decide) c9)
  refine lv_iload hx hb dL_law_314 (lv_at hl 1 rfl) ?_
  refine lv_if_ne (tgt := 331) hx hb dL_law_316 (by decide) (fun c9 => absurd (by decide) c9) (fun _ => ?_)
  refine lv_aload_n hx hb dL_law_319 rfl (lv_at hl 3 rfl) ?_
  refine lv_iconst (v := 0) hx hb dL_law_320 (by decide) ?_
  refine ld_l (v := 1) hx hb hN hP 0 rfl (vin (by decide +kernel)) (by first | rfl | decide +kernel) dL_law_321 ?_
  refine lv_iload hx hb dL_law_322 (lv_at hl 0 rfl) ?_
  refine lv_i2l (v := 1) hx hb dL_law_324 (by decide) ?_
  refine W.lcmp hx hb dL_law_325 ?_
  refine tp_i (0) (by decide) ?_
  refine lv_if_eq (tgt := 331) hx hb dL_law_326 (by decide) (fun _ => ?_) (fun c9 => absurd (by decide) c9)
  refine lv_goto (tgt := 1169) hx hb dL_law_331 (by decide) ?_
  refine W.widen (k := 600002) (n := 7302232) (Nat.le_of_ble_eq_true rfl) (Nat.le_of_ble_eq_true rfl) ?_
  exact kend _ _ _ hS (lv_sub hl [6, 2] rfl)

theorem xgX8_refuseWhatOutside_49_0 : ∀ w ∈ (vx_atS RX8 49 "java/lang/IllegalArgumentException" ["java/lang/RuntimeException", "java/lang/Exception"]).filter goodWord, w ∈ wsX8_refuseWhatOutside := fun w h => by unfold wsX8_refuseWhatOutside; exact List.mem_cons_of_mem _ (List.mem_append_right _ h)
theorem xnRX8_49_0 : ∀ w ∈ (vx_atS RX8 49 "java/lang/IllegalArgumentException" ["java/lang/RuntimeException", "java/lang/Exception"]).filter (fun w => !goodWord w), w ∈ Cond.castable "java/lang/IllegalArgumentException" "java/lang/IllegalArgumentException" :: xdD := by decide +kernel
theorem xdRX8_49_0 : xdL.all (fun w => decide (w ∈ (vx_atS RX8 49 "java/lang/IllegalArgumentException" ["java/lang/RuntimeException", "java/lang/Exception"]).filter goodWord)) = true := by decide +kernel
theorem xoRX8_45_49_0 : ∀ w ∈ Cond.classLink RX8 45 "java/lang/IllegalArgumentException" :: Cond.initialized "java/lang/IllegalArgumentException" :: (vx_atS RX8 49 "java/lang/IllegalArgumentException" ["java/lang/RuntimeException", "java/lang/Exception"]), vx_ot w = true := by decide +kernel
theorem mX8_refuseWhatOutside_1 : (.classLink RX8 45 "java/lang/IllegalArgumentException" : Cond) ∈ wsX8_refuseWhatOutside := List.mem_of_getElem? (i := 1) (by decide +kernel)
theorem mX8_refuseWhatOutside_2 : (.initialized "java/lang/IllegalArgumentException" : Cond) ∈ wsX8_refuseWhatOutside := List.mem_of_getElem? (i := 2) (by decide +kernel)
set_option maxHeartbeats 4000000 in
set_option maxRecDepth 100000 in
theorem k152_X8_refuseWhatOutside (l : Launch) (D : va_G) (cs : Nat → ClassId) (sz : Nat) (hlt : l.stackTraces = false) (a0 a1 a2 a3 a4 : Nat) (x0 : Int32) (hf0 : x0 < 0) : KX l yX8_refuseWhatOutside wsX8_refuseWhatOutside 6 100 1 6 D cs sz [.ref a0, .int x0, .int 12] [(a0, .inr (8, [.ref a1, .ref a2, .ref a3, .ref a4, .int 0, .int 0, .int (-1)]))] QnV "java/lang/IllegalArgumentException" := by
  refine KX.of cX8_refuseWhatOutside 3 none (by decide) rfl (Nat.le_of_ble_eq_true rfl) ?_
  intro p e s m below meth c A ls hx hb hr hml hown hts hlocks hnx hP hN hD hA hS hl hZ
  have hown : s.vm.findClass RX8 = some m.cls := hown
  have hl : lv_has ls 3 [(0, .ref a0), (1, .int x0), (2, .int 12)] := hl
  refine lv_iload_n hx hb dX8_refuseWhatOutside_0 rfl (lv_at hl 1 rfl) ?_
  refine lv_if_lt (tgt := 9) hx hb dX8_refuseWhatOutside_1 (by decide) (fun _ => ?_) (fun c9 => absurd hf0 c9)
  exact tx_g2 (E := "java/lang/IllegalArgumentException") 0 hx hb hlt hown hN (by decide +kernel) (hts _ mX8_refuseWhatOutside_1) (hts _ mX8_refuseWhatOutside_2) (hN.s 10 rfl) rfl (fun w h => hts w (xgX8_refuseWhatOutside_49_0 w h)) xnRX8_49_0 xdRX8_49_0 xoRX8_45_49_0 hZ hS hl hml dX8_refuseWhatOutside_9 dX8_refuseWhatOutside_12 dX8_refuseWhatOutside_13 dX8_refuseWhatOutside_15 dX8_refuseWhatOutside_18 hnx (Nat.le_of_ble_eq_true rfl) (Nat.le_of_ble_eq_true rfl) (Nat.le_of_ble_eq_true rfl) (Nat.le_of_ble_eq_true rfl) hlocks (Nat.le_of_ble_eq_true rfl) (Nat.le_of_ble_eq_true rfl)
set_option maxHeartbeats 4000000 in
set_option maxRecDepth 100000 in
theorem k153_X8_state (l : Launch) (D : va_G) (cs : Nat → ClassId) (sz : Nat) (hlt : l.stackTraces = false) (a0 a1 a2 a3 a4 : Nat) (x0 : Int32) (hf0 : x0 < 0) : KX l yX8_state wsX8_state 7 122 1 6 D cs sz [.ref a0, .int x0] [(a0, .inr (8, [.ref a1, .ref a2, .ref a3, .ref a4, .int 0, .int 0, .int (-1)]))] QnI "java/lang/IllegalArgumentException" := by
  refine KX.of cX8_state 2 (some .int) (by decide) rfl (Nat.le_of_ble_eq_true rfl) ?_
  intro p e s m below meth c A ls hx hb hr hml hown hts hlocks hnx hP hN hD hA hS hl hZ
  have hown : s.vm.findClass RX8 = some m.cls := hown
  have hl : lv_has ls 2 [(0, .ref a0), (1, .int x0)] := hl
  refine lv_aload_n hx hb dX8_state_0 rfl (lv_at hl 0 rfl) ?_
  refine lv_iload_n hx hb dX8_state_1 rfl (lv_at hl 1 rfl) ?_
  refine lv_bipush (v := 12) hx hb dX8_state_2 (by decide) ?_
  exact xp_v (As := [.int x0, .int 12]) (rest := []) (b := a0) ⟨hx, hb, hml, hown, hts⟩ (fun sz => k152_X8_refuseWhatOutside l D cs sz hlt a0 a1 a2 a3 a4 (x0) hf0) (cwV 2 hts gX8_state_X8_refuseWhatOutside rfl rfl rfl hdX8_refuseWhatOutside_v ⟨Nat.le_of_ble_eq_true rfl, Nat.le_of_ble_eq_true rfl⟩) hN hP hD hS hA hZ [0] rfl rfl (ci := 8) (q0 := 0) rfl rfl rfl rfl hl.1 (Nat.le_of_ble_eq_true rfl) dX8_state_4 (Nat.le_of_ble_eq_true rfl) (Nat.le_of_ble_eq_true rfl) hnx hlocks (Nat.le_of_ble_eq_true rfl) (Nat.le_of_ble_eq_true rfl)
theorem mL_state_1 : (.classLink RL 13 "java/lang/IllegalArgumentException" : Cond) ∈ wsL_state := List.mem_of_getElem? (i := 1) (by decide +kernel)
set_option maxHeartbeats 4000000 in
set_option maxRecDepth 100000 in
theorem k154_L_state (l : Launch) (D : va_G) (cs : Nat → ClassId) (sz : Nat) (hlt : l.stackTraces = false) (a0 a1 a2 a3 a4 a5 : Nat) (x0 : Int32) (hf0 : x0 < 0) : KH l yL_state wsL_state 8 143 1 6 D cs sz [.ref a0, .int x0, .ref a1] [(a0, .inr (8, [.ref a2, .ref a3, .ref a4, .ref a5, .int 0, .int 0, .int (-1)]))] (fun u => []) (1) := by
  refine KH.of cL_state 4 (some .int) (by decide) rfl (Nat.le_of_ble_eq_true rfl) ?_
  intro p e s m below meth c A ls hx hb hr hml hown hts hlocks htab hP hN hD hA hS hl hZ
  have hown : s.vm.findClass RL = some m.cls := hown
  have hl : lv_has ls 4 [(0, .ref a0), (1, .int x0), (2, .ref a1)] := hl
  refine lv_aload_n hx hb dL_state_0 rfl (lv_at hl 2 rfl) ?_
  refine lv_iconst (v := 0) hx hb dL_state_1 (by decide) ?_
  refine lv_aload_n hx hb dL_state_2 rfl (lv_at hl 0 rfl) ?_
  refine lv_iload_n hx hb dL_state_3 rfl (lv_at hl 1 rfl) ?_
  refine xc_i (wr := []) (As := [.int x0]) (rest := [.int 0, .ref a1]) (b := a0) ⟨hx, hb, hml, hown, hts⟩ (fun sz => k153_X8_state l D cs sz hlt a0 a2 a3 a4 a5 (x0) hf0) (cwV 1 hts gL_state_X8_state rfl rfl rfl hdX8_state_v ⟨Nat.le_of_ble_eq_true rfl, Nat.le_of_ble_eq_true rfl⟩) hN hP hD hS hA hZ [0] rfl rfl (ci := 8) (q0 := 0) rfl rfl rfl rfl hl.1 (Nat.le_of_ble_eq_true rfl) dL_state_4 (Nat.le_of_ble_eq_true rfl) (Nat.le_of_ble_eq_true rfl) [] rfl rfl (by decide) [] ⟨0, 9, 12, 13⟩ [] htab (fun z h => nomatch h) rfl (by decide) (hts _ mL_state_1) 0 rfl (fun q9_5 H locs hP hD hS => ?_)
  have hP : va_P D vwCl [] H := hP
  have hD : va_D A [] := hD
  refine W.widen (k := 1) (n := 6) (Nat.le_of_ble_eq_true rfl) (Nat.le_of_ble_eq_true rfl) ?_
  refine lv_astore_n (lv' := [(3, .ref q9_5), (0, .ref a0), (1, .int x0), (2, .ref a1)]) hx hb dL_state_12 rfl hl (by decide) rfl (fun ls hl => ?_)
  refine lv_iconst (v := 1) hx hb dL_state_13 (by decide) ?_
  exact en_i (fun k => ([] : List Nat).getD k 0) hx hb hr hlocks rfl rfl hP hD hS (Nat.le_of_ble_eq_true rfl) (Nat.le_of_ble_eq_true rfl) dL_state_14
set_option maxHeartbeats 4000000 in
set_option maxRecDepth 100000 in
theorem k155_X9_in (l : Launch) (D : va_G) (cs : Nat → ClassId) (sz : Nat) (x0 : Int32) (hf0 : x0 < 0) : KI l yX9_in wsX9_in 0 0 0 0 D cs sz [.int x0, .int 0, .int 12] [] (fun u => []) (0) := by
  refine KI.of cX9_in 3 (some .boolean) (by decide) rfl (Nat.le_of_ble_eq_true rfl) ?_
  intro p e s m below meth c A ls hx hb hr hml hown hts hlocks hin hP hN hD hA hS hl
  have hown : s.vm.findClass RX9 = some m.cls := hown
  have hl : lv_has ls 3 [(0, .int x0), (1, .int 0), (2, .int 12)] := hl
  refine lv_iload_n hx hb dX9_in_0 rfl (lv_at hl 0 rfl) ?_
  refine lv_iload_n hx hb dX9_in_1 rfl (lv_at hl 1 rfl) ?_
  refine lv_icmp_lt (tgt := 14) hx hb dX9_in_2 (by decide) (fun _ => ?_) (fun c9 => absurd hf0 c9)
  refine lv_iconst (v := 0) hx hb dX9_in_14 (by decide) ?_
  exact en_i (fun k => ([] : List Nat).getD k 0) hx hb hr hlocks rfl rfl hP hD hS (Nat.le_of_ble_eq_true rfl) (Nat.le_of_ble_eq_true rfl) dX9_in_15
set_option maxHeartbeats 4000000 in
set_option maxRecDepth 100000 in
theorem k156_X9_fails (l : Launch) (D : va_G) (cs : Nat → ClassId) (sz : Nat) (a0 a1 a2 a3 a4 a5 a6 : Nat) : KI l yX9_fails wsX9_fails 0 0 0 0 D cs sz [.ref a0, .int 1, .int 1] [(a0, .inr (9, [.int 0, .ref a1, .int 0, .int 0, .int 0, .int 0, .int 0, .int (-1), .ref a2, .ref a3, .ref a4, .ref a5, .int 0, .int 0, .int 0, .int 0, .int 0, .ref a6]))] (fun u => [(a0, .inr (9, [.int 1, .ref a1, .int 0, .int 0, .int 0, .int 0, .int 0, .int (-1), .ref a2, .ref a3, .ref a4, .ref a5, .int 0, .int 0, .int 0, .int 0, .int 0, .ref a6]))]) (1) := by
  refine KI.of cX9_fails 3 (some .boolean) (by decide) rfl (Nat.le_of_ble_eq_true rfl) ?_
  intro p e s m below meth c A ls hx hb hr hml hown hts hlocks hin hP hN hD hA hS hl
  have hown : s.vm.findClass RX9 = some m.cls := hown
  have hl : lv_has ls 3 [(0, .ref a0), (1, .int 1), (2, .int 1)] := hl
  refine lv_iload_n hx hb dX9_fails_0 rfl (lv_at hl 1 rfl) ?_
  refine lv_if_eq (tgt := 16) hx hb dX9_fails_1 (by decide) (fun c9 => absurd c9 (by decide)) (fun _ => ?_)
  refine lv_aload_n hx hb dX9_fails_4 rfl (lv_at hl 0 rfl) ?_
  refine va_get (D := D) (ci := 9) (v := .int 0) (C := RX9) (T := TX9) (N := 18) hx hb hts iX9_fails_9 hown hN.1 hP 0 rfl rfl 0 (by decide) (hts _ mX9_fails_1) (fun _ h9 => h9) rfl dX9_fails_5 ?_
  refine lv_if_ne (tgt := 16) hx hb dX9_fails_8 (by decide) (fun c9 => absurd (by decide) c9) (fun _ => ?_)
  refine lv_aload_n hx hb dX9_fails_11 rfl (lv_at hl 0 rfl) ?_
  refine lv_iload_n hx hb dX9_fails_12 rfl (lv_at hl 2 rfl) ?_
  refine va_put (D := D) (ci := 9) (v := .int 1) (ty := .int) (C := RX9) (T := TX9) (N := 18) hx hb hts iX9_fails_9 tyX9 tyX9_ok nmX9 hown hN.1 hP hD hS 0 rfl rfl 0 (by decide) (hts _ mX9_fails_1) (fun _ h9 => h9) rfl (by decide +kernel) rfl rfl (Nat.le_of_ble_eq_true rfl) dX9_fails_13 (fun H locs hP hD hS => ?_)
  have hP : va_P D vwCl [(a0, .inr (9, [.int 1, .ref a1, .int 0, .int 0, .int 0, .int 0, .int 0, .int (-1), .ref a2, .ref a3, .ref a4, .ref a5, .int 0, .int 0, .int 0, .int 0, .int 0, .ref a6]))] H := hP
  have hD : va_D A [(a0, .inr (9, [.int 1, .ref a1, .int 0, .int 0, .int 0, .int 0, .int 0, .int (-1), .ref a2, .ref a3, .ref a4, .ref a5, .int 0, .int 0, .int 0, .int 0, .int 0, .ref a6]))] := hD
  refine lv_aload_n hx hb dX9_fails_16 rfl (lv_at hl 0 rfl) ?_
  refine va_get (D := D) (ci := 9) (v := .int 1) (C := RX9) (T := TX9) (N := 18) hx hb hts iX9_fails_9 hown hN.1 hP 0 rfl rfl 0 (by decide) (hts _ mX9_fails_1) (fun _ h9 => h9) rfl dX9_fails_17 ?_
  refine lv_if_eq (tgt := 27) hx hb dX9_fails_20 (by decide) (fun c9 => absurd c9 (by decide)) (fun _ => ?_)
  refine lv_iconst (v := 1) hx hb dX9_fails_23 (by decide) ?_
  refine lv_goto (tgt := 28) hx hb dX9_fails_24 (by decide) ?_
  exact en_i (fun k => ([] : List Nat).getD k 0) hx hb hr hlocks rfl rfl hP hD hS (Nat.le_of_ble_eq_true rfl) (Nat.le_of_ble_eq_true rfl) dX9_fails_28
set_option maxHeartbeats 4000000 in
set_option maxRecDepth 100000 in
theorem k157_X9_state (l : Launch) (D : va_G) (cs : Nat → ClassId) (sz : Nat) (a0 a1 a2 a3 a4 a5 a6 : Nat) (x0 : Int32) (hf0 : x0 < 0) : KI l yX9_state wsX9_state 1 22 0 0 D cs sz [.ref a0, .int x0] [(a0, .inr (9, [.int 0, .ref a1, .int 0, .int 0, .int 0, .int 0, .int 0, .int (-1), .ref a2, .ref a3, .ref a4, .ref a5, .int 0, .int 0, .int 0, .int 0, .int 0, .ref a6]))] (fun u => [(a0, .inr (9, [.int 1, .ref a1, .int 0, .int 0, .int 0, .int 0, .int 0, .int (-1), .ref a2, .ref a3, .ref a4, .ref a5, .int 0, .int 0, .int 0, .int 0, .int 0, .ref a6]))]) (0) := by
  refine KI.of cX9_state 2 (some .int) (by decide) rfl (Nat.le_of_ble_eq_true rfl) ?_
  intro p e s m below meth c A ls hx hb hr hml hown hts hlocks hin hP hN hD hA hS hl
  have hown : s.vm.findClass RX9 = some m.cls := hown
  have hl : lv_has ls 2 [(0, .ref a0), (1, .int x0)] := hl
  refine lv_aload_n hx hb dX9_state_0 rfl (lv_at hl 0 rfl) ?_
  refine lv_iconst (v := 0) hx hb dX9_state_1 (by decide) ?_
  refine va_put (D := D) (ci := 9) (v := .int 0) (ty := .int) (C := RX9) (T := TX9) (N := 18) hx hb hts iX9_state_9 tyX9 tyX9_ok nmX9 hown hN.1 hP hD hS 0 rfl rfl 0 (by decide) (hts _ mX9_state_1) (fun _ h9 => h9) rfl (by decide +kernel) rfl rfl (Nat.le_of_ble_eq_true rfl) dX9_state_2 (fun H locs hP hD hS => ?_)
  have hP : va_P D vwCl [(a0, .inr (9, [.int 0, .ref a1, .int 0, .int 0, .int 0, .int 0, .int 0, .int (-1), .ref a2, .ref a3, .ref a4, .ref a5, .int 0, .int 0, .int 0, .int 0, .int 0, .ref a6]))] H := hP
  have hD : va_D A [(a0, .inr (9, [.int 0, .ref a1, .int 0, .int 0, .int 0, .int 0, .int 0, .int (-1), .ref a2, .ref a3, .ref a4, .ref a5, .int 0, .int 0, .int 0, .int 0, .int 0, .ref a6]))] := hD
  refine lv_aload_n hx hb dX9_state_5 rfl (lv_at hl 0 rfl) ?_
  refine lv_iload_n hx hb dX9_state_6 rfl (lv_at hl 1 rfl) ?_
  refine lv_iconst (v := 0) hx hb dX9_state_7 (by decide) ?_
  refine lv_bipush (v := 12) hx hb dX9_state_8 (by decide) ?_
  refine cs_i (As := [.int x0, .int 0, .int 12]) (rest := [.ref a0]) (wr := [(a0, .inr (9, [.int 0, .ref a1, .int 0, .int 0, .int 0, .int 0, .int 0, .int (-1), .ref a2, .ref a3, .ref a4, .ref a5, .int 0, .int 0, .int 0, .int 0, .int 0, .ref a6]))]) ⟨hx, hb, hml, hown, hts⟩ (fun sz => k155_X9_in l D cs sz (x0) hf0) (va_cwS 3 hts gX9_state_X9_in rfl rfl rfl hdX9_in_o ⟨Nat.le_of_ble_eq_true rfl, Nat.le_of_ble_eq_true rfl⟩) hN hP hD hS hA [] [0] rfl rfl rfl rfl (by decide) rfl rfl hl.1 (Nat.le_of_ble_eq_true rfl) dX9_state_10 (Nat.le_of_ble_eq_true rfl) (Nat.le_of_ble_eq_true rfl) (fun u0 H locs hP hD hS => ?_)
  have hP : va_P D vwCl [(a0, .inr (9, [.int 0, .ref a1, .int 0, .int 0, .int 0, .int 0, .int 0, .int (-1), .ref a2, .ref a3, .ref a4, .ref a5, .int 0, .int 0, .int 0, .int 0, .int 0, .ref a6]))] H := hP
  have hD : va_D A [(a0, .inr (9, [.int 0, .ref a1, .int 0, .int 0, .int 0, .int 0, .int 0, .int (-1), .ref a2, .ref a3, .ref a4, .ref a5, .int 0, .int 0, .int 0, .int 0, .int 0, .ref a6]))] := hD
  refine W.widen (k := 0) (n := 0) (Nat.le_of_ble_eq_true rfl) (Nat.le_of_ble_eq_true rfl) ?_
  refine lv_if_ne (tgt := 20) hx hb dX9_state_13 (by decide) (fun c9 => absurd (by decide) c9) (fun _ => ?_)
  refine lv_iconst (v := 1) hx hb dX9_state_16 (by decide) ?_
  refine lv_goto (tgt := 21) hx hb dX9_state_17 (by decide) ?_
  refine lv_iconst (v := 1) hx hb dX9_state_21 (by decide) ?_
  refine cv_i (As := [.int 1, .int 1]) (rest := []) (b := a0) (wr := []) ⟨hx, hb, hml, hown, hts⟩ (fun sz => k156_X9_fails l D cs sz a0 a1 a2 a3 a4 a5 a6) (cwV 2 hts gX9_state_X9_fails rfl rfl rfl hdX9_fails_v ⟨Nat.le_of_ble_eq_true rfl, Nat.le_of_ble_eq_true rfl⟩) hN hP hD hS hA [0] [] rfl rfl rfl rfl (by decide) (ci := 9) (q0 := 0) rfl rfl rfl rfl hl.1 (Nat.le_of_ble_eq_true rfl) dX9_state_22 (Nat.le_of_ble_eq_true rfl) (Nat.le_of_ble_eq_true rfl) (fun u1 H locs hP hD hS => ?_)
  have hP : va_P D vwCl [(a0, .inr (9, [.int 1, .ref a1, .int 0, .int 0, .int 0, .int 0, .int 0, .int (-1), .ref a2, .ref a3, .ref a4, .ref a5, .int 0, .int 0, .int 0, .int 0, .int 0, .ref a6]))] H := hP
  have hD : va_D A [(a0, .inr (9, [.int 1, .ref a1, .int 0, .int 0, .int 0, .int 0, .int 0, .int (-1), .ref a2, .ref a3, .ref a4, .ref a5, .int 0, .int 0, .int 0, .int 0, .int 0, .ref a6]))] := hD
  refine W.widen (k := 0) (n := 0) (Nat.le_of_ble_eq_true rfl) (Nat.le_of_ble_eq_true rfl) ?_
  refine lv_if_eq (tgt := 32) hx hb dX9_state_25 (by decide) (fun c9 => absurd c9 (by decide)) (fun _ => ?_)
  refine lv_iconst (v := 0) hx hb dX9_state_28 (by decide) ?_
  refine lv_goto (tgt := 37) hx hb dX9_state_29 (by decide) ?_
  exact en_i (fun k => ([] : List Nat).getD k 0) hx hb hr hlocks rfl rfl hP hD hS (Nat.le_of_ble_eq_true rfl) (Nat.le_of_ble_eq_true rfl) dX9_state_37
set_option maxHeartbeats 4000000 in
set_option maxRecDepth 100000 in
theorem k158_X9_thrown (l : Launch) (D : va_G) (cs : Nat → ClassId) (sz : Nat) (a0 a1 a2 a3 a4 a5 a6 : Nat) : KI l yX9_thrown wsX9_thrown 0 0 0 0 D cs sz [.ref a0] [(a0, .inr (9, [.int 1, .ref a1, .int 0, .int 0, .int 0, .int 0, .int 0, .int (-1), .ref a2, .ref a3, .ref a4, .ref a5, .int 0, .int 0, .int 0, .int 0, .int 0, .ref a6]))] (fun u => [(a0, .inr (9, [.int 1, .ref a1, .int 0, .int 0, .int 0, .int 0, .int 0, .int (-1), .ref a2, .ref a3, .ref a4, .ref a5, .int 0, .int 0, .int 0, .int 0, .int 0, .ref a6]))]) (1) := by
  refine KI.of cX9_thrown 1 (some .int) (by decide) rfl (Nat.le_of_ble_eq_true rfl) ?_
  intro p e s m below meth c A ls hx hb hr hml hown hts hlocks hin hP hN hD hA hS hl
  have hown : s.vm.findClass RX9 = some m.cls := hown
  have hl : lv_has ls 1 [(0, .ref a0)] := hl
  refine lv_aload_n hx hb dX9_thrown_0 rfl (lv_at hl 0 rfl) ?_
  refine va_get (D := D) (ci := 9) (v := .int 1) (C := RX9) (T := TX9) (N := 18) hx hb hts iX9_thrown_9 hown hN.1 hP 0 rfl rfl 0 (by decide) (hts _ mX9_thrown_1) (fun _ h9 => h9) rfl dX9_thrown_1 ?_
  exact en_i (fun k => ([] : List Nat).getD k 0) hx hb hr hlocks rfl rfl hP hD hS (Nat.le_of_ble_eq_true rfl) (Nat.le_of_ble_eq_true rfl) dX9_thrown_4
set_option maxHeartbeats 4000000 in
set_option maxRecDepth 100000 in
theorem law_3_n {p : Program} {l : Launch} {e : Env} {s : State} {m : MethodId} {args : Array Value} {below : List Frame} {meth : Method} {c : Code} {Q : State → Prop} {D : va_G} {cs : Nat → ClassId} {A : Nat → Prop} {xs : Nat → Int32} {b : Nat} (hx : p.tables.exec = Jvm.exec) (hb : c.code = cL_law) (hml : c.maxLocals = 9) (hown : s.vm.findClass RL = some m.cls) (hts : ∀ w ∈ wsL_law, w.before args s = true) (hN : NK D cs s) (hX : va_X b 6 xs s s.heap) (hbl : b < s.heap.size) (hbA : ¬ A b) (hA : ∀ q : Nat, s.heap.size ≤ q → A q) (hZ : ZX A s s.heap) (hZS : ZS cs A s s.heap) (hlt : l.stackTraces = false)
    (kend : ∀ (H : Heap) (locs : List Loc) (ls : Array Slot), va_S A s.heap H locs → lv_has ls 9 [(0, .ref b), (4, .int 0)] → W p l e room_1 s m args below meth c H locs 600002 7302232 Q (F0 m 1169 ls []))
    (a0 a1 a2 a3 a4 a5 a6 a7 a8 a9 a10 a11 a12 : Nat) (y1 : Int32) (hy1 : xs 1 = (y1)) (g1_2 : y1 < 0) (H : Heap) (locs : List Loc) (ls : Array Slot) (hP : va_P D vwCl [(a0, .inr (8, [.ref a2, .ref a3, .ref a4, .ref a5, .int 0, .int 0, .int (-1)])), (a1, .inr (9, [.int 0, .ref a6, .int 0, .int 0, .int 0, .int 0, .int 0, .int (-1), .ref a7, .ref a8, .ref a9, .ref a10, .int 0, .int 0, .int 0, .int 0, .int 0, .ref a11]))] H) (hD : va_D A [(a0, .inr (8, [.ref a2, .ref a3, .ref a4, .ref a5, .int 0, .int 0, .int (-1)])), (a1, .inr (9, [.int 0, .ref a6, .int 0, .int 0, .int 0, .int 0, .int 0, .int (-1), .ref a7, .ref a8, .ref a9, .ref a10, .int 0, .int 0, .int 0, .int 0, .int 0, .ref a11]))]) (hS : va_S A s.heap H locs) (hl : lv_has ls 9 [(4, .int 0), (3, .ref a12), (2, .ref a1), (1, .ref a0), (0, .ref b)]) : W p l e room_1 s m args below meth c H locs 391 467079 Q (F0 m 278 ls []) := by
  refine lv_aload_n hx hb dL_law_278 rfl (lv_at hl 3 rfl) ?_
  refine lv_aload_n hx hb dL_law_279 rfl (lv_at hl 4 rfl) ?_
  refine lv_iload hx hb dL_law_280 (lv_at hl 0 rfl) ?_
  refine lv_iconst (v := 1) hx hb dL_law_282 (by decide) ?_
  refine lv_iadd hx hb dL_law_283 ?_
  refine tp_i (1) (by decide) ?_
  refine va_sld hx hb hX hbl hbA hS (vin (by decide +kernel)) dL_law_284 ?_
  refine tp_i (y1) hy1 ?_
  refine lv_aload_n hx hb dL_law_285 rfl (lv_at hl 1 rfl) ?_
  refine ch_i (As := [.ref a0, .int y1, .ref a12]) (rest := []) (wr := [(a1, .inr (9, [.int 0, .ref a6, .int 0, .int 0, .int 0, .int 0, .int 0, .int (-1), .ref a7, .ref a8, .ref a9, .ref a10, .int 0, .int 0, .int 0, .int 0, .int 0, .ref a11]))]) ⟨hx, hb, hml, hown, hts⟩ (fun sz => k154_L_state l D cs sz hlt a0 a12 a2 a3 a4 a5 (y1) g1_2) (vx_cwSW 3 hts gL_law_L_state rfl rfl rfl hdL_state_o ⟨Nat.le_of_ble_eq_true rfl, Nat.le_of_ble_eq_true rfl⟩) hN hP hD hS hA hZ [0] [1] rfl rfl rfl rfl (by decide) rfl rfl hl.1 (Nat.le_of_ble_eq_true rfl) dL_law_286 (Nat.le_of_ble_eq_true rfl) (Nat.le_of_ble_eq_true rfl) (fun u0 H locs hP hD hS => ?_)
  have hP : va_P D vwCl [(a1, .inr (9, [.int 0, .ref a6, .int 0, .int 0, .int 0, .int 0, .int 0, .int (-1), .ref a7, .ref a8, .ref a9, .ref a10, .int 0, .int 0, .int 0, .int 0, .int 0, .ref a11]))] H := hP
  have hD : va_D A [(a1, .inr (9, [.int 0, .ref a6, .int 0, .int 0, .int 0, .int 0, .int 0, .int (-1), .ref a7, .ref a8, .ref a9, .ref a10, .int 0, .int 0, .int 0, .int 0, .int 0, .ref a11]))] := hD
  refine W.widen (k := 392) (n := 467085) (Nat.le_of_ble_eq_true rfl) (Nat.le_of_ble_eq_true rfl) ?_
  refine lv_istore (lv' := [(5, .int 1), (4, .int 0), (3, .ref a12), (2, .ref a1), (1, .ref a0), (0, .ref b)]) hx hb dL_law_289 hl (by decide) rfl (fun ls hl => ?_)
  refine lv_aload_n hx hb dL_law_291 rfl (lv_at hl 3 rfl) ?_
  refine lv_aload_n hx hb dL_law_292 rfl (lv_at hl 5 rfl) ?_
  refine lv_iload hx hb dL_law_293 (lv_at hl 1 rfl) ?_
  refine lv_iconst (v := 1) hx hb dL_law_295 (by decide) ?_
  refine lv_iadd hx hb dL_law_296 ?_
  refine tp_i (1) (by decide) ?_
  refine va_sld hx hb hX hbl hbA hS (vin (by decide +kernel)) dL_law_297 ?_
  refine tp_i (y1) hy1 ?_
  refine cv_i (As := [.int y1]) (rest := []) (b := a1) (wr := []) ⟨hx, hb, hml, hown, hts⟩ (fun sz => k157_X9_state l D cs sz a1 a6 a7 a8 a9 a10 a11 (y1) g1_2) (cwV 1 hts gL_law_X9_state rfl rfl rfl hdX9_state_v ⟨Nat.le_of_ble_eq_true rfl, Nat.le_of_ble_eq_true rfl⟩) hN hP hD hS hA [0] [] rfl rfl rfl rfl (by decide) (ci := 9) (q0 := 0) rfl rfl rfl rfl hl.1 (Nat.le_of_ble_eq_true rfl) dL_law_298 (Nat.le_of_ble_eq_true rfl) (Nat.le_of_ble_eq_true rfl) (fun u1 H locs hP hD hS => ?_)
  have hP : va_P D vwCl [(a1, .inr (9, [.int 1, .ref a6, .int 0, .int 0, .int 0, .int 0, .int 0, .int (-1), .ref a7, .ref a8, .ref a9, .ref a10, .int 0, .int 0, .int 0, .int 0, .int 0, .ref a11]))] H := hP
  have hD : va_D A [(a1, .inr (9, [.int 1, .ref a6, .int 0, .int 0, .int 0, .int 0, .int 0, .int (-1), .ref a7, .ref a8, .ref a9, .ref a10, .int 0, .int 0, .int 0, .int 0, .int 0, .ref a11]))] := hD
  refine W.widen (k := 392) (n := 467085) (Nat.le_of_ble_eq_true rfl) (Nat.le_of_ble_eq_true rfl) ?_
  refine lv_istore (lv' := [(6, .int 0), (5, .int 1), (4, .int 0), (3, .ref a12), (2, .ref a1), (1, .ref a0), (0, .ref b)]) hx hb dL_law_301 hl (by decide) rfl (fun ls hl => ?_)
  refine lv_aload_n hx hb dL_law_303 rfl (lv_at hl 4 rfl) ?_
  refine cv_i (As := []) (rest := []) (b := a1) (wr := []) ⟨hx, hb, hml, hown, hts⟩ (fun sz => k158_X9_thrown l D cs sz a1 a6 a7 a8 a9 a10 a11) (cwV 0 hts gL_law_X9_thrown rfl rfl rfl hdX9_thrown_v ⟨Nat.le_of_ble_eq_true rfl, Nat.le_of_ble_eq_true rfl⟩) hN hP hD hS hA [0] [] rfl rfl rfl rfl (by decide) (ci := 9) (q0 := 0) rfl rfl rfl rfl hl.1 (Nat.le_of_ble_eq_true rfl) dL_law_304 (Nat.le_of_ble_eq_true rfl) (Nat.le_of_ble_eq_true rfl) (fun u2 H locs hP hD hS => ?_)
  have hP : va_P D vwCl [(a1, .inr (9, [.int 1, .ref a6, .int 0, .int 0, .int 0, .int 0, .int 0, .int (-1), .ref a7, .ref a8, .ref a9, .ref a10, .int 0, .int 0, .int 0, .int 0, .int 0, .ref a11]))] H := hP
  have hD : va_D A [(a1, .inr (9, [.int 1, .ref a6, .int 0, .int 0, .int 0, .int 0, .int 0, .int (-1), .ref a7, .ref a8, .ref a9, .ref a10, .int 0, .int 0, .int 0, .int 0, .int 0, .ref a11]))] := hD
  refine W.widen (k := 392) (n := 467085) (Nat.le_of_ble_eq_true rfl) (Nat.le_of_ble_eq_true rfl) ?_
  refine lv_iload hx hb dL_law_307 (lv_at hl 1 rfl) ?_
  refine lv_icmp_eq (tgt := 314) hx hb dL_law_309 (by decide) (fun _ => ?_) (fun c9 => absurd (by decide) c9)
  refine lv_iload hx hb dL_law_314 (lv_at hl 1 rfl) ?_
  refine lv_if_ne (tgt := 331) hx hb dL_law_316 (by decide) (fun _ => ?_) (fun c9 => absurd c9 (by decide))
  refine lv_goto (tgt := 1169) hx hb dL_law_331 (by decide) ?_
  refine W.widen (k := 600002) (n := 7302232) (Nat.le_of_ble_eq_true rfl) (Nat.le_of_ble_eq_true rfl) ?_
  exact kend _ _ _ hS (lv_sub hl [6, 2] rfl)

set_option maxHeartbeats 4000000 in
set_option maxRecDepth 100000 in
theorem k159_X8_refuseWhatOutside (l : Launch) (D : va_G) (cs : Nat → ClassId) (sz : Nat) (hlt : l.stackTraces = false) (a0 a1 a2 a3 a4 : Nat) (x0 : Int32) (hf0 : ¬ x0 < 0) (hf1 : ¬ x0 ≤ 12) : KX l yX8_refuseWhatOutside wsX8_refuseWhatOutside 6 100 1 6 D cs sz [.ref a0, .int x0, .int 12] [(a0, .inr (8, [.ref a1, .ref a2, .ref a3, .ref a4, .int 0, .int 0, .int (-1)]))] QnV "java/lang/IllegalArgumentException" := by
  refine KX.of cX8_refuseWhatOutside 3 none (by decide) rfl (Nat.le_of_ble_eq_true rfl) ?_
  intro p e s m below meth c A ls hx hb hr hml hown hts hlocks hnx hP hN hD hA hS hl hZ
  have hown : s.vm.findClass RX8 = some m.cls := hown
  have hl : lv_has ls 3 [(0, .ref a0), (1, .int x0), (2, .int 12)] := hl
  refine lv_iload_n hx hb dX8_refuseWhatOutside_0 rfl (lv_at hl 1 rfl) ?_
  refine lv_if_lt (tgt := 9) hx hb dX8_refuseWhatOutside_1 (by decide) (fun c9 => absurd c9 hf0) (fun _ => ?_)
  refine lv_iload_n hx hb dX8_refuseWhatOutside_4 rfl (lv_at hl 1 rfl) ?_
  refine lv_iload_n hx hb dX8_refuseWhatOutside_5 rfl (lv_at hl 2 rfl) ?_
  refine lv_icmp_le (tgt := 19) hx hb dX8_refuseWhatOutside_6 (by decide) (fun c9 => absurd c9 hf1) (fun _ => ?_)
  exact tx_g2 (E := "java/lang/IllegalArgumentException") 0 hx hb hlt hown hN (by decide +kernel) (hts _ mX8_refuseWhatOutside_1) (hts _ mX8_refuseWhatOutside_2) (hN.s 10 rfl) rfl (fun w h => hts w (xgX8_refuseWhatOutside_49_0 w h)) xnRX8_49_0 xdRX8_49_0 xoRX8_45_49_0 hZ hS hl hml dX8_refuseWhatOutside_9 dX8_refuseWhatOutside_12 dX8_refuseWhatOutside_13 dX8_refuseWhatOutside_15 dX8_refuseWhatOutside_18 hnx (Nat.le_of_ble_eq_true rfl) (Nat.le_of_ble_eq_true rfl) (Nat.le_of_ble_eq_true rfl) (Nat.le_of_ble_eq_true rfl) hlocks (Nat.le_of_ble_eq_true rfl) (Nat.le_of_ble_eq_true rfl)
set_option maxHeartbeats 4000000 in
set_option maxRecDepth 100000 in
theorem k160_X8_state (l : Launch) (D : va_G) (cs : Nat → ClassId) (sz : Nat) (hlt : l.stackTraces = false) (a0 a1 a2 a3 a4 : Nat) (x0 : Int32) (hf0 : ¬ x0 < 0) (hf1 : ¬ x0 ≤ 12) : KX l yX8_state wsX8_state 7 122 1 6 D cs sz [.ref a0, .int x0] [(a0, .inr (8, [.ref a1, .ref a2, .ref a3, .ref a4, .int 0, .int 0, .int (-1)]))] QnI "java/lang/IllegalArgumentException" := by
  refine KX.of cX8_state 2 (some .int) (by decide) rfl (Nat.le_of_ble_eq_true rfl) ?_
  intro p e s m below meth c A ls hx hb hr hml hown hts hlocks hnx hP hN hD hA hS hl hZ
  have hown : s.vm.findClass RX8 = some m.cls := hown
  have hl : lv_has ls 2 [(0, .ref a0), (1, .int x0)] := hl
  refine lv_aload_n hx hb dX8_state_0 rfl (lv_at hl 0 rfl) ?_
  refine lv_iload_n hx hb dX8_state_1 rfl (lv_at hl 1 rfl) ?_
  refine lv_bipush (v := 12) hx hb dX8_state_2 (by decide) ?_
  exact xp_v (As := [.int x0, .int 12]) (rest := []) (b := a0) ⟨hx, hb, hml, hown, hts⟩ (fun sz => k159_X8_refuseWhatOutside l D cs sz hlt a0 a1 a2 a3 a4 (x0) hf0 hf1) (cwV 2 hts gX8_state_X8_refuseWhatOutside rfl rfl rfl hdX8_refuseWhatOutside_v ⟨Nat.le_of_ble_eq_true rfl, Nat.le_of_ble_eq_true rfl⟩) hN hP hD hS hA hZ [0] rfl rfl (ci := 8) (q0 := 0) rfl rfl rfl rfl hl.1 (Nat.le_of_ble_eq_true rfl) dX8_state_4 (Nat.le_of_ble_eq_true rfl) (Nat.le_of_ble_eq_true rfl) hnx hlocks (Nat.le_of_ble_eq_true rfl) (Nat.le_of_ble_eq_true rfl)
set_option maxHeartbeats 4000000 in
set_option maxRecDepth 100000 in
theorem k161_L_state (l : Launch) (D : va_G) (cs : Nat → ClassId) (sz : Nat) (hlt : l.stackTraces = false) (a0 a1 a2 a3 a4 a5 : Nat) (x0 : Int32) (hf0 : ¬ x0 < 0) (hf1 : ¬ x0 ≤ 12) : KH l yL_state wsL_state 8 143 1 6 D cs sz [.ref a0, .int x0, .ref a1] [(a0, .inr (8, [.ref a2, .ref a3, .ref a4, .ref a5, .int 0, .int 0, .int (-1)]))] (fun u => []) (1) := by
  refine KH.of cL_state 4 (some .int) (by decide) rfl (Nat.le_of_ble_eq_true rfl) ?_
  intro p e s m below meth c A ls hx hb hr hml hown hts hlocks htab hP hN hD hA hS hl hZ
  have hown : s.vm.findClass RL = some m.cls := hown
  have hl : lv_has ls 4 [(0, .ref a0), (1, .int x0), (2, .ref a1)] := hl
  refine lv_aload_n hx hb dL_state_0 rfl (lv_at hl 2 rfl) ?_
  refine lv_iconst (v := 0) hx hb dL_state_1 (by decide) ?_
  refine lv_aload_n hx hb dL_state_2 rfl (lv_at hl 0 rfl) ?_
  refine lv_iload_n hx hb dL_state_3 rfl (lv_at hl 1 rfl) ?_
  refine xc_i (wr := []) (As := [.int x0]) (rest := [.int 0, .ref a1]) (b := a0) ⟨hx, hb, hml, hown, hts⟩ (fun sz => k160_X8_state l D cs sz hlt a0 a2 a3 a4 a5 (x0) hf0 hf1) (cwV 1 hts gL_state_X8_state rfl rfl rfl hdX8_state_v ⟨Nat.le_of_ble_eq_true rfl, Nat.le_of_ble_eq_true rfl⟩) hN hP hD hS hA hZ [0] rfl rfl (ci := 8) (q0 := 0) rfl rfl rfl rfl hl.1 (Nat.le_of_ble_eq_true rfl) dL_state_4 (Nat.le_of_ble_eq_true rfl) (Nat.le_of_ble_eq_true rfl) [] rfl rfl (by decide) [] ⟨0, 9, 12, 13⟩ [] htab (fun z h => nomatch h) rfl (by decide) (hts _ mL_state_1) 0 rfl (fun q9_5 H locs hP hD hS => ?_)
  have hP : va_P D vwCl [] H := hP
  have hD : va_D A [] := hD
  refine W.widen (k := 1) (n := 6) (Nat.le_of_ble_eq_true rfl) (Nat.le_of_ble_eq_true rfl) ?_
  refine lv_astore_n (lv' := [(3, .ref q9_5), (0, .ref a0), (1, .int x0), (2, .ref a1)]) hx hb dL_state_12 rfl hl (by decide) rfl (fun ls hl => ?_)
  refine lv_iconst (v := 1) hx hb dL_state_13 (by decide) ?_
  exact en_i (fun k => ([] : List Nat).getD k 0) hx hb hr hlocks rfl rfl hP hD hS (Nat.le_of_ble_eq_true rfl) (Nat.le_of_ble_eq_true rfl) dL_state_14
set_option maxHeartbeats 4000000 in
set_option maxRecDepth 100000 in
theorem k162_X9_in (l : Launch) (D : va_G) (cs : Nat → ClassId) (sz : Nat) (x0 : Int32) (hf0 : ¬ x0 < 0) (hf1 : 12 < x0) : KI l yX9_in wsX9_in 0 0 0 0 D cs sz [.int x0, .int 0, .int 12] [] (fun u => []) (0) := by
  refine KI.of cX9_in 3 (some .boolean) (by decide) rfl (Nat.le_of_ble_eq_true rfl) ?_
  intro p e s m below meth c A ls hx hb hr hml hown hts hlocks hin hP hN hD hA hS hl
  have hown : s.vm.findClass RX9 = some m.cls := hown
  have hl : lv_has ls 3 [(0, .int x0), (1, .int 0), (2, .int 12)] := hl
  refine lv_iload_n hx hb dX9_in_0 rfl (lv_at hl 0 rfl) ?_
  refine lv_iload_n hx hb dX9_in_1 rfl (lv_at hl 1 rfl) ?_
  refine lv_icmp_lt (tgt := 14) hx hb dX9_in_2 (by decide) (fun c9 => absurd c9 hf0) (fun _ => ?_)
  refine lv_iload_n hx hb dX9_in_5 rfl (lv_at hl 0 rfl) ?_
  refine lv_iload_n hx hb dX9_in_6 rfl (lv_at hl 2 rfl) ?_
  refine lv_icmp_gt (tgt := 14) hx hb dX9_in_7 (by decide) (fun _ => ?_) (fun c9 => absurd hf1 c9)
  refine lv_iconst (v := 0) hx hb dX9_in_14 (by decide) ?_
  exact en_i (fun k => ([] : List Nat).getD k 0) hx hb hr hlocks rfl rfl hP hD hS (Nat.le_of_ble_eq_true rfl) (Nat.le_of_ble_eq_true rfl) dX9_in_15
set_option maxHeartbeats 4000000 in
set_option maxRecDepth 100000 in
theorem k163_X9_state (l : Launch) (D : va_G) (cs : Nat → ClassId) (sz : Nat) (a0 a1 a2 a3 a4 a5 a6 : Nat) (x0 : Int32) (hf0 : ¬ x0 < 0) (hf1 : 12 < x0) : KI l yX9_state wsX9_state 1 22 0 0 D cs sz [.ref a0, .int x0] [(a0, .inr (9, [.int 0, .ref a1, .int 0, .int 0, .int 0, .int 0, .int 0, .int (-1), .ref a2, .ref a3, .ref a4, .ref a5, .int 0, .int 0, .int 0, .int 0, .int 0, .ref a6]))] (fun u => [(a0, .inr (9, [.int 1, .ref a1, .int 0, .int 0, .int 0, .int 0, .int 0, .int (-1), .ref a2, .ref a3, .ref a4, .ref a5, .int 0, .int 0, .int 0, .int 0, .int 0, .ref a6]))]) (0) := by
  refine KI.of cX9_state 2 (some .int) (by decide) rfl (Nat.le_of_ble_eq_true rfl) ?_
  intro p e s m below meth c A ls hx hb hr hml hown hts hlocks hin hP hN hD hA hS hl
  have hown : s.vm.findClass RX9 = some m.cls := hown
  have hl : lv_has ls 2 [(0, .ref a0), (1, .int x0)] := hl
  refine lv_aload_n hx hb dX9_state_0 rfl (lv_at hl 0 rfl) ?_
  refine lv_iconst (v := 0) hx hb dX9_state_1 (by decide) ?_
  refine va_put (D := D) (ci := 9) (v := .int 0) (ty := .int) (C := RX9) (T := TX9) (N := 18) hx hb hts iX9_state_9 tyX9 tyX9_ok nmX9 hown hN.1 hP hD hS 0 rfl rfl 0 (by decide) (hts _ mX9_state_1) (fun _ h9 => h9) rfl (by decide +kernel) rfl rfl (Nat.le_of_ble_eq_true rfl) dX9_state_2 (fun H locs hP hD hS => ?_)
  have hP : va_P D vwCl [(a0, .inr (9, [.int 0, .ref a1, .int 0, .int 0, .int 0, .int 0, .int 0, .int (-1), .ref a2, .ref a3, .ref a4, .ref a5, .int 0, .int 0, .int 0, .int 0, .int 0, .ref a6]))] H := hP
  have hD : va_D A [(a0, .inr (9, [.int 0, .ref a1, .int 0, .int 0, .int 0, .int 0, .int 0, .int (-1), .ref a2, .ref a3, .ref a4, .ref a5, .int 0, .int 0, .int 0, .int 0, .int 0, .ref a6]))] := hD
  refine lv_aload_n hx hb dX9_state_5 rfl (lv_at hl 0 rfl) ?_
  refine lv_iload_n hx hb dX9_state_6 rfl (lv_at hl 1 rfl) ?_
  refine lv_iconst (v := 0) hx hb dX9_state_7 (by decide) ?_
  refine lv_bipush (v := 12) hx hb dX9_state_8 (by decide) ?_
  refine cs_i (As := [.int x0, .int 0, .int 12]) (rest := [.ref a0]) (wr := [(a0, .inr (9, [.int 0, .ref a1, .int 0, .int 0, .int 0, .int 0, .int 0, .int (-1), .ref a2, .ref a3, .ref a4, .ref a5, .int 0, .int 0, .int 0, .int 0, .int 0, .ref a6]))]) ⟨hx, hb, hml, hown, hts⟩ (fun sz => k162_X9_in l D cs sz (x0) hf0 hf1) (va_cwS 3 hts gX9_state_X9_in rfl rfl rfl hdX9_in_o ⟨Nat.le_of_ble_eq_true rfl, Nat.le_of_ble_eq_true rfl⟩) hN hP hD hS hA [] [0] rfl rfl rfl rfl (by decide) rfl rfl hl.1 (Nat.le_of_ble_eq_true rfl) dX9_state_10 (Nat.le_of_ble_eq_true rfl) (Nat.le_of_ble_eq_true rfl) (fun u0 H locs hP hD hS => ?_)
  have hP : va_P D vwCl [(a0, .inr (9, [.int 0, .ref a1, .int 0, .int 0, .int 0, .int 0, .int 0, .int (-1), .ref a2, .ref a3, .ref a4, .ref a5, .int 0, .int 0, .int 0, .int 0, .int 0, .ref a6]))] H := hP
  have hD : va_D A [(a0, .inr (9, [.int 0, .ref a1, .int 0, .int 0, .int 0, .int 0, .int 0, .int (-1), .ref a2, .ref a3, .ref a4, .ref a5, .int 0, .int 0, .int 0, .int 0, .int 0, .ref a6]))] := hD
  refine W.widen (k := 0) (n := 0) (Nat.le_of_ble_eq_true rfl) (Nat.le_of_ble_eq_true rfl) ?_
  refine lv_if_ne (tgt := 20) hx hb dX9_state_13 (by decide) (fun c9 => absurd (by decide) c9) (fun _ => ?_)
  refine lv_iconst (v := 1) hx hb dX9_state_16 (by decide) ?_
  refine lv_goto (tgt := 21) hx hb dX9_state_17 (by decide) ?_
  refine lv_iconst (v := 1) hx hb dX9_state_21 (by decide) ?_
  refine cv_i (As := [.int 1, .int 1]) (rest := []) (b := a0) (wr := []) ⟨hx, hb, hml, hown, hts⟩ (fun sz => k156_X9_fails l D cs sz a0 a1 a2 a3 a4 a5 a6) (cwV 2 hts gX9_state_X9_fails rfl rfl rfl hdX9_fails_v ⟨Nat.le_of_ble_eq_true rfl, Nat.le_of_ble_eq_true rfl⟩) hN hP hD hS hA [0] [] rfl rfl rfl rfl (by decide) (ci := 9) (q0 := 0) rfl rfl rfl rfl hl.1 (Nat.le_of_ble_eq_true rfl) dX9_state_22 (Nat.le_of_ble_eq_true rfl) (Nat.le_of_ble_eq_true rfl) (fun u1 H locs hP hD hS => ?_)
  have hP : va_P D vwCl [(a0, .inr (9, [.int 1, .ref a1, .int 0, .int 0, .int 0, .int 0, .int 0, .int (-1), .ref a2, .ref a3, .ref a4, .ref a5, .int 0, .int 0, .int 0, .int 0, .int 0, .ref a6]))] H := hP
  have hD : va_D A [(a0, .inr (9, [.int 1, .ref a1, .int 0, .int 0, .int 0, .int 0, .int 0, .int (-1), .ref a2, .ref a3, .ref a4, .ref a5, .int 0, .int 0, .int 0, .int 0, .int 0, .ref a6]))] := hD
  refine W.widen (k := 0) (n := 0) (Nat.le_of_ble_eq_true rfl) (Nat.le_of_ble_eq_true rfl) ?_
  refine lv_if_eq (tgt := 32) hx hb dX9_state_25 (by decide) (fun c9 => absurd c9 (by decide)) (fun _ => ?_)
  refine lv_iconst (v := 0) hx hb dX9_state_28 (by decide) ?_
  refine lv_goto (tgt := 37) hx hb dX9_state_29 (by decide) ?_
  exact en_i (fun k => ([] : List Nat).getD k 0) hx hb hr hlocks rfl rfl hP hD hS (Nat.le_of_ble_eq_true rfl) (Nat.le_of_ble_eq_true rfl) dX9_state_37
set_option maxHeartbeats 4000000 in
set_option maxRecDepth 100000 in
theorem law_3_b {p : Program} {l : Launch} {e : Env} {s : State} {m : MethodId} {args : Array Value} {below : List Frame} {meth : Method} {c : Code} {Q : State → Prop} {D : va_G} {cs : Nat → ClassId} {A : Nat → Prop} {xs : Nat → Int32} {b : Nat} (hx : p.tables.exec = Jvm.exec) (hb : c.code = cL_law) (hml : c.maxLocals = 9) (hown : s.vm.findClass RL = some m.cls) (hts : ∀ w ∈ wsL_law, w.before args s = true) (hN : NK D cs s) (hX : va_X b 6 xs s s.heap) (hbl : b < s.heap.size) (hbA : ¬ A b) (hA : ∀ q : Nat, s.heap.size ≤ q → A q) (hZ : ZX A s s.heap) (hZS : ZS cs A s s.heap) (hlt : l.stackTraces = false)
    (kend : ∀ (H : Heap) (locs : List Loc) (ls : Array Slot), va_S A s.heap H locs → lv_has ls 9 [(0, .ref b), (4, .int 0)] → W p l e room_1 s m args below meth c H locs 600002 7302232 Q (F0 m 1169 ls []))
    (a0 a1 a2 a3 a4 a5 a6 a7 a8 a9 a10 a11 a12 : Nat) (y1 : Int32) (hy1 : xs 1 = (y1)) (g1_4 : ¬ y1 < 0) (g1_26 : ¬ y1 ≤ 12) (g1_27 : 12 < y1) (H : Heap) (locs : List Loc) (ls : Array Slot) (hP : va_P D vwCl [(a0, .inr (8, [.ref a2, .ref a3, .ref a4, .ref a5, .int 0, .int 0, .int (-1)])), (a1, .inr (9, [.int 0, .ref a6, .int 0, .int 0, .int 0, .int 0, .int 0, .int (-1), .ref a7, .ref a8, .ref a9, .ref a10, .int 0, .int 0, .int 0, .int 0, .int 0, .ref a11]))] H) (hD : va_D A [(a0, .inr (8, [.ref a2, .ref a3, .ref a4, .ref a5, .int 0, .int 0, .int (-1)])), (a1, .inr (9, [.int 0, .ref a6, .int 0, .int 0, .int 0, .int 0, .int 0, .int (-1), .ref a7, .ref a8, .ref a9, .ref a10, .int 0, .int 0, .int 0, .int 0, .int 0, .ref a11]))]) (hS : va_S A s.heap H locs) (hl : lv_has ls 9 [(4, .int 0), (3, .ref a12), (2, .ref a1), (1, .ref a0), (0, .ref b)]) : W p l e room_1 s m args below meth c H locs 391 467079 Q (F0 m 278 ls []) := by
  refine lv_aload_n hx hb dL_law_278 rfl (lv_at hl 3 rfl) ?_
  refine lv_aload_n hx hb dL_law_279 rfl (lv_at hl 4 rfl) ?_
  refine lv_iload hx hb dL_law_280 (lv_at hl 0 rfl) ?_
  refine lv_iconst (v := 1) hx hb dL_law_282 (by decide) ?_
  refine lv_iadd hx hb dL_law_283 ?_
  refine tp_i (1) (by decide) ?_
  refine va_sld hx hb hX hbl hbA hS (vin (by decide +kernel)) dL_law_284 ?_
  refine tp_i (y1) hy1 ?_
  refine lv_aload_n hx hb dL_law_285 rfl (lv_at hl 1 rfl) ?_
  refine ch_i (As := [.ref a0, .int y1, .ref a12]) (rest := []) (wr := [(a1, .inr (9, [.int 0, .ref a6, .int 0, .int 0, .int 0, .int 0, .int 0, .int (-1), .ref a7, .ref a8, .ref a9, .ref a10, .int 0, .int 0, .int 0, .int 0, .int 0, .ref a11]))]) ⟨hx, hb, hml, hown, hts⟩ (fun sz => k161_L_state l D cs sz hlt a0 a12 a2 a3 a4 a5 (y1) g1_4 g1_26) (vx_cwSW 3 hts gL_law_L_state rfl rfl rfl hdL_state_o ⟨Nat.le_of_ble_eq_true rfl, Nat.le_of_ble_eq_true rfl⟩) hN hP hD hS hA hZ [0] [1] rfl rfl rfl rfl (by decide) rfl rfl hl.1 (Nat.le_of_ble_eq_true rfl) dL_law_286 (Nat.le_of_ble_eq_true rfl) (Nat.le_of_ble_eq_true rfl) (fun u0 H locs hP hD hS => ?_)
  have hP : va_P D vwCl [(a1, .inr (9, [.int 0, .ref a6, .int 0, .int 0, .int 0, .int 0, .int 0, .int (-1), .ref a7, .ref a8, .ref a9, .ref a10, .int 0, .int 0, .int 0, .int 0, .int 0, .ref a11]))] H := hP
  have hD : va_D A [(a1, .inr (9, [.int 0, .ref a6, .int 0, .int 0, .int 0, .int 0, .int 0, .int (-1), .ref a7, .ref a8, .ref a9, .ref a10, .int 0, .int 0, .int 0, .int 0, .int 0, .ref a11]))] := hD
  refine W.widen (k := 392) (n := 467085) (Nat.le_of_ble_eq_true rfl) (Nat.le_of_ble_eq_true rfl) ?_
  refine lv_istore (lv' := [(5, .int 1), (4, .int 0), (3, .ref a12), (2, .ref a1), (1, .ref a0), (0, .ref b)]) hx hb dL_law_289 hl (by decide) rfl (fun ls hl => ?_)
  refine lv_aload_n hx hb dL_law_291 rfl (lv_at hl 3 rfl) ?_
  refine lv_aload_n hx hb dL_law_292 rfl (lv_at hl 5 rfl) ?_
  refine lv_iload hx hb dL_law_293 (lv_at hl 1 rfl) ?_
  refine lv_iconst (v := 1) hx hb dL_law_295 (by decide) ?_
  refine lv_iadd hx hb dL_law_296 ?_
  refine tp_i (1) (by decide) ?_
  refine va_sld hx hb hX hbl hbA hS (vin (by decide +kernel)) dL_law_297 ?_
  refine tp_i (y1) hy1 ?_
  refine cv_i (As := [.int y1]) (rest := []) (b := a1) (wr := []) ⟨hx, hb, hml, hown, hts⟩ (fun sz => k163_X9_state l D cs sz a1 a6 a7 a8 a9 a10 a11 (y1) g1_4 g1_27) (cwV 1 hts gL_law_X9_state rfl rfl rfl hdX9_state_v ⟨Nat.le_of_ble_eq_true rfl, Nat.le_of_ble_eq_true rfl⟩) hN hP hD hS hA [0] [] rfl rfl rfl rfl (by decide) (ci := 9) (q0 := 0) rfl rfl rfl rfl hl.1 (Nat.le_of_ble_eq_true rfl) dL_law_298 (Nat.le_of_ble_eq_true rfl) (Nat.le_of_ble_eq_true rfl) (fun u1 H locs hP hD hS => ?_)
  have hP : va_P D vwCl [(a1, .inr (9, [.int 1, .ref a6, .int 0, .int 0, .int 0, .int 0, .int 0, .int (-1), .ref a7, .ref a8, .ref a9, .ref a10, .int 0, .int 0, .int 0, .int 0, .int 0, .ref a11]))] H := hP
  have hD : va_D A [(a1, .inr (9, [.int 1, .ref a6, .int 0, .int 0, .int 0, .int 0, .int 0, .int (-1), .ref a7, .ref a8, .ref a9, .ref a10, .int 0, .int 0, .int 0, .int 0, .int 0, .ref a11]))] := hD
  refine W.widen (k := 392) (n := 467085) (Nat.le_of_ble_eq_true rfl) (Nat.le_of_ble_eq_true rfl) ?_
  refine lv_istore (lv' := [(6, .int 0), (5, .int 1), (4, .int 0), (3, .ref a12), (2, .ref a1), (1, .ref a0), (0, .ref b)]) hx hb dL_law_301 hl (by decide) rfl (fun ls hl => ?_)
  refine lv_aload_n hx hb dL_law_303 rfl (lv_at hl 4 rfl) ?_
  refine cv_i (As := []) (rest := []) (b := a1) (wr := []) ⟨hx, hb, hml, hown, hts⟩ (fun sz => k158_X9_thrown l D cs sz a1 a6 a7 a8 a9 a10 a11) (cwV 0 hts gL_law_X9_thrown rfl rfl rfl hdX9_thrown_v ⟨Nat.le_of_ble_eq_true rfl, Nat.le_of_ble_eq_true rfl⟩) hN hP hD hS hA [0] [] rfl rfl rfl rfl (by decide) (ci := 9) (q0 := 0) rfl rfl rfl rfl hl.1 (Nat.le_of_ble_eq_true rfl) dL_law_304 (Nat.le_of_ble_eq_true rfl) (Nat.le_of_ble_eq_true rfl) (fun u2 H locs hP hD hS => ?_)
  have hP : va_P D vwCl [(a1, .inr (9, [.int 1, .ref a6, .int 0, .int 0, .int 0, .int 0, .int 0, .int (-1), .ref a7, .ref a8, .ref a9, .ref a10, .int 0, .int 0, .int 0, .int 0, .int 0, .ref a11]))] H := hP
  have hD : va_D A [(a1, .inr (9, [.int 1, .ref a6, .int 0, .int 0, .int 0, .int 0, .int 0, .int (-1), .ref a7, .ref a8, .ref a9, .ref a10, .int 0, .int 0, .int 0, .int 0, .int 0, .ref a11]))] := hD
  refine W.widen (k := 392) (n := 467085) (Nat.le_of_ble_eq_true rfl) (Nat.le_of_ble_eq_true rfl) ?_
  refine lv_iload hx hb dL_law_307 (lv_at hl 1 rfl) ?_
  refine lv_icmp_eq (tgt := 314) hx hb dL_law_309 (by decide) (fun _ => ?_) (fun c9 => absurd (by decide) c9)
  refine lv_iload hx hb dL_law_314 (lv_at hl 1 rfl) ?_
  refine lv_if_ne (tgt := 331) hx hb dL_law_316 (by decide) (fun _ => ?_) (fun c9 => absurd c9 (by decide))
  refine lv_goto (tgt := 1169) hx hb dL_law_331 (by decide) ?_
  refine W.widen (k := 600002) (n := 7302232) (Nat.le_of_ble_eq_true rfl) (Nat.le_of_ble_eq_true rfl) ?_
  exact kend _ _ _ hS (lv_sub hl [6, 2] rfl)

