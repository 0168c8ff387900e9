set_option maxHeartbeats 4000000 in
set_option maxRecDepth 100000 in
theorem k628_X9_checksum (l : Launch) (D : va_G) (cs : Nat → ClassId) (sz : Nat) (a0 a1 a2 a3 a4 a5 a6 : Nat) : KL l yX9_checksum wsX9_checksum 5 108 0 0 D cs sz [.ref a0] [(a0, .inr (9, [.int 0, .ref a2, .int 0, .int 0, .int 0, .int 0, .int 0, .int (-1), .ref a1, .ref a3, .ref a4, .ref a5, .int 0, .int 0, .int 0, .int 0, .int 0, .ref a6])), (a1, .inl (cs 0, 45783, .inl (layF (fun _ => 0) 1)))] (fun u => [(a0, .inr (9, [.int 0, .ref a2, .int 0, .int 0, .int 0, .int 0, .int 0, .int (-1), .ref a1, .ref a3, .ref a4, .ref a5, .int 0, .int 0, .int 0, .int 0, .int 0, .ref a6])), (a1, .inl (cs 0, 45783, .inl (layF (fun _ => 0) 1)))]) (8116224355403263776) := by
  refine KL.of cX9_checksum 7 (some .long) (by decide) rfl (Nat.le_of_ble_eq_true rfl) ?_
  intro p e s m below meth c A ls hx hb hr hml hown hts hlocks hin hP hN hD hA hS hl
  have hown : s.vm.findClass RX9 = some m.cls := hown
  have hl : lv_has ls 7 [(0, .ref a0)] := hl
  refine lv_aload_n hx hb dX9_checksum_0 rfl (lv_at hl 0 rfl) ?_
  refine lv_iconst (v := 0) hx hb dX9_checksum_1 (by decide) ?_
  refine va_put (D := D) (ci := 9) (v := .int 0) (ty := .int) (C := RX9) (T := TX9) (N := 18) hx hb hts iX9_checksum_9 tyX9 tyX9_ok nmX9 hown hN.1 hP hD hS 0 rfl rfl 0 (by decide) (hts _ mX9_checksum_1) (fun _ h9 => h9) rfl (by decide +kernel) rfl rfl (Nat.le_of_ble_eq_true rfl) dX9_checksum_2 (fun H locs hP hD hS => ?_)
  have hP : va_P D vwCl [(a0, .inr (9, [.int 0, .ref a2, .int 0, .int 0, .int 0, .int 0, .int 0, .int (-1), .ref a1, .ref a3, .ref a4, .ref a5, .int 0, .int 0, .int 0, .int 0, .int 0, .ref a6])), (a1, .inl (cs 0, 45783, .inl (layF (fun _ => 0) 1)))] H := hP
  have hD : va_D A [(a0, .inr (9, [.int 0, .ref a2, .int 0, .int 0, .int 0, .int 0, .int 0, .int (-1), .ref a1, .ref a3, .ref a4, .ref a5, .int 0, .int 0, .int 0, .int 0, .int 0, .ref a6])), (a1, .inl (cs 0, 45783, .inl (layF (fun _ => 0) 1)))] := hD
  refine lv_lconst (v := 0) hx hb dX9_checksum_5 (by decide) ?_
  refine lv_lstore_n (lv' := [(1, .long 0), (0, .ref a0)]) hx hb dX9_checksum_6 rfl hl (by decide) rfl (fun ls hl => ?_)
  refine lv_iconst (v := 0) hx hb dX9_checksum_7 (by decide) ?_
  refine lv_istore_n (lv' := [(3, .int 0), (1, .long 0), (0, .ref a0)]) hx hb dX9_checksum_8 rfl hl (by decide) rfl (fun ls hl => ?_)
  refine lv_iload_n hx hb dX9_checksum_9 rfl (lv_at hl 0 rfl) ?_
  refine lv_bipush (v := 13) hx hb dX9_checksum_10 (by decide) ?_
  refine lv_icmp_ge (tgt := 34) hx hb dX9_checksum_12 (by decide) (fun c9 => absurd c9 (by decide)) (fun _ => ?_)
  refine lv_ldc2 (v := 31) hx hb hown (hts _ mX9_checksum_2) dX9_checksum_15 ?_
  refine lv_lload_n hx hb dX9_checksum_18 rfl (lv_at hl 1 rfl) ?_
  refine lv_lmul hx hb dX9_checksum_19 ?_
  refine tp_l (0) (by decide) ?_
  refine lv_aload_n hx hb dX9_checksum_20 rfl (lv_at hl 2 rfl) ?_
  refine lv_iload_n hx hb dX9_checksum_21 rfl (lv_at hl 0 rfl) ?_
  refine cv_i (As := [.int 0]) (rest := [.long 0]) (b := a0) (wr := []) ⟨hx, hb, hml, hown, hts⟩ (fun sz => k48_X9_told l D cs sz a0 a1 a2 a3 a4 a5 a6) (cwV 1 hts gX9_checksum_X9_told rfl rfl rfl hdX9_told_v ⟨Nat.le_of_ble_eq_true rfl, Nat.le_of_ble_eq_true rfl⟩) hN hP hD hS hA [0, 1] [] rfl rfl rfl rfl (by decide) (ci := 9) (q0 := 0) rfl rfl rfl rfl hl.1 (Nat.le_of_ble_eq_true rfl) dX9_checksum_22 (Nat.le_of_ble_eq_true rfl) (Nat.le_of_ble_eq_true rfl) (fun u0 H locs hP hD hS => ?_)
  have hP : va_P D vwCl [(a0, .inr (9, [.int 0, .ref a2, .int 0, .int 0, .int 0, .int 0, .int 0, .int (-1), .ref a1, .ref a3, .ref a4, .ref a5, .int 0, .int 0, .int 0, .int 0, .int 0, .ref a6])), (a1, .inl (cs 0, 45783, .inl (layF (fun _ => 0) 1)))] H := hP
  have hD : va_D A [(a0, .inr (9, [.int 0, .ref a2, .int 0, .int 0, .int 0, .int 0, .int 0, .int (-1), .ref a1, .ref a3, .ref a4, .ref a5, .int 0, .int 0, .int 0, .int 0, .int 0, .ref a6])), (a1, .inl (cs 0, 45783, .inl (layF (fun _ => 0) 1)))] := hD
  refine W.widen (k := 0) (n := 0) (Nat.le_of_ble_eq_true rfl) (Nat.le_of_ble_eq_true rfl) ?_
  refine lv_i2l (v := 1) hx hb dX9_checksum_25 (by decide) ?_
  refine lv_ladd hx hb dX9_checksum_26 ?_
  refine tp_l (1) (by decide) ?_
  refine lv_lstore_n (lv' := [(1, .long 1), (3, .int 0), (0, .ref a0)]) hx hb dX9_checksum_27 rfl hl (by decide) rfl (fun ls hl => ?_)
  refine lv_iinc (v := 1) (lv' := [(3, .int 1), (1, .long 1), (0, .ref a0)]) hx hb dX9_checksum_28 hl (k := 1) rfl (by decide) (by decide) rfl (fun ls hl => ?_)
  refine lv_goto (tgt := 9) hx hb dX9_checksum_31 (by decide) ?_
  refine lv_iload_n hx hb dX9_checksum_9 rfl (lv_at hl 0 rfl) ?_
  refine lv_bipush (v := 13) hx hb dX9_checksum_10 (by decide) ?_
  refine lv_icmp_ge (tgt := 34) hx hb dX9_checksum_12 (by decide) (fun c9 => absurd c9 (by decide)) (fun _ => ?_)
  refine lv_ldc2 (v := 31) hx hb hown (hts _ mX9_checksum_2) dX9_checksum_15 ?_
  refine lv_lload_n hx hb dX9_checksum_18 rfl (lv_at hl 1 rfl) ?_
  refine lv_lmul hx hb dX9_checksum_19 ?_
  refine tp_l (31) (by decide) ?_
  refine lv_aload_n hx hb dX9_checksum_20 rfl (lv_at hl 2 rfl) ?_
  refine lv_iload_n hx hb dX9_checksum_21 rfl (lv_at hl 0 rfl) ?_
  refine cv_i (As := [.int 1]) (rest := [.long 31]) (b := a0) (wr := []) ⟨hx, hb, hml, hown, hts⟩ (fun sz => k56_X9_told l D cs sz a0 a1 a2 a3 a4 a5 a6) (cwV 1 hts gX9_checksum_X9_told rfl rfl rfl hdX9_told_v ⟨Nat.le_of_ble_eq_true rfl, Nat.le_of_ble_eq_true rfl⟩) hN hP hD hS hA [0, 1] [] rfl rfl rfl rfl (by decide) (ci := 9) (q0 := 0) rfl rfl rfl rfl hl.1 (Nat.le_of_ble_eq_true rfl) dX9_checksum_22 (Nat.le_of_ble_eq_true rfl) (Nat.le_of_ble_eq_true rfl) (fun u1 H locs hP hD hS => ?_)
  have hP : va_P D vwCl [(a0, .inr (9, [.int 0, .ref a2, .int 0, .int 0, .int 0, .int 0, .int 0, .int (-1), .ref a1, .ref a3, .ref a4, .ref a5, .int 0, .int 0, .int 0, .int 0, .int 0, .ref a6])), (a1, .inl (cs 0, 45783, .inl (layF (fun _ => 0) 1)))] H := hP
  have hD : va_D A [(a0, .inr (9, [.int 0, .ref a2, .int 0, .int 0, .int 0, .int 0, .int 0, .int (-1), .ref a1, .ref a3, .ref a4, .ref a5, .int 0, .int 0, .int 0, .int 0, .int 0, .ref a6])), (a1, .inl (cs 0, 45783, .inl (layF (fun _ => 0) 1)))] := hD
  refine W.widen (k := 0) (n := 0) (Nat.le_of_ble_eq_true rfl) (Nat.le_of_ble_eq_true rfl) ?_
  refine lv_i2l (v := 0) hx hb dX9_checksum_25 (by decide) ?_
  refine lv_ladd hx hb dX9_checksum_26 ?_
  refine tp_l (31) (by decide) ?_
  refine lv_lstore_n (lv' := [(1, .long 31), (3, .int 1), (0, .ref a0)]) hx hb dX9_checksum_27 rfl hl (by decide) rfl (fun ls hl => ?_)
  refine lv_iinc (v := 2) (lv' := [(3, .int 2), (1, .long 31), (0, .ref a0)]) hx hb dX9_checksum_28 hl (k := 1) rfl (by decide) (by decide) rfl (fun ls hl => ?_)
  refine lv_goto (tgt := 9) hx hb dX9_checksum_31 (by decide) ?_
  refine lv_iload_n hx hb dX9_checksum_9 rfl (lv_at hl 0 rfl) ?_
  refine lv_bipush (v := 13) hx hb dX9_checksum_10 (by decide) ?_
  refine lv_icmp_ge (tgt := 34) hx hb dX9_checksum_12 (by decide) (fun c9 => absurd c9 (by decide)) (fun _ => ?_)
  refine lv_ldc2 (v := 31) hx hb hown (hts _ mX9_checksum_2) dX9_checksum_15 ?_
  refine lv_lload_n hx hb dX9_checksum_18 rfl (lv_at hl 1 rfl) ?_
  refine lv_lmul hx hb dX9_checksum_19 ?_
  refine tp_l (961) (by decide) ?_
  refine lv_aload_n hx hb dX9_checksum_20 rfl (lv_at hl 2 rfl) ?_
  refine lv_iload_n hx hb dX9_checksum_21 rfl (lv_at hl 0 rfl) ?_
  refine cv_i (As := [.int 2]) (rest := [.long 961]) (b := a0) (wr := []) ⟨hx, hb, hml, hown, hts⟩ (fun sz => k63_X9_told l D cs sz a0 a1 a2 a3 a4 a5 a6) (cwV 1 hts gX9_checksum_X9_told rfl rfl rfl hdX9_told_v ⟨Nat.le_of_ble_eq_true rfl, Nat.le_of_ble_eq_true rfl⟩) hN hP hD hS hA [0, 1] [] rfl rfl rfl rfl (by decide) (ci := 9) (q0 := 0) rfl rfl rfl rfl hl.1 (Nat.le_of_ble_eq_true rfl) dX9_checksum_22 (Nat.le_of_ble_eq_true rfl) (Nat.le_of_ble_eq_true rfl) (fun u2 H locs hP hD hS => ?_)
  have hP : va_P D vwCl [(a0, .inr (9, [.int 0, .ref a2, .int 0, .int 0, .int 0, .int 0, .int 0, .int (-1), .ref a1, .ref a3, .ref a4, .ref a5, .int 0, .int 0, .int 0, .int 0, .int 0, .ref a6])), (a1, .inl (cs 0, 45783, .inl (layF (fun _ => 0) 1)))] H := hP
  have hD : va_D A [(a0, .inr (9, [.int 0, .ref a2, .int 0, .int 0, .int 0, .int 0, .int 0, .int (-1), .ref a1, .ref a3, .ref a4, .ref a5, .int 0, .int 0, .int 0, .int 0, .int 0, .ref a6])), (a1, .inl (cs 0, 45783, .inl (layF (fun _ => 0) 1)))] := hD
  refine W.widen (k := 0) (n := 0) (Nat.le_of_ble_eq_true rfl) (Nat.le_of_ble_eq_true rfl) ?_
  refine lv_i2l (v := 0) hx hb dX9_checksum_25 (by decide) ?_
  refine lv_ladd hx hb dX9_checksum_26 ?_
  refine tp_l (961) (by decide) ?_
  refine lv_lstore_n (lv' := [(1, .long 961), (3, .int 2), (0, .ref a0)]) hx hb dX9_checksum_27 rfl hl (by decide) rfl (fun ls hl => ?_)
  refine lv_iinc (v := 3) (lv' := [(3, .int 3), (1, .long 961), (0, .ref a0)]) hx hb dX9_checksum_28 hl (k := 1) rfl (by decide) (by decide) rfl (fun ls hl => ?_)
  refine lv_goto (tgt := 9) hx hb dX9_checksum_31 (by decide) ?_
  refine lv_iload_n hx hb dX9_checksum_9 rfl (lv_at hl 0 rfl) ?_
  refine lv_bipush (v := 13) hx hb dX9_checksum_10 (by decide) ?_
  refine lv_icmp_ge (tgt := 34) hx hb dX9_checksum_12 (by decide) (fun c9 => absurd c9 (by decide)) (fun _ => ?_)
  refine lv_ldc2 (v := 31) hx hb hown (hts _ mX9_checksum_2) dX9_checksum_15 ?_
  refine lv_lload_n hx hb dX9_checksum_18 rfl (lv_at hl 1 rfl) ?_
  refine lv_lmul hx hb dX9_checksum_19 ?_
  refine tp_l (29791) (by decide) ?_
  refine lv_aload_n hx hb dX9_checksum_20 rfl (lv_at hl 2 rfl) ?_
  refine lv_iload_n hx hb dX9_checksum_21 rfl (lv_at hl 0 rfl) ?_
  refine cv_i (As := [.int 3]) (rest := [.long 29791]) (b := a0) (wr := []) ⟨hx, hb, hml, hown, hts⟩ (fun sz => k70_X9_told l D cs sz a0 a1 a2 a3 a4 a5 a6) (cwV 1 hts gX9_checksum_X9_told rfl rfl rfl hdX9_told_v ⟨Nat.le_of_ble_eq_true rfl, Nat.le_of_ble_eq_true rfl⟩) hN hP hD hS hA [0, 1] [] rfl rfl rfl rfl (by decide) (ci := 9) (q0 := 0) rfl rfl rfl rfl hl.1 (Nat.le_of_ble_eq_true rfl) dX9_checksum_22 (Nat.le_of_ble_eq_true rfl) (Nat.le_of_ble_eq_true rfl) (fun u3 H locs hP hD hS => ?_)
  have hP : va_P D vwCl [(a0, .inr (9, [.int 0, .ref a2, .int 0, .int 0, .int 0, .int 0, .int 0, .int (-1), .ref a1, .ref a3, .ref a4, .ref a5, .int 0, .int 0, .int 0, .int 0, .int 0, .ref a6])), (a1, .inl (cs 0, 45783, .inl (layF (fun _ => 0) 1)))] H := hP
  have hD : va_D A [(a0, .inr (9, [.int 0, .ref a2, .int 0, .int 0, .int 0, .int 0, .int 0, .int (-1), .ref a1, .ref a3, .ref a4, .ref a5, .int 0, .int 0, .int 0, .int 0, .int 0, .ref a6])), (a1, .inl (cs 0, 45783, .inl (layF (fun _ => 0) 1)))] := hD
  refine W.widen (k := 0) (n := 0) (Nat.le_of_ble_eq_true rfl) (Nat.le_of_ble_eq_true rfl) ?_
  refine lv_i2l (v := 0) hx hb dX9_checksum_25 (by decide) ?_
  refine lv_ladd hx hb dX9_checksum_26 ?_
  refine tp_l (29791) (by decide) ?_
  refine lv_lstore_n (lv' := [(1, .long 29791), (3, .int 3), (0, .ref a0)]) hx hb dX9_checksum_27 rfl hl (by decide) rfl (fun ls hl => ?_)
  refine lv_iinc (v := 4) (lv' := [(3, .int 4), (1, .long 29791), (0, .ref a0)]) hx hb dX9_checksum_28 hl (k := 1) rfl (by decide) (by decide) rfl (fun ls hl => ?_)
  refine lv_goto (tgt := 9) hx hb dX9_checksum_31 (by decide) ?_
  refine lv_iload_n hx hb dX9_checksum_9 rfl (lv_at hl 0 rfl) ?_
  refine lv_bipush (v := 13) hx hb dX9_checksum_10 (by decide) ?_
  refine lv_icmp_ge (tgt := 34) hx hb dX9_checksum_12 (by decide) (fun c9 => absurd c9 (by decide)) (fun _ => ?_)
  refine lv_ldc2 (v := 31) hx hb hown (hts _ mX9_checksum_2) dX9_checksum_15 ?_
  refine lv_lload_n hx hb dX9_checksum_18 rfl (lv_at hl 1 rfl) ?_
  refine lv_lmul hx hb dX9_checksum_19 ?_
  refine tp_l (923521) (by decide) ?_
  refine lv_aload_n hx hb dX9_checksum_20 rfl (lv_at hl 2 rfl) ?_
  refine lv_iload_n hx hb dX9_checksum_21 rfl (lv_at hl 0 rfl) ?_
  refine cv_i (As := [.int 4]) (rest := [.long 923521]) (b := a0) (wr := []) ⟨hx, hb, hml, hown, hts⟩ (fun sz => k77_X9_told l D cs sz a0 a1 a2 a3 a4 a5 a6) (cwV 1 hts gX9_checksum_X9_told rfl rfl rfl hdX9_told_v ⟨Nat.le_of_ble_eq_true rfl, Nat.le_of_ble_eq_true rfl⟩) hN hP hD hS hA [0, 1] [] rfl rfl rfl rfl (by decide) (ci := 9) (q0 := 0) rfl rfl rfl rfl hl.1 (Nat.le_of_ble_eq_true rfl) dX9_checksum_22 (Nat.le_of_ble_eq_true rfl) (Nat.le_of_ble_eq_true rfl) (fun u4 H locs hP hD hS => ?_)
  have hP : va_P D vwCl [(a0, .inr (9, [.int 0, .ref a2, .int 0, .int 0, .int 0, .int 0, .int 0, .int (-1), .ref a1, .ref a3, .ref a4, .ref a5, .int 0, .int 0, .int 0, .int 0, .int 0, .ref a6])), (a1, .inl (cs 0, 45783, .inl (layF (fun _ => 0) 1)))] H := hP
  have hD : va_D A [(a0, .inr (9, [.int 0, .ref a2, .int 0, .int 0, .int 0, .int 0, .int 0, .int (-1), .ref a1, .ref a3, .ref a4, .ref a5, .int 0, .int 0, .int 0, .int 0, .int 0, .ref a6])), (a1, .inl (cs 0, 45783, .inl (layF (fun _ => 0) 1)))] := hD
  refine W.widen (k := 0) (n := 0) (Nat.le_of_ble_eq_true rfl) (Nat.le_of_ble_eq_true rfl) ?_
  refine lv_i2l (v := 0) hx hb dX9_checksum_25 (by decide) ?_
  refine lv_ladd hx hb dX9_checksum_26 ?_
  refine tp_l (923521) (by decide) ?_
  refine lv_lstore_n (lv' := [(1, .long 923521), (3, .int 4), (0, .ref a0)]) hx hb dX9_checksum_27 rfl hl (by decide) rfl (fun ls hl => ?_)
  refine lv_iinc (v := 5) (lv' := [(3, .int 5), (1, .long 923521), (0, .ref a0)]) hx hb dX9_checksum_28 hl (k := 1) rfl (by decide) (by decide) rfl (fun ls hl => ?_)
  refine lv_goto (tgt := 9) hx hb dX9_checksum_31 (by decide) ?_
  refine lv_iload_n hx hb dX9_checksum_9 rfl (lv_at hl 0 rfl) ?_
  refine lv_bipush (v := 13) hx hb dX9_checksum_10 (by decide) ?_
  refine lv_icmp_ge (tgt := 34) hx hb dX9_checksum_12 (by decide) (fun c9 => absurd c9 (by decide)) (fun _ => ?_)
  refine lv_ldc2 (v := 31) hx hb hown (hts _ mX9_checksum_2) dX9_checksum_15 ?_
  refine lv_lload_n hx hb dX9_checksum_18 rfl (lv_at hl 1 rfl) ?_
  refine lv_lmul hx hb dX9_checksum_19 ?_
  refine tp_l (28629151) (by decide) ?_
  refine lv_aload_n hx hb dX9_checksum_20 rfl (lv_at hl 2 rfl) ?_
  refine lv_iload_n hx hb dX9_checksum_21 rfl (lv_at hl 0 rfl) ?_
  refine cv_i (As := [.int 5]) (rest := [.long 28629151]) (b := a0) (wr := []) ⟨hx, hb, hml, hown, hts⟩ (fun sz => k84_X9_told l D cs sz a0 a1 a2 a3 a4 a5 a6) (cwV 1 hts gX9_checksum_X9_told rfl rfl rfl hdX9_told_v ⟨Nat.le_of_ble_eq_true rfl, Nat.le_of_ble_eq_true rfl⟩) hN hP hD hS hA [0, 1] [] rfl rfl rfl rfl (by decide) (ci := 9) (q0 := 0) rfl rfl rfl rfl hl.1 (Nat.le_of_ble_eq_true rfl) dX9_checksum_22 (Nat.le_of_ble_eq_true rfl) (Nat.le_of_ble_eq_true rfl) (fun u5 H locs hP hD hS => ?_)
  have hP : va_P D vwCl [(a0, .inr (9, [.int 0, .ref a2, .int 0, .int 0, .int 0, .int 0, .int 0, .int (-1), .ref a1, .ref a3, .ref a4, .ref a5, .int 0, .int 0, .int 0, .int 0, .int 0, .ref a6])), (a1, .inl (cs 0, 45783, .inl (layF (fun _ => 0) 1)))] H := hP
  have hD : va_D A [(a0, .inr (9, [.int 0, .ref a2, .int 0, .int 0, .int 0, .int 0, .int 0, .int (-1), .ref a1, .ref a3, .ref a4, .ref a5, .int 0, .int 0, .int 0, .int 0, .int 0, .ref a6])), (a1, .inl (cs 0, 45783, .inl (layF (fun _ => 0) 1)))] := hD
  refine W.widen (k := 0) (n := 0) (Nat.le_of_ble_eq_true rfl) (Nat.le_of_ble_eq_true rfl) ?_
  refine lv_i2l (v := 0) hx hb dX9_checksum_25 (by decide) ?_
  refine lv_ladd hx hb dX9_checksum_26 ?_
  refine tp_l (28629151) (by decide) ?_
  refine lv_lstore_n (lv' := [(1, .long 28629151), (3, .int 5), (0, .ref a0)]) hx hb dX9_checksum_27 rfl hl (by decide) rfl (fun ls hl => ?_)
  refine lv_iinc (v := 6) (lv' := [(3, .int 6), (1, .long 28629151), (0, .ref a0)]) hx hb dX9_checksum_28 hl (k := 1) rfl (by decide) (by decide) rfl (fun ls hl => ?_)
  refine lv_goto (tgt := 9) hx hb dX9_checksum_31 (by decide) ?_
  refine lv_iload_n hx hb dX9_checksum_9 rfl (lv_at hl 0 rfl) ?_
  refine lv_bipush (v := 13) hx hb dX9_checksum_10 (by decide) ?_
  refine lv_icmp_ge (tgt := 34) hx hb dX9_checksum_12 (by decide) (fun c9 => absurd c9 (by decide)) (fun _ => ?_)
  refine lv_ldc2 (v := 31) hx hb hown (hts _ mX9_checksum_2) dX9_checksum_15 ?_
  refine lv_lload_n hx hb dX9_checksum_18 rfl (lv_at hl 1 rfl) ?_
  refine lv_lmul hx hb dX9_checksum_19 ?_
  refine tp_l (887503681) (by decide) ?_
  refine lv_aload_n hx hb dX9_checksum_20 rfl (lv_at hl 2 rfl) ?_
  refine lv_iload_n hx hb dX9_checksum_21 rfl (lv_at hl 0 rfl) ?_
  refine cv_i (As := [.int 6]) (rest := [.long 887503681]) (b := a0) (wr := []) ⟨hx, hb, hml, hown, hts⟩ (fun sz => k91_X9_told l D cs sz a0 a1 a2 a3 a4 a5 a6) (cwV 1 hts gX9_checksum_X9_told rfl rfl rfl hdX9_told_v ⟨Nat.le_of_ble_eq_true rfl, Nat.le_of_ble_eq_true rfl⟩) hN hP hD hS hA [0, 1] [] rfl rfl rfl rfl (by decide) (ci := 9) (q0 := 0) rfl rfl rfl rfl hl.1 (Nat.le_of_ble_eq_true rfl) dX9_checksum_22 (Nat.le_of_ble_eq_true rfl) (Nat.le_of_ble_eq_true rfl) (fun u6 H locs hP hD hS => ?_)
  have hP : va_P D vwCl [(a0, .inr (9, [.int 0, .ref a2, .int 0, .int 0, .int 0, .int 0, .int 0, .int (-1), .ref a1, .ref a3, .ref a4, .ref a5, .int 0, .int 0, .int 0, .int 0, .int 0, .ref a6])), (a1, .inl (cs 0, 45783, .inl (layF (fun _ => 0) 1)))] H := hP
  have hD : va_D A [(a0, .inr (9, [.int 0, .ref a2, .int 0, .int 0, .int 0, .int 0, .int 0, .int (-1), .ref a1, .ref a3, .ref a4, .ref a5, .int 0, .int 0, .int 0, .int 0, .int 0, .ref a6])), (a1, .inl (cs 0, 45783, .inl (layF (fun _ => 0) 1)))] := hD
  refine W.widen (k := 0) (n := 0) (Nat.le_of_ble_eq_true rfl) (Nat.le_of_ble_eq_true rfl) ?_
  refine lv_i2l (v := 0) hx hb dX9_checksum_25 (by decide) ?_
  refine lv_ladd hx hb dX9_checksum_26 ?_
  refine tp_l (887503681) (by decide) ?_
  refine lv_lstore_n (lv' := [(1, .long 887503681), (3, .int 6), (0, .ref a0)]) hx hb dX9_checksum_27 rfl hl (by decide) rfl (fun ls hl => ?_)
  refine lv_iinc (v := 7) (lv' := [(3, .int 7), (1, .long 887503681), (0, .ref a0)]) hx hb dX9_checksum_28 hl (k := 1) rfl (by decide) (by decide) rfl (fun ls hl => ?_)
  refine lv_goto (tgt := 9) hx hb dX9_checksum_31 (by decide) ?_
  refine lv_iload_n hx hb dX9_checksum_9 rfl (lv_at hl 0 rfl) ?_
  refine lv_bipush (v := 13) hx hb dX9_checksum_10 (by decide) ?_
  refine lv_icmp_ge (tgt := 34) hx hb dX9_checksum_12 (by decide) (fun c9 => absurd c9 (by decide)) (fun _ => ?_)
  refine lv_ldc2 (v := 31) hx hb hown (hts _ mX9_checksum_2) dX9_checksum_15 ?_
  refine lv_lload_n hx hb dX9_checksum_18 rfl (lv_at hl 1 rfl) ?_
  refine lv_lmul hx hb dX9_checksum_19 ?_
  refine tp_l (27512614111) (by decide) ?_
  refine lv_aload_n hx hb dX9_checksum_20 rfl (lv_at hl 2 rfl) ?_
  refine lv_iload_n hx hb dX9_checksum_21 rfl (lv_at hl 0 rfl) ?_
  refine cv_i (As := [.int 7]) (rest := [.long 27512614111]) (b := a0) (wr := []) ⟨hx, hb, hml, hown, hts⟩ (fun sz => k98_X9_told l D cs sz a0 a1 a2 a3 a4 a5 a6) (cwV 1 hts gX9_checksum_X9_told rfl rfl rfl hdX9_told_v ⟨Nat.le_of_ble_eq_true rfl, Nat.le_of_ble_eq_true rfl⟩) hN hP hD hS hA [0, 1] [] rfl rfl rfl rfl (by decide) (ci := 9) (q0 := 0) rfl rfl rfl rfl hl.1 (Nat.le_of_ble_eq_true rfl) dX9_checksum_22 (Nat.le_of_ble_eq_true rfl) (Nat.le_of_ble_eq_true rfl) (fun u7 H locs hP hD hS => ?_)
  have hP : va_P D vwCl [(a0, .inr (9, [.int 0, .ref a2, .int 0, .int 0, .int 0, .int 0, .int 0, .int (-1), .ref a1, .ref a3, .ref a4, .ref a5, .int 0, .int 0, .int 0, .int 0, .int 0, .ref a6])), (a1, .inl (cs 0, 45783, .inl (layF (fun _ => 0) 1)))] H := hP
  have hD : va_D A [(a0, .inr (9, [.int 0, .ref a2, .int 0, .int 0, .int 0, .int 0, .int 0, .int (-1), .ref a1, .ref a3, .ref a4, .ref a5, .int 0, .int 0, .int 0, .int 0, .int 0, .ref a6])), (a1, .inl (cs 0, 45783, .inl (layF (fun _ => 0) 1)))] := hD
  refine W.widen (k := 0) (n := 0) (Nat.le_of_ble_eq_true rfl) (Nat.le_of_ble_eq_true rfl) ?_
  refine lv_i2l (v := 0) hx hb dX9_checksum_25 (by decide) ?_
  refine lv_ladd hx hb dX9_checksum_26 ?_
  refine tp_l (27512614111) (by decide) ?_
  refine lv_lstore_n (lv' := [(1, .long 27512614111), (3, .int 7), (0, .ref a0)]) hx hb dX9_checksum_27 rfl hl (by decide) rfl (fun ls hl => ?_)
  refine lv_iinc (v := 8) (lv' := [(3, .int 8), (1, .long 27512614111), (0, .ref a0)]) hx hb dX9_checksum_28 hl (k := 1) rfl (by decide) (by decide) rfl (fun ls hl => ?_)
  refine lv_goto (tgt := 9) hx hb dX9_checksum_31 (by decide) ?_
  refine lv_iload_n hx hb dX9_checksum_9 rfl (lv_at hl 0 rfl) ?_
  refine lv_bipush (v := 13) hx hb dX9_checksum_10 (by decide) ?_
  refine lv_icmp_ge (tgt := 34) hx hb dX9_checksum_12 (by decide) (fun c9 => absurd c9 (by decide)) (fun _ => ?_)
  refine lv_ldc2 (v := 31) hx hb hown (hts _ mX9_checksum_2) dX9_checksum_15 ?_
  refine lv_lload_n hx hb dX9_checksum_18 rfl (lv_at hl 1 rfl) ?_
  refine lv_lmul hx hb dX9_checksum_19 ?_
  refine tp_l (852891037441) (by decide) ?_
  refine lv_aload_n hx hb dX9_checksum_20 rfl (lv_at hl 2 rfl) ?_
  refine lv_iload_n hx hb dX9_checksum_21 rfl (lv_at hl 0 rfl) ?_
  refine cv_i (As := [.int 8]) (rest := [.long 852891037441]) (b := a0) (wr := []) ⟨hx, hb, hml, hown, hts⟩ (fun sz => k105_X9_told l D cs sz a0 a1 a2 a3 a4 a5 a6) (cwV 1 hts gX9_checksum_X9_told rfl rfl rfl hdX9_told_v ⟨Nat.le_of_ble_eq_true rfl, Nat.le_of_ble_eq_true rfl⟩) hN hP hD hS hA [0, 1] [] rfl rfl rfl rfl (by decide) (ci := 9) (q0 := 0) rfl rfl rfl rfl hl.1 (Nat.le_of_ble_eq_true rfl) dX9_checksum_22 (Nat.le_of_ble_eq_true rfl) (Nat.le_of_ble_eq_true rfl) (fun u8 H locs hP hD hS => ?_)
  have hP : va_P D vwCl [(a0, .inr (9, [.int 0, .ref a2, .int 0, .int 0, .int 0, .int 0, .int 0, .int (-1), .ref a1, .ref a3, .ref a4, .ref a5, .int 0, .int 0, .int 0, .int 0, .int 0, .ref a6])), (a1, .inl (cs 0, 45783, .inl (layF (fun _ => 0) 1)))] H := hP
  have hD : va_D A [(a0, .inr (9, [.int 0, .ref a2, .int 0, .int 0, .int 0, .int 0, .int 0, .int (-1), .ref a1, .ref a3, .ref a4, .ref a5, .int 0, .int 0, .int 0, .int 0, .int 0, .ref a6])), (a1, .inl (cs 0, 45783, .inl (layF (fun _ => 0) 1)))] := hD
  refine W.widen (k := 0) (n := 0) (Nat.le_of_ble_eq_true rfl) (Nat.le_of_ble_eq_true rfl) ?_
  refine lv_i2l (v := 0) hx hb dX9_checksum_25 (by decide) ?_
  refine lv_ladd hx hb dX9_checksum_26 ?_
  refine tp_l (852891037441) (by decide) ?_
  refine lv_lstore_n (lv' := [(1, .long 852891037441), (3, .int 8), (0, .ref a0)]) hx hb dX9_checksum_27 rfl hl (by decide) rfl (fun ls hl => ?_)
  refine lv_iinc (v := 9) (lv' := [(3, .int 9), (1, .long 852891037441), (0, .ref a0)]) hx hb dX9_checksum_28 hl (k := 1) rfl (by decide) (by decide) rfl (fun ls hl => ?_)
  refine lv_goto (tgt := 9) hx hb dX9_checksum_31 (by decide) ?_
  refine lv_iload_n hx hb dX9_checksum_9 rfl (lv_at hl 0 rfl) ?_
  refine lv_bipush (v := 13) hx hb dX9_checksum_10 (by decide) ?_
  refine lv_icmp_ge (tgt := 34) hx hb dX9_checksum_12 (by decide) (fun c9 => absurd c9 (by decide)) (fun _ => ?_)
  refine lv_ldc2 (v := 31) hx hb hown (hts _ mX9_checksum_2) dX9_checksum_15 ?_
  refine lv_lload_n hx hb dX9_checksum_18 rfl (lv_at hl 1 rfl) ?_
  refine lv_lmul hx hb dX9_checksum_19 ?_
  refine tp_l (26439622160671) (by decide) ?_
  refine lv_aload_n hx hb dX9_checksum_20 rfl (lv_at hl 2 rfl) ?_
  refine lv_iload_n hx hb dX9_checksum_21 rfl (lv_at hl 0 rfl) ?_
  refine cv_i (As := [.int 9]) (rest := [.long 26439622160671]) (b := a0) (wr := []) ⟨hx, hb, hml, hown, hts⟩ (fun sz => k118_X9_told l D cs sz a0 a1 a2 a3 a4 a5 a6) (cwV 1 hts gX9_checksum_X9_told rfl rfl rfl hdX9_told_v ⟨Nat.le_of_ble_eq_true rfl, Nat.le_of_ble_eq_true rfl⟩) hN hP hD hS hA [0, 1] [] rfl rfl rfl rfl (by decide) (ci := 9) (q0 := 0) rfl rfl rfl rfl hl.1 (Nat.le_of_ble_eq_true rfl) dX9_checksum_22 (Nat.le_of_ble_eq_true rfl) (Nat.le_of_ble_eq_true rfl) (fun u9 H locs hP hD hS => ?_)
  have hP : va_P D vwCl [(a0, .inr (9, [.int 0, .ref a2, .int 0, .int 0, .int 0, .int 0, .int 0, .int (-1), .ref a1, .ref a3, .ref a4, .ref a5, .int 0, .int 0, .int 0, .int 0, .int 0, .ref a6])), (a1, .inl (cs 0, 45783, .inl (layF (fun _ => 0) 1)))] H := hP
  have hD : va_D A [(a0, .inr (9, [.int 0, .ref a2, .int 0, .int 0, .int 0, .int 0, .int 0, .int (-1), .ref a1, .ref a3, .ref a4, .ref a5, .int 0, .int 0, .int 0, .int 0, .int 0, .ref a6])), (a1, .inl (cs 0, 45783, .inl (layF (fun _ => 0) 1)))] := hD
  refine W.widen (k := 0) (n := 0) (Nat.le_of_ble_eq_true rfl) (Nat.le_of_ble_eq_true rfl) ?_
  refine lv_i2l (v := 1) hx hb dX9_checksum_25 (by decide) ?_
  refine lv_ladd hx hb dX9_checksum_26 ?_
  refine tp_l (26439622160672) (by decide) ?_
  refine lv_lstore_n (lv' := [(1, .long 26439622160672), (3, .int 9), (0, .ref a0)]) hx hb dX9_checksum_27 rfl hl (by decide) rfl (fun ls hl => ?_)
  refine lv_iinc (v := 10) (lv' := [(3, .int 10), (1, .long 26439622160672), (0, .ref a0)]) hx hb dX9_checksum_28 hl (k := 1) rfl (by decide) (by decide) rfl (fun ls hl => ?_)
  refine lv_goto (tgt := 9) hx hb dX9_checksum_31 (by decide) ?_
  refine lv_iload_n hx hb dX9_checksum_9 rfl (lv_at hl 0 rfl) ?_
  refine lv_bipush (v := 13) hx hb dX9_checksum_10 (by decide) ?_
  refine lv_icmp_ge (tgt := 34) hx hb dX9_checksum_12 (by decide) (fun c9 => absurd c9 (by decide)) (fun _ => ?_)
  refine lv_ldc2 (v := 31) hx hb hown (hts _ mX9_checksum_2) dX9_checksum_15 ?_
  refine lv_lload_n hx hb dX9_checksum_18 rfl (lv_at hl 1 rfl) ?_
  refine lv_lmul hx hb dX9_checksum_19 ?_
  refine tp_l (819628286980832) (by decide) ?_
  refine lv_aload_n hx hb dX9_checksum_20 rfl (lv_at hl 2 rfl) ?_
  refine lv_iload_n hx hb dX9_checksum_21 rfl (lv_at hl 0 rfl) ?_
  refine cv_i (As := [.int 10]) (rest := [.long 819628286980832]) (b := a0) (wr := []) ⟨hx, hb, hml, hown, hts⟩ (fun sz => k125_X9_told l D cs sz a0 a1 a2 a3 a4 a5 a6) (cwV 1 hts gX9_checksum_X9_told rfl rfl rfl hdX9_told_v ⟨Nat.le_of_ble_eq_true rfl, Nat.le_of_ble_eq_true rfl⟩) hN hP hD hS hA [0, 1] [] rfl rfl rfl rfl (by decide) (ci := 9) (q0 := 0) rfl rfl rfl rfl hl.1 (Nat.le_of_ble_eq_true rfl) dX9_checksum_22 (Nat.le_of_ble_eq_true rfl) (Nat.le_of_ble_eq_true rfl) (fun u10 H locs hP hD hS => ?_)
  have hP : va_P D vwCl [(a0, .inr (9, [.int 0, .ref a2, .int 0, .int 0, .int 0, .int 0, .int 0, .int (-1), .ref a1, .ref a3, .ref a4, .ref a5, .int 0, .int 0, .int 0, .int 0, .int 0, .ref a6])), (a1, .inl (cs 0, 45783, .inl (layF (fun _ => 0) 1)))] H := hP
  have hD : va_D A [(a0, .inr (9, [.int 0, .ref a2, .int 0, .int 0, .int 0, .int 0, .int 0, .int (-1), .ref a1, .ref a3, .ref a4, .ref a5, .int 0, .int 0, .int 0, .int 0, .int 0, .ref a6])), (a1, .inl (cs 0, 45783, .inl (layF (fun _ => 0) 1)))] := hD
  refine W.widen (k := 0) (n := 0) (Nat.le_of_ble_eq_true rfl) (Nat.le_of_ble_eq_true rfl) ?_
  refine lv_i2l (v := 0) hx hb dX9_checksum_25 (by decide) ?_
  refine lv_ladd hx hb dX9_checksum_26 ?_
  refine tp_l (819628286980832) (by decide) ?_
  refine lv_lstore_n (lv' := [(1, .long 819628286980832), (3, .int 10), (0, .ref a0)]) hx hb dX9_checksum_27 rfl hl (by decide) rfl (fun ls hl => ?_)
  refine lv_iinc (v := 11) (lv' := [(3, .int 11), (1, .long 819628286980832), (0, .ref a0)]) hx hb dX9_checksum_28 hl (k := 1) rfl (by decide) (by decide) rfl (fun ls hl => ?_)
  refine lv_goto (tgt := 9) hx hb dX9_checksum_31 (by decide) ?_
  refine lv_iload_n hx hb dX9_checksum_9 rfl (lv_at hl 0 rfl) ?_
  refine lv_bipush (v := 13) hx hb dX9_checksum_10 (by decide) ?_
  refine lv_icmp_ge (tgt := 34) hx hb dX9_checksum_12 (by decide) (fun c9 => absurd c9 (by decide)) (fun _ => ?_)
  refine lv_ldc2 (v := 31) hx hb hown (hts _ mX9_checksum_2) dX9_checksum_15 ?_
  refine lv_lload_n hx hb dX9_checksum_18 rfl (lv_at hl 1 rfl) ?_
  refine lv_lmul hx hb dX9_checksum_19 ?_
  refine tp_l (25408476896405792) (by decide) ?_
  refine lv_aload_n hx hb dX9_checksum_20 rfl (lv_at hl 2 rfl) ?_
  refine lv_iload_n hx hb dX9_checksum_21 rfl (lv_at hl 0 rfl) ?_
  refine cv_i (As := [.int 11]) (rest := [.long 25408476896405792]) (b := a0) (wr := []) ⟨hx, hb, hml, hown, hts⟩ (fun sz => k132_X9_told l D cs sz a0 a1 a2 a3 a4 a5 a6) (cwV 1 hts gX9_checksum_X9_told rfl rfl rfl hdX9_told_v ⟨Nat.le_of_ble_eq_true rfl, Nat.le_of_ble_eq_true rfl⟩) hN hP hD hS hA [0, 1] [] rfl rfl rfl rfl (by decide) (ci := 9) (q0 := 0) rfl rfl rfl rfl hl.1 (Nat.le_of_ble_eq_true rfl) dX9_checksum_22 (Nat.le_of_ble_eq_true rfl) (Nat.le_of_ble_eq_true rfl) (fun u11 H locs hP hD hS => ?_)
  have hP : va_P D vwCl [(a0, .inr (9, [.int 0, .ref a2, .int 0, .int 0, .int 0, .int 0, .int 0, .int (-1), .ref a1, .ref a3, .ref a4, .ref a5, .int 0, .int 0, .int 0, .int 0, .int 0, .ref a6])), (a1, .inl (cs 0, 45783, .inl (layF (fun _ => 0) 1)))] H := hP
  have hD : va_D A [(a0, .inr (9, [.int 0, .ref a2, .int 0, .int 0, .int 0, .int 0, .int 0, .int (-1), .ref a1, .ref a3, .ref a4, .ref a5, .int 0, .int 0, .int 0, .int 0, .int 0, .ref a6])), (a1, .inl (cs 0, 45783, .inl (layF (fun _ => 0) 1)))] := hD
  refine W.widen (k := 0) (n := 0) (Nat.le_of_ble_eq_true rfl) (Nat.le_of_ble_eq_true rfl) ?_
  refine lv_i2l (v := 0) hx hb dX9_checksum_25 (by decide) ?_
  refine lv_ladd hx hb dX9_checksum_26 ?_
  refine tp_l (25408476896405792) (by decide) ?_
  refine lv_lstore_n (lv' := [(1, .long 25408476896405792), (3, .int 11), (0, .ref a0)]) hx hb dX9_checksum_27 rfl hl (by decide) rfl (fun ls hl => ?_)
  refine lv_iinc (v := 12) (lv' := [(3, .int 12), (1, .long 25408476896405792), (0, .ref a0)]) hx hb dX9_checksum_28 hl (k := 1) rfl (by decide) (by decide) rfl (fun ls hl => ?_)
  refine lv_goto (tgt := 9) hx hb dX9_checksum_31 (by decide) ?_
  refine lv_iload_n hx hb dX9_checksum_9 rfl (lv_at hl 0 rfl) ?_
  refine lv_bipush (v := 13) hx hb dX9_checksum_10 (by decide) ?_
  refine lv_icmp_ge (tgt := 34) hx hb dX9_checksum_12 (by decide) (fun c9 => absurd c9 (by decide)) (fun _ => ?_)
  refine lv_ldc2 (v := 31) hx hb hown (hts _ mX9_checksum_2) dX9_checksum_15 ?_
  refine lv_lload_n hx hb dX9_checksum_18 rfl (lv_at hl 1 rfl) ?_
  refine lv_lmul hx hb dX9_checksum_19 ?_
  refine tp_l (787662783788579552) (by decide) ?_
  refine lv_aload_n hx hb dX9_checksum_20 rfl (lv_at hl 2 rfl) ?_
  refine lv_iload_n hx hb dX9_checksum_21 rfl (lv_at hl 0 rfl) ?_
  refine cv_i (As := [.int 12]) (rest := [.long 787662783788579552]) (b := a0) (wr := []) ⟨hx, hb, hml, hown, hts⟩ (fun sz => k150_X9_told l D cs sz a0 a1 a2 a3 a4 a5 a6) (cwV 1 hts gX9_checksum_X9_told rfl rfl rfl hdX9_told_v ⟨Nat.le_of_ble_eq_true rfl, Nat.le_of_ble_eq_true rfl⟩) hN hP hD hS hA [0, 1] [] rfl rfl rfl rfl (by decide) (ci := 9) (q0 := 0) rfl rfl rfl rfl hl.1 (Nat.le_of_ble_eq_true rfl) dX9_checksum_22 (Nat.le_of_ble_eq_true rfl) (Nat.le_of_ble_eq_true rfl) (fun u12 H locs hP hD hS => ?_)
  have hP : va_P D vwCl [(a0, .inr (9, [.int 0, .ref a2, .int 0, .int 0, .int 0, .int 0, .int 0, .int (-1), .ref a1, .ref a3, .ref a4, .ref a5, .int 0, .int 0, .int 0, .int 0, .int 0, .ref a6])), (a1, .inl (cs 0, 45783, .inl (layF (fun _ => 0) 1)))] H := hP
  have hD : va_D A [(a0, .inr (9, [.int 0, .ref a2, .int 0, .int 0, .int 0, .int 0, .int 0, .int (-1), .ref a1, .ref a3, .ref a4, .ref a5, .int 0, .int 0, .int 0, .int 0, .int 0, .ref a6])), (a1, .inl (cs 0, 45783, .inl (layF (fun _ => 0) 1)))] := hD
  refine W.widen (k := 0) (n := 0) (Nat.le_of_ble_eq_true rfl) (Nat.le_of_ble_eq_true rfl) ?_
  refine lv_i2l (v := 1) hx hb dX9_checksum_25 (by decide) ?_
  refine lv_ladd hx hb dX9_checksum_26 ?_
  refine tp_l (787662783788579553) (by decide) ?_
  refine lv_lstore_n (lv' := [(1, .long 787662783788579553), (3, .int 12), (0, .ref a0)]) hx hb dX9_checksum_27 rfl hl (by decide) rfl (fun ls hl => ?_)
  refine lv_iinc (v := 13) (lv' := [(3, .int 13), (1, .long 787662783788579553), (0, .ref a0)]) hx hb dX9_checksum_28 hl (k := 1) rfl (by decide) (by decide) rfl (fun ls hl => ?_)
  refine lv_goto (tgt := 9) hx hb dX9_checksum_31 (by decide) ?_
  refine lv_iload_n hx hb dX9_checksum_9 rfl (lv_at hl 0 rfl) ?_
  refine lv_bipush (v := 13) hx hb dX9_checksum_10 (by decide) ?_
  refine lv_icmp_ge (tgt := 34) hx hb dX9_checksum_12 (by decide) (fun _ => ?_) (fun c9 => absurd (by decide) c9)
  refine lv_iconst (v := 0) hx hb dX9_checksum_34 (by decide) ?_
  refine lv_istore_n (lv' := [(3, .int 0), (1, .long 787662783788579553), (0, .ref a0)]) hx hb dX9_checksum_35 rfl hl (by decide) rfl (fun ls hl => ?_)
  refine lv_iload_n hx hb dX9_checksum_36 rfl (lv_at hl 0 rfl) ?_
  refine lv_aload_n hx hb dX9_checksum_37 rfl (lv_at hl 2 rfl) ?_
  refine va_get (D := D) (ci := 9) (v := .ref a1) (C := RX9) (T := TX9) (N := 18) hx hb hts iX9_checksum_9 hown hN.1 hP 0 rfl rfl 8 (by decide) (hts _ mX9_checksum_3) (fun _ h9 => h9) rfl dX9_checksum_38 ?_
  refine lv_iconst (v := 0) hx hb dX9_checksum_41 (by decide) ?_
  refine ld_i (v := 1) hx hb hN hP 1 rfl (vin (by decide +kernel)) (by first | rfl | decide +kernel) dX9_checksum_42 ?_
  refine lv_icmp_ge (tgt := 83) hx hb dX9_checksum_43 (by decide) (fun c9 => absurd c9 (by decide)) (fun _ => ?_)
  refine lv_iconst (v := 0) hx hb dX9_checksum_46 (by decide) ?_
  refine lv_istore (lv' := [(4, .int 0), (3, .int 0), (1, .long 787662783788579553), (0, .ref a0)]) hx hb dX9_checksum_47 hl (by decide) rfl (fun ls hl => ?_)
  refine lv_iload hx hb dX9_checksum_49 (lv_at hl 0 rfl) ?_
  refine lv_bipush (v := 10) hx hb dX9_checksum_51 (by decide) ?_
  refine lv_icmp_ge (tgt := 77) hx hb dX9_checksum_53 (by decide) (fun c9 => absurd c9 (by decide)) (fun _ => ?_)
  refine lv_ldc2 (v := 31) hx hb hown (hts _ mX9_checksum_2) dX9_checksum_56 ?_
  refine lv_lload_n hx hb dX9_checksum_59 rfl (lv_at hl 2 rfl) ?_
  refine lv_lmul hx hb dX9_checksum_60 ?_
  refine tp_l (5970802223736414527) (by decide) ?_
  refine lv_aload_n hx hb dX9_checksum_61 rfl (lv_at hl 3 rfl) ?_
  refine lv_iload_n hx hb dX9_checksum_62 rfl (lv_at hl 1 rfl) ?_
  refine lv_iload hx hb dX9_checksum_63 (lv_at hl 0 rfl) ?_
  refine cv_i (As := [.int 0, .int 0]) (rest := [.long 5970802223736414527]) (b := a0) (wr := []) ⟨hx, hb, hml, hown, hts⟩ (fun sz => k173_X9_toldPlayer l D cs sz a0 a1 a2 a3 a4 a5 a6) (cwV 2 hts gX9_checksum_X9_toldPlayer rfl rfl rfl hdX9_toldPlayer_v ⟨Nat.le_of_ble_eq_true rfl, Nat.le_of_ble_eq_true rfl⟩) hN hP hD hS hA [0, 1] [] rfl rfl rfl rfl (by decide) (ci := 9) (q0 := 0) rfl rfl rfl rfl hl.1 (Nat.le_of_ble_eq_true rfl) dX9_checksum_65 (Nat.le_of_ble_eq_true rfl) (Nat.le_of_ble_eq_true rfl) (fun u13 H locs hP hD hS => ?_)
  have hP : va_P D vwCl [(a0, .inr (9, [.int 0, .ref a2, .int 0, .int 0, .int 0, .int 0, .int 0, .int (-1), .ref a1, .ref a3, .ref a4, .ref a5, .int 0, .int 0, .int 0, .int 0, .int 0, .ref a6])), (a1, .inl (cs 0, 45783, .inl (layF (fun _ => 0) 1)))] H := hP
  have hD : va_D A [(a0, .inr (9, [.int 0, .ref a2, .int 0, .int 0, .int 0, .int 0, .int 0, .int (-1), .ref a1, .ref a3, .ref a4, .ref a5, .int 0, .int 0, .int 0, .int 0, .int 0, .ref a6])), (a1, .inl (cs 0, 45783, .inl (layF (fun _ => 0) 1)))] := hD
  refine W.widen (k := 0) (n := 0) (Nat.le_of_ble_eq_true rfl) (Nat.le_of_ble_eq_true rfl) ?_
  refine lv_i2l (v := 1) hx hb dX9_checksum_68 (by decide) ?_
  refine lv_ladd hx hb dX9_checksum_69 ?_
  refine tp_l (5970802223736414528) (by decide) ?_
  refine lv_lstore_n (lv' := [(1, .long 5970802223736414528), (4, .int 0), (3, .int 0), (0, .ref a0)]) hx hb dX9_checksum_70 rfl hl (by decide) rfl (fun ls hl => ?_)
  refine lv_iinc (v := 1) (lv' := [(4, .int 1), (1, .long 5970802223736414528), (3, .int 0), (0, .ref a0)]) hx hb dX9_checksum_71 hl (k := 1) rfl (by decide) (by decide) rfl (fun ls hl => ?_)
  refine lv_goto (tgt := 49) hx hb dX9_checksum_74 (by decide) ?_
  refine lv_iload hx hb dX9_checksum_49 (lv_at hl 0 rfl) ?_
  refine lv_bipush (v := 10) hx hb dX9_checksum_51 (by decide) ?_
  refine lv_icmp_ge (tgt := 77) hx hb dX9_checksum_53 (by decide) (fun c9 => absurd c9 (by decide)) (fun _ => ?_)
  refine lv_ldc2 (v := 31) hx hb hown (hts _ mX9_checksum_2) dX9_checksum_56 ?_
  refine lv_lload_n hx hb dX9_checksum_59 rfl (lv_at hl 1 rfl) ?_
  refine lv_lmul hx hb dX9_checksum_60 ?_
  refine tp_l (627428198733334208) (by decide) ?_
  refine lv_aload_n hx hb dX9_checksum_61 rfl (lv_at hl 3 rfl) ?_
  refine lv_iload_n hx hb dX9_checksum_62 rfl (lv_at hl 2 rfl) ?_
  refine lv_iload hx hb dX9_checksum_63 (lv_at hl 0 rfl) ?_
  refine cv_i (As := [.int 0, .int 1]) (rest := [.long 627428198733334208]) (b := a0) (wr := []) ⟨hx, hb, hml, hown, hts⟩ (fun sz => k185_X9_toldPlayer l D cs sz a0 a1 a2 a3 a4 a5 a6) (cwV 2 hts gX9_checksum_X9_toldPlayer rfl rfl rfl hdX9_toldPlayer_v ⟨Nat.le_of_ble_eq_true rfl, Nat.le_of_ble_eq_true rfl⟩) hN hP hD hS hA [0, 1] [] rfl rfl rfl rfl (by decide) (ci := 9) (q0 := 0) rfl rfl rfl rfl hl.1 (Nat.le_of_ble_eq_true rfl) dX9_checksum_65 (Nat.le_of_ble_eq_true rfl) (Nat.le_of_ble_eq_true rfl) (fun u14 H locs hP hD hS => ?_)
  have hP : va_P D vwCl [(a0, .inr (9, [.int 0, .ref a2, .int 0, .int 0, .int 0, .int 0, .int 0, .int (-1), .ref a1, .ref a3, .ref a4, .ref a5, .int 0, .int 0, .int 0, .int 0, .int 0, .ref a6])), (a1, .inl (cs 0, 45783, .inl (layF (fun _ => 0) 1)))] H := hP
  have hD : va_D A [(a0, .inr (9, [.int 0, .ref a2, .int 0, .int 0, .int 0, .int 0, .int 0, .int (-1), .ref a1, .ref a3, .ref a4, .ref a5, .int 0, .int 0, .int 0, .int 0, .int 0, .ref a6])), (a1, .inl (cs 0, 45783, .inl (layF (fun _ => 0) 1)))] := hD
  refine W.widen (k := 0) (n := 0) (Nat.le_of_ble_eq_true rfl) (Nat.le_of_ble_eq_true rfl) ?_
  refine lv_i2l (v := 0) hx hb dX9_checksum_68 (by decide) ?_
  refine lv_ladd hx hb dX9_checksum_69 ?_
  refine tp_l (627428198733334208) (by decide) ?_
  refine lv_lstore_n (lv' := [(1, .long 627428198733334208), (4, .int 1), (3, .int 0), (0, .ref a0)]) hx hb dX9_checksum_70 rfl hl (by decide) rfl (fun ls hl => ?_)
  refine lv_iinc (v := 2) (lv' := [(4, .int 2), (1, .long 627428198733334208), (3, .int 0), (0, .ref a0)]) hx hb dX9_checksum_71 hl (k := 1) rfl (by decide) (by decide) rfl (fun ls hl => ?_)
  refine lv_goto (tgt := 49) hx hb dX9_checksum_74 (by decide) ?_
  refine lv_iload hx hb dX9_checksum_49 (lv_at hl 0 rfl) ?_
  refine lv_bipush (v := 10) hx hb dX9_checksum_51 (by decide) ?_
  refine lv_icmp_ge (tgt := 77) hx hb dX9_checksum_53 (by decide) (fun c9 => absurd c9 (by decide)) (fun _ => ?_)
  refine lv_ldc2 (v := 31) hx hb hown (hts _ mX9_checksum_2) dX9_checksum_56 ?_
  refine lv_lload_n hx hb dX9_checksum_59 rfl (lv_at hl 1 rfl) ?_
  refine lv_lmul hx hb dX9_checksum_60 ?_
  refine tp_l (1003530087023808832) (by decide) ?_
  refine lv_aload_n hx hb dX9_checksum_61 rfl (lv_at hl 3 rfl) ?_
  refine lv_iload_n hx hb dX9_checksum_62 rfl (lv_at hl 2 rfl) ?_
  refine lv_iload hx hb dX9_checksum_63 (lv_at hl 0 rfl) ?_
  refine cv_i (As := [.int 0, .int 2]) (rest := [.long 1003530087023808832]) (b := a0) (wr := []) ⟨hx, hb, hml, hown, hts⟩ (fun sz => k193_X9_toldPlayer l D cs sz a0 a1 a2 a3 a4 a5 a6) (cwV 2 hts gX9_checksum_X9_toldPlayer rfl rfl rfl hdX9_toldPlayer_v ⟨Nat.le_of_ble_eq_true rfl, Nat.le_of_ble_eq_true rfl⟩) hN hP hD hS hA [0, 1] [] rfl rfl rfl rfl (by decide) (ci := 9) (q0 := 0) rfl rfl rfl rfl hl.1 (Nat.le_of_ble_eq_true rfl) dX9_checksum_65 (Nat.le_of_ble_eq_true rfl) (Nat.le_of_ble_eq_true rfl) (fun u15 H locs hP hD hS => ?_)
  have hP : va_P D vwCl [(a0, .inr (9, [.int 0, .ref a2, .int 0, .int 0, .int 0, .int 0, .int 0, .int (-1), .ref a1, .ref a3, .ref a4, .ref a5, .int 0, .int 0, .int 0, .int 0, .int 0, .ref a6])), (a1, .inl (cs 0, 45783, .inl (layF (fun _ => 0) 1)))] H := hP
  have hD : va_D A [(a0, .inr (9, [.int 0, .ref a2, .int 0, .int 0, .int 0, .int 0, .int 0, .int (-1), .ref a1, .ref a3, .ref a4, .ref a5, .int 0, .int 0, .int 0, .int 0, .int 0, .ref a6])), (a1, .inl (cs 0, 45783, .inl (layF (fun _ => 0) 1)))] := hD
  refine W.widen (k := 0) (n := 0) (Nat.le_of_ble_eq_true rfl) (Nat.le_of_ble_eq_true rfl) ?_
  refine lv_i2l (v := 0) hx hb dX9_checksum_68 (by decide) ?_
  refine lv_ladd hx hb dX9_checksum_69 ?_
  refine tp_l (1003530087023808832) (by decide) ?_
  refine lv_lstore_n (lv' := [(1, .long 1003530087023808832), (4, .int 2), (3, .int 0), (0, .ref a0)]) hx hb dX9_checksum_70 rfl hl (by decide) rfl (fun ls hl => ?_)
  refine lv_iinc (v := 3) (lv' := [(4, .int 3), (1, .long 1003530087023808832), (3, .int 0), (0, .ref a0)]) hx hb dX9_checksum_71 hl (k := 1) rfl (by decide) (by decide) rfl (fun ls hl => ?_)
  refine lv_goto (tgt := 49) hx hb dX9_checksum_74 (by decide) ?_
  refine lv_iload hx hb dX9_checksum_49 (lv_at hl 0 rfl) ?_
  refine lv_bipush (v := 10) hx hb dX9_checksum_51 (by decide) ?_
  refine lv_icmp_ge (tgt := 77) hx hb dX9_checksum_53 (by decide) (fun c9 => absurd c9 (by decide)) (fun _ => ?_)
  refine lv_ldc2 (v := 31) hx hb hown (hts _ mX9_checksum_2) dX9_checksum_56 ?_
  refine lv_lload_n hx hb dX9_checksum_59 rfl (lv_at hl 1 rfl) ?_
  refine lv_lmul hx hb dX9_checksum_60 ?_
  refine tp_l ((-5784055449681029440)) (by decide) ?_
  refine lv_aload_n hx hb dX9_checksum_61 rfl (lv_at hl 3 rfl) ?_
  refine lv_iload_n hx hb dX9_checksum_62 rfl (lv_at hl 2 rfl) ?_
  refine lv_iload hx hb dX9_checksum_63 (lv_at hl 0 rfl) ?_
  refine cv_i (As := [.int 0, .int 3]) (rest := [.long (-5784055449681029440)]) (b := a0) (wr := []) ⟨hx, hb, hml, hown, hts⟩ (fun sz => k201_X9_toldPlayer l D cs sz a0 a1 a2 a3 a4 a5 a6) (cwV 2 hts gX9_checksum_X9_toldPlayer rfl rfl rfl hdX9_toldPlayer_v ⟨Nat.le_of_ble_eq_true rfl, Nat.le_of_ble_eq_true rfl⟩) hN hP hD hS hA [0, 1] [] rfl rfl rfl rfl (by decide) (ci := 9) (q0 := 0) rfl rfl rfl rfl hl.1 (Nat.le_of_ble_eq_true rfl) dX9_checksum_65 (Nat.le_of_ble_eq_true rfl) (Nat.le_of_ble_eq_true rfl) (fun u16 H locs hP hD hS => ?_)
  have hP : va_P D vwCl [(a0, .inr (9, [.int 0, .ref a2, .int 0, .int 0, .int 0, .int 0, .int 0, .int (-1), .ref a1, .ref a3, .ref a4, .ref a5, .int 0, .int 0, .int 0, .int 0, .int 0, .ref a6])), (a1, .inl (cs 0, 45783, .inl (layF (fun _ => 0) 1)))] H := hP
  have hD : va_D A [(a0, .inr (9, [.int 0, .ref a2, .int 0, .int 0, .int 0, .int 0, .int 0, .int (-1), .ref a1, .ref a3, .ref a4, .ref a5, .int 0, .int 0, .int 0, .int 0, .int 0, .ref a6])), (a1, .inl (cs 0, 45783, .inl (layF (fun _ => 0) 1)))] := hD
  refine W.widen (k := 0) (n := 0) (Nat.le_of_ble_eq_true rfl) (Nat.le_of_ble_eq_true rfl) ?_
  refine lv_i2l (v := 0) hx hb dX9_checksum_68 (by decide) ?_
  refine lv_ladd hx hb dX9_checksum_69 ?_
  refine tp_l ((-5784055449681029440)) (by decide) ?_
  refine lv_lstore_n (lv' := [(1, .long (-5784055449681029440)), (4, .int 3), (3, .int 0), (0, .ref a0)]) hx hb dX9_checksum_70 rfl hl (by decide) rfl (fun ls hl => ?_)
  refine lv_iinc (v := 4) (lv' := [(4, .int 4), (1, .long (-5784055449681029440)), (3, .int 0), (0, .ref a0)]) hx hb dX9_checksum_71 hl (k := 1) rfl (by decide) (by decide) rfl (fun ls hl => ?_)
  refine lv_goto (tgt := 49) hx hb dX9_checksum_74 (by decide) ?_
  refine lv_iload hx hb dX9_checksum_49 (lv_at hl 0 rfl) ?_
  refine lv_bipush (v := 10) hx hb dX9_checksum_51 (by decide) ?_
  refine lv_icmp_ge (tgt := 77) hx hb dX9_checksum_53 (by decide) (fun c9 => absurd c9 (by decide)) (fun _ => ?_)
  refine lv_ldc2 (v := 31) hx hb hown (hts _ mX9_checksum_2) dX9_checksum_56 ?_
  refine lv_lload_n hx hb dX9_checksum_59 rfl (lv_at hl 1 rfl) ?_
  refine lv_lmul hx hb dX9_checksum_60 ?_
  refine tp_l (5161721796983603520) (by decide) ?_
  refine lv_aload_n hx hb dX9_checksum_61 rfl (lv_at hl 3 rfl) ?_
  refine lv_iload_n hx hb dX9_checksum_62 rfl (lv_at hl 2 rfl) ?_
  refine lv_iload hx hb dX9_checksum_63 (lv_at hl 0 rfl) ?_
  refine cv_i (As := [.int 0, .int 4]) (rest := [.long 5161721796983603520]) (b := a0) (wr := []) ⟨hx, hb, hml, hown, hts⟩ (fun sz => k209_X9_toldPlayer l D cs sz a0 a1 a2 a3 a4 a5 a6) (cwV 2 hts gX9_checksum_X9_toldPlayer rfl rfl rfl hdX9_toldPlayer_v ⟨Nat.le_of_ble_eq_true rfl, Nat.le_of_ble_eq_true rfl⟩) hN hP hD hS hA [0, 1] [] rfl rfl rfl rfl (by decide) (ci := 9) (q0 := 0) rfl rfl rfl rfl hl.1 (Nat.le_of_ble_eq_true rfl) dX9_checksum_65 (Nat.le_of_ble_eq_true rfl) (Nat.le_of_ble_eq_true rfl) (fun u17 H locs hP hD hS => ?_)
  have hP : va_P D vwCl [(a0, .inr (9, [.int 0, .ref a2, .int 0, .int 0, .int 0, .int 0, .int 0, .int (-1), .ref a1, .ref a3, .ref a4, .ref a5, .int 0, .int 0, .int 0, .int 0, .int 0, .ref a6])), (a1, .inl (cs 0, 45783, .inl (layF (fun _ => 0) 1)))] H := hP
  have hD : va_D A [(a0, .inr (9, [.int 0, .ref a2, .int 0, .int 0, .int 0, .int 0, .int 0, .int (-1), .ref a1, .ref a3, .ref a4, .ref a5, .int 0, .int 0, .int 0, .int 0, .int 0, .ref a6])), (a1, .inl (cs 0, 45783, .inl (layF (fun _ => 0) 1)))] := hD
  refine W.widen (k := 0) (n := 0) (Nat.le_of_ble_eq_true rfl) (Nat.le_of_ble_eq_true rfl) ?_
  refine lv_i2l (v := 0) hx hb dX9_checksum_68 (by decide) ?_
  refine lv_ladd hx hb dX9_checksum_69 ?_
  refine tp_l (5161721796983603520) (by decide) ?_
  refine lv_lstore_n (lv' := [(1, .long 5161721796983603520), (4, .int 4), (3, .int 0), (0, .ref a0)]) hx hb dX9_checksum_70 rfl hl (by decide) rfl (fun ls hl => ?_)
  refine lv_iinc (v := 5) (lv' := [(4, .int 5), (1, .long 5161721796983603520), (3, .int 0), (0, .ref a0)]) hx hb dX9_checksum_71 hl (k := 1) rfl (by decide) (by decide) rfl (fun ls hl => ?_)
  refine lv_goto (tgt := 49) hx hb dX9_checksum_74 (by decide) ?_
  refine lv_iload hx hb dX9_checksum_49 (lv_at hl 0 rfl) ?_
  refine lv_bipush (v := 10) hx hb dX9_checksum_51 (by decide) ?_
  refine lv_icmp_ge (tgt := 77) hx hb dX9_checksum_53 (by decide) (fun c9 => absurd c9 (by decide)) (fun _ => ?_)
  refine lv_ldc2 (v := 31) hx hb hown (hts _ mX9_checksum_2) dX9_checksum_56 ?_
  refine lv_lload_n hx hb dX9_checksum_59 rfl (lv_at hl 1 rfl) ?_
  refine lv_lmul hx hb dX9_checksum_60 ?_
  refine tp_l ((-6007320956894255424)) (by decide) ?_
  refine lv_aload_n hx hb dX9_checksum_61 rfl (lv_at hl 3 rfl) ?_
  refine lv_iload_n hx hb dX9_checksum_62 rfl (lv_at hl 2 rfl) ?_
  refine lv_iload hx hb dX9_checksum_63 (lv_at hl 0 rfl) ?_
  refine cv_i (As := [.int 0, .int 5]) (rest := [.long (-6007320956894255424)]) (b := a0) (wr := []) ⟨hx, hb, hml, hown, hts⟩ (fun sz => k217_X9_toldPlayer l D cs sz a0 a1 a2 a3 a4 a5 a6) (cwV 2 hts gX9_checksum_X9_toldPlayer rfl rfl rfl hdX9_toldPlayer_v ⟨Nat.le_of_ble_eq_true rfl, Nat.le_of_ble_eq_true rfl⟩) hN hP hD hS hA [0, 1] [] rfl rfl rfl rfl (by decide) (ci := 9) (q0 := 0) rfl rfl rfl rfl hl.1 (Nat.le_of_ble_eq_true rfl) dX9_checksum_65 (Nat.le_of_ble_eq_true rfl) (Nat.le_of_ble_eq_true rfl) (fun u18 H locs hP hD hS => ?_)
  have hP : va_P D vwCl [(a0, .inr (9, [.int 0, .ref a2, .int 0, .int 0, .int 0, .int 0, .int 0, .int (-1), .ref a1, .ref a3, .ref a4, .ref a5, .int 0, .int 0, .int 0, .int 0, .int 0, .ref a6])), (a1, .inl (cs 0, 45783, .inl (layF (fun _ => 0) 1)))] H := hP
  have hD : va_D A [(a0, .inr (9, [.int 0, .ref a2, .int 0, .int 0, .int 0, .int 0, .int 0, .int (-1), .ref a1, .ref a3, .ref a4, .ref a5, .int 0, .int 0, .int 0, .int 0, .int 0, .ref a6])), (a1, .inl (cs 0, 45783, .inl (layF (fun _ => 0) 1)))] := hD
  refine W.widen (k := 0) (n := 0) (Nat.le_of_ble_eq_true rfl) (Nat.le_of_ble_eq_true rfl) ?_
  refine lv_i2l (v := (-1)) hx hb dX9_checksum_68 (by decide) ?_
  refine lv_ladd hx hb dX9_checksum_69 ?_
  refine tp_l ((-6007320956894255425)) (by decide) ?_
  refine lv_lstore_n (lv' := [(1, .long (-6007320956894255425)), (4, .int 5), (3, .int 0), (0, .ref a0)]) hx hb dX9_checksum_70 rfl hl (by decide) rfl (fun ls hl => ?_)
  refine lv_iinc (v := 6) (lv' := [(4, .int 6), (1, .long (-6007320956894255425)), (3, .int 0), (0, .ref a0)]) hx hb dX9_checksum_71 hl (k := 1) rfl (by decide) (by decide) rfl (fun ls hl => ?_)
  refine lv_goto (tgt := 49) hx hb dX9_checksum_74 (by decide) ?_
  refine lv_iload hx hb dX9_checksum_49 (lv_at hl 0 rfl) ?_
  refine lv_bipush (v := 10) hx hb dX9_checksum_51 (by decide) ?_
  refine lv_icmp_ge (tgt := 77) hx hb dX9_checksum_53 (by decide) (fun c9 => absurd c9 (by decide)) (fun _ => ?_)
  refine lv_ldc2 (v := 31) hx hb hown (hts _ mX9_checksum_2) dX9_checksum_56 ?_
  refine lv_lload_n hx hb dX9_checksum_59 rfl (lv_at hl 1 rfl) ?_
  refine lv_lmul hx hb dX9_checksum_60 ?_
  refine tp_l ((-1759508926626402015)) (by decide) ?_
  refine lv_aload_n hx hb dX9_checksum_61 rfl (lv_at hl 3 rfl) ?_
  refine lv_iload_n hx hb dX9_checksum_62 rfl (lv_at hl 2 rfl) ?_
  refine lv_iload hx hb dX9_checksum_63 (lv_at hl 0 rfl) ?_
  refine cv_i (As := [.int 0, .int 6]) (rest := [.long (-1759508926626402015)]) (b := a0) (wr := []) ⟨hx, hb, hml, hown, hts⟩ (fun sz => k225_X9_toldPlayer l D cs sz a0 a1 a2 a3 a4 a5 a6) (cwV 2 hts gX9_checksum_X9_toldPlayer rfl rfl rfl hdX9_toldPlayer_v ⟨Nat.le_of_ble_eq_true rfl, Nat.le_of_ble_eq_true rfl⟩) hN hP hD hS hA [0, 1] [] rfl rfl rfl rfl (by decide) (ci := 9) (q0 := 0) rfl rfl rfl rfl hl.1 (Nat.le_of_ble_eq_true rfl) dX9_checksum_65 (Nat.le_of_ble_eq_true rfl) (Nat.le_of_ble_eq_true rfl) (fun u19 H locs hP hD hS => ?_)
  have hP : va_P D vwCl [(a0, .inr (9, [.int 0, .ref a2, .int 0, .int 0, .int 0, .int 0, .int 0, .int (-1), .ref a1, .ref a3, .ref a4, .ref a5, .int 0, .int 0, .int 0, .int 0, .int 0, .ref a6])), (a1, .inl (cs 0, 45783, .inl (layF (fun _ => 0) 1)))] H := hP
  have hD : va_D A [(a0, .inr (9, [.int 0, .ref a2, .int 0, .int 0, .int 0, .int 0, .int 0, .int (-1), .ref a1, .ref a3, .ref a4, .ref a5, .int 0, .int 0, .int 0, .int 0, .int 0, .ref a6])), (a1, .inl (cs 0, 45783, .inl (layF (fun _ => 0) 1)))] := hD
  refine W.widen (k := 0) (n := 0) (Nat.le_of_ble_eq_true rfl) (Nat.le_of_ble_eq_true rfl) ?_
  refine lv_i2l (v := 0) hx hb dX9_checksum_68 (by decide) ?_
  refine lv_ladd hx hb dX9_checksum_69 ?_
  refine tp_l ((-1759508926626402015)) (by decide) ?_
  refine lv_lstore_n (lv' := [(1, .long (-1759508926626402015)), (4, .int 6), (3, .int 0), (0, .ref a0)]) hx hb dX9_checksum_70 rfl hl (by decide) rfl (fun ls hl => ?_)
  refine lv_iinc (v := 7) (lv' := [(4, .int 7), (1, .long (-1759508926626402015)), (3, .int 0), (0, .ref a0)]) hx hb dX9_checksum_71 hl (k := 1) rfl (by decide) (by decide) rfl (fun ls hl => ?_)
  refine lv_goto (tgt := 49) hx hb dX9_checksum_74 (by decide) ?_
  refine lv_iload hx hb dX9_checksum_49 (lv_at hl 0 rfl) ?_
  refine lv_bipush (v := 10) hx hb dX9_checksum_51 (by decide) ?_
  refine lv_icmp_ge (tgt := 77) hx hb dX9_checksum_53 (by decide) (fun c9 => absurd c9 (by decide)) (fun _ => ?_)
  refine lv_ldc2 (v := 31) hx hb hown (hts _ mX9_checksum_2) dX9_checksum_56 ?_
  refine lv_lload_n hx hb dX9_checksum_59 rfl (lv_at hl 1 rfl) ?_
  refine lv_lmul hx hb dX9_checksum_60 ?_
  refine tp_l (795455495710192383) (by decide) ?_
  refine lv_aload_n hx hb dX9_checksum_61 rfl (lv_at hl 3 rfl) ?_
  refine lv_iload_n hx hb dX9_checksum_62 rfl (lv_at hl 2 rfl) ?_
  refine lv_iload hx hb dX9_checksum_63 (lv_at hl 0 rfl) ?_
  refine cv_i (As := [.int 0, .int 7]) (rest := [.long 795455495710192383]) (b := a0) (wr := []) ⟨hx, hb, hml, hown, hts⟩ (fun sz => k233_X9_toldPlayer l D cs sz a0 a1 a2 a3 a4 a5 a6) (cwV 2 hts gX9_checksum_X9_toldPlayer rfl rfl rfl hdX9_toldPlayer_v ⟨Nat.le_of_ble_eq_true rfl, Nat.le_of_ble_eq_true rfl⟩) hN hP hD hS hA [0, 1] [] rfl rfl rfl rfl (by decide) (ci := 9) (q0 := 0) rfl rfl rfl rfl hl.1 (Nat.le_of_ble_eq_true rfl) dX9_checksum_65 (Nat.le_of_ble_eq_true rfl) (Nat.le_of_ble_eq_true rfl) (fun u20 H locs hP hD hS => ?_)
  have hP : va_P D vwCl [(a0, .inr (9, [.int 0, .ref a2, .int 0, .int 0, .int 0, .int 0, .int 0, .int (-1), .ref a1, .ref a3, .ref a4, .ref a5, .int 0, .int 0, .int 0, .int 0, .int 0, .ref a6])), (a1, .inl (cs 0, 45783, .inl (layF (fun _ => 0) 1)))] H := hP
  have hD : va_D A [(a0, .inr (9, [.int 0, .ref a2, .int 0, .int 0, .int 0, .int 0, .int 0, .int (-1), .ref a1, .ref a3, .ref a4, .ref a5, .int 0, .int 0, .int 0, .int 0, .int 0, .ref a6])), (a1, .inl (cs 0, 45783, .inl (layF (fun _ => 0) 1)))] := hD
  refine W.widen (k := 0) (n := 0) (Nat.le_of_ble_eq_true rfl) (Nat.le_of_ble_eq_true rfl) ?_
  refine lv_i2l (v := 0) hx hb dX9_checksum_68 (by decide) ?_
  refine lv_ladd hx hb dX9_checksum_69 ?_
  refine tp_l (795455495710192383) (by decide) ?_
  refine lv_lstore_n (lv' := [(1, .long 795455495710192383), (4, .int 7), (3, .int 0), (0, .ref a0)]) hx hb dX9_checksum_70 rfl hl (by decide) rfl (fun ls hl => ?_)
  refine lv_iinc (v := 8) (lv' := [(4, .int 8), (1, .long 795455495710192383), (3, .int 0), (0, .ref a0)]) hx hb dX9_checksum_71 hl (k := 1) rfl (by decide) (by decide) rfl (fun ls hl => ?_)
  refine lv_goto (tgt := 49) hx hb dX9_checksum_74 (by decide) ?_
  refine lv_iload hx hb dX9_checksum_49 (lv_at hl 0 rfl) ?_
  refine lv_bipush (v := 10) hx hb dX9_checksum_51 (by decide) ?_
  refine lv_icmp_ge (tgt := 77) hx hb dX9_checksum_53 (by decide) (fun c9 => absurd c9 (by decide)) (fun _ => ?_)
  refine lv_ldc2 (v := 31) hx hb hown (hts _ mX9_checksum_2) dX9_checksum_56 ?_
  refine lv_lload_n hx hb dX9_checksum_59 rfl (lv_at hl 1 rfl) ?_
  refine lv_lmul hx hb dX9_checksum_60 ?_
  refine tp_l (6212376293306412257) (by decide) ?_
  refine lv_aload_n hx hb dX9_checksum_61 rfl (lv_at hl 3 rfl) ?_
  refine lv_iload_n hx hb dX9_checksum_62 rfl (lv_at hl 2 rfl) ?_
  refine lv_iload hx hb dX9_checksum_63 (lv_at hl 0 rfl) ?_
  refine cv_i (As := [.int 0, .int 8]) (rest := [.long 6212376293306412257]) (b := a0) (wr := []) ⟨hx, hb, hml, hown, hts⟩ (fun sz => k241_X9_toldPlayer l D cs sz a0 a1 a2 a3 a4 a5 a6) (cwV 2 hts gX9_checksum_X9_toldPlayer rfl rfl rfl hdX9_toldPlayer_v ⟨Nat.le_of_ble_eq_true rfl, Nat.le_of_ble_eq_true rfl⟩) hN hP hD hS hA [0, 1] [] rfl rfl rfl rfl (by decide) (ci := 9) (q0 := 0) rfl rfl rfl rfl hl.1 (Nat.le_of_ble_eq_true rfl) dX9_checksum_65 (Nat.le_of_ble_eq_true rfl) (Nat.le_of_ble_eq_true rfl) (fun u21 H locs hP hD hS => ?_)
  have hP : va_P D vwCl [(a0, .inr (9, [.int 0, .ref a2, .int 0, .int 0, .int 0, .int 0, .int 0, .int (-1), .ref a1, .ref a3, .ref a4, .ref a5, .int 0, .int 0, .int 0, .int 0, .int 0, .ref a6])), (a1, .inl (cs 0, 45783, .inl (layF (fun _ => 0) 1)))] H := hP
  have hD : va_D A [(a0, .inr (9, [.int 0, .ref a2, .int 0, .int 0, .int 0, .int 0, .int 0, .int (-1), .ref a1, .ref a3, .ref a4, .ref a5, .int 0, .int 0, .int 0, .int 0, .int 0, .ref a6])), (a1, .inl (cs 0, 45783, .inl (layF (fun _ => 0) 1)))] := hD
  refine W.widen (k := 0) (n := 0) (Nat.le_of_ble_eq_true rfl) (Nat.le_of_ble_eq_true rfl) ?_
  refine lv_i2l (v := (-1)) hx hb dX9_checksum_68 (by decide) ?_
  refine lv_ladd hx hb dX9_checksum_69 ?_
  refine tp_l (6212376293306412256) (by decide) ?_
  refine lv_lstore_n (lv' := [(1, .long 6212376293306412256), (4, .int 8), (3, .int 0), (0, .ref a0)]) hx hb dX9_checksum_70 rfl hl (by decide) rfl (fun ls hl => ?_)
  refine lv_iinc (v := 9) (lv' := [(4, .int 9), (1, .long 6212376293306412256), (3, .int 0), (0, .ref a0)]) hx hb dX9_checksum_71 hl (k := 1) rfl (by decide) (by decide) rfl (fun ls hl => ?_)
  refine lv_goto (tgt := 49) hx hb dX9_checksum_74 (by decide) ?_
  refine lv_iload hx hb dX9_checksum_49 (lv_at hl 0 rfl) ?_
  refine lv_bipush (v := 10) hx hb dX9_checksum_51 (by decide) ?_
  refine lv_icmp_ge (tgt := 77) hx hb dX9_checksum_53 (by decide) (fun c9 => absurd c9 (by decide)) (fun _ => ?_)
  refine lv_ldc2 (v := 31) hx hb hown (hts _ mX9_checksum_2) dX9_checksum_56 ?_
  refine lv_lload_n hx hb dX9_checksum_59 rfl (lv_at hl 1 rfl) ?_
  refine lv_lmul hx hb dX9_checksum_60 ?_
  refine tp_l (8116224355403263776) (by decide) ?_
  refine lv_aload_n hx hb dX9_checksum_61 rfl (lv_at hl 3 rfl) ?_
  refine lv_iload_n hx hb dX9_checksum_62 rfl (lv_at hl 2 rfl) ?_
  refine lv_iload hx hb dX9_checksum_63 (lv_at hl 0 rfl) ?_
  refine cv_i (As := [.int 0, .int 9]) (rest := [.long 8116224355403263776]) (b := a0) (wr := []) ⟨hx, hb, hml, hown, hts⟩ (fun sz => k251_X9_toldPlayer l D cs sz a0 a1 a2 a3 a4 a5 a6) (cwV 2 hts gX9_checksum_X9_toldPlayer rfl rfl rfl hdX9_toldPlayer_v ⟨Nat.le_of_ble_eq_true rfl, Nat.le_of_ble_eq_true rfl⟩) hN hP hD hS hA [0, 1] [] rfl rfl rfl rfl (by decide) (ci := 9) (q0 := 0) rfl rfl rfl rfl hl.1 (Nat.le_of_ble_eq_true rfl) dX9_checksum_65 (Nat.le_of_ble_eq_true rfl) (Nat.le_of_ble_eq_true rfl) (fun u22 H locs hP hD hS => ?_)
  have hP : va_P D vwCl [(a0, .inr (9, [.int 0, .ref a2, .int 0, .int 0, .int 0, .int 0, .int 0, .int (-1), .ref a1, .ref a3, .ref a4, .ref a5, .int 0, .int 0, .int 0, .int 0, .int 0, .ref a6])), (a1, .inl (cs 0, 45783, .inl (layF (fun _ => 0) 1)))] H := hP
  have hD : va_D A [(a0, .inr (9, [.int 0, .ref a2, .int 0, .int 0, .int 0, .int 0, .int 0, .int (-1), .ref a1, .ref a3, .ref a4, .ref a5, .int 0, .int 0, .int 0, .int 0, .int 0, .ref a6])), (a1, .inl (cs 0, 45783, .inl (layF (fun _ => 0) 1)))] := hD
  refine W.widen (k := 0) (n := 0) (Nat.le_of_ble_eq_true rfl) (Nat.le_of_ble_eq_true rfl) ?_
  refine lv_i2l (v := 0) hx hb dX9_checksum_68 (by decide) ?_
  refine lv_ladd hx hb dX9_checksum_69 ?_
  refine tp_l (8116224355403263776) (by decide) ?_
  refine lv_lstore_n (lv' := [(1, .long 8116224355403263776), (4, .int 9), (3, .int 0), (0, .ref a0)]) hx hb dX9_checksum_70 rfl hl (by decide) rfl (fun ls hl => ?_)
  refine lv_iinc (v := 10) (lv' := [(4, .int 10), (1, .long 8116224355403263776), (3, .int 0), (0, .ref a0)]) hx hb dX9_checksum_71 hl (k := 1) rfl (by decide) (by decide) rfl (fun ls hl => ?_)
  refine lv_goto (tgt := 49) hx hb dX9_checksum_74 (by decide) ?_
  refine lv_iload hx hb dX9_checksum_49 (lv_at hl 0 rfl) ?_
  refine lv_bipush (v := 10) hx hb dX9_checksum_51 (by decide) ?_
  refine lv_icmp_ge (tgt := 77) hx hb dX9_checksum_53 (by decide) (fun _ => ?_) (fun c9 => absurd (by decide) c9)
  refine lv_iinc (v := 1) (lv' := [(3, .int 1), (4, .int 10), (1, .long 8116224355403263776), (0, .ref a0)]) hx hb dX9_checksum_77 hl (k := 2) rfl (by decide) (by decide) rfl (fun ls hl => ?_)
  refine lv_goto (tgt := 36) hx hb dX9_checksum_80 (by decide) ?_
  refine lv_iload_n hx hb dX9_checksum_36 rfl (lv_at hl 0 rfl) ?_
  refine lv_aload_n hx hb dX9_checksum_37 rfl (lv_at hl 3 rfl) ?_
  refine va_get (D := D) (ci := 9) (v := .ref a1) (C := RX9) (T := TX9) (N := 18) hx hb hts iX9_checksum_9 hown hN.1 hP 0 rfl rfl 8 (by decide) (hts _ mX9_checksum_3) (fun _ h9 => h9) rfl dX9_checksum_38 ?_
  refine lv_iconst (v := 0) hx hb dX9_checksum_41 (by decide) ?_
  refine ld_i (v := 1) hx hb hN hP 1 rfl (vin (by decide +kernel)) (by first | rfl | decide +kernel) dX9_checksum_42 ?_
  refine lv_icmp_ge (tgt := 83) hx hb dX9_checksum_43 (by decide) (fun _ => ?_) (fun c9 => absurd (by decide) c9)
  refine lv_aload_n hx hb dX9_checksum_83 rfl (lv_at hl 3 rfl) ?_
  refine va_get (D := D) (ci := 9) (v := .ref a1) (C := RX9) (T := TX9) (N := 18) hx hb hts iX9_checksum_9 hown hN.1 hP 0 rfl rfl 8 (by decide) (hts _ mX9_checksum_3) (fun _ h9 => h9) rfl dX9_checksum_84 ?_
  refine lv_iconst (v := 1) hx hb dX9_checksum_87 (by decide) ?_
  refine ld_i (v := 0) hx hb hN hP 1 rfl (vin (by decide +kernel)) (by first | rfl | decide +kernel) dX9_checksum_88 ?_
  refine lv_iconst (v := 1) hx hb dX9_checksum_89 (by decide) ?_
  refine lv_iadd hx hb dX9_checksum_90 ?_
  refine tp_i (1) (by decide) ?_
  refine lv_istore_n (lv' := [(3, .int 1), (4, .int 10), (1, .long 8116224355403263776), (0, .ref a0)]) hx hb dX9_checksum_91 rfl hl (by decide) rfl (fun ls hl => ?_)
  refine lv_iload_n hx hb dX9_checksum_92 rfl (lv_at hl 0 rfl) ?_
  refine lv_aload_n hx hb dX9_checksum_93 rfl (lv_at hl 3 rfl) ?_
  refine va_get (D := D) (ci := 9) (v := .ref a1) (C := RX9) (T := TX9) (N := 18) hx hb hts iX9_checksum_9 hown hN.1 hP 0 rfl rfl 8 (by decide) (hts _ mX9_checksum_3) (fun _ h9 => h9) rfl dX9_checksum_94 ?_
  refine lv_iconst (v := 1) hx hb dX9_checksum_97 (by decide) ?_
  refine ld_i (v := 0) hx hb hN hP 1 rfl (vin (by decide +kernel)) (by first | rfl | decide +kernel) dX9_checksum_98 ?_
  refine lv_bipush (v := 9) hx hb dX9_checksum_99 (by decide) ?_
  refine lv_iadd hx hb dX9_checksum_101 ?_
  refine tp_i (9) (by decide) ?_
  refine lv_icmp_gt (tgt := 187) hx hb dX9_checksum_102 (by decide) (fun c9 => absurd c9 (by decide)) (fun _ => ?_)
  refine lv_iconst (v := 0) hx hb dX9_checksum_105 (by decide) ?_
  refine lv_istore (lv' := [(4, .int 0), (3, .int 1), (1, .long 8116224355403263776), (0, .ref a0)]) hx hb dX9_checksum_106 hl (by decide) rfl (fun ls hl => ?_)
  refine lv_iload hx hb dX9_checksum_108 (lv_at hl 0 rfl) ?_
  refine lv_aload_n hx hb dX9_checksum_110 rfl (lv_at hl 3 rfl) ?_
  refine va_get (D := D) (ci := 9) (v := .ref a1) (C := RX9) (T := TX9) (N := 18) hx hb hts iX9_checksum_9 hown hN.1 hP 0 rfl rfl 8 (by decide) (hts _ mX9_checksum_3) (fun _ h9 => h9) rfl dX9_checksum_111 ?_
  refine lv_iconst (v := 3) hx hb dX9_checksum_114 (by decide) ?_
  refine ld_i (v := 0) hx hb hN hP 1 rfl (vin (by decide +kernel)) (by first | rfl | decide +kernel) dX9_checksum_115 ?_
  refine lv_icmp_ge (tgt := 181) hx hb dX9_checksum_116 (by decide) (fun _ => ?_) (fun c9 => absurd (by decide) c9)
  refine lv_iinc (v := 2) (lv' := [(3, .int 2), (4, .int 0), (1, .long 8116224355403263776), (0, .ref a0)]) hx hb dX9_checksum_181 hl (k := 1) rfl (by decide) (by decide) rfl (fun ls hl => ?_)
  refine lv_goto (tgt := 92) hx hb dX9_checksum_184 (by decide) ?_
  refine lv_iload_n hx hb dX9_checksum_92 rfl (lv_at hl 0 rfl) ?_
  refine lv_aload_n hx hb dX9_checksum_93 rfl (lv_at hl 3 rfl) ?_
  refine va_get (D := D) (ci := 9) (v := .ref a1) (C := RX9) (T := TX9) (N := 18) hx hb hts iX9_checksum_9 hown hN.1 hP 0 rfl rfl 8 (by decide) (hts _ mX9_checksum_3) (fun _ h9 => h9) rfl dX9_checksum_94 ?_
  refine lv_iconst (v := 1) hx hb dX9_checksum_97 (by decide) ?_
  refine ld_i (v := 0) hx hb hN hP 1 rfl (vin (by decide +kernel)) (by first | rfl | decide +kernel) dX9_checksum_98 ?_
  refine lv_bipush (v := 9) hx hb dX9_checksum_99 (by decide) ?_
  refine lv_iadd hx hb dX9_checksum_101 ?_
  refine tp_i (9) (by decide) ?_
  refine lv_icmp_gt (tgt := 187) hx hb dX9_checksum_102 (by decide) (fun c9 => absurd c9 (by decide)) (fun _ => ?_)
  refine lv_iconst (v := 0) hx hb dX9_checksum_105 (by decide) ?_
  refine lv_istore (lv' := [(4, .int 0), (3, .int 2), (1, .long 8116224355403263776), (0, .ref a0)]) hx hb dX9_checksum_106 hl (by decide) rfl (fun ls hl => ?_)
  refine lv_iload hx hb dX9_checksum_108 (lv_at hl 0 rfl) ?_
  refine lv_aload_n hx hb dX9_checksum_110 rfl (lv_at hl 3 rfl) ?_
  refine va_get (D := D) (ci := 9) (v := .ref a1) (C := RX9) (T := TX9) (N := 18) hx hb hts iX9_checksum_9 hown hN.1 hP 0 rfl rfl 8 (by decide) (hts _ mX9_checksum_3) (fun _ h9 => h9) rfl dX9_checksum_111 ?_
  refine lv_iconst (v := 3) hx hb dX9_checksum_114 (by decide) ?_
  refine ld_i (v := 0) hx hb hN hP 1 rfl (vin (by decide +kernel)) (by first | rfl | decide +kernel) dX9_checksum_115 ?_
  refine lv_icmp_ge (tgt := 181) hx hb dX9_checksum_116 (by decide) (fun _ => ?_) (fun c9 => absurd (by decide) c9)
  refine lv_iinc (v := 3) (lv' := [(3, .int 3), (4, .int 0), (1, .long 8116224355403263776), (0, .ref a0)]) hx hb dX9_checksum_181 hl (k := 1) rfl (by decide) (by decide) rfl (fun ls hl => ?_)
  refine lv_goto (tgt := 92) hx hb dX9_checksum_184 (by decide) ?_
  refine lv_iload_n hx hb dX9_checksum_92 rfl (lv_at hl 0 rfl) ?_
  refine lv_aload_n hx hb dX9_checksum_93 rfl (lv_at hl 3 rfl) ?_
  refine va_get (D := D) (ci := 9) (v := .ref a1) (C := RX9) (T := TX9) (N := 18) hx hb hts iX9_checksum_9 hown hN.1 hP 0 rfl rfl 8 (by decide) (hts _ mX9_checksum_3) (fun _ h9 => h9) rfl dX9_checksum_94 ?_
  refine lv_iconst (v := 1) hx hb dX9_checksum_97 (by decide) ?_
  refine ld_i (v := 0) hx hb hN hP 1 rfl (vin (by decide +kernel)) (by first | rfl | decide +kernel) dX9_checksum_98 ?_
  refine lv_bipush (v := 9) hx hb dX9_checksum_99 (by decide) ?_
  refine lv_iadd hx hb dX9_checksum_101 ?_
  refine tp_i (9) (by decide) ?_
  refine lv_icmp_gt (tgt := 187) hx hb dX9_checksum_102 (by decide) (fun c9 => absurd c9 (by decide)) (fun _ => ?_)
  refine lv_iconst (v := 0) hx hb dX9_checksum_105 (by decide) ?_
  refine lv_istore (lv' := [(4, .int 0), (3, .int 3), (1, .long 8116224355403263776), (0, .ref a0)]) hx hb dX9_checksum_106 hl (by decide) rfl (fun ls hl => ?_)
  refine lv_iload hx hb dX9_checksum_108 (lv_at hl 0 rfl) ?_
  refine lv_aload_n hx hb dX9_checksum_110 rfl (lv_at hl 3 rfl) ?_
  refine va_get (D := D) (ci := 9) (v := .ref a1) (C := RX9) (T := TX9) (N := 18) hx hb hts iX9_checksum_9 hown hN.1 hP 0 rfl rfl 8 (by decide) (hts _ mX9_checksum_3) (fun _ h9 => h9) rfl dX9_checksum_111 ?_
  refine lv_iconst (v := 3) hx hb dX9_checksum_114 (by decide) ?_
  refine ld_i (v := 0) hx hb hN hP 1 rfl (vin (by decide +kernel)) (by first | rfl | decide +kernel) dX9_checksum_115 ?_
  refine lv_icmp_ge (tgt := 181) hx hb dX9_checksum_116 (by decide) (fun _ => ?_) (fun c9 => absurd (by decide) c9)
  refine lv_iinc (v := 4) (lv' := [(3, .int 4), (4, .int 0), (1, .long 8116224355403263776), (0, .ref a0)]) hx hb dX9_checksum_181 hl (k := 1) rfl (by decide) (by decide) rfl (fun ls hl => ?_)
  refine lv_goto (tgt := 92) hx hb dX9_checksum_184 (by decide) ?_
  refine lv_iload_n hx hb dX9_checksum_92 rfl (lv_at hl 0 rfl) ?_
  refine lv_aload_n hx hb dX9_checksum_93 rfl (lv_at hl 3 rfl) ?_
  refine va_get (D := D) (ci := 9) (v := .ref a1) (C := RX9) (T := TX9) (N := 18) hx hb hts iX9_checksum_9 hown hN.1 hP 0 rfl rfl 8 (by decide) (hts _ mX9_checksum_3) (fun _ h9 => h9) rfl dX9_checksum_94 ?_
  refine lv_iconst (v := 1) hx hb dX9_checksum_97 (by decide) ?_
  refine ld_i (v := 0) hx hb hN hP 1 rfl (vin (by decide +kernel)) (by first | rfl | decide +kernel) dX9_checksum_98 ?_
  refine lv_bipush (v := 9) hx hb dX9_checksum_99 (by decide) ?_
  refine lv_iadd hx hb dX9_checksum_101 ?_
  refine tp_i (9) (by decide) ?_
  refine lv_icmp_gt (tgt := 187) hx hb dX9_checksum_102 (by decide) (fun c9 => absurd c9 (by decide)) (fun _ => ?_)
  refine lv_iconst (v := 0) hx hb dX9_checksum_105 (by decide) ?_
  refine lv_istore (lv' := [(4, .int 0), (3, .int 4), (1, .long 8116224355403263776), (0, .ref a0)]) hx hb dX9_checksum_106 hl (by decide) rfl (fun ls hl => ?_)
  refine lv_iload hx hb dX9_checksum_108 (lv_at hl 0 rfl) ?_
  refine lv_aload_n hx hb dX9_checksum_110 rfl (lv_at hl 3 rfl) ?_
  refine va_get (D := D) (ci := 9) (v := .ref a1) (C := RX9) (T := TX9) (N := 18) hx hb hts iX9_checksum_9 hown hN.1 hP 0 rfl rfl 8 (by decide) (hts _ mX9_checksum_3) (fun _ h9 => h9) rfl dX9_checksum_111 ?_
  refine lv_iconst (v := 3) hx hb dX9_checksum_114 (by decide) ?_
  refine ld_i (v := 0) hx hb hN hP 1 rfl (vin (by decide +kernel)) (by first | rfl | decide +kernel) dX9_checksum_115 ?_
  refine lv_icmp_ge (tgt := 181) hx hb dX9_checksum_116 (by decide) (fun _ => ?_) (fun c9 => absurd (by decide) c9)
  refine lv_iinc (v := 5) (lv' := [(3, .int 5), (4, .int 0), (1, .long 8116224355403263776), (0, .ref a0)]) hx hb dX9_checksum_181 hl (k := 1) rfl (by decide) (by decide) rfl (fun ls hl => ?_)
  refine lv_goto (tgt := 92) hx hb dX9_checksum_184 (by decide) ?_
  refine lv_iload_n hx hb dX9_checksum_92 rfl (lv_at hl 0 rfl) ?_
  refine lv_aload_n hx hb dX9_checksum_93 rfl (lv_at hl 3 rfl) ?_
  refine va_get (D := D) (ci := 9) (v := .ref a1) (C := RX9) (T := TX9) (N := 18) hx hb hts iX9_checksum_9 hown hN.1 hP 0 rfl rfl 8 (by decide) (hts _ mX9_checksum_3) (fun _ h9 => h9) rfl dX9_checksum_94 ?_
  refine lv_iconst (v := 1) hx hb dX9_checksum_97 (by decide) ?_
  refine ld_i (v := 0) hx hb hN hP 1 rfl (vin (by decide +kernel)) (by first | rfl | decide +kernel) dX9_checksum_98 ?_
  refine lv_bipush (v := 9) hx hb dX9_checksum_99 (by decide) ?_
  refine lv_iadd hx hb dX9_checksum_101 ?_
  refine tp_i (9) (by decide) ?_
  refine lv_icmp_gt (tgt := 187) hx hb dX9_checksum_102 (by decide) (fun c9 => absurd c9 (by decide)) (fun _ => ?_)
  refine lv_iconst (v := 0) hx hb dX9_checksum_105 (by decide) ?_
  refine lv_istore (lv' := [(4, .int 0), (3, .int 5), (1, .long 8116224355403263776), (0, .ref a0)]) hx hb dX9_checksum_106 hl (by decide) rfl (fun ls hl => ?_)
  refine lv_iload hx hb dX9_checksum_108 (lv_at hl 0 rfl) ?_
  refine lv_aload_n hx hb dX9_checksum_110 rfl (lv_at hl 3 rfl) ?_
  refine va_get (D := D) (ci := 9) (v := .ref a1) (C := RX9) (T := TX9) (N := 18) hx hb hts iX9_checksum_9 hown hN.1 hP 0 rfl rfl 8 (by decide) (hts _ mX9_checksum_3) (fun _ h9 => h9) rfl dX9_checksum_111 ?_
  refine lv_iconst (v := 3) hx hb dX9_checksum_114 (by decide) ?_
  refine ld_i (v := 0) hx hb hN hP 1 rfl (vin (by decide +kernel)) (by first | rfl | decide +kernel) dX9_checksum_115 ?_
  refine lv_icmp_ge (tgt := 181) hx hb dX9_checksum_116 (by decide) (fun _ => ?_) (fun c9 => absurd (by decide) c9)
  refine lv_iinc (v := 6) (lv' := [(3, .int 6), (4, .int 0), (1, .long 8116224355403263776), (0, .ref a0)]) hx hb dX9_checksum_181 hl (k := 1) rfl (by decide) (by decide) rfl (fun ls hl => ?_)
  refine lv_goto (tgt := 92) hx hb dX9_checksum_184 (by decide) ?_
  refine lv_iload_n hx hb dX9_checksum_92 rfl (lv_at hl 0 rfl) ?_
  refine lv_aload_n hx hb dX9_checksum_93 rfl (lv_at hl 3 rfl) ?_
  refine va_get (D := D) (ci := 9) (v := .ref a1) (C := RX9) (T := TX9) (N := 18) hx hb hts iX9_checksum_9 hown hN.1 hP 0 rfl rfl 8 (by decide) (hts _ mX9_checksum_3) (fun _ h9 => h9) rfl dX9_checksum_94 ?_
  refine lv_iconst (v := 1) hx hb dX9_checksum_97 (by decide) ?_
  refine ld_i (v := 0) hx hb hN hP 1 rfl (vin (by decide +kernel)) (by first | rfl | decide +kernel) dX9_checksum_98 ?_
  refine lv_bipush (v := 9) hx hb dX9_checksum_99 (by decide) ?_
  refine lv_iadd hx hb dX9_checksum_101 ?_
  refine tp_i (9) (by decide) ?_
  refine lv_icmp_gt (tgt := 187) hx hb dX9_checksum_102 (by decide) (fun c9 => absurd c9 (by decide)) (fun _ => ?_)
  refine lv_iconst (v := 0) hx hb dX9_checksum_105 (by decide) ?_
  refine lv_istore (lv' := [(4, .int 0), (3, .int 6), (1, .long 8116224355403263776), (0, .ref a0)]) hx hb dX9_checksum_106 hl (by decide) rfl (fun ls hl => ?_)
  refine lv_iload hx hb dX9_checksum_108 (lv_at hl 0 rfl) ?_
  refine lv_aload_n hx hb dX9_checksum_110 rfl (lv_at hl 3 rfl) ?_
  refine va_get (D := D) (ci := 9) (v := .ref a1) (C := RX9) (T := TX9) (N := 18) hx hb hts iX9_checksum_9 hown hN.1 hP 0 rfl rfl 8 (by decide) (hts _ mX9_checksum_3) (fun _ h9 => h9) rfl dX9_checksum_111 ?_
  refine lv_iconst (v := 3) hx hb dX9_checksum_114 (by decide) ?_
  refine ld_i (v := 0) hx hb hN hP 1 rfl (vin (by decide +kernel)) (by first | rfl | decide +kernel) dX9_checksum_115 ?_
  refine lv_icmp_ge (tgt := 181) hx hb dX9_checksum_116 (by decide) (fun _ => ?_) (fun c9 => absurd (by decide) c9)
  refine lv_iinc (v := 7) (lv' := [(3, .int 7), (4, .int 0), (1, .long 8116224355403263776), (0, .ref a0)]) hx hb dX9_checksum_181 hl (k := 1) rfl (by decide) (by decide) rfl (fun ls hl => ?_)
  refine lv_goto (tgt := 92) hx hb dX9_checksum_184 (by decide) ?_
  refine lv_iload_n hx hb dX9_checksum_92 rfl (lv_at hl 0 rfl) ?_
  refine lv_aload_n hx hb dX9_checksum_93 rfl (lv_at hl 3 rfl) ?_
  refine va_get (D := D) (ci := 9) (v := .ref a1) (C := RX9) (T := TX9) (N := 18) hx hb hts iX9_checksum_9 hown hN.1 hP 0 rfl rfl 8 (by decide) (hts _ mX9_checksum_3) (fun _ h9 => h9) rfl dX9_checksum_94 ?_
  refine lv_iconst (v := 1) hx hb dX9_checksum_97 (by decide) ?_
  refine ld_i (v := 0) hx hb hN hP 1 rfl (vin (by decide +kernel)) (by first | rfl | decide +kernel) dX9_checksum_98 ?_
  refine lv_bipush (v := 9) hx hb dX9_checksum_99 (by decide) ?_
  refine lv_iadd hx hb dX9_checksum_101 ?_
  refine tp_i (9) (by decide) ?_
  refine lv_icmp_gt (tgt := 187) hx hb dX9_checksum_102 (by decide) (fun c9 => absurd c9 (by decide)) (fun _ => ?_)
  refine lv_iconst (v := 0) hx hb dX9_checksum_105 (by decide) ?_
  refine lv_istore (lv' := [(4, .int 0), (3, .int 7), (1, .long 8116224355403263776), (0, .ref a0)]) hx hb dX9_checksum_106 hl (by decide) rfl (fun ls hl => ?_)
  refine lv_iload hx hb dX9_checksum_108 (lv_at hl 0 rfl) ?_
  refine lv_aload_n hx hb dX9_checksum_110 rfl (lv_at hl 3 rfl) ?_
  refine va_get (D := D) (ci := 9) (v := .ref a1) (C := RX9) (T := TX9) (N := 18) hx hb hts iX9_checksum_9 hown hN.1 hP 0 rfl rfl 8 (by decide) (hts _ mX9_checksum_3) (fun _ h9 => h9) rfl dX9_checksum_111 ?_
  refine lv_iconst (v := 3) hx hb dX9_checksum_114 (by decide) ?_
  refine ld_i (v := 0) hx hb hN hP 1 rfl (vin (by decide +kernel)) (by first | rfl | decide +kernel) dX9_checksum_115 ?_
  refine lv_icmp_ge (tgt := 181) hx hb dX9_checksum_116 (by decide) (fun _ => ?_) (fun c9 => absurd (by decide) c9)
  refine lv_iinc (v := 8) (lv' := [(3, .int 8), (4, .int 0), (1, .long 8116224355403263776), (0, .ref a0)]) hx hb dX9_checksum_181 hl (k := 1) rfl (by decide) (by decide) rfl (fun ls hl => ?_)
  refine lv_goto (tgt := 92) hx hb dX9_checksum_184 (by decide) ?_
  refine lv_iload_n hx hb dX9_checksum_92 rfl (lv_at hl 0 rfl) ?_
  refine lv_aload_n hx hb dX9_checksum_93 rfl (lv_at hl 3 rfl) ?_
  refine va_get (D := D) (ci := 9) (v := .ref a1) (C := RX9) (T := TX9) (N := 18) hx hb hts iX9_checksum_9 hown hN.1 hP 0 rfl rfl 8 (by decide) (hts _ mX9_checksum_3) (fun _ h9 => h9) rfl dX9_checksum_94 ?_
  refine lv_iconst (v := 1) hx hb dX9_checksum_97 (by decide) ?_
  refine ld_i (v := 0) hx hb hN hP 1 rfl (vin (by decide +kernel)) (by first | rfl | decide +kernel) dX9_checksum_98 ?_
  refine lv_bipush (v := 9) hx hb dX9_checksum_99 (by decide) ?_
  refine lv_iadd hx hb dX9_checksum_101 ?_
  refine tp_i (9) (by decide) ?_
  refine lv_icmp_gt (tgt := 187) hx hb dX9_checksum_102 (by decide) (fun c9 => absurd c9 (by decide)) (fun _ => ?_)
  refine lv_iconst (v := 0) hx hb dX9_checksum_105 (by decide) ?_
  refine lv_istore (lv' := [(4, .int 0), (3, .int 8), (1, .long 8116224355403263776), (0, .ref a0)]) hx hb dX9_checksum_106 hl (by decide) rfl (fun ls hl => ?_)
  refine lv_iload hx hb dX9_checksum_108 (lv_at hl 0 rfl) ?_
  refine lv_aload_n hx hb dX9_checksum_110 rfl (lv_at hl 3 rfl) ?_
  refine va_get (D := D) (ci := 9) (v := .ref a1) (C := RX9) (T := TX9) (N := 18) hx hb hts iX9_checksum_9 hown hN.1 hP 0 rfl rfl 8 (by decide) (hts _ mX9_checksum_3) (fun _ h9 => h9) rfl dX9_checksum_111 ?_
  refine lv_iconst (v := 3) hx hb dX9_checksum_114 (by decide) ?_
  refine ld_i (v := 0) hx hb hN hP 1 rfl (vin (by decide +kernel)) (by first | rfl | decide +kernel) dX9_checksum_115 ?_
  refine lv_icmp_ge (tgt := 181) hx hb dX9_checksum_116 (by decide) (fun _ => ?_) (fun c9 => absurd (by decide) c9)
  refine lv_iinc (v := 9) (lv' := [(3, .int 9), (4, .int 0), (1, .long 8116224355403263776), (0, .ref a0)]) hx hb dX9_checksum_181 hl (k := 1) rfl (by decide) (by decide) rfl (fun ls hl => ?_)
  refine lv_goto (tgt := 92) hx hb dX9_checksum_184 (by decide) ?_
  refine lv_iload_n hx hb dX9_checksum_92 rfl (lv_at hl 0 rfl) ?_
  refine lv_aload_n hx hb dX9_checksum_93 rfl (lv_at hl 3 rfl) ?_
  refine va_get (D := D) (ci := 9) (v := .ref a1) (C := RX9) (T := TX9) (N := 18) hx hb hts iX9_checksum_9 hown hN.1 hP 0 rfl rfl 8 (by decide) (hts _ mX9_checksum_3) (fun _ h9 => h9) rfl dX9_checksum_94 ?_
  refine lv_iconst (v := 1) hx hb dX9_checksum_97 (by decide) ?_
  refine ld_i (v := 0) hx hb hN hP 1 rfl (vin (by decide +kernel)) (by first | rfl | decide +kernel) dX9_checksum_98 ?_
  refine lv_bipush (v := 9) hx hb dX9_checksum_99 (by decide) ?_
  refine lv_iadd hx hb dX9_checksum_101 ?_
  refine tp_i (9) (by decide) ?_
  refine lv_icmp_gt (tgt := 187) hx hb dX9_checksum_102 (by decide) (fun c9 => absurd c9 (by decide)) (fun _ => ?_)
  refine lv_iconst (v := 0) hx hb dX9_checksum_105 (by decide) ?_
  refine lv_istore (lv' := [(4, .int 0), (3, .int 9), (1, .long 8116224355403263776), (0, .ref a0)]) hx hb dX9_checksum_106 hl (by decide) rfl (fun ls hl => ?_)
  refine lv_iload hx hb dX9_checksum_108 (lv_at hl 0 rfl) ?_
  refine lv_aload_n hx hb dX9_checksum_110 rfl (lv_at hl 3 rfl) ?_
  refine va_get (D := D) (ci := 9) (v := .ref a1) (C := RX9) (T := TX9) (N := 18) hx hb hts iX9_checksum_9 hown hN.1 hP 0 rfl rfl 8 (by decide) (hts _ mX9_checksum_3) (fun _ h9 => h9) rfl dX9_checksum_111 ?_
  refine lv_iconst (v := 3) hx hb dX9_checksum_114 (by decide) ?_
  refine ld_i (v := 0) hx hb hN hP 1 rfl (vin (by decide +kernel)) (by first | rfl | decide +kernel) dX9_checksum_115 ?_
  refine lv_icmp_ge (tgt := 181) hx hb dX9_checksum_116 (by decide) (fun _ => ?_) (fun c9 => absurd (by decide) c9)
  refine lv_iinc (v := 10) (lv' := [(3, .int 10), (4, .int 0), (1, .long 8116224355403263776), (0, .ref a0)]) hx hb dX9_checksum_181 hl (k := 1) rfl (by decide) (by decide) rfl (fun ls hl => ?_)
  refine lv_goto (tgt := 92) hx hb dX9_checksum_184 (by decide) ?_
  refine lv_iload_n hx hb dX9_checksum_92 rfl (lv_at hl 0 rfl) ?_
  refine lv_aload_n hx hb dX9_checksum_93 rfl (lv_at hl 3 rfl) ?_
  refine va_get (D := D) (ci := 9) (v := .ref a1) (C := RX9) (T := TX9) (N := 18) hx hb hts iX9_checksum_9 hown hN.1 hP 0 rfl rfl 8 (by decide) (hts _ mX9_checksum_3) (fun _ h9 => h9) rfl dX9_checksum_94 ?_
  refine lv_iconst (v := 1) hx hb dX9_checksum_97 (by decide) ?_
  refine ld_i (v := 0) hx hb hN hP 1 rfl (vin (by decide +kernel)) (by first | rfl | decide +kernel) dX9_checksum_98 ?_
  refine lv_bipush (v := 9) hx hb dX9_checksum_99 (by decide) ?_
  refine lv_iadd hx hb dX9_checksum_101 ?_
  refine tp_i (9) (by decide) ?_
  refine lv_icmp_gt (tgt := 187) hx hb dX9_checksum_102 (by decide) (fun _ => ?_) (fun c9 => absurd (by decide) c9)
  refine lv_aload_n hx hb dX9_checksum_187 rfl (lv_at hl 3 rfl) ?_
  refine va_get (D := D) (ci := 9) (v := .ref a1) (C := RX9) (T := TX9) (N := 18) hx hb hts iX9_checksum_9 hown hN.1 hP 0 rfl rfl 8 (by decide) (hts _ mX9_checksum_3) (fun _ h9 => h9) rfl dX9_checksum_188 ?_
  refine lv_bipush (v := 6) hx hb dX9_checksum_191 (by decide) ?_
  refine ld_i (v := 0) hx hb hN hP 1 rfl (vin (by decide +kernel)) (by first | rfl | decide +kernel) dX9_checksum_193 ?_
  refine lv_if_ne (tgt := 199) hx hb dX9_checksum_194 (by decide) (fun c9 => absurd (by decide) c9) (fun _ => ?_)
  refine lv_lload_n hx hb dX9_checksum_197 rfl (lv_at hl 2 rfl) ?_
  exact en_l (fun k => ([] : List Nat).getD k 0) hx hb hr hlocks rfl hP hD hS (Nat.le_of_ble_eq_true rfl) (Nat.le_of_ble_eq_true rfl) dX9_checksum_198
theorem hdX8_checksum_v : yX8_checksum.cls = RX8 ∧ yX8_checksum.cls ≠ "java/lang/invoke/MethodHandle" ∧ yX8_checksum.cls ≠ "java/lang/invoke/VarHandle" ∧ (parseMethodDescriptor yX8_checksum.desc).map (fun d => d.parameters.length) = some 0 := by decide +kernel
theorem hdX9_checksum_v : yX9_checksum.cls = RX9 ∧ yX9_checksum.cls ≠ "java/lang/invoke/MethodHandle" ∧ yX9_checksum.cls ≠ "java/lang/invoke/VarHandle" ∧ (parseMethodDescriptor yX9_checksum.desc).map (fun d => d.parameters.length) = some 0 := by decide +kernel
set_option maxHeartbeats 4000000 in
set_option maxRecDepth 100000 in
theorem law_19 {p : Program} {l : Launch} {e : Env} {s : State} {m : MethodId} {args : Array Value} {below : List Frame} {meth : Method} {c : Code} {Q : State → Prop} {D : va_G} {cs : Nat → ClassId} {A : Nat → Prop} {xs : Nat → Int32} {b : Nat} (hx : p.tables.exec = Jvm.exec) (hb : c.code = cL_law) (hml : c.maxLocals = 9) (hown : s.vm.findClass RL = some m.cls) (hts : ∀ w ∈ wsL_law, w.before args s = true) (hN : NK D cs s) (hX : va_X b 6 xs s s.heap) (hbl : b < s.heap.size) (hbA : ¬ A b) (hA : ∀ q : Nat, s.heap.size ≤ q → A q) (hZ : ZX A s s.heap) (hZS : ZS cs A s s.heap) (hlt : l.stackTraces = false)
    (kend : ∀ (H : Heap) (locs : List Loc) (ls : Array Slot), va_S A s.heap H locs → lv_has ls 9 [(0, .ref b), (4, .int 0)] → W p l e room_1 s m args below meth c H locs 600002 7302232 Q (F0 m 1169 ls []))
    (a0 a1 a2 a3 a4 a5 a6 a7 a8 a9 a10 a11 a12 a13 a14 a15 a16 a17 a18 a19 a20 a21 a22 a23 a24 a25 a26 a27 a28 a29 a30 a31 a32 : Nat)   (H : Heap) (locs : List Loc) (ls : Array Slot) (hP : va_P D vwCl [(a0, .inr (8, [.ref a11, .ref a5, .ref a12, .ref a13, .int 0, .int 0, .int (-1)])), (a1, .inl (cs 0, 8, .inl (fun _ => 0))), (a2, .inl (cs 0, 8, .inl (fun _ => 0))), (a3, .inl (cs 0, 64, .inl (fun _ => 0))), (a4, .inr (6, [.int 1, .int 1, .int 50, .null, .ref a14, .ref a1, .ref a2, .ref a3])), (a5, .inr (7, [.ref a4, .ref a6, .ref a8, .ref a15, .ref a16, .ref a17, .long 0, .int 0, .int 0, .int 0, .int 0, .int 0, .int 0, .int 0, .int 0, .int 0])), (a6, .inl (cs 4, 8, .inr (.inr (.inr (.inr (va_up (va_up (va_up (va_up (va_up (va_up (va_up (va_up (fun _ => none) 0 (some a7)) 1 (some a18)) 2 (some a19)) 3 (some a20)) 4 (some a21)) 5 (some a22)) 6 (some a23)) 7 (some a24))))))), (a7, .inr (3, [.int 1, .int 0, .int 0, .int 0, .int (-1), .int 0, .int 0, .int 0, .int 0, .int (-1)])), (a8, .inr (2, [.ref a25, .ref a26, .int 0])), (a9, .inr (9, [.int 0, .ref a27, .int 0, .int 0, .int 0, .int 0, .int 0, .int (-1), .ref a10, .ref a28, .ref a29, .ref a30, .int 0, .int 0, .int 0, .int 0, .int 0, .ref a31])), (a10, .inl (cs 0, 45783, .inl (layF (fun _ => 0) 1)))] H) (hD : va_D A [(a0, .inr (8, [.ref a11, .ref a5, .ref a12, .ref a13, .int 0, .int 0, .int (-1)])), (a1, .inl (cs 0, 8, .inl (fun _ => 0))), (a2, .inl (cs 0, 8, .inl (fun _ => 0))), (a3, .inl (cs 0, 64, .inl (fun _ => 0))), (a4, .inr (6, [.int 1, .int 1, .int 50, .null, .ref a14, .ref a1, .ref a2, .ref a3])), (a5, .inr (7, [.ref a4, .ref a6, .ref a8, .ref a15, .ref a16, .ref a17, .long 0, .int 0, .int 0, .int 0, .int 0, .int 0, .int 0, .int 0, .int 0, .int 0])), (a6, .inl (cs 4, 8, .inr (.inr (.inr (.inr (va_up (va_up (va_up (va_up (va_up (va_up (va_up (va_up (fun _ => none) 0 (some a7)) 1 (some a18)) 2 (some a19)) 3 (some a20)) 4 (some a21)) 5 (some a22)) 6 (some a23)) 7 (some a24))))))), (a7, .inr (3, [.int 1, .int 0, .int 0, .int 0, .int (-1), .int 0, .int 0, .int 0, .int 0, .int (-1)])), (a8, .inr (2, [.ref a25, .ref a26, .int 0])), (a9, .inr (9, [.int 0, .ref a27, .int 0, .int 0, .int 0, .int 0, .int 0, .int (-1), .ref a10, .ref a28, .ref a29, .ref a30, .int 0, .int 0, .int 0, .int 0, .int 0, .ref a31])), (a10, .inl (cs 0, 45783, .inl (layF (fun _ => 0) 1)))]) (hS : va_S A s.heap H locs) (hl : lv_has ls 9 [(4, .int 0), (3, .ref a32), (2, .ref a9), (1, .ref a0), (0, .ref b)]) : W p l e room_1 s m args below meth c H locs 391 467079 Q (F0 m 1155 ls []) := by
  refine lv_aload_n hx hb dL_law_1155 rfl (lv_at hl 3 rfl) ?_
  refine cv_l (As := []) (rest := []) (b := a0) (wr := [(a9, .inr (9, [.int 0, .ref a27, .int 0, .int 0, .int 0, .int 0, .int 0, .int (-1), .ref a10, .ref a28, .ref a29, .ref a30, .int 0, .int 0, .int 0, .int 0, .int 0, .ref a31])), (a10, .inl (cs 0, 45783, .inl (layF (fun _ => 0) 1)))]) ⟨hx, hb, hml, hown, hts⟩ (fun sz => k627_X8_checksum l D cs sz a0 a5 a4 a8 a6 a7 a3 a1 a2 a11 a12 a13 a15 a16 a17 a14 a25 a26 a18 a19 a20 a21 a22 a23 a24) (cwV 0 hts gL_law_X8_checksum rfl rfl rfl hdX8_checksum_v ⟨Nat.le_of_ble_eq_true rfl, Nat.le_of_ble_eq_true rfl⟩) hN hP hD hS hA [0, 5, 4, 8, 6, 7, 3, 1, 2] [9, 10] rfl rfl rfl rfl (by decide) (ci := 8) (q0 := 0) rfl rfl rfl rfl hl.1 (Nat.le_of_ble_eq_true rfl) dL_law_1156 (Nat.le_of_ble_eq_true rfl) (Nat.le_of_ble_eq_true rfl) (fun u0 H locs hP hD hS => ?_)
  have hP : va_P D vwCl [(a9, .inr (9, [.int 0, .ref a27, .int 0, .int 0, .int 0, .int 0, .int 0, .int (-1), .ref a10, .ref a28, .ref a29, .ref a30, .int 0, .int 0, .int 0, .int 0, .int 0, .ref a31])), (a10, .inl (cs 0, 45783, .inl (layF (fun _ => 0) 1))), (a0, .inr (8, [.ref a11, .ref a5, .ref a12, .ref a13, .int 0, .int 0, .int (-1)])), (a8, .inr (2, [.ref a25, .ref a26, .int 0])), (a3, .inl (cs 0, 64, .inl (fun _ => 0))), (a7, .inr (3, [.int 1, .int 0, .int 0, .int 0, .int (-1), .int 0, .int 0, .int 0, .int 0, .int (-1)])), (a6, .inl (cs 4, 8, .inr (.inr (.inr (.inr (va_up (va_up (va_up (va_up (va_up (va_up (va_up (va_up (fun _ => none) 0 (some a7)) 1 (some a18)) 2 (some a19)) 3 (some a20)) 4 (some a21)) 5 (some a22)) 6 (some a23)) 7 (some a24))))))), (a5, .inr (7, [.ref a4, .ref a6, .ref a8, .ref a15, .ref a16, .ref a17, .long 0, .int 0, .int 0, .int 0, .int 0, .int 0, .int 0, .int 0, .int 0, .int 0])), (a4, .inr (6, [.int 1, .int 1, .int 50, .null, .ref a14, .ref a1, .ref a2, .ref a3])), (a1, .inl (cs 0, 8, .inl (fun _ => 0))), (a2, .inl (cs 0, 8, .inl (fun _ => 0)))] H := hP
  have hD : va_D A [(a9, .inr (9, [.int 0, .ref a27, .int 0, .int 0, .int 0, .int 0, .int 0, .int (-1), .ref a10, .ref a28, .ref a29, .ref a30, .int 0, .int 0, .int 0, .int 0, .int 0, .ref a31])), (a10, .inl (cs 0, 45783, .inl (layF (fun _ => 0) 1))), (a0, .inr (8, [.ref a11, .ref a5, .ref a12, .ref a13, .int 0, .int 0, .int (-1)])), (a8, .inr (2, [.ref a25, .ref a26, .int 0])), (a3, .inl (cs 0, 64, .inl (fun _ => 0))), (a7, .inr (3, [.int 1, .int 0, .int 0, .int 0, .int (-1), .int 0, .int 0, .int 0, .int 0, .int (-1)])), (a6, .inl (cs 4, 8, .inr (.inr (.inr (.inr (va_up (va_up (va_up (va_up (va_up (va_up (va_up (va_up (fun _ => none) 0 (some a7)) 1 (some a18)) 2 (some a19)) 3 (some a20)) 4 (some a21)) 5 (some a22)) 6 (some a23)) 7 (some a24))))))), (a5, .inr (7, [.ref a4, .ref a6, .ref a8, .ref a15, .ref a16, .ref a17, .long 0, .int 0, .int 0, .int 0, .int 0, .int 0, .int 0, .int 0, .int 0, .int 0])), (a4, .inr (6, [.int 1, .int 1, .int 50, .null, .ref a14, .ref a1, .ref a2, .ref a3])), (a1, .inl (cs 0, 8, .inl (fun _ => 0))), (a2, .inl (cs 0, 8, .inl (fun _ => 0)))] := hD
  refine W.widen (k := 391) (n := 467079) (Nat.le_of_ble_eq_true rfl) (Nat.le_of_ble_eq_true rfl) ?_
  refine lv_aload_n hx hb dL_law_1159 rfl (lv_at hl 2 rfl) ?_
  refine cv_l (As := []) (rest := [.long 8116224355403263776]) (b := a9) (wr := [(a0, .inr (8, [.ref a11, .ref a5, .ref a12, .ref a13, .int 0, .int 0, .int (-1)])), (a8, .inr (2, [.ref a25, .ref a26, .int 0])), (a3, .inl (cs 0, 64, .inl (fun _ => 0))), (a7, .inr (3, [.int 1, .int 0, .int 0, .int 0, .int (-1), .int 0, .int 0, .int 0, .int 0, .int (-1)])), (a6, .inl (cs 4, 8, .inr (.inr (.inr (.inr (va_up (va_up (va_up (va_up (va_up (va_up (va_up (va_up (fun _ => none) 0 (some a7)) 1 (some a18)) 2 (some a19)) 3 (some a20)) 4 (some a21)) 5 (some a22)) 6 (some a23)) 7 (some a24))))))), (a5, .inr (7, [.ref a4, .ref a6, .ref a8, .ref a15, .ref a16, .ref a17, .long 0, .int 0, .int 0, .int 0, .int 0, .int 0, .int 0, .int 0, .int 0, .int 0])), (a4, .inr (6, [.int 1, .int 1, .int 50, .null, .ref a14, .ref a1, .ref a2, .ref a3])), (a1, .inl (cs 0, 8, .inl (fun _ => 0))), (a2, .inl (cs 0, 8, .inl (fun _ => 0)))]) ⟨hx, hb, hml, hown, hts⟩ (fun sz => k628_X9_checksum l D cs sz a9 a10 a27 a28 a29 a30 a31) (cwV 0 hts gL_law_X9_checksum rfl rfl rfl hdX9_checksum_v ⟨Nat.le_of_ble_eq_true rfl, Nat.le_of_ble_eq_true rfl⟩) hN hP hD hS hA [0, 1] [2, 3, 4, 5, 6, 7, 8, 9, 10] rfl rfl rfl rfl (by decide) (ci := 9) (q0 := 0) rfl rfl rfl rfl hl.1 (Nat.le_of_ble_eq_true rfl) dL_law_1160 (Nat.le_of_ble_eq_true rfl) (Nat.le_of_ble_eq_true rfl) (fun u1 H locs hP hD hS => ?_)
  have hP : va_P D vwCl [(a0, .inr (8, [.ref a11, .ref a5, .ref a12, .ref a13, .int 0, .int 0, .int (-1)])), (a8, .inr (2, [.ref a25, .ref a26, .int 0])), (a3, .inl (cs 0, 64, .inl (fun _ => 0))), (a7, .inr (3, [.int 1, .int 0, .int 0, .int 0, .int (-1), .int 0, .int 0, .int 0, .int 0, .int (-1)])), (a6, .inl (cs 4, 8, .inr (.inr (.inr (.inr (va_up (va_up (va_up (va_up (va_up (va_up (va_up (va_up (fun _ => none) 0 (some a7)) 1 (some a18)) 2 (some a19)) 3 (some a20)) 4 (some a21)) 5 (some a22)) 6 (some a23)) 7 (some a24))))))), (a5, .inr (7, [.ref a4, .ref a6, .ref a8, .ref a15, .ref a16, .ref a17, .long 0, .int 0, .int 0, .int 0, .int 0, .int 0, .int 0, .int 0, .int 0, .int 0])), (a4, .inr (6, [.int 1, .int 1, .int 50, .null, .ref a14, .ref a1, .ref a2, .ref a3])), (a1, .inl (cs 0, 8, .inl (fun _ => 0))), (a2, .inl (cs 0, 8, .inl (fun _ => 0))), (a9, .inr (9, [.int 0, .ref a27, .int 0, .int 0, .int 0, .int 0, .int 0, .int (-1), .ref a10, .ref a28, .ref a29, .ref a30, .int 0, .int 0, .int 0, .int 0, .int 0, .ref a31])), (a10, .inl (cs 0, 45783, .inl (layF (fun _ => 0) 1)))] H := hP
  have hD : va_D A [(a0, .inr (8, [.ref a11, .ref a5, .ref a12, .ref a13, .int 0, .int 0, .int (-1)])), (a8, .inr (2, [.ref a25, .ref a26, .int 0])), (a3, .inl (cs 0, 64, .inl (fun _ => 0))), (a7, .inr (3, [.int 1, .int 0, .int 0, .int 0, .int (-1), .int 0, .int 0, .int 0, .int 0, .int (-1)])), (a6, .inl (cs 4, 8, .inr (.inr (.inr (.inr (va_up (va_up (va_up (va_up (va_up (va_up (va_up (va_up (fun _ => none) 0 (some a7)) 1 (some a18)) 2 (some a19)) 3 (some a20)) 4 (some a21)) 5 (some a22)) 6 (some a23)) 7 (some a24))))))), (a5, .inr (7, [.ref a4, .ref a6, .ref a8, .ref a15, .ref a16, .ref a17, .long 0, .int 0, .int 0, .int 0, .int 0, .int 0, .int 0, .int 0, .int 0, .int 0])), (a4, .inr (6, [.int 1, .int 1, .int 50, .null, .ref a14, .ref a1, .ref a2, .ref a3])), (a1, .inl (cs 0, 8, .inl (fun _ => 0))), (a2, .inl (cs 0, 8, .inl (fun _ => 0))), (a9, .inr (9, [.int 0, .ref a27, .int 0, .int 0, .int 0, .int 0, .int 0, .int (-1), .ref a10, .ref a28, .ref a29, .ref a30, .int 0, .int 0, .int 0, .int 0, .int 0, .ref a31])), (a10, .inl (cs 0, 45783, .inl (layF (fun _ => 0) 1)))] := hD
  refine W.widen (k := 391) (n := 467079) (Nat.le_of_ble_eq_true rfl) (Nat.le_of_ble_eq_true rfl) ?_
  refine W.lcmp hx hb dL_law_1163 ?_
  refine tp_i (0) (by decide) ?_
  refine lv_if_eq (tgt := 1169) hx hb dL_law_1164 (by decide) (fun _ => ?_) (fun c9 => absurd (by decide) c9)
  refine W.widen (k := 600002) (n := 7302232) (Nat.le_of_ble_eq_true rfl) (Nat.le_of_ble_eq_true rfl) ?_
  exact kend _ _ _ hS (lv_sub hl [4, 0] rfl)

theorem iL_law_8 : ∀ w ∈ wsX80, w ∈ wsL_law := fun w h => List.mem_of_mem_drop (List.mem_of_mem_take ((show wsX80 = (wsL_law.drop 1065).take 7 by decide +kernel) ▸ h))
theorem df8 : ∀ j, j < 7 → defaultValue (tyX8 j) = vp_V [.null, .null, .null, .null, .int 0, .int 0, .int 0] j := by
  intro j hj
  rcases (show j = 0 ∨ j = 1 ∨ j = 2 ∨ j = 3 ∨ j = 4 ∨ j = 5 ∨ j = 6 by omega) with rfl | rfl | rfl | rfl | rfl | rfl | rfl <;> rfl
theorem mL_law_0 : (.classLink RL 8 RX8 : Cond) ∈ wsL_law := List.mem_of_getElem? (i := 0) (by decide +kernel)
theorem mL_law_1 : (.instantiable RX8 7 : Cond) ∈ wsL_law := List.mem_of_getElem? (i := 1) (by decide +kernel)
theorem mL_law_2 : (.initialized RX8 : Cond) ∈ wsL_law := List.mem_of_getElem? (i := 2) (by decide +kernel)
theorem iL_law_9 : ∀ w ∈ wsX90, w ∈ wsL_law := fun w h => List.mem_of_mem_drop (List.mem_of_mem_take ((show wsX90 = (wsL_law.drop 1072).take 18 by decide +kernel) ▸ h))
theorem df9 : ∀ j, j < 18 → defaultValue (tyX9 j) = vp_V [.int 0, .null, .int 0, .int 0, .int 0, .int 0, .int 0, .int 0, .null, .null, .null, .null, .int 0, .int 0, .int 0, .int 0, .int 0, .null] j := by
  intro j hj
  rcases (show j = 0 ∨ j = 1 ∨ j = 2 ∨ j = 3 ∨ j = 4 ∨ j = 5 ∨ j = 6 ∨ j = 7 ∨ j = 8 ∨ j = 9 ∨ j = 10 ∨ j = 11 ∨ j = 12 ∨ j = 13 ∨ j = 14 ∨ j = 15 ∨ j = 16 ∨ j = 17 by omega) with rfl | rfl | rfl | rfl | rfl | rfl | rfl | rfl | rfl | rfl | rfl | rfl | rfl | rfl | rfl | rfl | rfl | rfl <;> rfl
theorem mL_law_3 : (.classLink RL 62 RX9 : Cond) ∈ wsL_law := List.mem_of_getElem? (i := 3) (by decide +kernel)
theorem mL_law_4 : (.instantiable RX9 18 : Cond) ∈ wsL_law := List.mem_of_getElem? (i := 4) (by decide +kernel)
theorem mL_law_5 : (.initialized RX9 : Cond) ∈ wsL_law := List.mem_of_getElem? (i := 5) (by decide +kernel)
theorem mL_law_6 : (.arrayClass .long : Cond) ∈ wsL_law := List.mem_of_getElem? (i := 6) (by decide +kernel)
theorem mL_law_8 : (.instanceMethod yX8_init : Cond) ∈ wsL_law := List.mem_of_getElem? (i := 8) (by decide +kernel)
theorem mL_law_7 : (.methodLink RL 61 yX8_init : Cond) ∈ wsL_law := List.mem_of_getElem? (i := 7) (by decide +kernel)
theorem hdX8_init_o : yX8_init.cls ≠ "java/lang/invoke/MethodHandle" ∧ yX8_init.cls ≠ "java/lang/invoke/VarHandle" ∧ (parseMethodDescriptor yX8_init.desc).map (fun d => d.parameters.length) = some 0 := by decide +kernel
theorem mL_law_133 : (.instanceMethod yX9_init : Cond) ∈ wsL_law := List.mem_of_getElem? (i := 133) (by decide +kernel)
theorem mL_law_132 : (.methodLink RL 64 yX9_init : Cond) ∈ wsL_law := List.mem_of_getElem? (i := 132) (by decide +kernel)
theorem hdX9_init_o : yX9_init.cls ≠ "java/lang/invoke/MethodHandle" ∧ yX9_init.cls ≠ "java/lang/invoke/VarHandle" ∧ (parseMethodDescriptor yX9_init.desc).map (fun d => d.parameters.length) = some 0 := by decide +kernel
