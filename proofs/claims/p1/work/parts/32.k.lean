set_option maxHeartbeats 4000000 in
set_option maxRecDepth 100000 in
theorem law_15_nf {p : Program} {l : Launch} {e : Env} {s : State} {m : MethodId} {args : Array Value} {below : List Frame} {meth : Method} {c : Code} {Q : State → Prop} {D : va_G} {cs : Nat → ClassId} {A : Nat → Prop} {xs : Nat → Int32} {b : Nat} (hx : p.tables.exec = Jvm.exec) (hb : c.code = cL_law) (hml : c.maxLocals = 9) (hown : s.vm.findClass RL = some m.cls) (hts : ∀ w ∈ wsL_law, w.before args s = true) (hN : NK D cs s) (hX : va_X b 6 xs s s.heap) (hbl : b < s.heap.size) (hbA : ¬ A b) (hA : ∀ q : Nat, s.heap.size ≤ q → A q) (hZ : ZX A s s.heap) (hZS : ZS cs A s s.heap) (hlt : l.stackTraces = false)
    (kend : ∀ (H : Heap) (locs : List Loc) (ls : Array Slot), va_S A s.heap H locs → lv_has ls 9 [(0, .ref b), (4, .int 0)] → W p l e room_1 s m args below meth c H locs 600002 7302232 Q (F0 m 1169 ls []))
    (a0 a1 a2 a3 a4 a5 a6 a7 a8 a9 a10 a11 a12 : Nat) (y1 : Int32) (hy1 : xs 1 = (y1)) (hy2 : xs 2 = (0)) (g1_2 : y1 < 0) (H : Heap) (locs : List Loc) (ls : Array Slot) (hP : va_P D vwCl [(a0, .inr (8, [.ref a3, .ref a4, .ref a5, .ref a6, .int 0, .int 0, .int (-1)])), (a1, .inr (9, [.int 0, .ref a7, .int 0, .int 0, .int 0, .int 0, .int 0, .int (-1), .ref a2, .ref a8, .ref a9, .ref a10, .int 0, .int 0, .int 0, .int 0, .int 0, .ref a11])), (a2, .inl (cs 0, 45783, .inl (layF (fun _ => 0) 1)))] H) (hD : va_D A [(a0, .inr (8, [.ref a3, .ref a4, .ref a5, .ref a6, .int 0, .int 0, .int (-1)])), (a1, .inr (9, [.int 0, .ref a7, .int 0, .int 0, .int 0, .int 0, .int 0, .int (-1), .ref a2, .ref a8, .ref a9, .ref a10, .int 0, .int 0, .int 0, .int 0, .int 0, .ref a11])), (a2, .inl (cs 0, 45783, .inl (layF (fun _ => 0) 1)))]) (hS : va_S A s.heap H locs) (hl : lv_has ls 9 [(4, .int 0), (3, .ref a12), (2, .ref a1), (1, .ref a0), (0, .ref b)]) : W p l e room_1 s m args below meth c H locs 391 467079 Q (F0 m 892 ls []) := by
  refine lv_aload_n hx hb dL_law_892 rfl (lv_at hl 3 rfl) ?_
  refine lv_aload_n hx hb dL_law_893 rfl (lv_at hl 4 rfl) ?_
  refine lv_iload hx hb dL_law_894 (lv_at hl 0 rfl) ?_
  refine lv_iconst (v := 1) hx hb dL_law_896 (by decide) ?_
  refine lv_iadd hx hb dL_law_897 ?_
  refine tp_i (1) (by decide) ?_
  refine va_sld hx hb hX hbl hbA hS (vin (by decide +kernel)) dL_law_898 ?_
  refine tp_i (y1) hy1 ?_
  refine lv_aload_n hx hb dL_law_899 rfl (lv_at hl 4 rfl) ?_
  refine lv_iload hx hb dL_law_900 (lv_at hl 0 rfl) ?_
  refine lv_iconst (v := 2) hx hb dL_law_902 (by decide) ?_
  refine lv_iadd hx hb dL_law_903 ?_
  refine tp_i (2) (by decide) ?_
  refine va_sld hx hb hX hbl hbA hS (vin (by decide +kernel)) dL_law_904 ?_
  refine tp_i (0) hy2 ?_
  refine lv_if_eq (tgt := 912) hx hb dL_law_905 (by decide) (fun _ => ?_) (fun c9 => absurd (by decide) c9)
  refine lv_iconst (v := 0) hx hb dL_law_912 (by decide) ?_
  refine lv_aload_n hx hb dL_law_913 rfl (lv_at hl 1 rfl) ?_
  refine ch_i (As := [.ref a0, .int y1, .int 0, .ref a12]) (rest := []) (wr := [(a1, .inr (9, [.int 0, .ref a7, .int 0, .int 0, .int 0, .int 0, .int 0, .int (-1), .ref a2, .ref a8, .ref a9, .ref a10, .int 0, .int 0, .int 0, .int 0, .int 0, .ref a11])), (a2, .inl (cs 0, 45783, .inl (layF (fun _ => 0) 1)))]) ⟨hx, hb, hml, hown, hts⟩ (fun sz => k551_L_power l D cs sz hlt a0 a12 a3 a4 a5 a6 (y1) g1_2) (vx_cwSW 4 hts gL_law_L_power rfl rfl rfl hdL_power_o ⟨Nat.le_of_ble_eq_true rfl, Nat.le_of_ble_eq_true rfl⟩) hN hP hD hS hA hZ [0] [1, 2] rfl rfl rfl rfl (by decide) rfl rfl hl.1 (Nat.le_of_ble_eq_true rfl) dL_law_914 (Nat.le_of_ble_eq_true rfl) (Nat.le_of_ble_eq_true rfl) (fun u0 H locs hP hD hS => ?_)
  have hP : va_P D vwCl [(a1, .inr (9, [.int 0, .ref a7, .int 0, .int 0, .int 0, .int 0, .int 0, .int (-1), .ref a2, .ref a8, .ref a9, .ref a10, .int 0, .int 0, .int 0, .int 0, .int 0, .ref a11])), (a2, .inl (cs 0, 45783, .inl (layF (fun _ => 0) 1)))] H := hP
  have hD : va_D A [(a1, .inr (9, [.int 0, .ref a7, .int 0, .int 0, .int 0, .int 0, .int 0, .int (-1), .ref a2, .ref a8, .ref a9, .ref a10, .int 0, .int 0, .int 0, .int 0, .int 0, .ref a11])), (a2, .inl (cs 0, 45783, .inl (layF (fun _ => 0) 1)))] := hD
  refine W.widen (k := 392) (n := 467085) (Nat.le_of_ble_eq_true rfl) (Nat.le_of_ble_eq_true rfl) ?_
  refine lv_istore (lv' := [(5, .int 1), (4, .int 0), (3, .ref a12), (2, .ref a1), (1, .ref a0), (0, .ref b)]) hx hb dL_law_917 hl (by decide) rfl (fun ls hl => ?_)
  refine lv_aload_n hx hb dL_law_919 rfl (lv_at hl 3 rfl) ?_
  refine lv_aload_n hx hb dL_law_920 rfl (lv_at hl 5 rfl) ?_
  refine lv_iload hx hb dL_law_921 (lv_at hl 1 rfl) ?_
  refine lv_iconst (v := 1) hx hb dL_law_923 (by decide) ?_
  refine lv_iadd hx hb dL_law_924 ?_
  refine tp_i (1) (by decide) ?_
  refine va_sld hx hb hX hbl hbA hS (vin (by decide +kernel)) dL_law_925 ?_
  refine tp_i (y1) hy1 ?_
  refine lv_aload_n hx hb dL_law_926 rfl (lv_at hl 5 rfl) ?_
  refine lv_iload hx hb dL_law_927 (lv_at hl 1 rfl) ?_
  refine lv_iconst (v := 2) hx hb dL_law_929 (by decide) ?_
  refine lv_iadd hx hb dL_law_930 ?_
  refine tp_i (2) (by decide) ?_
  refine va_sld hx hb hX hbl hbA hS (vin (by decide +kernel)) dL_law_931 ?_
  refine tp_i (0) hy2 ?_
  refine lv_if_eq (tgt := 939) hx hb dL_law_932 (by decide) (fun _ => ?_) (fun c9 => absurd (by decide) c9)
  refine lv_iconst (v := 0) hx hb dL_law_939 (by decide) ?_
  refine cv_i (As := [.int y1, .int 0]) (rest := []) (b := a1) (wr := []) ⟨hx, hb, hml, hown, hts⟩ (fun sz => k552_X9_power l D cs sz a1 a2 a7 a8 a9 a10 a11 (y1) g1_2) (cwV 2 hts gL_law_X9_power rfl rfl rfl hdX9_power_v ⟨Nat.le_of_ble_eq_true rfl, Nat.le_of_ble_eq_true rfl⟩) hN hP hD hS hA [0, 1] [] rfl rfl rfl rfl (by decide) (ci := 9) (q0 := 0) rfl rfl rfl rfl hl.1 (Nat.le_of_ble_eq_true rfl) dL_law_940 (Nat.le_of_ble_eq_true rfl) (Nat.le_of_ble_eq_true rfl) (fun u1 H locs hP hD hS => ?_)
  have hP : va_P D vwCl [(a2, .inl (cs 0, 45783, .inl (layF (fun _ => 0) 1))), (a1, .inr (9, [.int 1, .ref a7, .int 0, .int 0, .int 0, .int 0, .int 0, .int (-1), .ref a2, .ref a8, .ref a9, .ref a10, .int 0, .int 0, .int 0, .int 0, .int 0, .ref a11]))] H := hP
  have hD : va_D A [(a2, .inl (cs 0, 45783, .inl (layF (fun _ => 0) 1))), (a1, .inr (9, [.int 1, .ref a7, .int 0, .int 0, .int 0, .int 0, .int 0, .int (-1), .ref a2, .ref a8, .ref a9, .ref a10, .int 0, .int 0, .int 0, .int 0, .int 0, .ref a11]))] := hD
  refine W.widen (k := 392) (n := 467085) (Nat.le_of_ble_eq_true rfl) (Nat.le_of_ble_eq_true rfl) ?_
  refine lv_istore (lv' := [(6, .int 0), (5, .int 1), (4, .int 0), (3, .ref a12), (2, .ref a1), (1, .ref a0), (0, .ref b)]) hx hb dL_law_943 hl (by decide) rfl (fun ls hl => ?_)
  refine lv_aload_n hx hb dL_law_945 rfl (lv_at hl 4 rfl) ?_
  refine cv_i (As := []) (rest := []) (b := a1) (wr := [(a2, .inl (cs 0, 45783, .inl (layF (fun _ => 0) 1)))]) ⟨hx, hb, hml, hown, hts⟩ (fun sz => k158_X9_thrown l D cs sz a1 a7 a2 a8 a9 a10 a11) (cwV 0 hts gL_law_X9_thrown rfl rfl rfl hdX9_thrown_v ⟨Nat.le_of_ble_eq_true rfl, Nat.le_of_ble_eq_true rfl⟩) hN hP hD hS hA [1] [0] rfl rfl rfl rfl (by decide) (ci := 9) (q0 := 0) rfl rfl rfl rfl hl.1 (Nat.le_of_ble_eq_true rfl) dL_law_946 (Nat.le_of_ble_eq_true rfl) (Nat.le_of_ble_eq_true rfl) (fun u2 H locs hP hD hS => ?_)
  have hP : va_P D vwCl [(a2, .inl (cs 0, 45783, .inl (layF (fun _ => 0) 1))), (a1, .inr (9, [.int 1, .ref a7, .int 0, .int 0, .int 0, .int 0, .int 0, .int (-1), .ref a2, .ref a8, .ref a9, .ref a10, .int 0, .int 0, .int 0, .int 0, .int 0, .ref a11]))] H := hP
  have hD : va_D A [(a2, .inl (cs 0, 45783, .inl (layF (fun _ => 0) 1))), (a1, .inr (9, [.int 1, .ref a7, .int 0, .int 0, .int 0, .int 0, .int 0, .int (-1), .ref a2, .ref a8, .ref a9, .ref a10, .int 0, .int 0, .int 0, .int 0, .int 0, .ref a11]))] := hD
  refine W.widen (k := 392) (n := 467085) (Nat.le_of_ble_eq_true rfl) (Nat.le_of_ble_eq_true rfl) ?_
  refine lv_iload hx hb dL_law_949 (lv_at hl 1 rfl) ?_
  refine lv_icmp_eq (tgt := 956) hx hb dL_law_951 (by decide) (fun _ => ?_) (fun c9 => absurd (by decide) c9)
  refine lv_iload hx hb dL_law_956 (lv_at hl 1 rfl) ?_
  refine lv_if_ne (tgt := 980) hx hb dL_law_958 (by decide) (fun _ => ?_) (fun c9 => absurd c9 (by decide))
  refine lv_goto (tgt := 1169) hx hb dL_law_980 (by decide) ?_
  refine W.widen (k := 600002) (n := 7302232) (Nat.le_of_ble_eq_true rfl) (Nat.le_of_ble_eq_true rfl) ?_
  exact kend _ _ _ hS (lv_sub hl [6, 2] rfl)

set_option maxHeartbeats 4000000 in
set_option maxRecDepth 100000 in
theorem k553_X8_power (l : Launch) (D : va_G) (cs : Nat → ClassId) (sz : Nat) (hlt : l.stackTraces = false) (a0 a1 a2 a3 a4 a5 a6 a7 a8 a9 a10 a11 a12 a13 a14 : Nat) (x0 : Int32) (hf0 : ¬ x0 < 0) (hf1 : ¬ x0 < 1) : KX l yX8_power wsX8_power 7 121 1 6 D cs sz [.ref a0, .int x0, .int 0] [(a0, .inr (8, [.ref a3, .ref a1, .ref a4, .ref a5, .int 0, .int 0, .int (-1)])), (a1, .inr (7, [.ref a2, .ref a6, .ref a7, .ref a8, .ref a9, .ref a10, .long 0, .int 0, .int 0, .int 0, .int 0, .int 0, .int 0, .int 0, .int 0, .int 0])), (a2, .inr (6, [.int 1, .int 1, .int 50, .null, .ref a11, .ref a12, .ref a13, .ref a14]))] QnI "java/lang/IndexOutOfBoundsException" := by
  refine KX.of cX8_power 3 (some .boolean) (by decide) rfl (Nat.le_of_ble_eq_true rfl) ?_
  intro p e s m below meth c A ls hx hb hr hml hown hts hlocks hnx hP hN hD hA hS hl hZ
  have hown : s.vm.findClass RX8 = some m.cls := hown
  have hl : lv_has ls 3 [(0, .ref a0), (1, .int x0), (2, .int 0)] := hl
  refine lv_aload_n hx hb dX8_power_0 rfl (lv_at hl 0 rfl) ?_
  refine lv_iload_n hx hb dX8_power_1 rfl (lv_at hl 1 rfl) ?_
  exact xp_v (As := [.int x0]) (rest := []) (b := a0) ⟨hx, hb, hml, hown, hts⟩ (fun sz => k271_X8_refuseNoPlayer l D cs sz hlt a0 a1 a2 a3 a4 a5 a6 a7 a8 a9 a10 a11 a12 a13 a14 (x0) hf0 hf1) (cwV 1 hts gX8_power_X8_refuseNoPlayer rfl rfl rfl hdX8_refuseNoPlayer_v ⟨Nat.le_of_ble_eq_true rfl, Nat.le_of_ble_eq_true rfl⟩) hN hP hD hS hA hZ [0, 1, 2] rfl rfl (ci := 8) (q0 := 0) rfl rfl rfl rfl hl.1 (Nat.le_of_ble_eq_true rfl) dX8_power_2 (Nat.le_of_ble_eq_true rfl) (Nat.le_of_ble_eq_true rfl) hnx hlocks (Nat.le_of_ble_eq_true rfl) (Nat.le_of_ble_eq_true rfl)
set_option maxHeartbeats 4000000 in
set_option maxRecDepth 100000 in
theorem k554_L_power (l : Launch) (D : va_G) (cs : Nat → ClassId) (sz : Nat) (hlt : l.stackTraces = false) (a0 a1 a2 a3 a4 a5 a6 a7 a8 a9 a10 a11 a12 a13 a14 a15 : Nat) (x0 : Int32) (hf0 : ¬ x0 < 0) (hf1 : ¬ x0 < 1) : KH l yL_power wsL_power 8 143 1 6 D cs sz [.ref a0, .int x0, .int 0, .ref a3] [(a0, .inr (8, [.ref a4, .ref a1, .ref a5, .ref a6, .int 0, .int 0, .int (-1)])), (a1, .inr (7, [.ref a2, .ref a7, .ref a8, .ref a9, .ref a10, .ref a11, .long 0, .int 0, .int 0, .int 0, .int 0, .int 0, .int 0, .int 0, .int 0, .int 0])), (a2, .inr (6, [.int 1, .int 1, .int 50, .null, .ref a12, .ref a13, .ref a14, .ref a15]))] (fun u => []) (1) := by
  refine KH.of cL_power 5 (some .int) (by decide) rfl (Nat.le_of_ble_eq_true rfl) ?_
  intro p e s m below meth c A ls hx hb hr hml hown hts hlocks htab hP hN hD hA hS hl hZ
  have hown : s.vm.findClass RL = some m.cls := hown
  have hl : lv_has ls 5 [(0, .ref a0), (1, .int x0), (2, .int 0), (3, .ref a3)] := hl
  refine lv_aload_n hx hb dL_power_0 rfl (lv_at hl 3 rfl) ?_
  refine lv_iconst (v := 0) hx hb dL_power_1 (by decide) ?_
  refine lv_aload_n hx hb dL_power_2 rfl (lv_at hl 0 rfl) ?_
  refine lv_iload_n hx hb dL_power_3 rfl (lv_at hl 1 rfl) ?_
  refine lv_iload_n hx hb dL_power_4 rfl (lv_at hl 2 rfl) ?_
  refine xc_i (wr := []) (As := [.int x0, .int 0]) (rest := [.int 0, .ref a3]) (b := a0) ⟨hx, hb, hml, hown, hts⟩ (fun sz => k553_X8_power l D cs sz hlt a0 a1 a2 a4 a5 a6 a7 a8 a9 a10 a11 a12 a13 a14 a15 (x0) hf0 hf1) (cwV 2 hts gL_power_X8_power rfl rfl rfl hdX8_power_v ⟨Nat.le_of_ble_eq_true rfl, Nat.le_of_ble_eq_true rfl⟩) hN hP hD hS hA hZ [0, 1, 2] rfl rfl (ci := 8) (q0 := 0) rfl rfl rfl rfl hl.1 (Nat.le_of_ble_eq_true rfl) dL_power_5 (Nat.le_of_ble_eq_true rfl) (Nat.le_of_ble_eq_true rfl) [] rfl rfl (by decide) [] ⟨0, 17, 20, 22⟩ [] htab (fun z h => nomatch h) rfl (by decide) (hts _ mL_power_1) 2 rfl (fun q9_6 H locs hP hD hS => ?_)
  have hP : va_P D vwCl [] H := hP
  have hD : va_D A [] := hD
  refine W.widen (k := 1) (n := 6) (Nat.le_of_ble_eq_true rfl) (Nat.le_of_ble_eq_true rfl) ?_
  refine lv_astore (lv' := [(4, .ref q9_6), (0, .ref a0), (1, .int x0), (2, .int 0), (3, .ref a3)]) hx hb dL_power_20 hl (by decide) rfl (fun ls hl => ?_)
  refine lv_iconst (v := 1) hx hb dL_power_22 (by decide) ?_
  exact en_i (fun k => ([] : List Nat).getD k 0) hx hb hr hlocks rfl rfl hP hD hS (Nat.le_of_ble_eq_true rfl) (Nat.le_of_ble_eq_true rfl) dL_power_23
set_option maxHeartbeats 4000000 in
set_option maxRecDepth 100000 in
theorem k555_X9_power (l : Launch) (D : va_G) (cs : Nat → ClassId) (sz : Nat) (a0 a1 a2 a3 a4 a5 a6 : Nat) (x0 : Int32) (hf0 : ¬ x0 < 0) (hf1 : 0 < x0) : KI l yX9_power wsX9_power 2 43 0 0 D cs sz [.ref a0, .int x0, .int 0] [(a0, .inr (9, [.int 0, .ref a2, .int 0, .int 0, .int 0, .int 0, .int 0, .int (-1), .ref a1, .ref a3, .ref a4, .ref a5, .int 0, .int 0, .int 0, .int 0, .int 0, .ref a6])), (a1, .inl (cs 0, 45783, .inl (layF (fun _ => 0) 1)))] (fun u => [(a1, .inl (cs 0, 45783, .inl (layF (fun _ => 0) 1))), (a0, .inr (9, [.int 1, .ref a2, .int 0, .int 0, .int 0, .int 0, .int 0, .int (-1), .ref a1, .ref a3, .ref a4, .ref a5, .int 0, .int 0, .int 0, .int 0, .int 0, .ref a6]))]) (0) := by
  refine KI.of cX9_power 4 (some .boolean) (by decide) rfl (Nat.le_of_ble_eq_true rfl) ?_
  intro p e s m below meth c A ls hx hb hr hml hown hts hlocks hin hP hN hD hA hS hl
  have hown : s.vm.findClass RX9 = some m.cls := hown
  have hl : lv_has ls 4 [(0, .ref a0), (1, .int x0), (2, .int 0)] := hl
  refine lv_aload_n hx hb dX9_power_0 rfl (lv_at hl 0 rfl) ?_
  refine lv_iconst (v := 0) hx hb dX9_power_1 (by decide) ?_
  refine va_put (D := D) (ci := 9) (v := .int 0) (ty := .int) (C := RX9) (T := TX9) (N := 18) hx hb hts iX9_power_9 tyX9 tyX9_ok nmX9 hown hN.1 hP hD hS 0 rfl rfl 0 (by decide) (hts _ mX9_power_1) (fun _ h9 => h9) rfl (by decide +kernel) rfl rfl (Nat.le_of_ble_eq_true rfl) dX9_power_2 (fun H locs hP hD hS => ?_)
  have hP : va_P D vwCl [(a0, .inr (9, [.int 0, .ref a2, .int 0, .int 0, .int 0, .int 0, .int 0, .int (-1), .ref a1, .ref a3, .ref a4, .ref a5, .int 0, .int 0, .int 0, .int 0, .int 0, .ref a6])), (a1, .inl (cs 0, 45783, .inl (layF (fun _ => 0) 1)))] H := hP
  have hD : va_D A [(a0, .inr (9, [.int 0, .ref a2, .int 0, .int 0, .int 0, .int 0, .int 0, .int (-1), .ref a1, .ref a3, .ref a4, .ref a5, .int 0, .int 0, .int 0, .int 0, .int 0, .ref a6])), (a1, .inl (cs 0, 45783, .inl (layF (fun _ => 0) 1)))] := hD
  refine lv_aload_n hx hb dX9_power_5 rfl (lv_at hl 0 rfl) ?_
  refine lv_iload_n hx hb dX9_power_6 rfl (lv_at hl 1 rfl) ?_
  refine cv_i (As := [.int x0]) (rest := []) (b := a0) (wr := []) ⟨hx, hb, hml, hown, hts⟩ (fun sz => k275_X9_noPlayer l D cs sz a0 a1 a2 a3 a4 a5 a6 (x0) hf0 hf1) (cwV 1 hts gX9_power_X9_noPlayer rfl rfl rfl hdX9_noPlayer_v ⟨Nat.le_of_ble_eq_true rfl, Nat.le_of_ble_eq_true rfl⟩) hN hP hD hS hA [0, 1] [] rfl rfl rfl rfl (by decide) (ci := 9) (q0 := 0) rfl rfl rfl rfl hl.1 (Nat.le_of_ble_eq_true rfl) dX9_power_7 (Nat.le_of_ble_eq_true rfl) (Nat.le_of_ble_eq_true rfl) (fun u0 H locs hP hD hS => ?_)
  have hP : va_P D vwCl [(a1, .inl (cs 0, 45783, .inl (layF (fun _ => 0) 1))), (a0, .inr (9, [.int 1, .ref a2, .int 0, .int 0, .int 0, .int 0, .int 0, .int (-1), .ref a1, .ref a3, .ref a4, .ref a5, .int 0, .int 0, .int 0, .int 0, .int 0, .ref a6]))] H := hP
  have hD : va_D A [(a1, .inl (cs 0, 45783, .inl (layF (fun _ => 0) 1))), (a0, .inr (9, [.int 1, .ref a2, .int 0, .int 0, .int 0, .int 0, .int 0, .int (-1), .ref a1, .ref a3, .ref a4, .ref a5, .int 0, .int 0, .int 0, .int 0, .int 0, .ref a6]))] := hD
  refine W.widen (k := 0) (n := 0) (Nat.le_of_ble_eq_true rfl) (Nat.le_of_ble_eq_true rfl) ?_
  refine lv_if_eq (tgt := 15) hx hb dX9_power_10 (by decide) (fun c9 => absurd c9 (by decide)) (fun _ => ?_)
  refine lv_iconst (v := 0) hx hb dX9_power_13 (by decide) ?_
  exact en_i (fun k => ([] : List Nat).getD k 0) hx hb hr hlocks rfl rfl hP hD hS (Nat.le_of_ble_eq_true rfl) (Nat.le_of_ble_eq_true rfl) dX9_power_14
set_option maxHeartbeats 4000000 in
set_option maxRecDepth 100000 in
theorem law_15_bf {p : Program} {l : Launch} {e : Env} {s : State} {m : MethodId} {args : Array Value} {below : List Frame} {meth : Method} {c : Code} {Q : State → Prop} {D : va_G} {cs : Nat → ClassId} {A : Nat → Prop} {xs : Nat → Int32} {b : Nat} (hx : p.tables.exec = Jvm.exec) (hb : c.code = cL_law) (hml : c.maxLocals = 9) (hown : s.vm.findClass RL = some m.cls) (hts : ∀ w ∈ wsL_law, w.before args s = true) (hN : NK D cs s) (hX : va_X b 6 xs s s.heap) (hbl : b < s.heap.size) (hbA : ¬ A b) (hA : ∀ q : Nat, s.heap.size ≤ q → A q) (hZ : ZX A s s.heap) (hZS : ZS cs A s s.heap) (hlt : l.stackTraces = false)
    (kend : ∀ (H : Heap) (locs : List Loc) (ls : Array Slot), va_S A s.heap H locs → lv_has ls 9 [(0, .ref b), (4, .int 0)] → W p l e room_1 s m args below meth c H locs 600002 7302232 Q (F0 m 1169 ls []))
    (a0 a1 a2 a3 a4 a5 a6 a7 a8 a9 a10 a11 a12 a13 a14 a15 a16 a17 a18 a19 a20 a21 a22 : Nat) (y1 : Int32) (hy1 : xs 1 = (y1)) (hy2 : xs 2 = (0)) (g1_4 : ¬ y1 < 0) (g1_8 : ¬ y1 < 1) (g1_7 : 0 < y1) (H : Heap) (locs : List Loc) (ls : Array Slot) (hP : va_P D vwCl [(a0, .inr (8, [.ref a5, .ref a2, .ref a6, .ref a7, .int 0, .int 0, .int (-1)])), (a1, .inr (6, [.int 1, .int 1, .int 50, .null, .ref a8, .ref a9, .ref a10, .ref a11])), (a2, .inr (7, [.ref a1, .ref a12, .ref a13, .ref a14, .ref a15, .ref a16, .long 0, .int 0, .int 0, .int 0, .int 0, .int 0, .int 0, .int 0, .int 0, .int 0])), (a3, .inr (9, [.int 0, .ref a17, .int 0, .int 0, .int 0, .int 0, .int 0, .int (-1), .ref a4, .ref a18, .ref a19, .ref a20, .int 0, .int 0, .int 0, .int 0, .int 0, .ref a21])), (a4, .inl (cs 0, 45783, .inl (layF (fun _ => 0) 1)))] H) (hD : va_D A [(a0, .inr (8, [.ref a5, .ref a2, .ref a6, .ref a7, .int 0, .int 0, .int (-1)])), (a1, .inr (6, [.int 1, .int 1, .int 50, .null, .ref a8, .ref a9, .ref a10, .ref a11])), (a2, .inr (7, [.ref a1, .ref a12, .ref a13, .ref a14, .ref a15, .ref a16, .long 0, .int 0, .int 0, .int 0, .int 0, .int 0, .int 0, .int 0, .int 0, .int 0])), (a3, .inr (9, [.int 0, .ref a17, .int 0, .int 0, .int 0, .int 0, .int 0, .int (-1), .ref a4, .ref a18, .ref a19, .ref a20, .int 0, .int 0, .int 0, .int 0, .int 0, .ref a21])), (a4, .inl (cs 0, 45783, .inl (layF (fun _ => 0) 1)))]) (hS : va_S A s.heap H locs) (hl : lv_has ls 9 [(4, .int 0), (3, .ref a22), (2, .ref a3), (1, .ref a0), (0, .ref b)]) : W p l e room_1 s m args below meth c H locs 391 467079 Q (F0 m 892 ls []) := by
  refine lv_aload_n hx hb dL_law_892 rfl (lv_at hl 3 rfl) ?_
  refine lv_aload_n hx hb dL_law_893 rfl (lv_at hl 4 rfl) ?_
  refine lv_iload hx hb dL_law_894 (lv_at hl 0 rfl) ?_
  refine lv_iconst (v := 1) hx hb dL_law_896 (by decide) ?_
  refine lv_iadd hx hb dL_law_897 ?_
  refine tp_i (1) (by decide) ?_
  refine va_sld hx hb hX hbl hbA hS (vin (by decide +kernel)) dL_law_898 ?_
  refine tp_i (y1) hy1 ?_
  refine lv_aload_n hx hb dL_law_899 rfl (lv_at hl 4 rfl) ?_
  refine lv_iload hx hb dL_law_900 (lv_at hl 0 rfl) ?_
  refine lv_iconst (v := 2) hx hb dL_law_902 (by decide) ?_
  refine lv_iadd hx hb dL_law_903 ?_
  refine tp_i (2) (by decide) ?_
  refine va_sld hx hb hX hbl hbA hS (vin (by decide +kernel)) dL_law_904 ?_
  refine tp_i (0) hy2 ?_
  refine lv_if_eq (tgt := 912) hx hb dL_law_905 (by decide) (fun _ => ?_) (fun c9 => absurd (by decide) c9)
  refine lv_iconst (v := 0) hx hb dL_law_912 (by decide) ?_
  refine lv_aload_n hx hb dL_law_913 rfl (lv_at hl 1 rfl) ?_
  refine ch_i (As := [.ref a0, .int y1, .int 0, .ref a22]) (rest := []) (wr := [(a3, .inr (9, [.int 0, .ref a17, .int 0, .int 0, .int 0, .int 0, .int 0, .int (-1), .ref a4, .ref a18, .ref a19, .ref a20, .int 0, .int 0, .int 0, .int 0, .int 0, .ref a21])), (a4, .inl (cs 0, 45783, .inl (layF (fun _ => 0) 1)))]) ⟨hx, hb, hml, hown, hts⟩ (fun sz => k554_L_power l D cs sz hlt a0 a2 a1 a22 a5 a6 a7 a12 a13 a14 a15 a16 a8 a9 a10 a11 (y1) g1_4 g1_8) (vx_cwSW 4 hts gL_law_L_power rfl rfl rfl hdL_power_o ⟨Nat.le_of_ble_eq_true rfl, Nat.le_of_ble_eq_true rfl⟩) hN hP hD hS hA hZ [0, 2, 1] [3, 4] rfl rfl rfl rfl (by decide) rfl rfl hl.1 (Nat.le_of_ble_eq_true rfl) dL_law_914 (Nat.le_of_ble_eq_true rfl) (Nat.le_of_ble_eq_true rfl) (fun u0 H locs hP hD hS => ?_)
  have hP : va_P D vwCl [(a3, .inr (9, [.int 0, .ref a17, .int 0, .int 0, .int 0, .int 0, .int 0, .int (-1), .ref a4, .ref a18, .ref a19, .ref a20, .int 0, .int 0, .int 0, .int 0, .int 0, .ref a21])), (a4, .inl (cs 0, 45783, .inl (layF (fun _ => 0) 1)))] H := hP
  have hD : va_D A [(a3, .inr (9, [.int 0, .ref a17, .int 0, .int 0, .int 0, .int 0, .int 0, .int (-1), .ref a4, .ref a18, .ref a19, .ref a20, .int 0, .int 0, .int 0, .int 0, .int 0, .ref a21])), (a4, .inl (cs 0, 45783, .inl (layF (fun _ => 0) 1)))] := hD
  refine W.widen (k := 392) (n := 467085) (Nat.le_of_ble_eq_true rfl) (Nat.le_of_ble_eq_true rfl) ?_
  refine lv_istore (lv' := [(5, .int 1), (4, .int 0), (3, .ref a22), (2, .ref a3), (1, .ref a0), (0, .ref b)]) hx hb dL_law_917 hl (by decide) rfl (fun ls hl => ?_)
  refine lv_aload_n hx hb dL_law_919 rfl (lv_at hl 3 rfl) ?_
  refine lv_aload_n hx hb dL_law_920 rfl (lv_at hl 5 rfl) ?_
  refine lv_iload hx hb dL_law_921 (lv_at hl 1 rfl) ?_
  refine lv_iconst (v := 1) hx hb dL_law_923 (by decide) ?_
  refine lv_iadd hx hb dL_law_924 ?_
  refine tp_i (1) (by decide) ?_
  refine va_sld hx hb hX hbl hbA hS (vin (by decide +kernel)) dL_law_925 ?_
  refine tp_i (y1) hy1 ?_
  refine lv_aload_n hx hb dL_law_926 rfl (lv_at hl 5 rfl) ?_
  refine lv_iload hx hb dL_law_927 (lv_at hl 1 rfl) ?_
  refine lv_iconst (v := 2) hx hb dL_law_929 (by decide) ?_
  refine lv_iadd hx hb dL_law_930 ?_
  refine tp_i (2) (by decide) ?_
  refine va_sld hx hb hX hbl hbA hS (vin (by decide +kernel)) dL_law_931 ?_
  refine tp_i (0) hy2 ?_
  refine lv_if_eq (tgt := 939) hx hb dL_law_932 (by decide) (fun _ => ?_) (fun c9 => absurd (by decide) c9)
  refine lv_iconst (v := 0) hx hb dL_law_939 (by decide) ?_
  refine cv_i (As := [.int y1, .int 0]) (rest := []) (b := a3) (wr := []) ⟨hx, hb, hml, hown, hts⟩ (fun sz => k555_X9_power l D cs sz a3 a4 a17 a18 a19 a20 a21 (y1) g1_4 g1_7) (cwV 2 hts gL_law_X9_power rfl rfl rfl hdX9_power_v ⟨Nat.le_of_ble_eq_true rfl, Nat.le_of_ble_eq_true rfl⟩) hN hP hD hS hA [0, 1] [] rfl rfl rfl rfl (by decide) (ci := 9) (q0 := 0) rfl rfl rfl rfl hl.1 (Nat.le_of_ble_eq_true rfl) dL_law_940 (Nat.le_of_ble_eq_true rfl) (Nat.le_of_ble_eq_true rfl) (fun u1 H locs hP hD hS => ?_)
  have hP : va_P D vwCl [(a4, .inl (cs 0, 45783, .inl (layF (fun _ => 0) 1))), (a3, .inr (9, [.int 1, .ref a17, .int 0, .int 0, .int 0, .int 0, .int 0, .int (-1), .ref a4, .ref a18, .ref a19, .ref a20, .int 0, .int 0, .int 0, .int 0, .int 0, .ref a21]))] H := hP
  have hD : va_D A [(a4, .inl (cs 0, 45783, .inl (layF (fun _ => 0) 1))), (a3, .inr (9, [.int 1, .ref a17, .int 0, .int 0, .int 0, .int 0, .int 0, .int (-1), .ref a4, .ref a18, .ref a19, .ref a20, .int 0, .int 0, .int 0, .int 0, .int 0, .ref a21]))] := hD
  refine W.widen (k := 392) (n := 467085) (Nat.le_of_ble_eq_true rfl) (Nat.le_of_ble_eq_true rfl) ?_
  refine lv_istore (lv' := [(6, .int 0), (5, .int 1), (4, .int 0), (3, .ref a22), (2, .ref a3), (1, .ref a0), (0, .ref b)]) hx hb dL_law_943 hl (by decide) rfl (fun ls hl => ?_)
  refine lv_aload_n hx hb dL_law_945 rfl (lv_at hl 4 rfl) ?_
  refine cv_i (As := []) (rest := []) (b := a3) (wr := [(a4, .inl (cs 0, 45783, .inl (layF (fun _ => 0) 1)))]) ⟨hx, hb, hml, hown, hts⟩ (fun sz => k158_X9_thrown l D cs sz a3 a17 a4 a18 a19 a20 a21) (cwV 0 hts gL_law_X9_thrown rfl rfl rfl hdX9_thrown_v ⟨Nat.le_of_ble_eq_true rfl, Nat.le_of_ble_eq_true rfl⟩) hN hP hD hS hA [1] [0] rfl rfl rfl rfl (by decide) (ci := 9) (q0 := 0) rfl rfl rfl rfl hl.1 (Nat.le_of_ble_eq_true rfl) dL_law_946 (Nat.le_of_ble_eq_true rfl) (Nat.le_of_ble_eq_true rfl) (fun u2 H locs hP hD hS => ?_)
  have hP : va_P D vwCl [(a4, .inl (cs 0, 45783, .inl (layF (fun _ => 0) 1))), (a3, .inr (9, [.int 1, .ref a17, .int 0, .int 0, .int 0, .int 0, .int 0, .int (-1), .ref a4, .ref a18, .ref a19, .ref a20, .int 0, .int 0, .int 0, .int 0, .int 0, .ref a21]))] H := hP
  have hD : va_D A [(a4, .inl (cs 0, 45783, .inl (layF (fun _ => 0) 1))), (a3, .inr (9, [.int 1, .ref a17, .int 0, .int 0, .int 0, .int 0, .int 0, .int (-1), .ref a4, .ref a18, .ref a19, .ref a20, .int 0, .int 0, .int 0, .int 0, .int 0, .ref a21]))] := hD
  refine W.widen (k := 392) (n := 467085) (Nat.le_of_ble_eq_true rfl) (Nat.le_of_ble_eq_true rfl) ?_
  refine lv_iload hx hb dL_law_949 (lv_at hl 1 rfl) ?_
  refine lv_icmp_eq (tgt := 956) hx hb dL_law_951 (by decide) (fun _ => ?_) (fun c9 => absurd (by decide) c9)
  refine lv_iload hx hb dL_law_956 (lv_at hl 1 rfl) ?_
  refine lv_if_ne (tgt := 980) hx hb dL_law_958 (by decide) (fun _ => ?_) (fun c9 => absurd c9 (by decide))
  refine lv_goto (tgt := 1169) hx hb dL_law_980 (by decide) ?_
  refine W.widen (k := 600002) (n := 7302232) (Nat.le_of_ble_eq_true rfl) (Nat.le_of_ble_eq_true rfl) ?_
  exact kend _ _ _ hS (lv_sub hl [6, 2] rfl)

theorem mX8_cut_3 : (.fieldLink RX8 19 "OneBeat" "now" "LOneBeat$World;" : Cond) ∈ wsX8_cut := List.mem_of_getElem? (i := 3) (by decide +kernel)
theorem iX8_cut_8 : ∀ w ∈ wsX80, w ∈ wsX8_cut := fun w h => List.mem_of_mem_drop (List.mem_of_mem_take ((show wsX80 = (wsX8_cut.drop 109).take 7 by decide +kernel) ▸ h))
theorem xgX8_cut_186_1 : ∀ w ∈ (vx_atS RX8 186 "java/lang/IllegalStateException" ["java/lang/RuntimeException", "java/lang/Exception"]).filter goodWord, w ∈ wsX8_cut := fun w h => by unfold wsX8_cut; exact List.mem_cons_of_mem _ (List.mem_append_left _ (List.mem_append_right _ h))
theorem mX8_cut_1 : (.classLink RX8 182 "java/lang/IllegalStateException" : Cond) ∈ wsX8_cut := List.mem_of_getElem? (i := 1) (by decide +kernel)
theorem mX8_cut_2 : (.initialized "java/lang/IllegalStateException" : Cond) ∈ wsX8_cut := List.mem_of_getElem? (i := 2) (by decide +kernel)
set_option maxHeartbeats 4000000 in
set_option maxRecDepth 100000 in
theorem k556_X8_cut (l : Launch) (D : va_G) (cs : Nat → ClassId) (sz : Nat) (hlt : l.stackTraces = false) (a0 a1 a2 a3 a4 a5 a6 a7 a8 a9 a10 a11 a12 a13 a14 : Nat) : KX l yX8_cut wsX8_cut 6 100 1 6 D cs sz [.ref a0, .int 0, .int 0, .int 1] [(a0, .inr (8, [.ref a4, .ref a1, .ref a5, .ref a6, .int 0, .int 0, .int (-1)])), (a1, .inr (7, [.ref a2, .ref a7, .ref a8, .ref a9, .ref a10, .ref a11, .long 0, .int 0, .int 0, .int 0, .int 0, .int 0, .int 0, .int 0, .int 0, .int 0])), (a2, .inr (6, [.int 1, .int 1, .int 50, .null, .ref a12, .ref a13, .ref a14, .ref a3])), (a3, .inl (cs 0, 64, .inl (fun _ => 0)))] QnI "java/lang/IllegalStateException" := by
  refine KX.of cX8_cut 5 (some .boolean) (by decide) rfl (Nat.le_of_ble_eq_true rfl) ?_
  intro p e s m below meth c A ls hx hb hr hml hown hts hlocks hnx hP hN hD hA hS hl hZ
  have hown : s.vm.findClass RX8 = some m.cls := hown
  have hl : lv_has ls 5 [(0, .ref a0), (1, .int 0), (2, .int 0), (3, .int 1)] := hl
  refine lv_aload_n hx hb dX8_cut_0 rfl (lv_at hl 0 rfl) ?_
  refine lv_iload_n hx hb dX8_cut_1 rfl (lv_at hl 1 rfl) ?_
  refine cv_v (As := [.int 0]) (rest := []) (b := a0) (wr := [(a3, .inl (cs 0, 64, .inl (fun _ => 0)))]) ⟨hx, hb, hml, hown, hts⟩ (fun sz => k164_X8_refuseNoPlayer l D cs sz a0 a1 a2 a4 a5 a6 a7 a8 a9 a10 a11 a12 a13 a14 a3) (cwV 1 hts gX8_cut_X8_refuseNoPlayer rfl rfl rfl hdX8_refuseNoPlayer_v ⟨Nat.le_of_ble_eq_true rfl, Nat.le_of_ble_eq_true rfl⟩) hN hP hD hS hA [0, 1, 2] [3] rfl rfl rfl rfl (by decide) (ci := 8) (q0 := 0) rfl rfl rfl rfl hl.1 (Nat.le_of_ble_eq_true rfl) dX8_cut_2 (Nat.le_of_ble_eq_true rfl) (Nat.le_of_ble_eq_true rfl) (fun u0 H locs hP hD hS => ?_)
  have hP : va_P D vwCl [(a3, .inl (cs 0, 64, .inl (fun _ => 0))), (a0, .inr (8, [.ref a4, .ref a1, .ref a5, .ref a6, .int 0, .int 0, .int (-1)])), (a1, .inr (7, [.ref a2, .ref a7, .ref a8, .ref a9, .ref a10, .ref a11, .long 0, .int 0, .int 0, .int 0, .int 0, .int 0, .int 0, .int 0, .int 0, .int 0])), (a2, .inr (6, [.int 1, .int 1, .int 50, .null, .ref a12, .ref a13, .ref a14, .ref a3]))] H := hP
  have hD : va_D A [(a3, .inl (cs 0, 64, .inl (fun _ => 0))), (a0, .inr (8, [.ref a4, .ref a1, .ref a5, .ref a6, .int 0, .int 0, .int (-1)])), (a1, .inr (7, [.ref a2, .ref a7, .ref a8, .ref a9, .ref a10, .ref a11, .long 0, .int 0, .int 0, .int 0, .int 0, .int 0, .int 0, .int 0, .int 0, .int 0])), (a2, .inr (6, [.int 1, .int 1, .int 50, .null, .ref a12, .ref a13, .ref a14, .ref a3]))] := hD
  refine W.widen (k := 0) (n := 0) (Nat.le_of_ble_eq_true rfl) (Nat.le_of_ble_eq_true rfl) ?_
  refine lv_aload_n hx hb dX8_cut_5 rfl (lv_at hl 0 rfl) ?_
  refine lv_iload_n hx hb dX8_cut_6 rfl (lv_at hl 2 rfl) ?_
  refine cv_v (As := [.int 0]) (rest := []) (b := a0) (wr := [(a3, .inl (cs 0, 64, .inl (fun _ => 0)))]) ⟨hx, hb, hml, hown, hts⟩ (fun sz => k164_X8_refuseNoPlayer l D cs sz a0 a1 a2 a4 a5 a6 a7 a8 a9 a10 a11 a12 a13 a14 a3) (cwV 1 hts gX8_cut_X8_refuseNoPlayer rfl rfl rfl hdX8_refuseNoPlayer_v ⟨Nat.le_of_ble_eq_true rfl, Nat.le_of_ble_eq_true rfl⟩) hN hP hD hS hA [1, 2, 3] [0] rfl rfl rfl rfl (by decide) (ci := 8) (q0 := 0) rfl rfl rfl rfl hl.1 (Nat.le_of_ble_eq_true rfl) dX8_cut_7 (Nat.le_of_ble_eq_true rfl) (Nat.le_of_ble_eq_true rfl) (fun u1 H locs hP hD hS => ?_)
  have hP : va_P D vwCl [(a3, .inl (cs 0, 64, .inl (fun _ => 0))), (a0, .inr (8, [.ref a4, .ref a1, .ref a5, .ref a6, .int 0, .int 0, .int (-1)])), (a1, .inr (7, [.ref a2, .ref a7, .ref a8, .ref a9, .ref a10, .ref a11, .long 0, .int 0, .int 0, .int 0, .int 0, .int 0, .int 0, .int 0, .int 0, .int 0])), (a2, .inr (6, [.int 1, .int 1, .int 50, .null, .ref a12, .ref a13, .ref a14, .ref a3]))] H := hP
  have hD : va_D A [(a3, .inl (cs 0, 64, .inl (fun _ => 0))), (a0, .inr (8, [.ref a4, .ref a1, .ref a5, .ref a6, .int 0, .int 0, .int (-1)])), (a1, .inr (7, [.ref a2, .ref a7, .ref a8, .ref a9, .ref a10, .ref a11, .long 0, .int 0, .int 0, .int 0, .int 0, .int 0, .int 0, .int 0, .int 0, .int 0])), (a2, .inr (6, [.int 1, .int 1, .int 50, .null, .ref a12, .ref a13, .ref a14, .ref a3]))] := hD
  refine W.widen (k := 0) (n := 0) (Nat.le_of_ble_eq_true rfl) (Nat.le_of_ble_eq_true rfl) ?_
  refine lv_aload_n hx hb dX8_cut_10 rfl (lv_at hl 0 rfl) ?_
  refine va_get (D := D) (ci := 8) (v := .ref a1) (C := RX8) (T := TX8) (N := 7) hx hb hts iX8_cut_8 hown hN.1 hP 1 rfl rfl 1 (by decide) (hts _ mX8_cut_3) (fun _ h9 => h9) rfl dX8_cut_11 ?_
  refine lv_iload_n hx hb dX8_cut_14 rfl (lv_at hl 1 rfl) ?_
  refine lv_iload_n hx hb dX8_cut_15 rfl (lv_at hl 2 rfl) ?_
  refine cv_i (As := [.int 0, .int 0]) (rest := []) (b := a1) (wr := [(a0, .inr (8, [.ref a4, .ref a1, .ref a5, .ref a6, .int 0, .int 0, .int (-1)]))]) ⟨hx, hb, hml, hown, hts⟩ (fun sz => k138_X7_delay l D cs sz a1 a2 a3 a7 a8 a9 a10 a11 a12 a13 a14) (cwV 2 hts gX8_cut_X7_delay rfl rfl rfl hdX7_delay_v ⟨Nat.le_of_ble_eq_true rfl, Nat.le_of_ble_eq_true rfl⟩) hN hP hD hS hA [2, 3, 0] [1] rfl rfl rfl rfl (by decide) (ci := 7) (q0 := 0) rfl rfl rfl rfl hl.1 (Nat.le_of_ble_eq_true rfl) dX8_cut_16 (Nat.le_of_ble_eq_true rfl) (Nat.le_of_ble_eq_true rfl) (fun u2 H locs hP hD hS => ?_)
  have hP : va_P D vwCl [(a0, .inr (8, [.ref a4, .ref a1, .ref a5, .ref a6, .int 0, .int 0, .int (-1)])), (a1, .inr (7, [.ref a2, .ref a7, .ref a8, .ref a9, .ref a10, .ref a11, .long 0, .int 0, .int 0, .int 0, .int 0, .int 0, .int 0, .int 0, .int 0, .int 0])), (a2, .inr (6, [.int 1, .int 1, .int 50, .null, .ref a12, .ref a13, .ref a14, .ref a3])), (a3, .inl (cs 0, 64, .inl (fun _ => 0)))] H := hP
  have hD : va_D A [(a0, .inr (8, [.ref a4, .ref a1, .ref a5, .ref a6, .int 0, .int 0, .int (-1)])), (a1, .inr (7, [.ref a2, .ref a7, .ref a8, .ref a9, .ref a10, .ref a11, .long 0, .int 0, .int 0, .int 0, .int 0, .int 0, .int 0, .int 0, .int 0, .int 0])), (a2, .inr (6, [.int 1, .int 1, .int 50, .null, .ref a12, .ref a13, .ref a14, .ref a3])), (a3, .inl (cs 0, 64, .inl (fun _ => 0)))] := hD
  refine W.widen (k := 0) (n := 0) (Nat.le_of_ble_eq_true rfl) (Nat.le_of_ble_eq_true rfl) ?_
  refine lv_if_ne (tgt := 32) hx hb dX8_cut_19 (by decide) (fun c9 => absurd (by decide) c9) (fun _ => ?_)
  exact tx_g2 (E := "java/lang/IllegalStateException") 1 hx hb hlt hown hN (by decide +kernel) (hts _ mX8_cut_1) (hts _ mX8_cut_2) (hN.s 18 rfl) rfl (fun w h => hts w (xgX8_cut_186_1 w h)) xnRX8_186_1 xdRX8_186_1 xoRX8_182_186_1 hZ hS hl hml dX8_cut_22 dX8_cut_25 dX8_cut_26 dX8_cut_28 dX8_cut_31 hnx (Nat.le_of_ble_eq_true rfl) (Nat.le_of_ble_eq_true rfl) (Nat.le_of_ble_eq_true rfl) (Nat.le_of_ble_eq_true rfl) hlocks (Nat.le_of_ble_eq_true rfl) (Nat.le_of_ble_eq_true rfl)
theorem hdX8_cut_v : yX8_cut.cls = RX8 ∧ yX8_cut.cls ≠ "java/lang/invoke/MethodHandle" ∧ yX8_cut.cls ≠ "java/lang/invoke/VarHandle" ∧ (parseMethodDescriptor yX8_cut.desc).map (fun d => d.parameters.length) = some 3 := by decide +kernel
theorem mL_cut_1 : (.classLink RL 22 "java/lang/IndexOutOfBoundsException" : Cond) ∈ wsL_cut := List.mem_of_getElem? (i := 1) (by decide +kernel)
theorem mL_cut_2 : (.classLink RL 41 "java/lang/IllegalStateException" : Cond) ∈ wsL_cut := List.mem_of_getElem? (i := 2) (by decide +kernel)
set_option maxHeartbeats 4000000 in
set_option maxRecDepth 100000 in
theorem k557_L_cut (l : Launch) (D : va_G) (cs : Nat → ClassId) (sz : Nat) (hlt : l.stackTraces = false) (a0 a1 a2 a3 a4 a5 a6 a7 a8 a9 a10 a11 a12 a13 a14 a15 : Nat) : KH l yL_cut wsL_cut 7 124 1 6 D cs sz [.ref a0, .int 0, .int 0, .int 1, .ref a4] [(a0, .inr (8, [.ref a5, .ref a1, .ref a6, .ref a7, .int 0, .int 0, .int (-1)])), (a1, .inr (7, [.ref a2, .ref a8, .ref a9, .ref a10, .ref a11, .ref a12, .long 0, .int 0, .int 0, .int 0, .int 0, .int 0, .int 0, .int 0, .int 0, .int 0])), (a2, .inr (6, [.int 1, .int 1, .int 50, .null, .ref a13, .ref a14, .ref a15, .ref a3])), (a3, .inl (cs 0, 64, .inl (fun _ => 0)))] (fun u => []) (2) := by
  refine KH.of cL_cut 6 (some .int) (by decide) rfl (Nat.le_of_ble_eq_true rfl) ?_
  intro p e s m below meth c A ls hx hb hr hml hown hts hlocks htab hP hN hD hA hS hl hZ
  have hown : s.vm.findClass RL = some m.cls := hown
  have hl : lv_has ls 6 [(0, .ref a0), (1, .int 0), (2, .int 0), (3, .int 1), (4, .ref a4)] := hl
  refine lv_aload hx hb dL_cut_0 (lv_at hl 4 rfl) ?_
  refine lv_iconst (v := 0) hx hb dL_cut_2 (by decide) ?_
  refine lv_aload_n hx hb dL_cut_3 rfl (lv_at hl 0 rfl) ?_
  refine lv_iload_n hx hb dL_cut_4 rfl (lv_at hl 1 rfl) ?_
  refine lv_iload_n hx hb dL_cut_5 rfl (lv_at hl 2 rfl) ?_
  refine lv_iload_n hx hb dL_cut_6 rfl (lv_at hl 3 rfl) ?_
  refine xc_i (wr := []) (As := [.int 0, .int 0, .int 1]) (rest := [.int 0, .ref a4]) (b := a0) ⟨hx, hb, hml, hown, hts⟩ (fun sz => k556_X8_cut l D cs sz hlt a0 a1 a2 a3 a5 a6 a7 a8 a9 a10 a11 a12 a13 a14 a15) (cwV 3 hts gL_cut_X8_cut rfl rfl rfl hdX8_cut_v ⟨Nat.le_of_ble_eq_true rfl, Nat.le_of_ble_eq_true rfl⟩) hN hP hD hS hA hZ [0, 1, 2, 3] rfl rfl (ci := 8) (q0 := 0) rfl rfl rfl rfl hl.1 (Nat.le_of_ble_eq_true rfl) dL_cut_7 (Nat.le_of_ble_eq_true rfl) (Nat.le_of_ble_eq_true rfl) [] rfl rfl (by decide) [⟨0, 19, 22, 22⟩] ⟨0, 19, 26, 41⟩ [] htab (fun z h => by rw [List.mem_singleton.mp h]; exact Or.inr ⟨by decide, "java/lang/IndexOutOfBoundsException", hts _ mL_cut_1, hN.2.2.2.2.2.2.2.2 ("java/lang/IllegalStateException", "java/lang/IndexOutOfBoundsException") (by decide +kernel)⟩) rfl (by decide) (hts _ mL_cut_2) 1 rfl (fun q9_7 H locs hP hD hS => ?_)
  have hP : va_P D vwCl [] H := hP
  have hD : va_D A [] := hD
  refine W.widen (k := 1) (n := 6) (Nat.le_of_ble_eq_true rfl) (Nat.le_of_ble_eq_true rfl) ?_
  refine lv_astore (lv' := [(5, .ref q9_7), (0, .ref a0), (1, .int 0), (2, .int 0), (3, .int 1), (4, .ref a4)]) hx hb dL_cut_26 hl (by decide) rfl (fun ls hl => ?_)
  refine lv_iconst (v := 2) hx hb dL_cut_28 (by decide) ?_
  exact en_i (fun k => ([] : List Nat).getD k 0) hx hb hr hlocks rfl rfl hP hD hS (Nat.le_of_ble_eq_true rfl) (Nat.le_of_ble_eq_true rfl) dL_cut_29
theorem mX9_cut_1 : (.fieldLink RX9 40 "OneBeatModel" "thrown" "I" : Cond) ∈ wsX9_cut := List.mem_of_getElem? (i := 1) (by decide +kernel)
theorem iX9_cut_9 : ∀ w ∈ wsX90, w ∈ wsX9_cut := fun w h => List.mem_of_mem_drop (List.mem_of_mem_take ((show wsX90 = (wsX9_cut.drop 31).take 18 by decide +kernel) ▸ h))
theorem mX9_cut_2 : (.fieldLink RX9 18 "OneBeatModel" "data" "[I" : Cond) ∈ wsX9_cut := List.mem_of_getElem? (i := 2) (by decide +kernel)
set_option maxHeartbeats 4000000 in
set_option maxRecDepth 100000 in
theorem k558_X9_cut (l : Launch) (D : va_G) (cs : Nat → ClassId) (sz : Nat) (a0 a1 a2 a3 a4 a5 a6 : Nat) : KI l yX9_cut wsX9_cut 2 43 0 0 D cs sz [.ref a0, .int 0, .int 0, .int 1] [(a0, .inr (9, [.int 0, .ref a2, .int 0, .int 0, .int 0, .int 0, .int 0, .int (-1), .ref a1, .ref a3, .ref a4, .ref a5, .int 0, .int 0, .int 0, .int 0, .int 0, .ref a6])), (a1, .inl (cs 0, 45783, .inl (layF (fun _ => 0) 1)))] (fun u => [(a1, .inl (cs 0, 45783, .inl (layF (fun _ => 0) 1))), (a0, .inr (9, [.int 2, .ref a2, .int 0, .int 0, .int 0, .int 0, .int 0, .int (-1), .ref a1, .ref a3, .ref a4, .ref a5, .int 0, .int 0, .int 0, .int 0, .int 0, .ref a6]))]) (0) := by
  refine KI.of cX9_cut 6 (some .boolean) (by decide) rfl (Nat.le_of_ble_eq_true rfl) ?_
  intro p e s m below meth c A ls hx hb hr hml hown hts hlocks hin hP hN hD hA hS hl
  have hown : s.vm.findClass RX9 = some m.cls := hown
  have hl : lv_has ls 6 [(0, .ref a0), (1, .int 0), (2, .int 0), (3, .int 1)] := hl
  refine lv_aload_n hx hb dX9_cut_0 rfl (lv_at hl 0 rfl) ?_
  refine lv_iconst (v := 0) hx hb dX9_cut_1 (by decide) ?_
  refine va_put (D := D) (ci := 9) (v := .int 0) (ty := .int) (C := RX9) (T := TX9) (N := 18) hx hb hts iX9_cut_9 tyX9 tyX9_ok nmX9 hown hN.1 hP hD hS 0 rfl rfl 0 (by decide) (hts _ mX9_cut_1) (fun _ h9 => h9) rfl (by decide +kernel) rfl rfl (Nat.le_of_ble_eq_true rfl) dX9_cut_2 (fun H locs hP hD hS => ?_)
  have hP : va_P D vwCl [(a0, .inr (9, [.int 0, .ref a2, .int 0, .int 0, .int 0, .int 0, .int 0, .int (-1), .ref a1, .ref a3, .ref a4, .ref a5, .int 0, .int 0, .int 0, .int 0, .int 0, .ref a6])), (a1, .inl (cs 0, 45783, .inl (layF (fun _ => 0) 1)))] H := hP
  have hD : va_D A [(a0, .inr (9, [.int 0, .ref a2, .int 0, .int 0, .int 0, .int 0, .int 0, .int (-1), .ref a1, .ref a3, .ref a4, .ref a5, .int 0, .int 0, .int 0, .int 0, .int 0, .ref a6])), (a1, .inl (cs 0, 45783, .inl (layF (fun _ => 0) 1)))] := hD
  refine lv_aload_n hx hb dX9_cut_5 rfl (lv_at hl 0 rfl) ?_
  refine lv_iload_n hx hb dX9_cut_6 rfl (lv_at hl 1 rfl) ?_
  refine cv_i (As := [.int 0]) (rest := []) (b := a0) (wr := []) ⟨hx, hb, hml, hown, hts⟩ (fun sz => k170_X9_noPlayer l D cs sz a0 a1 a2 a3 a4 a5 a6) (cwV 1 hts gX9_cut_X9_noPlayer rfl rfl rfl hdX9_noPlayer_v ⟨Nat.le_of_ble_eq_true rfl, Nat.le_of_ble_eq_true rfl⟩) hN hP hD hS hA [0, 1] [] rfl rfl rfl rfl (by decide) (ci := 9) (q0 := 0) rfl rfl rfl rfl hl.1 (Nat.le_of_ble_eq_true rfl) dX9_cut_7 (Nat.le_of_ble_eq_true rfl) (Nat.le_of_ble_eq_true rfl) (fun u0 H locs hP hD hS => ?_)
  have hP : va_P D vwCl [(a1, .inl (cs 0, 45783, .inl (layF (fun _ => 0) 1))), (a0, .inr (9, [.int 0, .ref a2, .int 0, .int 0, .int 0, .int 0, .int 0, .int (-1), .ref a1, .ref a3, .ref a4, .ref a5, .int 0, .int 0, .int 0, .int 0, .int 0, .ref a6]))] H := hP
  have hD : va_D A [(a1, .inl (cs 0, 45783, .inl (layF (fun _ => 0) 1))), (a0, .inr (9, [.int 0, .ref a2, .int 0, .int 0, .int 0, .int 0, .int 0, .int (-1), .ref a1, .ref a3, .ref a4, .ref a5, .int 0, .int 0, .int 0, .int 0, .int 0, .ref a6]))] := hD
  refine W.widen (k := 0) (n := 0) (Nat.le_of_ble_eq_true rfl) (Nat.le_of_ble_eq_true rfl) ?_
  refine lv_if_ne (tgt := 47) hx hb dX9_cut_10 (by decide) (fun c9 => absurd (by decide) c9) (fun _ => ?_)
  refine lv_aload_n hx hb dX9_cut_13 rfl (lv_at hl 0 rfl) ?_
  refine lv_iload_n hx hb dX9_cut_14 rfl (lv_at hl 2 rfl) ?_
  refine cv_i (As := [.int 0]) (rest := []) (b := a0) (wr := []) ⟨hx, hb, hml, hown, hts⟩ (fun sz => k170_X9_noPlayer l D cs sz a0 a1 a2 a3 a4 a5 a6) (cwV 1 hts gX9_cut_X9_noPlayer rfl rfl rfl hdX9_noPlayer_v ⟨Nat.le_of_ble_eq_true rfl, Nat.le_of_ble_eq_true rfl⟩) hN hP hD hS hA [1, 0] [] rfl rfl rfl rfl (by decide) (ci := 9) (q0 := 0) rfl rfl rfl rfl hl.1 (Nat.le_of_ble_eq_true rfl) dX9_cut_15 (Nat.le_of_ble_eq_true rfl) (Nat.le_of_ble_eq_true rfl) (fun u1 H locs hP hD hS => ?_)
  have hP : va_P D vwCl [(a1, .inl (cs 0, 45783, .inl (layF (fun _ => 0) 1))), (a0, .inr (9, [.int 0, .ref a2, .int 0, .int 0, .int 0, .int 0, .int 0, .int (-1), .ref a1, .ref a3, .ref a4, .ref a5, .int 0, .int 0, .int 0, .int 0, .int 0, .ref a6]))] H := hP
  have hD : va_D A [(a1, .inl (cs 0, 45783, .inl (layF (fun _ => 0) 1))), (a0, .inr (9, [.int 0, .ref a2, .int 0, .int 0, .int 0, .int 0, .int 0, .int (-1), .ref a1, .ref a3, .ref a4, .ref a5, .int 0, .int 0, .int 0, .int 0, .int 0, .ref a6]))] := hD
  refine W.widen (k := 0) (n := 0) (Nat.le_of_ble_eq_true rfl) (Nat.le_of_ble_eq_true rfl) ?_
  refine lv_if_ne (tgt := 47) hx hb dX9_cut_18 (by decide) (fun c9 => absurd (by decide) c9) (fun _ => ?_)
  refine lv_aload_n hx hb dX9_cut_21 rfl (lv_at hl 0 rfl) ?_
  refine lv_aload_n hx hb dX9_cut_22 rfl (lv_at hl 0 rfl) ?_
  refine va_get (D := D) (ci := 9) (v := .ref a1) (C := RX9) (T := TX9) (N := 18) hx hb hts iX9_cut_9 hown hN.1 hP 1 rfl rfl 8 (by decide) (hts _ mX9_cut_2) (fun _ h9 => h9) rfl dX9_cut_23 ?_
  refine lv_iload_n hx hb dX9_cut_26 rfl (lv_at hl 1 rfl) ?_
  refine lv_iload_n hx hb dX9_cut_27 rfl (lv_at hl 2 rfl) ?_
  refine cs_i (As := [.int 0, .int 0]) (rest := [.ref a1, .ref a0]) (wr := [(a1, .inl (cs 0, 45783, .inl (layF (fun _ => 0) 1))), (a0, .inr (9, [.int 0, .ref a2, .int 0, .int 0, .int 0, .int 0, .int 0, .int (-1), .ref a1, .ref a3, .ref a4, .ref a5, .int 0, .int 0, .int 0, .int 0, .int 0, .ref a6]))]) ⟨hx, hb, hml, hown, hts⟩ (fun sz => k279_X9_linkAt l D cs sz ) (va_cwS 2 hts gX9_cut_X9_linkAt rfl rfl rfl hdX9_linkAt_o ⟨Nat.le_of_ble_eq_true rfl, Nat.le_of_ble_eq_true rfl⟩) hN hP hD hS hA [] [0, 1] rfl rfl rfl rfl (by decide) rfl rfl hl.1 (Nat.le_of_ble_eq_true rfl) dX9_cut_28 (Nat.le_of_ble_eq_true rfl) (Nat.le_of_ble_eq_true rfl) (fun u2 H locs hP hD hS => ?_)
  have hP : va_P D vwCl [(a1, .inl (cs 0, 45783, .inl (layF (fun _ => 0) 1))), (a0, .inr (9, [.int 0, .ref a2, .int 0, .int 0, .int 0, .int 0, .int 0, .int (-1), .ref a1, .ref a3, .ref a4, .ref a5, .int 0, .int 0, .int 0, .int 0, .int 0, .ref a6]))] H := hP
  have hD : va_D A [(a1, .inl (cs 0, 45783, .inl (layF (fun _ => 0) 1))), (a0, .inr (9, [.int 0, .ref a2, .int 0, .int 0, .int 0, .int 0, .int 0, .int (-1), .ref a1, .ref a3, .ref a4, .ref a5, .int 0, .int 0, .int 0, .int 0, .int 0, .ref a6]))] := hD
  refine W.widen (k := 0) (n := 0) (Nat.le_of_ble_eq_true rfl) (Nat.le_of_ble_eq_true rfl) ?_
  refine ld_i (v := 0) hx hb hN hP 0 rfl (vin (by decide +kernel)) (by first | rfl | decide +kernel) dX9_cut_31 ?_
  refine lv_if_ne (tgt := 39) hx hb dX9_cut_32 (by decide) (fun c9 => absurd (by decide) c9) (fun _ => ?_)
  refine lv_iconst (v := 1) hx hb dX9_cut_35 (by decide) ?_
  refine lv_goto (tgt := 40) hx hb dX9_cut_36 (by decide) ?_
  refine lv_iconst (v := 2) hx hb dX9_cut_40 (by decide) ?_
  refine cv_i (As := [.int 1, .int 2]) (rest := []) (b := a0) (wr := [(a1, .inl (cs 0, 45783, .inl (layF (fun _ => 0) 1)))]) ⟨hx, hb, hml, hown, hts⟩ (fun sz => k257_X9_fails l D cs sz a0 a2 a1 a3 a4 a5 a6) (cwV 2 hts gX9_cut_X9_fails rfl rfl rfl hdX9_fails_v ⟨Nat.le_of_ble_eq_true rfl, Nat.le_of_ble_eq_true rfl⟩) hN hP hD hS hA [1] [0] rfl rfl rfl rfl (by decide) (ci := 9) (q0 := 0) rfl rfl rfl rfl hl.1 (Nat.le_of_ble_eq_true rfl) dX9_cut_41 (Nat.le_of_ble_eq_true rfl) (Nat.le_of_ble_eq_true rfl) (fun u3 H locs hP hD hS => ?_)
  have hP : va_P D vwCl [(a1, .inl (cs 0, 45783, .inl (layF (fun _ => 0) 1))), (a0, .inr (9, [.int 2, .ref a2, .int 0, .int 0, .int 0, .int 0, .int 0, .int (-1), .ref a1, .ref a3, .ref a4, .ref a5, .int 0, .int 0, .int 0, .int 0, .int 0, .ref a6]))] H := hP
  have hD : va_D A [(a1, .inl (cs 0, 45783, .inl (layF (fun _ => 0) 1))), (a0, .inr (9, [.int 2, .ref a2, .int 0, .int 0, .int 0, .int 0, .int 0, .int (-1), .ref a1, .ref a3, .ref a4, .ref a5, .int 0, .int 0, .int 0, .int 0, .int 0, .ref a6]))] := hD
  refine W.widen (k := 0) (n := 0) (Nat.le_of_ble_eq_true rfl) (Nat.le_of_ble_eq_true rfl) ?_
  refine lv_if_eq (tgt := 49) hx hb dX9_cut_44 (by decide) (fun c9 => absurd c9 (by decide)) (fun _ => ?_)
  refine lv_iconst (v := 0) hx hb dX9_cut_47 (by decide) ?_
  exact en_i (fun k => ([] : List Nat).getD k 0) hx hb hr hlocks rfl rfl hP hD hS (Nat.le_of_ble_eq_true rfl) (Nat.le_of_ble_eq_true rfl) dX9_cut_48
theorem hdL_cut_o : yL_cut.cls ≠ "java/lang/invoke/MethodHandle" ∧ yL_cut.cls ≠ "java/lang/invoke/VarHandle" ∧ (parseMethodDescriptor yL_cut.desc).map (fun d => d.parameters.length) = some 5 := by decide +kernel
theorem hdX9_cut_v : yX9_cut.cls = RX9 ∧ yX9_cut.cls ≠ "java/lang/invoke/MethodHandle" ∧ yX9_cut.cls ≠ "java/lang/invoke/VarHandle" ∧ (parseMethodDescriptor yX9_cut.desc).map (fun d => d.parameters.length) = some 3 := by decide +kernel
set_option maxHeartbeats 4000000 in
set_option maxRecDepth 100000 in
theorem law_16_0t {p : Program} {l : Launch} {e : Env} {s : State} {m : MethodId} {args : Array Value} {below : List Frame} {meth : Method} {c : Code} {Q : State → Prop} {D : va_G} {cs : Nat → ClassId} {A : Nat → Prop} {xs : Nat → Int32} {b : Nat} (hx : p.tables.exec = Jvm.exec) (hb : c.code = cL_law) (hml : c.maxLocals = 9) (hown : s.vm.findClass RL = some m.cls) (hts : ∀ w ∈ wsL_law, w.before args s = true) (hN : NK D cs s) (hX : va_X b 6 xs s s.heap) (hbl : b < s.heap.size) (hbA : ¬ A b) (hA : ∀ q : Nat, s.heap.size ≤ q → A q) (hZ : ZX A s s.heap) (hZS : ZS cs A s s.heap) (hlt : l.stackTraces = false)
    (kend : ∀ (H : Heap) (locs : List Loc) (ls : Array Slot), va_S A s.heap H locs → lv_has ls 9 [(0, .ref b), (4, .int 0)] → W p l e room_1 s m args below meth c H locs 600002 7302232 Q (F0 m 1169 ls []))
    (a0 a1 a2 a3 a4 a5 a6 a7 a8 a9 a10 a11 a12 a13 a14 a15 a16 a17 a18 a19 a20 a21 a22 : Nat) (y3 : Int32) (hy1 : xs 1 = (0)) (hy2 : xs 2 = (0)) (hy3 : xs 3 = (y3)) (e3 : ¬ y3 = 0) (H : Heap) (locs : List Loc) (ls : Array Slot) (hP : va_P D vwCl [(a0, .inr (8, [.ref a6, .ref a3, .ref a7, .ref a8, .int 0, .int 0, .int (-1)])), (a1, .inl (cs 0, 64, .inl (fun _ => 0))), (a2, .inr (6, [.int 1, .int 1, .int 50, .null, .ref a9, .ref a10, .ref a11, .ref a1])), (a3, .inr (7, [.ref a2, .ref a12, .ref a13, .ref a14, .ref a15, .ref a16, .long 0, .int 0, .int 0, .int 0, .int 0, .int 0, .int 0, .int 0, .int 0, .int 0])), (a4, .inr (9, [.int 0, .ref a17, .int 0, .int 0, .int 0, .int 0, .int 0, .int (-1), .ref a5, .ref a18, .ref a19, .ref a20, .int 0, .int 0, .int 0, .int 0, .int 0, .ref a21])), (a5, .inl (cs 0, 45783, .inl (layF (fun _ => 0) 1)))] H) (hD : va_D A [(a0, .inr (8, [.ref a6, .ref a3, .ref a7, .ref a8, .int 0, .int 0, .int (-1)])), (a1, .inl (cs 0, 64, .inl (fun _ => 0))), (a2, .inr (6, [.int 1, .int 1, .int 50, .null, .ref a9, .ref a10, .ref a11, .ref a1])), (a3, .inr (7, [.ref a2, .ref a12, .ref a13, .ref a14, .ref a15, .ref a16, .long 0, .int 0, .int 0, .int 0, .int 0, .int 0, .int 0, .int 0, .int 0, .int 0])), (a4, .inr (9, [.int 0, .ref a17, .int 0, .int 0, .int 0, .int 0, .int 0, .int (-1), .ref a5, .ref a18, .ref a19, .ref a20, .int 0, .int 0, .int 0, .int 0, .int 0, .ref a21])), (a5, .inl (cs 0, 45783, .inl (layF (fun _ => 0) 1)))]) (hS : va_S A s.heap H locs) (hl : lv_has ls 9 [(4, .int 0), (3, .ref a22), (2, .ref a4), (1, .ref a0), (0, .ref b)]) : W p l e room_1 s m args below meth c H locs 391 467079 Q (F0 m 983 ls []) := by
  refine lv_aload_n hx hb dL_law_983 rfl (lv_at hl 3 rfl) ?_
  refine lv_aload_n hx hb dL_law_984 rfl (lv_at hl 4 rfl) ?_
  refine lv_iload hx hb dL_law_985 (lv_at hl 0 rfl) ?_
  refine lv_iconst (v := 1) hx hb dL_law_987 (by decide) ?_
  refine lv_iadd hx hb dL_law_988 ?_
  refine tp_i (1) (by decide) ?_
  refine va_sld hx hb hX hbl hbA hS (vin (by decide +kernel)) dL_law_989 ?_
  refine tp_i (0) hy1 ?_
  refine lv_aload_n hx hb dL_law_990 rfl (lv_at hl 4 rfl) ?_
  refine lv_iload hx hb dL_law_991 (lv_at hl 0 rfl) ?_
  refine lv_iconst (v := 2) hx hb dL_law_993 (by decide) ?_
  refine lv_iadd hx hb dL_law_994 ?_
  refine tp_i (2) (by decide) ?_
  refine va_sld hx hb hX hbl hbA hS (vin (by decide +kernel)) dL_law_995 ?_
  refine tp_i (0) hy2 ?_
  refine lv_aload_n hx hb dL_law_996 rfl (lv_at hl 4 rfl) ?_
  refine lv_iload hx hb dL_law_997 (lv_at hl 0 rfl) ?_
  refine lv_iconst (v := 3) hx hb dL_law_999 (by decide) ?_
  refine lv_iadd hx hb dL_law_1000 ?_
  refine tp_i (3) (by decide) ?_
  refine va_sld hx hb hX hbl hbA hS (vin (by decide +kernel)) dL_law_1001 ?_
  refine tp_i (y3) hy3 ?_
  refine lv_if_eq (tgt := 1009) hx hb dL_law_1002 (by decide) (fun c9 => absurd c9 e3) (fun _ => ?_)
  refine lv_iconst (v := 1) hx hb dL_law_1005 (by decide) ?_
  refine lv_goto (tgt := 1010) hx hb dL_law_1006 (by decide) ?_
  refine lv_aload_n hx hb dL_law_1010 rfl (lv_at hl 1 rfl) ?_
  refine ch_i (As := [.ref a0, .int 0, .int 0, .int 1, .ref a22]) (rest := []) (wr := [(a4, .inr (9, [.int 0, .ref a17, .int 0, .int 0, .int 0, .int 0, .int 0, .int (-1), .ref a5, .ref a18, .ref a19, .ref a20, .int 0, .int 0, .int 0, .int 0, .int 0, .ref a21])), (a5, .inl (cs 0, 45783, .inl (layF (fun _ => 0) 1)))]) ⟨hx, hb, hml, hown, hts⟩ (fun sz => k557_L_cut l D cs sz hlt a0 a3 a2 a1 a22 a6 a7 a8 a12 a13 a14 a15 a16 a9 a10 a11) (vx_cwSW 5 hts gL_law_L_cut rfl rfl rfl hdL_cut_o ⟨Nat.le_of_ble_eq_true rfl, Nat.le_of_ble_eq_true rfl⟩) hN hP hD hS hA hZ [0, 3, 2, 1] [4, 5] rfl rfl rfl rfl (by decide) rfl rfl hl.1 (Nat.le_of_ble_eq_true rfl) dL_law_1011 (Nat.le_of_ble_eq_true rfl) (Nat.le_of_ble_eq_true rfl) (fun u0 H locs hP hD hS => ?_)
  have hP : va_P D vwCl [(a4, .inr (9, [.int 0, .ref a17, .int 0, .int 0, .int 0, .int 0, .int 0, .int (-1), .ref a5, .ref a18, .ref a19, .ref a20, .int 0, .int 0, .int 0, .int 0, .int 0, .ref a21])), (a5, .inl (cs 0, 45783, .inl (layF (fun _ => 0) 1)))] H := hP
  have hD : va_D A [(a4, .inr (9, [.int 0, .ref a17, .int 0, .int 0, .int 0, .int 0, .int 0, .int (-1), .ref a5, .ref a18, .ref a19, .ref a20, .int 0, .int 0, .int 0, .int 0, .int 0, .ref a21])), (a5, .inl (cs 0, 45783, .inl (layF (fun _ => 0) 1)))] := hD
  refine W.widen (k := 392) (n := 467085) (Nat.le_of_ble_eq_true rfl) (Nat.le_of_ble_eq_true rfl) ?_
  refine lv_istore (lv' := [(5, .int 2), (4, .int 0), (3, .ref a22), (2, .ref a4), (1, .ref a0), (0, .ref b)]) hx hb dL_law_1014 hl (by decide) rfl (fun ls hl => ?_)
  refine lv_aload_n hx hb dL_law_1016 rfl (lv_at hl 3 rfl) ?_
  refine lv_aload_n hx hb dL_law_1017 rfl (lv_at hl 5 rfl) ?_
  refine lv_iload hx hb dL_law_1018 (lv_at hl 1 rfl) ?_
  refine lv_iconst (v := 1) hx hb dL_law_1020 (by decide) ?_
  refine lv_iadd hx hb dL_law_1021 ?_
  refine tp_i (1) (by decide) ?_
  refine va_sld hx hb hX hbl hbA hS (vin (by decide +kernel)) dL_law_1022 ?_
  refine tp_i (0) hy1 ?_
  refine lv_aload_n hx hb dL_law_1023 rfl (lv_at hl 5 rfl) ?_
  refine lv_iload hx hb dL_law_1024 (lv_at hl 1 rfl) ?_
  refine lv_iconst (v := 2) hx hb dL_law_1026 (by decide) ?_
  refine lv_iadd hx hb dL_law_1027 ?_
  refine tp_i (2) (by decide) ?_
  refine va_sld hx hb hX hbl hbA hS (vin (by decide +kernel)) dL_law_1028 ?_
  refine tp_i (0) hy2 ?_
  refine lv_aload_n hx hb dL_law_1029 rfl (lv_at hl 5 rfl) ?_
  refine lv_iload hx hb dL_law_1030 (lv_at hl 1 rfl) ?_
  refine lv_iconst (v := 3) hx hb dL_law_1032 (by decide) ?_
  refine lv_iadd hx hb dL_law_1033 ?_
  refine tp_i (3) (by decide) ?_
  refine va_sld hx hb hX hbl hbA hS (vin (by decide +kernel)) dL_law_1034 ?_
  refine tp_i (y3) hy3 ?_
  refine lv_if_eq (tgt := 1042) hx hb dL_law_1035 (by decide) (fun c9 => absurd c9 e3) (fun _ => ?_)
  refine lv_iconst (v := 1) hx hb dL_law_1038 (by decide) ?_
  refine lv_goto (tgt := 1043) hx hb dL_law_1039 (by decide) ?_
  refine cv_i (As := [.int 0, .int 0, .int 1]) (rest := []) (b := a4) (wr := []) ⟨hx, hb, hml, hown, hts⟩ (fun sz => k558_X9_cut l D cs sz a4 a5 a17 a18 a19 a20 a21) (cwV 3 hts gL_law_X9_cut rfl rfl rfl hdX9_cut_v ⟨Nat.le_of_ble_eq_true rfl, Nat.le_of_ble_eq_true rfl⟩) hN hP hD hS hA [0, 1] [] rfl rfl rfl rfl (by decide) (ci := 9) (q0 := 0) rfl rfl rfl rfl hl.1 (Nat.le_of_ble_eq_true rfl) dL_law_1043 (Nat.le_of_ble_eq_true rfl) (Nat.le_of_ble_eq_true rfl) (fun u1 H locs hP hD hS => ?_)
  have hP : va_P D vwCl [(a5, .inl (cs 0, 45783, .inl (layF (fun _ => 0) 1))), (a4, .inr (9, [.int 2, .ref a17, .int 0, .int 0, .int 0, .int 0, .int 0, .int (-1), .ref a5, .ref a18, .ref a19, .ref a20, .int 0, .int 0, .int 0, .int 0, .int 0, .ref a21]))] H := hP
  have hD : va_D A [(a5, .inl (cs 0, 45783, .inl (layF (fun _ => 0) 1))), (a4, .inr (9, [.int 2, .ref a17, .int 0, .int 0, .int 0, .int 0, .int 0, .int (-1), .ref a5, .ref a18, .ref a19, .ref a20, .int 0, .int 0, .int 0, .int 0, .int 0, .ref a21]))] := hD
  refine W.widen (k := 392) (n := 467085) (Nat.le_of_ble_eq_true rfl) (Nat.le_of_ble_eq_true rfl) ?_
  refine lv_istore (lv' := [(6, .int 0), (5, .int 2), (4, .int 0), (3, .ref a22), (2, .ref a4), (1, .ref a0), (0, .ref b)]) hx hb dL_law_1046 hl (by decide) rfl (fun ls hl => ?_)
  refine lv_aload_n hx hb dL_law_1048 rfl (lv_at hl 4 rfl) ?_
  refine cv_i (As := []) (rest := []) (b := a4) (wr := [(a5, .inl (cs 0, 45783, .inl (layF (fun _ => 0) 1)))]) ⟨hx, hb, hml, hown, hts⟩ (fun sz => k259_X9_thrown l D cs sz a4 a17 a5 a18 a19 a20 a21) (cwV 0 hts gL_law_X9_thrown rfl rfl rfl hdX9_thrown_v ⟨Nat.le_of_ble_eq_true rfl, Nat.le_of_ble_eq_true rfl⟩) hN hP hD hS hA [1] [0] rfl rfl rfl rfl (by decide) (ci := 9) (q0 := 0) rfl rfl rfl rfl hl.1 (Nat.le_of_ble_eq_true rfl) dL_law_1049 (Nat.le_of_ble_eq_true rfl) (Nat.le_of_ble_eq_true rfl) (fun u2 H locs hP hD hS => ?_)
  have hP : va_P D vwCl [(a5, .inl (cs 0, 45783, .inl (layF (fun _ => 0) 1))), (a4, .inr (9, [.int 2, .ref a17, .int 0, .int 0, .int 0, .int 0, .int 0, .int (-1), .ref a5, .ref a18, .ref a19, .ref a20, .int 0, .int 0, .int 0, .int 0, .int 0, .ref a21]))] H := hP
  have hD : va_D A [(a5, .inl (cs 0, 45783, .inl (layF (fun _ => 0) 1))), (a4, .inr (9, [.int 2, .ref a17, .int 0, .int 0, .int 0, .int 0, .int 0, .int (-1), .ref a5, .ref a18, .ref a19, .ref a20, .int 0, .int 0, .int 0, .int 0, .int 0, .ref a21]))] := hD
  refine W.widen (k := 392) (n := 467085) (Nat.le_of_ble_eq_true rfl) (Nat.le_of_ble_eq_true rfl) ?_
  refine lv_iload hx hb dL_law_1052 (lv_at hl 1 rfl) ?_
  refine lv_icmp_eq (tgt := 1059) hx hb dL_law_1054 (by decide) (fun _ => ?_) (fun c9 => absurd (by decide) c9)
  refine lv_iload hx hb dL_law_1059 (lv_at hl 1 rfl) ?_
  refine lv_if_ne (tgt := 1083) hx hb dL_law_1061 (by decide) (fun _ => ?_) (fun c9 => absurd c9 (by decide))
  refine lv_goto (tgt := 1169) hx hb dL_law_1083 (by decide) ?_
  refine W.widen (k := 600002) (n := 7302232) (Nat.le_of_ble_eq_true rfl) (Nat.le_of_ble_eq_true rfl) ?_
  exact kend _ _ _ hS (lv_sub hl [6, 2] rfl)

set_option maxHeartbeats 4000000 in
set_option maxRecDepth 100000 in
theorem k559_X8_cut (l : Launch) (D : va_G) (cs : Nat → ClassId) (sz : Nat) (hlt : l.stackTraces = false) (a0 a1 a2 a3 a4 a5 a6 a7 a8 a9 a10 a11 a12 a13 a14 : Nat) (x0 : Int32) (hf0 : x0 < 0) : KX l yX8_cut wsX8_cut 7 121 1 6 D cs sz [.ref a0, .int 0, .int x0, .int 1] [(a0, .inr (8, [.ref a3, .ref a1, .ref a4, .ref a5, .int 0, .int 0, .int (-1)])), (a1, .inr (7, [.ref a2, .ref a6, .ref a7, .ref a8, .ref a9, .ref a10, .long 0, .int 0, .int 0, .int 0, .int 0, .int 0, .int 0, .int 0, .int 0, .int 0])), (a2, .inr (6, [.int 1, .int 1, .int 50, .null, .ref a11, .ref a12, .ref a13, .ref a14]))] QnI "java/lang/IndexOutOfBoundsException" := by
  refine KX.of cX8_cut 5 (some .boolean) (by decide) rfl (Nat.le_of_ble_eq_true rfl) ?_
  intro p e s m below meth c A ls hx hb hr hml hown hts hlocks hnx hP hN hD hA hS hl hZ
  have hown : s.vm.findClass RX8 = some m.cls := hown
  have hl : lv_has ls 5 [(0, .ref a0), (1, .int 0), (2, .int x0), (3, .int 1)] := hl
  refine lv_aload_n hx hb dX8_cut_0 rfl (lv_at hl 0 rfl) ?_
  refine lv_iload_n hx hb dX8_cut_1 rfl (lv_at hl 1 rfl) ?_
  refine cv_v (As := [.int 0]) (rest := []) (b := a0) (wr := []) ⟨hx, hb, hml, hown, hts⟩ (fun sz => k164_X8_refuseNoPlayer l D cs sz a0 a1 a2 a3 a4 a5 a6 a7 a8 a9 a10 a11 a12 a13 a14) (cwV 1 hts gX8_cut_X8_refuseNoPlayer rfl rfl rfl hdX8_refuseNoPlayer_v ⟨Nat.le_of_ble_eq_true rfl, Nat.le_of_ble_eq_true rfl⟩) hN hP hD hS hA [0, 1, 2] [] rfl rfl rfl rfl (by decide) (ci := 8) (q0 := 0) rfl rfl rfl rfl hl.1 (Nat.le_of_ble_eq_true rfl) dX8_cut_2 (Nat.le_of_ble_eq_true rfl) (Nat.le_of_ble_eq_true rfl) (fun u0 H locs hP hD hS => ?_)
  have hP : va_P D vwCl [(a0, .inr (8, [.ref a3, .ref a1, .ref a4, .ref a5, .int 0, .int 0, .int (-1)])), (a1, .inr (7, [.ref a2, .ref a6, .ref a7, .ref a8, .ref a9, .ref a10, .long 0, .int 0, .int 0, .int 0, .int 0, .int 0, .int 0, .int 0, .int 0, .int 0])), (a2, .inr (6, [.int 1, .int 1, .int 50, .null, .ref a11, .ref a12, .ref a13, .ref a14]))] H := hP
  have hD : va_D A [(a0, .inr (8, [.ref a3, .ref a1, .ref a4, .ref a5, .int 0, .int 0, .int (-1)])), (a1, .inr (7, [.ref a2, .ref a6, .ref a7, .ref a8, .ref a9, .ref a10, .long 0, .int 0, .int 0, .int 0, .int 0, .int 0, .int 0, .int 0, .int 0, .int 0])), (a2, .inr (6, [.int 1, .int 1, .int 50, .null, .ref a11, .ref a12, .ref a13, .ref a14]))] := hD
  refine W.widen (k := 0) (n := 0) (Nat.le_of_ble_eq_true rfl) (Nat.le_of_ble_eq_true rfl) ?_
  refine lv_aload_n hx hb dX8_cut_5 rfl (lv_at hl 0 rfl) ?_
  refine lv_iload_n hx hb dX8_cut_6 rfl (lv_at hl 2 rfl) ?_
  exact xp_v (As := [.int x0]) (rest := []) (b := a0) ⟨hx, hb, hml, hown, hts⟩ (fun sz => k265_X8_refuseNoPlayer l D cs sz hlt a0 a3 a1 a4 a5 (x0) hf0) (cwV 1 hts gX8_cut_X8_refuseNoPlayer rfl rfl rfl hdX8_refuseNoPlayer_v ⟨Nat.le_of_ble_eq_true rfl, Nat.le_of_ble_eq_true rfl⟩) hN hP hD hS hA hZ [0] rfl rfl (ci := 8) (q0 := 0) rfl rfl rfl rfl hl.1 (Nat.le_of_ble_eq_true rfl) dX8_cut_7 (Nat.le_of_ble_eq_true rfl) (Nat.le_of_ble_eq_true rfl) hnx hlocks (Nat.le_of_ble_eq_true rfl) (Nat.le_of_ble_eq_true rfl)
set_option maxHeartbeats 4000000 in
set_option maxRecDepth 100000 in
theorem k560_L_cut (l : Launch) (D : va_G) (cs : Nat → ClassId) (sz : Nat) (hlt : l.stackTraces = false) (a0 a1 a2 a3 a4 a5 a6 a7 a8 a9 a10 a11 a12 a13 a14 a15 : Nat) (x0 : Int32) (hf0 : x0 < 0) : KH l yL_cut wsL_cut 8 145 1 6 D cs sz [.ref a0, .int 0, .int x0, .int 1, .ref a3] [(a0, .inr (8, [.ref a4, .ref a1, .ref a5, .ref a6, .int 0, .int 0, .int (-1)])), (a1, .inr (7, [.ref a2, .ref a7, .ref a8, .ref a9, .ref a10, .ref a11, .long 0, .int 0, .int 0, .int 0, .int 0, .int 0, .int 0, .int 0, .int 0, .int 0])), (a2, .inr (6, [.int 1, .int 1, .int 50, .null, .ref a12, .ref a13, .ref a14, .ref a15]))] (fun u => []) (1) := by
  refine KH.of cL_cut 6 (some .int) (by decide) rfl (Nat.le_of_ble_eq_true rfl) ?_
  intro p e s m below meth c A ls hx hb hr hml hown hts hlocks htab hP hN hD hA hS hl hZ
  have hown : s.vm.findClass RL = some m.cls := hown
  have hl : lv_has ls 6 [(0, .ref a0), (1, .int 0), (2, .int x0), (3, .int 1), (4, .ref a3)] := hl
  refine lv_aload hx hb dL_cut_0 (lv_at hl 4 rfl) ?_
  refine lv_iconst (v := 0) hx hb dL_cut_2 (by decide) ?_
  refine lv_aload_n hx hb dL_cut_3 rfl (lv_at hl 0 rfl) ?_
  refine lv_iload_n hx hb dL_cut_4 rfl (lv_at hl 1 rfl) ?_
  refine lv_iload_n hx hb dL_cut_5 rfl (lv_at hl 2 rfl) ?_
  refine lv_iload_n hx hb dL_cut_6 rfl (lv_at hl 3 rfl) ?_
  refine xc_i (wr := []) (As := [.int 0, .int x0, .int 1]) (rest := [.int 0, .ref a3]) (b := a0) ⟨hx, hb, hml, hown, hts⟩ (fun sz => k559_X8_cut l D cs sz hlt a0 a1 a2 a4 a5 a6 a7 a8 a9 a10 a11 a12 a13 a14 a15 (x0) hf0) (cwV 3 hts gL_cut_X8_cut rfl rfl rfl hdX8_cut_v ⟨Nat.le_of_ble_eq_true rfl, Nat.le_of_ble_eq_true rfl⟩) hN hP hD hS hA hZ [0, 1, 2] rfl rfl (ci := 8) (q0 := 0) rfl rfl rfl rfl hl.1 (Nat.le_of_ble_eq_true rfl) dL_cut_7 (Nat.le_of_ble_eq_true rfl) (Nat.le_of_ble_eq_true rfl) [] rfl rfl (by decide) [] ⟨0, 19, 22, 22⟩ [⟨0, 19, 26, 41⟩] htab (fun z h => nomatch h) rfl (by decide) (hts _ mL_cut_1) 2 rfl (fun q9_7 H locs hP hD hS => ?_)
  have hP : va_P D vwCl [] H := hP
  have hD : va_D A [] := hD
  refine W.widen (k := 1) (n := 6) (Nat.le_of_ble_eq_true rfl) (Nat.le_of_ble_eq_true rfl) ?_
  refine lv_astore (lv' := [(5, .ref q9_7), (0, .ref a0), (1, .int 0), (2, .int x0), (3, .int 1), (4, .ref a3)]) hx hb dL_cut_22 hl (by decide) rfl (fun ls hl => ?_)
  refine lv_iconst (v := 1) hx hb dL_cut_24 (by decide) ?_
  exact en_i (fun k => ([] : List Nat).getD k 0) hx hb hr hlocks rfl rfl hP hD hS (Nat.le_of_ble_eq_true rfl) (Nat.le_of_ble_eq_true rfl) dL_cut_25
set_option maxHeartbeats 4000000 in
set_option maxRecDepth 100000 in
theorem k561_X9_cut (l : Launch) (D : va_G) (cs : Nat → ClassId) (sz : Nat) (a0 a1 a2 a3 a4 a5 a6 : Nat) (x0 : Int32) (hf0 : x0 < 0) : KI l yX9_cut wsX9_cut 2 43 0 0 D cs sz [.ref a0, .int 0, .int x0, .int 1] [(a0, .inr (9, [.int 0, .ref a2, .int 0, .int 0, .int 0, .int 0, .int 0, .int (-1), .ref a1, .ref a3, .ref a4, .ref a5, .int 0, .int 0, .int 0, .int 0, .int 0, .ref a6])), (a1, .inl (cs 0, 45783, .inl (layF (fun _ => 0) 1)))] (fun u => [(a1, .inl (cs 0, 45783, .inl (layF (fun _ => 0) 1))), (a0, .inr (9, [.int 1, .ref a2, .int 0, .int 0, .int 0, .int 0, .int 0, .int (-1), .ref a1, .ref a3, .ref a4, .ref a5, .int 0, .int 0, .int 0, .int 0, .int 0, .ref a6]))]) (0) := by
  refine KI.of cX9_cut 6 (some .boolean) (by decide) rfl (Nat.le_of_ble_eq_true rfl) ?_
  intro p e s m below meth c A ls hx hb hr hml hown hts hlocks hin hP hN hD hA hS hl
  have hown : s.vm.findClass RX9 = some m.cls := hown
  have hl : lv_has ls 6 [(0, .ref a0), (1, .int 0), (2, .int x0), (3, .int 1)] := hl
  refine lv_aload_n hx hb dX9_cut_0 rfl (lv_at hl 0 rfl) ?_
  refine lv_iconst (v := 0) hx hb dX9_cut_1 (by decide) ?_
  refine va_put (D := D) (ci := 9) (v := .int 0) (ty := .int) (C := RX9) (T := TX9) (N := 18) hx hb hts iX9_cut_9 tyX9 tyX9_ok nmX9 hown hN.1 hP hD hS 0 rfl rfl 0 (by decide) (hts _ mX9_cut_1) (fun _ h9 => h9) rfl (by decide +kernel) rfl rfl (Nat.le_of_ble_eq_true rfl) dX9_cut_2 (fun H locs hP hD hS => ?_)
  have hP : va_P D vwCl [(a0, .inr (9, [.int 0, .ref a2, .int 0, .int 0, .int 0, .int 0, .int 0, .int (-1), .ref a1, .ref a3, .ref a4, .ref a5, .int 0, .int 0, .int 0, .int 0, .int 0, .ref a6])), (a1, .inl (cs 0, 45783, .inl (layF (fun _ => 0) 1)))] H := hP
  have hD : va_D A [(a0, .inr (9, [.int 0, .ref a2, .int 0, .int 0, .int 0, .int 0, .int 0, .int (-1), .ref a1, .ref a3, .ref a4, .ref a5, .int 0, .int 0, .int 0, .int 0, .int 0, .ref a6])), (a1, .inl (cs 0, 45783, .inl (layF (fun _ => 0) 1)))] := hD
  refine lv_aload_n hx hb dX9_cut_5 rfl (lv_at hl 0 rfl) ?_
  refine lv_iload_n hx hb dX9_cut_6 rfl (lv_at hl 1 rfl) ?_
  refine cv_i (As := [.int 0]) (rest := []) (b := a0) (wr := []) ⟨hx, hb, hml, hown, hts⟩ (fun sz => k170_X9_noPlayer l D cs sz a0 a1 a2 a3 a4 a5 a6) (cwV 1 hts gX9_cut_X9_noPlayer rfl rfl rfl hdX9_noPlayer_v ⟨Nat.le_of_ble_eq_true rfl, Nat.le_of_ble_eq_true rfl⟩) hN hP hD hS hA [0, 1] [] rfl rfl rfl rfl (by decide) (ci := 9) (q0 := 0) rfl rfl rfl rfl hl.1 (Nat.le_of_ble_eq_true rfl) dX9_cut_7 (Nat.le_of_ble_eq_true rfl) (Nat.le_of_ble_eq_true rfl) (fun u0 H locs hP hD hS => ?_)
  have hP : va_P D vwCl [(a1, .inl (cs 0, 45783, .inl (layF (fun _ => 0) 1))), (a0, .inr (9, [.int 0, .ref a2, .int 0, .int 0, .int 0, .int 0, .int 0, .int (-1), .ref a1, .ref a3, .ref a4, .ref a5, .int 0, .int 0, .int 0, .int 0, .int 0, .ref a6]))] H := hP
  have hD : va_D A [(a1, .inl (cs 0, 45783, .inl (layF (fun _ => 0) 1))), (a0, .inr (9, [.int 0, .ref a2, .int 0, .int 0, .int 0, .int 0, .int 0, .int (-1), .ref a1, .ref a3, .ref a4, .ref a5, .int 0, .int 0, .int 0, .int 0, .int 0, .ref a6]))] := hD
  refine W.widen (k := 0) (n := 0) (Nat.le_of_ble_eq_true rfl) (Nat.le_of_ble_eq_true rfl) ?_
  refine lv_if_ne (tgt := 47) hx hb dX9_cut_10 (by decide) (fun c9 => absurd (by decide) c9) (fun _ => ?_)
  refine lv_aload_n hx hb dX9_cut_13 rfl (lv_at hl 0 rfl) ?_
  refine lv_iload_n hx hb dX9_cut_14 rfl (lv_at hl 2 rfl) ?_
  refine cv_i (As := [.int x0]) (rest := []) (b := a0) (wr := []) ⟨hx, hb, hml, hown, hts⟩ (fun sz => k269_X9_noPlayer l D cs sz a0 a1 a2 a3 a4 a5 a6 (x0) hf0) (cwV 1 hts gX9_cut_X9_noPlayer rfl rfl rfl hdX9_noPlayer_v ⟨Nat.le_of_ble_eq_true rfl, Nat.le_of_ble_eq_true rfl⟩) hN hP hD hS hA [1, 0] [] rfl rfl rfl rfl (by decide) (ci := 9) (q0 := 0) rfl rfl rfl rfl hl.1 (Nat.le_of_ble_eq_true rfl) dX9_cut_15 (Nat.le_of_ble_eq_true rfl) (Nat.le_of_ble_eq_true rfl) (fun u1 H locs hP hD hS => ?_)
  have hP : va_P D vwCl [(a1, .inl (cs 0, 45783, .inl (layF (fun _ => 0) 1))), (a0, .inr (9, [.int 1, .ref a2, .int 0, .int 0, .int 0, .int 0, .int 0, .int (-1), .ref a1, .ref a3, .ref a4, .ref a5, .int 0, .int 0, .int 0, .int 0, .int 0, .ref a6]))] H := hP
  have hD : va_D A [(a1, .inl (cs 0, 45783, .inl (layF (fun _ => 0) 1))), (a0, .inr (9, [.int 1, .ref a2, .int 0, .int 0, .int 0, .int 0, .int 0, .int (-1), .ref a1, .ref a3, .ref a4, .ref a5, .int 0, .int 0, .int 0, .int 0, .int 0, .ref a6]))] := hD
  refine W.widen (k := 0) (n := 0) (Nat.le_of_ble_eq_true rfl) (Nat.le_of_ble_eq_true rfl) ?_
  refine lv_if_ne (tgt := 47) hx hb dX9_cut_18 (by decide) (fun _ => ?_) (fun c9 => absurd c9 (by decide))
  refine lv_iconst (v := 0) hx hb dX9_cut_47 (by decide) ?_
  exact en_i (fun k => ([] : List Nat).getD k 0) hx hb hr hlocks rfl rfl hP hD hS (Nat.le_of_ble_eq_true rfl) (Nat.le_of_ble_eq_true rfl) dX9_cut_48
set_option maxHeartbeats 4000000 in
set_option maxRecDepth 100000 in
theorem law_16_0nt {p : Program} {l : Launch} {e : Env} {s : State} {m : MethodId} {args : Array Value} {below : List Frame} {meth : Method} {c : Code} {Q : State → Prop} {D : va_G} {cs : Nat → ClassId} {A : Nat → Prop} {xs : Nat → Int32} {b : Nat} (hx : p.tables.exec = Jvm.exec) (hb : c.code = cL_law) (hml : c.maxLocals = 9) (hown : s.vm.findClass RL = some m.cls) (hts : ∀ w ∈ wsL_law, w.before args s = true) (hN : NK D cs s) (hX : va_X b 6 xs s s.heap) (hbl : b < s.heap.size) (hbA : ¬ A b) (hA : ∀ q : Nat, s.heap.size ≤ q → A q) (hZ : ZX A s s.heap) (hZS : ZS cs A s s.heap) (hlt : l.stackTraces = false)
    (kend : ∀ (H : Heap) (locs : List Loc) (ls : Array Slot), va_S A s.heap H locs → lv_has ls 9 [(0, .ref b), (4, .int 0)] → W p l e room_1 s m args below meth c H locs 600002 7302232 Q (F0 m 1169 ls []))
    (a0 a1 a2 a3 a4 a5 a6 a7 a8 a9 a10 a11 a12 a13 a14 a15 a16 a17 a18 a19 a20 a21 a22 : Nat) (y2 y3 : Int32) (hy1 : xs 1 = (0)) (hy2 : xs 2 = (y2)) (hy3 : xs 3 = (y3)) (e3 : ¬ y3 = 0) (g2_2 : y2 < 0) (H : Heap) (locs : List Loc) (ls : Array Slot) (hP : va_P D vwCl [(a0, .inr (8, [.ref a5, .ref a2, .ref a6, .ref a7, .int 0, .int 0, .int (-1)])), (a1, .inr (6, [.int 1, .int 1, .int 50, .null, .ref a8, .ref a9, .ref a10, .ref a11])), (a2, .inr (7, [.ref a1, .ref a12, .ref a13, .ref a14, .ref a15, .ref a16, .long 0, .int 0, .int 0, .int 0, .int 0, .int 0, .int 0, .int 0, .int 0, .int 0])), (a3, .inr (9, [.int 0, .ref a17, .int 0, .int 0, .int 0, .int 0, .int 0, .int (-1), .ref a4, .ref a18, .ref a19, .ref a20, .int 0, .int 0, .int 0, .int 0, .int 0, .ref a21])), (a4, .inl (cs 0, 45783, .inl (layF (fun _ => 0) 1)))] H) (hD : va_D A [(a0, .inr (8, [.ref a5, .ref a2, .ref a6, .ref a7, .int 0, .int 0, .int (-1)])), (a1, .inr (6, [.int 1, .int 1, .int 50, .null, .ref a8, .ref a9, .ref a10, .ref a11])), (a2, .inr (7, [.ref a1, .ref a12, .ref a13, .ref a14, .ref a15, .ref a16, .long 0, .int 0, .int 0, .int 0, .int 0, .int 0, .int 0, .int 0, .int 0, .int 0])), (a3, .inr (9, [.int 0, .ref a17, .int 0, .int 0, .int 0, .int 0, .int 0, .int (-1), .ref a4, .ref a18, .ref a19, .ref a20, .int 0, .int 0, .int 0, .int 0, .int 0, .ref a21])), (a4, .inl (cs 0, 45783, .inl (layF (fun _ => 0) 1)))]) (hS : va_S A s.heap H locs) (hl : lv_has ls 9 [(4, .int 0), (3, .ref a22), (2, .ref a3), (1, .ref a0), (0, .ref b)]) : W p l e room_1 s m args below meth c H locs 391 467079 Q (F0 m 983 ls []) := by
  refine lv_aload_n hx hb dL_law_983 rfl (lv_at hl 3 rfl) ?_
  refine lv_aload_n hx hb dL_law_984 rfl (lv_at hl 4 rfl) ?_
  refine lv_iload hx hb dL_law_985 (lv_at hl 0 rfl) ?_
  refine lv_iconst (v := 1) hx hb dL_law_987 (by decide) ?_
  refine lv_iadd hx hb dL_law_988 ?_
  refine tp_i (1) (by decide) ?_
  refine va_sld hx hb hX hbl hbA hS (vin (by decide +kernel)) dL_law_989 ?_
  refine tp_i (0) hy1 ?_
  refine lv_aload_n hx hb dL_law_990 rfl (lv_at hl 4 rfl) ?_
  refine lv_iload hx hb dL_law_991 (lv_at hl 0 rfl) ?_
  refine lv_iconst (v := 2) hx hb dL_law_993 (by decide) ?_
  refine lv_iadd hx hb dL_law_994 ?_
  refine tp_i (2) (by decide) ?_
  refine va_sld hx hb hX hbl hbA hS (vin (by decide +kernel)) dL_law_995 ?_
  refine tp_i (y2) hy2 ?_
  refine lv_aload_n hx hb dL_law_996 rfl (lv_at hl 4 rfl) ?_
  refine lv_iload hx hb dL_law_997 (lv_at hl 0 rfl) ?_
  refine lv_iconst (v := 3) hx hb dL_law_999 (by decide) ?_
  refine lv_iadd hx hb dL_law_1000 ?_
  refine tp_i (3) (by decide) ?_
  refine va_sld hx hb hX hbl hbA hS (vin (by decide +kernel)) dL_law_1001 ?_
  refine tp_i (y3) hy3 ?_
  refine lv_if_eq (tgt := 1009) hx hb dL_law_1002 (by decide) (fun c9 => absurd c9 e3) (fun _ => ?_)
  refine lv_iconst (v := 1) hx hb dL_law_1005 (by decide) ?_
  refine lv_goto (tgt := 1010) hx hb dL_law_1006 (by decide) ?_
  refine lv_aload_n hx hb dL_law_1010 rfl (lv_at hl 1 rfl) ?_
  refine ch_i (As := [.ref a0, .int 0, .int y2, .int 1, .ref a22]) (rest := []) (wr := [(a3, .inr (9, [.int 0, .ref a17, .int 0, .int 0, .int 0, .int 0, .int 0, .int (-1), .ref a4, .ref a18, .ref a19, .ref a20, .int 0, .int 0, .int 0, .int 0, .int 0, .ref a21])), (a4, .inl (cs 0, 45783, .inl (layF (fun _ => 0) 1)))]) ⟨hx, hb, hml, hown, hts⟩ (fun sz => k560_L_cut l D cs sz hlt a0 a2 a1 a22 a5 a6 a7 a12 a13 a14 a15 a16 a8 a9 a10 a11 (y2) g2_2) (vx_cwSW 5 hts gL_law_L_cut rfl rfl rfl hdL_cut_o ⟨Nat.le_of_ble_eq_true rfl, Nat.le_of_ble_eq_true rfl⟩) hN hP hD hS hA hZ [0, 2, 1] [3, 4] rfl rfl rfl rfl (by decide) rfl rfl hl.1 (Nat.le_of_ble_eq_true rfl) dL_law_1011 (Nat.le_of_ble_eq_true rfl) (Nat.le_of_ble_eq_true rfl) (fun u0 H locs hP hD hS => ?_)
  have hP : va_P D vwCl [(a3, .inr (9, [.int 0, .ref a17, .int 0, .int 0, .int 0, .int 0, .int 0, .int (-1), .ref a4, .ref a18, .ref a19, .ref a20, .int 0, .int 0, .int 0, .int 0, .int 0, .ref a21])), (a4, .inl (cs 0, 45783, .inl (layF (fun _ => 0) 1)))] H := hP
  have hD : va_D A [(a3, .inr (9, [.int 0, .ref a17, .int 0, .int 0, .int 0, .int 0, .int 0, .int (-1), .ref a4, .ref a18, .ref a19, .ref a20, .int 0, .int 0, .int 0, .int 0, .int 0, .ref a21])), (a4, .inl (cs 0, 45783, .inl (layF (fun _ => 0) 1)))] := hD
  refine W.widen (k := 392) (n := 467085) (Nat.le_of_ble_eq_true rfl) (Nat.le_of_ble_eq_true rfl) ?_
  refine lv_istore (lv' := [(5, .int 1), (4, .int 0), (3, .ref a22), (2, .ref a3), (1, .ref a0), (0, .ref b)]) hx hb dL_law_1014 hl (by decide) rfl (fun ls hl => ?_)
  refine lv_aload_n hx hb dL_law_1016 rfl (lv_at hl 3 rfl) ?_
  refine lv_aload_n hx hb dL_law_1017 rfl (lv_at hl 5 rfl) ?_
  refine lv_iload hx hb dL_law_1018 (lv_at hl 1 rfl) ?_
  refine lv_iconst (v := 1) hx hb dL_law_1020 (by decide) ?_
  refine lv_iadd hx hb dL_law_1021 ?_
  refine tp_i (1) (by decide) ?_
  refine va_sld hx hb hX hbl hbA hS (vin (by decide +kernel)) dL_law_1022 ?_
  refine tp_i (0) hy1 ?_
  refine lv_aload_n hx hb dL_law_1023 rfl (lv_at hl 5 rfl) ?_
  refine lv_iload hx hb dL_law_1024 (lv_at hl 1 rfl) ?_
  refine lv_iconst (v := 2) hx hb dL_law_1026 (by decide) ?_
  refine lv_iadd hx hb dL_law_1027 ?_
  refine tp_i (2) (by decide) ?_
  refine va_sld hx hb hX hbl hbA hS (vin (by decide +kernel)) dL_law_1028 ?_
  refine tp_i (y2) hy2 ?_
  refine lv_aload_n hx hb dL_law_1029 rfl (lv_at hl 5 rfl) ?_
  refine lv_iload hx hb dL_law_1030 (lv_at hl 1 rfl) ?_
  refine lv_iconst (v := 3) hx hb dL_law_1032 (by decide) ?_
  refine lv_iadd hx hb dL_law_1033 ?_
  refine tp_i (3) (by decide) ?_
  refine va_sld hx hb hX hbl hbA hS (vin (by decide +kernel)) dL_law_1034 ?_
  refine tp_i (y3) hy3 ?_
  refine lv_if_eq (tgt := 1042) hx hb dL_law_1035 (by decide) (fun c9 => absurd c9 e3) (fun _ => ?_)
  refine lv_iconst (v := 1) hx hb dL_law_1038 (by decide) ?_
  refine lv_goto (tgt := 1043) hx hb dL_law_1039 (by decide) ?_
  refine cv_i (As := [.int 0, .int y2, .int 1]) (rest := []) (b := a3) (wr := []) ⟨hx, hb, hml, hown, hts⟩ (fun sz => k561_X9_cut l D cs sz a3 a4 a17 a18 a19 a20 a21 (y2) g2_2) (cwV 3 hts gL_law_X9_cut rfl rfl rfl hdX9_cut_v ⟨Nat.le_of_ble_eq_true rfl, Nat.le_of_ble_eq_true rfl⟩) hN hP hD hS hA [0, 1] [] rfl rfl rfl rfl (by decide) (ci := 9) (q0 := 0) rfl rfl rfl rfl hl.1 (Nat.le_of_ble_eq_true rfl) dL_law_1043 (Nat.le_of_ble_eq_true rfl) (Nat.le_of_ble_eq_true rfl) (fun u1 H locs hP hD hS => ?_)
  have hP : va_P D vwCl [(a4, .inl (cs 0, 45783, .inl (layF (fun _ => 0) 1))), (a3, .inr (9, [.int 1, .ref a17, .int 0, .int 0, .int 0, .int 0, .int 0, .int (-1), .ref a4, .ref a18, .ref a19, .ref a20, .int 0, .int 0, .int 0, .int 0, .int 0, .ref a21]))] H := hP
  have hD : va_D A [(a4, .inl (cs 0, 45783, .inl (layF (fun _ => 0) 1))), (a3, .inr (9, [.int 1, .ref a17, .int 0, .int 0, .int 0, .int 0, .int 0, .int (-1), .ref a4, .ref a18, .ref a19, .ref a20, .int 0, .int 0, .int 0, .int 0, .int 0, .ref a21]))] := hD
  refine W.widen (k := 392) (n := 467085) (Nat.le_of_ble_eq_true rfl) (Nat.le_of_ble_eq_true rfl) ?_
  refine lv_istore (lv' := [(6, .int 0), (5, .int 1), (4, .int 0), (3, .ref a22), (2, .ref a3), (1, .ref a0), (0, .ref b)]) hx hb dL_law_1046 hl (by decide) rfl (fun ls hl => ?_)
  refine lv_aload_n hx hb dL_law_1048 rfl (lv_at hl 4 rfl) ?_
  refine cv_i (As := []) (rest := []) (b := a3) (wr := [(a4, .inl (cs 0, 45783, .inl (layF (fun _ => 0) 1)))]) ⟨hx, hb, hml, hown, hts⟩ (fun sz => k158_X9_thrown l D cs sz a3 a17 a4 a18 a19 a20 a21) (cwV 0 hts gL_law_X9_thrown rfl rfl rfl hdX9_thrown_v ⟨Nat.le_of_ble_eq_true rfl, Nat.le_of_ble_eq_true rfl⟩) hN hP hD hS hA [1] [0] rfl rfl rfl rfl (by decide) (ci := 9) (q0 := 0) rfl rfl rfl rfl hl.1 (Nat.le_of_ble_eq_true rfl) dL_law_1049 (Nat.le_of_ble_eq_true rfl) (Nat.le_of_ble_eq_true rfl) (fun u2 H locs hP hD hS => ?_)
  have hP : va_P D vwCl [(a4, .inl (cs 0, 45783, .inl (layF (fun _ => 0) 1))), (a3, .inr (9, [.int 1, .ref a17, .int 0, .int 0, .int 0, .int 0, .int 0, .int (-1), .ref a4, .ref a18, .ref a19, .ref a20, .int 0, .int 0, .int 0, .int 0, .int 0, .ref a21]))] H := hP
  have hD : va_D A [(a4, .inl (cs 0, 45783, .inl (layF (fun _ => 0) 1))), (a3, .inr (9, [.int 1, .ref a17, .int 0, .int 0, .int 0, .int 0, .int 0, .int (-1), .ref a4, .ref a18, .ref a19, .ref a20, .int 0, .int 0, .int 0, .int 0, .int 0, .ref a21]))] := hD
  refine W.widen (k := 392) (n := 467085) (Nat.le_of_ble_eq_true rfl) (Nat.le_of_ble_eq_true rfl) ?_
  refine lv_iload hx hb dL_law_1052 (lv_at hl 1 rfl) ?_
  refine lv_icmp_eq (tgt := 1059) hx hb dL_law_1054 (by decide) (fun _ => ?_) (fun c9 => absurd (by decide) c9)
  refine lv_iload hx hb dL_law_1059 (lv_at hl 1 rfl) ?_
  refine lv_if_ne (tgt := 1083) hx hb dL_law_1061 (by decide) (fun _ => ?_) (fun c9 => absurd c9 (by decide))
  refine lv_goto (tgt := 1169) hx hb dL_law_1083 (by decide) ?_
  refine W.widen (k := 600002) (n := 7302232) (Nat.le_of_ble_eq_true rfl) (Nat.le_of_ble_eq_true rfl) ?_
  exact kend _ _ _ hS (lv_sub hl [6, 2] rfl)

set_option maxHeartbeats 4000000 in
set_option maxRecDepth 100000 in
theorem k562_X8_cut (l : Launch) (D : va_G) (cs : Nat → ClassId) (sz : Nat) (hlt : l.stackTraces = false) (a0 a1 a2 a3 a4 a5 a6 a7 a8 a9 a10 a11 a12 a13 a14 : Nat) (x0 : Int32) (hf0 : ¬ x0 < 0) (hf1 : ¬ x0 < 1) : KX l yX8_cut wsX8_cut 7 121 1 6 D cs sz [.ref a0, .int 0, .int x0, .int 1] [(a0, .inr (8, [.ref a3, .ref a1, .ref a4, .ref a5, .int 0, .int 0, .int (-1)])), (a1, .inr (7, [.ref a2, .ref a6, .ref a7, .ref a8, .ref a9, .ref a10, .long 0, .int 0, .int 0, .int 0, .int 0, .int 0, .int 0, .int 0, .int 0, .int 0])), (a2, .inr (6, [.int 1, .int 1, .int 50, .null, .ref a11, .ref a12, .ref a13, .ref a14]))] QnI "java/lang/IndexOutOfBoundsException" := by
  refine KX.of cX8_cut 5 (some .boolean) (by decide) rfl (Nat.le_of_ble_eq_true rfl) ?_
  intro p e s m below meth c A ls hx hb hr hml hown hts hlocks hnx hP hN hD hA hS hl hZ
  have hown : s.vm.findClass RX8 = some m.cls := hown
  have hl : lv_has ls 5 [(0, .ref a0), (1, .int 0), (2, .int x0), (3, .int 1)] := hl
  refine lv_aload_n hx hb dX8_cut_0 rfl (lv_at hl 0 rfl) ?_
  refine lv_iload_n hx hb dX8_cut_1 rfl (lv_at hl 1 rfl) ?_
  refine cv_v (As := [.int 0]) (rest := []) (b := a0) (wr := []) ⟨hx, hb, hml, hown, hts⟩ (fun sz => k164_X8_refuseNoPlayer l D cs sz a0 a1 a2 a3 a4 a5 a6 a7 a8 a9 a10 a11 a12 a13 a14) (cwV 1 hts gX8_cut_X8_refuseNoPlayer rfl rfl rfl hdX8_refuseNoPlayer_v ⟨Nat.le_of_ble_eq_true rfl, Nat.le_of_ble_eq_true rfl⟩) hN hP hD hS hA [0, 1, 2] [] rfl rfl rfl rfl (by decide) (ci := 8) (q0 := 0) rfl rfl rfl rfl hl.1 (Nat.le_of_ble_eq_true rfl) dX8_cut_2 (Nat.le_of_ble_eq_true rfl) (Nat.le_of_ble_eq_true rfl) (fun u0 H locs hP hD hS => ?_)
  have hP : va_P D vwCl [(a0, .inr (8, [.ref a3, .ref a1, .ref a4, .ref a5, .int 0, .int 0, .int (-1)])), (a1, .inr (7, [.ref a2, .ref a6, .ref a7, .ref a8, .ref a9, .ref a10, .long 0, .int 0, .int 0, .int 0, .int 0, .int 0, .int 0, .int 0, .int 0, .int 0])), (a2, .inr (6, [.int 1, .int 1, .int 50, .null, .ref a11, .ref a12, .ref a13, .ref a14]))] H := hP
  have hD : va_D A [(a0, .inr (8, [.ref a3, .ref a1, .ref a4, .ref a5, .int 0, .int 0, .int (-1)])), (a1, .inr (7, [.ref a2, .ref a6, .ref a7, .ref a8, .ref a9, .ref a10, .long 0, .int 0, .int 0, .int 0, .int 0, .int 0, .int 0, .int 0, .int 0, .int 0])), (a2, .inr (6, [.int 1, .int 1, .int 50, .null, .ref a11, .ref a12, .ref a13, .ref a14]))] := hD
  refine W.widen (k := 0) (n := 0) (Nat.le_of_ble_eq_true rfl) (Nat.le_of_ble_eq_true rfl) ?_
  refine lv_aload_n hx hb dX8_cut_5 rfl (lv_at hl 0 rfl) ?_
  refine lv_iload_n hx hb dX8_cut_6 rfl (lv_at hl 2 rfl) ?_
  exact xp_v (As := [.int x0]) (rest := []) (b := a0) ⟨hx, hb, hml, hown, hts⟩ (fun sz => k271_X8_refuseNoPlayer l D cs sz hlt a0 a1 a2 a3 a4 a5 a6 a7 a8 a9 a10 a11 a12 a13 a14 (x0) hf0 hf1) (cwV 1 hts gX8_cut_X8_refuseNoPlayer rfl rfl rfl hdX8_refuseNoPlayer_v ⟨Nat.le_of_ble_eq_true rfl, Nat.le_of_ble_eq_true rfl⟩) hN hP hD hS hA hZ [0, 1, 2] rfl rfl (ci := 8) (q0 := 0) rfl rfl rfl rfl hl.1 (Nat.le_of_ble_eq_true rfl) dX8_cut_7 (Nat.le_of_ble_eq_true rfl) (Nat.le_of_ble_eq_true rfl) hnx hlocks (Nat.le_of_ble_eq_true rfl) (Nat.le_of_ble_eq_true rfl)
set_option maxHeartbeats 4000000 in
set_option maxRecDepth 100000 in
theorem k563_L_cut (l : Launch) (D : va_G) (cs : Nat → ClassId) (sz : Nat) (hlt : l.stackTraces = false) (a0 a1 a2 a3 a4 a5 a6 a7 a8 a9 a10 a11 a12 a13 a14 a15 : Nat) (x0 : Int32) (hf0 : ¬ x0 < 0) (hf1 : ¬ x0 < 1) : KH l yL_cut wsL_cut 8 145 1 6 D cs sz [.ref a0, .int 0, .int x0, .int 1, .ref a3] [(a0, .inr (8, [.ref a4, .ref a1, .ref a5, .ref a6, .int 0, .int 0, .int (-1)])), (a1, .inr (7, [.ref a2, .ref a7, .ref a8, .ref a9, .ref a10, .ref a11, .long 0, .int 0, .int 0, .int 0, .int 0, .int 0, .int 0, .int 0, .int 0, .int 0])), (a2, .inr (6, [.int 1, .int 1, .int 50, .null, .ref a12, .ref a13, .ref a14, .ref a15]))] (fun u => []) (1) := by
  refine KH.of cL_cut 6 (some .int) (by decide) rfl (Nat.le_of_ble_eq_true rfl) ?_
  intro p e s m below meth c A ls hx hb hr hml hown hts hlocks htab hP hN hD hA hS hl hZ
  have hown : s.vm.findClass RL = some m.cls := hown
  have hl : lv_has ls 6 [(0, .ref a0), (1, .int 0), (2, .int x0), (3, .int 1), (4, .ref a3)] := hl
  refine lv_aload hx hb dL_cut_0 (lv_at hl 4 rfl) ?_
  refine lv_iconst (v := 0) hx hb dL_cut_2 (by decide) ?_
  refine lv_aload_n hx hb dL_cut_3 rfl (lv_at hl 0 rfl) ?_
  refine lv_iload_n hx hb dL_cut_4 rfl (lv_at hl 1 rfl) ?_
  refine lv_iload_n hx hb dL_cut_5 rfl (lv_at hl 2 rfl) ?_
  refine lv_iload_n hx hb dL_cut_6 rfl (lv_at hl 3 rfl) ?_
  refine xc_i (wr := []) (As := [.int 0, .int x0, .int 1]) (rest := [.int 0, .ref a3]) (b := a0) ⟨hx, hb, hml, hown, hts⟩ (fun sz => k562_X8_cut l D cs sz hlt a0 a1 a2 a4 a5 a6 a7 a8 a9 a10 a11 a12 a13 a14 a15 (x0) hf0 hf1) (cwV 3 hts gL_cut_X8_cut rfl rfl rfl hdX8_cut_v ⟨Nat.le_of_ble_eq_true rfl, Nat.le_of_ble_eq_true rfl⟩) hN hP hD hS hA hZ [0, 1, 2] rfl rfl (ci := 8) (q0 := 0) rfl rfl rfl rfl hl.1 (Nat.le_of_ble_eq_true rfl) dL_cut_7 (Nat.le_of_ble_eq_true rfl) (Nat.le_of_ble_eq_true rfl) [] rfl rfl (by decide) [] ⟨0, 19, 22, 22⟩ [⟨0, 19, 26, 41⟩] htab (fun z h => nomatch h) rfl (by decide) (hts _ mL_cut_1) 2 rfl (fun q9_7 H locs hP hD hS => ?_)
  have hP : va_P D vwCl [] H := hP
  have hD : va_D A [] := hD
  refine W.widen (k := 1) (n := 6) (Nat.le_of_ble_eq_true rfl) (Nat.le_of_ble_eq_true rfl) ?_
  refine lv_astore (lv' := [(5, .ref q9_7), (0, .ref a0), (1, .int 0), (2, .int x0), (3, .int 1), (4, .ref a3)]) hx hb dL_cut_22 hl (by decide) rfl (fun ls hl => ?_)
  refine lv_iconst (v := 1) hx hb dL_cut_24 (by decide) ?_
  exact en_i (fun k => ([] : List Nat).getD k 0) hx hb hr hlocks rfl rfl hP hD hS (Nat.le_of_ble_eq_true rfl) (Nat.le_of_ble_eq_true rfl) dL_cut_25
set_option maxHeartbeats 4000000 in
set_option maxRecDepth 100000 in
theorem k564_X9_cut (l : Launch) (D : va_G) (cs : Nat → ClassId) (sz : Nat) (a0 a1 a2 a3 a4 a5 a6 : Nat) (x0 : Int32) (hf0 : ¬ x0 < 0) (hf1 : 0 < x0) : KI l yX9_cut wsX9_cut 2 43 0 0 D cs sz [.ref a0, .int 0, .int x0, .int 1] [(a0, .inr (9, [.int 0, .ref a2, .int 0, .int 0, .int 0, .int 0, .int 0, .int (-1), .ref a1, .ref a3, .ref a4, .ref a5, .int 0, .int 0, .int 0, .int 0, .int 0, .ref a6])), (a1, .inl (cs 0, 45783, .inl (layF (fun _ => 0) 1)))] (fun u => [(a1, .inl (cs 0, 45783, .inl (layF (fun _ => 0) 1))), (a0, .inr (9, [.int 1, .ref a2, .int 0, .int 0, .int 0, .int 0, .int 0, .int (-1), .ref a1, .ref a3, .ref a4, .ref a5, .int 0, .int 0, .int 0, .int 0, .int 0, .ref a6]))]) (0) := by
  refine KI.of cX9_cut 6 (some .boolean) (by decide) rfl (Nat.le_of_ble_eq_true rfl) ?_
  intro p e s m below meth c A ls hx hb hr hml hown hts hlocks hin hP hN hD hA hS hl
  have hown : s.vm.findClass RX9 = some m.cls := hown
  have hl : lv_has ls 6 [(0, .ref a0), (1, .int 0), (2, .int x0), (3, .int 1)] := hl
  refine lv_aload_n hx hb dX9_cut_0 rfl (lv_at hl 0 rfl) ?_
  refine lv_iconst (v := 0) hx hb dX9_cut_1 (by decide) ?_
  refine va_put (D := D) (ci := 9) (v := .int 0) (ty := .int) (C := RX9) (T := TX9) (N := 18) hx hb hts iX9_cut_9 tyX9 tyX9_ok nmX9 hown hN.1 hP hD hS 0 rfl rfl 0 (by decide) (hts _ mX9_cut_1) (fun _ h9 => h9) rfl (by decide +kernel) rfl rfl (Nat.le_of_ble_eq_true rfl) dX9_cut_2 (fun H locs hP hD hS => ?_)
  have hP : va_P D vwCl [(a0, .inr (9, [.int 0, .ref a2, .int 0, .int 0, .int 0, .int 0, .int 0, .int (-1), .ref a1, .ref a3, .ref a4, .ref a5, .int 0, .int 0, .int 0, .int 0, .int 0, .ref a6])), (a1, .inl (cs 0, 45783, .inl (layF (fun _ => 0) 1)))] H := hP
  have hD : va_D A [(a0, .inr (9, [.int 0, .ref a2, .int 0, .int 0, .int 0, .int 0, .int 0, .int (-1), .ref a1, .ref a3, .ref a4, .ref a5, .int 0, .int 0, .int 0, .int 0, .int 0, .ref a6])), (a1, .inl (cs 0, 45783, .inl (layF (fun _ => 0) 1)))] := hD
  refine lv_aload_n hx hb dX9_cut_5 rfl (lv_at hl 0 rfl) ?_
  refine lv_iload_n hx hb dX9_cut_6 rfl (lv_at hl 1 rfl) ?_
  refine cv_i (As := [.int 0]) (rest := []) (b := a0) (wr := []) ⟨hx, hb, hml, hown, hts⟩ (fun sz => k170_X9_noPlayer l D cs sz a0 a1 a2 a3 a4 a5 a6) (cwV 1 hts gX9_cut_X9_noPlayer rfl rfl rfl hdX9_noPlayer_v ⟨Nat.le_of_ble_eq_true rfl, Nat.le_of_ble_eq_true rfl⟩) hN hP hD hS hA [0, 1] [] rfl rfl rfl rfl (by decide) (ci := 9) (q0 := 0) rfl rfl rfl rfl hl.1 (Nat.le_of_ble_eq_true rfl) dX9_cut_7 (Nat.le_of_ble_eq_true rfl) (Nat.le_of_ble_eq_true rfl) (fun u0 H locs hP hD hS => ?_)
  have hP : va_P D vwCl [(a1, .inl (cs 0, 45783, .inl (layF (fun _ => 0) 1))), (a0, .inr (9, [.int 0, .ref a2, .int 0, .int 0, .int 0, .int 0, .int 0, .int (-1), .ref a1, .ref a3, .ref a4, .ref a5, .int 0, .int 0, .int 0, .int 0, .int 0, .ref a6]))] H := hP
  have hD : va_D A [(a1, .inl (cs 0, 45783, .inl (layF (fun _ => 0) 1))), (a0, .inr (9, [.int 0, .ref a2, .int 0, .int 0, .int 0, .int 0, .int 0, .int (-1), .ref a1, .ref a3, .ref a4, .ref a5, .int 0, .int 0, .int 0, .int 0, .int 0, .ref a6]))] := hD
  refine W.widen (k := 0) (n := 0) (Nat.le_of_ble_eq_true rfl) (Nat.le_of_ble_eq_true rfl) ?_
  refine lv_if_ne (tgt := 47) hx hb dX9_cut_10 (by decide) (fun c9 => absurd (by decide) c9) (fun _ => ?_)
  refine lv_aload_n hx hb dX9_cut_13 rfl (lv_at hl 0 rfl) ?_
  refine lv_iload_n hx hb dX9_cut_14 rfl (lv_at hl 2 rfl) ?_
  refine cv_i (As := [.int x0]) (rest := []) (b := a0) (wr := []) ⟨hx, hb, hml, hown, hts⟩ (fun sz => k275_X9_noPlayer l D cs sz a0 a1 a2 a3 a4 a5 a6 (x0) hf0 hf1) (cwV 1 hts gX9_cut_X9_noPlayer rfl rfl rfl hdX9_noPlayer_v ⟨Nat.le_of_ble_eq_true rfl, Nat.le_of_ble_eq_true rfl⟩) hN hP hD hS hA [1, 0] [] rfl rfl rfl rfl (by decide) (ci := 9) (q0 := 0) rfl rfl rfl rfl hl.1 (Nat.le_of_ble_eq_true rfl) dX9_cut_15 (Nat.le_of_ble_eq_true rfl) (Nat.le_of_ble_eq_true rfl) (fun u1 H locs hP hD hS => ?_)
  have hP : va_P D vwCl [(a1, .inl (cs 0, 45783, .inl (layF (fun _ => 0) 1))), (a0, .inr (9, [.int 1, .ref a2, .int 0, .int 0, .int 0, .int 0, .int 0, .int (-1), .ref a1, .ref a3, .ref a4, .ref a5, .int 0, .int 0, .int 0, .int 0, .int 0, .ref a6]))] H := hP
  have hD : va_D A [(a1, .inl (cs 0, 45783, .inl (layF (fun _ => 0) 1))), (a0, .inr (9, [.int 1, .ref a2, .int 0, .int 0, .int 0, .int 0, .int 0, .int (-1), .ref a1, .ref a3, .ref a4, .ref a5, .int 0, .int 0, .int 0, .int 0, .int 0, .ref a6]))] := hD
  refine W.widen (k := 0) (n := 0) (Nat.le_of_ble_eq_true rfl) (Nat.le_of_ble_eq_true rfl) ?_
  refine lv_if_ne (tgt := 47) hx hb dX9_cut_18 (by decide) (fun _ => ?_) (fun c9 => absurd c9 (by decide))
  refine lv_iconst (v := 0) hx hb dX9_cut_47 (by decide) ?_
  exact en_i (fun k => ([] : List Nat).getD k 0) hx hb hr hlocks rfl rfl hP hD hS (Nat.le_of_ble_eq_true rfl) (Nat.le_of_ble_eq_true rfl) dX9_cut_48
set_option maxHeartbeats 4000000 in
set_option maxRecDepth 100000 in
theorem law_16_0bt {p : Program} {l : Launch} {e : Env} {s : State} {m : MethodId} {args : Array Value} {below : List Frame} {meth : Method} {c : Code} {Q : State → Prop} {D : va_G} {cs : Nat → ClassId} {A : Nat → Prop} {xs : Nat → Int32} {b : Nat} (hx : p.tables.exec = Jvm.exec) (hb : c.code = cL_law) (hml : c.maxLocals = 9) (hown : s.vm.findClass RL = some m.cls) (hts : ∀ w ∈ wsL_law, w.before args s = true) (hN : NK D cs s) (hX : va_X b 6 xs s s.heap) (hbl : b < s.heap.size) (hbA : ¬ A b) (hA : ∀ q : Nat, s.heap.size ≤ q → A q) (hZ : ZX A s s.heap) (hZS : ZS cs A s s.heap) (hlt : l.stackTraces = false)
    (kend : ∀ (H : Heap) (locs : List Loc) (ls : Array Slot), va_S A s.heap H locs → lv_has ls 9 [(0, .ref b), (4, .int 0)] → W p l e room_1 s m args below meth c H locs 600002 7302232 Q (F0 m 1169 ls []))
    (a0 a1 a2 a3 a4 a5 a6 a7 a8 a9 a10 a11 a12 a13 a14 a15 a16 a17 a18 a19 a20 a21 a22 : Nat) (y2 y3 : Int32) (hy1 : xs 1 = (0)) (hy2 : xs 2 = (y2)) (hy3 : xs 3 = (y3)) (e3 : ¬ y3 = 0) (g2_4 : ¬ y2 < 0) (g2_8 : ¬ y2 < 1) (g2_7 : 0 < y2) (H : Heap) (locs : List Loc) (ls : Array Slot) (hP : va_P D vwCl [(a0, .inr (8, [.ref a5, .ref a2, .ref a6, .ref a7, .int 0, .int 0, .int (-1)])), (a1, .inr (6, [.int 1, .int 1, .int 50, .null, .ref a8, .ref a9, .ref a10, .ref a11])), (a2, .inr (7, [.ref a1, .ref a12, .ref a13, .ref a14, .ref a15, .ref a16, .long 0, .int 0, .int 0, .int 0, .int 0, .int 0, .int 0, .int 0, .int 0, .int 0])), (a3, .inr (9, [.int 0, .ref a17, .int 0, .int 0, .int 0, .int 0, .int 0, .int (-1), .ref a4, .ref a18, .ref a19, .ref a20, .int 0, .int 0, .int 0, .int 0, .int 0, .ref a21])), (a4, .inl (cs 0, 45783, .inl (layF (fun _ => 0) 1)))] H) (hD : va_D A [(a0, .inr (8, [.ref a5, .ref a2, .ref a6, .ref a7, .int 0, .int 0, .int (-1)])), (a1, .inr (6, [.int 1, .int 1, .int 50, .null, .ref a8, .ref a9, .ref a10, .ref a11])), (a2, .inr (7, [.ref a1, .ref a12, .ref a13, .ref a14, .ref a15, .ref a16, .long 0, .int 0, .int 0, .int 0, .int 0, .int 0, .int 0, .int 0, .int 0, .int 0])), (a3, .inr (9, [.int 0, .ref a17, .int 0, .int 0, .int 0, .int 0, .int 0, .int (-1), .ref a4, .ref a18, .ref a19, .ref a20, .int 0, .int 0, .int 0, .int 0, .int 0, .ref a21])), (a4, .inl (cs 0, 45783, .inl (layF (fun _ => 0) 1)))]) (hS : va_S A s.heap H locs) (hl : lv_has ls 9 [(4, .int 0), (3, .ref a22), (2, .ref a3), (1, .ref a0), (0, .ref b)]) : W p l e room_1 s m args below meth c H locs 391 467079 Q (F0 m 983 ls []) := by
  refine lv_aload_n hx hb dL_law_983 rfl (lv_at hl 3 rfl) ?_
  refine lv_aload_n hx hb dL_law_984 rfl (lv_at hl 4 rfl) ?_
  refine lv_iload hx hb dL_law_985 (lv_at hl 0 rfl) ?_
  refine lv_iconst (v := 1) hx hb dL_law_987 (by decide) ?_
  refine lv_iadd hx hb dL_law_988 ?_
  refine tp_i (1) (by decide) ?_
  refine va_sld hx hb hX hbl hbA hS (vin (by decide +kernel)) dL_law_989 ?_
  refine tp_i (0) hy1 ?_
  refine lv_aload_n hx hb dL_law_990 rfl (lv_at hl 4 rfl) ?_
  refine lv_iload hx hb dL_law_991 (lv_at hl 0 rfl) ?_
  refine lv_iconst (v := 2) hx hb dL_law_993 (by decide) ?_
  refine lv_iadd hx hb dL_law_994 ?_
  refine tp_i (2) (by decide) ?_
  refine va_sld hx hb hX hbl hbA hS (vin (by decide +kernel)) dL_law_995 ?_
  refine tp_i (y2) hy2 ?_
  refine lv_aload_n hx hb dL_law_996 rfl (lv_at hl 4 rfl) ?_
  refine lv_iload hx hb dL_law_997 (lv_at hl 0 rfl) ?_
  refine lv_iconst (v := 3) hx hb dL_law_999 (by decide) ?_
  refine lv_iadd hx hb dL_law_1000 ?_
  refine tp_i (3) (by decide) ?_
  refine va_sld hx hb hX hbl hbA hS (vin (by decide +kernel)) dL_law_1001 ?_
  refine tp_i (y3) hy3 ?_
  refine lv_if_eq (tgt := 1009) hx hb dL_law_1002 (by decide) (fun c9 => absurd c9 e3) (fun _ => ?_)
  refine lv_iconst (v := 1) hx hb dL_law_1005 (by decide) ?_
  refine lv_goto (tgt := 1010) hx hb dL_law_1006 (by decide) ?_
  refine lv_aload_n hx hb dL_law_1010 rfl (lv_at hl 1 rfl) ?_
  refine ch_i (As := [.ref a0, .int 0, .int y2, .int 1, .ref a22]) (rest := []) (wr := [(a3, .inr (9, [.int 0, .ref a17, .int 0, .int 0, .int 0, .int 0, .int 0, .int (-1), .ref a4, .ref a18, .ref a19, .ref a20, .int 0, .int 0, .int 0, .int 0, .int 0, .ref a21])), (a4, .inl (cs 0, 45783, .inl (layF (fun _ => 0) 1)))]) ⟨hx, hb, hml, hown, hts⟩ (fun sz => k563_L_cut l D cs sz hlt a0 a2 a1 a22 a5 a6 a7 a12 a13 a14 a15 a16 a8 a9 a10 a11 (y2) g2_4 g2_8) (vx_cwSW 5 hts gL_law_L_cut rfl rfl rfl hdL_cut_o ⟨Nat.le_of_ble_eq_true rfl, Nat.le_of_ble_eq_true rfl⟩) hN hP hD hS hA hZ [0, 2, 1] [3, 4] rfl rfl rfl rfl (by decide) rfl rfl hl.1 (Nat.le_of_ble_eq_true rfl) dL_law_1011 (Nat.le_of_ble_eq_true rfl) (Nat.le_of_ble_eq_true rfl) (fun u0 H locs hP hD hS => ?_)
  have hP : va_P D vwCl [(a3, .inr (9, [.int 0, .ref a17, .int 0, .int 0, .int 0, .int 0, .int 0, .int (-1), .ref a4, .ref a18, .ref a19, .ref a20, .int 0, .int 0, .int 0, .int 0, .int 0, .ref a21])), (a4, .inl (cs 0, 45783, .inl (layF (fun _ => 0) 1)))] H := hP
  have hD : va_D A [(a3, .inr (9, [.int 0, .ref a17, .int 0, .int 0, .int 0, .int 0, .int 0, .int (-1), .ref a4, .ref a18, .ref a19, .ref a20, .int 0, .int 0, .int 0, .int 0, .int 0, .ref a21])), (a4, .inl (cs 0, 45783, .inl (layF (fun _ => 0) 1)))] := hD
  refine W.widen (k := 392) (n := 467085) (Nat.le_of_ble_eq_true rfl) (Nat.le_of_ble_eq_true rfl) ?_
  refine lv_istore (lv' := [(5, .int 1), (4, .int 0), (3, .ref a22), (2, .ref a3), (1, .ref a0), (0, .ref b)]) hx hb dL_law_1014 hl (by decide) rfl (fun ls hl => ?_)
  refine lv_aload_n hx hb dL_law_1016 rfl (lv_at hl 3 rfl) ?_
  refine lv_aload_n hx hb dL_law_1017 rfl (lv_at hl 5 rfl) ?_
  refine lv_iload hx hb dL_law_1018 (lv_at hl 1 rfl) ?_
  refine lv_iconst (v := 1) hx hb dL_law_1020 (by decide) ?_
  refine lv_iadd hx hb dL_law_1021 ?_
  refine tp_i (1) (by decide) ?_
  refine va_sld hx hb hX hbl hbA hS (vin (by decide +kernel)) dL_law_1022 ?_
  refine tp_i (0) hy1 ?_
  refine lv_aload_n hx hb dL_law_1023 rfl (lv_at hl 5 rfl) ?_
  refine lv_iload hx hb dL_law_1024 (lv_at hl 1 rfl) ?_
  refine lv_iconst (v := 2) hx hb dL_law_1026 (by decide) ?_
  refine lv_iadd hx hb dL_law_1027 ?_
  refine tp_i (2) (by decide) ?_
  refine va_sld hx hb hX hbl hbA hS (vin (by decide +kernel)) dL_law_1028 ?_
  refine tp_i (y2) hy2 ?_
  refine lv_aload_n hx hb dL_law_1029 rfl (lv_at hl 5 rfl) ?_
  refine lv_iload hx hb dL_law_1030 (lv_at hl 1 rfl) ?_
  refine lv_iconst (v := 3) hx hb dL_law_1032 (by decide) ?_
  refine lv_iadd hx hb dL_law_1033 ?_
  refine tp_i (3) (by decide) ?_
  refine va_sld hx hb hX hbl hbA hS (vin (by decide +kernel)) dL_law_1034 ?_
  refine tp_i (y3) hy3 ?_
  refine lv_if_eq (tgt := 1042) hx hb dL_law_1035 (by decide) (fun c9 => absurd c9 e3) (fun _ => ?_)
  refine lv_iconst (v := 1) hx hb dL_law_1038 (by decide) ?_
  refine lv_goto (tgt := 1043) hx hb dL_law_1039 (by decide) ?_
  refine cv_i (As := [.int 0, .int y2, .int 1]) (rest := []) (b := a3) (wr := []) ⟨hx, hb, hml, hown, hts⟩ (fun sz => k564_X9_cut l D cs sz a3 a4 a17 a18 a19 a20 a21 (y2) g2_4 g2_7) (cwV 3 hts gL_law_X9_cut rfl rfl rfl hdX9_cut_v ⟨Nat.le_of_ble_eq_true rfl, Nat.le_of_ble_eq_true rfl⟩) hN hP hD hS hA [0, 1] [] rfl rfl rfl rfl (by decide) (ci := 9) (q0 := 0) rfl rfl rfl rfl hl.1 (Nat.le_of_ble_eq_true rfl) dL_law_1043 (Nat.le_of_ble_eq_true rfl) (Nat.le_of_ble_eq_true rfl) (fun u1 H locs hP hD hS => ?_)
  have hP : va_P D vwCl [(a4, .inl (cs 0, 45783, .inl (layF (fun _ => 0) 1))), (a3, .inr (9, [.int 1, .ref a17, .int 0, .int 0, .int 0, .int 0, .int 0, .int (-1), .ref a4, .ref a18, .ref a19, .ref a20, .int 0, .int 0, .int 0, .int 0, .int 0, .ref a21]))] H := hP
  have hD : va_D A [(a4, .inl (cs 0, 45783, .inl (layF (fun _ => 0) 1))), (a3, .inr (9, [.int 1, .ref a17, .int 0, .int 0, .int 0, .int 0, .int 0, .int (-1), .ref a4, .ref a18, .ref a19, .ref a20, .int 0, .int 0, .int 0, .int 0, .int 0, .ref a21]))] := hD
  refine W.widen (k := 392) (n := 467085) (Nat.le_of_ble_eq_true rfl) (Nat.le_of_ble_eq_true rfl) ?_
  refine lv_istore (lv' := [(6, .int 0), (5, .int 1), (4, .int 0), (3, .ref a22), (2, .ref a3), (1, .ref a0), (0, .ref b)]) hx hb dL_law_1046 hl (by decide) rfl (fun ls hl => ?_)
  refine lv_aload_n hx hb dL_law_1048 rfl (lv_at hl 4 rfl) ?_
  refine cv_i (As := []) (rest := []) (b := a3) (wr := [(a4, .inl (cs 0, 45783, .inl (layF (fun _ => 0) 1)))]) ⟨hx, hb, hml, hown, hts⟩ (fun sz => k158_X9_thrown l D cs sz a3 a17 a4 a18 a19 a20 a21) (cwV 0 hts gL_law_X9_thrown rfl rfl rfl hdX9_thrown_v ⟨Nat.le_of_ble_eq_true rfl, Nat.le_of_ble_eq_true rfl⟩) hN hP hD hS hA [1] [0] rfl rfl rfl rfl (by decide) (ci := 9) (q0 := 0) rfl rfl rfl rfl hl.1 (Nat.le_of_ble_eq_true rfl) dL_law_1049 (Nat.le_of_ble_eq_true rfl) (Nat.le_of_ble_eq_true rfl) (fun u2 H locs hP hD hS => ?_)
  have hP : va_P D vwCl [(a4, .inl (cs 0, 45783, .inl (layF (fun _ => 0) 1))), (a3, .inr (9, [.int 1, .ref a17, .int 0, .int 0, .int 0, .int 0, .int 0, .int (-1), .ref a4, .ref a18, .ref a19, .ref a20, .int 0, .int 0, .int 0, .int 0, .int 0, .ref a21]))] H := hP
  have hD : va_D A [(a4, .inl (cs 0, 45783, .inl (layF (fun _ => 0) 1))), (a3, .inr (9, [.int 1, .ref a17, .int 0, .int 0, .int 0, .int 0, .int 0, .int (-1), .ref a4, .ref a18, .ref a19, .ref a20, .int 0, .int 0, .int 0, .int 0, .int 0, .ref a21]))] := hD
  refine W.widen (k := 392) (n := 467085) (Nat.le_of_ble_eq_true rfl) (Nat.le_of_ble_eq_true rfl) ?_
  refine lv_iload hx hb dL_law_1052 (lv_at hl 1 rfl) ?_
  refine lv_icmp_eq (tgt := 1059) hx hb dL_law_1054 (by decide) (fun _ => ?_) (fun c9 => absurd (by decide) c9)
  refine lv_iload hx hb dL_law_1059 (lv_at hl 1 rfl) ?_
  refine lv_if_ne (tgt := 1083) hx hb dL_law_1061 (by decide) (fun _ => ?_) (fun c9 => absurd c9 (by decide))
  refine lv_goto (tgt := 1169) hx hb dL_law_1083 (by decide) ?_
  refine W.widen (k := 600002) (n := 7302232) (Nat.le_of_ble_eq_true rfl) (Nat.le_of_ble_eq_true rfl) ?_
  exact kend _ _ _ hS (lv_sub hl [6, 2] rfl)

set_option maxHeartbeats 4000000 in
set_option maxRecDepth 100000 in
theorem k565_X8_cut (l : Launch) (D : va_G) (cs : Nat → ClassId) (sz : Nat) (hlt : l.stackTraces = false) (a0 a1 a2 a3 a4 : Nat) (x0 : Int32) (x1 : Int32) (hf0 : x0 < 0) : KX l yX8_cut wsX8_cut 7 121 1 6 D cs sz [.ref a0, .int x0, .int x1, .int 1] [(a0, .inr (8, [.ref a1, .ref a2, .ref a3, .ref a4, .int 0, .int 0, .int (-1)]))] QnI "java/lang/IndexOutOfBoundsException" := by
  refine KX.of cX8_cut 5 (some .boolean) (by decide) rfl (Nat.le_of_ble_eq_true rfl) ?_
  intro p e s m below meth c A ls hx hb hr hml hown hts hlocks hnx hP hN hD hA hS hl hZ
  have hown : s.vm.findClass RX8 = some m.cls := hown
  have hl : lv_has ls 5 [(0, .ref a0), (1, .int x0), (2, .int x1), (3, .int 1)] := hl
  refine lv_aload_n hx hb dX8_cut_0 rfl (lv_at hl 0 rfl) ?_
  refine lv_iload_n hx hb dX8_cut_1 rfl (lv_at hl 1 rfl) ?_
  exact xp_v (As := [.int x0]) (rest := []) (b := a0) ⟨hx, hb, hml, hown, hts⟩ (fun sz => k265_X8_refuseNoPlayer l D cs sz hlt a0 a1 a2 a3 a4 (x0) hf0) (cwV 1 hts gX8_cut_X8_refuseNoPlayer rfl rfl rfl hdX8_refuseNoPlayer_v ⟨Nat.le_of_ble_eq_true rfl, Nat.le_of_ble_eq_true rfl⟩) hN hP hD hS hA hZ [0] rfl rfl (ci := 8) (q0 := 0) rfl rfl rfl rfl hl.1 (Nat.le_of_ble_eq_true rfl) dX8_cut_2 (Nat.le_of_ble_eq_true rfl) (Nat.le_of_ble_eq_true rfl) hnx hlocks (Nat.le_of_ble_eq_true rfl) (Nat.le_of_ble_eq_true rfl)
set_option maxHeartbeats 4000000 in
set_option maxRecDepth 100000 in
theorem k566_L_cut (l : Launch) (D : va_G) (cs : Nat → ClassId) (sz : Nat) (hlt : l.stackTraces = false) (a0 a1 a2 a3 a4 a5 : Nat) (x0 : Int32) (x1 : Int32) (hf0 : x0 < 0) : KH l yL_cut wsL_cut 8 145 1 6 D cs sz [.ref a0, .int x0, .int x1, .int 1, .ref a1] [(a0, .inr (8, [.ref a2, .ref a3, .ref a4, .ref a5, .int 0, .int 0, .int (-1)]))] (fun u => []) (1) := by
  refine KH.of cL_cut 6 (some .int) (by decide) rfl (Nat.le_of_ble_eq_true rfl) ?_
  intro p e s m below meth c A ls hx hb hr hml hown hts hlocks htab hP hN hD hA hS hl hZ
  have hown : s.vm.findClass RL = some m.cls := hown
  have hl : lv_has ls 6 [(0, .ref a0), (1, .int x0), (2, .int x1), (3, .int 1), (4, .ref a1)] := hl
  refine lv_aload hx hb dL_cut_0 (lv_at hl 4 rfl) ?_
  refine lv_iconst (v := 0) hx hb dL_cut_2 (by decide) ?_
  refine lv_aload_n hx hb dL_cut_3 rfl (lv_at hl 0 rfl) ?_
  refine lv_iload_n hx hb dL_cut_4 rfl (lv_at hl 1 rfl) ?_
  refine lv_iload_n hx hb dL_cut_5 rfl (lv_at hl 2 rfl) ?_
  refine lv_iload_n hx hb dL_cut_6 rfl (lv_at hl 3 rfl) ?_
  refine xc_i (wr := []) (As := [.int x0, .int x1, .int 1]) (rest := [.int 0, .ref a1]) (b := a0) ⟨hx, hb, hml, hown, hts⟩ (fun sz => k565_X8_cut l D cs sz hlt a0 a2 a3 a4 a5 (x0) (x1) hf0) (cwV 3 hts gL_cut_X8_cut rfl rfl rfl hdX8_cut_v ⟨Nat.le_of_ble_eq_true rfl, Nat.le_of_ble_eq_true rfl⟩) hN hP hD hS hA hZ [0] rfl rfl (ci := 8) (q0 := 0) rfl rfl rfl rfl hl.1 (Nat.le_of_ble_eq_true rfl) dL_cut_7 (Nat.le_of_ble_eq_true rfl) (Nat.le_of_ble_eq_true rfl) [] rfl rfl (by decide) [] ⟨0, 19, 22, 22⟩ [⟨0, 19, 26, 41⟩] htab (fun z h => nomatch h) rfl (by decide) (hts _ mL_cut_1) 2 rfl (fun q9_7 H locs hP hD hS => ?_)
  have hP : va_P D vwCl [] H := hP
  have hD : va_D A [] := hD
  refine W.widen (k := 1) (n := 6) (Nat.le_of_ble_eq_true rfl) (Nat.le_of_ble_eq_true rfl) ?_
  refine lv_astore (lv' := [(5, .ref q9_7), (0, .ref a0), (1, .int x0), (2, .int x1), (3, .int 1), (4, .ref a1)]) hx hb dL_cut_22 hl (by decide) rfl (fun ls hl => ?_)
  refine lv_iconst (v := 1) hx hb dL_cut_24 (by decide) ?_
  exact en_i (fun k => ([] : List Nat).getD k 0) hx hb hr hlocks rfl rfl hP hD hS (Nat.le_of_ble_eq_true rfl) (Nat.le_of_ble_eq_true rfl) dL_cut_25
set_option maxHeartbeats 4000000 in
set_option maxRecDepth 100000 in
theorem k567_X9_cut (l : Launch) (D : va_G) (cs : Nat → ClassId) (sz : Nat) (a0 a1 a2 a3 a4 a5 a6 : Nat) (x0 : Int32) (x1 : Int32) (hf0 : x0 < 0) : KI l yX9_cut wsX9_cut 2 43 0 0 D cs sz [.ref a0, .int x0, .int x1, .int 1] [(a0, .inr (9, [.int 0, .ref a2, .int 0, .int 0, .int 0, .int 0, .int 0, .int (-1), .ref a1, .ref a3, .ref a4, .ref a5, .int 0, .int 0, .int 0, .int 0, .int 0, .ref a6])), (a1, .inl (cs 0, 45783, .inl (layF (fun _ => 0) 1)))] (fun u => [(a1, .inl (cs 0, 45783, .inl (layF (fun _ => 0) 1))), (a0, .inr (9, [.int 1, .ref a2, .int 0, .int 0, .int 0, .int 0, .int 0, .int (-1), .ref a1, .ref a3, .ref a4, .ref a5, .int 0, .int 0, .int 0, .int 0, .int 0, .ref a6]))]) (0) := by
  refine KI.of cX9_cut 6 (some .boolean) (by decide) rfl (Nat.le_of_ble_eq_true rfl) ?_
  intro p e s m below meth c A ls hx hb hr hml hown hts hlocks hin hP hN hD hA hS hl
  have hown : s.vm.findClass RX9 = some m.cls := hown
  have hl : lv_has ls 6 [(0, .ref a0), (1, .int x0), (2, .int x1), (3, .int 1)] := hl
  refine lv_aload_n hx hb dX9_cut_0 rfl (lv_at hl 0 rfl) ?_
  refine lv_iconst (v := 0) hx hb dX9_cut_1 (by decide) ?_
  refine va_put (D := D) (ci := 9) (v := .int 0) (ty := .int) (C := RX9) (T := TX9) (N := 18) hx hb hts iX9_cut_9 tyX9 tyX9_ok nmX9 hown hN.1 hP hD hS 0 rfl rfl 0 (by decide) (hts _ mX9_cut_1) (fun _ h9 => h9) rfl (by decide +kernel) rfl rfl (Nat.le_of_ble_eq_true rfl) dX9_cut_2 (fun H locs hP hD hS => ?_)
  have hP : va_P D vwCl [(a0, .inr (9, [.int 0, .ref a2, .int 0, .int 0, .int 0, .int 0, .int 0, .int (-1), .ref a1, .ref a3, .ref a4, .ref a5, .int 0, .int 0, .int 0, .int 0, .int 0, .ref a6])), (a1, .inl (cs 0, 45783, .inl (layF (fun _ => 0) 1)))] H := hP
  have hD : va_D A [(a0, .inr (9, [.int 0, .ref a2, .int 0, .int 0, .int 0, .int 0, .int 0, .int (-1), .ref a1, .ref a3, .ref a4, .ref a5, .int 0, .int 0, .int 0, .int 0, .int 0, .ref a6])), (a1, .inl (cs 0, 45783, .inl (layF (fun _ => 0) 1)))] := hD
  refine lv_aload_n hx hb dX9_cut_5 rfl (lv_at hl 0 rfl) ?_
  refine lv_iload_n hx hb dX9_cut_6 rfl (lv_at hl 1 rfl) ?_
  refine cv_i (As := [.int x0]) (rest := []) (b := a0) (wr := []) ⟨hx, hb, hml, hown, hts⟩ (fun sz => k269_X9_noPlayer l D cs sz a0 a1 a2 a3 a4 a5 a6 (x0) hf0) (cwV 1 hts gX9_cut_X9_noPlayer rfl rfl rfl hdX9_noPlayer_v ⟨Nat.le_of_ble_eq_true rfl, Nat.le_of_ble_eq_true rfl⟩) hN hP hD hS hA [0, 1] [] rfl rfl rfl rfl (by decide) (ci := 9) (q0 := 0) rfl rfl rfl rfl hl.1 (Nat.le_of_ble_eq_true rfl) dX9_cut_7 (Nat.le_of_ble_eq_true rfl) (Nat.le_of_ble_eq_true rfl) (fun u0 H locs hP hD hS => ?_)
  have hP : va_P D vwCl [(a1, .inl (cs 0, 45783, .inl (layF (fun _ => 0) 1))), (a0, .inr (9, [.int 1, .ref a2, .int 0, .int 0, .int 0, .int 0, .int 0, .int (-1), .ref a1, .ref a3, .ref a4, .ref a5, .int 0, .int 0, .int 0, .int 0, .int 0, .ref a6]))] H := hP
  have hD : va_D A [(a1, .inl (cs 0, 45783, .inl (layF (fun _ => 0) 1))), (a0, .inr (9, [.int 1, .ref a2, .int 0, .int 0, .int 0, .int 0, .int 0, .int (-1), .ref a1, .ref a3, .ref a4, .ref a5, .int 0, .int 0, .int 0, .int 0, .int 0, .ref a6]))] := hD
  refine W.widen (k := 0) (n := 0) (Nat.le_of_ble_eq_true rfl) (Nat.le_of_ble_eq_true rfl) ?_
  refine lv_if_ne (tgt := 47) hx hb dX9_cut_10 (by decide) (fun _ => ?_) (fun c9 => absurd c9 (by decide))
  refine lv_iconst (v := 0) hx hb dX9_cut_47 (by decide) ?_
  exact en_i (fun k => ([] : List Nat).getD k 0) hx hb hr hlocks rfl rfl hP hD hS (Nat.le_of_ble_eq_true rfl) (Nat.le_of_ble_eq_true rfl) dX9_cut_48
set_option maxHeartbeats 4000000 in
set_option maxRecDepth 100000 in
theorem law_16_nt {p : Program} {l : Launch} {e : Env} {s : State} {m : MethodId} {args : Array Value} {below : List Frame} {meth : Method} {c : Code} {Q : State → Prop} {D : va_G} {cs : Nat → ClassId} {A : Nat → Prop} {xs : Nat → Int32} {b : Nat} (hx : p.tables.exec = Jvm.exec) (hb : c.code = cL_law) (hml : c.maxLocals = 9) (hown : s.vm.findClass RL = some m.cls) (hts : ∀ w ∈ wsL_law, w.before args s = true) (hN : NK D cs s) (hX : va_X b 6 xs s s.heap) (hbl : b < s.heap.size) (hbA : ¬ A b) (hA : ∀ q : Nat, s.heap.size ≤ q → A q) (hZ : ZX A s s.heap) (hZS : ZS cs A s s.heap) (hlt : l.stackTraces = false)
    (kend : ∀ (H : Heap) (locs : List Loc) (ls : Array Slot), va_S A s.heap H locs → lv_has ls 9 [(0, .ref b), (4, .int 0)] → W p l e room_1 s m args below meth c H locs 600002 7302232 Q (F0 m 1169 ls []))
    (a0 a1 a2 a3 a4 a5 a6 a7 a8 a9 a10 a11 a12 : Nat) (y1 y2 y3 : Int32) (hy1 : xs 1 = (y1)) (hy2 : xs 2 = (y2)) (hy3 : xs 3 = (y3)) (e3 : ¬ y3 = 0) (g1_2 : y1 < 0) (H : Heap) (locs : List Loc) (ls : Array Slot) (hP : va_P D vwCl [(a0, .inr (8, [.ref a3, .ref a4, .ref a5, .ref a6, .int 0, .int 0, .int (-1)])), (a1, .inr (9, [.int 0, .ref a7, .int 0, .int 0, .int 0, .int 0, .int 0, .int (-1), .ref a2, .ref a8, .ref a9, .ref a10, .int 0, .int 0, .int 0, .int 0, .int 0, .ref a11])), (a2, .inl (cs 0, 45783, .inl (layF (fun _ => 0) 1)))] H) (hD : va_D A [(a0, .inr (8, [.ref a3, .ref a4, .ref a5, .ref a6, .int 0, .int 0, .int (-1)])), (a1, .inr (9, [.int 0, .ref a7, .int 0, .int 0, .int 0, .int 0, .int 0, .int (-1), .ref a2, .ref a8, .ref a9, .ref a10, .int 0, .int 0, .int 0, .int 0, .int 0, .ref a11])), (a2, .inl (cs 0, 45783, .inl (layF (fun _ => 0) 1)))]) (hS : va_S A s.heap H locs) (hl : lv_has ls 9 [(4, .int 0), (3, .ref a12), (2, .ref a1), (1, .ref a0), (0, .ref b)]) : W p l e room_1 s m args below meth c H locs 391 467079 Q (F0 m 983 ls []) := by
  refine lv_aload_n hx hb dL_law_983 rfl (lv_at hl 3 rfl) ?_
  refine lv_aload_n hx hb dL_law_984 rfl (lv_at hl 4 rfl) ?_
  refine lv_iload hx hb dL_law_985 (lv_at hl 0 rfl) ?_
  refine lv_iconst (v := 1) hx hb dL_law_987 (by decide) ?_
  refine lv_iadd hx hb dL_law_988 ?_
  refine tp_i (1) (by decide) ?_
  refine va_sld hx hb hX hbl hbA hS (vin (by decide +kernel)) dL_law_989 ?_
  refine tp_i (y1) hy1 ?_
  refine lv_aload_n hx hb dL_law_990 rfl (lv_at hl 4 rfl) ?_
  refine lv_iload hx hb dL_law_991 (lv_at hl 0 rfl) ?_
  refine lv_iconst (v := 2) hx hb dL_law_993 (by decide) ?_
  refine lv_iadd hx hb dL_law_994 ?_
  refine tp_i (2) (by decide) ?_
  refine va_sld hx hb hX hbl hbA hS (vin (by decide +kernel)) dL_law_995 ?_
  refine tp_i (y2) hy2 ?_
  refine lv_aload_n hx hb dL_law_996 rfl (lv_at hl 4 rfl) ?_
  refine lv_iload hx hb dL_law_997 (lv_at hl 0 rfl) ?_
  refine lv_iconst (v := 3) hx hb dL_law_999 (by decide) ?_
  refine lv_iadd hx hb dL_law_1000 ?_
  refine tp_i (3) (by decide) ?_
  refine va_sld hx hb hX hbl hbA hS (vin (by decide +kernel)) dL_law_1001 ?_
  refine tp_i (y3) hy3 ?_
  refine lv_if_eq (tgt := 1009) hx hb dL_law_1002 (by decide) (fun c9 => absurd c9 e3) (fun _ => ?_)
  refine lv_iconst (v := 1) hx hb dL_law_1005 (by decide) ?_
  refine lv_goto (tgt := 1010) hx hb dL_law_1006 (by decide) ?_
  refine lv_aload_n hx hb dL_law_1010 rfl (lv_at hl 1 rfl) ?_
  refine ch_i (As := [.ref a0, .int y1, .int y2, .int 1, .ref a12]) (rest := []) (wr := [(a1, .inr (9, [.int 0, .ref a7, .int 0, .int 0, .int 0, .int 0, .int 0, .int (-1), .ref a2, .ref a8, .ref a9, .ref a10, .int 0, .int 0, .int 0, .int 0, .int 0, .ref a11])), (a2, .inl (cs 0, 45783, .inl (layF (fun _ => 0) 1)))]) ⟨hx, hb, hml, hown, hts⟩ (fun sz => k566_L_cut l D cs sz hlt a0 a12 a3 a4 a5 a6 (y1) (y2) g1_2) (vx_cwSW 5 hts gL_law_L_cut rfl rfl rfl hdL_cut_o ⟨Nat.le_of_ble_eq_true rfl, Nat.le_of_ble_eq_true rfl⟩) hN hP hD hS hA hZ [0] [1, 2] rfl rfl rfl rfl (by decide) rfl rfl hl.1 (Nat.le_of_ble_eq_true rfl) dL_law_1011 (Nat.le_of_ble_eq_true rfl) (Nat.le_of_ble_eq_true rfl) (fun u0 H locs hP hD hS => ?_)
  have hP : va_P D vwCl [(a1, .inr (9, [.int 0, .ref a7, .int 0, .int 0, .int 0, .int 0, .int 0, .int (-1), .ref a2, .ref a8, .ref a9, .ref a10, .int 0, .int 0, .int 0, .int 0, .int 0, .ref a11])), (a2, .inl (cs 0, 45783, .inl (layF (fun _ => 0) 1)))] H := hP
  have hD : va_D A [(a1, .inr (9, [.int 0, .ref a7, .int 0, .int 0, .int 0, .int 0, .int 0, .int (-1), .ref a2, .ref a8, .ref a9, .ref a10, .int 0, .int 0, .int 0, .int 0, .int 0, .ref a11])), (a2, .inl (cs 0, 45783, .inl (layF (fun _ => 0) 1)))] := hD
  refine W.widen (k := 392) (n := 467085) (Nat.le_of_ble_eq_true rfl) (Nat.le_of_ble_eq_true rfl) ?_
  refine lv_istore (lv' := [(5, .int 1), (4, .int 0), (3, .ref a12), (2, .ref a1), (1, .ref a0), (0, .ref b)]) hx hb dL_law_1014 hl (by decide) rfl (fun ls hl => ?_)
  refine lv_aload_n hx hb dL_law_1016 rfl (lv_at hl 3 rfl) ?_
  refine lv_aload_n hx hb dL_law_1017 rfl (lv_at hl 5 rfl) ?_
  refine lv_iload hx hb dL_law_1018 (lv_at hl 1 rfl) ?_
  refine lv_iconst (v := 1) hx hb dL_law_1020 (by decide) ?_
  refine lv_iadd hx hb dL_law_1021 ?_
  refine tp_i (1) (by decide) ?_
  refine va_sld hx hb hX hbl hbA hS (vin (by decide +kernel)) dL_law_1022 ?_
  refine tp_i (y1) hy1 ?_
  refine lv_aload_n hx hb dL_law_1023 rfl (lv_at hl 5 rfl) ?_
  refine lv_iload hx hb dL_law_1024 (lv_at hl 1 rfl) ?_
  refine lv_iconst (v := 2) hx hb dL_law_1026 (by decide) ?_
  refine lv_iadd hx hb dL_law_1027 ?_
  refine tp_i (2) (by decide) ?_
  refine va_sld hx hb hX hbl hbA hS (vin (by decide +kernel)) dL_law_1028 ?_
  refine tp_i (y2) hy2 ?_
  refine lv_aload_n hx hb dL_law_1029 rfl (lv_at hl 5 rfl) ?_
  refine lv_iload hx hb dL_law_1030 (lv_at hl 1 rfl) ?_
  refine lv_iconst (v := 3) hx hb dL_law_1032 (by decide) ?_
  refine lv_iadd hx hb dL_law_1033 ?_
  refine tp_i (3) (by decide) ?_
  refine va_sld hx hb hX hbl hbA hS (vin (by decide +kernel)) dL_law_1034 ?_
  refine tp_i (y3) hy3 ?_
  refine lv_if_eq (tgt := 1042) hx hb dL_law_1035 (by decide) (fun c9 => absurd c9 e3) (fun _ => ?_)
  refine lv_iconst (v := 1) hx hb dL_law_1038 (by decide) ?_
  refine lv_goto (tgt := 1043) hx hb dL_law_1039 (by decide) ?_
  refine cv_i (As := [.int y1, .int y2, .int 1]) (rest := []) (b := a1) (wr := []) ⟨hx, hb, hml, hown, hts⟩ (fun sz => k567_X9_cut l D cs sz a1 a2 a7 a8 a9 a10 a11 (y1) (y2) g1_2) (cwV 3 hts gL_law_X9_cut rfl rfl rfl hdX9_cut_v ⟨Nat.le_of_ble_eq_true rfl, Nat.le_of_ble_eq_true rfl⟩) hN hP hD hS hA [0, 1] [] rfl rfl rfl rfl (by decide) (ci := 9) (q0 := 0) rfl rfl rfl rfl hl.1 (Nat.le_of_ble_eq_true rfl) dL_law_1043 (Nat.le_of_ble_eq_true rfl) (Nat.le_of_ble_eq_true rfl) (fun u1 H locs hP hD hS => ?_)
  have hP : va_P D vwCl [(a2, .inl (cs 0, 45783, .inl (layF (fun _ => 0) 1))), (a1, .inr (9, [.int 1, .ref a7, .int 0, .int 0, .int 0, .int 0, .int 0, .int (-1), .ref a2, .ref a8, .ref a9, .ref a10, .int 0, .int 0, .int 0, .int 0, .int 0, .ref a11]))] H := hP
  have hD : va_D A [(a2, .inl (cs 0, 45783, .inl (layF (fun _ => 0) 1))), (a1, .inr (9, [.int 1, .ref a7, .int 0, .int 0, .int 0, .int 0, .int 0, .int (-1), .ref a2, .ref a8, .ref a9, .ref a10, .int 0, .int 0, .int 0, .int 0, .int 0, .ref a11]))] := hD
  refine W.widen (k := 392) (n := 467085) (Nat.le_of_ble_eq_true rfl) (Nat.le_of_ble_eq_true rfl) ?_
  refine lv_istore (lv' := [(6, .int 0), (5, .int 1), (4, .int 0), (3, .ref a12), (2, .ref a1), (1, .ref a0), (0, .ref b)]) hx hb dL_law_1046 hl (by decide) rfl (fun ls hl => ?_)
  refine lv_aload_n hx hb dL_law_1048 rfl (lv_at hl 4 rfl) ?_
  refine cv_i (As := []) (rest := []) (b := a1) (wr := [(a2, .inl (cs 0, 45783, .inl (layF (fun _ => 0) 1)))]) ⟨hx, hb, hml, hown, hts⟩ (fun sz => k158_X9_thrown l D cs sz a1 a7 a2 a8 a9 a10 a11) (cwV 0 hts gL_law_X9_thrown rfl rfl rfl hdX9_thrown_v ⟨Nat.le_of_ble_eq_true rfl, Nat.le_of_ble_eq_true rfl⟩) hN hP hD hS hA [1] [0] rfl rfl rfl rfl (by decide) (ci := 9) (q0 := 0) rfl rfl rfl rfl hl.1 (Nat.le_of_ble_eq_true rfl) dL_law_1049 (Nat.le_of_ble_eq_true rfl) (Nat.le_of_ble_eq_true rfl) (fun u2 H locs hP hD hS => ?_)
  have hP : va_P D vwCl [(a2, .inl (cs 0, 45783, .inl (layF (fun _ => 0) 1))), (a1, .inr (9, [.int 1, .ref a7, .int 0, .int 0, .int 0, .int 0, .int 0, .int (-1), .ref a2, .ref a8, .ref a9, .ref a10, .int 0, .int 0, .int 0, .int 0, .int 0, .ref a11]))] H := hP
  have hD : va_D A [(a2, .inl (cs 0, 45783, .inl (layF (fun _ => 0) 1))), (a1, .inr (9, [.int 1, .ref a7, .int 0, .int 0, .int 0, .int 0, .int 0, .int (-1), .ref a2, .ref a8, .ref a9, .ref a10, .int 0, .int 0, .int 0, .int 0, .int 0, .ref a11]))] := hD
  refine W.widen (k := 392) (n := 467085) (Nat.le_of_ble_eq_true rfl) (Nat.le_of_ble_eq_true rfl) ?_
  refine lv_iload hx hb dL_law_1052 (lv_at hl 1 rfl) ?_
  refine lv_icmp_eq (tgt := 1059) hx hb dL_law_1054 (by decide) (fun _ => ?_) (fun c9 => absurd (by decide) c9)
  refine lv_iload hx hb dL_law_1059 (lv_at hl 1 rfl) ?_
  refine lv_if_ne (tgt := 1083) hx hb dL_law_1061 (by decide) (fun _ => ?_) (fun c9 => absurd c9 (by decide))
  refine lv_goto (tgt := 1169) hx hb dL_law_1083 (by decide) ?_
  refine W.widen (k := 600002) (n := 7302232) (Nat.le_of_ble_eq_true rfl) (Nat.le_of_ble_eq_true rfl) ?_
  exact kend _ _ _ hS (lv_sub hl [6, 2] rfl)

set_option maxHeartbeats 4000000 in
set_option maxRecDepth 100000 in
theorem k568_X8_cut (l : Launch) (D : va_G) (cs : Nat → ClassId) (sz : Nat) (hlt : l.stackTraces = false) (a0 a1 a2 a3 a4 a5 a6 a7 a8 a9 a10 a11 a12 a13 a14 : Nat) (x0 : Int32) (x1 : Int32) (hf0 : ¬ x0 < 0) (hf1 : ¬ x0 < 1) : KX l yX8_cut wsX8_cut 7 121 1 6 D cs sz [.ref a0, .int x0, .int x1, .int 1] [(a0, .inr (8, [.ref a3, .ref a1, .ref a4, .ref a5, .int 0, .int 0, .int (-1)])), (a1, .inr (7, [.ref a2, .ref a6, .ref a7, .ref a8, .ref a9, .ref a10, .long 0, .int 0, .int 0, .int 0, .int 0, .int 0, .int 0, .int 0, .int 0, .int 0])), (a2, .inr (6, [.int 1, .int 1, .int 50, .null, .ref a11, .ref a12, .ref a13, .ref a14]))] QnI "java/lang/IndexOutOfBoundsException" := by
  refine KX.of cX8_cut 5 (some .boolean) (by decide) rfl (Nat.le_of_ble_eq_true rfl) ?_
  intro p e s m below meth c A ls hx hb hr hml hown hts hlocks hnx hP hN hD hA hS hl hZ
  have hown : s.vm.findClass RX8 = some m.cls := hown
  have hl : lv_has ls 5 [(0, .ref a0), (1, .int x0), (2, .int x1), (3, .int 1)] := hl
  refine lv_aload_n hx hb dX8_cut_0 rfl (lv_at hl 0 rfl) ?_
  refine lv_iload_n hx hb dX8_cut_1 rfl (lv_at hl 1 rfl) ?_
  exact xp_v (As := [.int x0]) (rest := []) (b := a0) ⟨hx, hb, hml, hown, hts⟩ (fun sz => k271_X8_refuseNoPlayer l D cs sz hlt a0 a1 a2 a3 a4 a5 a6 a7 a8 a9 a10 a11 a12 a13 a14 (x0) hf0 hf1) (cwV 1 hts gX8_cut_X8_refuseNoPlayer rfl rfl rfl hdX8_refuseNoPlayer_v ⟨Nat.le_of_ble_eq_true rfl, Nat.le_of_ble_eq_true rfl⟩) hN hP hD hS hA hZ [0, 1, 2] rfl rfl (ci := 8) (q0 := 0) rfl rfl rfl rfl hl.1 (Nat.le_of_ble_eq_true rfl) dX8_cut_2 (Nat.le_of_ble_eq_true rfl) (Nat.le_of_ble_eq_true rfl) hnx hlocks (Nat.le_of_ble_eq_true rfl) (Nat.le_of_ble_eq_true rfl)
set_option maxHeartbeats 4000000 in
set_option maxRecDepth 100000 in
theorem k569_L_cut (l : Launch) (D : va_G) (cs : Nat → ClassId) (sz : Nat) (hlt : l.stackTraces = false) (a0 a1 a2 a3 a4 a5 a6 a7 a8 a9 a10 a11 a12 a13 a14 a15 : Nat) (x0 : Int32) (x1 : Int32) (hf0 : ¬ x0 < 0) (hf1 : ¬ x0 < 1) : KH l yL_cut wsL_cut 8 145 1 6 D cs sz [.ref a0, .int x0, .int x1, .int 1, .ref a3] [(a0, .inr (8, [.ref a4, .ref a1, .ref a5, .ref a6, .int 0, .int 0, .int (-1)])), (a1, .inr (7, [.ref a2, .ref a7, .ref a8, .ref a9, .ref a10, .ref a11, .long 0, .int 0, .int 0, .int 0, .int 0, .int 0, .int 0, .int 0, .int 0, .int 0])), (a2, .inr (6, [.int 1, .int 1, .int 50, .null, .ref a12, .ref a13, .ref a14, .ref a15]))] (fun u => []) (1) := by
  refine KH.of cL_cut 6 (some .int) (by decide) rfl (Nat.le_of_ble_eq_true rfl) ?_
  intro p e s m below meth c A ls hx hb hr hml hown hts hlocks htab hP hN hD hA hS hl hZ
  have hown : s.vm.findClass RL = some m.cls := hown
  have hl : lv_has ls 6 [(0, .ref a0), (1, .int x0), (2, .int x1), (3, .int 1), (4, .ref a3)] := hl
  refine lv_aload hx hb dL_cut_0 (lv_at hl 4 rfl) ?_
  refine lv_iconst (v := 0) hx hb dL_cut_2 (by decide) ?_
  refine lv_aload_n hx hb dL_cut_3 rfl (lv_at hl 0 rfl) ?_
  refine lv_iload_n hx hb dL_cut_4 rfl (lv_at hl 1 rfl) ?_
  refine lv_iload_n hx hb dL_cut_5 rfl (lv_at hl 2 rfl) ?_
  refine lv_iload_n hx hb dL_cut_6 rfl (lv_at hl 3 rfl) ?_
  refine xc_i (wr := []) (As := [.int x0, .int x1, .int 1]) (rest := [.int 0, .ref a3]) (b := a0) ⟨hx, hb, hml, hown, hts⟩ (fun sz => k568_X8_cut l D cs sz hlt a0 a1 a2 a4 a5 a6 a7 a8 a9 a10 a11 a12 a13 a14 a15 (x0) (x1) hf0 hf1) (cwV 3 hts gL_cut_X8_cut rfl rfl rfl hdX8_cut_v ⟨Nat.le_of_ble_eq_true rfl, Nat.le_of_ble_eq_true rfl⟩) hN hP hD hS hA hZ [0, 1, 2] rfl rfl (ci := 8) (q0 := 0) rfl rfl rfl rfl hl.1 (Nat.le_of_ble_eq_true rfl) dL_cut_7 (Nat.le_of_ble_eq_true rfl) (Nat.le_of_ble_eq_true rfl) [] rfl rfl (by decide) [] ⟨0, 19, 22, 22⟩ [⟨0, 19, 26, 41⟩] htab (fun z h => nomatch h) rfl (by decide) (hts _ mL_cut_1) 2 rfl (fun q9_7 H locs hP hD hS => ?_)
  have hP : va_P D vwCl [] H := hP
  have hD : va_D A [] := hD
  refine W.widen (k := 1) (n := 6) (Nat.le_of_ble_eq_true rfl) (Nat.le_of_ble_eq_true rfl) ?_
  refine lv_astore (lv' := [(5, .ref q9_7), (0, .ref a0), (1, .int x0), (2, .int x1), (3, .int 1), (4, .ref a3)]) hx hb dL_cut_22 hl (by decide) rfl (fun ls hl => ?_)
  refine lv_iconst (v := 1) hx hb dL_cut_24 (by decide) ?_
  exact en_i (fun k => ([] : List Nat).getD k 0) hx hb hr hlocks rfl rfl hP hD hS (Nat.le_of_ble_eq_true rfl) (Nat.le_of_ble_eq_true rfl) dL_cut_25
set_option maxHeartbeats 4000000 in
set_option maxRecDepth 100000 in
theorem k570_X9_cut (l : Launch) (D : va_G) (cs : Nat → ClassId) (sz : Nat) (a0 a1 a2 a3 a4 a5 a6 : Nat) (x0 : Int32) (x1 : Int32) (hf0 : ¬ x0 < 0) (hf1 : 0 < x0) : KI l yX9_cut wsX9_cut 2 43 0 0 D cs sz [.ref a0, .int x0, .int x1, .int 1] [(a0, .inr (9, [.int 0, .ref a2, .int 0, .int 0, .int 0, .int 0, .int 0, .int (-1), .ref a1, .ref a3, .ref a4, .ref a5, .int 0, .int 0, .int 0, .int 0, .int 0, .ref a6])), (a1, .inl (cs 0, 45783, .inl (layF (fun _ => 0) 1)))] (fun u => [(a1, .inl (cs 0, 45783, .inl (layF (fun _ => 0) 1))), (a0, .inr (9, [.int 1, .ref a2, .int 0, .int 0, .int 0, .int 0, .int 0, .int (-1), .ref a1, .ref a3, .ref a4, .ref a5, .int 0, .int 0, .int 0, .int 0, .int 0, .ref a6]))]) (0) := by
  refine KI.of cX9_cut 6 (some .boolean) (by decide) rfl (Nat.le_of_ble_eq_true rfl) ?_
  intro p e s m below meth c A ls hx hb hr hml hown hts hlocks hin hP hN hD hA hS hl
  have hown : s.vm.findClass RX9 = some m.cls := hown
  have hl : lv_has ls 6 [(0, .ref a0), (1, .int x0), (2, .int x1), (3, .int 1)] := hl
  refine lv_aload_n hx hb dX9_cut_0 rfl (lv_at hl 0 rfl) ?_
  refine lv_iconst (v := 0) hx hb dX9_cut_1 (by decide) ?_
  refine va_put (D := D) (ci := 9) (v := .int 0) (ty := .int) (C := RX9) (T := TX9) (N := 18) hx hb hts iX9_cut_9 tyX9 tyX9_ok nmX9 hown hN.1 hP hD hS 0 rfl rfl 0 (by decide) (hts _ mX9_cut_1) (fun _ h9 => h9) rfl (by decide +kernel) rfl rfl (Nat.le_of_ble_eq_true rfl) dX9_cut_2 (fun H locs hP hD hS => ?_)
  have hP : va_P D vwCl [(a0, .inr (9, [.int 0, .ref a2, .int 0, .int 0, .int 0, .int 0, .int 0, .int (-1), .ref a1, .ref a3, .ref a4, .ref a5, .int 0, .int 0, .int 0, .int 0, .int 0, .ref a6])), (a1, .inl (cs 0, 45783, .inl (layF (fun _ => 0) 1)))] H := hP
  have hD : va_D A [(a0, .inr (9, [.int 0, .ref a2, .int 0, .int 0, .int 0, .int 0, .int 0, .int (-1), .ref a1, .ref a3, .ref a4, .ref a5, .int 0, .int 0, .int 0, .int 0, .int 0, .ref a6])), (a1, .inl (cs 0, 45783, .inl (layF (fun _ => 0) 1)))] := hD
  refine lv_aload_n hx hb dX9_cut_5 rfl (lv_at hl 0 rfl) ?_
  refine lv_iload_n hx hb dX9_cut_6 rfl (lv_at hl 1 rfl) ?_
  refine cv_i (As := [.int x0]) (rest := []) (b := a0) (wr := []) ⟨hx, hb, hml, hown, hts⟩ (fun sz => k275_X9_noPlayer l D cs sz a0 a1 a2 a3 a4 a5 a6 (x0) hf0 hf1) (cwV 1 hts gX9_cut_X9_noPlayer rfl rfl rfl hdX9_noPlayer_v ⟨Nat.le_of_ble_eq_true rfl, Nat.le_of_ble_eq_true rfl⟩) hN hP hD hS hA [0, 1] [] rfl rfl rfl rfl (by decide) (ci := 9) (q0 := 0) rfl rfl rfl rfl hl.1 (Nat.le_of_ble_eq_true rfl) dX9_cut_7 (Nat.le_of_ble_eq_true rfl) (Nat.le_of_ble_eq_true rfl) (fun u0 H locs hP hD hS => ?_)
  have hP : va_P D vwCl [(a1, .inl (cs 0, 45783, .inl (layF (fun _ => 0) 1))), (a0, .inr (9, [.int 1, .ref a2, .int 0, .int 0, .int 0, .int 0, .int 0, .int (-1), .ref a1, .ref a3, .ref a4, .ref a5, .int 0, .int 0, .int 0, .int 0, .int 0, .ref a6]))] H := hP
  have hD : va_D A [(a1, .inl (cs 0, 45783, .inl (layF (fun _ => 0) 1))), (a0, .inr (9, [.int 1, .ref a2, .int 0, .int 0, .int 0, .int 0, .int 0, .int (-1), .ref a1, .ref a3, .ref a4, .ref a5, .int 0, .int 0, .int 0, .int 0, .int 0, .ref a6]))] := hD
  refine W.widen (k := 0) (n := 0) (Nat.le_of_ble_eq_true rfl) (Nat.le_of_ble_eq_true rfl) ?_
  refine lv_if_ne (tgt := 47) hx hb dX9_cut_10 (by decide) (fun _ => ?_) (fun c9 => absurd c9 (by decide))
  refine lv_iconst (v := 0) hx hb dX9_cut_47 (by decide) ?_
  exact en_i (fun k => ([] : List Nat).getD k 0) hx hb hr hlocks rfl rfl hP hD hS (Nat.le_of_ble_eq_true rfl) (Nat.le_of_ble_eq_true rfl) dX9_cut_48
set_option maxHeartbeats 4000000 in
set_option maxRecDepth 100000 in
theorem law_16_bt {p : Program} {l : Launch} {e : Env} {s : State} {m : MethodId} {args : Array Value} {below : List Frame} {meth : Method} {c : Code} {Q : State → Prop} {D : va_G} {cs : Nat → ClassId} {A : Nat → Prop} {xs : Nat → Int32} {b : Nat} (hx : p.tables.exec = Jvm.exec) (hb : c.code = cL_law) (hml : c.maxLocals = 9) (hown : s.vm.findClass RL = some m.cls) (hts : ∀ w ∈ wsL_law, w.before args s = true) (hN : NK D cs s) (hX : va_X b 6 xs s s.heap) (hbl : b < s.heap.size) (hbA : ¬ A b) (hA : ∀ q : Nat, s.heap.size ≤ q → A q) (hZ : ZX A s s.heap) (hZS : ZS cs A s s.heap) (hlt : l.stackTraces = false)
    (kend : ∀ (H : Heap) (locs : List Loc) (ls : Array Slot), va_S A s.heap H locs → lv_has ls 9 [(0, .ref b), (4, .int 0)] → W p l e room_1 s m args below meth c H locs 600002 7302232 Q (F0 m 1169 ls []))
    (a0 a1 a2 a3 a4 a5 a6 a7 a8 a9 a10 a11 a12 a13 a14 a15 a16 a17 a18 a19 a20 a21 a22 : Nat) (y1 y2 y3 : Int32) (hy1 : xs 1 = (y1)) (hy2 : xs 2 = (y2)) (hy3 : xs 3 = (y3)) (e3 : ¬ y3 = 0) (g1_4 : ¬ y1 < 0) (g1_8 : ¬ y1 < 1) (g1_7 : 0 < y1) (H : Heap) (locs : List Loc) (ls : Array Slot) (hP : va_P D vwCl [(a0, .inr (8, [.ref a5, .ref a2, .ref a6, .ref a7, .int 0, .int 0, .int (-1)])), (a1, .inr (6, [.int 1, .int 1, .int 50, .null, .ref a8, .ref a9, .ref a10, .ref a11])), (a2, .inr (7, [.ref a1, .ref a12, .ref a13, .ref a14, .ref a15, .ref a16, .long 0, .int 0, .int 0, .int 0, .int 0, .int 0, .int 0, .int 0, .int 0, .int 0])), (a3, .inr (9, [.int 0, .ref a17, .int 0, .int 0, .int 0, .int 0, .int 0, .int (-1), .ref a4, .ref a18, .ref a19, .ref a20, .int 0, .int 0, .int 0, .int 0, .int 0, .ref a21])), (a4, .inl (cs 0, 45783, .inl (layF (fun _ => 0) 1)))] H) (hD : va_D A [(a0, .inr (8, [.ref a5, .ref a2, .ref a6, .ref a7, .int 0, .int 0, .int (-1)])), (a1, .inr (6, [.int 1, .int 1, .int 50, .null, .ref a8, .ref a9, .ref a10, .ref a11])), (a2, .inr (7, [.ref a1, .ref a12, .ref a13, .ref a14, .ref a15, .ref a16, .long 0, .int 0, .int 0, .int 0, .int 0, .int 0, .int 0, .int 0, .int 0, .int 0])), (a3, .inr (9, [.int 0, .ref a17, .int 0, .int 0, .int 0, .int 0, .int 0, .int (-1), .ref a4, .ref a18, .ref a19, .ref a20, .int 0, .int 0, .int 0, .int 0, .int 0, .ref a21])), (a4, .inl (cs 0, 45783, .inl (layF (fun _ => 0) 1)))]) (hS : va_S A s.heap H locs) (hl : lv_has ls 9 [(4, .int 0), (3, .ref a22), (2, .ref a3), (1, .ref a0), (0, .ref b)]) : W p l e room_1 s m args below meth c H locs 391 467079 Q (F0 m 983 ls []) := by
  refine lv_aload_n hx hb dL_law_983 rfl (lv_at hl 3 rfl) ?_
  refine lv_aload_n hx hb dL_law_984 rfl (lv_at hl 4 rfl) ?_
  refine lv_iload hx hb dL_law_985 (lv_at hl 0 rfl) ?_
  refine lv_iconst (v := 1) hx hb dL_law_987 (by decide) ?_
  refine lv_iadd hx hb dL_law_988 ?_
  refine tp_i (1) (by decide) ?_
  refine va_sld hx hb hX hbl hbA hS (vin (by decide +kernel)) dL_law_989 ?_
  refine tp_i (y1) hy1 ?_
  refine lv_aload_n hx hb dL_law_990 rfl (lv_at hl 4 rfl) ?_
  refine lv_iload hx hb dL_law_991 (lv_at hl 0 rfl) ?_
  refine lv_iconst (v := 2) hx hb dL_law_993 (by decide) ?_
  refine lv_iadd hx hb dL_law_994 ?_
  refine tp_i (2) (by decide) ?_
  refine va_sld hx hb hX hbl hbA hS (vin (by decide +kernel)) dL_law_995 ?_
  refine tp_i (y2) hy2 ?_
  refine lv_aload_n hx hb dL_law_996 rfl (lv_at hl 4 rfl) ?_
  refine lv_iload hx hb dL_law_997 (lv_at hl 0 rfl) ?_
  refine lv_iconst (v := 3) hx hb dL_law_999 (by decide) ?_
  refine lv_iadd hx hb dL_law_1000 ?_
  refine tp_i (3) (by decide) ?_
  refine va_sld hx hb hX hbl hbA hS (vin (by decide +kernel)) dL_law_1001 ?_
  refine tp_i (y3) hy3 ?_
  refine lv_if_eq (tgt := 1009) hx hb dL_law_1002 (by decide) (fun c9 => absurd c9 e3) (fun _ => ?_)
  refine lv_iconst (v := 1) hx hb dL_law_1005 (by decide) ?_
  refine lv_goto (tgt := 1010) hx hb dL_law_1006 (by decide) ?_
  refine lv_aload_n hx hb dL_law_1010 rfl (lv_at hl 1 rfl) ?_
  refine ch_i (As := [.ref a0, .int y1, .int y2, .int 1, .ref a22]) (rest := []) (wr := [(a3, .inr (9, [.int 0, .ref a17, .int 0, .int 0, .int 0, .int 0, .int 0, .int (-1), .ref a4, .ref a18, .ref a19, .ref a20, .int 0, .int 0, .int 0, .int 0, .int 0, .ref a21])), (a4, .inl (cs 0, 45783, .inl (layF (fun _ => 0) 1)))]) ⟨hx, hb, hml, hown, hts⟩ (fun sz => k569_L_cut l D cs sz hlt a0 a2 a1 a22 a5 a6 a7 a12 a13 a14 a15 a16 a8 a9 a10 a11 (y1) (y2) g1_4 g1_8) (vx_cwSW 5 hts gL_law_L_cut rfl rfl rfl hdL_cut_o ⟨Nat.le_of_ble_eq_true rfl, Nat.le_of_ble_eq_true rfl⟩) hN hP hD hS hA hZ [0, 2, 1] [3, 4] rfl rfl rfl rfl (by decide) rfl rfl hl.1 (Nat.le_of_ble_eq_true rfl) dL_law_1011 (Nat.le_of_ble_eq_true rfl) (Nat.le_of_ble_eq_true rfl) (fun u0 H locs hP hD hS => ?_)
  have hP : va_P D vwCl [(a3, .inr (9, [.int 0, .ref a17, .int 0, .int 0, .int 0, .int 0, .int 0, .int (-1), .ref a4, .ref a18, .ref a19, .ref a20, .int 0, .int 0, .int 0, .int 0, .int 0, .ref a21])), (a4, .inl (cs 0, 45783, .inl (layF (fun _ => 0) 1)))] H := hP
  have hD : va_D A [(a3, .inr (9, [.int 0, .ref a17, .int 0, .int 0, .int 0, .int 0, .int 0, .int (-1), .ref a4, .ref a18, .ref a19, .ref a20, .int 0, .int 0, .int 0, .int 0, .int 0, .ref a21])), (a4, .inl (cs 0, 45783, .inl (layF (fun _ => 0) 1)))] := hD
  refine W.widen (k := 392) (n := 467085) (Nat.le_of_ble_eq_true rfl) (Nat.le_of_ble_eq_true rfl) ?_
  refine lv_istore (lv' := [(5, .int 1), (4, .int 0), (3, .ref a22), (2, .ref a3), (1, .ref a0), (0, .ref b)]) hx hb dL_law_1014 hl (by decide) rfl (fun ls hl => ?_)
  refine lv_aload_n hx hb dL_law_1016 rfl (lv_at hl 3 rfl) ?_
  refine lv_aload_n hx hb dL_law_1017 rfl (lv_at hl 5 rfl) ?_
  refine lv_iload hx hb dL_law_1018 (lv_at hl 1 rfl) ?_
  refine lv_iconst (v := 1) hx hb dL_law_1020 (by decide) ?_
  refine lv_iadd hx hb dL_law_1021 ?_
  refine tp_i (1) (by decide) ?_
  refine va_sld hx hb hX hbl hbA hS (vin (by decide +kernel)) dL_law_1022 ?_
  refine tp_i (y1) hy1 ?_
  refine lv_aload_n hx hb dL_law_1023 rfl (lv_at hl 5 rfl) ?_
  refine lv_iload hx hb dL_law_1024 (lv_at hl 1 rfl) ?_
  refine lv_iconst (v := 2) hx hb dL_law_1026 (by decide) ?_
  refine lv_iadd hx hb dL_law_1027 ?_
  refine tp_i (2) (by decide) ?_
  refine va_sld hx hb hX hbl hbA hS (vin (by decide +kernel)) dL_law_1028 ?_
  refine tp_i (y2) hy2 ?_
  refine lv_aload_n hx hb dL_law_1029 rfl (lv_at hl 5 rfl) ?_
  refine lv_iload hx hb dL_law_1030 (lv_at hl 1 rfl) ?_
  refine lv_iconst (v := 3) hx hb dL_law_1032 (by decide) ?_
  refine lv_iadd hx hb dL_law_1033 ?_
  refine tp_i (3) (by decide) ?_
  refine va_sld hx hb hX hbl hbA hS (vin (by decide +kernel)) dL_law_1034 ?_
  refine tp_i (y3) hy3 ?_
  refine lv_if_eq (tgt := 1042) hx hb dL_law_1035 (by decide) (fun c9 => absurd c9 e3) (fun _ => ?_)
  refine lv_iconst (v := 1) hx hb dL_law_1038 (by decide) ?_
  refine lv_goto (tgt := 1043) hx hb dL_law_1039 (by decide) ?_
  refine cv_i (As := [.int y1, .int y2, .int 1]) (rest := []) (b := a3) (wr := []) ⟨hx, hb, hml, hown, hts⟩ (fun sz => k570_X9_cut l D cs sz a3 a4 a17 a18 a19 a20 a21 (y1) (y2) g1_4 g1_7) (cwV 3 hts gL_law_X9_cut rfl rfl rfl hdX9_cut_v ⟨Nat.le_of_ble_eq_true rfl, Nat.le_of_ble_eq_true rfl⟩) hN hP hD hS hA [0, 1] [] rfl rfl rfl rfl (by decide) (ci := 9) (q0 := 0) rfl rfl rfl rfl hl.1 (Nat.le_of_ble_eq_true rfl) dL_law_1043 (Nat.le_of_ble_eq_true rfl) (Nat.le_of_ble_eq_true rfl) (fun u1 H locs hP hD hS => ?_)
  have hP : va_P D vwCl [(a4, .inl (cs 0, 45783, .inl (layF (fun _ => 0) 1))), (a3, .inr (9, [.int 1, .ref a17, .int 0, .int 0, .int 0, .int 0, .int 0, .int (-1), .ref a4, .ref a18, .ref a19, .ref a20, .int 0, .int 0, .int 0, .int 0, .int 0, .ref a21]))] H := hP
  have hD : va_D A [(a4, .inl (cs 0, 45783, .inl (layF (fun _ => 0) 1))), (a3, .inr (9, [.int 1, .ref a17, .int 0, .int 0, .int 0, .int 0, .int 0, .int (-1), .ref a4, .ref a18, .ref a19, .ref a20, .int 0, .int 0, .int 0, .int 0, .int 0, .ref a21]))] := hD
  refine W.widen (k := 392) (n := 467085) (Nat.le_of_ble_eq_true rfl) (Nat.le_of_ble_eq_true rfl) ?_
  refine lv_istore (lv' := [(6, .int 0), (5, .int 1), (4, .int 0), (3, .ref a22), (2, .ref a3), (1, .ref a0), (0, .ref b)]) hx hb dL_law_1046 hl (by decide) rfl (fun ls hl => ?_)
  refine lv_aload_n hx hb dL_law_1048 rfl (lv_at hl 4 rfl) ?_
  refine cv_i (As := []) (rest := []) (b := a3) (wr := [(a4, .inl (cs 0, 45783, .inl (layF (fun _ => 0) 1)))]) ⟨hx, hb, hml, hown, hts⟩ (fun sz => k158_X9_thrown l D cs sz a3 a17 a4 a18 a19 a20 a21) (cwV 0 hts gL_law_X9_thrown rfl rfl rfl hdX9_thrown_v ⟨Nat.le_of_ble_eq_true rfl, Nat.le_of_ble_eq_true rfl⟩) hN hP hD hS hA [1] [0] rfl rfl rfl rfl (by decide) (ci := 9) (q0 := 0) rfl rfl rfl rfl hl.1 (Nat.le_of_ble_eq_true rfl) dL_law_1049 (Nat.le_of_ble_eq_true rfl) (Nat.le_of_ble_eq_true rfl) (fun u2 H locs hP hD hS => ?_)
  have hP : va_P D vwCl [(a4, .inl (cs 0, 45783, .inl (layF (fun _ => 0) 1))), (a3, .inr (9, [.int 1, .ref a17, .int 0, .int 0, .int 0, .int 0, .int 0, .int (-1), .ref a4, .ref a18, .ref a19, .ref a20, .int 0, .int 0, .int 0, .int 0, .int 0, .ref a21]))] H := hP
  have hD : va_D A [(a4, .inl (cs 0, 45783, .inl (layF (fun _ => 0) 1))), (a3, .inr (9, [.int 1, .ref a17, .int 0, .int 0, .int 0, .int 0, .int 0, .int (-1), .ref a4, .ref a18, .ref a19, .ref a20, .int 0, .int 0, .int 0, .int 0, .int 0, .ref a21]))] := hD
  refine W.widen (k := 392) (n := 467085) (Nat.le_of_ble_eq_true rfl) (Nat.le_of_ble_eq_true rfl) ?_
  refine lv_iload hx hb dL_law_1052 (lv_at hl 1 rfl) ?_
  refine lv_icmp_eq (tgt := 1059) hx hb dL_law_1054 (by decide) (fun _ => ?_) (fun c9 => absurd (by decide) c9)
  refine lv_iload hx hb dL_law_1059 (lv_at hl 1 rfl) ?_
  refine lv_if_ne (tgt := 1083) hx hb dL_law_1061 (by decide) (fun _ => ?_) (fun c9 => absurd c9 (by decide))
  refine lv_goto (tgt := 1169) hx hb dL_law_1083 (by decide) ?_
  refine W.widen (k := 600002) (n := 7302232) (Nat.le_of_ble_eq_true rfl) (Nat.le_of_ble_eq_true rfl) ?_
  exact kend _ _ _ hS (lv_sub hl [6, 2] rfl)

set_option maxHeartbeats 4000000 in
set_option maxRecDepth 100000 in
theorem k571_X8_cut (l : Launch) (D : va_G) (cs : Nat → ClassId) (sz : Nat) (hlt : l.stackTraces = false) (a0 a1 a2 a3 a4 a5 a6 a7 a8 a9 a10 a11 a12 a13 a14 : Nat) : KX l yX8_cut wsX8_cut 6 100 1 6 D cs sz [.ref a0, .int 0, .int 0, .int 0] [(a0, .inr (8, [.ref a4, .ref a1, .ref a5, .ref a6, .int 0, .int 0, .int (-1)])), (a1, .inr (7, [.ref a2, .ref a7, .ref a8, .ref a9, .ref a10, .ref a11, .long 0, .int 0, .int 0, .int 0, .int 0, .int 0, .int 0, .int 0, .int 0, .int 0])), (a2, .inr (6, [.int 1, .int 1, .int 50, .null, .ref a12, .ref a13, .ref a14, .ref a3])), (a3, .inl (cs 0, 64, .inl (fun _ => 0)))] QnI "java/lang/IllegalStateException" := by
  refine KX.of cX8_cut 5 (some .boolean) (by decide) rfl (Nat.le_of_ble_eq_true rfl) ?_
  intro p e s m below meth c A ls hx hb hr hml hown hts hlocks hnx hP hN hD hA hS hl hZ
  have hown : s.vm.findClass RX8 = some m.cls := hown
  have hl : lv_has ls 5 [(0, .ref a0), (1, .int 0), (2, .int 0), (3, .int 0)] := hl
  refine lv_aload_n hx hb dX8_cut_0 rfl (lv_at hl 0 rfl) ?_
  refine lv_iload_n hx hb dX8_cut_1 rfl (lv_at hl 1 rfl) ?_
  refine cv_v (As := [.int 0]) (rest := []) (b := a0) (wr := [(a3, .inl (cs 0, 64, .inl (fun _ => 0)))]) ⟨hx, hb, hml, hown, hts⟩ (fun sz => k164_X8_refuseNoPlayer l D cs sz a0 a1 a2 a4 a5 a6 a7 a8 a9 a10 a11 a12 a13 a14 a3) (cwV 1 hts gX8_cut_X8_refuseNoPlayer rfl rfl rfl hdX8_refuseNoPlayer_v ⟨Nat.le_of_ble_eq_true rfl, Nat.le_of_ble_eq_true rfl⟩) hN hP hD hS hA [0, 1, 2] [3] rfl rfl rfl rfl (by decide) (ci := 8) (q0 := 0) rfl rfl rfl rfl hl.1 (Nat.le_of_ble_eq_true rfl) dX8_cut_2 (Nat.le_of_ble_eq_true rfl) (Nat.le_of_ble_eq_true rfl) (fun u0 H locs hP hD hS => ?_)
  have hP : va_P D vwCl [(a3, .inl (cs 0, 64, .inl (fun _ => 0))), (a0, .inr (8, [.ref a4, .ref a1, .ref a5, .ref a6, .int 0, .int 0, .int (-1)])), (a1, .inr (7, [.ref a2, .ref a7, .ref a8, .ref a9, .ref a10, .ref a11, .long 0, .int 0, .int 0, .int 0, .int 0, .int 0, .int 0, .int 0, .int 0, .int 0])), (a2, .inr (6, [.int 1, .int 1, .int 50, .null, .ref a12, .ref a13, .ref a14, .ref a3]))] H := hP
  have hD : va_D A [(a3, .inl (cs 0, 64, .inl (fun _ => 0))), (a0, .inr (8, [.ref a4, .ref a1, .ref a5, .ref a6, .int 0, .int 0, .int (-1)])), (a1, .inr (7, [.ref a2, .ref a7, .ref a8, .ref a9, .ref a10, .ref a11, .long 0, .int 0, .int 0, .int 0, .int 0, .int 0, .int 0, .int 0, .int 0, .int 0])), (a2, .inr (6, [.int 1, .int 1, .int 50, .null, .ref a12, .ref a13, .ref a14, .ref a3]))] := hD
  refine W.widen (k := 0) (n := 0) (Nat.le_of_ble_eq_true rfl) (Nat.le_of_ble_eq_true rfl) ?_
  refine lv_aload_n hx hb dX8_cut_5 rfl (lv_at hl 0 rfl) ?_
  refine lv_iload_n hx hb dX8_cut_6 rfl (lv_at hl 2 rfl) ?_
  refine cv_v (As := [.int 0]) (rest := []) (b := a0) (wr := [(a3, .inl (cs 0, 64, .inl (fun _ => 0)))]) ⟨hx, hb, hml, hown, hts⟩ (fun sz => k164_X8_refuseNoPlayer l D cs sz a0 a1 a2 a4 a5 a6 a7 a8 a9 a10 a11 a12 a13 a14 a3) (cwV 1 hts gX8_cut_X8_refuseNoPlayer rfl rfl rfl hdX8_refuseNoPlayer_v ⟨Nat.le_of_ble_eq_true rfl, Nat.le_of_ble_eq_true rfl⟩) hN hP hD hS hA [1, 2, 3] [0] rfl rfl rfl rfl (by decide) (ci := 8) (q0 := 0) rfl rfl rfl rfl hl.1 (Nat.le_of_ble_eq_true rfl) dX8_cut_7 (Nat.le_of_ble_eq_true rfl) (Nat.le_of_ble_eq_true rfl) (fun u1 H locs hP hD hS => ?_)
  have hP : va_P D vwCl [(a3, .inl (cs 0, 64, .inl (fun _ => 0))), (a0, .inr (8, [.ref a4, .ref a1, .ref a5, .ref a6, .int 0, .int 0, .int (-1)])), (a1, .inr (7, [.ref a2, .ref a7, .ref a8, .ref a9, .ref a10, .ref a11, .long 0, .int 0, .int 0, .int 0, .int 0, .int 0, .int 0, .int 0, .int 0, .int 0])), (a2, .inr (6, [.int 1, .int 1, .int 50, .null, .ref a12, .ref a13, .ref a14, .ref a3]))] H := hP
  have hD : va_D A [(a3, .inl (cs 0, 64, .inl (fun _ => 0))), (a0, .inr (8, [.ref a4, .ref a1, .ref a5, .ref a6, .int 0, .int 0, .int (-1)])), (a1, .inr (7, [.ref a2, .ref a7, .ref a8, .ref a9, .ref a10, .ref a11, .long 0, .int 0, .int 0, .int 0, .int 0, .int 0, .int 0, .int 0, .int 0, .int 0])), (a2, .inr (6, [.int 1, .int 1, .int 50, .null, .ref a12, .ref a13, .ref a14, .ref a3]))] := hD
  refine W.widen (k := 0) (n := 0) (Nat.le_of_ble_eq_true rfl) (Nat.le_of_ble_eq_true rfl) ?_
  refine lv_aload_n hx hb dX8_cut_10 rfl (lv_at hl 0 rfl) ?_
  refine va_get (D := D) (ci := 8) (v := .ref a1) (C := RX8) (T := TX8) (N := 7) hx hb hts iX8_cut_8 hown hN.1 hP 1 rfl rfl 1 (by decide) (hts _ mX8_cut_3) (fun _ h9 => h9) rfl dX8_cut_11 ?_
  refine lv_iload_n hx hb dX8_cut_14 rfl (lv_at hl 1 rfl) ?_
  refine lv_iload_n hx hb dX8_cut_15 rfl (lv_at hl 2 rfl) ?_
  refine cv_i (As := [.int 0, .int 0]) (rest := []) (b := a1) (wr := [(a0, .inr (8, [.ref a4, .ref a1, .ref a5, .ref a6, .int 0, .int 0, .int (-1)]))]) ⟨hx, hb, hml, hown, hts⟩ (fun sz => k138_X7_delay l D cs sz a1 a2 a3 a7 a8 a9 a10 a11 a12 a13 a14) (cwV 2 hts gX8_cut_X7_delay rfl rfl rfl hdX7_delay_v ⟨Nat.le_of_ble_eq_true rfl, Nat.le_of_ble_eq_true rfl⟩) hN hP hD hS hA [2, 3, 0] [1] rfl rfl rfl rfl (by decide) (ci := 7) (q0 := 0) rfl rfl rfl rfl hl.1 (Nat.le_of_ble_eq_true rfl) dX8_cut_16 (Nat.le_of_ble_eq_true rfl) (Nat.le_of_ble_eq_true rfl) (fun u2 H locs hP hD hS => ?_)
  have hP : va_P D vwCl [(a0, .inr (8, [.ref a4, .ref a1, .ref a5, .ref a6, .int 0, .int 0, .int (-1)])), (a1, .inr (7, [.ref a2, .ref a7, .ref a8, .ref a9, .ref a10, .ref a11, .long 0, .int 0, .int 0, .int 0, .int 0, .int 0, .int 0, .int 0, .int 0, .int 0])), (a2, .inr (6, [.int 1, .int 1, .int 50, .null, .ref a12, .ref a13, .ref a14, .ref a3])), (a3, .inl (cs 0, 64, .inl (fun _ => 0)))] H := hP
  have hD : va_D A [(a0, .inr (8, [.ref a4, .ref a1, .ref a5, .ref a6, .int 0, .int 0, .int (-1)])), (a1, .inr (7, [.ref a2, .ref a7, .ref a8, .ref a9, .ref a10, .ref a11, .long 0, .int 0, .int 0, .int 0, .int 0, .int 0, .int 0, .int 0, .int 0, .int 0])), (a2, .inr (6, [.int 1, .int 1, .int 50, .null, .ref a12, .ref a13, .ref a14, .ref a3])), (a3, .inl (cs 0, 64, .inl (fun _ => 0)))] := hD
  refine W.widen (k := 0) (n := 0) (Nat.le_of_ble_eq_true rfl) (Nat.le_of_ble_eq_true rfl) ?_
  refine lv_if_ne (tgt := 32) hx hb dX8_cut_19 (by decide) (fun c9 => absurd (by decide) c9) (fun _ => ?_)
  exact tx_g2 (E := "java/lang/IllegalStateException") 1 hx hb hlt hown hN (by decide +kernel) (hts _ mX8_cut_1) (hts _ mX8_cut_2) (hN.s 18 rfl) rfl (fun w h => hts w (xgX8_cut_186_1 w h)) xnRX8_186_1 xdRX8_186_1 xoRX8_182_186_1 hZ hS hl hml dX8_cut_22 dX8_cut_25 dX8_cut_26 dX8_cut_28 dX8_cut_31 hnx (Nat.le_of_ble_eq_true rfl) (Nat.le_of_ble_eq_true rfl) (Nat.le_of_ble_eq_true rfl) (Nat.le_of_ble_eq_true rfl) hlocks (Nat.le_of_ble_eq_true rfl) (Nat.le_of_ble_eq_true rfl)
set_option maxHeartbeats 4000000 in
set_option maxRecDepth 100000 in
theorem k572_L_cut (l : Launch) (D : va_G) (cs : Nat → ClassId) (sz : Nat) (hlt : l.stackTraces = false) (a0 a1 a2 a3 a4 a5 a6 a7 a8 a9 a10 a11 a12 a13 a14 a15 : Nat) : KH l yL_cut wsL_cut 7 124 1 6 D cs sz [.ref a0, .int 0, .int 0, .int 0, .ref a4] [(a0, .inr (8, [.ref a5, .ref a1, .ref a6, .ref a7, .int 0, .int 0, .int (-1)])), (a1, .inr (7, [.ref a2, .ref a8, .ref a9, .ref a10, .ref a11, .ref a12, .long 0, .int 0, .int 0, .int 0, .int 0, .int 0, .int 0, .int 0, .int 0, .int 0])), (a2, .inr (6, [.int 1, .int 1, .int 50, .null, .ref a13, .ref a14, .ref a15, .ref a3])), (a3, .inl (cs 0, 64, .inl (fun _ => 0)))] (fun u => []) (2) := by
  refine KH.of cL_cut 6 (some .int) (by decide) rfl (Nat.le_of_ble_eq_true rfl) ?_
  intro p e s m below meth c A ls hx hb hr hml hown hts hlocks htab hP hN hD hA hS hl hZ
  have hown : s.vm.findClass RL = some m.cls := hown
  have hl : lv_has ls 6 [(0, .ref a0), (1, .int 0), (2, .int 0), (3, .int 0), (4, .ref a4)] := hl
  refine lv_aload hx hb dL_cut_0 (lv_at hl 4 rfl) ?_
  refine lv_iconst (v := 0) hx hb dL_cut_2 (by decide) ?_
  refine lv_aload_n hx hb dL_cut_3 rfl (lv_at hl 0 rfl) ?_
  refine lv_iload_n hx hb dL_cut_4 rfl (lv_at hl 1 rfl) ?_
  refine lv_iload_n hx hb dL_cut_5 rfl (lv_at hl 2 rfl) ?_
  refine lv_iload_n hx hb dL_cut_6 rfl (lv_at hl 3 rfl) ?_
  refine xc_i (wr := []) (As := [.int 0, .int 0, .int 0]) (rest := [.int 0, .ref a4]) (b := a0) ⟨hx, hb, hml, hown, hts⟩ (fun sz => k571_X8_cut l D cs sz hlt a0 a1 a2 a3 a5 a6 a7 a8 a9 a10 a11 a12 a13 a14 a15) (cwV 3 hts gL_cut_X8_cut rfl rfl rfl hdX8_cut_v ⟨Nat.le_of_ble_eq_true rfl, Nat.le_of_ble_eq_true rfl⟩) hN hP hD hS hA hZ [0, 1, 2, 3] rfl rfl (ci := 8) (q0 := 0) rfl rfl rfl rfl hl.1 (Nat.le_of_ble_eq_true rfl) dL_cut_7 (Nat.le_of_ble_eq_true rfl) (Nat.le_of_ble_eq_true rfl) [] rfl rfl (by decide) [⟨0, 19, 22, 22⟩] ⟨0, 19, 26, 41⟩ [] htab (fun z h => by rw [List.mem_singleton.mp h]; exact Or.inr ⟨by decide, "java/lang/IndexOutOfBoundsException", hts _ mL_cut_1, hN.2.2.2.2.2.2.2.2 ("java/lang/IllegalStateException", "java/lang/IndexOutOfBoundsException") (by decide +kernel)⟩) rfl (by decide) (hts _ mL_cut_2) 1 rfl (fun q9_7 H locs hP hD hS => ?_)
  have hP : va_P D vwCl [] H := hP
  have hD : va_D A [] := hD
  refine W.widen (k := 1) (n := 6) (Nat.le_of_ble_eq_true rfl) (Nat.le_of_ble_eq_true rfl) ?_
  refine lv_astore (lv' := [(5, .ref q9_7), (0, .ref a0), (1, .int 0), (2, .int 0), (3, .int 0), (4, .ref a4)]) hx hb dL_cut_26 hl (by decide) rfl (fun ls hl => ?_)
  refine lv_iconst (v := 2) hx hb dL_cut_28 (by decide) ?_
  exact en_i (fun k => ([] : List Nat).getD k 0) hx hb hr hlocks rfl rfl hP hD hS (Nat.le_of_ble_eq_true rfl) (Nat.le_of_ble_eq_true rfl) dL_cut_29
set_option maxHeartbeats 4000000 in
set_option maxRecDepth 100000 in
theorem k573_X9_cut (l : Launch) (D : va_G) (cs : Nat → ClassId) (sz : Nat) (a0 a1 a2 a3 a4 a5 a6 : Nat) : KI l yX9_cut wsX9_cut 2 43 0 0 D cs sz [.ref a0, .int 0, .int 0, .int 0] [(a0, .inr (9, [.int 0, .ref a2, .int 0, .int 0, .int 0, .int 0, .int 0, .int (-1), .ref a1, .ref a3, .ref a4, .ref a5, .int 0, .int 0, .int 0, .int 0, .int 0, .ref a6])), (a1, .inl (cs 0, 45783, .inl (layF (fun _ => 0) 1)))] (fun u => [(a1, .inl (cs 0, 45783, .inl (layF (fun _ => 0) 1))), (a0, .inr (9, [.int 2, .ref a2, .int 0, .int 0, .int 0, .int 0, .int 0, .int (-1), .ref a1, .ref a3, .ref a4, .ref a5, .int 0, .int 0, .int 0, .int 0, .int 0, .ref a6]))]) (0) := by
  refine KI.of cX9_cut 6 (some .boolean) (by decide) rfl (Nat.le_of_ble_eq_true rfl) ?_
  intro p e s m below meth c A ls hx hb hr hml hown hts hlocks hin hP hN hD hA hS hl
  have hown : s.vm.findClass RX9 = some m.cls := hown
  have hl : lv_has ls 6 [(0, .ref a0), (1, .int 0), (2, .int 0), (3, .int 0)] := hl
  refine lv_aload_n hx hb dX9_cut_0 rfl (lv_at hl 0 rfl) ?_
  refine lv_iconst (v := 0) hx hb dX9_cut_1 (by decide) ?_
  refine va_put (D := D) (ci := 9) (v := .int 0) (ty := .int) (C := RX9) (T := TX9) (N := 18) hx hb hts iX9_cut_9 tyX9 tyX9_ok nmX9 hown hN.1 hP hD hS 0 rfl rfl 0 (by decide) (hts _ mX9_cut_1) (fun _ h9 => h9) rfl (by decide +kernel) rfl rfl (Nat.le_of_ble_eq_true rfl) dX9_cut_2 (fun H locs hP hD hS => ?_)
  have hP : va_P D vwCl [(a0, .inr (9, [.int 0, .ref a2, .int 0, .int 0, .int 0, .int 0, .int 0, .int (-1), .ref a1, .ref a3, .ref a4, .ref a5, .int 0, .int 0, .int 0, .int 0, .int 0, .ref a6])), (a1, .inl (cs 0, 45783, .inl (layF (fun _ => 0) 1)))] H := hP
  have hD : va_D A [(a0, .inr (9, [.int 0, .ref a2, .int 0, .int 0, .int 0, .int 0, .int 0, .int (-1), .ref a1, .ref a3, .ref a4, .ref a5, .int 0, .int 0, .int 0, .int 0, .int 0, .ref a6])), (a1, .inl (cs 0, 45783, .inl (layF (fun _ => 0) 1)))] := hD
  refine lv_aload_n hx hb dX9_cut_5 rfl (lv_at hl 0 rfl) ?_
  refine lv_iload_n hx hb dX9_cut_6 rfl (lv_at hl 1 rfl) ?_
  refine cv_i (As := [.int 0]) (rest := []) (b := a0) (wr := []) ⟨hx, hb, hml, hown, hts⟩ (fun sz => k170_X9_noPlayer l D cs sz a0 a1 a2 a3 a4 a5 a6) (cwV 1 hts gX9_cut_X9_noPlayer rfl rfl rfl hdX9_noPlayer_v ⟨Nat.le_of_ble_eq_true rfl, Nat.le_of_ble_eq_true rfl⟩) hN hP hD hS hA [0, 1] [] rfl rfl rfl rfl (by decide) (ci := 9) (q0 := 0) rfl rfl rfl rfl hl.1 (Nat.le_of_ble_eq_true rfl) dX9_cut_7 (Nat.le_of_ble_eq_true rfl) (Nat.le_of_ble_eq_true rfl) (fun u0 H locs hP hD hS => ?_)
  have hP : va_P D vwCl [(a1, .inl (cs 0, 45783, .inl (layF (fun _ => 0) 1))), (a0, .inr (9, [.int 0, .ref a2, .int 0, .int 0, .int 0, .int 0, .int 0, .int (-1), .ref a1, .ref a3, .ref a4, .ref a5, .int 0, .int 0, .int 0, .int 0, .int 0, .ref a6]))] H := hP
  have hD : va_D A [(a1, .inl (cs 0, 45783, .inl (layF (fun _ => 0) 1))), (a0, .inr (9, [.int 0, .ref a2, .int 0, .int 0, .int 0, .int 0, .int 0, .int (-1), .ref a1, .ref a3, .ref a4, .ref a5, .int 0, .int 0, .int 0, .int 0, .int 0, .ref a6]))] := hD
  refine W.widen (k := 0) (n := 0) (Nat.le_of_ble_eq_true rfl) (Nat.le_of_ble_eq_true rfl) ?_
  refine lv_if_ne (tgt := 47) hx hb dX9_cut_10 (by decide) (fun c9 => absurd (by decide) c9) (fun _ => ?_)
  refine lv_aload_n hx hb dX9_cut_13 rfl (lv_at hl 0 rfl) ?_
  refine lv_iload_n hx hb dX9_cut_14 rfl (lv_at hl 2 rfl) ?_
  refine cv_i (As := [.int 0]) (rest := []) (b := a0) (wr := []) ⟨hx, hb, hml, hown, hts⟩ (fun sz => k170_X9_noPlayer l D cs sz a0 a1 a2 a3 a4 a5 a6) (cwV 1 hts gX9_cut_X9_noPlayer rfl rfl rfl hdX9_noPlayer_v ⟨Nat.le_of_ble_eq_true rfl, Nat.le_of_ble_eq_true rfl⟩) hN hP hD hS hA [1, 0] [] rfl rfl rfl rfl (by decide) (ci := 9) (q0 := 0) rfl rfl rfl rfl hl.1 (Nat.le_of_ble_eq_true rfl) dX9_cut_15 (Nat.le_of_ble_eq_true rfl) (Nat.le_of_ble_eq_true rfl) (fun u1 H locs hP hD hS => ?_)
  have hP : va_P D vwCl [(a1, .inl (cs 0, 45783, .inl (layF (fun _ => 0) 1))), (a0, .inr (9, [.int 0, .ref a2, .int 0, .int 0, .int 0, .int 0, .int 0, .int (-1), .ref a1, .ref a3, .ref a4, .ref a5, .int 0, .int 0, .int 0, .int 0, .int 0, .ref a6]))] H := hP
  have hD : va_D A [(a1, .inl (cs 0, 45783, .inl (layF (fun _ => 0) 1))), (a0, .inr (9, [.int 0, .ref a2, .int 0, .int 0, .int 0, .int 0, .int 0, .int (-1), .ref a1, .ref a3, .ref a4, .ref a5, .int 0, .int 0, .int 0, .int 0, .int 0, .ref a6]))] := hD
  refine W.widen (k := 0) (n := 0) (Nat.le_of_ble_eq_true rfl) (Nat.le_of_ble_eq_true rfl) ?_
  refine lv_if_ne (tgt := 47) hx hb dX9_cut_18 (by decide) (fun c9 => absurd (by decide) c9) (fun _ => ?_)
  refine lv_aload_n hx hb dX9_cut_21 rfl (lv_at hl 0 rfl) ?_
  refine lv_aload_n hx hb dX9_cut_22 rfl (lv_at hl 0 rfl) ?_
  refine va_get (D := D) (ci := 9) (v := .ref a1) (C := RX9) (T := TX9) (N := 18) hx hb hts iX9_cut_9 hown hN.1 hP 1 rfl rfl 8 (by decide) (hts _ mX9_cut_2) (fun _ h9 => h9) rfl dX9_cut_23 ?_
  refine lv_iload_n hx hb dX9_cut_26 rfl (lv_at hl 1 rfl) ?_
  refine lv_iload_n hx hb dX9_cut_27 rfl (lv_at hl 2 rfl) ?_
  refine cs_i (As := [.int 0, .int 0]) (rest := [.ref a1, .ref a0]) (wr := [(a1, .inl (cs 0, 45783, .inl (layF (fun _ => 0) 1))), (a0, .inr (9, [.int 0, .ref a2, .int 0, .int 0, .int 0, .int 0, .int 0, .int (-1), .ref a1, .ref a3, .ref a4, .ref a5, .int 0, .int 0, .int 0, .int 0, .int 0, .ref a6]))]) ⟨hx, hb, hml, hown, hts⟩ (fun sz => k279_X9_linkAt l D cs sz ) (va_cwS 2 hts gX9_cut_X9_linkAt rfl rfl rfl hdX9_linkAt_o ⟨Nat.le_of_ble_eq_true rfl, Nat.le_of_ble_eq_true rfl⟩) hN hP hD hS hA [] [0, 1] rfl rfl rfl rfl (by decide) rfl rfl hl.1 (Nat.le_of_ble_eq_true rfl) dX9_cut_28 (Nat.le_of_ble_eq_true rfl) (Nat.le_of_ble_eq_true rfl) (fun u2 H locs hP hD hS => ?_)
  have hP : va_P D vwCl [(a1, .inl (cs 0, 45783, .inl (layF (fun _ => 0) 1))), (a0, .inr (9, [.int 0, .ref a2, .int 0, .int 0, .int 0, .int 0, .int 0, .int (-1), .ref a1, .ref a3, .ref a4, .ref a5, .int 0, .int 0, .int 0, .int 0, .int 0, .ref a6]))] H := hP
  have hD : va_D A [(a1, .inl (cs 0, 45783, .inl (layF (fun _ => 0) 1))), (a0, .inr (9, [.int 0, .ref a2, .int 0, .int 0, .int 0, .int 0, .int 0, .int (-1), .ref a1, .ref a3, .ref a4, .ref a5, .int 0, .int 0, .int 0, .int 0, .int 0, .ref a6]))] := hD
  refine W.widen (k := 0) (n := 0) (Nat.le_of_ble_eq_true rfl) (Nat.le_of_ble_eq_true rfl) ?_
  refine ld_i (v := 0) hx hb hN hP 0 rfl (vin (by decide +kernel)) (by first | rfl | decide +kernel) dX9_cut_31 ?_
  refine lv_if_ne (tgt := 39) hx hb dX9_cut_32 (by decide) (fun c9 => absurd (by decide) c9) (fun _ => ?_)
  refine lv_iconst (v := 1) hx hb dX9_cut_35 (by decide) ?_
  refine lv_goto (tgt := 40) hx hb dX9_cut_36 (by decide) ?_
  refine lv_iconst (v := 2) hx hb dX9_cut_40 (by decide) ?_
  refine cv_i (As := [.int 1, .int 2]) (rest := []) (b := a0) (wr := [(a1, .inl (cs 0, 45783, .inl (layF (fun _ => 0) 1)))]) ⟨hx, hb, hml, hown, hts⟩ (fun sz => k257_X9_fails l D cs sz a0 a2 a1 a3 a4 a5 a6) (cwV 2 hts gX9_cut_X9_fails rfl rfl rfl hdX9_fails_v ⟨Nat.le_of_ble_eq_true rfl, Nat.le_of_ble_eq_true rfl⟩) hN hP hD hS hA [1] [0] rfl rfl rfl rfl (by decide) (ci := 9) (q0 := 0) rfl rfl rfl rfl hl.1 (Nat.le_of_ble_eq_true rfl) dX9_cut_41 (Nat.le_of_ble_eq_true rfl) (Nat.le_of_ble_eq_true rfl) (fun u3 H locs hP hD hS => ?_)
  have hP : va_P D vwCl [(a1, .inl (cs 0, 45783, .inl (layF (fun _ => 0) 1))), (a0, .inr (9, [.int 2, .ref a2, .int 0, .int 0, .int 0, .int 0, .int 0, .int (-1), .ref a1, .ref a3, .ref a4, .ref a5, .int 0, .int 0, .int 0, .int 0, .int 0, .ref a6]))] H := hP
  have hD : va_D A [(a1, .inl (cs 0, 45783, .inl (layF (fun _ => 0) 1))), (a0, .inr (9, [.int 2, .ref a2, .int 0, .int 0, .int 0, .int 0, .int 0, .int (-1), .ref a1, .ref a3, .ref a4, .ref a5, .int 0, .int 0, .int 0, .int 0, .int 0, .ref a6]))] := hD
  refine W.widen (k := 0) (n := 0) (Nat.le_of_ble_eq_true rfl) (Nat.le_of_ble_eq_true rfl) ?_
  refine lv_if_eq (tgt := 49) hx hb dX9_cut_44 (by decide) (fun c9 => absurd c9 (by decide)) (fun _ => ?_)
  refine lv_iconst (v := 0) hx hb dX9_cut_47 (by decide) ?_
  exact en_i (fun k => ([] : List Nat).getD k 0) hx hb hr hlocks rfl rfl hP hD hS (Nat.le_of_ble_eq_true rfl) (Nat.le_of_ble_eq_true rfl) dX9_cut_48
set_option maxHeartbeats 4000000 in
set_option maxRecDepth 100000 in
theorem law_16_0f {p : Program} {l : Launch} {e : Env} {s : State} {m : MethodId} {args : Array Value} {below : List Frame} {meth : Method} {c : Code} {Q : State → Prop} {D : va_G} {cs : Nat → ClassId} {A : Nat → Prop} {xs : Nat → Int32} {b : Nat} (hx : p.tables.exec = Jvm.exec) (hb : c.code = cL_law) (hml : c.maxLocals = 9) (hown : s.vm.findClass RL = some m.cls) (hts : ∀ w ∈ wsL_law, w.before args s = true) (hN : NK D cs s) (hX : va_X b 6 xs s s.heap) (hbl : b < s.heap.size) (hbA : ¬ A b) (hA : ∀ q : Nat, s.heap.size ≤ q → A q) (hZ : ZX A s s.heap) (hZS : ZS cs A s s.heap) (hlt : l.stackTraces = false)
    (kend : ∀ (H : Heap) (locs : List Loc) (ls : Array Slot), va_S A s.heap H locs → lv_has ls 9 [(0, .ref b), (4, .int 0)] → W p l e room_1 s m args below meth c H locs 600002 7302232 Q (F0 m 1169 ls []))
    (a0 a1 a2 a3 a4 a5 a6 a7 a8 a9 a10 a11 a12 a13 a14 a15 a16 a17 a18 a19 a20 a21 a22 : Nat) (hy1 : xs 1 = (0)) (hy2 : xs 2 = (0)) (hy3 : xs 3 = (0))  (H : Heap) (locs : List Loc) (ls : Array Slot) (hP : va_P D vwCl [(a0, .inr (8, [.ref a6, .ref a3, .ref a7, .ref a8, .int 0, .int 0, .int (-1)])), (a1, .inl (cs 0, 64, .inl (fun _ => 0))), (a2, .inr (6, [.int 1, .int 1, .int 50, .null, .ref a9, .ref a10, .ref a11, .ref a1])), (a3, .inr (7, [.ref a2, .ref a12, .ref a13, .ref a14, .ref a15, .ref a16, .long 0, .int 0, .int 0, .int 0, .int 0, .int 0, .int 0, .int 0, .int 0, .int 0])), (a4, .inr (9, [.int 0, .ref a17, .int 0, .int 0, .int 0, .int 0, .int 0, .int (-1), .ref a5, .ref a18, .ref a19, .ref a20, .int 0, .int 0, .int 0, .int 0, .int 0, .ref a21])), (a5, .inl (cs 0, 45783, .inl (layF (fun _ => 0) 1)))] H) (hD : va_D A [(a0, .inr (8, [.ref a6, .ref a3, .ref a7, .ref a8, .int 0, .int 0, .int (-1)])), (a1, .inl (cs 0, 64, .inl (fun _ => 0))), (a2, .inr (6, [.int 1, .int 1, .int 50, .null, .ref a9, .ref a10, .ref a11, .ref a1])), (a3, .inr (7, [.ref a2, .ref a12, .ref a13, .ref a14, .ref a15, .ref a16, .long 0, .int 0, .int 0, .int 0, .int 0, .int 0, .int 0, .int 0, .int 0, .int 0])), (a4, .inr (9, [.int 0, .ref a17, .int 0, .int 0, .int 0, .int 0, .int 0, .int (-1), .ref a5, .ref a18, .ref a19, .ref a20, .int 0, .int 0, .int 0, .int 0, .int 0, .ref a21])), (a5, .inl (cs 0, 45783, .inl (layF (fun _ => 0) 1)))]) (hS : va_S A s.heap H locs) (hl : lv_has ls 9 [(4, .int 0), (3, .ref a22), (2, .ref a4), (1, .ref a0), (0, .ref b)]) : W p l e room_1 s m args below meth c H locs 391 467079 Q (F0 m 983 ls []) := by
  refine lv_aload_n hx hb dL_law_983 rfl (lv_at hl 3 rfl) ?_
  refine lv_aload_n hx hb dL_law_984 rfl (lv_at hl 4 rfl) ?_
  refine lv_iload hx hb dL_law_985 (lv_at hl 0 rfl) ?_
  refine lv_iconst (v := 1) hx hb dL_law_987 (by decide) ?_
  refine lv_iadd hx hb dL_law_988 ?_
  refine tp_i (1) (by decide) ?_
  refine va_sld hx hb hX hbl hbA hS (vin (by decide +kernel)) dL_law_989 ?_
  refine tp_i (0) hy1 ?_
  refine lv_aload_n hx hb dL_law_990 rfl (lv_at hl 4 rfl) ?_
  refine lv_iload hx hb dL_law_991 (lv_at hl 0 rfl) ?_
  refine lv_iconst (v := 2) hx hb dL_law_993 (by decide) ?_
  refine lv_iadd hx hb dL_law_994 ?_
  refine tp_i (2) (by decide) ?_
  refine va_sld hx hb hX hbl hbA hS (vin (by decide +kernel)) dL_law_995 ?_
  refine tp_i (0) hy2 ?_
  refine lv_aload_n hx hb dL_law_996 rfl (lv_at hl 4 rfl) ?_
  refine lv_iload hx hb dL_law_997 (lv_at hl 0 rfl) ?_
  refine lv_iconst (v := 3) hx hb dL_law_999 (by decide) ?_
  refine lv_iadd hx hb dL_law_1000 ?_
  refine tp_i (3) (by decide) ?_
  refine va_sld hx hb hX hbl hbA hS (vin (by decide +kernel)) dL_law_1001 ?_
  refine tp_i (0) hy3 ?_
  refine lv_if_eq (tgt := 1009) hx hb dL_law_1002 (by decide) (fun _ => ?_) (fun c9 => absurd (by decide) c9)
  refine lv_iconst (v := 0) hx hb dL_law_1009 (by decide) ?_
  refine lv_aload_n hx hb dL_law_1010 rfl (lv_at hl 1 rfl) ?_
  refine ch_i (As := [.ref a0, .int 0, .int 0, .int 0, .ref a22]) (rest := []) (wr := [(a4, .inr (9, [.int 0, .ref a17, .int 0, .int 0, .int 0, .int 0, .int 0, .int (-1), .ref a5, .ref a18, .ref a19, .ref a20, .int 0, .int 0, .int 0, .int 0, .int 0, .ref a21])), (a5, .inl (cs 0, 45783, .inl (layF (fun _ => 0) 1)))]) ⟨hx, hb, hml, hown, hts⟩ (fun sz => k572_L_cut l D cs sz hlt a0 a3 a2 a1 a22 a6 a7 a8 a12 a13 a14 a15 a16 a9 a10 a11) (vx_cwSW 5 hts gL_law_L_cut rfl rfl rfl hdL_cut_o ⟨Nat.le_of_ble_eq_true rfl, Nat.le_of_ble_eq_true rfl⟩) hN hP hD hS hA hZ [0, 3, 2, 1] [4, 5] rfl rfl rfl rfl (by decide) rfl rfl hl.1 (Nat.le_of_ble_eq_true rfl) dL_law_1011 (Nat.le_of_ble_eq_true rfl) (Nat.le_of_ble_eq_true rfl) (fun u0 H locs hP hD hS => ?_)
  have hP : va_P D vwCl [(a4, .inr (9, [.int 0, .ref a17, .int 0, .int 0, .int 0, .int 0, .int 0, .int (-1), .ref a5, .ref a18, .ref a19, .ref a20, .int 0, .int 0, .int 0, .int 0, .int 0, .ref a21])), (a5, .inl (cs 0, 45783, .inl (layF (fun _ => 0) 1)))] H := hP
  have hD : va_D A [(a4, .inr (9, [.int 0, .ref a17, .int 0, .int 0, .int 0, .int 0, .int 0, .int (-1), .ref a5, .ref a18, .ref a19, .ref a20, .int 0, .int 0, .int 0, .int 0, .int 0, .ref a21])), (a5, .inl (cs 0, 45783, .inl (layF (fun _ => 0) 1)))] := hD
  refine W.widen (k := 392) (n := 467085) (Nat.le_of_ble_eq_true rfl) (Nat.le_of_ble_eq_true rfl) ?_
  refine lv_istore (lv' := [(5, .int 2), (4, .int 0), (3, .ref a22), (2, .ref a4), (1, .ref a0), (0, .ref b)]) hx hb dL_law_1014 hl (by decide) rfl (fun ls hl => ?_)
  refine lv_aload_n hx hb dL_law_1016 rfl (lv_at hl 3 rfl) ?_
  refine lv_aload_n hx hb dL_law_1017 rfl (lv_at hl 5 rfl) ?_
  refine lv_iload hx hb dL_law_1018 (lv_at hl 1 rfl) ?_
  refine lv_iconst (v := 1) hx hb dL_law_1020 (by decide) ?_
  refine lv_iadd hx hb dL_law_1021 ?_
  refine tp_i (1) (by decide) ?_
  refine va_sld hx hb hX hbl hbA hS (vin (by decide +kernel)) dL_law_1022 ?_
  refine tp_i (0) hy1 ?_
  refine lv_aload_n hx hb dL_law_1023 rfl (lv_at hl 5 rfl) ?_
  refine lv_iload hx hb dL_law_1024 (lv_at hl 1 rfl) ?_
  refine lv_iconst (v := 2) hx hb dL_law_1026 (by decide) ?_
  refine lv_iadd hx hb dL_law_1027 ?_
  refine tp_i (2) (by decide) ?_
  refine va_sld hx hb hX hbl hbA hS (vin (by decide +kernel)) dL_law_1028 ?_
  refine tp_i (0) hy2 ?_
  refine lv_aload_n hx hb dL_law_1029 rfl (lv_at hl 5 rfl) ?_
  refine lv_iload hx hb dL_law_1030 (lv_at hl 1 rfl) ?_
  refine lv_iconst (v := 3) hx hb dL_law_1032 (by decide) ?_
  refine lv_iadd hx hb dL_law_1033 ?_
  refine tp_i (3) (by decide) ?_
  refine va_sld hx hb hX hbl hbA hS (vin (by decide +kernel)) dL_law_1034 ?_
  refine tp_i (0) hy3 ?_
  refine lv_if_eq (tgt := 1042) hx hb dL_law_1035 (by decide) (fun _ => ?_) (fun c9 => absurd (by decide) c9)
  refine lv_iconst (v := 0) hx hb dL_law_1042 (by decide) ?_
  refine cv_i (As := [.int 0, .int 0, .int 0]) (rest := []) (b := a4) (wr := []) ⟨hx, hb, hml, hown, hts⟩ (fun sz => k573_X9_cut l D cs sz a4 a5 a17 a18 a19 a20 a21) (cwV 3 hts gL_law_X9_cut rfl rfl rfl hdX9_cut_v ⟨Nat.le_of_ble_eq_true rfl, Nat.le_of_ble_eq_true rfl⟩) hN hP hD hS hA [0, 1] [] rfl rfl rfl rfl (by decide) (ci := 9) (q0 := 0) rfl rfl rfl rfl hl.1 (Nat.le_of_ble_eq_true rfl) dL_law_1043 (Nat.le_of_ble_eq_true rfl) (Nat.le_of_ble_eq_true rfl) (fun u1 H locs hP hD hS => ?_)
  have hP : va_P D vwCl [(a5, .inl (cs 0, 45783, .inl (layF (fun _ => 0) 1))), (a4, .inr (9, [.int 2, .ref a17, .int 0, .int 0, .int 0, .int 0, .int 0, .int (-1), .ref a5, .ref a18, .ref a19, .ref a20, .int 0, .int 0, .int 0, .int 0, .int 0, .ref a21]))] H := hP
  have hD : va_D A [(a5, .inl (cs 0, 45783, .inl (layF (fun _ => 0) 1))), (a4, .inr (9, [.int 2, .ref a17, .int 0, .int 0, .int 0, .int 0, .int 0, .int (-1), .ref a5, .ref a18, .ref a19, .ref a20, .int 0, .int 0, .int 0, .int 0, .int 0, .ref a21]))] := hD
  refine W.widen (k := 392) (n := 467085) (Nat.le_of_ble_eq_true rfl) (Nat.le_of_ble_eq_true rfl) ?_
  refine lv_istore (lv' := [(6, .int 0), (5, .int 2), (4, .int 0), (3, .ref a22), (2, .ref a4), (1, .ref a0), (0, .ref b)]) hx hb dL_law_1046 hl (by decide) rfl (fun ls hl => ?_)
  refine lv_aload_n hx hb dL_law_1048 rfl (lv_at hl 4 rfl) ?_
  refine cv_i (As := []) (rest := []) (b := a4) (wr := [(a5, .inl (cs 0, 45783, .inl (layF (fun _ => 0) 1)))]) ⟨hx, hb, hml, hown, hts⟩ (fun sz => k259_X9_thrown l D cs sz a4 a17 a5 a18 a19 a20 a21) (cwV 0 hts gL_law_X9_thrown rfl rfl rfl hdX9_thrown_v ⟨Nat.le_of_ble_eq_true rfl, Nat.le_of_ble_eq_true rfl⟩) hN hP hD hS hA [1] [0] rfl rfl rfl rfl (by decide) (ci := 9) (q0 := 0) rfl rfl rfl rfl hl.1 (Nat.le_of_ble_eq_true rfl) dL_law_1049 (Nat.le_of_ble_eq_true rfl) (Nat.le_of_ble_eq_true rfl) (fun u2 H locs hP hD hS => ?_)
  have hP : va_P D vwCl [(a5, .inl (cs 0, 45783, .inl (layF (fun _ => 0) 1))), (a4, .inr (9, [.int 2, .ref a17, .int 0, .int 0, .int 0, .int 0, .int 0, .int (-1), .ref a5, .ref a18, .ref a19, .ref a20, .int 0, .int 0, .int 0, .int 0, .int 0, .ref a21]))] H := hP
  have hD : va_D A [(a5, .inl (cs 0, 45783, .inl (layF (fun _ => 0) 1))), (a4, .inr (9, [.int 2, .ref a17, .int 0, .int 0, .int 0, .int 0, .int 0, .int (-1), .ref a5, .ref a18, .ref a19, .ref a20, .int 0, .int 0, .int 0, .int 0, .int 0, .ref a21]))] := hD
  refine W.widen (k := 392) (n := 467085) (Nat.le_of_ble_eq_true rfl) (Nat.le_of_ble_eq_true rfl) ?_
  refine lv_iload hx hb dL_law_1052 (lv_at hl 1 rfl) ?_
  refine lv_icmp_eq (tgt := 1059) hx hb dL_law_1054 (by decide) (fun _ => ?_) (fun c9 => absurd (by decide) c9)
  refine lv_iload hx hb dL_law_1059 (lv_at hl 1 rfl) ?_
  refine lv_if_ne (tgt := 1083) hx hb dL_law_1061 (by decide) (fun _ => ?_) (fun c9 => absurd c9 (by decide))
  refine lv_goto (tgt := 1169) hx hb dL_law_1083 (by decide) ?_
  refine W.widen (k := 600002) (n := 7302232) (Nat.le_of_ble_eq_true rfl) (Nat.le_of_ble_eq_true rfl) ?_
  exact kend _ _ _ hS (lv_sub hl [6, 2] rfl)

set_option maxHeartbeats 4000000 in
set_option maxRecDepth 100000 in
theorem k574_X8_cut (l : Launch) (D : va_G) (cs : Nat → ClassId) (sz : Nat) (hlt : l.stackTraces = false) (a0 a1 a2 a3 a4 a5 a6 a7 a8 a9 a10 a11 a12 a13 a14 : Nat) (x0 : Int32) (hf0 : x0 < 0) : KX l yX8_cut wsX8_cut 7 121 1 6 D cs sz [.ref a0, .int 0, .int x0, .int 0] [(a0, .inr (8, [.ref a3, .ref a1, .ref a4, .ref a5, .int 0, .int 0, .int (-1)])), (a1, .inr (7, [.ref a2, .ref a6, .ref a7, .ref a8, .ref a9, .ref a10, .long 0, .int 0, .int 0, .int 0, .int 0, .int 0, .int 0, .int 0, .int 0, .int 0])), (a2, .inr (6, [.int 1, .int 1, .int 50, .null, .ref a11, .ref a12, .ref a13, .ref a14]))] QnI "java/lang/IndexOutOfBoundsException" := by
  refine KX.of cX8_cut 5 (some .boolean) (by decide) rfl (Nat.le_of_ble_eq_true rfl) ?_
  intro p e s m below meth c A ls hx hb hr hml hown hts hlocks hnx hP hN hD hA hS hl hZ
  have hown : s.vm.findClass RX8 = some m.cls := hown
  have hl : lv_has ls 5 [(0, .ref a0), (1, .int 0), (2, .int x0), (3, .int 0)] := hl
  refine lv_aload_n hx hb dX8_cut_0 rfl (lv_at hl 0 rfl) ?_
  refine lv_iload_n hx hb dX8_cut_1 rfl (lv_at hl 1 rfl) ?_
  refine cv_v (As := [.int 0]) (rest := []) (b := a0) (wr := []) ⟨hx, hb, hml, hown, hts⟩ (fun sz => k164_X8_refuseNoPlayer l D cs sz a0 a1 a2 a3 a4 a5 a6 a7 a8 a9 a10 a11 a12 a13 a14) (cwV 1 hts gX8_cut_X8_refuseNoPlayer rfl rfl rfl hdX8_refuseNoPlayer_v ⟨Nat.le_of_ble_eq_true rfl, Nat.le_of_ble_eq_true rfl⟩) hN hP hD hS hA [0, 1, 2] [] rfl rfl rfl rfl (by decide) (ci := 8) (q0 := 0) rfl rfl rfl rfl hl.1 (Nat.le_of_ble_eq_true rfl) dX8_cut_2 (Nat.le_of_ble_eq_true rfl) (Nat.le_of_ble_eq_true rfl) (fun u0 H locs hP hD hS => ?_)
  have hP : va_P D vwCl [(a0, .inr (8, [.ref a3, .ref a1, .ref a4, .ref a5, .int 0, .int 0, .int (-1)])), (a1, .inr (7, [.ref a2, .ref a6, .ref a7, .ref a8, .ref a9, .ref a10, .long 0, .int 0, .int 0, .int 0, .int 0, .int 0, .int 0, .int 0, .int 0, .int 0])), (a2, .inr (6, [.int 1, .int 1, .int 50, .null, .ref a11, .ref a12, .ref a13, .ref a14]))] H := hP
  have hD : va_D A [(a0, .inr (8, [.ref a3, .ref a1, .ref a4, .ref a5, .int 0, .int 0, .int (-1)])), (a1, .inr (7, [.ref a2, .ref a6, .ref a7, .ref a8, .ref a9, .ref a10, .long 0, .int 0, .int 0, .int 0, .int 0, .int 0, .int 0, .int 0, .int 0, .int 0])), (a2, .inr (6, [.int 1, .int 1, .int 50, .null, .ref a11, .ref a12, .ref a13, .ref a14]))] := hD
  refine W.widen (k := 0) (n := 0) (Nat.le_of_ble_eq_true rfl) (Nat.le_of_ble_eq_true rfl) ?_
  refine lv_aload_n hx hb dX8_cut_5 rfl (lv_at hl 0 rfl) ?_
  refine lv_iload_n hx hb dX8_cut_6 rfl (lv_at hl 2 rfl) ?_
  exact xp_v (As := [.int x0]) (rest := []) (b := a0) ⟨hx, hb, hml, hown, hts⟩ (fun sz => k265_X8_refuseNoPlayer l D cs sz hlt a0 a3 a1 a4 a5 (x0) hf0) (cwV 1 hts gX8_cut_X8_refuseNoPlayer rfl rfl rfl hdX8_refuseNoPlayer_v ⟨Nat.le_of_ble_eq_true rfl, Nat.le_of_ble_eq_true rfl⟩) hN hP hD hS hA hZ [0] rfl rfl (ci := 8) (q0 := 0) rfl rfl rfl rfl hl.1 (Nat.le_of_ble_eq_true rfl) dX8_cut_7 (Nat.le_of_ble_eq_true rfl) (Nat.le_of_ble_eq_true rfl) hnx hlocks (Nat.le_of_ble_eq_true rfl) (Nat.le_of_ble_eq_true rfl)
set_option maxHeartbeats 4000000 in
set_option maxRecDepth 100000 in
theorem k575_L_cut (l : Launch) (D : va_G) (cs : Nat → ClassId) (sz : Nat) (hlt : l.stackTraces = false) (a0 a1 a2 a3 a4 a5 a6 a7 a8 a9 a10 a11 a12 a13 a14 a15 : Nat) (x0 : Int32) (hf0 : x0 < 0) : KH l yL_cut wsL_cut 8 145 1 6 D cs sz [.ref a0, .int 0, .int x0, .int 0, .ref a3] [(a0, .inr (8, [.ref a4, .ref a1, .ref a5, .ref a6, .int 0, .int 0, .int (-1)])), (a1, .inr (7, [.ref a2, .ref a7, .ref a8, .ref a9, .ref a10, .ref a11, .long 0, .int 0, .int 0, .int 0, .int 0, .int 0, .int 0, .int 0, .int 0, .int 0])), (a2, .inr (6, [.int 1, .int 1, .int 50, .null, .ref a12, .ref a13, .ref a14, .ref a15]))] (fun u => []) (1) := by
  refine KH.of cL_cut 6 (some .int) (by decide) rfl (Nat.le_of_ble_eq_true rfl) ?_
  intro p e s m below meth c A ls hx hb hr hml hown hts hlocks htab hP hN hD hA hS hl hZ
  have hown : s.vm.findClass RL = some m.cls := hown
  have hl : lv_has ls 6 [(0, .ref a0), (1, .int 0), (2, .int x0), (3, .int 0), (4, .ref a3)] := hl
  refine lv_aload hx hb dL_cut_0 (lv_at hl 4 rfl) ?_
  refine lv_iconst (v := 0) hx hb dL_cut_2 (by decide) ?_
  refine lv_aload_n hx hb dL_cut_3 rfl (lv_at hl 0 rfl) ?_
  refine lv_iload_n hx hb dL_cut_4 rfl (lv_at hl 1 rfl) ?_
  refine lv_iload_n hx hb dL_cut_5 rfl (lv_at hl 2 rfl) ?_
  refine lv_iload_n hx hb dL_cut_6 rfl (lv_at hl 3 rfl) ?_
  refine xc_i (wr := []) (As := [.int 0, .int x0, .int 0]) (rest := [.int 0, .ref a3]) (b := a0) ⟨hx, hb, hml, hown, hts⟩ (fun sz => k574_X8_cut l D cs sz hlt a0 a1 a2 a4 a5 a6 a7 a8 a9 a10 a11 a12 a13 a14 a15 (x0) hf0) (cwV 3 hts gL_cut_X8_cut rfl rfl rfl hdX8_cut_v ⟨Nat.le_of_ble_eq_true rfl, Nat.le_of_ble_eq_true rfl⟩) hN hP hD hS hA hZ [0, 1, 2] rfl rfl (ci := 8) (q0 := 0) rfl rfl rfl rfl hl.1 (Nat.le_of_ble_eq_true rfl) dL_cut_7 (Nat.le_of_ble_eq_true rfl) (Nat.le_of_ble_eq_true rfl) [] rfl rfl (by decide) [] ⟨0, 19, 22, 22⟩ [⟨0, 19, 26, 41⟩] htab (fun z h => nomatch h) rfl (by decide) (hts _ mL_cut_1) 2 rfl (fun q9_7 H locs hP hD hS => ?_)
  have hP : va_P D vwCl [] H := hP
  have hD : va_D A [] := hD
  refine W.widen (k := 1) (n := 6) (Nat.le_of_ble_eq_true rfl) (Nat.le_of_ble_eq_true rfl) ?_
  refine lv_astore (lv' := [(5, .ref q9_7), (0, .ref a0), (1, .int 0), (2, .int x0), (3, .int 0), (4, .ref a3)]) hx hb dL_cut_22 hl (by decide) rfl (fun ls hl => ?_)
  refine lv_iconst (v := 1) hx hb dL_cut_24 (by decide) ?_
  exact en_i (fun k => ([] : List Nat).getD k 0) hx hb hr hlocks rfl rfl hP hD hS (Nat.le_of_ble_eq_true rfl) (Nat.le_of_ble_eq_true rfl) dL_cut_25
set_option maxHeartbeats 4000000 in
set_option maxRecDepth 100000 in
theorem k576_X9_cut (l : Launch) (D : va_G) (cs : Nat → ClassId) (sz : Nat) (a0 a1 a2 a3 a4 a5 a6 : Nat) (x0 : Int32) (hf0 : x0 < 0) : KI l yX9_cut wsX9_cut 2 43 0 0 D cs sz [.ref a0, .int 0, .int x0, .int 0] [(a0, .inr (9, [.int 0, .ref a2, .int 0, .int 0, .int 0, .int 0, .int 0, .int (-1), .ref a1, .ref a3, .ref a4, .ref a5, .int 0, .int 0, .int 0, .int 0, .int 0, .ref a6])), (a1, .inl (cs 0, 45783, .inl (layF (fun _ => 0) 1)))] (fun u => [(a1, .inl (cs 0, 45783, .inl (layF (fun _ => 0) 1))), (a0, .inr (9, [.int 1, .ref a2, .int 0, .int 0, .int 0, .int 0, .int 0, .int (-1), .ref a1, .ref a3, .ref a4, .ref a5, .int 0, .int 0, .int 0, .int 0, .int 0, .ref a6]))]) (0) := by
  refine KI.of cX9_cut 6 (some .boolean) (by decide) rfl (Nat.le_of_ble_eq_true rfl) ?_
  intro p e s m below meth c A ls hx hb hr hml hown hts hlocks hin hP hN hD hA hS hl
  have hown : s.vm.findClass RX9 = some m.cls := hown
  have hl : lv_has ls 6 [(0, .ref a0), (1, .int 0), (2, .int x0), (3, .int 0)] := hl
  refine lv_aload_n hx hb dX9_cut_0 rfl (lv_at hl 0 rfl) ?_
  refine lv_iconst (v := 0) hx hb dX9_cut_1 (by decide) ?_
  refine va_put (D := D) (ci := 9) (v := .int 0) (ty := .int) (C := RX9) (T := TX9) (N := 18) hx hb hts iX9_cut_9 tyX9 tyX9_ok nmX9 hown hN.1 hP hD hS 0 rfl rfl 0 (by decide) (hts _ mX9_cut_1) (fun _ h9 => h9) rfl (by decide +kernel) rfl rfl (Nat.le_of_ble_eq_true rfl) dX9_cut_2 (fun H locs hP hD hS => ?_)
  have hP : va_P D vwCl [(a0, .inr (9, [.int 0, .ref a2, .int 0, .int 0, .int 0, .int 0, .int 0, .int (-1), .ref a1, .ref a3, .ref a4, .ref a5, .int 0, .int 0, .int 0, .int 0, .int 0, .ref a6])), (a1, .inl (cs 0, 45783, .inl (layF (fun _ => 0) 1)))] H := hP
  have hD : va_D A [(a0, .inr (9, [.int 0, .ref a2, .int 0, .int 0, .int 0, .int 0, .int 0, .int (-1), .ref a1, .ref a3, .ref a4, .ref a5, .int 0, .int 0, .int 0, .int 0, .int 0, .ref a6])), (a1, .inl (cs 0, 45783, .inl (layF (fun _ => 0) 1)))] := hD
  refine lv_aload_n hx hb dX9_cut_5 rfl (lv_at hl 0 rfl) ?_
  refine lv_iload_n hx hb dX9_cut_6 rfl (lv_at hl 1 rfl) ?_
  refine cv_i (As := [.int 0]) (rest := []) (b := a0) (wr := []) ⟨hx, hb, hml, hown, hts⟩ (fun sz => k170_X9_noPlayer l D cs sz a0 a1 a2 a3 a4 a5 a6) (cwV 1 hts gX9_cut_X9_noPlayer rfl rfl rfl hdX9_noPlayer_v ⟨Nat.le_of_ble_eq_true rfl, Nat.le_of_ble_eq_true rfl⟩) hN hP hD hS hA [0, 1] [] rfl rfl rfl rfl (by decide) (ci := 9) (q0 := 0) rfl rfl rfl rfl hl.1 (Nat.le_of_ble_eq_true rfl) dX9_cut_7 (Nat.le_of_ble_eq_true rfl) (Nat.le_of_ble_eq_true rfl) (fun u0 H locs hP hD hS => ?_)
  have hP : va_P D vwCl [(a1, .inl (cs 0, 45783, .inl (layF (fun _ => 0) 1))), (a0, .inr (9, [.int 0, .ref a2, .int 0, .int 0, .int 0, .int 0, .int 0, .int (-1), .ref a1, .ref a3, .ref a4, .ref a5, .int 0, .int 0, .int 0, .int 0, .int 0, .ref a6]))] H := hP
  have hD : va_D A [(a1, .inl (cs 0, 45783, .inl (layF (fun _ => 0) 1))), (a0, .inr (9, [.int 0, .ref a2, .int 0, .int 0, .int 0, .int 0, .int 0, .int (-1), .ref a1, .ref a3, .ref a4, .ref a5, .int 0, .int 0, .int 0, .int 0, .int 0, .ref a6]))] := hD
  refine W.widen (k := 0) (n := 0) (Nat.le_of_ble_eq_true rfl) (Nat.le_of_ble_eq_true rfl) ?_
  refine lv_if_ne (tgt := 47) hx hb dX9_cut_10 (by decide) (fun c9 => absurd (by decide) c9) (fun _ => ?_)
  refine lv_aload_n hx hb dX9_cut_13 rfl (lv_at hl 0 rfl) ?_
  refine lv_iload_n hx hb dX9_cut_14 rfl (lv_at hl 2 rfl) ?_
  refine cv_i (As := [.int x0]) (rest := []) (b := a0) (wr := []) ⟨hx, hb, hml, hown, hts⟩ (fun sz => k269_X9_noPlayer l D cs sz a0 a1 a2 a3 a4 a5 a6 (x0) hf0) (cwV 1 hts gX9_cut_X9_noPlayer rfl rfl rfl hdX9_noPlayer_v ⟨Nat.le_of_ble_eq_true rfl, Nat.le_of_ble_eq_true rfl⟩) hN hP hD hS hA [1, 0] [] rfl rfl rfl rfl (by decide) (ci := 9) (q0 := 0) rfl rfl rfl rfl hl.1 (Nat.le_of_ble_eq_true rfl) dX9_cut_15 (Nat.le_of_ble_eq_true rfl) (Nat.le_of_ble_eq_true rfl) (fun u1 H locs hP hD hS => ?_)
  have hP : va_P D vwCl [(a1, .inl (cs 0, 45783, .inl (layF (fun _ => 0) 1))), (a0, .inr (9, [.int 1, .ref a2, .int 0, .int 0, .int 0, .int 0, .int 0, .int (-1), .ref a1, .ref a3, .ref a4, .ref a5, .int 0, .int 0, .int 0, .int 0, .int 0, .ref a6]))] H := hP
  have hD : va_D A [(a1, .inl (cs 0, 45783, .inl (layF (fun _ => 0) 1))), (a0, .inr (9, [.int 1, .ref a2, .int 0, .int 0, .int 0, .int 0, .int 0, .int (-1), .ref a1, .ref a3, .ref a4, .ref a5, .int 0, .int 0, .int 0, .int 0, .int 0, .ref a6]))] := hD
  refine W.widen (k := 0) (n := 0) (Nat.le_of_ble_eq_true rfl) (Nat.le_of_ble_eq_true rfl) ?_
  refine lv_if_ne (tgt := 47) hx hb dX9_cut_18 (by decide) (fun _ => ?_) (fun c9 => absurd c9 (by decide))
  refine lv_iconst (v := 0) hx hb dX9_cut_47 (by decide) ?_
  exact en_i (fun k => ([] : List Nat).getD k 0) hx hb hr hlocks rfl rfl hP hD hS (Nat.le_of_ble_eq_true rfl) (Nat.le_of_ble_eq_true rfl) dX9_cut_48
set_option maxHeartbeats 4000000 in
set_option maxRecDepth 100000 in
theorem law_16_0nf {p : Program} {l : Launch} {e : Env} {s : State} {m : MethodId} {args : Array Value} {below : List Frame} {meth : Method} {c : Code} {Q : State → Prop} {D : va_G} {cs : Nat → ClassId} {A : Nat → Prop} {xs : Nat → Int32} {b : Nat} (hx : p.tables.exec = Jvm.exec) (hb : c.code = cL_law) (hml : c.maxLocals = 9) (hown : s.vm.findClass RL = some m.cls) (hts : ∀ w ∈ wsL_law, w.before args s = true) (hN : NK D cs s) (hX : va_X b 6 xs s s.heap) (hbl : b < s.heap.size) (hbA : ¬ A b) (hA : ∀ q : Nat, s.heap.size ≤ q → A q) (hZ : ZX A s s.heap) (hZS : ZS cs A s s.heap) (hlt : l.stackTraces = false)
    (kend : ∀ (H : Heap) (locs : List Loc) (ls : Array Slot), va_S A s.heap H locs → lv_has ls 9 [(0, .ref b), (4, .int 0)] → W p l e room_1 s m args below meth c H locs 600002 7302232 Q (F0 m 1169 ls []))
    (a0 a1 a2 a3 a4 a5 a6 a7 a8 a9 a10 a11 a12 a13 a14 a15 a16 a17 a18 a19 a20 a21 a22 : Nat) (y2 : Int32) (hy1 : xs 1 = (0)) (hy2 : xs 2 = (y2)) (hy3 : xs 3 = (0)) (g2_2 : y2 < 0) (H : Heap) (locs : List Loc) (ls : Array Slot) (hP : va_P D vwCl [(a0, .inr (8, [.ref a5, .ref a2, .ref a6, .ref a7, .int 0, .int 0, .int (-1)])), (a1, .inr (6, [.int 1, .int 1, .int 50, .null, .ref a8, .ref a9, .ref a10, .ref a11])), (a2, .inr (7, [.ref a1, .ref a12, .ref a13, .ref a14, .ref a15, .ref a16, .long 0, .int 0, .int 0, .int 0, .int 0, .int 0, .int 0, .int 0, .int 0, .int 0])), (a3, .inr (9, [.int 0, .ref a17, .int 0, .int 0, .int 0, .int 0, .int 0, .int (-1), .ref a4, .ref a18, .ref a19, .ref a20, .int 0, .int 0, .int 0, .int 0, .int 0, .ref a21])), (a4, .inl (cs 0, 45783, .inl (layF (fun _ => 0) 1)))] H) (hD : va_D A [(a0, .inr (8, [.ref a5, .ref a2, .ref a6, .ref a7, .int 0, .int 0, .int (-1)])), (a1, .inr (6, [.int 1, .int 1, .int 50, .null, .ref a8, .ref a9, .ref a10, .ref a11])), (a2, .inr (7, [.ref a1, .ref a12, .ref a13, .ref a14, .ref a15, .ref a16, .long 0, .int 0, .int 0, .int 0, .int 0, .int 0, .int 0, .int 0, .int 0, .int 0])), (a3, .inr (9, [.int 0, .ref a17, .int 0, .int 0, .int 0, .int 0, .int 0, .int (-1), .ref a4, .ref a18, .ref a19, .ref a20, .int 0, .int 0, .int 0, .int 0, .int 0, .ref a21])), (a4, .inl (cs 0, 45783, .inl (layF (fun _ => 0) 1)))]) (hS : va_S A s.heap H locs) (hl : lv_has ls 9 [(4, .int 0), (3, .ref a22), (2, .ref a3), (1, .ref a0), (0, .ref b)]) : W p l e room_1 s m args below meth c H locs 391 467079 Q (F0 m 983 ls []) := by
  refine lv_aload_n hx hb dL_law_983 rfl (lv_at hl 3 rfl) ?_
  refine lv_aload_n hx hb dL_law_984 rfl (lv_at hl 4 rfl) ?_
  refine lv_iload hx hb dL_law_985 (lv_at hl 0 rfl) ?_
  refine lv_iconst (v := 1) hx hb dL_law_987 (by decide) ?_
  refine lv_iadd hx hb dL_law_988 ?_
  refine tp_i (1) (by decide) ?_
  refine va_sld hx hb hX hbl hbA hS (vin (by decide +kernel)) dL_law_989 ?_
  refine tp_i (0) hy1 ?_
  refine lv_aload_n hx hb dL_law_990 rfl (lv_at hl 4 rfl) ?_
  refine lv_iload hx hb dL_law_991 (lv_at hl 0 rfl) ?_
  refine lv_iconst (v := 2) hx hb dL_law_993 (by decide) ?_
  refine lv_iadd hx hb dL_law_994 ?_
  refine tp_i (2) (by decide) ?_
  refine va_sld hx hb hX hbl hbA hS (vin (by decide +kernel)) dL_law_995 ?_
  refine tp_i (y2) hy2 ?_
  refine lv_aload_n hx hb dL_law_996 rfl (lv_at hl 4 rfl) ?_
  refine lv_iload hx hb dL_law_997 (lv_at hl 0 rfl) ?_
  refine lv_iconst (v := 3) hx hb dL_law_999 (by decide) ?_
  refine lv_iadd hx hb dL_law_1000 ?_
  refine tp_i (3) (by decide) ?_
  refine va_sld hx hb hX hbl hbA hS (vin (by decide +kernel)) dL_law_1001 ?_
  refine tp_i (0) hy3 ?_
  refine lv_if_eq (tgt := 1009) hx hb dL_law_1002 (by decide) (fun _ => ?_) (fun c9 => absurd (by decide) c9)
  refine lv_iconst (v := 0) hx hb dL_law_1009 (by decide) ?_
  refine lv_aload_n hx hb dL_law_1010 rfl (lv_at hl 1 rfl) ?_
  refine ch_i (As := [.ref a0, .int 0, .int y2, .int 0, .ref a22]) (rest := []) (wr := [(a3, .inr (9, [.int 0, .ref a17, .int 0, .int 0, .int 0, .int 0, .int 0, .int (-1), .ref a4, .ref a18, .ref a19, .ref a20, .int 0, .int 0, .int 0, .int 0, .int 0, .ref a21])), (a4, .inl (cs 0, 45783, .inl (layF (fun _ => 0) 1)))]) ⟨hx, hb, hml, hown, hts⟩ (fun sz => k575_L_cut l D cs sz hlt a0 a2 a1 a22 a5 a6 a7 a12 a13 a14 a15 a16 a8 a9 a10 a11 (y2) g2_2) (vx_cwSW 5 hts gL_law_L_cut rfl rfl rfl hdL_cut_o ⟨Nat.le_of_ble_eq_true rfl, Nat.le_of_ble_eq_true rfl⟩) hN hP hD hS hA hZ [0, 2, 1] [3, 4] rfl rfl rfl rfl (by decide) rfl rfl hl.1 (Nat.le_of_ble_eq_true rfl) dL_law_1011 (Nat.le_of_ble_eq_true rfl) (Nat.le_of_ble_eq_true rfl) (fun u0 H locs hP hD hS => ?_)
  have hP : va_P D vwCl [(a3, .inr (9, [.int 0, .ref a17, .int 0, .int 0, .int 0, .int 0, .int 0, .int (-1), .ref a4, .ref a18, .ref a19, .ref a20, .int 0, .int 0, .int 0, .int 0, .int 0, .ref a21])), (a4, .inl (cs 0, 45783, .inl (layF (fun _ => 0) 1)))] H := hP
  have hD : va_D A [(a3, .inr (9, [.int 0, .ref a17, .int 0, .int 0, .int 0, .int 0, .int 0, .int (-1), .ref a4, .ref a18, .ref a19, .ref a20, .int 0, .int 0, .int 0, .int 0, .int 0, .ref a21])), (a4, .inl (cs 0, 45783, .inl (layF (fun _ => 0) 1)))] := hD
  refine W.widen (k := 392) (n := 467085) (Nat.le_of_ble_eq_true rfl) (Nat.le_of_ble_eq_true rfl) ?_
  refine lv_istore (lv' := [(5, .int 1), (4, .int 0), (3, .ref a22), (2, .ref a3), (1, .ref a0), (0, .ref b)]) hx hb dL_law_1014 hl (by decide) rfl (fun ls hl => ?_)
  refine lv_aload_n hx hb dL_law_1016 rfl (lv_at hl 3 rfl) ?_
  refine lv_aload_n hx hb dL_law_1017 rfl (lv_at hl 5 rfl) ?_
  refine lv_iload hx hb dL_law_1018 (lv_at hl 1 rfl) ?_
  refine lv_iconst (v := 1) hx hb dL_law_1020 (by decide) ?_
  refine lv_iadd hx hb dL_law_1021 ?_
  refine tp_i (1) (by decide) ?_
  refine va_sld hx hb hX hbl hbA hS (vin (by decide +kernel)) dL_law_1022 ?_
  refine tp_i (0) hy1 ?_
  refine lv_aload_n hx hb dL_law_1023 rfl (lv_at hl 5 rfl) ?_
  refine lv_iload hx hb dL_law_1024 (lv_at hl 1 rfl) ?_
  refine lv_iconst (v := 2) hx hb dL_law_1026 (by decide) ?_
  refine lv_iadd hx hb dL_law_1027 ?_
  refine tp_i (2) (by decide) ?_
  refine va_sld hx hb hX hbl hbA hS (vin (by decide +kernel)) dL_law_1028 ?_
  refine tp_i (y2) hy2 ?_
  refine lv_aload_n hx hb dL_law_1029 rfl (lv_at hl 5 rfl) ?_
  refine lv_iload hx hb dL_law_1030 (lv_at hl 1 rfl) ?_
  refine lv_iconst (v := 3) hx hb dL_law_1032 (by decide) ?_
  refine lv_iadd hx hb dL_law_1033 ?_
  refine tp_i (3) (by decide) ?_
  refine va_sld hx hb hX hbl hbA hS (vin (by decide +kernel)) dL_law_1034 ?_
  refine tp_i (0) hy3 ?_
  refine lv_if_eq (tgt := 1042) hx hb dL_law_1035 (by decide) (fun _ => ?_) (fun c9 => absurd (by decide) c9)
  refine lv_iconst (v := 0) hx hb dL_law_1042 (by decide) ?_
  refine cv_i (As := [.int 0, .int y2, .int 0]) (rest := []) (b := a3) (wr := []) ⟨hx, hb, hml, hown, hts⟩ (fun sz => k576_X9_cut l D cs sz a3 a4 a17 a18 a19 a20 a21 (y2) g2_2) (cwV 3 hts gL_law_X9_cut rfl rfl rfl hdX9_cut_v ⟨Nat.le_of_ble_eq_true rfl, Nat.le_of_ble_eq_true rfl⟩) hN hP hD hS hA [0, 1] [] rfl rfl rfl rfl (by decide) (ci := 9) (q0 := 0) rfl rfl rfl rfl hl.1 (Nat.le_of_ble_eq_true rfl) dL_law_1043 (Nat.le_of_ble_eq_true rfl) (Nat.le_of_ble_eq_true rfl) (fun u1 H locs hP hD hS => ?_)
  have hP : va_P D vwCl [(a4, .inl (cs 0, 45783, .inl (layF (fun _ => 0) 1))), (a3, .inr (9, [.int 1, .ref a17, .int 0, .int 0, .int 0, .int 0, .int 0, .int (-1), .ref a4, .ref a18, .ref a19, .ref a20, .int 0, .int 0, .int 0, .int 0, .int 0, .ref a21]))] H := hP
  have hD : va_D A [(a4, .inl (cs 0, 45783, .inl (layF (fun _ => 0) 1))), (a3, .inr (9, [.int 1, .ref a17, .int 0, .int 0, .int 0, .int 0, .int 0, .int (-1), .ref a4, .ref a18, .ref a19, .ref a20, .int 0, .int 0, .int 0, .int 0, .int 0, .ref a21]))] := hD
  refine W.widen (k := 392) (n := 467085) (Nat.le_of_ble_eq_true rfl) (Nat.le_of_ble_eq_true rfl) ?_
  refine lv_istore (lv' := [(6, .int 0), (5, .int 1), (4, .int 0), (3, .ref a22), (2, .ref a3), (1, .ref a0), (0, .ref b)]) hx hb dL_law_1046 hl (by decide) rfl (fun ls hl => ?_)
  refine lv_aload_n hx hb dL_law_1048 rfl (lv_at hl 4 rfl) ?_
  refine cv_i (As := []) (rest := []) (b := a3) (wr := [(a4, .inl (cs 0, 45783, .inl (layF (fun _ => 0) 1)))]) ⟨hx, hb, hml, hown, hts⟩ (fun sz => k158_X9_thrown l D cs sz a3 a17 a4 a18 a19 a20 a21) (cwV 0 hts gL_law_X9_thrown rfl rfl rfl hdX9_thrown_v ⟨Nat.le_of_ble_eq_true rfl, Nat.le_of_ble_eq_true rfl⟩) hN hP hD hS hA [1] [0] rfl rfl rfl rfl (by decide) (ci := 9) (q0 := 0) rfl rfl rfl rfl hl.1 (Nat.le_of_ble_eq_true rfl) dL_law_1049 (Nat.le_of_ble_eq_true rfl) (Nat.le_of_ble_eq_true rfl) (fun u2 H locs hP hD hS => ?_)
  have hP : va_P D vwCl [(a4, .inl (cs 0, 45783, .inl (layF (fun _ => 0) 1))), (a3, .inr (9, [.int 1, .ref a17, .int 0, .int 0, .int 0, .int 0, .int 0, .int (-1), .ref a4, .ref a18, .ref a19, .ref a20, .int 0, .int 0, .int 0, .int 0, .int 0, .ref a21]))] H := hP
  have hD : va_D A [(a4, .inl (cs 0, 45783, .inl (layF (fun _ => 0) 1))), (a3, .inr (9, [.int 1, .ref a17, .int 0, .int 0, .int 0, .int 0, .int 0, .int (-1), .ref a4, .ref a18, .ref a19, .ref a20, .int 0, .int 0, .int 0, .int 0, .int 0, .ref a21]))] := hD
  refine W.widen (k := 392) (n := 467085) (Nat.le_of_ble_eq_true rfl) (Nat.le_of_ble_eq_true rfl) ?_
  refine lv_iload hx hb dL_law_1052 (lv_at hl 1 rfl) ?_
  refine lv_icmp_eq (tgt := 1059) hx hb dL_law_1054 (by decide) (fun _ => ?_) (fun c9 => absurd (by decide) c9)
  refine lv_iload hx hb dL_law_1059 (lv_at hl 1 rfl) ?_
  refine lv_if_ne (tgt := 1083) hx hb dL_law_1061 (by decide) (fun _ => ?_) (fun c9 => absurd c9 (by decide))
  refine lv_goto (tgt := 1169) hx hb dL_law_1083 (by decide) ?_
  refine W.widen (k := 600002) (n := 7302232) (Nat.le_of_ble_eq_true rfl) (Nat.le_of_ble_eq_true rfl) ?_
  exact kend _ _ _ hS (lv_sub hl [6, 2] rfl)

set_option maxHeartbeats 4000000 in
set_option maxRecDepth 100000 in
theorem k577_X8_cut (l : Launch) (D : va_G) (cs : Nat → ClassId) (sz : Nat) (hlt : l.stackTraces = false) (a0 a1 a2 a3 a4 a5 a6 a7 a8 a9 a10 a11 a12 a13 a14 : Nat) (x0 : Int32) (hf0 : ¬ x0 < 0) (hf1 : ¬ x0 < 1) : KX l yX8_cut wsX8_cut 7 121 1 6 D cs sz [.ref a0, .int 0, .int x0, .int 0] [(a0, .inr (8, [.ref a3, .ref a1, .ref a4, .ref a5, .int 0, .int 0, .int (-1)])), (a1, .inr (7, [.ref a2, .ref a6, .ref a7, .ref a8, .ref a9, .ref a10, .long 0, .int 0, .int 0, .int 0, .int 0, .int 0, .int 0, .int 0, .int 0, .int 0])), (a2, .inr (6, [.int 1, .int 1, .int 50, .null, .ref a11, .ref a12, .ref a13, .ref a14]))] QnI "java/lang/IndexOutOfBoundsException" := by
  refine KX.of cX8_cut 5 (some .boolean) (by decide) rfl (Nat.le_of_ble_eq_true rfl) ?_
  intro p e s m below meth c A ls hx hb hr hml hown hts hlocks hnx hP hN hD hA hS hl hZ
  have hown : s.vm.findClass RX8 = some m.cls := hown
  have hl : lv_has ls 5 [(0, .ref a0), (1, .int 0), (2, .int x0), (3, .int 0)] := hl
  refine lv_aload_n hx hb dX8_cut_0 rfl (lv_at hl 0 rfl) ?_
  refine lv_iload_n hx hb dX8_cut_1 rfl (lv_at hl 1 rfl) ?_
  refine cv_v (As := [.int 0]) (rest := []) (b := a0) (wr := []) ⟨hx, hb, hml, hown, hts⟩ (fun sz => k164_X8_refuseNoPlayer l D cs sz a0 a1 a2 a3 a4 a5 a6 a7 a8 a9 a10 a11 a12 a13 a14) (cwV 1 hts gX8_cut_X8_refuseNoPlayer rfl rfl rfl hdX8_refuseNoPlayer_v ⟨Nat.le_of_ble_eq_true rfl, Nat.le_of_ble_eq_true rfl⟩) hN hP hD hS hA [0, 1, 2] [] rfl rfl rfl rfl (by decide) (ci := 8) (q0 := 0) rfl rfl rfl rfl hl.1 (Nat.le_of_ble_eq_true rfl) dX8_cut_2 (Nat.le_of_ble_eq_true rfl) (Nat.le_of_ble_eq_true rfl) (fun u0 H locs hP hD hS => ?_)
  have hP : va_P D vwCl [(a0, .inr (8, [.ref a3, .ref a1, .ref a4, .ref a5, .int 0, .int 0, .int (-1)])), (a1, .inr (7, [.ref a2, .ref a6, .ref a7, .ref a8, .ref a9, .ref a10, .long 0, .int 0, .int 0, .int 0, .int 0, .int 0, .int 0, .int 0, .int 0, .int 0])), (a2, .inr (6, [.int 1, .int 1, .int 50, .null, .ref a11, .ref a12, .ref a13, .ref a14]))] H := hP
  have hD : va_D A [(a0, .inr (8, [.ref a3, .ref a1, .ref a4, .ref a5, .int 0, .int 0, .int (-1)])), (a1, .inr (7, [.ref a2, .ref a6, .ref a7, .ref a8, .ref a9, .ref a10, .long 0, .int 0, .int 0, .int 0, .int 0, .int 0, .int 0, .int 0, .int 0, .int 0])), (a2, .inr (6, [.int 1, .int 1, .int 50, .null, .ref a11, .ref a12, .ref a13, .ref a14]))] := hD
  refine W.widen (k := 0) (n := 0) (Nat.le_of_ble_eq_true rfl) (Nat.le_of_ble_eq_true rfl) ?_
  refine lv_aload_n hx hb dX8_cut_5 rfl (lv_at hl 0 rfl) ?_
  refine lv_iload_n hx hb dX8_cut_6 rfl (lv_at hl 2 rfl) ?_
  exact xp_v (As := [.int x0]) (rest := []) (b := a0) ⟨hx, hb, hml, hown, hts⟩ (fun sz => k271_X8_refuseNoPlayer l D cs sz hlt a0 a1 a2 a3 a4 a5 a6 a7 a8 a9 a10 a11 a12 a13 a14 (x0) hf0 hf1) (cwV 1 hts gX8_cut_X8_refuseNoPlayer rfl rfl rfl hdX8_refuseNoPlayer_v ⟨Nat.le_of_ble_eq_true rfl, Nat.le_of_ble_eq_true rfl⟩) hN hP hD hS hA hZ [0, 1, 2] rfl rfl (ci := 8) (q0 := 0) rfl rfl rfl rfl hl.1 (Nat.le_of_ble_eq_true rfl) dX8_cut_7 (Nat.le_of_ble_eq_true rfl) (Nat.le_of_ble_eq_true rfl) hnx hlocks (Nat.le_of_ble_eq_true rfl) (Nat.le_of_ble_eq_true rfl)
set_option maxHeartbeats 4000000 in
set_option maxRecDepth 100000 in
theorem k578_L_cut (l : Launch) (D : va_G) (cs : Nat → ClassId) (sz : Nat) (hlt : l.stackTraces = false) (a0 a1 a2 a3 a4 a5 a6 a7 a8 a9 a10 a11 a12 a13 a14 a15 : Nat) (x0 : Int32) (hf0 : ¬ x0 < 0) (hf1 : ¬ x0 < 1) : KH l yL_cut wsL_cut 8 145 1 6 D cs sz [.ref a0, .int 0, .int x0, .int 0, .ref a3] [(a0, .inr (8, [.ref a4, .ref a1, .ref a5, .ref a6, .int 0, .int 0, .int (-1)])), (a1, .inr (7, [.ref a2, .ref a7, .ref a8, .ref a9, .ref a10, .ref a11, .long 0, .int 0, .int 0, .int 0, .int 0, .int 0, .int 0, .int 0, .int 0, .int 0])), (a2, .inr (6, [.int 1, .int 1, .int 50, .null, .ref a12, .ref a13, .ref a14, .ref a15]))] (fun u => []) (1) := by
  refine KH.of cL_cut 6 (some .int) (by decide) rfl (Nat.le_of_ble_eq_true rfl) ?_
  intro p e s m below meth c A ls hx hb hr hml hown hts hlocks htab hP hN hD hA hS hl hZ
  have hown : s.vm.findClass RL = some m.cls := hown
  have hl : lv_has ls 6 [(0, .ref a0), (1, .int 0), (2, .int x0), (3, .int 0), (4, .ref a3)] := hl
  refine lv_aload hx hb dL_cut_0 (lv_at hl 4 rfl) ?_
  refine lv_iconst (v := 0) hx hb dL_cut_2 (by decide) ?_
  refine lv_aload_n hx hb dL_cut_3 rfl (lv_at hl 0 rfl) ?_
  refine lv_iload_n hx hb dL_cut_4 rfl (lv_at hl 1 rfl) ?_
  refine lv_iload_n hx hb dL_cut_5 rfl (lv_at hl 2 rfl) ?_
  refine lv_iload_n hx hb dL_cut_6 rfl (lv_at hl 3 rfl) ?_
  refine xc_i (wr := []) (As := [.int 0, .int x0, .int 0]) (rest := [.int 0, .ref a3]) (b := a0) ⟨hx, hb, hml, hown, hts⟩ (fun sz => k577_X8_cut l D cs sz hlt a0 a1 a2 a4 a5 a6 a7 a8 a9 a10 a11 a12 a13 a14 a15 (x0) hf0 hf1) (cwV 3 hts gL_cut_X8_cut rfl rfl rfl hdX8_cut_v ⟨Nat.le_of_ble_eq_true rfl, Nat.le_of_ble_eq_true rfl⟩) hN hP hD hS hA hZ [0, 1, 2] rfl rfl (ci := 8) (q0 := 0) rfl rfl rfl rfl hl.1 (Nat.le_of_ble_eq_true rfl) dL_cut_7 (Nat.le_of_ble_eq_true rfl) (Nat.le_of_ble_eq_true rfl) [] rfl rfl (by decide) [] ⟨0, 19, 22, 22⟩ [⟨0, 19, 26, 41⟩] htab (fun z h => nomatch h) rfl (by decide) (hts _ mL_cut_1) 2 rfl (fun q9_7 H locs hP hD hS => ?_)
  have hP : va_P D vwCl [] H := hP
  have hD : va_D A [] := hD
  refine W.widen (k := 1) (n := 6) (Nat.le_of_ble_eq_true rfl) (Nat.le_of_ble_eq_true rfl) ?_
  refine lv_astore (lv' := [(5, .ref q9_7), (0, .ref a0), (1, .int 0), (2, .int x0), (3, .int 0), (4, .ref a3)]) hx hb dL_cut_22 hl (by decide) rfl (fun ls hl => ?_)
  refine lv_iconst (v := 1) hx hb dL_cut_24 (by decide) ?_
  exact en_i (fun k => ([] : List Nat).getD k 0) hx hb hr hlocks rfl rfl hP hD hS (Nat.le_of_ble_eq_true rfl) (Nat.le_of_ble_eq_true rfl) dL_cut_25
set_option maxHeartbeats 4000000 in
set_option maxRecDepth 100000 in
theorem k579_X9_cut (l : Launch) (D : va_G) (cs : Nat → ClassId) (sz : Nat) (a0 a1 a2 a3 a4 a5 a6 : Nat) (x0 : Int32) (hf0 : ¬ x0 < 0) (hf1 : 0 < x0) : KI l yX9_cut wsX9_cut 2 43 0 0 D cs sz [.ref a0, .int 0, .int x0, .int 0] [(a0, .inr (9, [.int 0, .ref a2, .int 0, .int 0, .int 0, .int 0, .int 0, .int (-1), .ref a1, .ref a3, .ref a4, .ref a5, .int 0, .int 0, .int 0, .int 0, .int 0, .ref a6])), (a1, .inl (cs 0, 45783, .inl (layF (fun _ => 0) 1)))] (fun u => [(a1, .inl (cs 0, 45783, .inl (layF (fun _ => 0) 1))), (a0, .inr (9, [.int 1, .ref a2, .int 0, .int 0, .int 0, .int 0, .int 0, .int (-1), .ref a1, .ref a3, .ref a4, .ref a5, .int 0, .int 0, .int 0, .int 0, .int 0, .ref a6]))]) (0) := by
  refine KI.of cX9_cut 6 (some .boolean) (by decide) rfl (Nat.le_of_ble_eq_true rfl) ?_
  intro p e s m below meth c A ls hx hb hr hml hown hts hlocks hin hP hN hD hA hS hl
  have hown : s.vm.findClass RX9 = some m.cls := hown
  have hl : lv_has ls 6 [(0, .ref a0), (1, .int 0), (2, .int x0), (3, .int 0)] := hl
  refine lv_aload_n hx hb dX9_cut_0 rfl (lv_at hl 0 rfl) ?_
  refine lv_iconst (v := 0) hx hb dX9_cut_1 (by decide) ?_
  refine va_put (D := D) (ci := 9) (v := .int 0) (ty := .int) (C := RX9) (T := TX9) (N := 18) hx hb hts iX9_cut_9 tyX9 tyX9_ok nmX9 hown hN.1 hP hD hS 0 rfl rfl 0 (by decide) (hts _ mX9_cut_1) (fun _ h9 => h9) rfl (by decide +kernel) rfl rfl (Nat.le_of_ble_eq_true rfl) dX9_cut_2 (fun H locs hP hD hS => ?_)
  have hP : va_P D vwCl [(a0, .inr (9, [.int 0, .ref a2, .int 0, .int 0, .int 0, .int 0, .int 0, .int (-1), .ref a1, .ref a3, .ref a4, .ref a5, .int 0, .int 0, .int 0, .int 0, .int 0, .ref a6])), (a1, .inl (cs 0, 45783, .inl (layF (fun _ => 0) 1)))] H := hP
  have hD : va_D A [(a0, .inr (9, [.int 0, .ref a2, .int 0, .int 0, .int 0, .int 0, .int 0, .int (-1), .ref a1, .ref a3, .ref a4, .ref a5, .int 0, .int 0, .int 0, .int 0, .int 0, .ref a6])), (a1, .inl (cs 0, 45783, .inl (layF (fun _ => 0) 1)))] := hD
  refine lv_aload_n hx hb dX9_cut_5 rfl (lv_at hl 0 rfl) ?_
  refine lv_iload_n hx hb dX9_cut_6 rfl (lv_at hl 1 rfl) ?_
  refine cv_i (As := [.int 0]) (rest := []) (b := a0) (wr := []) ⟨hx, hb, hml, hown, hts⟩ (fun sz => k170_X9_noPlayer l D cs sz a0 a1 a2 a3 a4 a5 a6) (cwV 1 hts gX9_cut_X9_noPlayer rfl rfl rfl hdX9_noPlayer_v ⟨Nat.le_of_ble_eq_true rfl, Nat.le_of_ble_eq_true rfl⟩) hN hP hD hS hA [0, 1] [] rfl rfl rfl rfl (by decide) (ci := 9) (q0 := 0) rfl rfl rfl rfl hl.1 (Nat.le_of_ble_eq_true rfl) dX9_cut_7 (Nat.le_of_ble_eq_true rfl) (Nat.le_of_ble_eq_true rfl) (fun u0 H locs hP hD hS => ?_)
  have hP : va_P D vwCl [(a1, .inl (cs 0, 45783, .inl (layF (fun _ => 0) 1))), (a0, .inr (9, [.int 0, .ref a2, .int 0, .int 0, .int 0, .int 0, .int 0, .int (-1), .ref a1, .ref a3, .ref a4, .ref a5, .int 0, .int 0, .int 0, .int 0, .int 0, .ref a6]))] H := hP
  have hD : va_D A [(a1, .inl (cs 0, 45783, .inl (layF (fun _ => 0) 1))), (a0, .inr (9, [.int 0, .ref a2, .int 0, .int 0, .int 0, .int 0, .int 0, .int (-1), .ref a1, .ref a3, .ref a4, .ref a5, .int 0, .int 0, .int 0, .int 0, .int 0, .ref a6]))] := hD
  refine W.widen (k := 0) (n := 0) (Nat.le_of_ble_eq_true rfl) (Nat.le_of_ble_eq_true rfl) ?_
  refine lv_if_ne (tgt := 47) hx hb dX9_cut_10 (by decide) (fun c9 => absurd (by decide) c9) (fun _ => ?_)
  refine lv_aload_n hx hb dX9_cut_13 rfl (lv_at hl 0 rfl) ?_
  refine lv_iload_n hx hb dX9_cut_14 rfl (lv_at hl 2 rfl) ?_
  refine cv_i (As := [.int x0]) (rest := []) (b := a0) (wr := []) ⟨hx, hb, hml, hown, hts⟩ (fun sz => k275_X9_noPlayer l D cs sz a0 a1 a2 a3 a4 a5 a6 (x0) hf0 hf1) (cwV 1 hts gX9_cut_X9_noPlayer rfl rfl rfl hdX9_noPlayer_v ⟨Nat.le_of_ble_eq_true rfl, Nat.le_of_ble_eq_true rfl⟩) hN hP hD hS hA [1, 0] [] rfl rfl rfl rfl (by decide) (ci := 9) (q0 := 0) rfl rfl rfl rfl hl.1 (Nat.le_of_ble_eq_true rfl) dX9_cut_15 (Nat.le_of_ble_eq_true rfl) (Nat.le_of_ble_eq_true rfl) (fun u1 H locs hP hD hS => ?_)
  have hP : va_P D vwCl [(a1, .inl (cs 0, 45783, .inl (layF (fun _ => 0) 1))), (a0, .inr (9, [.int 1, .ref a2, .int 0, .int 0, .int 0, .int 0, .int 0, .int (-1), .ref a1, .ref a3, .ref a4, .ref a5, .int 0, .int 0, .int 0, .int 0, .int 0, .ref a6]))] H := hP
  have hD : va_D A [(a1, .inl (cs 0, 45783, .inl (layF (fun _ => 0) 1))), (a0, .inr (9, [.int 1, .ref a2, .int 0, .int 0, .int 0, .int 0, .int 0, .int (-1), .ref a1, .ref a3, .ref a4, .ref a5, .int 0, .int 0, .int 0, .int 0, .int 0, .ref a6]))] := hD
  refine W.widen (k := 0) (n := 0) (Nat.le_of_ble_eq_true rfl) (Nat.le_of_ble_eq_true rfl) ?_
  refine lv_if_ne (tgt := 47) hx hb dX9_cut_18 (by decide) (fun _ => ?_) (fun c9 => absurd c9 (by decide))
  refine lv_iconst (v := 0) hx hb dX9_cut_47 (by decide) ?_
  exact en_i (fun k => ([] : List Nat).getD k 0) hx hb hr hlocks rfl rfl hP hD hS (Nat.le_of_ble_eq_true rfl) (Nat.le_of_ble_eq_true rfl) dX9_cut_48
set_option maxHeartbeats 4000000 in
set_option maxRecDepth 100000 in
theorem law_16_0bf {p : Program} {l : Launch} {e : Env} {s : State} {m : MethodId} {args : Array Value} {below : List Frame} {meth : Method} {c : Code} {Q : State → Prop} {D : va_G} {cs : Nat → ClassId} {A : Nat → Prop} {xs : Nat → Int32} {b : Nat} (hx : p.tables.exec = Jvm.exec) (hb : c.code = cL_law) (hml : c.maxLocals = 9) (hown : s.vm.findClass RL = some m.cls) (hts : ∀ w ∈ wsL_law, w.before args s = true) (hN : NK D cs s) (hX : va_X b 6 xs s s.heap) (hbl : b < s.heap.size) (hbA : ¬ A b) (hA : ∀ q : Nat, s.heap.size ≤ q → A q) (hZ : ZX A s s.heap) (hZS : ZS cs A s s.heap) (hlt : l.stackTraces = false)
    (kend : ∀ (H : Heap) (locs : List Loc) (ls : Array Slot), va_S A s.heap H locs → lv_has ls 9 [(0, .ref b), (4, .int 0)] → W p l e room_1 s m args below meth c H locs 600002 7302232 Q (F0 m 1169 ls []))
    (a0 a1 a2 a3 a4 a5 a6 a7 a8 a9 a10 a11 a12 a13 a14 a15 a16 a17 a18 a19 a20 a21 a22 : Nat) (y2 : Int32) (hy1 : xs 1 = (0)) (hy2 : xs 2 = (y2)) (hy3 : xs 3 = (0)) (g2_4 : ¬ y2 < 0) (g2_8 : ¬ y2 < 1) (g2_7 : 0 < y2) (H : Heap) (locs : List Loc) (ls : Array Slot) (hP : va_P D vwCl [(a0, .inr (8, [.ref a5, .ref a2, .ref a6, .ref a7, .int 0, .int 0, .int (-1)])), (a1, .inr (6, [.int 1, .int 1, .int 50, .null, .ref a8, .ref a9, .ref a10, .ref a11])), (a2, .inr (7, [.ref a1, .ref a12, .ref a13, .ref a14, .ref a15, .ref a16, .long 0, .int 0, .int 0, .int 0, .int 0, .int 0, .int 0, .int 0, .int 0, .int 0])), (a3, .inr (9, [.int 0, .ref a17, .int 0, .int 0, .int 0, .int 0, .int 0, .int (-1), .ref a4, .ref a18, .ref a19, .ref a20, .int 0, .int 0, .int 0, .int 0, .int 0, .ref a21])), (a4, .inl (cs 0, 45783, .inl (layF (fun _ => 0) 1)))] H) (hD : va_D A [(a0, .inr (8, [.ref a5, .ref a2, .ref a6, .ref a7, .int 0, .int 0, .int (-1)])), (a1, .inr (6, [.int 1, .int 1, .int 50, .null, .ref a8, .ref a9, .ref a10, .ref a11])), (a2, .inr (7, [.ref a1, .ref a12, .ref a13, .ref a14, .ref a15, .ref a16, .long 0, .int 0, .int 0, .int 0, .int 0, .int 0, .int 0, .int 0, .int 0, .int 0])), (a3, .inr (9, [.int 0, .ref a17, .int 0, .int 0, .int 0, .int 0, .int 0, .int (-1), .ref a4, .ref a18, .ref a19, .ref a20, .int 0, .int 0, .int 0, .int 0, .int 0, .ref a21])), (a4, .inl (cs 0, 45783, .inl (layF (fun _ => 0) 1)))]) (hS : va_S A s.heap H locs) (hl : lv_has ls 9 [(4, .int 0), (3, .ref a22), (2, .ref a3), (1, .ref a0), (0, .ref b)]) : W p l e room_1 s m args below meth c H locs 391 467079 Q (F0 m 983 ls []) := by
  refine lv_aload_n hx hb dL_law_983 rfl (lv_at hl 3 rfl) ?_
  refine lv_aload_n hx hb dL_law_984 rfl (lv_at hl 4 rfl) ?_
  refine lv_iload hx hb dL_law_985 (lv_at hl 0 rfl) ?_
  refine lv_iconst (v := 1) hx hb dL_law_987 (by decide) ?_
  refine lv_iadd hx hb dL_law_988 ?_
  refine tp_i (1) (by decide) ?_
  refine va_sld hx hb hX hbl hbA hS (vin (by decide +kernel)) dL_law_989 ?_
  refine tp_i (0) hy1 ?_
  refine lv_aload_n hx hb dL_law_990 rfl (lv_at hl 4 rfl) ?_
  refine lv_iload hx hb dL_law_991 (lv_at hl 0 rfl) ?_
  refine lv_iconst (v := 2) hx hb dL_law_993 (by decide) ?_
  refine lv_iadd hx hb dL_law_994 ?_
  refine tp_i (2) (by decide) ?_
  refine va_sld hx hb hX hbl hbA hS (vin (by decide +kernel)) dL_law_995 ?_
  refine tp_i (y2) hy2 ?_
  refine lv_aload_n hx hb dL_law_996 rfl (lv_at hl 4 rfl) ?_
  refine lv_iload hx hb dL_law_997 (lv_at hl 0 rfl) ?_
  refine lv_iconst (v := 3) hx hb dL_law_999 (by decide) ?_
  refine lv_iadd hx hb dL_law_1000 ?_
  refine tp_i (3) (by decide) ?_
  refine va_sld hx hb hX hbl hbA hS (vin (by decide +kernel)) dL_law_1001 ?_
  refine tp_i (0) hy3 ?_
  refine lv_if_eq (tgt := 1009) hx hb dL_law_1002 (by decide) (fun _ => ?_) (fun c9 => absurd (by decide) c9)
  refine lv_iconst (v := 0) hx hb dL_law_1009 (by decide) ?_
  refine lv_aload_n hx hb dL_law_1010 rfl (lv_at hl 1 rfl) ?_
  refine ch_i (As := [.ref a0, .int 0, .int y2, .int 0, .ref a22]) (rest := []) (wr := [(a3, .inr (9, [.int 0, .ref a17, .int 0, .int 0, .int 0, .int 0, .int 0, .int (-1), .ref a4, .ref a18, .ref a19, .ref a20, .int 0, .int 0, .int 0, .int 0, .int 0, .ref a21])), (a4, .inl (cs 0, 45783, .inl (layF (fun _ => 0) 1)))]) ⟨hx, hb, hml, hown, hts⟩ (fun sz => k578_L_cut l D cs sz hlt a0 a2 a1 a22 a5 a6 a7 a12 a13 a14 a15 a16 a8 a9 a10 a11 (y2) g2_4 g2_8) (vx_cwSW 5 hts gL_law_L_cut rfl rfl rfl hdL_cut_o ⟨Nat.le_of_ble_eq_true rfl, Nat.le_of_ble_eq_true rfl⟩) hN hP hD hS hA hZ [0, 2, 1] [3, 4] rfl rfl rfl rfl (by decide) rfl rfl hl.1 (Nat.le_of_ble_eq_true rfl) dL_law_1011 (Nat.le_of_ble_eq_true rfl) (Nat.le_of_ble_eq_true rfl) (fun u0 H locs hP hD hS => ?_)
  have hP : va_P D vwCl [(a3, .inr (9, [.int 0, .ref a17, .int 0, .int 0, .int 0, .int 0, .int 0, .int (-1), .ref a4, .ref a18, .ref a19, .ref a20, .int 0, .int 0, .int 0, .int 0, .int 0, .ref a21])), (a4, .inl (cs 0, 45783, .inl (layF (fun _ => 0) 1)))] H := hP
  have hD : va_D A [(a3, .inr (9, [.int 0, .ref a17, .int 0, .int 0, .int 0, .int 0, .int 0, .int (-1), .ref a4, .ref a18, .ref a19, .ref a20, .int 0, .int 0, .int 0, .int 0, .int 0, .ref a21])), (a4, .inl (cs 0, 45783, .inl (layF (fun _ => 0) 1)))] := hD
  refine W.widen (k := 392) (n := 467085) (Nat.le_of_ble_eq_true rfl) (Nat.le_of_ble_eq_true rfl) ?_
  refine lv_istore (lv' := [(5, .int 1), (4, .int 0), (3, .ref a22), (2, .ref a3), (1, .ref a0), (0, .ref b)]) hx hb dL_law_1014 hl (by decide) rfl (fun ls hl => ?_)
  refine lv_aload_n hx hb dL_law_1016 rfl (lv_at hl 3 rfl) ?_
  refine lv_aload_n hx hb dL_law_1017 rfl (lv_at hl 5 rfl) ?_
  refine lv_iload hx hb dL_law_1018 (lv_at hl 1 rfl) ?_
  refine lv_iconst (v := 1) hx hb dL_law_1020 (by decide) ?_
  refine lv_iadd hx hb dL_law_1021 ?_
  refine tp_i (1) (by decide) ?_
  refine va_sld hx hb hX hbl hbA hS (vin (by decide +kernel)) dL_law_1022 ?_
  refine tp_i (0) hy1 ?_
  refine lv_aload_n hx hb dL_law_1023 rfl (lv_at hl 5 rfl) ?_
  refine lv_iload hx hb dL_law_1024 (lv_at hl 1 rfl) ?_
  refine lv_iconst (v := 2) hx hb dL_law_1026 (by decide) ?_
  refine lv_iadd hx hb dL_law_1027 ?_
  refine tp_i (2) (by decide) ?_
  refine va_sld hx hb hX hbl hbA hS (vin (by decide +kernel)) dL_law_1028 ?_
  refine tp_i (y2) hy2 ?_
  refine lv_aload_n hx hb dL_law_1029 rfl (lv_at hl 5 rfl) ?_
  refine lv_iload hx hb dL_law_1030 (lv_at hl 1 rfl) ?_
  refine lv_iconst (v := 3) hx hb dL_law_1032 (by decide) ?_
  refine lv_iadd hx hb dL_law_1033 ?_
  refine tp_i (3) (by decide) ?_
  refine va_sld hx hb hX hbl hbA hS (vin (by decide +kernel)) dL_law_1034 ?_
  refine tp_i (0) hy3 ?_
  refine lv_if_eq (tgt := 1042) hx hb dL_law_1035 (by decide) (fun _ => ?_) (fun c9 => absurd (by decide) c9)
  refine lv_iconst (v := 0) hx hb dL_law_1042 (by decide) ?_
  refine cv_i (As := [.int 0, .int y2, .int 0]) (rest := []) (b := a3) (wr := []) ⟨hx, hb, hml, hown, hts⟩ (fun sz => k579_X9_cut l D cs sz a3 a4 a17 a18 a19 a20 a21 (y2) g2_4 g2_7) (cwV 3 hts gL_law_X9_cut rfl rfl rfl hdX9_cut_v ⟨Nat.le_of_ble_eq_true rfl, Nat.le_of_ble_eq_true rfl⟩) hN hP hD hS hA [0, 1] [] rfl rfl rfl rfl (by decide) (ci := 9) (q0 := 0) rfl rfl rfl rfl hl.1 (Nat.le_of_ble_eq_true rfl) dL_law_1043 (Nat.le_of_ble_eq_true rfl) (Nat.le_of_ble_eq_true rfl) (fun u1 H locs hP hD hS => ?_)
  have hP : va_P D vwCl [(a4, .inl (cs 0, 45783, .inl (layF (fun _ => 0) 1))), (a3, .inr (9, [.int 1, .ref a17, .int 0, .int 0, .int 0, .int 0, .int 0, .int (-1), .ref a4, .ref a18, .ref a19, .ref a20, .int 0, .int 0, .int 0, .int 0, .int 0, .ref a21]))] H := hP
  have hD : va_D A [(a4, .inl (cs 0, 45783, .inl (layF (fun _ => 0) 1))), (a3, .inr (9, [.int 1, .ref a17, .int 0, .int 0, .int 0, .int 0, .int 0, .int (-1), .ref a4, .ref a18, .ref a19, .ref a20, .int 0, .int 0, .int 0, .int 0, .int 0, .ref a21]))] := hD
  refine W.widen (k := 392) (n := 467085) (Nat.le_of_ble_eq_true rfl) (Nat.le_of_ble_eq_true rfl) ?_
  refine lv_istore (lv' := [(6, .int 0), (5, .int 1), (4, .int 0), (3, .ref a22), (2, .ref a3), (1, .ref a0), (0, .ref b)]) hx hb dL_law_1046 hl (by decide) rfl (fun ls hl => ?_)
  refine lv_aload_n hx hb dL_law_1048 rfl (lv_at hl 4 rfl) ?_
  refine cv_i (As := []) (rest := []) (b := a3) (wr := [(a4, .inl (cs 0, 45783, .inl (layF (fun _ => 0) 1)))]) ⟨hx, hb, hml, hown, hts⟩ (fun sz => k158_X9_thrown l D cs sz a3 a17 a4 a18 a19 a20 a21) (cwV 0 hts gL_law_X9_thrown rfl rfl rfl hdX9_thrown_v ⟨Nat.le_of_ble_eq_true rfl, Nat.le_of_ble_eq_true rfl⟩) hN hP hD hS hA [1] [0] rfl rfl rfl rfl (by decide) (ci := 9) (q0 := 0) rfl rfl rfl rfl hl.1 (Nat.le_of_ble_eq_true rfl) dL_law_1049 (Nat.le_of_ble_eq_true rfl) (Nat.le_of_ble_eq_true rfl) (fun u2 H locs hP hD hS => ?_)
  have hP : va_P D vwCl [(a4, .inl (cs 0, 45783, .inl (layF (fun _ => 0) 1))), (a3, .inr (9, [.int 1, .ref a17, .int 0, .int 0, .int 0, .int 0, .int 0, .int (-1), .ref a4, .ref a18, .ref a19, .ref a20, .int 0, .int 0, .int 0, .int 0, .int 0, .ref a21]))] H := hP
  have hD : va_D A [(a4, .inl (cs 0, 45783, .inl (layF (fun _ => 0) 1))), (a3, .inr (9, [.int 1, .ref a17, .int 0, .int 0, .int 0, .int 0, .int 0, .int (-1), .ref a4, .ref a18, .ref a19, .ref a20, .int 0, .int 0, .int 0, .int 0, .int 0, .ref a21]))] := hD
  refine W.widen (k := 392) (n := 467085) (Nat.le_of_ble_eq_true rfl) (Nat.le_of_ble_eq_true rfl) ?_
  refine lv_iload hx hb dL_law_1052 (lv_at hl 1 rfl) ?_
  refine lv_icmp_eq (tgt := 1059) hx hb dL_law_1054 (by decide) (fun _ => ?_) (fun c9 => absurd (by decide) c9)
  refine lv_iload hx hb dL_law_1059 (lv_at hl 1 rfl) ?_
  refine lv_if_ne (tgt := 1083) hx hb dL_law_1061 (by decide) (fun _ => ?_) (fun c9 => absurd c9 (by decide))
  refine lv_goto (tgt := 1169) hx hb dL_law_1083 (by decide) ?_
  refine W.widen (k := 600002) (n := 7302232) (Nat.le_of_ble_eq_true rfl) (Nat.le_of_ble_eq_true rfl) ?_
  exact kend _ _ _ hS (lv_sub hl [6, 2] rfl)

set_option maxHeartbeats 4000000 in
set_option maxRecDepth 100000 in
theorem k580_X8_cut (l : Launch) (D : va_G) (cs : Nat → ClassId) (sz : Nat) (hlt : l.stackTraces = false) (a0 a1 a2 a3 a4 : Nat) (x0 : Int32) (x1 : Int32) (hf0 : x0 < 0) : KX l yX8_cut wsX8_cut 7 121 1 6 D cs sz [.ref a0, .int x0, .int x1, .int 0] [(a0, .inr (8, [.ref a1, .ref a2, .ref a3, .ref a4, .int 0, .int 0, .int (-1)]))] QnI "java/lang/IndexOutOfBoundsException" := by
  refine KX.of cX8_cut 5 (some .boolean) (by decide) rfl (Nat.le_of_ble_eq_true rfl) ?_
  intro p e s m below meth c A ls hx hb hr hml hown hts hlocks hnx hP hN hD hA hS hl hZ
  have hown : s.vm.findClass RX8 = some m.cls := hown
  have hl : lv_has ls 5 [(0, .ref a0), (1, .int x0), (2, .int x1), (3, .int 0)] := hl
  refine lv_aload_n hx hb dX8_cut_0 rfl (lv_at hl 0 rfl) ?_
  refine lv_iload_n hx hb dX8_cut_1 rfl (lv_at hl 1 rfl) ?_
  exact xp_v (As := [.int x0]) (rest := []) (b := a0) ⟨hx, hb, hml, hown, hts⟩ (fun sz => k265_X8_refuseNoPlayer l D cs sz hlt a0 a1 a2 a3 a4 (x0) hf0) (cwV 1 hts gX8_cut_X8_refuseNoPlayer rfl rfl rfl hdX8_refuseNoPlayer_v ⟨Nat.le_of_ble_eq_true rfl, Nat.le_of_ble_eq_true rfl⟩) hN hP hD hS hA hZ [0] rfl rfl (ci := 8) (q0 := 0) rfl rfl rfl rfl hl.1 (Nat.le_of_ble_eq_true rfl) dX8_cut_2 (Nat.le_of_ble_eq_true rfl) (Nat.le_of_ble_eq_true rfl) hnx hlocks (Nat.le_of_ble_eq_true rfl) (Nat.le_of_ble_eq_true rfl)
set_option maxHeartbeats 4000000 in
set_option maxRecDepth 100000 in
theorem k581_L_cut (l : Launch) (D : va_G) (cs : Nat → ClassId) (sz : Nat) (hlt : l.stackTraces = false) (a0 a1 a2 a3 a4 a5 : Nat) (x0 : Int32) (x1 : Int32) (hf0 : x0 < 0) : KH l yL_cut wsL_cut 8 145 1 6 D cs sz [.ref a0, .int x0, .int x1, .int 0, .ref a1] [(a0, .inr (8, [.ref a2, .ref a3, .ref a4, .ref a5, .int 0, .int 0, .int (-1)]))] (fun u => []) (1) := by
  refine KH.of cL_cut 6 (some .int) (by decide) rfl (Nat.le_of_ble_eq_true rfl) ?_
  intro p e s m below meth c A ls hx hb hr hml hown hts hlocks htab hP hN hD hA hS hl hZ
  have hown : s.vm.findClass RL = some m.cls := hown
  have hl : lv_has ls 6 [(0, .ref a0), (1, .int x0), (2, .int x1), (3, .int 0), (4, .ref a1)] := hl
  refine lv_aload hx hb dL_cut_0 (lv_at hl 4 rfl) ?_
  refine lv_iconst (v := 0) hx hb dL_cut_2 (by decide) ?_
  refine lv_aload_n hx hb dL_cut_3 rfl (lv_at hl 0 rfl) ?_
  refine lv_iload_n hx hb dL_cut_4 rfl (lv_at hl 1 rfl) ?_
  refine lv_iload_n hx hb dL_cut_5 rfl (lv_at hl 2 rfl) ?_
  refine lv_iload_n hx hb dL_cut_6 rfl (lv_at hl 3 rfl) ?_
  refine xc_i (wr := []) (As := [.int x0, .int x1, .int 0]) (rest := [.int 0, .ref a1]) (b := a0) ⟨hx, hb, hml, hown, hts⟩ (fun sz => k580_X8_cut l D cs sz hlt a0 a2 a3 a4 a5 (x0) (x1) hf0) (cwV 3 hts gL_cut_X8_cut rfl rfl rfl hdX8_cut_v ⟨Nat.le_of_ble_eq_true rfl, Nat.le_of_ble_eq_true rfl⟩) hN hP hD hS hA hZ [0] rfl rfl (ci := 8) (q0 := 0) rfl rfl rfl rfl hl.1 (Nat.le_of_ble_eq_true rfl) dL_cut_7 (Nat.le_of_ble_eq_true rfl) (Nat.le_of_ble_eq_true rfl) [] rfl rfl (by decide) [] ⟨0, 19, 22, 22⟩ [⟨0, 19, 26, 41⟩] htab (fun z h => nomatch h) rfl (by decide) (hts _ mL_cut_1) 2 rfl (fun q9_7 H locs hP hD hS => ?_)
  have hP : va_P D vwCl [] H := hP
  have hD : va_D A [] := hD
  refine W.widen (k := 1) (n := 6) (Nat.le_of_ble_eq_true rfl) (Nat.le_of_ble_eq_true rfl) ?_
  refine lv_astore (lv' := [(5, .ref q9_7), (0, .ref a0), (1, .int x0), (2, .int x1), (3, .int 0), (4, .ref a1)]) hx hb dL_cut_22 hl (by decide) rfl (fun ls hl => ?_)
  refine lv_iconst (v := 1) hx hb dL_cut_24 (by decide) ?_
  exact en_i (fun k => ([] : List Nat).getD k 0) hx hb hr hlocks rfl rfl hP hD hS (Nat.le_of_ble_eq_true rfl) (Nat.le_of_ble_eq_true rfl) dL_cut_25
set_option maxHeartbeats 4000000 in
set_option maxRecDepth 100000 in
theorem k582_X9_cut (l : Launch) (D : va_G) (cs : Nat → ClassId) (sz : Nat) (a0 a1 a2 a3 a4 a5 a6 : Nat) (x0 : Int32) (x1 : Int32) (hf0 : x0 < 0) : KI l yX9_cut wsX9_cut 2 43 0 0 D cs sz [.ref a0, .int x0, .int x1, .int 0] [(a0, .inr (9, [.int 0, .ref a2, .int 0, .int 0, .int 0, .int 0, .int 0, .int (-1), .ref a1, .ref a3, .ref a4, .ref a5, .int 0, .int 0, .int 0, .int 0, .int 0, .ref a6])), (a1, .inl (cs 0, 45783, .inl (layF (fun _ => 0) 1)))] (fun u => [(a1, .inl (cs 0, 45783, .inl (layF (fun _ => 0) 1))), (a0, .inr (9, [.int 1, .ref a2, .int 0, .int 0, .int 0, .int 0, .int 0, .int (-1), .ref a1, .ref a3, .ref a4, .ref a5, .int 0, .int 0, .int 0, .int 0, .int 0, .ref a6]))]) (0) := by
  refine KI.of cX9_cut 6 (some .boolean) (by decide) rfl (Nat.le_of_ble_eq_true rfl) ?_
  intro p e s m below meth c A ls hx hb hr hml hown hts hlocks hin hP hN hD hA hS hl
  have hown : s.vm.findClass RX9 = some m.cls := hown
  have hl : lv_has ls 6 [(0, .ref a0), (1, .int x0), (2, .int x1), (3, .int 0)] := hl
  refine lv_aload_n hx hb dX9_cut_0 rfl (lv_at hl 0 rfl) ?_
  refine lv_iconst (v := 0) hx hb dX9_cut_1 (by decide) ?_
  refine va_put (D := D) (ci := 9) (v := .int 0) (ty := .int) (C := RX9) (T := TX9) (N := 18) hx hb hts iX9_cut_9 tyX9 tyX9_ok nmX9 hown hN.1 hP hD hS 0 rfl rfl 0 (by decide) (hts _ mX9_cut_1) (fun _ h9 => h9) rfl (by decide +kernel) rfl rfl (Nat.le_of_ble_eq_true rfl) dX9_cut_2 (fun H locs hP hD hS => ?_)
  have hP : va_P D vwCl [(a0, .inr (9, [.int 0, .ref a2, .int 0, .int 0, .int 0, .int 0, .int 0, .int (-1), .ref a1, .ref a3, .ref a4, .ref a5, .int 0, .int 0, .int 0, .int 0, .int 0, .ref a6])), (a1, .inl (cs 0, 45783, .inl (layF (fun _ => 0) 1)))] H := hP
  have hD : va_D A [(a0, .inr (9, [.int 0, .ref a2, .int 0, .int 0, .int 0, .int 0, .int 0, .int (-1), .ref a1, .ref a3, .ref a4, .ref a5, .int 0, .int 0, .int 0, .int 0, .int 0, .ref a6])), (a1, .inl (cs 0, 45783, .inl (layF (fun _ => 0) 1)))] := hD
  refine lv_aload_n hx hb dX9_cut_5 rfl (lv_at hl 0 rfl) ?_
  refine lv_iload_n hx hb dX9_cut_6 rfl (lv_at hl 1 rfl) ?_
  refine cv_i (As := [.int x0]) (rest := []) (b := a0) (wr := []) ⟨hx, hb, hml, hown, hts⟩ (fun sz => k269_X9_noPlayer l D cs sz a0 a1 a2 a3 a4 a5 a6 (x0) hf0) (cwV 1 hts gX9_cut_X9_noPlayer rfl rfl rfl hdX9_noPlayer_v ⟨Nat.le_of_ble_eq_true rfl, Nat.le_of_ble_eq_true rfl⟩) hN hP hD hS hA [0, 1] [] rfl rfl rfl rfl (by decide) (ci := 9) (q0 := 0) rfl rfl rfl rfl hl.1 (Nat.le_of_ble_eq_true rfl) dX9_cut_7 (Nat.le_of_ble_eq_true rfl) (Nat.le_of_ble_eq_true rfl) (fun u0 H locs hP hD hS => ?_)
  have hP : va_P D vwCl [(a1, .inl (cs 0, 45783, .inl (layF (fun _ => 0) 1))), (a0, .inr (9, [.int 1, .ref a2, .int 0, .int 0, .int 0, .int 0, .int 0, .int (-1), .ref a1, .ref a3, .ref a4, .ref a5, .int 0, .int 0, .int 0, .int 0, .int 0, .ref a6]))] H := hP
  have hD : va_D A [(a1, .inl (cs 0, 45783, .inl (layF (fun _ => 0) 1))), (a0, .inr (9, [.int 1, .ref a2, .int 0, .int 0, .int 0, .int 0, .int 0, .int (-1), .ref a1, .ref a3, .ref a4, .ref a5, .int 0, .int 0, .int 0, .int 0, .int 0, .ref a6]))] := hD
  refine W.widen (k := 0) (n := 0) (Nat.le_of_ble_eq_true rfl) (Nat.le_of_ble_eq_true rfl) ?_
  refine lv_if_ne (tgt := 47) hx hb dX9_cut_10 (by decide) (fun _ => ?_) (fun c9 => absurd c9 (by decide))
  refine lv_iconst (v := 0) hx hb dX9_cut_47 (by decide) ?_
  exact en_i (fun k => ([] : List Nat).getD k 0) hx hb hr hlocks rfl rfl hP hD hS (Nat.le_of_ble_eq_true rfl) (Nat.le_of_ble_eq_true rfl) dX9_cut_48
set_option maxHeartbeats 4000000 in
set_option maxRecDepth 100000 in
theorem law_16_nf {p : Program} {l : Launch} {e : Env} {s : State} {m : MethodId} {args : Array Value} {below : List Frame} {meth : Method} {c : Code} {Q : State → Prop} {D : va_G} {cs : Nat → ClassId} {A : Nat → Prop} {xs : Nat → Int32} {b : Nat} (hx : p.tables.exec = Jvm.exec) (hb : c.code = cL_law) (hml : c.maxLocals = 9) (hown : s.vm.findClass RL = some m.cls) (hts : ∀ w ∈ wsL_law, w.before args s = true) (hN : NK D cs s) (hX : va_X b 6 xs s s.heap) (hbl : b < s.heap.size) (hbA : ¬ A b) (hA : ∀ q : Nat, s.heap.size ≤ q → A q) (hZ : ZX A s s.heap) (hZS : ZS cs A s s.heap) (hlt : l.stackTraces = false)
    (kend : ∀ (H : Heap) (locs : List Loc) (ls : Array Slot), va_S A s.heap H locs → lv_has ls 9 [(0, .ref b), (4, .int 0)] → W p l e room_1 s m args below meth c H locs 600002 7302232 Q (F0 m 1169 ls []))
    (a0 a1 a2 a3 a4 a5 a6 a7 a8 a9 a10 a11 a12 : Nat) (y1 y2 : Int32) (hy1 : xs 1 = (y1)) (hy2 : xs 2 = (y2)) (hy3 : xs 3 = (0)) (g1_2 : y1 < 0) (H : Heap) (locs : List Loc) (ls : Array Slot) (hP : va_P D vwCl [(a0, .inr (8, [.ref a3, .ref a4, .ref a5, .ref a6, .int 0, .int 0, .int (-1)])), (a1, .inr (9, [.int 0, .ref a7, .int 0, .int 0, .int 0, .int 0, .int 0, .int (-1), .ref a2, .ref a8, .ref a9, .ref a10, .int 0, .int 0, .int 0, .int 0, .int 0, .ref a11])), (a2, .inl (cs 0, 45783, .inl (layF (fun _ => 0) 1)))] H) (hD : va_D A [(a0, .inr (8, [.ref a3, .ref a4, .ref a5, .ref a6, .int 0, .int 0, .int (-1)])), (a1, .inr (9, [.int 0, .ref a7, .int 0, .int 0, .int 0, .int 0, .int 0, .int (-1), .ref a2, .ref a8, .ref a9, .ref a10, .int 0, .int 0, .int 0, .int 0, .int 0, .ref a11])), (a2, .inl (cs 0, 45783, .inl (layF (fun _ => 0) 1)))]) (hS : va_S A s.heap H locs) (hl : lv_has ls 9 [(4, .int 0), (3, .ref a12), (2, .ref a1), (1, .ref a0), (0, .ref b)]) : W p l e room_1 s m args below meth c H locs 391 467079 Q (F0 m 983 ls []) := by
  refine lv_aload_n hx hb dL_law_983 rfl (lv_at hl 3 rfl) ?_
  refine lv_aload_n hx hb dL_law_984 rfl (lv_at hl 4 rfl) ?_
  refine lv_iload hx hb dL_law_985 (lv_at hl 0 rfl) ?_
  refine lv_iconst (v := 1) hx hb dL_law_987 (by decide) ?_
  refine lv_iadd hx hb dL_law_988 ?_
  refine tp_i (1) (by decide) ?_
  refine va_sld hx hb hX hbl hbA hS (vin (by decide +kernel)) dL_law_989 ?_
  refine tp_i (y1) hy1 ?_
  refine lv_aload_n hx hb dL_law_990 rfl (lv_at hl 4 rfl) ?_
  refine lv_iload hx hb dL_law_991 (lv_at hl 0 rfl) ?_
  refine lv_iconst (v := 2) hx hb dL_law_993 (by decide) ?_
  refine lv_iadd hx hb dL_law_994 ?_
  refine tp_i (2) (by decide) ?_
  refine va_sld hx hb hX hbl hbA hS (vin (by decide +kernel)) dL_law_995 ?_
  refine tp_i (y2) hy2 ?_
  refine lv_aload_n hx hb dL_law_996 rfl (lv_at hl 4 rfl) ?_
  refine lv_iload hx hb dL_law_997 (lv_at hl 0 rfl) ?_
  refine lv_iconst (v := 3) hx hb dL_law_999 (by decide) ?_
  refine lv_iadd hx hb dL_law_1000 ?_
  refine tp_i (3) (by decide) ?_
  refine va_sld hx hb hX hbl hbA hS (vin (by decide +kernel)) dL_law_1001 ?_
  refine tp_i (0) hy3 ?_
  refine lv_if_eq (tgt := 1009) hx hb dL_law_1002 (by decide) (fun _ => ?_) (fun c9 => absurd (by decide) c9)
  refine lv_iconst (v := 0) hx hb dL_law_1009 (by decide) ?_
  refine lv_aload_n hx hb dL_law_1010 rfl (lv_at hl 1 rfl) ?_
  refine ch_i (As := [.ref a0, .int y1, .int y2, .int 0, .ref a12]) (rest := []) (wr := [(a1, .inr (9, [.int 0, .ref a7, .int 0, .int 0, .int 0, .int 0, .int 0, .int (-1), .ref a2, .ref a8, .ref a9, .ref a10, .int 0, .int 0, .int 0, .int 0, .int 0, .ref a11])), (a2, .inl (cs 0, 45783, .inl (layF (fun _ => 0) 1)))]) ⟨hx, hb, hml, hown, hts⟩ (fun sz => k581_L_cut l D cs sz hlt a0 a12 a3 a4 a5 a6 (y1) (y2) g1_2) (vx_cwSW 5 hts gL_law_L_cut rfl rfl rfl hdL_cut_o ⟨Nat.le_of_ble_eq_true rfl, Nat.le_of_ble_eq_true rfl⟩) hN hP hD hS hA hZ [0] [1, 2] rfl rfl rfl rfl (by decide) rfl rfl hl.1 (Nat.le_of_ble_eq_true rfl) dL_law_1011 (Nat.le_of_ble_eq_true rfl) (Nat.le_of_ble_eq_true rfl) (fun u0 H locs hP hD hS => ?_)
  have hP : va_P D vwCl [(a1, .inr (9, [.int 0, .ref a7, .int 0, .int 0, .int 0, .int 0, .int 0, .int (-1), .ref a2, .ref a8, .ref a9, .ref a10, .int 0, .int 0, .int 0, .int 0, .int 0, .ref a11])), (a2, .inl (cs 0, 45783, .inl (layF (fun _ => 0) 1)))] H := hP
  have hD : va_D A [(a1, .inr (9, [.int 0, .ref a7, .int 0, .int 0, .int 0, .int 0, .int 0, .int (-1), .ref a2, .ref a8, .ref a9, .ref a10, .int 0, .int 0, .int 0, .int 0, .int 0, .ref a11])), (a2, .inl (cs 0, 45783, .inl (layF (fun _ => 0) 1)))] := hD
  refine W.widen (k := 392) (n := 467085) (Nat.le_of_ble_eq_true rfl) (Nat.le_of_ble_eq_true rfl) ?_
  refine lv_istore (lv' := [(5, .int 1), (4, .int 0), (3, .ref a12), (2, .ref a1), (1, .ref a0), (0, .ref b)]) hx hb dL_law_1014 hl (by decide) rfl (fun ls hl => ?_)
  refine lv_aload_n hx hb dL_law_1016 rfl (lv_at hl 3 rfl) ?_
  refine lv_aload_n hx hb dL_law_1017 rfl (lv_at hl 5 rfl) ?_
  refine lv_iload hx hb dL_law_1018 (lv_at hl 1 rfl) ?_
  refine lv_iconst (v := 1) hx hb dL_law_1020 (by decide) ?_
  refine lv_iadd hx hb dL_law_1021 ?_
  refine tp_i (1) (by decide) ?_
  refine va_sld hx hb hX hbl hbA hS (vin (by decide +kernel)) dL_law_1022 ?_
  refine tp_i (y1) hy1 ?_
  refine lv_aload_n hx hb dL_law_1023 rfl (lv_at hl 5 rfl) ?_
  refine lv_iload hx hb dL_law_1024 (lv_at hl 1 rfl) ?_
  refine lv_iconst (v := 2) hx hb dL_law_1026 (by decide) ?_
  refine lv_iadd hx hb dL_law_1027 ?_
  refine tp_i (2) (by decide) ?_
  refine va_sld hx hb hX hbl hbA hS (vin (by decide +kernel)) dL_law_1028 ?_
  refine tp_i (y2) hy2 ?_
  refine lv_aload_n hx hb dL_law_1029 rfl (lv_at hl 5 rfl) ?_
  refine lv_iload hx hb dL_law_1030 (lv_at hl 1 rfl) ?_
  refine lv_iconst (v := 3) hx hb dL_law_1032 (by decide) ?_
  refine lv_iadd hx hb dL_law_1033 ?_
  refine tp_i (3) (by decide) ?_
  refine va_sld hx hb hX hbl hbA hS (vin (by decide +kernel)) dL_law_1034 ?_
  refine tp_i (0) hy3 ?_
  refine lv_if_eq (tgt := 1042) hx hb dL_law_1035 (by decide) (fun _ => ?_) (fun c9 => absurd (by decide) c9)
  refine lv_iconst (v := 0) hx hb dL_law_1042 (by decide) ?_
  refine cv_i (As := [.int y1, .int y2, .int 0]) (rest := []) (b := a1) (wr := []) ⟨hx, hb, hml, hown, hts⟩ (fun sz => k582_X9_cut l D cs sz a1 a2 a7 a8 a9 a10 a11 (y1) (y2) g1_2) (cwV 3 hts gL_law_X9_cut rfl rfl rfl hdX9_cut_v ⟨Nat.le_of_ble_eq_true rfl, Nat.le_of_ble_eq_true rfl⟩) hN hP hD hS hA [0, 1] [] rfl rfl rfl rfl (by decide) (ci := 9) (q0 := 0) rfl rfl rfl rfl hl.1 (Nat.le_of_ble_eq_true rfl) dL_law_1043 (Nat.le_of_ble_eq_true rfl) (Nat.le_of_ble_eq_true rfl) (fun u1 H locs hP hD hS => ?_)
  have hP : va_P D vwCl [(a2, .inl (cs 0, 45783, .inl (layF (fun _ => 0) 1))), (a1, .inr (9, [.int 1, .ref a7, .int 0, .int 0, .int 0, .int 0, .int 0, .int (-1), .ref a2, .ref a8, .ref a9, .ref a10, .int 0, .int 0, .int 0, .int 0, .int 0, .ref a11]))] H := hP
  have hD : va_D A [(a2, .inl (cs 0, 45783, .inl (layF (fun _ => 0) 1))), (a1, .inr (9, [.int 1, .ref a7, .int 0, .int 0, .int 0, .int 0, .int 0, .int (-1), .ref a2, .ref a8, .ref a9, .ref a10, .int 0, .int 0, .int 0, .int 0, .int 0, .ref a11]))] := hD
  refine W.widen (k := 392) (n := 467085) (Nat.le_of_ble_eq_true rfl) (Nat.le_of_ble_eq_true rfl) ?_
  refine lv_istore (lv' := [(6, .int 0), (5, .int 1), (4, .int 0), (3, .ref a12), (2, .ref a1), (1, .ref a0), (0, .ref b)]) hx hb dL_law_1046 hl (by decide) rfl (fun ls hl => ?_)
  refine lv_aload_n hx hb dL_law_1048 rfl (lv_at hl 4 rfl) ?_
  refine cv_i (As := []) (rest := []) (b := a1) (wr := [(a2, .inl (cs 0, 45783, .inl (layF (fun _ => 0) 1)))]) ⟨hx, hb, hml, hown, hts⟩ (fun sz => k158_X9_thrown l D cs sz a1 a7 a2 a8 a9 a10 a11) (cwV 0 hts gL_law_X9_thrown rfl rfl rfl hdX9_thrown_v ⟨Nat.le_of_ble_eq_true rfl, Nat.le_of_ble_eq_true rfl⟩) hN hP hD hS hA [1] [0] rfl rfl rfl rfl (by decide) (ci := 9) (q0 := 0) rfl rfl rfl rfl hl.1 (Nat.le_of_ble_eq_true rfl) dL_law_1049 (Nat.le_of_ble_eq_true rfl) (Nat.le_of_ble_eq_true rfl) (fun u2 H locs hP hD hS => ?_)
  have hP : va_P D vwCl [(a2, .inl (cs 0, 45783, .inl (layF (fun _ => 0) 1))), (a1, .inr (9, [.int 1, .ref a7, .int 0, .int 0, .int 0, .int 0, .int 0, .int (-1), .ref a2, .ref a8, .ref a9, .ref a10, .int 0, .int 0, .int 0, .int 0, .int 0, .ref a11]))] H := hP
  have hD : va_D A [(a2, .inl (cs 0, 45783, .inl (layF (fun _ => 0) 1))), (a1, .inr (9, [.int 1, .ref a7, .int 0, .int 0, .int 0, .int 0, .int 0, .int (-1), .ref a2, .ref a8, .ref a9, .ref a10, .int 0, .int 0, .int 0, .int 0, .int 0, .ref a11]))] := hD
  refine W.widen (k := 392) (n := 467085) (Nat.le_of_ble_eq_true rfl) (Nat.le_of_ble_eq_true rfl) ?_
  refine lv_iload hx hb dL_law_1052 (lv_at hl 1 rfl) ?_
  refine lv_icmp_eq (tgt := 1059) hx hb dL_law_1054 (by decide) (fun _ => ?_) (fun c9 => absurd (by decide) c9)
  refine lv_iload hx hb dL_law_1059 (lv_at hl 1 rfl) ?_
  refine lv_if_ne (tgt := 1083) hx hb dL_law_1061 (by decide) (fun _ => ?_) (fun c9 => absurd c9 (by decide))
  refine lv_goto (tgt := 1169) hx hb dL_law_1083 (by decide) ?_
  refine W.widen (k := 600002) (n := 7302232) (Nat.le_of_ble_eq_true rfl) (Nat.le_of_ble_eq_true rfl) ?_
  exact kend _ _ _ hS (lv_sub hl [6, 2] rfl)

set_option maxHeartbeats 4000000 in
set_option maxRecDepth 100000 in
theorem k583_X8_cut (l : Launch) (D : va_G) (cs : Nat → ClassId) (sz : Nat) (hlt : l.stackTraces = false) (a0 a1 a2 a3 a4 a5 a6 a7 a8 a9 a10 a11 a12 a13 a14 : Nat) (x0 : Int32) (x1 : Int32) (hf0 : ¬ x0 < 0) (hf1 : ¬ x0 < 1) : KX l yX8_cut wsX8_cut 7 121 1 6 D cs sz [.ref a0, .int x0, .int x1, .int 0] [(a0, .inr (8, [.ref a3, .ref a1, .ref a4, .ref a5, .int 0, .int 0, .int (-1)])), (a1, .inr (7, [.ref a2, .ref a6, .ref a7, .ref a8, .ref a9, .ref a10, .long 0, .int 0, .int 0, .int 0, .int 0, .int 0, .int 0, .int 0, .int 0, .int 0])), (a2, .inr (6, [.int 1, .int 1, .int 50, .null, .ref a11, .ref a12, .ref a13, .ref a14]))] QnI "java/lang/IndexOutOfBoundsException" := by
  refine KX.of cX8_cut 5 (some .boolean) (by decide) rfl (Nat.le_of_ble_eq_true rfl) ?_
  intro p e s m below meth c A ls hx hb hr hml hown hts hlocks hnx hP hN hD hA hS hl hZ
  have hown : s.vm.findClass RX8 = some m.cls := hown
  have hl : lv_has ls 5 [(0, .ref a0), (1, .int x0), (2, .int x1), (3, .int 0)] := hl
  refine lv_aload_n hx hb dX8_cut_0 rfl (lv_at hl 0 rfl) ?_
  refine lv_iload_n hx hb dX8_cut_1 rfl (lv_at hl 1 rfl) ?_
  exact xp_v (As := [.int x0]) (rest := []) (b := a0) ⟨hx, hb, hml, hown, hts⟩ (fun sz => k271_X8_refuseNoPlayer l D cs sz hlt a0 a1 a2 a3 a4 a5 a6 a7 a8 a9 a10 a11 a12 a13 a14 (x0) hf0 hf1) (cwV 1 hts gX8_cut_X8_refuseNoPlayer rfl rfl rfl hdX8_refuseNoPlayer_v ⟨Nat.le_of_ble_eq_true rfl, Nat.le_of_ble_eq_true rfl⟩) hN hP hD hS hA hZ [0, 1, 2] rfl rfl (ci := 8) (q0 := 0) rfl rfl rfl rfl hl.1 (Nat.le_of_ble_eq_true rfl) dX8_cut_2 (Nat.le_of_ble_eq_true rfl) (Nat.le_of_ble_eq_true rfl) hnx hlocks (Nat.le_of_ble_eq_true rfl) (Nat.le_of_ble_eq_true rfl)
set_option maxHeartbeats 4000000 in
set_option maxRecDepth 100000 in
theorem k584_L_cut (l : Launch) (D : va_G) (cs : Nat → ClassId) (sz : Nat) (hlt : l.stackTraces = false) (a0 a1 a2 a3 a4 a5 a6 a7 a8 a9 a10 a11 a12 a13 a14 a15 : Nat) (x0 : Int32) (x1 : Int32) (hf0 : ¬ x0 < 0) (hf1 : ¬ x0 < 1) : KH l yL_cut wsL_cut 8 145 1 6 D cs sz [.ref a0, .int x0, .int x1, .int 0, .ref a3] [(a0, .inr (8, [.ref a4, .ref a1, .ref a5, .ref a6, .int 0, .int 0, .int (-1)])), (a1, .inr (7, [.ref a2, .ref a7, .ref a8, .ref a9, .ref a10, .ref a11, .long 0, .int 0, .int 0, .int 0, .int 0, .int 0, .int 0, .int 0, .int 0, .int 0])), (a2, .inr (6, [.int 1, .int 1, .int 50, .null, .ref a12, .ref a13, .ref a14, .ref a15]))] (fun u => []) (1) := by
  refine KH.of cL_cut 6 (some .int) (by decide) rfl (Nat.le_of_ble_eq_true rfl) ?_
  intro p e s m below meth c A ls hx hb hr hml hown hts hlocks htab hP hN hD hA hS hl hZ
  have hown : s.vm.findClass RL = some m.cls := hown
  have hl : lv_has ls 6 [(0, .ref a0), (1, .int x0), (2, .int x1), (3, .int 0), (4, .ref a3)] := hl
  refine lv_aload hx hb dL_cut_0 (lv_at hl 4 rfl) ?_
  refine lv_iconst (v := 0) hx hb dL_cut_2 (by decide) ?_
  refine lv_aload_n hx hb dL_cut_3 rfl (lv_at hl 0 rfl) ?_
  refine lv_iload_n hx hb dL_cut_4 rfl (lv_at hl 1 rfl) ?_
  refine lv_iload_n hx hb dL_cut_5 rfl (lv_at hl 2 rfl) ?_
  refine lv_iload_n hx hb dL_cut_6 rfl (lv_at hl 3 rfl) ?_
  refine xc_i (wr := []) (As := [.int x0, .int x1, .int 0]) (rest := [.int 0, .ref a3]) (b := a0) ⟨hx, hb, hml, hown, hts⟩ (fun sz => k583_X8_cut l D cs sz hlt a0 a1 a2 a4 a5 a6 a7 a8 a9 a10 a11 a12 a13 a14 a15 (x0) (x1) hf0 hf1) (cwV 3 hts gL_cut_X8_cut rfl rfl rfl hdX8_cut_v ⟨Nat.le_of_ble_eq_true rfl, Nat.le_of_ble_eq_true rfl⟩) hN hP hD hS hA hZ [0, 1, 2] rfl rfl (ci := 8) (q0 := 0) rfl rfl rfl rfl hl.1 (Nat.le_of_ble_eq_true rfl) dL_cut_7 (Nat.le_of_ble_eq_true rfl) (Nat.le_of_ble_eq_true rfl) [] rfl rfl (by decide) [] ⟨0, 19, 22, 22⟩ [⟨0, 19, 26, 41⟩] htab (fun z h => nomatch h) rfl (by decide) (hts _ mL_cut_1) 2 rfl (fun q9_7 H locs hP hD hS => ?_)
  have hP : va_P D vwCl [] H := hP
  have hD : va_D A [] := hD
  refine W.widen (k := 1) (n := 6) (Nat.le_of_ble_eq_true rfl) (Nat.le_of_ble_eq_true rfl) ?_
  refine lv_astore (lv' := [(5, .ref q9_7), (0, .ref a0), (1, .int x0), (2, .int x1), (3, .int 0), (4, .ref a3)]) hx hb dL_cut_22 hl (by decide) rfl (fun ls hl => ?_)
  refine lv_iconst (v := 1) hx hb dL_cut_24 (by decide) ?_
  exact en_i (fun k => ([] : List Nat).getD k 0) hx hb hr hlocks rfl rfl hP hD hS (Nat.le_of_ble_eq_true rfl) (Nat.le_of_ble_eq_true rfl) dL_cut_25
set_option maxHeartbeats 4000000 in
set_option maxRecDepth 100000 in
theorem k585_X9_cut (l : Launch) (D : va_G) (cs : Nat → ClassId) (sz : Nat) (a0 a1 a2 a3 a4 a5 a6 : Nat) (x0 : Int32) (x1 : Int32) (hf0 : ¬ x0 < 0) (hf1 : 0 < x0) : KI l yX9_cut wsX9_cut 2 43 0 0 D cs sz [.ref a0, .int x0, .int x1, .int 0] [(a0, .inr (9, [.int 0, .ref a2, .int 0, .int 0, .int 0, .int 0, .int 0, .int (-1), .ref a1, .ref a3, .ref a4, .ref a5, .int 0, .int 0, .int 0, .int 0, .int 0, .ref a6])), (a1, .inl (cs 0, 45783, .inl (layF (fun _ => 0) 1)))] (fun u => [(a1, .inl (cs 0, 45783, .inl (layF (fun _ => 0) 1))), (a0, .inr (9, [.int 1, .ref a2, .int 0, .int 0, .int 0, .int 0, .int 0, .int (-1), .ref a1, .ref a3, .ref a4, .ref a5, .int 0, .int 0, .int 0, .int 0, .int 0, .ref a6]))]) (0) := by
  refine KI.of cX9_cut 6 (some .boolean) (by decide) rfl (Nat.le_of_ble_eq_true rfl) ?_
  intro p e s m below meth c A ls hx hb hr hml hown hts hlocks hin hP hN hD hA hS hl
  have hown : s.vm.findClass RX9 = some m.cls := hown
  have hl : lv_has ls 6 [(0, .ref a0), (1, .int x0), (2, .int x1), (3, .int 0)] := hl
  refine lv_aload_n hx hb dX9_cut_0 rfl (lv_at hl 0 rfl) ?_
  refine lv_iconst (v := 0) hx hb dX9_cut_1 (by decide) ?_
  refine va_put (D := D) (ci := 9) (v := .int 0) (ty := .int) (C := RX9) (T := TX9) (N := 18) hx hb hts iX9_cut_9 tyX9 tyX9_ok nmX9 hown hN.1 hP hD hS 0 rfl rfl 0 (by decide) (hts _ mX9_cut_1) (fun _ h9 => h9) rfl (by decide +kernel) rfl rfl (Nat.le_of_ble_eq_true rfl) dX9_cut_2 (fun H locs hP hD hS => ?_)
  have hP : va_P D vwCl [(a0, .inr (9, [.int 0, .ref a2, .int 0, .int 0, .int 0, .int 0, .int 0, .int (-1), .ref a1, .ref a3, .ref a4, .ref a5, .int 0, .int 0, .int 0, .int 0, .int 0, .ref a6])), (a1, .inl (cs 0, 45783, .inl (layF (fun _ => 0) 1)))] H := hP
  have hD : va_D A [(a0, .inr (9, [.int 0, .ref a2, .int 0, .int 0, .int 0, .int 0, .int 0, .int (-1), .ref a1, .ref a3, .ref a4, .ref a5, .int 0, .int 0, .int 0, .int 0, .int 0, .ref a6])), (a1, .inl (cs 0, 45783, .inl (layF (fun _ => 0) 1)))] := hD
  refine lv_aload_n hx hb dX9_cut_5 rfl (lv_at hl 0 rfl) ?_
  refine lv_iload_n hx hb dX9_cut_6 rfl (lv_at hl 1 rfl) ?_
  refine cv_i (As := [.int x0]) (rest := []) (b := a0) (wr := []) ⟨hx, hb, hml, hown, hts⟩ (fun sz => k275_X9_noPlayer l D cs sz a0 a1 a2 a3 a4 a5 a6 (x0) hf0 hf1) (cwV 1 hts gX9_cut_X9_noPlayer rfl rfl rfl hdX9_noPlayer_v ⟨Nat.le_of_ble_eq_true rfl, Nat.le_of_ble_eq_true rfl⟩) hN hP hD hS hA [0, 1] [] rfl rfl rfl rfl (by decide) (ci := 9) (q0 := 0) rfl rfl rfl rfl hl.1 (Nat.le_of_ble_eq_true rfl) dX9_cut_7 (Nat.le_of_ble_eq_true rfl) (Nat.le_of_ble_eq_true rfl) (fun u0 H locs hP hD hS => ?_)
  have hP : va_P D vwCl [(a1, .inl (cs 0, 45783, .inl (layF (fun _ => 0) 1))), (a0, .inr (9, [.int 1, .ref a2, .int 0, .int 0, .int 0, .int 0, .int 0, .int (-1), .ref a1, .ref a3, .ref a4, .ref a5, .int 0, .int 0, .int 0, .int 0, .int 0, .ref a6]))] H := hP
  have hD : va_D A [(a1, .inl (cs 0, 45783, .inl (layF (fun _ => 0) 1))), (a0, .inr (9, [.int 1, .ref a2, .int 0, .int 0, .int 0, .int 0, .int 0, .int (-1), .ref a1, .ref a3, .ref a4, .ref a5, .int 0, .int 0, .int 0, .int 0, .int 0, .ref a6]))] := hD
  refine W.widen (k := 0) (n := 0) (Nat.le_of_ble_eq_true rfl) (Nat.le_of_ble_eq_true rfl) ?_
  refine lv_if_ne (tgt := 47) hx hb dX9_cut_10 (by decide) (fun _ => ?_) (fun c9 => absurd c9 (by decide))
  refine lv_iconst (v := 0) hx hb dX9_cut_47 (by decide) ?_
  exact en_i (fun k => ([] : List Nat).getD k 0) hx hb hr hlocks rfl rfl hP hD hS (Nat.le_of_ble_eq_true rfl) (Nat.le_of_ble_eq_true rfl) dX9_cut_48
set_option maxHeartbeats 4000000 in
set_option maxRecDepth 100000 in
theorem law_16_bf {p : Program} {l : Launch} {e : Env} {s : State} {m : MethodId} {args : Array Value} {below : List Frame} {meth : Method} {c : Code} {Q : State → Prop} {D : va_G} {cs : Nat → ClassId} {A : Nat → Prop} {xs : Nat → Int32} {b : Nat} (hx : p.tables.exec = Jvm.exec) (hb : c.code = cL_law) (hml : c.maxLocals = 9) (hown : s.vm.findClass RL = some m.cls) (hts : ∀ w ∈ wsL_law, w.before args s = true) (hN : NK D cs s) (hX : va_X b 6 xs s s.heap) (hbl : b < s.heap.size) (hbA : ¬ A b) (hA : ∀ q : Nat, s.heap.size ≤ q → A q) (hZ : ZX A s s.heap) (hZS : ZS cs A s s.heap) (hlt : l.stackTraces = false)
    (kend : ∀ (H : Heap) (locs : List Loc) (ls : Array Slot), va_S A s.heap H locs → lv_has ls 9 [(0, .ref b), (4, .int 0)] → W p l e room_1 s m args below meth c H locs 600002 7302232 Q (F0 m 1169 ls []))
    (a0 a1 a2 a3 a4 a5 a6 a7 a8 a9 a10 a11 a12 a13 a14 a15 a16 a17 a18 a19 a20 a21 a22 : Nat) (y1 y2 : Int32) (hy1 : xs 1 = (y1)) (hy2 : xs 2 = (y2)) (hy3 : xs 3 = (0)) (g1_4 : ¬ y1 < 0) (g1_8 : ¬ y1 < 1) (g1_7 : 0 < y1) (H : Heap) (locs : List Loc) (ls : Array Slot) (hP : va_P D vwCl [(a0, .inr (8, [.ref a5, .ref a2, .ref a6, .ref a7, .int 0, .int 0, .int (-1)])), (a1, .inr (6, [.int 1, .int 1, .int 50, .null, .ref a8, .ref a9, .ref a10, .ref a11])), (a2, .inr (7, [.ref a1, .ref a12, .ref a13, .ref a14, .ref a15, .ref a16, .long 0, .int 0, .int 0, .int 0, .int 0, .int 0, .int 0, .int 0, .int 0, .int 0])), (a3, .inr (9, [.int 0, .ref a17, .int 0, .int 0, .int 0, .int 0, .int 0, .int (-1), .ref a4, .ref a18, .ref a19, .ref a20, .int 0, .int 0, .int 0, .int 0, .int 0, .ref a21])), (a4, .inl (cs 0, 45783, .inl (layF (fun _ => 0) 1)))] H) (hD : va_D A [(a0, .inr (8, [.ref a5, .ref a2, .ref a6, .ref a7, .int 0, .int 0, .int (-1)])), (a1, .inr (6, [.int 1, .int 1, .int 50, .null, .ref a8, .ref a9, .ref a10, .ref a11])), (a2, .inr (7, [.ref a1, .ref a12, .ref a13, .ref a14, .ref a15, .ref a16, .long 0, .int 0, .int 0, .int 0, .int 0, .int 0, .int 0, .int 0, .int 0, .int 0])), (a3, .inr (9, [.int 0, .ref a17, .int 0, .int 0, .int 0, .int 0, .int 0, .int (-1), .ref a4, .ref a18, .ref a19, .ref a20, .int 0, .int 0, .int 0, .int 0, .int 0, .ref a21])), (a4, .inl (cs 0, 45783, .inl (layF (fun _ => 0) 1)))]) (hS : va_S A s.heap H locs) (hl : lv_has ls 9 [(4, .int 0), (3, .ref a22), (2, .ref a3), (1, .ref a0), (0, .ref b)]) : W p l e room_1 s m args below meth c H locs 391 467079 Q (F0 m 983 ls []) := by
  refine lv_aload_n hx hb dL_law_983 rfl (lv_at hl 3 rfl) ?_
  refine lv_aload_n hx hb dL_law_984 rfl (lv_at hl 4 rfl) ?_
  refine lv_iload hx hb dL_law_985 (lv_at hl 0 rfl) ?_
  refine lv_iconst (v := 1) hx hb dL_law_987 (by decide) ?_
  refine lv_iadd hx hb dL_law_988 ?_
  refine tp_i (1) (by decide) ?_
  refine va_sld hx hb hX hbl hbA hS (vin (by decide +kernel)) dL_law_989 ?_
  refine tp_i (y1) hy1 ?_
  refine lv_aload_n hx hb dL_law_990 rfl (lv_at hl 4 rfl) ?_
  refine lv_iload hx hb dL_law_991 (lv_at hl 0 rfl) ?_
  refine lv_iconst (v := 2) hx hb dL_law_993 (by decide) ?_
  refine lv_iadd hx hb dL_law_994 ?_
  refine tp_i (2) (by decide) ?_
  refine va_sld hx hb hX hbl hbA hS (vin (by decide +kernel)) dL_law_995 ?_
  refine tp_i (y2) hy2 ?_
  refine lv_aload_n hx hb dL_law_996 rfl (lv_at hl 4 rfl) ?_
  refine lv_iload hx hb dL_law_997 (lv_at hl 0 rfl) ?_
  refine lv_iconst (v := 3) hx hb dL_law_999 (by decide) ?_
  refine lv_iadd hx hb dL_law_1000 ?_
  refine tp_i (3) (by decide) ?_
  refine va_sld hx hb hX hbl hbA hS (vin (by decide +kernel)) dL_law_1001 ?_
  refine tp_i (0) hy3 ?_
  refine lv_if_eq (tgt := 1009) hx hb dL_law_1002 (by decide) (fun _ => ?_) (fun c9 => absurd (by decide) c9)
  refine lv_iconst (v := 0) hx hb dL_law_1009 (by decide) ?_
  refine lv_aload_n hx hb dL_law_1010 rfl (lv_at hl 1 rfl) ?_
  refine ch_i (As := [.ref a0, .int y1, .int y2, .int 0, .ref a22]) (rest := []) (wr := [(a3, .inr (9, [.int 0, .ref a17, .int 0, .int 0, .int 0, .int 0, .int 0, .int (-1), .ref a4, .ref a18, .ref a19, .ref a20, .int 0, .int 0, .int 0, .int 0, .int 0, .ref a21])), (a4, .inl (cs 0, 45783, .inl (layF (fun _ => 0) 1)))]) ⟨hx, hb, hml, hown, hts⟩ (fun sz => k584_L_cut l D cs sz hlt a0 a2 a1 a22 a5 a6 a7 a12 a13 a14 a15 a16 a8 a9 a10 a11 (y1) (y2) g1_4 g1_8) (vx_cwSW 5 hts gL_law_L_cut rfl rfl rfl hdL_cut_o ⟨Nat.le_of_ble_eq_true rfl, Nat.le_of_ble_eq_true rfl⟩) hN hP hD hS hA hZ [0, 2, 1] [3, 4] rfl rfl rfl rfl (by decide) rfl rfl hl.1 (Nat.le_of_ble_eq_true rfl) dL_law_1011 (Nat.le_of_ble_eq_true rfl) (Nat.le_of_ble_eq_true rfl) (fun u0 H locs hP hD hS => ?_)
  have hP : va_P D vwCl [(a3, .inr (9, [.int 0, .ref a17, .int 0, .int 0, .int 0, .int 0, .int 0, .int (-1), .ref a4, .ref a18, .ref a19, .ref a20, .int 0, .int 0, .int 0, .int 0, .int 0, .ref a21])), (a4, .inl (cs 0, 45783, .inl (layF (fun _ => 0) 1)))] H := hP
  have hD : va_D A [(a3, .inr (9, [.int 0, .ref a17, .int 0, .int 0, .int 0, .int 0, .int 0, .int (-1), .ref a4, .ref a18, .ref a19, .ref a20, .int 0, .int 0, .int 0, .int 0, .int 0, .ref a21])), (a4, .inl (cs 0, 45783, .inl (layF (fun _ => 0) 1)))] := hD
  refine W.widen (k := 392) (n := 467085) (Nat.le_of_ble_eq_true rfl) (Nat.le_of_ble_eq_true rfl) ?_
  refine lv_istore (lv' := [(5, .int 1), (4, .int 0), (3, .ref a22), (2, .ref a3), (1, .ref a0), (0, .ref b)]) hx hb dL_law_1014 hl (by decide) rfl (fun ls hl => ?_)
  refine lv_aload_n hx hb dL_law_1016 rfl (lv_at hl 3 rfl) ?_
  refine lv_aload_n hx hb dL_law_1017 rfl (lv_at hl 5 rfl) ?_
  refine lv_iload hx hb dL_law_1018 (lv_at hl 1 rfl) ?_
  refine lv_iconst (v := 1) hx hb dL_law_1020 (by decide) ?_
  refine lv_iadd hx hb dL_law_1021 ?_
  refine tp_i (1) (by decide) ?_
  refine va_sld hx hb hX hbl hbA hS (vin (by decide +kernel)) dL_law_1022 ?_
  refine tp_i (y1) hy1 ?_
  refine lv_aload_n hx hb dL_law_1023 rfl (lv_at hl 5 rfl) ?_
  refine lv_iload hx hb dL_law_1024 (lv_at hl 1 rfl) ?_
  refine lv_iconst (v := 2) hx hb dL_law_1026 (by decide) ?_
  refine lv_iadd hx hb dL_law_1027 ?_
  refine tp_i (2) (by decide) ?_
  refine va_sld hx hb hX hbl hbA hS (vin (by decide +kernel)) dL_law_1028 ?_
  refine tp_i (y2) hy2 ?_
  refine lv_aload_n hx hb dL_law_1029 rfl (lv_at hl 5 rfl) ?_
  refine lv_iload hx hb dL_law_1030 (lv_at hl 1 rfl) ?_
  refine lv_iconst (v := 3) hx hb dL_law_1032 (by decide) ?_
  refine lv_iadd hx hb dL_law_1033 ?_
  refine tp_i (3) (by decide) ?_
  refine va_sld hx hb hX hbl hbA hS (vin (by decide +kernel)) dL_law_1034 ?_
  refine tp_i (0) hy3 ?_
  refine lv_if_eq (tgt := 1042) hx hb dL_law_1035 (by decide) (fun _ => ?_) (fun c9 => absurd (by decide) c9)
  refine lv_iconst (v := 0) hx hb dL_law_1042 (by decide) ?_
  refine cv_i (As := [.int y1, .int y2, .int 0]) (rest := []) (b := a3) (wr := []) ⟨hx, hb, hml, hown, hts⟩ (fun sz => k585_X9_cut l D cs sz a3 a4 a17 a18 a19 a20 a21 (y1) (y2) g1_4 g1_7) (cwV 3 hts gL_law_X9_cut rfl rfl rfl hdX9_cut_v ⟨Nat.le_of_ble_eq_true rfl, Nat.le_of_ble_eq_true rfl⟩) hN hP hD hS hA [0, 1] [] rfl rfl rfl rfl (by decide) (ci := 9) (q0 := 0) rfl rfl rfl rfl hl.1 (Nat.le_of_ble_eq_true rfl) dL_law_1043 (Nat.le_of_ble_eq_true rfl) (Nat.le_of_ble_eq_true rfl) (fun u1 H locs hP hD hS => ?_)
  have hP : va_P D vwCl [(a4, .inl (cs 0, 45783, .inl (layF (fun _ => 0) 1))), (a3, .inr (9, [.int 1, .ref a17, .int 0, .int 0, .int 0, .int 0, .int 0, .int (-1), .ref a4, .ref a18, .ref a19, .ref a20, .int 0, .int 0, .int 0, .int 0, .int 0, .ref a21]))] H := hP
  have hD : va_D A [(a4, .inl (cs 0, 45783, .inl (layF (fun _ => 0) 1))), (a3, .inr (9, [.int 1, .ref a17, .int 0, .int 0, .int 0, .int 0, .int 0, .int (-1), .ref a4, .ref a18, .ref a19, .ref a20, .int 0, .int 0, .int 0, .int 0, .int 0, .ref a21]))] := hD
  refine W.widen (k := 392) (n := 467085) (Nat.le_of_ble_eq_true rfl) (Nat.le_of_ble_eq_true rfl) ?_
  refine lv_istore (lv' := [(6, .int 0), (5, .int 1), (4, .int 0), (3, .ref a22), (2, .ref a3), (1, .ref a0), (0, .ref b)]) hx hb dL_law_1046 hl (by decide) rfl (fun ls hl => ?_)
  refine lv_aload_n hx hb dL_law_1048 rfl (lv_at hl 4 rfl) ?_
  refine cv_i (As := []) (rest := []) (b := a3) (wr := [(a4, .inl (cs 0, 45783, .inl (layF (fun _ => 0) 1)))]) ⟨hx, hb, hml, hown, hts⟩ (fun sz => k158_X9_thrown l D cs sz a3 a17 a4 a18 a19 a20 a21) (cwV 0 hts gL_law_X9_thrown rfl rfl rfl hdX9_thrown_v ⟨Nat.le_of_ble_eq_true rfl, Nat.le_of_ble_eq_true rfl⟩) hN hP hD hS hA [1] [0] rfl rfl rfl rfl (by decide) (ci := 9) (q0 := 0) rfl rfl rfl rfl hl.1 (Nat.le_of_ble_eq_true rfl) dL_law_1049 (Nat.le_of_ble_eq_true rfl) (Nat.le_of_ble_eq_true rfl) (fun u2 H locs hP hD hS => ?_)
  have hP : va_P D vwCl [(a4, .inl (cs 0, 45783, .inl (layF (fun _ => 0) 1))), (a3, .inr (9, [.int 1, .ref a17, .int 0, .int 0, .int 0, .int 0, .int 0, .int (-1), .ref a4, .ref a18, .ref a19, .ref a20, .int 0, .int 0, .int 0, .int 0, .int 0, .ref a21]))] H := hP
  have hD : va_D A [(a4, .inl (cs 0, 45783, .inl (layF (fun _ => 0) 1))), (a3, .inr (9, [.int 1, .ref a17, .int 0, .int 0, .int 0, .int 0, .int 0, .int (-1), .ref a4, .ref a18, .ref a19, .ref a20, .int 0, .int 0, .int 0, .int 0, .int 0, .ref a21]))] := hD
  refine W.widen (k := 392) (n := 467085) (Nat.le_of_ble_eq_true rfl) (Nat.le_of_ble_eq_true rfl) ?_
  refine lv_iload hx hb dL_law_1052 (lv_at hl 1 rfl) ?_
  refine lv_icmp_eq (tgt := 1059) hx hb dL_law_1054 (by decide) (fun _ => ?_) (fun c9 => absurd (by decide) c9)
  refine lv_iload hx hb dL_law_1059 (lv_at hl 1 rfl) ?_
  refine lv_if_ne (tgt := 1083) hx hb dL_law_1061 (by decide) (fun _ => ?_) (fun c9 => absurd c9 (by decide))
  refine lv_goto (tgt := 1169) hx hb dL_law_1083 (by decide) ?_
  refine W.widen (k := 600002) (n := 7302232) (Nat.le_of_ble_eq_true rfl) (Nat.le_of_ble_eq_true rfl) ?_
  exact kend _ _ _ hS (lv_sub hl [6, 2] rfl)

theorem mX8_lead_1 : (.fieldLink RX8 19 "OneBeat" "now" "LOneBeat$World;" : Cond) ∈ wsX8_lead := List.mem_of_getElem? (i := 1) (by decide +kernel)
theorem iX8_lead_8 : ∀ w ∈ wsX80, w ∈ wsX8_lead := fun w h => List.mem_of_mem_drop (List.mem_of_mem_take ((show wsX80 = (wsX8_lead.drop 88).take 7 by decide +kernel) ▸ h))
theorem iX8_lead_7 : ∀ w ∈ wsX70, w ∈ wsX8_lead := fun w h => List.mem_of_mem_drop (List.mem_of_mem_take ((show wsX70 = (wsX8_lead.drop 95).take 16 by decide +kernel) ▸ h))
theorem mX7_makeConductor_1 : (.fieldLink RX7 68 "OneBeat$World" "conductor" "I" : Cond) ∈ wsX7_makeConductor := List.mem_of_getElem? (i := 1) (by decide +kernel)
theorem iX7_makeConductor_7 : ∀ w ∈ wsX70, w ∈ wsX7_makeConductor := fun w h => List.mem_of_mem_drop (List.mem_of_mem_take ((show wsX70 = (wsX7_makeConductor.drop 8).take 16 by decide +kernel) ▸ h))
theorem mX7_makeConductor_2 : (.fieldLink RX7 11 "OneBeat$World" "players" "[LOneBeat$Player;" : Cond) ∈ wsX7_makeConductor := List.mem_of_getElem? (i := 2) (by decide +kernel)
theorem iX7_makeConductor_3 : ∀ w ∈ wsX30, w ∈ wsX7_makeConductor := fun w h => List.mem_of_mem_drop (List.mem_of_mem_take ((show wsX30 = (wsX7_makeConductor.drop 24).take 10 by decide +kernel) ▸ h))
