set_option maxHeartbeats 4000000 in
set_option maxRecDepth 100000 in
theorem k33_X9_append (l : Launch) (D : va_G) (cs : Nat → ClassId) (sz : Nat) (a0 a1 a2 a3 a4 a5 a6 : Nat) (x0 : Int32) (x1 : Int32) (x2 : Int32) (x3 : Int32) (x4 : Int32) : KI l yX9_append wsX9_append 0 0 0 0 D cs sz [.ref a0, .int x0, .int x1, .int x2, .int x3, .int x4] [(a0, .inr (9, [.int 0, .ref a1, .int 0, .int 0, .int 0, .int 0, .int 0, .int (-1), .ref a2, .ref a3, .ref a4, .ref a5, .int 0, .int 0, .int 0, .int 0, .int 0, .ref a6])), (a1, .inl (cs 0, 600, .inl (fun _ => 0)))] (fun u => [(a0, .inr (9, [.int 0, .ref a1, .int 20, .int 0, .int 0, .int 0, .int 0, .int (-1), .ref a2, .ref a3, .ref a4, .ref a5, .int 0, .int 0, .int 0, .int 0, .int 0, .ref a6])), (a1, .inl (cs 0, 600, .inl (upd (upd (upd (upd (upd (upd (upd (upd (upd (upd (upd (upd (upd (upd (upd (upd (upd (upd (upd (upd (fun _ => 0) 0 ((x0 >>> (24 &&& 31)) &&& 255)) 1 ((x0 >>> (16 &&& 31)) &&& 255)) 2 ((x0 >>> (8 &&& 31)) &&& 255)) 3 ((x0 >>> (0 &&& 31)) &&& 255)) 4 ((x1 >>> (24 &&& 31)) &&& 255)) 5 ((x1 >>> (16 &&& 31)) &&& 255)) 6 ((x1 >>> (8 &&& 31)) &&& 255)) 7 ((x1 >>> (0 &&& 31)) &&& 255)) 8 ((x2 >>> (24 &&& 31)) &&& 255)) 9 ((x2 >>> (16 &&& 31)) &&& 255)) 10 ((x2 >>> (8 &&& 31)) &&& 255)) 11 ((x2 >>> (0 &&& 31)) &&& 255)) 12 ((x3 >>> (24 &&& 31)) &&& 255)) 13 ((x3 >>> (16 &&& 31)) &&& 255)) 14 ((x3 >>> (8 &&& 31)) &&& 255)) 15 ((x3 >>> (0 &&& 31)) &&& 255)) 16 ((x4 >>> (24 &&& 31)) &&& 255)) 17 ((x4 >>> (16 &&& 31)) &&& 255)) 18 ((x4 >>> (8 &&& 31)) &&& 255)) 19 ((x4 >>> (0 &&& 31)) &&& 255))))]) (20) := by
  refine KI.of cX9_append 8 (some .int) (by decide) rfl (Nat.le_of_ble_eq_true rfl) ?_
  intro p e s m below meth c A ls hx hb hr hml hown hts hlocks hin hP hN hD hA hS hl
  have hown : s.vm.findClass RX9 = some m.cls := hown
  have hl : lv_has ls 8 [(0, .ref a0), (1, .int x0), (2, .int x1), (3, .int x2), (4, .int x3), (5, .int x4)] := hl
  refine lv_aload_n hx hb dX9_append_0 rfl (lv_at hl 0 rfl) ?_
  refine lv_iconst (v := 0) hx hb dX9_append_1 (by decide) ?_
  refine va_put (D := D) (ci := 9) (v := .int 0) (ty := .int) (C := RX9) (T := TX9) (N := 18) hx hb hts iX9_append_9 tyX9 tyX9_ok nmX9 hown hN.1 hP hD hS 0 rfl rfl 0 (by decide) (hts _ mX9_append_1) (fun _ h9 => h9) rfl (by decide +kernel) rfl rfl (Nat.le_of_ble_eq_true rfl) dX9_append_2 (fun H locs hP hD hS => ?_)
  have hP : va_P D vwCl [(a0, .inr (9, [.int 0, .ref a1, .int 0, .int 0, .int 0, .int 0, .int 0, .int (-1), .ref a2, .ref a3, .ref a4, .ref a5, .int 0, .int 0, .int 0, .int 0, .int 0, .ref a6])), (a1, .inl (cs 0, 600, .inl (fun _ => 0)))] H := hP
  have hD : va_D A [(a0, .inr (9, [.int 0, .ref a1, .int 0, .int 0, .int 0, .int 0, .int 0, .int (-1), .ref a2, .ref a3, .ref a4, .ref a5, .int 0, .int 0, .int 0, .int 0, .int 0, .ref a6])), (a1, .inl (cs 0, 600, .inl (fun _ => 0)))] := hD
  refine lv_aload_n hx hb dX9_append_5 rfl (lv_at hl 0 rfl) ?_
  refine va_get (D := D) (ci := 9) (v := .int 0) (C := RX9) (T := TX9) (N := 18) hx hb hts iX9_append_9 hown hN.1 hP 0 rfl rfl 2 (by decide) (hts _ mX9_append_2) (fun _ h9 => h9) rfl dX9_append_6 ?_
  refine lv_bipush (v := 20) hx hb dX9_append_9 (by decide) ?_
  refine lv_iadd hx hb dX9_append_11 ?_
  refine tp_i (20) (by decide) ?_
  refine lv_sipush (v := 600) hx hb dX9_append_12 (by decide) ?_
  refine lv_icmp_le (tgt := 20) hx hb dX9_append_15 (by decide) (fun _ => ?_) (fun c9 => absurd (by decide) c9)
  refine lv_iconst (v := 0) hx hb dX9_append_20 (by decide) ?_
  refine lv_istore (lv' := [(6, .int 0), (0, .ref a0), (1, .int x0), (2, .int x1), (3, .int x2), (4, .int x3), (5, .int x4)]) hx hb dX9_append_21 hl (by decide) rfl (fun ls hl => ?_)
  refine lv_iload hx hb dX9_append_23 (lv_at hl 0 rfl) ?_
  refine lv_bipush (v := 20) hx hb dX9_append_25 (by decide) ?_
  refine lv_icmp_ge (tgt := 120) hx hb dX9_append_27 (by decide) (fun c9 => absurd c9 (by decide)) (fun _ => ?_)
  refine lv_iload hx hb dX9_append_30 (lv_at hl 0 rfl) ?_
  refine lv_iconst (v := 4) hx hb dX9_append_32 (by decide) ?_
  refine lv_icmp_ge (tgt := 40) hx hb dX9_append_33 (by decide) (fun c9 => absurd c9 (by decide)) (fun _ => ?_)
  refine lv_iload_n hx hb dX9_append_36 rfl (lv_at hl 2 rfl) ?_
  refine lv_goto (tgt := 76) hx hb dX9_append_37 (by decide) ?_
  refine lv_istore (lv' := [(7, .int x0), (6, .int 0), (0, .ref a0), (1, .int x0), (2, .int x1), (3, .int x2), (4, .int x3), (5, .int x4)]) hx hb dX9_append_76 hl (by decide) rfl (fun ls hl => ?_)
  refine lv_aload_n hx hb dX9_append_78 rfl (lv_at hl 2 rfl) ?_
  refine va_get (D := D) (ci := 9) (v := .ref a1) (C := RX9) (T := TX9) (N := 18) hx hb hts iX9_append_9 hown hN.1 hP 0 rfl rfl 1 (by decide) (hts _ mX9_append_3) (fun _ h9 => h9) rfl dX9_append_79 ?_
  refine lv_aload_n hx hb dX9_append_82 rfl (lv_at hl 2 rfl) ?_
  refine va_get (D := D) (ci := 9) (v := .int 0) (C := RX9) (T := TX9) (N := 18) hx hb hts iX9_append_9 hown hN.1 hP 0 rfl rfl 2 (by decide) (hts _ mX9_append_2) (fun _ h9 => h9) rfl dX9_append_83 ?_
  refine lv_iload hx hb dX9_append_86 (lv_at hl 0 rfl) ?_
  refine lv_bipush (v := 24) hx hb dX9_append_88 (by decide) ?_
  refine lv_bipush (v := 8) hx hb dX9_append_90 (by decide) ?_
  refine lv_iload hx hb dX9_append_92 (lv_at hl 1 rfl) ?_
  refine lv_iconst (v := 4) hx hb dX9_append_94 (by decide) ?_
  refine lv_irem hx hb dX9_append_95 (by decide) ?_
  refine tp_i (0) (by decide) ?_
  refine lv_imul hx hb dX9_append_96 ?_
  refine tp_i (0) (by decide) ?_
  refine lv_isub hx hb dX9_append_97 ?_
  refine tp_i (24) (by decide) ?_
  refine lv_ishr hx hb dX9_append_98 ?_
  refine lv_sipush (v := 255) hx hb dX9_append_99 (by decide) ?_
  refine lv_iand hx hb dX9_append_102 ?_
  refine st_i (g := (upd (fun _ => 0) 0 ((x0 >>> (24 &&& 31)) &&& 255))) hx hb hN hP hD hS 1 rfl (vin (by decide +kernel)) rfl dX9_append_103 (fun H locs hP hD hS => ?_)
  have hP : va_P D vwCl [(a0, .inr (9, [.int 0, .ref a1, .int 0, .int 0, .int 0, .int 0, .int 0, .int (-1), .ref a2, .ref a3, .ref a4, .ref a5, .int 0, .int 0, .int 0, .int 0, .int 0, .ref a6])), (a1, .inl (cs 0, 600, .inl (upd (fun _ => 0) 0 ((x0 >>> (24 &&& 31)) &&& 255))))] H := hP
  have hD : va_D A [(a0, .inr (9, [.int 0, .ref a1, .int 0, .int 0, .int 0, .int 0, .int 0, .int (-1), .ref a2, .ref a3, .ref a4, .ref a5, .int 0, .int 0, .int 0, .int 0, .int 0, .ref a6])), (a1, .inl (cs 0, 600, .inl (upd (fun _ => 0) 0 ((x0 >>> (24 &&& 31)) &&& 255))))] := hD
  refine lv_aload_n hx hb dX9_append_104 rfl (lv_at hl 2 rfl) ?_
  refine lv_dup hx hb dX9_append_105 rfl ?_
  refine va_get (D := D) (ci := 9) (v := .int 0) (C := RX9) (T := TX9) (N := 18) hx hb hts iX9_append_9 hown hN.1 hP 0 rfl rfl 2 (by decide) (hts _ mX9_append_2) (fun _ h9 => h9) rfl dX9_append_106 ?_
  refine lv_iconst (v := 1) hx hb dX9_append_109 (by decide) ?_
  refine lv_iadd hx hb dX9_append_110 ?_
  refine tp_i (1) (by decide) ?_
  refine va_put (D := D) (ci := 9) (v := .int 1) (ty := .int) (C := RX9) (T := TX9) (N := 18) hx hb hts iX9_append_9 tyX9 tyX9_ok nmX9 hown hN.1 hP hD hS 0 rfl rfl 2 (by decide) (hts _ mX9_append_2) (fun _ h9 => h9) rfl (by decide +kernel) rfl rfl (Nat.le_of_ble_eq_true rfl) dX9_append_111 (fun H locs hP hD hS => ?_)
  have hP : va_P D vwCl [(a0, .inr (9, [.int 0, .ref a1, .int 1, .int 0, .int 0, .int 0, .int 0, .int (-1), .ref a2, .ref a3, .ref a4, .ref a5, .int 0, .int 0, .int 0, .int 0, .int 0, .ref a6])), (a1, .inl (cs 0, 600, .inl (upd (fun _ => 0) 0 ((x0 >>> (24 &&& 31)) &&& 255))))] H := hP
  have hD : va_D A [(a0, .inr (9, [.int 0, .ref a1, .int 1, .int 0, .int 0, .int 0, .int 0, .int (-1), .ref a2, .ref a3, .ref a4, .ref a5, .int 0, .int 0, .int 0, .int 0, .int 0, .ref a6])), (a1, .inl (cs 0, 600, .inl (upd (fun _ => 0) 0 ((x0 >>> (24 &&& 31)) &&& 255))))] := hD
  refine lv_iinc (v := 1) (lv' := [(6, .int 1), (7, .int x0), (0, .ref a0), (1, .int x0), (2, .int x1), (3, .int x2), (4, .int x3), (5, .int x4)]) hx hb dX9_append_114 hl (k := 1) rfl (by decide) (by decide) rfl (fun ls hl => ?_)
  refine lv_goto (tgt := 23) hx hb dX9_append_117 (by decide) ?_
  refine lv_iload hx hb dX9_append_23 (lv_at hl 0 rfl) ?_
  refine lv_bipush (v := 20) hx hb dX9_append_25 (by decide) ?_
  refine lv_icmp_ge (tgt := 120) hx hb dX9_append_27 (by decide) (fun c9 => absurd c9 (by decide)) (fun _ => ?_)
  refine lv_iload hx hb dX9_append_30 (lv_at hl 0 rfl) ?_
  refine lv_iconst (v := 4) hx hb dX9_append_32 (by decide) ?_
  refine lv_icmp_ge (tgt := 40) hx hb dX9_append_33 (by decide) (fun c9 => absurd c9 (by decide)) (fun _ => ?_)
  refine lv_iload_n hx hb dX9_append_36 rfl (lv_at hl 3 rfl) ?_
  refine lv_goto (tgt := 76) hx hb dX9_append_37 (by decide) ?_
  refine lv_istore (lv' := [(7, .int x0), (6, .int 1), (0, .ref a0), (1, .int x0), (2, .int x1), (3, .int x2), (4, .int x3), (5, .int x4)]) hx hb dX9_append_76 hl (by decide) rfl (fun ls hl => ?_)
  refine lv_aload_n hx hb dX9_append_78 rfl (lv_at hl 2 rfl) ?_
  refine va_get (D := D) (ci := 9) (v := .ref a1) (C := RX9) (T := TX9) (N := 18) hx hb hts iX9_append_9 hown hN.1 hP 0 rfl rfl 1 (by decide) (hts _ mX9_append_3) (fun _ h9 => h9) rfl dX9_append_79 ?_
  refine lv_aload_n hx hb dX9_append_82 rfl (lv_at hl 2 rfl) ?_
  refine va_get (D := D) (ci := 9) (v := .int 1) (C := RX9) (T := TX9) (N := 18) hx hb hts iX9_append_9 hown hN.1 hP 0 rfl rfl 2 (by decide) (hts _ mX9_append_2) (fun _ h9 => h9) rfl dX9_append_83 ?_
  refine lv_iload hx hb dX9_append_86 (lv_at hl 0 rfl) ?_
  refine lv_bipush (v := 24) hx hb dX9_append_88 (by decide) ?_
  refine lv_bipush (v := 8) hx hb dX9_append_90 (by decide) ?_
  refine lv_iload hx hb dX9_append_92 (lv_at hl 1 rfl) ?_
  refine lv_iconst (v := 4) hx hb dX9_append_94 (by decide) ?_
  refine lv_irem hx hb dX9_append_95 (by decide) ?_
  refine tp_i (1) (by decide) ?_
  refine lv_imul hx hb dX9_append_96 ?_
  refine tp_i (8) (by decide) ?_
  refine lv_isub hx hb dX9_append_97 ?_
  refine tp_i (16) (by decide) ?_
  refine lv_ishr hx hb dX9_append_98 ?_
  refine lv_sipush (v := 255) hx hb dX9_append_99 (by decide) ?_
  refine lv_iand hx hb dX9_append_102 ?_
  refine st_i (g := (upd (upd (fun _ => 0) 0 ((x0 >>> (24 &&& 31)) &&& 255)) 1 ((x0 >>> (16 &&& 31)) &&& 255))) hx hb hN hP hD hS 1 rfl (vin (by decide +kernel)) rfl dX9_append_103 (fun H locs hP hD hS => ?_)
  have hP : va_P D vwCl [(a0, .inr (9, [.int 0, .ref a1, .int 1, .int 0, .int 0, .int 0, .int 0, .int (-1), .ref a2, .ref a3, .ref a4, .ref a5, .int 0, .int 0, .int 0, .int 0, .int 0, .ref a6])), (a1, .inl (cs 0, 600, .inl (upd (upd (fun _ => 0) 0 ((x0 >>> (24 &&& 31)) &&& 255)) 1 ((x0 >>> (16 &&& 31)) &&& 255))))] H := hP
  have hD : va_D A [(a0, .inr (9, [.int 0, .ref a1, .int 1, .int 0, .int 0, .int 0, .int 0, .int (-1), .ref a2, .ref a3, .ref a4, .ref a5, .int 0, .int 0, .int 0, .int 0, .int 0, .ref a6])), (a1, .inl (cs 0, 600, .inl (upd (upd (fun _ => 0) 0 ((x0 >>> (24 &&& 31)) &&& 255)) 1 ((x0 >>> (16 &&& 31)) &&& 255))))] := hD
  refine lv_aload_n hx hb dX9_append_104 rfl (lv_at hl 2 rfl) ?_
  refine lv_dup hx hb dX9_append_105 rfl ?_
  refine va_get (D := D) (ci := 9) (v := .int 1) (C := RX9) (T := TX9) (N := 18) hx hb hts iX9_append_9 hown hN.1 hP 0 rfl rfl 2 (by decide) (hts _ mX9_append_2) (fun _ h9 => h9) rfl dX9_append_106 ?_
  refine lv_iconst (v := 1) hx hb dX9_append_109 (by decide) ?_
  refine lv_iadd hx hb dX9_append_110 ?_
  refine tp_i (2) (by decide) ?_
  refine va_put (D := D) (ci := 9) (v := .int 2) (ty := .int) (C := RX9) (T := TX9) (N := 18) hx hb hts iX9_append_9 tyX9 tyX9_ok nmX9 hown hN.1 hP hD hS 0 rfl rfl 2 (by decide) (hts _ mX9_append_2) (fun _ h9 => h9) rfl (by decide +kernel) rfl rfl (Nat.le_of_ble_eq_true rfl) dX9_append_111 (fun H locs hP hD hS => ?_)
  have hP : va_P D vwCl [(a0, .inr (9, [.int 0, .ref a1, .int 2, .int 0, .int 0, .int 0, .int 0, .int (-1), .ref a2, .ref a3, .ref a4, .ref a5, .int 0, .int 0, .int 0, .int 0, .int 0, .ref a6])), (a1, .inl (cs 0, 600, .inl (upd (upd (fun _ => 0) 0 ((x0 >>> (24 &&& 31)) &&& 255)) 1 ((x0 >>> (16 &&& 31)) &&& 255))))] H := hP
  have hD : va_D A [(a0, .inr (9, [.int 0, .ref a1, .int 2, .int 0, .int 0, .int 0, .int 0, .int (-1), .ref a2, .ref a3, .ref a4, .ref a5, .int 0, .int 0, .int 0, .int 0, .int 0, .ref a6])), (a1, .inl (cs 0, 600, .inl (upd (upd (fun _ => 0) 0 ((x0 >>> (24 &&& 31)) &&& 255)) 1 ((x0 >>> (16 &&& 31)) &&& 255))))] := hD
  refine lv_iinc (v := 2) (lv' := [(6, .int 2), (7, .int x0), (0, .ref a0), (1, .int x0), (2, .int x1), (3, .int x2), (4, .int x3), (5, .int x4)]) hx hb dX9_append_114 hl (k := 1) rfl (by decide) (by decide) rfl (fun ls hl => ?_)
  refine lv_goto (tgt := 23) hx hb dX9_append_117 (by decide) ?_
  refine lv_iload hx hb dX9_append_23 (lv_at hl 0 rfl) ?_
  refine lv_bipush (v := 20) hx hb dX9_append_25 (by decide) ?_
  refine lv_icmp_ge (tgt := 120) hx hb dX9_append_27 (by decide) (fun c9 => absurd c9 (by decide)) (fun _ => ?_)
  refine lv_iload hx hb dX9_append_30 (lv_at hl 0 rfl) ?_
  refine lv_iconst (v := 4) hx hb dX9_append_32 (by decide) ?_
  refine lv_icmp_ge (tgt := 40) hx hb dX9_append_33 (by decide) (fun c9 => absurd c9 (by decide)) (fun _ => ?_)
  refine lv_iload_n hx hb dX9_append_36 rfl (lv_at hl 3 rfl) ?_
  refine lv_goto (tgt := 76) hx hb dX9_append_37 (by decide) ?_
  refine lv_istore (lv' := [(7, .int x0), (6, .int 2), (0, .ref a0), (1, .int x0), (2, .int x1), (3, .int x2), (4, .int x3), (5, .int x4)]) hx hb dX9_append_76 hl (by decide) rfl (fun ls hl => ?_)
  refine lv_aload_n hx hb dX9_append_78 rfl (lv_at hl 2 rfl) ?_
  refine va_get (D := D) (ci := 9) (v := .ref a1) (C := RX9) (T := TX9) (N := 18) hx hb hts iX9_append_9 hown hN.1 hP 0 rfl rfl 1 (by decide) (hts _ mX9_append_3) (fun _ h9 => h9) rfl dX9_append_79 ?_
  refine lv_aload_n hx hb dX9_append_82 rfl (lv_at hl 2 rfl) ?_
  refine va_get (D := D) (ci := 9) (v := .int 2) (C := RX9) (T := TX9) (N := 18) hx hb hts iX9_append_9 hown hN.1 hP 0 rfl rfl 2 (by decide) (hts _ mX9_append_2) (fun _ h9 => h9) rfl dX9_append_83 ?_
  refine lv_iload hx hb dX9_append_86 (lv_at hl 0 rfl) ?_
  refine lv_bipush (v := 24) hx hb dX9_append_88 (by decide) ?_
  refine lv_bipush (v := 8) hx hb dX9_append_90 (by decide) ?_
  refine lv_iload hx hb dX9_append_92 (lv_at hl 1 rfl) ?_
  refine lv_iconst (v := 4) hx hb dX9_append_94 (by decide) ?_
  refine lv_irem hx hb dX9_append_95 (by decide) ?_
  refine tp_i (2) (by decide) ?_
  refine lv_imul hx hb dX9_append_96 ?_
  refine tp_i (16) (by decide) ?_
  refine lv_isub hx hb dX9_append_97 ?_
  refine tp_i (8) (by decide) ?_
  refine lv_ishr hx hb dX9_append_98 ?_
  refine lv_sipush (v := 255) hx hb dX9_append_99 (by decide) ?_
  refine lv_iand hx hb dX9_append_102 ?_
  refine st_i (g := (upd (upd (upd (fun _ => 0) 0 ((x0 >>> (24 &&& 31)) &&& 255)) 1 ((x0 >>> (16 &&& 31)) &&& 255)) 2 ((x0 >>> (8 &&& 31)) &&& 255))) hx hb hN hP hD hS 1 rfl (vin (by decide +kernel)) rfl dX9_append_103 (fun H locs hP hD hS => ?_)
  have hP : va_P D vwCl [(a0, .inr (9, [.int 0, .ref a1, .int 2, .int 0, .int 0, .int 0, .int 0, .int (-1), .ref a2, .ref a3, .ref a4, .ref a5, .int 0, .int 0, .int 0, .int 0, .int 0, .ref a6])), (a1, .inl (cs 0, 600, .inl (upd (upd (upd (fun _ => 0) 0 ((x0 >>> (24 &&& 31)) &&& 255)) 1 ((x0 >>> (16 &&& 31)) &&& 255)) 2 ((x0 >>> (8 &&& 31)) &&& 255))))] H := hP
  have hD : va_D A [(a0, .inr (9, [.int 0, .ref a1, .int 2, .int 0, .int 0, .int 0, .int 0, .int (-1), .ref a2, .ref a3, .ref a4, .ref a5, .int 0, .int 0, .int 0, .int 0, .int 0, .ref a6])), (a1, .inl (cs 0, 600, .inl (upd (upd (upd (fun _ => 0) 0 ((x0 >>> (24 &&& 31)) &&& 255)) 1 ((x0 >>> (16 &&& 31)) &&& 255)) 2 ((x0 >>> (8 &&& 31)) &&& 255))))] := hD
  refine lv_aload_n hx hb dX9_append_104 rfl (lv_at hl 2 rfl) ?_
  refine lv_dup hx hb dX9_append_105 rfl ?_
  refine va_get (D := D) (ci := 9) (v := .int 2) (C := RX9) (T := TX9) (N := 18) hx hb hts iX9_append_9 hown hN.1 hP 0 rfl rfl 2 (by decide) (hts _ mX9_append_2) (fun _ h9 => h9) rfl dX9_append_106 ?_
  refine lv_iconst (v := 1) hx hb dX9_append_109 (by decide) ?_
  refine lv_iadd hx hb dX9_append_110 ?_
  refine tp_i (3) (by decide) ?_
  refine va_put (D := D) (ci := 9) (v := .int 3) (ty := .int) (C := RX9) (T := TX9) (N := 18) hx hb hts iX9_append_9 tyX9 tyX9_ok nmX9 hown hN.1 hP hD hS 0 rfl rfl 2 (by decide) (hts _ mX9_append_2) (fun _ h9 => h9) rfl (by decide +kernel) rfl rfl (Nat.le_of_ble_eq_true rfl) dX9_append_111 (fun H locs hP hD hS => ?_)
  have hP : va_P D vwCl [(a0, .inr (9, [.int 0, .ref a1, .int 3, .int 0, .int 0, .int 0, .int 0, .int (-1), .ref a2, .ref a3, .ref a4, .ref a5, .int 0, .int 0, .int 0, .int 0, .int 0, .ref a6])), (a1, .inl (cs 0, 600, .inl (upd (upd (upd (fun _ => 0) 0 ((x0 >>> (24 &&& 31)) &&& 255)) 1 ((x0 >>> (16 &&& 31)) &&& 255)) 2 ((x0 >>> (8 &&& 31)) &&& 255))))] H := hP
  have hD : va_D A [(a0, .inr (9, [.int 0, .ref a1, .int 3, .int 0, .int 0, .int 0, .int 0, .int (-1), .ref a2, .ref a3, .ref a4, .ref a5, .int 0, .int 0, .int 0, .int 0, .int 0, .ref a6])), (a1, .inl (cs 0, 600, .inl (upd (upd (upd (fun _ => 0) 0 ((x0 >>> (24 &&& 31)) &&& 255)) 1 ((x0 >>> (16 &&& 31)) &&& 255)) 2 ((x0 >>> (8 &&& 31)) &&& 255))))] := hD
  refine lv_iinc (v := 3) (lv' := [(6, .int 3), (7, .int x0), (0, .ref a0), (1, .int x0), (2, .int x1), (3, .int x2), (4, .int x3), (5, .int x4)]) hx hb dX9_append_114 hl (k := 1) rfl (by decide) (by decide) rfl (fun ls hl => ?_)
  refine lv_goto (tgt := 23) hx hb dX9_append_117 (by decide) ?_
  refine lv_iload hx hb dX9_append_23 (lv_at hl 0 rfl) ?_
  refine lv_bipush (v := 20) hx hb dX9_append_25 (by decide) ?_
  refine lv_icmp_ge (tgt := 120) hx hb dX9_append_27 (by decide) (fun c9 => absurd c9 (by decide)) (fun _ => ?_)
  refine lv_iload hx hb dX9_append_30 (lv_at hl 0 rfl) ?_
  refine lv_iconst (v := 4) hx hb dX9_append_32 (by decide) ?_
  refine lv_icmp_ge (tgt := 40) hx hb dX9_append_33 (by decide) (fun c9 => absurd c9 (by decide)) (fun _ => ?_)
  refine lv_iload_n hx hb dX9_append_36 rfl (lv_at hl 3 rfl) ?_
  refine lv_goto (tgt := 76) hx hb dX9_append_37 (by decide) ?_
  refine lv_istore (lv' := [(7, .int x0), (6, .int 3), (0, .ref a0), (1, .int x0), (2, .int x1), (3, .int x2), (4, .int x3), (5, .int x4)]) hx hb dX9_append_76 hl (by decide) rfl (fun ls hl => ?_)
  refine lv_aload_n hx hb dX9_append_78 rfl (lv_at hl 2 rfl) ?_
  refine va_get (D := D) (ci := 9) (v := .ref a1) (C := RX9) (T := TX9) (N := 18) hx hb hts iX9_append_9 hown hN.1 hP 0 rfl rfl 1 (by decide) (hts _ mX9_append_3) (fun _ h9 => h9) rfl dX9_append_79 ?_
  refine lv_aload_n hx hb dX9_append_82 rfl (lv_at hl 2 rfl) ?_
  refine va_get (D := D) (ci := 9) (v := .int 3) (C := RX9) (T := TX9) (N := 18) hx hb hts iX9_append_9 hown hN.1 hP 0 rfl rfl 2 (by decide) (hts _ mX9_append_2) (fun _ h9 => h9) rfl dX9_append_83 ?_
  refine lv_iload hx hb dX9_append_86 (lv_at hl 0 rfl) ?_
  refine lv_bipush (v := 24) hx hb dX9_append_88 (by decide) ?_
  refine lv_bipush (v := 8) hx hb dX9_append_90 (by decide) ?_
  refine lv_iload hx hb dX9_append_92 (lv_at hl 1 rfl) ?_
  refine lv_iconst (v := 4) hx hb dX9_append_94 (by decide) ?_
  refine lv_irem hx hb dX9_append_95 (by decide) ?_
  refine tp_i (3) (by decide) ?_
  refine lv_imul hx hb dX9_append_96 ?_
  refine tp_i (24) (by decide) ?_
  refine lv_isub hx hb dX9_append_97 ?_
  refine tp_i (0) (by decide) ?_
  refine lv_ishr hx hb dX9_append_98 ?_
  refine lv_sipush (v := 255) hx hb dX9_append_99 (by decide) ?_
  refine lv_iand hx hb dX9_append_102 ?_
  refine st_i (g := (upd (upd (upd (upd (fun _ => 0) 0 ((x0 >>> (24 &&& 31)) &&& 255)) 1 ((x0 >>> (16 &&& 31)) &&& 255)) 2 ((x0 >>> (8 &&& 31)) &&& 255)) 3 ((x0 >>> (0 &&& 31)) &&& 255))) hx hb hN hP hD hS 1 rfl (vin (by decide +kernel)) rfl dX9_append_103 (fun H locs hP hD hS => ?_)
  have hP : va_P D vwCl [(a0, .inr (9, [.int 0, .ref a1, .int 3, .int 0, .int 0, .int 0, .int 0, .int (-1), .ref a2, .ref a3, .ref a4, .ref a5, .int 0, .int 0, .int 0, .int 0, .int 0, .ref a6])), (a1, .inl (cs 0, 600, .inl (upd (upd (upd (upd (fun _ => 0) 0 ((x0 >>> (24 &&& 31)) &&& 255)) 1 ((x0 >>> (16 &&& 31)) &&& 255)) 2 ((x0 >>> (8 &&& 31)) &&& 255)) 3 ((x0 >>> (0 &&& 31)) &&& 255))))] H := hP
  have hD : va_D A [(a0, .inr (9, [.int 0, .ref a1, .int 3, .int 0, .int 0, .int 0, .int 0, .int (-1), .ref a2, .ref a3, .ref a4, .ref a5, .int 0, .int 0, .int 0, .int 0, .int 0, .ref a6])), (a1, .inl (cs 0, 600, .inl (upd (upd (upd (upd (fun _ => 0) 0 ((x0 >>> (24 &&& 31)) &&& 255)) 1 ((x0 >>> (16 &&& 31)) &&& 255)) 2 ((x0 >>> (8 &&& 31)) &&& 255)) 3 ((x0 >>> (0 &&& 31)) &&& 255))))] := hD
  refine lv_aload_n hx hb dX9_append_104 rfl (lv_at hl 2 rfl) ?_
  refine lv_dup hx hb dX9_append_105 rfl ?_
  refine va_get (D := D) (ci := 9) (v := .int 3) (C := RX9) (T := TX9) (N := 18) hx hb hts iX9_append_9 hown hN.1 hP 0 rfl rfl 2 (by decide) (hts _ mX9_append_2) (fun _ h9 => h9) rfl dX9_append_106 ?_
  refine lv_iconst (v := 1) hx hb dX9_append_109 (by decide) ?_
  refine lv_iadd hx hb dX9_append_110 ?_
  refine tp_i (4) (by decide) ?_
  refine va_put (D := D) (ci := 9) (v := .int 4) (ty := .int) (C := RX9) (T := TX9) (N := 18) hx hb hts iX9_append_9 tyX9 tyX9_ok nmX9 hown hN.1 hP hD hS 0 rfl rfl 2 (by decide) (hts _ mX9_append_2) (fun _ h9 => h9) rfl (by decide +kernel) rfl rfl (Nat.le_of_ble_eq_true rfl) dX9_append_111 (fun H locs hP hD hS => ?_)
  have hP : va_P D vwCl [(a0, .inr (9, [.int 0, .ref a1, .int 4, .int 0, .int 0, .int 0, .int 0, .int (-1), .ref a2, .ref a3, .ref a4, .ref a5, .int 0, .int 0, .int 0, .int 0, .int 0, .ref a6])), (a1, .inl (cs 0, 600, .inl (upd (upd (upd (upd (fun _ => 0) 0 ((x0 >>> (24 &&& 31)) &&& 255)) 1 ((x0 >>> (16 &&& 31)) &&& 255)) 2 ((x0 >>> (8 &&& 31)) &&& 255)) 3 ((x0 >>> (0 &&& 31)) &&& 255))))] H := hP
  have hD : va_D A [(a0, .inr (9, [.int 0, .ref a1, .int 4, .int 0, .int 0, .int 0, .int 0, .int (-1), .ref a2, .ref a3, .ref a4, .ref a5, .int 0, .int 0, .int 0, .int 0, .int 0, .ref a6])), (a1, .inl (cs 0, 600, .inl (upd (upd (upd (upd (fun _ => 0) 0 ((x0 >>> (24 &&& 31)) &&& 255)) 1 ((x0 >>> (16 &&& 31)) &&& 255)) 2 ((x0 >>> (8 &&& 31)) &&& 255)) 3 ((x0 >>> (0 &&& 31)) &&& 255))))] := hD
  refine lv_iinc (v := 4) (lv' := [(6, .int 4), (7, .int x0), (0, .ref a0), (1, .int x0), (2, .int x1), (3, .int x2), (4, .int x3), (5, .int x4)]) hx hb dX9_append_114 hl (k := 1) rfl (by decide) (by decide) rfl (fun ls hl => ?_)
  refine lv_goto (tgt := 23) hx hb dX9_append_117 (by decide) ?_
  refine lv_iload hx hb dX9_append_23 (lv_at hl 0 rfl) ?_
  refine lv_bipush (v := 20) hx hb dX9_append_25 (by decide) ?_
  refine lv_icmp_ge (tgt := 120) hx hb dX9_append_27 (by decide) (fun c9 => absurd c9 (by decide)) (fun _ => ?_)
  refine lv_iload hx hb dX9_append_30 (lv_at hl 0 rfl) ?_
  refine lv_iconst (v := 4) hx hb dX9_append_32 (by decide) ?_
  refine lv_icmp_ge (tgt := 40) hx hb dX9_append_33 (by decide) (fun _ => ?_) (fun c9 => absurd (by decide) c9)
  refine lv_iload hx hb dX9_append_40 (lv_at hl 0 rfl) ?_
  refine lv_bipush (v := 8) hx hb dX9_append_42 (by decide) ?_
  refine lv_icmp_ge (tgt := 51) hx hb dX9_append_44 (by decide) (fun c9 => absurd c9 (by decide)) (fun _ => ?_)
  refine lv_iload_n hx hb dX9_append_47 rfl (lv_at hl 4 rfl) ?_
  refine lv_goto (tgt := 76) hx hb dX9_append_48 (by decide) ?_
  refine lv_istore (lv' := [(7, .int x1), (6, .int 4), (0, .ref a0), (1, .int x0), (2, .int x1), (3, .int x2), (4, .int x3), (5, .int x4)]) hx hb dX9_append_76 hl (by decide) rfl (fun ls hl => ?_)
  refine lv_aload_n hx hb dX9_append_78 rfl (lv_at hl 2 rfl) ?_
  refine va_get (D := D) (ci := 9) (v := .ref a1) (C := RX9) (T := TX9) (N := 18) hx hb hts iX9_append_9 hown hN.1 hP 0 rfl rfl 1 (by decide) (hts _ mX9_append_3) (fun _ h9 => h9) rfl dX9_append_79 ?_
  refine lv_aload_n hx hb dX9_append_82 rfl (lv_at hl 2 rfl) ?_
  refine va_get (D := D) (ci := 9) (v := .int 4) (C := RX9) (T := TX9) (N := 18) hx hb hts iX9_append_9 hown hN.1 hP 0 rfl rfl 2 (by decide) (hts _ mX9_append_2) (fun _ h9 => h9) rfl dX9_append_83 ?_
  refine lv_iload hx hb dX9_append_86 (lv_at hl 0 rfl) ?_
  refine lv_bipush (v := 24) hx hb dX9_append_88 (by decide) ?_
  refine lv_bipush (v := 8) hx hb dX9_append_90 (by decide) ?_
  refine lv_iload hx hb dX9_append_92 (lv_at hl 1 rfl) ?_
  refine lv_iconst (v := 4) hx hb dX9_append_94 (by decide) ?_
  refine lv_irem hx hb dX9_append_95 (by decide) ?_
  refine tp_i (0) (by decide) ?_
  refine lv_imul hx hb dX9_append_96 ?_
  refine tp_i (0) (by decide) ?_
  refine lv_isub hx hb dX9_append_97 ?_
  refine tp_i (24) (by decide) ?_
  refine lv_ishr hx hb dX9_append_98 ?_
  refine lv_sipush (v := 255) hx hb dX9_append_99 (by decide) ?_
  refine lv_iand hx hb dX9_append_102 ?_
  refine st_i (g := (upd (upd (upd (upd (upd (fun _ => 0) 0 ((x0 >>> (24 &&& 31)) &&& 255)) 1 ((x0 >>> (16 &&& 31)) &&& 255)) 2 ((x0 >>> (8 &&& 31)) &&& 255)) 3 ((x0 >>> (0 &&& 31)) &&& 255)) 4 ((x1 >>> (24 &&& 31)) &&& 255))) hx hb hN hP hD hS 1 rfl (vin (by decide +kernel)) rfl dX9_append_103 (fun H locs hP hD hS => ?_)
  have hP : va_P D vwCl [(a0, .inr (9, [.int 0, .ref a1, .int 4, .int 0, .int 0, .int 0, .int 0, .int (-1), .ref a2, .ref a3, .ref a4, .ref a5, .int 0, .int 0, .int 0, .int 0, .int 0, .ref a6])), (a1, .inl (cs 0, 600, .inl (upd (upd (upd (upd (upd (fun _ => 0) 0 ((x0 >>> (24 &&& 31)) &&& 255)) 1 ((x0 >>> (16 &&& 31)) &&& 255)) 2 ((x0 >>> (8 &&& 31)) &&& 255)) 3 ((x0 >>> (0 &&& 31)) &&& 255)) 4 ((x1 >>> (24 &&& 31)) &&& 255))))] H := hP
  have hD : va_D A [(a0, .inr (9, [.int 0, .ref a1, .int 4, .int 0, .int 0, .int 0, .int 0, .int (-1), .ref a2, .ref a3, .ref a4, .ref a5, .int 0, .int 0, .int 0, .int 0, .int 0, .ref a6])), (a1, .inl (cs 0, 600, .inl (upd (upd (upd (upd (upd (fun _ => 0) 0 ((x0 >>> (24 &&& 31)) &&& 255)) 1 ((x0 >>> (16 &&& 31)) &&& 255)) 2 ((x0 >>> (8 &&& 31)) &&& 255)) 3 ((x0 >>> (0 &&& 31)) &&& 255)) 4 ((x1 >>> (24 &&& 31)) &&& 255))))] := hD
  refine lv_aload_n hx hb dX9_append_104 rfl (lv_at hl 2 rfl) ?_
  refine lv_dup hx hb dX9_append_105 rfl ?_
  refine va_get (D := D) (ci := 9) (v := .int 4) (C := RX9) (T := TX9) (N := 18) hx hb hts iX9_append_9 hown hN.1 hP 0 rfl rfl 2 (by decide) (hts _ mX9_append_2) (fun _ h9 => h9) rfl dX9_append_106 ?_
  refine lv_iconst (v := 1) hx hb dX9_append_109 (by decide) ?_
  refine lv_iadd hx hb dX9_append_110 ?_
  refine tp_i (5) (by decide) ?_
  refine va_put (D := D) (ci := 9) (v := .int 5) (ty := .int) (C := RX9) (T := TX9) (N := 18) hx hb hts iX9_append_9 tyX9 tyX9_ok nmX9 hown hN.1 hP hD hS 0 rfl rfl 2 (by decide) (hts _ mX9_append_2) (fun _ h9 => h9) rfl (by decide +kernel) rfl rfl (Nat.le_of_ble_eq_true rfl) dX9_append_111 (fun H locs hP hD hS => ?_)
  have hP : va_P D vwCl [(a0, .inr (9, [.int 0, .ref a1, .int 5, .int 0, .int 0, .int 0, .int 0, .int (-1), .ref a2, .ref a3, .ref a4, .ref a5, .int 0, .int 0, .int 0, .int 0, .int 0, .ref a6])), (a1, .inl (cs 0, 600, .inl (upd (upd (upd (upd (upd (fun _ => 0) 0 ((x0 >>> (24 &&& 31)) &&& 255)) 1 ((x0 >>> (16 &&& 31)) &&& 255)) 2 ((x0 >>> (8 &&& 31)) &&& 255)) 3 ((x0 >>> (0 &&& 31)) &&& 255)) 4 ((x1 >>> (24 &&& 31)) &&& 255))))] H := hP
  have hD : va_D A [(a0, .inr (9, [.int 0, .ref a1, .int 5, .int 0, .int 0, .int 0, .int 0, .int (-1), .ref a2, .ref a3, .ref a4, .ref a5, .int 0, .int 0, .int 0, .int 0, .int 0, .ref a6])), (a1, .inl (cs 0, 600, .inl (upd (upd (upd (upd (upd (fun _ => 0) 0 ((x0 >>> (24 &&& 31)) &&& 255)) 1 ((x0 >>> (16 &&& 31)) &&& 255)) 2 ((x0 >>> (8 &&& 31)) &&& 255)) 3 ((x0 >>> (0 &&& 31)) &&& 255)) 4 ((x1 >>> (24 &&& 31)) &&& 255))))] := hD
  refine lv_iinc (v := 5) (lv' := [(6, .int 5), (7, .int x1), (0, .ref a0), (1, .int x0), (2, .int x1), (3, .int x2), (4, .int x3), (5, .int x4)]) hx hb dX9_append_114 hl (k := 1) rfl (by decide) (by decide) rfl (fun ls hl => ?_)
  refine lv_goto (tgt := 23) hx hb dX9_append_117 (by decide) ?_
  refine lv_iload hx hb dX9_append_23 (lv_at hl 0 rfl) ?_
  refine lv_bipush (v := 20) hx hb dX9_append_25 (by decide) ?_
  refine lv_icmp_ge (tgt := 120) hx hb dX9_append_27 (by decide) (fun c9 => absurd c9 (by decide)) (fun _ => ?_)
  refine lv_iload hx hb dX9_append_30 (lv_at hl 0 rfl) ?_
  refine lv_iconst (v := 4) hx hb dX9_append_32 (by decide) ?_
  refine lv_icmp_ge (tgt := 40) hx hb dX9_append_33 (by decide) (fun _ => ?_) (fun c9 => absurd (by decide) c9)
  refine lv_iload hx hb dX9_append_40 (lv_at hl 0 rfl) ?_
  refine lv_bipush (v := 8) hx hb dX9_append_42 (by decide) ?_
  refine lv_icmp_ge (tgt := 51) hx hb dX9_append_44 (by decide) (fun c9 => absurd c9 (by decide)) (fun _ => ?_)
  refine lv_iload_n hx hb dX9_append_47 rfl (lv_at hl 4 rfl) ?_
  refine lv_goto (tgt := 76) hx hb dX9_append_48 (by decide) ?_
  refine lv_istore (lv' := [(7, .int x1), (6, .int 5), (0, .ref a0), (1, .int x0), (2, .int x1), (3, .int x2), (4, .int x3), (5, .int x4)]) hx hb dX9_append_76 hl (by decide) rfl (fun ls hl => ?_)
  refine lv_aload_n hx hb dX9_append_78 rfl (lv_at hl 2 rfl) ?_
  refine va_get (D := D) (ci := 9) (v := .ref a1) (C := RX9) (T := TX9) (N := 18) hx hb hts iX9_append_9 hown hN.1 hP 0 rfl rfl 1 (by decide) (hts _ mX9_append_3) (fun _ h9 => h9) rfl dX9_append_79 ?_
  refine lv_aload_n hx hb dX9_append_82 rfl (lv_at hl 2 rfl) ?_
  refine va_get (D := D) (ci := 9) (v := .int 5) (C := RX9) (T := TX9) (N := 18) hx hb hts iX9_append_9 hown hN.1 hP 0 rfl rfl 2 (by decide) (hts _ mX9_append_2) (fun _ h9 => h9) rfl dX9_append_83 ?_
  refine lv_iload hx hb dX9_append_86 (lv_at hl 0 rfl) ?_
  refine lv_bipush (v := 24) hx hb dX9_append_88 (by decide) ?_
  refine lv_bipush (v := 8) hx hb dX9_append_90 (by decide) ?_
  refine lv_iload hx hb dX9_append_92 (lv_at hl 1 rfl) ?_
  refine lv_iconst (v := 4) hx hb dX9_append_94 (by decide) ?_
  refine lv_irem hx hb dX9_append_95 (by decide) ?_
  refine tp_i (1) (by decide) ?_
  refine lv_imul hx hb dX9_append_96 ?_
  refine tp_i (8) (by decide) ?_
  refine lv_isub hx hb dX9_append_97 ?_
  refine tp_i (16) (by decide) ?_
  refine lv_ishr hx hb dX9_append_98 ?_
  refine lv_sipush (v := 255) hx hb dX9_append_99 (by decide) ?_
  refine lv_iand hx hb dX9_append_102 ?_
  refine st_i (g := (upd (upd (upd (upd (upd (upd (fun _ => 0) 0 ((x0 >>> (24 &&& 31)) &&& 255)) 1 ((x0 >>> (16 &&& 31)) &&& 255)) 2 ((x0 >>> (8 &&& 31)) &&& 255)) 3 ((x0 >>> (0 &&& 31)) &&& 255)) 4 ((x1 >>> (24 &&& 31)) &&& 255)) 5 ((x1 >>> (16 &&& 31)) &&& 255))) hx hb hN hP hD hS 1 rfl (vin (by decide +kernel)) rfl dX9_append_103 (fun H locs hP hD hS => ?_)
  have hP : va_P D vwCl [(a0, .inr (9, [.int 0, .ref a1, .int 5, .int 0, .int 0, .int 0, .int 0, .int (-1), .ref a2, .ref a3, .ref a4, .ref a5, .int 0, .int 0, .int 0, .int 0, .int 0, .ref a6])), (a1, .inl (cs 0, 600, .inl (upd (upd (upd (upd (upd (upd (fun _ => 0) 0 ((x0 >>> (24 &&& 31)) &&& 255)) 1 ((x0 >>> (16 &&& 31)) &&& 255)) 2 ((x0 >>> (8 &&& 31)) &&& 255)) 3 ((x0 >>> (0 &&& 31)) &&& 255)) 4 ((x1 >>> (24 &&& 31)) &&& 255)) 5 ((x1 >>> (16 &&& 31)) &&& 255))))] H := hP
  have hD : va_D A [(a0, .inr (9, [.int 0, .ref a1, .int 5, .int 0, .int 0, .int 0, .int 0, .int (-1), .ref a2, .ref a3, .ref a4, .ref a5, .int 0, .int 0, .int 0, .int 0, .int 0, .ref a6])), (a1, .inl (cs 0, 600, .inl (upd (upd (upd (upd (upd (upd (fun _ => 0) 0 ((x0 >>> (24 &&& 31)) &&& 255)) 1 ((x0 >>> (16 &&& 31)) &&& 255)) 2 ((x0 >>> (8 &&& 31)) &&& 255)) 3 ((x0 >>> (0 &&& 31)) &&& 255)) 4 ((x1 >>> (24 &&& 31)) &&& 255)) 5 ((x1 >>> (16 &&& 31)) &&& 255))))] := hD
  refine lv_aload_n hx hb dX9_append_104 rfl (lv_at hl 2 rfl) ?_
  refine lv_dup hx hb dX9_append_105 rfl ?_
  refine va_get (D := D) (ci := 9) (v := .int 5) (C := RX9) (T := TX9) (N := 18) hx hb hts iX9_append_9 hown hN.1 hP 0 rfl rfl 2 (by decide) (hts _ mX9_append_2) (fun _ h9 => h9) rfl dX9_append_106 ?_
  refine lv_iconst (v := 1) hx hb dX9_append_109 (by decide) ?_
  refine lv_iadd hx hb dX9_append_110 ?_
  refine tp_i (6) (by decide) ?_
  refine va_put (D := D) (ci := 9) (v := .int 6) (ty := .int) (C := RX9) (T := TX9) (N := 18) hx hb hts iX9_append_9 tyX9 tyX9_ok nmX9 hown hN.1 hP hD hS 0 rfl rfl 2 (by decide) (hts _ mX9_append_2) (fun _ h9 => h9) rfl (by decide +kernel) rfl rfl (Nat.le_of_ble_eq_true rfl) dX9_append_111 (fun H locs hP hD hS => ?_)
  have hP : va_P D vwCl [(a0, .inr (9, [.int 0, .ref a1, .int 6, .int 0, .int 0, .int 0, .int 0, .int (-1), .ref a2, .ref a3, .ref a4, .ref a5, .int 0, .int 0, .int 0, .int 0, .int 0, .ref a6])), (a1, .inl (cs 0, 600, .inl (upd (upd (upd (upd (upd (upd (fun _ => 0) 0 ((x0 >>> (24 &&& 31)) &&& 255)) 1 ((x0 >>> (16 &&& 31)) &&& 255)) 2 ((x0 >>> (8 &&& 31)) &&& 255)) 3 ((x0 >>> (0 &&& 31)) &&& 255)) 4 ((x1 >>> (24 &&& 31)) &&& 255)) 5 ((x1 >>> (16 &&& 31)) &&& 255))))] H := hP
  have hD : va_D A [(a0, .inr (9, [.int 0, .ref a1, .int 6, .int 0, .int 0, .int 0, .int 0, .int (-1), .ref a2, .ref a3, .ref a4, .ref a5, .int 0, .int 0, .int 0, .int 0, .int 0, .ref a6])), (a1, .inl (cs 0, 600, .inl (upd (upd (upd (upd (upd (upd (fun _ => 0) 0 ((x0 >>> (24 &&& 31)) &&& 255)) 1 ((x0 >>> (16 &&& 31)) &&& 255)) 2 ((x0 >>> (8 &&& 31)) &&& 255)) 3 ((x0 >>> (0 &&& 31)) &&& 255)) 4 ((x1 >>> (24 &&& 31)) &&& 255)) 5 ((x1 >>> (16 &&& 31)) &&& 255))))] := hD
  refine lv_iinc (v := 6) (lv' := [(6, .int 6), (7, .int x1), (0, .ref a0), (1, .int x0), (2, .int x1), (3, .int x2), (4, .int x3), (5, .int x4)]) hx hb dX9_append_114 hl (k := 1) rfl (by decide) (by decide) rfl (fun ls hl => ?_)
  refine lv_goto (tgt := 23) hx hb dX9_append_117 (by decide) ?_
  refine lv_iload hx hb dX9_append_23 (lv_at hl 0 rfl) ?_
  refine lv_bipush (v := 20) hx hb dX9_append_25 (by decide) ?_
  refine lv_icmp_ge (tgt := 120) hx hb dX9_append_27 (by decide) (fun c9 => absurd c9 (by decide)) (fun _ => ?_)
  refine lv_iload hx hb dX9_append_30 (lv_at hl 0 rfl) ?_
  refine lv_iconst (v := 4) hx hb dX9_append_32 (by decide) ?_
  refine lv_icmp_ge (tgt := 40) hx hb dX9_append_33 (by decide) (fun _ => ?_) (fun c9 => absurd (by decide) c9)
  refine lv_iload hx hb dX9_append_40 (lv_at hl 0 rfl) ?_
  refine lv_bipush (v := 8) hx hb dX9_append_42 (by decide) ?_
  refine lv_icmp_ge (tgt := 51) hx hb dX9_append_44 (by decide) (fun c9 => absurd c9 (by decide)) (fun _ => ?_)
  refine lv_iload_n hx hb dX9_append_47 rfl (lv_at hl 4 rfl) ?_
  refine lv_goto (tgt := 76) hx hb dX9_append_48 (by decide) ?_
  refine lv_istore (lv' := [(7, .int x1), (6, .int 6), (0, .ref a0), (1, .int x0), (2, .int x1), (3, .int x2), (4, .int x3), (5, .int x4)]) hx hb dX9_append_76 hl (by decide) rfl (fun ls hl => ?_)
  refine lv_aload_n hx hb dX9_append_78 rfl (lv_at hl 2 rfl) ?_
  refine va_get (D := D) (ci := 9) (v := .ref a1) (C := RX9) (T := TX9) (N := 18) hx hb hts iX9_append_9 hown hN.1 hP 0 rfl rfl 1 (by decide) (hts _ mX9_append_3) (fun _ h9 => h9) rfl dX9_append_79 ?_
  refine lv_aload_n hx hb dX9_append_82 rfl (lv_at hl 2 rfl) ?_
  refine va_get (D := D) (ci := 9) (v := .int 6) (C := RX9) (T := TX9) (N := 18) hx hb hts iX9_append_9 hown hN.1 hP 0 rfl rfl 2 (by decide) (hts _ mX9_append_2) (fun _ h9 => h9) rfl dX9_append_83 ?_
  refine lv_iload hx hb dX9_append_86 (lv_at hl 0 rfl) ?_
  refine lv_bipush (v := 24) hx hb dX9_append_88 (by decide) ?_
  refine lv_bipush (v := 8) hx hb dX9_append_90 (by decide) ?_
  refine lv_iload hx hb dX9_append_92 (lv_at hl 1 rfl) ?_
  refine lv_iconst (v := 4) hx hb dX9_append_94 (by decide) ?_
  refine lv_irem hx hb dX9_append_95 (by decide) ?_
  refine tp_i (2) (by decide) ?_
  refine lv_imul hx hb dX9_append_96 ?_
  refine tp_i (16) (by decide) ?_
  refine lv_isub hx hb dX9_append_97 ?_
  refine tp_i (8) (by decide) ?_
  refine lv_ishr hx hb dX9_append_98 ?_
  refine lv_sipush (v := 255) hx hb dX9_append_99 (by decide) ?_
  refine lv_iand hx hb dX9_append_102 ?_
  refine st_i (g := (upd (upd (upd (upd (upd (upd (upd (fun _ => 0) 0 ((x0 >>> (24 &&& 31)) &&& 255)) 1 ((x0 >>> (16 &&& 31)) &&& 255)) 2 ((x0 >>> (8 &&& 31)) &&& 255)) 3 ((x0 >>> (0 &&& 31)) &&& 255)) 4 ((x1 >>> (24 &&& 31)) &&& 255)) 5 ((x1 >>> (16 &&& 31)) &&& 255)) 6 ((x1 >>> (8 &&& 31)) &&& 255))) hx hb hN hP hD hS 1 rfl (vin (by decide +kernel)) rfl dX9_append_103 (fun H locs hP hD hS => ?_)
  have hP : va_P D vwCl [(a0, .inr (9, [.int 0, .ref a1, .int 6, .int 0, .int 0, .int 0, .int 0, .int (-1), .ref a2, .ref a3, .ref a4, .ref a5, .int 0, .int 0, .int 0, .int 0, .int 0, .ref a6])), (a1, .inl (cs 0, 600, .inl (upd (upd (upd (upd (upd (upd (upd (fun _ => 0) 0 ((x0 >>> (24 &&& 31)) &&& 255)) 1 ((x0 >>> (16 &&& 31)) &&& 255)) 2 ((x0 >>> (8 &&& 31)) &&& 255)) 3 ((x0 >>> (0 &&& 31)) &&& 255)) 4 ((x1 >>> (24 &&& 31)) &&& 255)) 5 ((x1 >>> (16 &&& 31)) &&& 255)) 6 ((x1 >>> (8 &&& 31)) &&& 255))))] H := hP
  have hD : va_D A [(a0, .inr (9, [.int 0, .ref a1, .int 6, .int 0, .int 0, .int 0, .int 0, .int (-1), .ref a2, .ref a3, .ref a4, .ref a5, .int 0, .int 0, .int 0, .int 0, .int 0, .ref a6])), (a1, .inl (cs 0, 600, .inl (upd (upd (upd (upd (upd (upd (upd (fun _ => 0) 0 ((x0 >>> (24 &&& 31)) &&& 255)) 1 ((x0 >>> (16 &&& 31)) &&& 255)) 2 ((x0 >>> (8 &&& 31)) &&& 255)) 3 ((x0 >>> (0 &&& 31)) &&& 255)) 4 ((x1 >>> (24 &&& 31)) &&& 255)) 5 ((x1 >>> (16 &&& 31)) &&& 255)) 6 ((x1 >>> (8 &&& 31)) &&& 255))))] := hD
  refine lv_aload_n hx hb dX9_append_104 rfl (lv_at hl 2 rfl) ?_
  refine lv_dup hx hb dX9_append_105 rfl ?_
  refine va_get (D := D) (ci := 9) (v := .int 6) (C := RX9) (T := TX9) (N := 18) hx hb hts iX9_append_9 hown hN.1 hP 0 rfl rfl 2 (by decide) (hts _ mX9_append_2) (fun _ h9 => h9) rfl dX9_append_106 ?_
  refine lv_iconst (v := 1) hx hb dX9_append_109 (by decide) ?_
  refine lv_iadd hx hb dX9_append_110 ?_
  refine tp_i (7) (by decide) ?_
  refine va_put (D := D) (ci := 9) (v := .int 7) (ty := .int) (C := RX9) (T := TX9) (N := 18) hx hb hts iX9_append_9 tyX9 tyX9_ok nmX9 hown hN.1 hP hD hS 0 rfl rfl 2 (by decide) (hts _ mX9_append_2) (fun _ h9 => h9) rfl (by decide +kernel) rfl rfl (Nat.le_of_ble_eq_true rfl) dX9_append_111 (fun H locs hP hD hS => ?_)
  have hP : va_P D vwCl [(a0, .inr (9, [.int 0, .ref a1, .int 7, .int 0, .int 0, .int 0, .int 0, .int (-1), .ref a2, .ref a3, .ref a4, .ref a5, .int 0, .int 0, .int 0, .int 0, .int 0, .ref a6])), (a1, .inl (cs 0, 600, .inl (upd (upd (upd (upd (upd (upd (upd (fun _ => 0) 0 ((x0 >>> (24 &&& 31)) &&& 255)) 1 ((x0 >>> (16 &&& 31)) &&& 255)) 2 ((x0 >>> (8 &&& 31)) &&& 255)) 3 ((x0 >>> (0 &&& 31)) &&& 255)) 4 ((x1 >>> (24 &&& 31)) &&& 255)) 5 ((x1 >>> (16 &&& 31)) &&& 255)) 6 ((x1 >>> (8 &&& 31)) &&& 255))))] H := hP
  have hD : va_D A [(a0, .inr (9, [.int 0, .ref a1, .int 7, .int 0, .int 0, .int 0, .int 0, .int (-1), .ref a2, .ref a3, .ref a4, .ref a5, .int 0, .int 0, .int 0, .int 0, .int 0, .ref a6])), (a1, .inl (cs 0, 600, .inl (upd (upd (upd (upd (upd (upd (upd (fun _ => 0) 0 ((x0 >>> (24 &&& 31)) &&& 255)) 1 ((x0 >>> (16 &&& 31)) &&& 255)) 2 ((x0 >>> (8 &&& 31)) &&& 255)) 3 ((x0 >>> (0 &&& 31)) &&& 255)) 4 ((x1 >>> (24 &&& 31)) &&& 255)) 5 ((x1 >>> (16 &&& 31)) &&& 255)) 6 ((x1 >>> (8 &&& 31)) &&& 255))))] := hD
  refine lv_iinc (v := 7) (lv' := [(6, .int 7), (7, .int x1), (0, .ref a0), (1, .int x0), (2, .int x1), (3, .int x2), (4, .int x3), (5, .int x4)]) hx hb dX9_append_114 hl (k := 1) rfl (by decide) (by decide) rfl (fun ls hl => ?_)
  refine lv_goto (tgt := 23) hx hb dX9_append_117 (by decide) ?_
  refine lv_iload hx hb dX9_append_23 (lv_at hl 0 rfl) ?_
  refine lv_bipush (v := 20) hx hb dX9_append_25 (by decide) ?_
  refine lv_icmp_ge (tgt := 120) hx hb dX9_append_27 (by decide) (fun c9 => absurd c9 (by decide)) (fun _ => ?_)
  refine lv_iload hx hb dX9_append_30 (lv_at hl 0 rfl) ?_
  refine lv_iconst (v := 4) hx hb dX9_append_32 (by decide) ?_
  refine lv_icmp_ge (tgt := 40) hx hb dX9_append_33 (by decide) (fun _ => ?_) (fun c9 => absurd (by decide) c9)
  refine lv_iload hx hb dX9_append_40 (lv_at hl 0 rfl) ?_
  refine lv_bipush (v := 8) hx hb dX9_append_42 (by decide) ?_
  refine lv_icmp_ge (tgt := 51) hx hb dX9_append_44 (by decide) (fun c9 => absurd c9 (by decide)) (fun _ => ?_)
  refine lv_iload_n hx hb dX9_append_47 rfl (lv_at hl 4 rfl) ?_
  refine lv_goto (tgt := 76) hx hb dX9_append_48 (by decide) ?_
  refine lv_istore (lv' := [(7, .int x1), (6, .int 7), (0, .ref a0), (1, .int x0), (2, .int x1), (3, .int x2), (4, .int x3), (5, .int x4)]) hx hb dX9_append_76 hl (by decide) rfl (fun ls hl => ?_)
  refine lv_aload_n hx hb dX9_append_78 rfl (lv_at hl 2 rfl) ?_
  refine va_get (D := D) (ci := 9) (v := .ref a1) (C := RX9) (T := TX9) (N := 18) hx hb hts iX9_append_9 hown hN.1 hP 0 rfl rfl 1 (by decide) (hts _ mX9_append_3) (fun _ h9 => h9) rfl dX9_append_79 ?_
  refine lv_aload_n hx hb dX9_append_82 rfl (lv_at hl 2 rfl) ?_
  refine va_get (D := D) (ci := 9) (v := .int 7) (C := RX9) (T := TX9) (N := 18) hx hb hts iX9_append_9 hown hN.1 hP 0 rfl rfl 2 (by decide) (hts _ mX9_append_2) (fun _ h9 => h9) rfl dX9_append_83 ?_
  refine lv_iload hx hb dX9_append_86 (lv_at hl 0 rfl) ?_
  refine lv_bipush (v := 24) hx hb dX9_append_88 (by decide) ?_
  refine lv_bipush (v := 8) hx hb dX9_append_90 (by decide) ?_
  refine lv_iload hx hb dX9_append_92 (lv_at hl 1 rfl) ?_
  refine lv_iconst (v := 4) hx hb dX9_append_94 (by decide) ?_
  refine lv_irem hx hb dX9_append_95 (by decide) ?_
  refine tp_i (3) (by decide) ?_
  refine lv_imul hx hb dX9_append_96 ?_
  refine tp_i (24) (by decide) ?_
  refine lv_isub hx hb dX9_append_97 ?_
  refine tp_i (0) (by decide) ?_
  refine lv_ishr hx hb dX9_append_98 ?_
  refine lv_sipush (v := 255) hx hb dX9_append_99 (by decide) ?_
  refine lv_iand hx hb dX9_append_102 ?_
  refine st_i (g := (upd (upd (upd (upd (upd (upd (upd (upd (fun _ => 0) 0 ((x0 >>> (24 &&& 31)) &&& 255)) 1 ((x0 >>> (16 &&& 31)) &&& 255)) 2 ((x0 >>> (8 &&& 31)) &&& 255)) 3 ((x0 >>> (0 &&& 31)) &&& 255)) 4 ((x1 >>> (24 &&& 31)) &&& 255)) 5 ((x1 >>> (16 &&& 31)) &&& 255)) 6 ((x1 >>> (8 &&& 31)) &&& 255)) 7 ((x1 >>> (0 &&& 31)) &&& 255))) hx hb hN hP hD hS 1 rfl (vin (by decide +kernel)) rfl dX9_append_103 (fun H locs hP hD hS => ?_)
  have hP : va_P D vwCl [(a0, .inr (9, [.int 0, .ref a1, .int 7, .int 0, .int 0, .int 0, .int 0, .int (-1), .ref a2, .ref a3, .ref a4, .ref a5, .int 0, .int 0, .int 0, .int 0, .int 0, .ref a6])), (a1, .inl (cs 0, 600, .inl (upd (upd (upd (upd (upd (upd (upd (upd (fun _ => 0) 0 ((x0 >>> (24 &&& 31)) &&& 255)) 1 ((x0 >>> (16 &&& 31)) &&& 255)) 2 ((x0 >>> (8 &&& 31)) &&& 255)) 3 ((x0 >>> (0 &&& 31)) &&& 255)) 4 ((x1 >>> (24 &&& 31)) &&& 255)) 5 ((x1 >>> (16 &&& 31)) &&& 255)) 6 ((x1 >>> (8 &&& 31)) &&& 255)) 7 ((x1 >>> (0 &&& 31)) &&& 255))))] H := hP
  have hD : va_D A [(a0, .inr (9, [.int 0, .ref a1, .int 7, .int 0, .int 0, .int 0, .int 0, .int (-1), .ref a2, .ref a3, .ref a4, .ref a5, .int 0, .int 0, .int 0, .int 0, .int 0, .ref a6])), (a1, .inl (cs 0, 600, .inl (upd (upd (upd (upd (upd (upd (upd (upd (fun _ => 0) 0 ((x0 >>> (24 &&& 31)) &&& 255)) 1 ((x0 >>> (16 &&& 31)) &&& 255)) 2 ((x0 >>> (8 &&& 31)) &&& 255)) 3 ((x0 >>> (0 &&& 31)) &&& 255)) 4 ((x1 >>> (24 &&& 31)) &&& 255)) 5 ((x1 >>> (16 &&& 31)) &&& 255)) 6 ((x1 >>> (8 &&& 31)) &&& 255)) 7 ((x1 >>> (0 &&& 31)) &&& 255))))] := hD
  refine lv_aload_n hx hb dX9_append_104 rfl (lv_at hl 2 rfl) ?_
  refine lv_dup hx hb dX9_append_105 rfl ?_
  refine va_get (D := D) (ci := 9) (v := .int 7) (C := RX9) (T := TX9) (N := 18) hx hb hts iX9_append_9 hown hN.1 hP 0 rfl rfl 2 (by decide) (hts _ mX9_append_2) (fun _ h9 => h9) rfl dX9_append_106 ?_
  refine lv_iconst (v := 1) hx hb dX9_append_109 (by decide) ?_
  refine lv_iadd hx hb dX9_append_110 ?_
  refine tp_i (8) (by decide) ?_
  refine va_put (D := D) (ci := 9) (v := .int 8) (ty := .int) (C := RX9) (T := TX9) (N := 18) hx hb hts iX9_append_9 tyX9 tyX9_ok nmX9 hown hN.1 hP hD hS 0 rfl rfl 2 (by decide) (hts _ mX9_append_2) (fun _ h9 => h9) rfl (by decide +kernel) rfl rfl (Nat.le_of_ble_eq_true rfl) dX9_append_111 (fun H locs hP hD hS => ?_)
  have hP : va_P D vwCl [(a0, .inr (9, [.int 0, .ref a1, .int 8, .int 0, .int 0, .int 0, .int 0, .int (-1), .ref a2, .ref a3, .ref a4, .ref a5, .int 0, .int 0, .int 0, .int 0, .int 0, .ref a6])), (a1, .inl (cs 0, 600, .inl (upd (upd (upd (upd (upd (upd (upd (upd (fun _ => 0) 0 ((x0 >>> (24 &&& 31)) &&& 255)) 1 ((x0 >>> (16 &&& 31)) &&& 255)) 2 ((x0 >>> (8 &&& 31)) &&& 255)) 3 ((x0 >>> (0 &&& 31)) &&& 255)) 4 ((x1 >>> (24 &&& 31)) &&& 255)) 5 ((x1 >>> (16 &&& 31)) &&& 255)) 6 ((x1 >>> (8 &&& 31)) &&& 255)) 7 ((x1 >>> (0 &&& 31)) &&& 255))))] H := hP
  have hD : va_D A [(a0, .inr (9, [.int 0, .ref a1, .int 8, .int 0, .int 0, .int 0, .int 0, .int (-1), .ref a2, .ref a3, .ref a4, .ref a5, .int 0, .int 0, .int 0, .int 0, .int 0, .ref a6])), (a1, .inl (cs 0, 600, .inl (upd (upd (upd (upd (upd (upd (upd (upd (fun _ => 0) 0 ((x0 >>> (24 &&& 31)) &&& 255)) 1 ((x0 >>> (16 &&& 31)) &&& 255)) 2 ((x0 >>> (8 &&& 31)) &&& 255)) 3 ((x0 >>> (0 &&& 31)) &&& 255)) 4 ((x1 >>> (24 &&& 31)) &&& 255)) 5 ((x1 >>> (16 &&& 31)) &&& 255)) 6 ((x1 >>> (8 &&& 31)) &&& 255)) 7 ((x1 >>> (0 &&& 31)) &&& 255))))] := hD
  refine lv_iinc (v := 8) (lv' := [(6, .int 8), (7, .int x1), (0, .ref a0), (1, .int x0), (2, .int x1), (3, .int x2), (4, .int x3), (5, .int x4)]) hx hb dX9_append_114 hl (k := 1) rfl (by decide) (by decide) rfl (fun ls hl => ?_)
  refine lv_goto (tgt := 23) hx hb dX9_append_117 (by decide) ?_
  refine lv_iload hx hb dX9_append_23 (lv_at hl 0 rfl) ?_
  refine lv_bipush (v := 20) hx hb dX9_append_25 (by decide) ?_
  refine lv_icmp_ge (tgt := 120) hx hb dX9_append_27 (by decide) (fun c9 => absurd c9 (by decide)) (fun _ => ?_)
  refine lv_iload hx hb dX9_append_30 (lv_at hl 0 rfl) ?_
  refine lv_iconst (v := 4) hx hb dX9_append_32 (by decide) ?_
  refine lv_icmp_ge (tgt := 40) hx hb dX9_append_33 (by decide) (fun _ => ?_) (fun c9 => absurd (by decide) c9)
  refine lv_iload hx hb dX9_append_40 (lv_at hl 0 rfl) ?_
  refine lv_bipush (v := 8) hx hb dX9_append_42 (by decide) ?_
  refine lv_icmp_ge (tgt := 51) hx hb dX9_append_44 (by decide) (fun _ => ?_) (fun c9 => absurd (by decide) c9)
  refine lv_iload hx hb dX9_append_51 (lv_at hl 0 rfl) ?_
  refine lv_bipush (v := 12) hx hb dX9_append_53 (by decide) ?_
  refine lv_icmp_ge (tgt := 62) hx hb dX9_append_55 (by decide) (fun c9 => absurd c9 (by decide)) (fun _ => ?_)
  refine lv_iload_n hx hb dX9_append_58 rfl (lv_at hl 5 rfl) ?_
  refine lv_goto (tgt := 76) hx hb dX9_append_59 (by decide) ?_
  refine lv_istore (lv' := [(7, .int x2), (6, .int 8), (0, .ref a0), (1, .int x0), (2, .int x1), (3, .int x2), (4, .int x3), (5, .int x4)]) hx hb dX9_append_76 hl (by decide) rfl (fun ls hl => ?_)
  refine lv_aload_n hx hb dX9_append_78 rfl (lv_at hl 2 rfl) ?_
  refine va_get (D := D) (ci := 9) (v := .ref a1) (C := RX9) (T := TX9) (N := 18) hx hb hts iX9_append_9 hown hN.1 hP 0 rfl rfl 1 (by decide) (hts _ mX9_append_3) (fun _ h9 => h9) rfl dX9_append_79 ?_
  refine lv_aload_n hx hb dX9_append_82 rfl (lv_at hl 2 rfl) ?_
  refine va_get (D := D) (ci := 9) (v := .int 8) (C := RX9) (T := TX9) (N := 18) hx hb hts iX9_append_9 hown hN.1 hP 0 rfl rfl 2 (by decide) (hts _ mX9_append_2) (fun _ h9 => h9) rfl dX9_append_83 ?_
  refine lv_iload hx hb dX9_append_86 (lv_at hl 0 rfl) ?_
  refine lv_bipush (v := 24) hx hb dX9_append_88 (by decide) ?_
  refine lv_bipush (v := 8) hx hb dX9_append_90 (by decide) ?_
  refine lv_iload hx hb dX9_append_92 (lv_at hl 1 rfl) ?_
  refine lv_iconst (v := 4) hx hb dX9_append_94 (by decide) ?_
  refine lv_irem hx hb dX9_append_95 (by decide) ?_
  refine tp_i (0) (by decide) ?_
  refine lv_imul hx hb dX9_append_96 ?_
  refine tp_i (0) (by decide) ?_
  refine lv_isub hx hb dX9_append_97 ?_
  refine tp_i (24) (by decide) ?_
  refine lv_ishr hx hb dX9_append_98 ?_
  refine lv_sipush (v := 255) hx hb dX9_append_99 (by decide) ?_
  refine lv_iand hx hb dX9_append_102 ?_
  refine st_i (g := (upd (upd (upd (upd (upd (upd (upd (upd (upd (fun _ => 0) 0 ((x0 >>> (24 &&& 31)) &&& 255)) 1 ((x0 >>> (16 &&& 31)) &&& 255)) 2 ((x0 >>> (8 &&& 31)) &&& 255)) 3 ((x0 >>> (0 &&& 31)) &&& 255)) 4 ((x1 >>> (24 &&& 31)) &&& 255)) 5 ((x1 >>> (16 &&& 31)) &&& 255)) 6 ((x1 >>> (8 &&& 31)) &&& 255)) 7 ((x1 >>> (0 &&& 31)) &&& 255)) 8 ((x2 >>> (24 &&& 31)) &&& 255))) hx hb hN hP hD hS 1 rfl (vin (by decide +kernel)) rfl dX9_append_103 (fun H locs hP hD hS => ?_)
  have hP : va_P D vwCl [(a0, .inr (9, [.int 0, .ref a1, .int 8, .int 0, .int 0, .int 0, .int 0, .int (-1), .ref a2, .ref a3, .ref a4, .ref a5, .int 0, .int 0, .int 0, .int 0, .int 0, .ref a6])), (a1, .inl (cs 0, 600, .inl (upd (upd (upd (upd (upd (upd (upd (upd (upd (fun _ => 0) 0 ((x0 >>> (24 &&& 31)) &&& 255)) 1 ((x0 >>> (16 &&& 31)) &&& 255)) 2 ((x0 >>> (8 &&& 31)) &&& 255)) 3 ((x0 >>> (0 &&& 31)) &&& 255)) 4 ((x1 >>> (24 &&& 31)) &&& 255)) 5 ((x1 >>> (16 &&& 31)) &&& 255)) 6 ((x1 >>> (8 &&& 31)) &&& 255)) 7 ((x1 >>> (0 &&& 31)) &&& 255)) 8 ((x2 >>> (24 &&& 31)) &&& 255))))] H := hP
  have hD : va_D A [(a0, .inr (9, [.int 0, .ref a1, .int 8, .int 0, .int 0, .int 0, .int 0, .int (-1), .ref a2, .ref a3, .ref a4, .ref a5, .int 0, .int 0, .int 0, .int 0, .int 0, .ref a6])), (a1, .inl (cs 0, 600, .inl (upd (upd (upd (upd (upd (upd (upd (upd (upd (fun _ => 0) 0 ((x0 >>> (24 &&& 31)) &&& 255)) 1 ((x0 >>> (16 &&& 31)) &&& 255)) 2 ((x0 >>> (8 &&& 31)) &&& 255)) 3 ((x0 >>> (0 &&& 31)) &&& 255)) 4 ((x1 >>> (24 &&& 31)) &&& 255)) 5 ((x1 >>> (16 &&& 31)) &&& 255)) 6 ((x1 >>> (8 &&& 31)) &&& 255)) 7 ((x1 >>> (0 &&& 31)) &&& 255)) 8 ((x2 >>> (24 &&& 31)) &&& 255))))] := hD
  refine lv_aload_n hx hb dX9_append_104 rfl (lv_at hl 2 rfl) ?_
  refine lv_dup hx hb dX9_append_105 rfl ?_
  refine va_get (D := D) (ci := 9) (v := .int 8) (C := RX9) (T := TX9) (N := 18) hx hb hts iX9_append_9 hown hN.1 hP 0 rfl rfl 2 (by decide) (hts _ mX9_append_2) (fun _ h9 => h9) rfl dX9_append_106 ?_
  refine lv_iconst (v := 1) hx hb dX9_append_109 (by decide) ?_
  refine lv_iadd hx hb dX9_append_110 ?_
  refine tp_i (9) (by decide) ?_
  refine va_put (D := D) (ci := 9) (v := .int 9) (ty := .int) (C := RX9) (T := TX9) (N := 18) hx hb hts iX9_append_9 tyX9 tyX9_ok nmX9 hown hN.1 hP hD hS 0 rfl rfl 2 (by decide) (hts _ mX9_append_2) (fun _ h9 => h9) rfl (by decide +kernel) rfl rfl (Nat.le_of_ble_eq_true rfl) dX9_append_111 (fun H locs hP hD hS => ?_)
  have hP : va_P D vwCl [(a0, .inr (9, [.int 0, .ref a1, .int 9, .int 0, .int 0, .int 0, .int 0, .int (-1), .ref a2, .ref a3, .ref a4, .ref a5, .int 0, .int 0, .int 0, .int 0, .int 0, .ref a6])), (a1, .inl (cs 0, 600, .inl (upd (upd (upd (upd (upd (upd (upd (upd (upd (fun _ => 0) 0 ((x0 >>> (24 &&& 31)) &&& 255)) 1 ((x0 >>> (16 &&& 31)) &&& 255)) 2 ((x0 >>> (8 &&& 31)) &&& 255)) 3 ((x0 >>> (0 &&& 31)) &&& 255)) 4 ((x1 >>> (24 &&& 31)) &&& 255)) 5 ((x1 >>> (16 &&& 31)) &&& 255)) 6 ((x1 >>> (8 &&& 31)) &&& 255)) 7 ((x1 >>> (0 &&& 31)) &&& 255)) 8 ((x2 >>> (24 &&& 31)) &&& 255))))] H := hP
  have hD : va_D A [(a0, .inr (9, [.int 0, .ref a1, .int 9, .int 0, .int 0, .int 0, .int 0, .int (-1), .ref a2, .ref a3, .ref a4, .ref a5, .int 0, .int 0, .int 0, .int 0, .int 0, .ref a6])), (a1, .inl (cs 0, 600, .inl (upd (upd (upd (upd (upd (upd (upd (upd (upd (fun _ => 0) 0 ((x0 >>> (24 &&& 31)) &&& 255)) 1 ((x0 >>> (16 &&& 31)) &&& 255)) 2 ((x0 >>> (8 &&& 31)) &&& 255)) 3 ((x0 >>> (0 &&& 31)) &&& 255)) 4 ((x1 >>> (24 &&& 31)) &&& 255)) 5 ((x1 >>> (16 &&& 31)) &&& 255)) 6 ((x1 >>> (8 &&& 31)) &&& 255)) 7 ((x1 >>> (0 &&& 31)) &&& 255)) 8 ((x2 >>> (24 &&& 31)) &&& 255))))] := hD
  refine lv_iinc (v := 9) (lv' := [(6, .int 9), (7, .int x2), (0, .ref a0), (1, .int x0), (2, .int x1), (3, .int x2), (4, .int x3), (5, .int x4)]) hx hb dX9_append_114 hl (k := 1) rfl (by decide) (by decide) rfl (fun ls hl => ?_)
  refine lv_goto (tgt := 23) hx hb dX9_append_117 (by decide) ?_
  refine lv_iload hx hb dX9_append_23 (lv_at hl 0 rfl) ?_
  refine lv_bipush (v := 20) hx hb dX9_append_25 (by decide) ?_
  refine lv_icmp_ge (tgt := 120) hx hb dX9_append_27 (by decide) (fun c9 => absurd c9 (by decide)) (fun _ => ?_)
  refine lv_iload hx hb dX9_append_30 (lv_at hl 0 rfl) ?_
  refine lv_iconst (v := 4) hx hb dX9_append_32 (by decide) ?_
  refine lv_icmp_ge (tgt := 40) hx hb dX9_append_33 (by decide) (fun _ => ?_) (fun c9 => absurd (by decide) c9)
  refine lv_iload hx hb dX9_append_40 (lv_at hl 0 rfl) ?_
  refine lv_bipush (v := 8) hx hb dX9_append_42 (by decide) ?_
  refine lv_icmp_ge (tgt := 51) hx hb dX9_append_44 (by decide) (fun _ => ?_) (fun c9 => absurd (by decide) c9)
  refine lv_iload hx hb dX9_append_51 (lv_at hl 0 rfl) ?_
  refine lv_bipush (v := 12) hx hb dX9_append_53 (by decide) ?_
  refine lv_icmp_ge (tgt := 62) hx hb dX9_append_55 (by decide) (fun c9 => absurd c9 (by decide)) (fun _ => ?_)
  refine lv_iload_n hx hb dX9_append_58 rfl (lv_at hl 5 rfl) ?_
  refine lv_goto (tgt := 76) hx hb dX9_append_59 (by decide) ?_
  refine lv_istore (lv' := [(7, .int x2), (6, .int 9), (0, .ref a0), (1, .int x0), (2, .int x1), (3, .int x2), (4, .int x3), (5, .int x4)]) hx hb dX9_append_76 hl (by decide) rfl (fun ls hl => ?_)
  refine lv_aload_n hx hb dX9_append_78 rfl (lv_at hl 2 rfl) ?_
  refine va_get (D := D) (ci := 9) (v := .ref a1) (C := RX9) (T := TX9) (N := 18) hx hb hts iX9_append_9 hown hN.1 hP 0 rfl rfl 1 (by decide) (hts _ mX9_append_3) (fun _ h9 => h9) rfl dX9_append_79 ?_
  refine lv_aload_n hx hb dX9_append_82 rfl (lv_at hl 2 rfl) ?_
  refine va_get (D := D) (ci := 9) (v := .int 9) (C := RX9) (T := TX9) (N := 18) hx hb hts iX9_append_9 hown hN.1 hP 0 rfl rfl 2 (by decide) (hts _ mX9_append_2) (fun _ h9 => h9) rfl dX9_append_83 ?_
  refine lv_iload hx hb dX9_append_86 (lv_at hl 0 rfl) ?_
  refine lv_bipush (v := 24) hx hb dX9_append_88 (by decide) ?_
  refine lv_bipush (v := 8) hx hb dX9_append_90 (by decide) ?_
  refine lv_iload hx hb dX9_append_92 (lv_at hl 1 rfl) ?_
  refine lv_iconst (v := 4) hx hb dX9_append_94 (by decide) ?_
  refine lv_irem hx hb dX9_append_95 (by decide) ?_
  refine tp_i (1) (by decide) ?_
  refine lv_imul hx hb dX9_append_96 ?_
  refine tp_i (8) (by decide) ?_
  refine lv_isub hx hb dX9_append_97 ?_
  refine tp_i (16) (by decide) ?_
  refine lv_ishr hx hb dX9_append_98 ?_
  refine lv_sipush (v := 255) hx hb dX9_append_99 (by decide) ?_
  refine lv_iand hx hb dX9_append_102 ?_
  refine st_i (g := (upd (upd (upd (upd (upd (upd (upd (upd (upd (upd (fun _ => 0) 0 ((x0 >>> (24 &&& 31)) &&& 255)) 1 ((x0 >>> (16 &&& 31)) &&& 255)) 2 ((x0 >>> (8 &&& 31)) &&& 255)) 3 ((x0 >>> (0 &&& 31)) &&& 255)) 4 ((x1 >>> (24 &&& 31)) &&& 255)) 5 ((x1 >>> (16 &&& 31)) &&& 255)) 6 ((x1 >>> (8 &&& 31)) &&& 255)) 7 ((x1 >>> (0 &&& 31)) &&& 255)) 8 ((x2 >>> (24 &&& 31)) &&& 255)) 9 ((x2 >>> (16 &&& 31)) &&& 255))) hx hb hN hP hD hS 1 rfl (vin (by decide +kernel)) rfl dX9_append_103 (fun H locs hP hD hS => ?_)
  have hP : va_P D vwCl [(a0, .inr (9, [.int 0, .ref a1, .int 9, .int 0, .int 0, .int 0, .int 0, .int (-1), .ref a2, .ref a3, .ref a4, .ref a5, .int 0, .int 0, .int 0, .int 0, .int 0, .ref a6])), (a1, .inl (cs 0, 600, .inl (upd (upd (upd (upd (upd (upd (upd (upd (upd (upd (fun _ => 0) 0 ((x0 >>> (24 &&& 31)) &&& 255)) 1 ((x0 >>> (16 &&& 31)) &&& 255)) 2 ((x0 >>> (8 &&& 31)) &&& 255)) 3 ((x0 >>> (0 &&& 31)) &&& 255)) 4 ((x1 >>> (24 &&& 31)) &&& 255)) 5 ((x1 >>> (16 &&& 31)) &&& 255)) 6 ((x1 >>> (8 &&& 31)) &&& 255)) 7 ((x1 >>> (0 &&& 31)) &&& 255)) 8 ((x2 >>> (24 &&& 31)) &&& 255)) 9 ((x2 >>> (16 &&& 31)) &&& 255))))] H := hP
  have hD : va_D A [(a0, .inr (9, [.int 0, .ref a1, .int 9, .int 0, .int 0, .int 0, .int 0, .int (-1), .ref a2, .ref a3, .ref a4, .ref a5, .int 0, .int 0, .int 0, .int 0, .int 0, .ref a6])), (a1, .inl (cs 0, 600, .inl (upd (upd (upd (upd (upd (upd (upd (upd (upd (upd (fun _ => 0) 0 ((x0 >>> (24 &&& 31)) &&& 255)) 1 ((x0 >>> (16 &&& 31)) &&& 255)) 2 ((x0 >>> (8 &&& 31)) &&& 255)) 3 ((x0 >>> (0 &&& 31)) &&& 255)) 4 ((x1 >>> (24 &&& 31)) &&& 255)) 5 ((x1 >>> (16 &&& 31)) &&& 255)) 6 ((x1 >>> (8 &&& 31)) &&& 255)) 7 ((x1 >>> (0 &&& 31)) &&& 255)) 8 ((x2 >>> (24 &&& 31)) &&& 255)) 9 ((x2 >>> (16 &&& 31)) &&& 255))))] := hD
  refine lv_aload_n hx hb dX9_append_104 rfl (lv_at hl 2 rfl) ?_
  refine lv_dup hx hb dX9_append_105 rfl ?_
  refine va_get (D := D) (ci := 9) (v := .int 9) (C := RX9) (T := TX9) (N := 18) hx hb hts iX9_append_9 hown hN.1 hP 0 rfl rfl 2 (by decide) (hts _ mX9_append_2) (fun _ h9 => h9) rfl dX9_append_106 ?_
  refine lv_iconst (v := 1) hx hb dX9_append_109 (by decide) ?_
  refine lv_iadd hx hb dX9_append_110 ?_
  refine tp_i (10) (by decide) ?_
  refine va_put (D := D) (ci := 9) (v := .int 10) (ty := .int) (C := RX9) (T := TX9) (N := 18) hx hb hts iX9_append_9 tyX9 tyX9_ok nmX9 hown hN.1 hP hD hS 0 rfl rfl 2 (by decide) (hts _ mX9_append_2) (fun _ h9 => h9) rfl (by decide +kernel) rfl rfl (Nat.le_of_ble_eq_true rfl) dX9_append_111 (fun H locs hP hD hS => ?_)
  have hP : va_P D vwCl [(a0, .inr (9, [.int 0, .ref a1, .int 10, .int 0, .int 0, .int 0, .int 0, .int (-1), .ref a2, .ref a3, .ref a4, .ref a5, .int 0, .int 0, .int 0, .int 0, .int 0, .ref a6])), (a1, .inl (cs 0, 600, .inl (upd (upd (upd (upd (upd (upd (upd (upd (upd (upd (fun _ => 0) 0 ((x0 >>> (24 &&& 31)) &&& 255)) 1 ((x0 >>> (16 &&& 31)) &&& 255)) 2 ((x0 >>> (8 &&& 31)) &&& 255)) 3 ((x0 >>> (0 &&& 31)) &&& 255)) 4 ((x1 >>> (24 &&& 31)) &&& 255)) 5 ((x1 >>> (16 &&& 31)) &&& 255)) 6 ((x1 >>> (8 &&& 31)) &&& 255)) 7 ((x1 >>> (0 &&& 31)) &&& 255)) 8 ((x2 >>> (24 &&& 31)) &&& 255)) 9 ((x2 >>> (16 &&& 31)) &&& 255))))] H := hP
  have hD : va_D A [(a0, .inr (9, [.int 0, .ref a1, .int 10, .int 0, .int 0, .int 0, .int 0, .int (-1), .ref a2, .ref a3, .ref a4, .ref a5, .int 0, .int 0, .int 0, .int 0, .int 0, .ref a6])), (a1, .inl (cs 0, 600, .inl (upd (upd (upd (upd (upd (upd (upd (upd (upd (upd (fun _ => 0) 0 ((x0 >>> (24 &&& 31)) &&& 255)) 1 ((x0 >>> (16 &&& 31)) &&& 255)) 2 ((x0 >>> (8 &&& 31)) &&& 255)) 3 ((x0 >>> (0 &&& 31)) &&& 255)) 4 ((x1 >>> (24 &&& 31)) &&& 255)) 5 ((x1 >>> (16 &&& 31)) &&& 255)) 6 ((x1 >>> (8 &&& 31)) &&& 255)) 7 ((x1 >>> (0 &&& 31)) &&& 255)) 8 ((x2 >>> (24 &&& 31)) &&& 255)) 9 ((x2 >>> (16 &&& 31)) &&& 255))))] := hD
  refine lv_iinc (v := 10) (lv' := [(6, .int 10), (7, .int x2), (0, .ref a0), (1, .int x0), (2, .int x1), (3, .int x2), (4, .int x3), (5, .int x4)]) hx hb dX9_append_114 hl (k := 1) rfl (by decide) (by decide) rfl (fun ls hl => ?_)
  refine lv_goto (tgt := 23) hx hb dX9_append_117 (by decide) ?_
  refine lv_iload hx hb dX9_append_23 (lv_at hl 0 rfl) ?_
  refine lv_bipush (v := 20) hx hb dX9_append_25 (by decide) ?_
  refine lv_icmp_ge (tgt := 120) hx hb dX9_append_27 (by decide) (fun c9 => absurd c9 (by decide)) (fun _ => ?_)
  refine lv_iload hx hb dX9_append_30 (lv_at hl 0 rfl) ?_
  refine lv_iconst (v := 4) hx hb dX9_append_32 (by decide) ?_
  refine lv_icmp_ge (tgt := 40) hx hb dX9_append_33 (by decide) (fun _ => ?_) (fun c9 => absurd (by decide) c9)
  refine lv_iload hx hb dX9_append_40 (lv_at hl 0 rfl) ?_
  refine lv_bipush (v := 8) hx hb dX9_append_42 (by decide) ?_
  refine lv_icmp_ge (tgt := 51) hx hb dX9_append_44 (by decide) (fun _ => ?_) (fun c9 => absurd (by decide) c9)
  refine lv_iload hx hb dX9_append_51 (lv_at hl 0 rfl) ?_
  refine lv_bipush (v := 12) hx hb dX9_append_53 (by decide) ?_
  refine lv_icmp_ge (tgt := 62) hx hb dX9_append_55 (by decide) (fun c9 => absurd c9 (by decide)) (fun _ => ?_)
  refine lv_iload_n hx hb dX9_append_58 rfl (lv_at hl 5 rfl) ?_
  refine lv_goto (tgt := 76) hx hb dX9_append_59 (by decide) ?_
  refine lv_istore (lv' := [(7, .int x2), (6, .int 10), (0, .ref a0), (1, .int x0), (2, .int x1), (3, .int x2), (4, .int x3), (5, .int x4)]) hx hb dX9_append_76 hl (by decide) rfl (fun ls hl => ?_)
  refine lv_aload_n hx hb dX9_append_78 rfl (lv_at hl 2 rfl) ?_
  refine va_get (D := D) (ci := 9) (v := .ref a1) (C := RX9) (T := TX9) (N := 18) hx hb hts iX9_append_9 hown hN.1 hP 0 rfl rfl 1 (by decide) (hts _ mX9_append_3) (fun _ h9 => h9) rfl dX9_append_79 ?_
  refine lv_aload_n hx hb dX9_append_82 rfl (lv_at hl 2 rfl) ?_
  refine va_get (D := D) (ci := 9) (v := .int 10) (C := RX9) (T := TX9) (N := 18) hx hb hts iX9_append_9 hown hN.1 hP 0 rfl rfl 2 (by decide) (hts _ mX9_append_2) (fun _ h9 => h9) rfl dX9_append_83 ?_
  refine lv_iload hx hb dX9_append_86 (lv_at hl 0 rfl) ?_
  refine lv_bipush (v := 24) hx hb dX9_append_88 (by decide) ?_
  refine lv_bipush (v := 8) hx hb dX9_append_90 (by decide) ?_
  refine lv_iload hx hb dX9_append_92 (lv_at hl 1 rfl) ?_
  refine lv_iconst (v := 4) hx hb dX9_append_94 (by decide) ?_
  refine lv_irem hx hb dX9_append_95 (by decide) ?_
  refine tp_i (2) (by decide) ?_
  refine lv_imul hx hb dX9_append_96 ?_
  refine tp_i (16) (by decide) ?_
  refine lv_isub hx hb dX9_append_97 ?_
  refine tp_i (8) (by decide) ?_
  refine lv_ishr hx hb dX9_append_98 ?_
  refine lv_sipush (v := 255) hx hb dX9_append_99 (by decide) ?_
  refine lv_iand hx hb dX9_append_102 ?_
  refine st_i (g := (upd (upd (upd (upd (upd (upd (upd (upd (upd (upd (upd (fun _ => 0) 0 ((x0 >>> (24 &&& 31)) &&& 255)) 1 ((x0 >>> (16 &&& 31)) &&& 255)) 2 ((x0 >>> (8 &&& 31)) &&& 255)) 3 ((x0 >>> (0 &&& 31)) &&& 255)) 4 ((x1 >>> (24 &&& 31)) &&& 255)) 5 ((x1 >>> (16 &&& 31)) &&& 255)) 6 ((x1 >>> (8 &&& 31)) &&& 255)) 7 ((x1 >>> (0 &&& 31)) &&& 255)) 8 ((x2 >>> (24 &&& 31)) &&& 255)) 9 ((x2 >>> (16 &&& 31)) &&& 255)) 10 ((x2 >>> (8 &&& 31)) &&& 255))) hx hb hN hP hD hS 1 rfl (vin (by decide +kernel)) rfl dX9_append_103 (fun H locs hP hD hS => ?_)
  have hP : va_P D vwCl [(a0, .inr (9, [.int 0, .ref a1, .int 10, .int 0, .int 0, .int 0, .int 0, .int (-1), .ref a2, .ref a3, .ref a4, .ref a5, .int 0, .int 0, .int 0, .int 0, .int 0, .ref a6])), (a1, .inl (cs 0, 600, .inl (upd (upd (upd (upd (upd (upd (upd (upd (upd (upd (upd (fun _ => 0) 0 ((x0 >>> (24 &&& 31)) &&& 255)) 1 ((x0 >>> (16 &&& 31)) &&& 255)) 2 ((x0 >>> (8 &&& 31)) &&& 255)) 3 ((x0 >>> (0 &&& 31)) &&& 255)) 4 ((x1 >>> (24 &&& 31)) &&& 255)) 5 ((x1 >>> (16 &&& 31)) &&& 255)) 6 ((x1 >>> (8 &&& 31)) &&& 255)) 7 ((x1 >>> (0 &&& 31)) &&& 255)) 8 ((x2 >>> (24 &&& 31)) &&& 255)) 9 ((x2 >>> (16 &&& 31)) &&& 255)) 10 ((x2 >>> (8 &&& 31)) &&& 255))))] H := hP
  have hD : va_D A [(a0, .inr (9, [.int 0, .ref a1, .int 10, .int 0, .int 0, .int 0, .int 0, .int (-1), .ref a2, .ref a3, .ref a4, .ref a5, .int 0, .int 0, .int 0, .int 0, .int 0, .ref a6])), (a1, .inl (cs 0, 600, .inl (upd (upd (upd (upd (upd (upd (upd (upd (upd (upd (upd (fun _ => 0) 0 ((x0 >>> (24 &&& 31)) &&& 255)) 1 ((x0 >>> (16 &&& 31)) &&& 255)) 2 ((x0 >>> (8 &&& 31)) &&& 255)) 3 ((x0 >>> (0 &&& 31)) &&& 255)) 4 ((x1 >>> (24 &&& 31)) &&& 255)) 5 ((x1 >>> (16 &&& 31)) &&& 255)) 6 ((x1 >>> (8 &&& 31)) &&& 255)) 7 ((x1 >>> (0 &&& 31)) &&& 255)) 8 ((x2 >>> (24 &&& 31)) &&& 255)) 9 ((x2 >>> (16 &&& 31)) &&& 255)) 10 ((x2 >>> (8 &&& 31)) &&& 255))))] := hD
  refine lv_aload_n hx hb dX9_append_104 rfl (lv_at hl 2 rfl) ?_
  refine lv_dup hx hb dX9_append_105 rfl ?_
  refine va_get (D := D) (ci := 9) (v := .int 10) (C := RX9) (T := TX9) (N := 18) hx hb hts iX9_append_9 hown hN.1 hP 0 rfl rfl 2 (by decide) (hts _ mX9_append_2) (fun _ h9 => h9) rfl dX9_append_106 ?_
  refine lv_iconst (v := 1) hx hb dX9_append_109 (by decide) ?_
  refine lv_iadd hx hb dX9_append_110 ?_
  refine tp_i (11) (by decide) ?_
  refine va_put (D := D) (ci := 9) (v := .int 11) (ty := .int) (C := RX9) (T := TX9) (N := 18) hx hb hts iX9_append_9 tyX9 tyX9_ok nmX9 hown hN.1 hP hD hS 0 rfl rfl 2 (by decide) (hts _ mX9_append_2) (fun _ h9 => h9) rfl (by decide +kernel) rfl rfl (Nat.le_of_ble_eq_true rfl) dX9_append_111 (fun H locs hP hD hS => ?_)
  have hP : va_P D vwCl [(a0, .inr (9, [.int 0, .ref a1, .int 11, .int 0, .int 0, .int 0, .int 0, .int (-1), .ref a2, .ref a3, .ref a4, .ref a5, .int 0, .int 0, .int 0, .int 0, .int 0, .ref a6])), (a1, .inl (cs 0, 600, .inl (upd (upd (upd (upd (upd (upd (upd (upd (upd (upd (upd (fun _ => 0) 0 ((x0 >>> (24 &&& 31)) &&& 255)) 1 ((x0 >>> (16 &&& 31)) &&& 255)) 2 ((x0 >>> (8 &&& 31)) &&& 255)) 3 ((x0 >>> (0 &&& 31)) &&& 255)) 4 ((x1 >>> (24 &&& 31)) &&& 255)) 5 ((x1 >>> (16 &&& 31)) &&& 255)) 6 ((x1 >>> (8 &&& 31)) &&& 255)) 7 ((x1 >>> (0 &&& 31)) &&& 255)) 8 ((x2 >>> (24 &&& 31)) &&& 255)) 9 ((x2 >>> (16 &&& 31)) &&& 255)) 10 ((x2 >>> (8 &&& 31)) &&& 255))))] H := hP
  have hD : va_D A [(a0, .inr (9, [.int 0, .ref a1, .int 11, .int 0, .int 0, .int 0, .int 0, .int (-1), .ref a2, .ref a3, .ref a4, .ref a5, .int 0, .int 0, .int 0, .int 0, .int 0, .ref a6])), (a1, .inl (cs 0, 600, .inl (upd (upd (upd (upd (upd (upd (upd (upd (upd (upd (upd (fun _ => 0) 0 ((x0 >>> (24 &&& 31)) &&& 255)) 1 ((x0 >>> (16 &&& 31)) &&& 255)) 2 ((x0 >>> (8 &&& 31)) &&& 255)) 3 ((x0 >>> (0 &&& 31)) &&& 255)) 4 ((x1 >>> (24 &&& 31)) &&& 255)) 5 ((x1 >>> (16 &&& 31)) &&& 255)) 6 ((x1 >>> (8 &&& 31)) &&& 255)) 7 ((x1 >>> (0 &&& 31)) &&& 255)) 8 ((x2 >>> (24 &&& 31)) &&& 255)) 9 ((x2 >>> (16 &&& 31)) &&& 255)) 10 ((x2 >>> (8 &&& 31)) &&& 255))))] := hD
  refine lv_iinc (v := 11) (lv' := [(6, .int 11), (7, .int x2), (0, .ref a0), (1, .int x0), (2, .int x1), (3, .int x2), (4, .int x3), (5, .int x4)]) hx hb dX9_append_114 hl (k := 1) rfl (by decide) (by decide) rfl (fun ls hl => ?_)
  refine lv_goto (tgt := 23) hx hb dX9_append_117 (by decide) ?_
  refine lv_iload hx hb dX9_append_23 (lv_at hl 0 rfl) ?_
  refine lv_bipush (v := 20) hx hb dX9_append_25 (by decide) ?_
  refine lv_icmp_ge (tgt := 120) hx hb dX9_append_27 (by decide) (fun c9 => absurd c9 (by decide)) (fun _ => ?_)
  refine lv_iload hx hb dX9_append_30 (lv_at hl 0 rfl) ?_
  refine lv_iconst (v := 4) hx hb dX9_append_32 (by decide) ?_
  refine lv_icmp_ge (tgt := 40) hx hb dX9_append_33 (by decide) (fun _ => ?_) (fun c9 => absurd (by decide) c9)
  refine lv_iload hx hb dX9_append_40 (lv_at hl 0 rfl) ?_
  refine lv_bipush (v := 8) hx hb dX9_append_42 (by decide) ?_
  refine lv_icmp_ge (tgt := 51) hx hb dX9_append_44 (by decide) (fun _ => ?_) (fun c9 => absurd (by decide) c9)
  refine lv_iload hx hb dX9_append_51 (lv_at hl 0 rfl) ?_
  refine lv_bipush (v := 12) hx hb dX9_append_53 (by decide) ?_
  refine lv_icmp_ge (tgt := 62) hx hb dX9_append_55 (by decide) (fun c9 => absurd c9 (by decide)) (fun _ => ?_)
  refine lv_iload_n hx hb dX9_append_58 rfl (lv_at hl 5 rfl) ?_
  refine lv_goto (tgt := 76) hx hb dX9_append_59 (by decide) ?_
  refine lv_istore (lv' := [(7, .int x2), (6, .int 11), (0, .ref a0), (1, .int x0), (2, .int x1), (3, .int x2), (4, .int x3), (5, .int x4)]) hx hb dX9_append_76 hl (by decide) rfl (fun ls hl => ?_)
  refine lv_aload_n hx hb dX9_append_78 rfl (lv_at hl 2 rfl) ?_
  refine va_get (D := D) (ci := 9) (v := .ref a1) (C := RX9) (T := TX9) (N := 18) hx hb hts iX9_append_9 hown hN.1 hP 0 rfl rfl 1 (by decide) (hts _ mX9_append_3) (fun _ h9 => h9) rfl dX9_append_79 ?_
  refine lv_aload_n hx hb dX9_append_82 rfl (lv_at hl 2 rfl) ?_
  refine va_get (D := D) (ci := 9) (v := .int 11) (C := RX9) (T := TX9) (N := 18) hx hb hts iX9_append_9 hown hN.1 hP 0 rfl rfl 2 (by decide) (hts _ mX9_append_2) (fun _ h9 => h9) rfl dX9_append_83 ?_
  refine lv_iload hx hb dX9_append_86 (lv_at hl 0 rfl) ?_
  refine lv_bipush (v := 24) hx hb dX9_append_88 (by decide) ?_
  refine lv_bipush (v := 8) hx hb dX9_append_90 (by decide) ?_
  refine lv_iload hx hb dX9_append_92 (lv_at hl 1 rfl) ?_
  refine lv_iconst (v := 4) hx hb dX9_append_94 (by decide) ?_
  refine lv_irem hx hb dX9_append_95 (by decide) ?_
  refine tp_i (3) (by decide) ?_
  refine lv_imul hx hb dX9_append_96 ?_
  refine tp_i (24) (by decide) ?_
  refine lv_isub hx hb dX9_append_97 ?_
  refine tp_i (0) (by decide) ?_
  refine lv_ishr hx hb dX9_append_98 ?_
  refine lv_sipush (v := 255) hx hb dX9_append_99 (by decide) ?_
  refine lv_iand hx hb dX9_append_102 ?_
  refine st_i (g := (upd (upd (upd (upd (upd (upd (upd (upd (upd (upd (upd (upd (fun _ => 0) 0 ((x0 >>> (24 &&& 31)) &&& 255)) 1 ((x0 >>> (16 &&& 31)) &&& 255)) 2 ((x0 >>> (8 &&& 31)) &&& 255)) 3 ((x0 >>> (0 &&& 31)) &&& 255)) 4 ((x1 >>> (24 &&& 31)) &&& 255)) 5 ((x1 >>> (16 &&& 31)) &&& 255)) 6 ((x1 >>> (8 &&& 31)) &&& 255)) 7 ((x1 >>> (0 &&& 31)) &&& 255)) 8 ((x2 >>> (24 &&& 31)) &&& 255)) 9 ((x2 >>> (16 &&& 31)) &&& 255)) 10 ((x2 >>> (8 &&& 31)) &&& 255)) 11 ((x2 >>> (0 &&& 31)) &&& 255))) hx hb hN hP hD hS 1 rfl (vin (by decide +kernel)) rfl dX9_append_103 (fun H locs hP hD hS => ?_)
  have hP : va_P D vwCl [(a0, .inr (9, [.int 0, .ref a1, .int 11, .int 0, .int 0, .int 0, .int 0, .int (-1), .ref a2, .ref a3, .ref a4, .ref a5, .int 0, .int 0, .int 0, .int 0, .int 0, .ref a6])), (a1, .inl (cs 0, 600, .inl (upd (upd (upd (upd (upd (upd (upd (upd (upd (upd (upd (upd (fun _ => 0) 0 ((x0 >>> (24 &&& 31)) &&& 255)) 1 ((x0 >>> (16 &&& 31)) &&& 255)) 2 ((x0 >>> (8 &&& 31)) &&& 255)) 3 ((x0 >>> (0 &&& 31)) &&& 255)) 4 ((x1 >>> (24 &&& 31)) &&& 255)) 5 ((x1 >>> (16 &&& 31)) &&& 255)) 6 ((x1 >>> (8 &&& 31)) &&& 255)) 7 ((x1 >>> (0 &&& 31)) &&& 255)) 8 ((x2 >>> (24 &&& 31)) &&& 255)) 9 ((x2 >>> (16 &&& 31)) &&& 255)) 10 ((x2 >>> (8 &&& 31)) &&& 255)) 11 ((x2 >>> (0 &&& 31)) &&& 255))))] H := hP
  have hD : va_D A [(a0, .inr (9, [.int 0, .ref a1, .int 11, .int 0, .int 0, .int 0, .int 0, .int (-1), .ref a2, .ref a3, .ref a4, .ref a5, .int 0, .int 0, .int 0, .int 0, .int 0, .ref a6])), (a1, .inl (cs 0, 600, .inl (upd (upd (upd (upd (upd (upd (upd (upd (upd (upd (upd (upd (fun _ => 0) 0 ((x0 >>> (24 &&& 31)) &&& 255)) 1 ((x0 >>> (16 &&& 31)) &&& 255)) 2 ((x0 >>> (8 &&& 31)) &&& 255)) 3 ((x0 >>> (0 &&& 31)) &&& 255)) 4 ((x1 >>> (24 &&& 31)) &&& 255)) 5 ((x1 >>> (16 &&& 31)) &&& 255)) 6 ((x1 >>> (8 &&& 31)) &&& 255)) 7 ((x1 >>> (0 &&& 31)) &&& 255)) 8 ((x2 >>> (24 &&& 31)) &&& 255)) 9 ((x2 >>> (16 &&& 31)) &&& 255)) 10 ((x2 >>> (8 &&& 31)) &&& 255)) 11 ((x2 >>> (0 &&& 31)) &&& 255))))] := hD
  refine lv_aload_n hx hb dX9_append_104 rfl (lv_at hl 2 rfl) ?_
  refine lv_dup hx hb dX9_append_105 rfl ?_
  refine va_get (D := D) (ci := 9) (v := .int 11) (C := RX9) (T := TX9) (N := 18) hx hb hts iX9_append_9 hown hN.1 hP 0 rfl rfl 2 (by decide) (hts _ mX9_append_2) (fun _ h9 => h9) rfl dX9_append_106 ?_
  refine lv_iconst (v := 1) hx hb dX9_append_109 (by decide) ?_
  refine lv_iadd hx hb dX9_append_110 ?_
  refine tp_i (12) (by decide) ?_
  refine va_put (D := D) (ci := 9) (v := .int 12) (ty := .int) (C := RX9) (T := TX9) (N := 18) hx hb hts iX9_append_9 tyX9 tyX9_ok nmX9 hown hN.1 hP hD hS 0 rfl rfl 2 (by decide) (hts _ mX9_append_2) (fun _ h9 => h9) rfl (by decide +kernel) rfl rfl (Nat.le_of_ble_eq_true rfl) dX9_append_111 (fun H locs hP hD hS => ?_)
  have hP : va_P D vwCl [(a0, .inr (9, [.int 0, .ref a1, .int 12, .int 0, .int 0, .int 0, .int 0, .int (-1), .ref a2, .ref a3, .ref a4, .ref a5, .int 0, .int 0, .int 0, .int 0, .int 0, .ref a6])), (a1, .inl (cs 0, 600, .inl (upd (upd (upd (upd (upd (upd (upd (upd (upd (upd (upd (upd (fun _ => 0) 0 ((x0 >>> (24 &&& 31)) &&& 255)) 1 ((x0 >>> (16 &&& 31)) &&& 255)) 2 ((x0 >>> (8 &&& 31)) &&& 255)) 3 ((x0 >>> (0 &&& 31)) &&& 255)) 4 ((x1 >>> (24 &&& 31)) &&& 255)) 5 ((x1 >>> (16 &&& 31)) &&& 255)) 6 ((x1 >>> (8 &&& 31)) &&& 255)) 7 ((x1 >>> (0 &&& 31)) &&& 255)) 8 ((x2 >>> (24 &&& 31)) &&& 255)) 9 ((x2 >>> (16 &&& 31)) &&& 255)) 10 ((x2 >>> (8 &&& 31)) &&& 255)) 11 ((x2 >>> (0 &&& 31)) &&& 255))))] H := hP
  have hD : va_D A [(a0, .inr (9, [.int 0, .ref a1, .int 12, .int 0, .int 0, .int 0, .int 0, .int (-1), .ref a2, .ref a3, .ref a4, .ref a5, .int 0, .int 0, .int 0, .int 0, .int 0, .ref a6])), (a1, .inl (cs 0, 600, .inl (upd (upd (upd (upd (upd (upd (upd (upd (upd (upd (upd (upd (fun _ => 0) 0 ((x0 >>> (24 &&& 31)) &&& 255)) 1 ((x0 >>> (16 &&& 31)) &&& 255)) 2 ((x0 >>> (8 &&& 31)) &&& 255)) 3 ((x0 >>> (0 &&& 31)) &&& 255)) 4 ((x1 >>> (24 &&& 31)) &&& 255)) 5 ((x1 >>> (16 &&& 31)) &&& 255)) 6 ((x1 >>> (8 &&& 31)) &&& 255)) 7 ((x1 >>> (0 &&& 31)) &&& 255)) 8 ((x2 >>> (24 &&& 31)) &&& 255)) 9 ((x2 >>> (16 &&& 31)) &&& 255)) 10 ((x2 >>> (8 &&& 31)) &&& 255)) 11 ((x2 >>> (0 &&& 31)) &&& 255))))] := hD
  refine lv_iinc (v := 12) (lv' := [(6, .int 12), (7, .int x2), (0, .ref a0), (1, .int x0), (2, .int x1), (3, .int x2), (4, .int x3), (5, .int x4)]) hx hb dX9_append_114 hl (k := 1) rfl (by decide) (by decide) rfl (fun ls hl => ?_)
  refine lv_goto (tgt := 23) hx hb dX9_append_117 (by decide) ?_
  refine lv_iload hx hb dX9_append_23 (lv_at hl 0 rfl) ?_
  refine lv_bipush (v := 20) hx hb dX9_append_25 (by decide) ?_
  refine lv_icmp_ge (tgt := 120) hx hb dX9_append_27 (by decide) (fun c9 => absurd c9 (by decide)) (fun _ => ?_)
  refine lv_iload hx hb dX9_append_30 (lv_at hl 0 rfl) ?_
  refine lv_iconst (v := 4) hx hb dX9_append_32 (by decide) ?_
  refine lv_icmp_ge (tgt := 40) hx hb dX9_append_33 (by decide) (fun _ => ?_) (fun c9 => absurd (by decide) c9)
  refine lv_iload hx hb dX9_append_40 (lv_at hl 0 rfl) ?_
  refine lv_bipush (v := 8) hx hb dX9_append_42 (by decide) ?_
  refine lv_icmp_ge (tgt := 51) hx hb dX9_append_44 (by decide) (fun _ => ?_) (fun c9 => absurd (by decide) c9)
  refine lv_iload hx hb dX9_append_51 (lv_at hl 0 rfl) ?_
  refine lv_bipush (v := 12) hx hb dX9_append_53 (by decide) ?_
  refine lv_icmp_ge (tgt := 62) hx hb dX9_append_55 (by decide) (fun _ => ?_) (fun c9 => absurd (by decide) c9)
  refine lv_iload hx hb dX9_append_62 (lv_at hl 0 rfl) ?_
  refine lv_bipush (v := 16) hx hb dX9_append_64 (by decide) ?_
  refine lv_icmp_ge (tgt := 74) hx hb dX9_append_66 (by decide) (fun c9 => absurd c9 (by decide)) (fun _ => ?_)
  refine lv_iload hx hb dX9_append_69 (lv_at hl 6 rfl) ?_
  refine lv_goto (tgt := 76) hx hb dX9_append_71 (by decide) ?_
  refine lv_istore (lv' := [(7, .int x3), (6, .int 12), (0, .ref a0), (1, .int x0), (2, .int x1), (3, .int x2), (4, .int x3), (5, .int x4)]) hx hb dX9_append_76 hl (by decide) rfl (fun ls hl => ?_)
  refine lv_aload_n hx hb dX9_append_78 rfl (lv_at hl 2 rfl) ?_
  refine va_get (D := D) (ci := 9) (v := .ref a1) (C := RX9) (T := TX9) (N := 18) hx hb hts iX9_append_9 hown hN.1 hP 0 rfl rfl 1 (by decide) (hts _ mX9_append_3) (fun _ h9 => h9) rfl dX9_append_79 ?_
  refine lv_aload_n hx hb dX9_append_82 rfl (lv_at hl 2 rfl) ?_
  refine va_get (D := D) (ci := 9) (v := .int 12) (C := RX9) (T := TX9) (N := 18) hx hb hts iX9_append_9 hown hN.1 hP 0 rfl rfl 2 (by decide) (hts _ mX9_append_2) (fun _ h9 => h9) rfl dX9_append_83 ?_
  refine lv_iload hx hb dX9_append_86 (lv_at hl 0 rfl) ?_
  refine lv_bipush (v := 24) hx hb dX9_append_88 (by decide) ?_
  refine lv_bipush (v := 8) hx hb dX9_append_90 (by decide) ?_
  refine lv_iload hx hb dX9_append_92 (lv_at hl 1 rfl) ?_
  refine lv_iconst (v := 4) hx hb dX9_append_94 (by decide) ?_
  refine lv_irem hx hb dX9_append_95 (by decide) ?_
  refine tp_i (0) (by decide) ?_
  refine lv_imul hx hb dX9_append_96 ?_
  refine tp_i (0) (by decide) ?_
  refine lv_isub hx hb dX9_append_97 ?_
  refine tp_i (24) (by decide) ?_
  refine lv_ishr hx hb dX9_append_98 ?_
  refine lv_sipush (v := 255) hx hb dX9_append_99 (by decide) ?_
  refine lv_iand hx hb dX9_append_102 ?_
  refine st_i (g := (upd (upd (upd (upd (upd (upd (upd (upd (upd (upd (upd (upd (upd (fun _ => 0) 0 ((x0 >>> (24 &&& 31)) &&& 255)) 1 ((x0 >>> (16 &&& 31)) &&& 255)) 2 ((x0 >>> (8 &&& 31)) &&& 255)) 3 ((x0 >>> (0 &&& 31)) &&& 255)) 4 ((x1 >>> (24 &&& 31)) &&& 255)) 5 ((x1 >>> (16 &&& 31)) &&& 255)) 6 ((x1 >>> (8 &&& 31)) &&& 255)) 7 ((x1 >>> (0 &&& 31)) &&& 255)) 8 ((x2 >>> (24 &&& 31)) &&& 255)) 9 ((x2 >>> (16 &&& 31)) &&& 255)) 10 ((x2 >>> (8 &&& 31)) &&& 255)) 11 ((x2 >>> (0 &&& 31)) &&& 255)) 12 ((x3 >>> (24 &&& 31)) &&& 255))) hx hb hN hP hD hS 1 rfl (vin (by decide +kernel)) rfl dX9_append_103 (fun H locs hP hD hS => ?_)
  have hP : va_P D vwCl [(a0, .inr (9, [.int 0, .ref a1, .int 12, .int 0, .int 0, .int 0, .int 0, .int (-1), .ref a2, .ref a3, .ref a4, .ref a5, .int 0, .int 0, .int 0, .int 0, .int 0, .ref a6])), (a1, .inl (cs 0, 600, .inl (upd (upd (upd (upd (upd (upd (upd (upd (upd (upd (upd (upd (upd (fun _ => 0) 0 ((x0 >>> (24 &&& 31)) &&& 255)) 1 ((x0 >>> (16 &&& 31)) &&& 255)) 2 ((x0 >>> (8 &&& 31)) &&& 255)) 3 ((x0 >>> (0 &&& 31)) &&& 255)) 4 ((x1 >>> (24 &&& 31)) &&& 255)) 5 ((x1 >>> (16 &&& 31)) &&& 255)) 6 ((x1 >>> (8 &&& 31)) &&& 255)) 7 ((x1 >>> (0 &&& 31)) &&& 255)) 8 ((x2 >>> (24 &&& 31)) &&& 255)) 9 ((x2 >>> (16 &&& 31)) &&& 255)) 10 ((x2 >>> (8 &&& 31)) &&& 255)) 11 ((x2 >>> (0 &&& 31)) &&& 255)) 12 ((x3 >>> (24 &&& 31)) &&& 255))))] H := hP
  have hD : va_D A [(a0, .inr (9, [.int 0, .ref a1, .int 12, .int 0, .int 0, .int 0, .int 0, .int (-1), .ref a2, .ref a3, .ref a4, .ref a5, .int 0, .int 0, .int 0, .int 0, .int 0, .ref a6])), (a1, .inl (cs 0, 600, .inl (upd (upd (upd (upd (upd (upd (upd (upd (upd (upd (upd (upd (upd (fun _ => 0) 0 ((x0 >>> (24 &&& 31)) &&& 255)) 1 ((x0 >>> (16 &&& 31)) &&& 255)) 2 ((x0 >>> (8 &&& 31)) &&& 255)) 3 ((x0 >>> (0 &&& 31)) &&& 255)) 4 ((x1 >>> (24 &&& 31)) &&& 255)) 5 ((x1 >>> (16 &&& 31)) &&& 255)) 6 ((x1 >>> (8 &&& 31)) &&& 255)) 7 ((x1 >>> (0 &&& 31)) &&& 255)) 8 ((x2 >>> (24 &&& 31)) &&& 255)) 9 ((x2 >>> (16 &&& 31)) &&& 255)) 10 ((x2 >>> (8 &&& 31)) &&& 255)) 11 ((x2 >>> (0 &&& 31)) &&& 255)) 12 ((x3 >>> (24 &&& 31)) &&& 255))))] := hD
  refine lv_aload_n hx hb dX9_append_104 rfl (lv_at hl 2 rfl) ?_
  refine lv_dup hx hb dX9_append_105 rfl ?_
  refine va_get (D := D) (ci := 9) (v := .int 12) (C := RX9) (T := TX9) (N := 18) hx hb hts iX9_append_9 hown hN.1 hP 0 rfl rfl 2 (by decide) (hts _ mX9_append_2) (fun _ h9 => h9) rfl dX9_append_106 ?_
  refine lv_iconst (v := 1) hx hb dX9_append_109 (by decide) ?_
  refine lv_iadd hx hb dX9_append_110 ?_
  refine tp_i (13) (by decide) ?_
  refine va_put (D := D) (ci := 9) (v := .int 13) (ty := .int) (C := RX9) (T := TX9) (N := 18) hx hb hts iX9_append_9 tyX9 tyX9_ok nmX9 hown hN.1 hP hD hS 0 rfl rfl 2 (by decide) (hts _ mX9_append_2) (fun _ h9 => h9) rfl (by decide +kernel) rfl rfl (Nat.le_of_ble_eq_true rfl) dX9_append_111 (fun H locs hP hD hS => ?_)
  have hP : va_P D vwCl [(a0, .inr (9, [.int 0, .ref a1, .int 13, .int 0, .int 0, .int 0, .int 0, .int (-1), .ref a2, .ref a3, .ref a4, .ref a5, .int 0, .int 0, .int 0, .int 0, .int 0, .ref a6])), (a1, .inl (cs 0, 600, .inl (upd (upd (upd (upd (upd (upd (upd (upd (upd (upd (upd (upd (upd (fun _ => 0) 0 ((x0 >>> (24 &&& 31)) &&& 255)) 1 ((x0 >>> (16 &&& 31)) &&& 255)) 2 ((x0 >>> (8 &&& 31)) &&& 255)) 3 ((x0 >>> (0 &&& 31)) &&& 255)) 4 ((x1 >>> (24 &&& 31)) &&& 255)) 5 ((x1 >>> (16 &&& 31)) &&& 255)) 6 ((x1 >>> (8 &&& 31)) &&& 255)) 7 ((x1 >>> (0 &&& 31)) &&& 255)) 8 ((x2 >>> (24 &&& 31)) &&& 255)) 9 ((x2 >>> (16 &&& 31)) &&& 255)) 10 ((x2 >>> (8 &&& 31)) &&& 255)) 11 ((x2 >>> (0 &&& 31)) &&& 255)) 12 ((x3 >>> (24 &&& 31)) &&& 255))))] H := hP
  have hD : va_D A [(a0, .inr (9, [.int 0, .ref a1, .int 13, .int 0, .int 0, .int 0, .int 0, .int (-1), .ref a2, .ref a3, .ref a4, .ref a5, .int 0, .int 0, .int 0, .int 0, .int 0, .ref a6])), (a1, .inl (cs 0, 600, .inl (upd (upd (upd (upd (upd (upd (upd (upd (upd (upd (upd (upd (upd (fun _ => 0) 0 ((x0 >>> (24 &&& 31)) &&& 255)) 1 ((x0 >>> (16 &&& 31)) &&& 255)) 2 ((x0 >>> (8 &&& 31)) &&& 255)) 3 ((x0 >>> (0 &&& 31)) &&& 255)) 4 ((x1 >>> (24 &&& 31)) &&& 255)) 5 ((x1 >>> (16 &&& 31)) &&& 255)) 6 ((x1 >>> (8 &&& 31)) &&& 255)) 7 ((x1 >>> (0 &&& 31)) &&& 255)) 8 ((x2 >>> (24 &&& 31)) &&& 255)) 9 ((x2 >>> (16 &&& 31)) &&& 255)) 10 ((x2 >>> (8 &&& 31)) &&& 255)) 11 ((x2 >>> (0 &&& 31)) &&& 255)) 12 ((x3 >>> (24 &&& 31)) &&& 255))))] := hD
  refine lv_iinc (v := 13) (lv' := [(6, .int 13), (7, .int x3), (0, .ref a0), (1, .int x0), (2, .int x1), (3, .int x2), (4, .int x3), (5, .int x4)]) hx hb dX9_append_114 hl (k := 1) rfl (by decide) (by decide) rfl (fun ls hl => ?_)
  refine lv_goto (tgt := 23) hx hb dX9_append_117 (by decide) ?_
  refine lv_iload hx hb dX9_append_23 (lv_at hl 0 rfl) ?_
  refine lv_bipush (v := 20) hx hb dX9_append_25 (by decide) ?_
  refine lv_icmp_ge (tgt := 120) hx hb dX9_append_27 (by decide) (fun c9 => absurd c9 (by decide)) (fun _ => ?_)
  refine lv_iload hx hb dX9_append_30 (lv_at hl 0 rfl) ?_
  refine lv_iconst (v := 4) hx hb dX9_append_32 (by decide) ?_
  refine lv_icmp_ge (tgt := 40) hx hb dX9_append_33 (by decide) (fun _ => ?_) (fun c9 => absurd (by decide) c9)
  refine lv_iload hx hb dX9_append_40 (lv_at hl 0 rfl) ?_
  refine lv_bipush (v := 8) hx hb dX9_append_42 (by decide) ?_
  refine lv_icmp_ge (tgt := 51) hx hb dX9_append_44 (by decide) (fun _ => ?_) (fun c9 => absurd (by decide) c9)
  refine lv_iload hx hb dX9_append_51 (lv_at hl 0 rfl) ?_
  refine lv_bipush (v := 12) hx hb dX9_append_53 (by decide) ?_
  refine lv_icmp_ge (tgt := 62) hx hb dX9_append_55 (by decide) (fun _ => ?_) (fun c9 => absurd (by decide) c9)
  refine lv_iload hx hb dX9_append_62 (lv_at hl 0 rfl) ?_
  refine lv_bipush (v := 16) hx hb dX9_append_64 (by decide) ?_
  refine lv_icmp_ge (tgt := 74) hx hb dX9_append_66 (by decide) (fun c9 => absurd c9 (by decide)) (fun _ => ?_)
  refine lv_iload hx hb dX9_append_69 (lv_at hl 6 rfl) ?_
  refine lv_goto (tgt := 76) hx hb dX9_append_71 (by decide) ?_
  refine lv_istore (lv' := [(7, .int x3), (6, .int 13), (0, .ref a0), (1, .int x0), (2, .int x1), (3, .int x2), (4, .int x3), (5, .int x4)]) hx hb dX9_append_76 hl (by decide) rfl (fun ls hl => ?_)
  refine lv_aload_n hx hb dX9_append_78 rfl (lv_at hl 2 rfl) ?_
  refine va_get (D := D) (ci := 9) (v := .ref a1) (C := RX9) (T := TX9) (N := 18) hx hb hts iX9_append_9 hown hN.1 hP 0 rfl rfl 1 (by decide) (hts _ mX9_append_3) (fun _ h9 => h9) rfl dX9_append_79 ?_
  refine lv_aload_n hx hb dX9_append_82 rfl (lv_at hl 2 rfl) ?_
  refine va_get (D := D) (ci := 9) (v := .int 13) (C := RX9) (T := TX9) (N := 18) hx hb hts iX9_append_9 hown hN.1 hP 0 rfl rfl 2 (by decide) (hts _ mX9_append_2) (fun _ h9 => h9) rfl dX9_append_83 ?_
  refine lv_iload hx hb dX9_append_86 (lv_at hl 0 rfl) ?_
  refine lv_bipush (v := 24) hx hb dX9_append_88 (by decide) ?_
  refine lv_bipush (v := 8) hx hb dX9_append_90 (by decide) ?_
  refine lv_iload hx hb dX9_append_92 (lv_at hl 1 rfl) ?_
  refine lv_iconst (v := 4) hx hb dX9_append_94 (by decide) ?_
  refine lv_irem hx hb dX9_append_95 (by decide) ?_
  refine tp_i (1) (by decide) ?_
  refine lv_imul hx hb dX9_append_96 ?_
  refine tp_i (8) (by decide) ?_
  refine lv_isub hx hb dX9_append_97 ?_
  refine tp_i (16) (by decide) ?_
  refine lv_ishr hx hb dX9_append_98 ?_
  refine lv_sipush (v := 255) hx hb dX9_append_99 (by decide) ?_
  refine lv_iand hx hb dX9_append_102 ?_
  refine st_i (g := (upd (upd (upd (upd (upd (upd (upd (upd (upd (upd (upd (upd (upd (upd (fun _ => 0) 0 ((x0 >>> (24 &&& 31)) &&& 255)) 1 ((x0 >>> (16 &&& 31)) &&& 255)) 2 ((x0 >>> (8 &&& 31)) &&& 255)) 3 ((x0 >>> (0 &&& 31)) &&& 255)) 4 ((x1 >>> (24 &&& 31)) &&& 255)) 5 ((x1 >>> (16 &&& 31)) &&& 255)) 6 ((x1 >>> (8 &&& 31)) &&& 255)) 7 ((x1 >>> (0 &&& 31)) &&& 255)) 8 ((x2 >>> (24 &&& 31)) &&& 255)) 9 ((x2 >>> (16 &&& 31)) &&& 255)) 10 ((x2 >>> (8 &&& 31)) &&& 255)) 11 ((x2 >>> (0 &&& 31)) &&& 255)) 12 ((x3 >>> (24 &&& 31)) &&& 255)) 13 ((x3 >>> (16 &&& 31)) &&& 255))) hx hb hN hP hD hS 1 rfl (vin (by decide +kernel)) rfl dX9_append_103 (fun H locs hP hD hS => ?_)
  have hP : va_P D vwCl [(a0, .inr (9, [.int 0, .ref a1, .int 13, .int 0, .int 0, .int 0, .int 0, .int (-1), .ref a2, .ref a3, .ref a4, .ref a5, .int 0, .int 0, .int 0, .int 0, .int 0, .ref a6])), (a1, .inl (cs 0, 600, .inl (upd (upd (upd (upd (upd (upd (upd (upd (upd (upd (upd (upd (upd (upd (fun _ => 0) 0 ((x0 >>> (24 &&& 31)) &&& 255)) 1 ((x0 >>> (16 &&& 31)) &&& 255)) 2 ((x0 >>> (8 &&& 31)) &&& 255)) 3 ((x0 >>> (0 &&& 31)) &&& 255)) 4 ((x1 >>> (24 &&& 31)) &&& 255)) 5 ((x1 >>> (16 &&& 31)) &&& 255)) 6 ((x1 >>> (8 &&& 31)) &&& 255)) 7 ((x1 >>> (0 &&& 31)) &&& 255)) 8 ((x2 >>> (24 &&& 31)) &&& 255)) 9 ((x2 >>> (16 &&& 31)) &&& 255)) 10 ((x2 >>> (8 &&& 31)) &&& 255)) 11 ((x2 >>> (0 &&& 31)) &&& 255)) 12 ((x3 >>> (24 &&& 31)) &&& 255)) 13 ((x3 >>> (16 &&& 31)) &&& 255))))] H := hP
  have hD : va_D A [(a0, .inr (9, [.int 0, .ref a1, .int 13, .int 0, .int 0, .int 0, .int 0, .int (-1), .ref a2, .ref a3, .ref a4, .ref a5, .int 0, .int 0, .int 0, .int 0, .int 0, .ref a6])), (a1, .inl (cs 0, 600, .inl (upd (upd (upd (upd (upd (upd (upd (upd (upd (upd (upd (upd (upd (upd (fun _ => 0) 0 ((x0 >>> (24 &&& 31)) &&& 255)) 1 ((x0 >>> (16 &&& 31)) &&& 255)) 2 ((x0 >>> (8 &&& 31)) &&& 255)) 3 ((x0 >>> (0 &&& 31)) &&& 255)) 4 ((x1 >>> (24 &&& 31)) &&& 255)) 5 ((x1 >>> (16 &&& 31)) &&& 255)) 6 ((x1 >>> (8 &&& 31)) &&& 255)) 7 ((x1 >>> (0 &&& 31)) &&& 255)) 8 ((x2 >>> (24 &&& 31)) &&& 255)) 9 ((x2 >>> (16 &&& 31)) &&& 255)) 10 ((x2 >>> (8 &&& 31)) &&& 255)) 11 ((x2 >>> (0 &&& 31)) &&& 255)) 12 ((x3 >>> (24 &&& 31)) &&& 255)) 13 ((x3 >>> (16 &&& 31)) &&& 255))))] := hD
  refine lv_aload_n hx hb dX9_append_104 rfl (lv_at hl 2 rfl) ?_
  refine lv_dup hx hb dX9_append_105 rfl ?_
  refine va_get (D := D) (ci := 9) (v := .int 13) (C := RX9) (T := TX9) (N := 18) hx hb hts iX9_append_9 hown hN.1 hP 0 rfl rfl 2 (by decide) (hts _ mX9_append_2) (fun _ h9 => h9) rfl dX9_append_106 ?_
  refine lv_iconst (v := 1) hx hb dX9_append_109 (by decide) ?_
  refine lv_iadd hx hb dX9_append_110 ?_
  refine tp_i (14) (by decide) ?_
  refine va_put (D := D) (ci := 9) (v := .int 14) (ty := .int) (C := RX9) (T := TX9) (N := 18) hx hb hts iX9_append_9 tyX9 tyX9_ok nmX9 hown hN.1 hP hD hS 0 rfl rfl 2 (by decide) (hts _ mX9_append_2) (fun _ h9 => h9) rfl (by decide +kernel) rfl rfl (Nat.le_of_ble_eq_true rfl) dX9_append_111 (fun H locs hP hD hS => ?_)
  have hP : va_P D vwCl [(a0, .inr (9, [.int 0, .ref a1, .int 14, .int 0, .int 0, .int 0, .int 0, .int (-1), .ref a2, .ref a3, .ref a4, .ref a5, .int 0, .int 0, .int 0, .int 0, .int 0, .ref a6])), (a1, .inl (cs 0, 600, .inl (upd (upd (upd (upd (upd (upd (upd (upd (upd (upd (upd (upd (upd (upd (fun _ => 0) 0 ((x0 >>> (24 &&& 31)) &&& 255)) 1 ((x0 >>> (16 &&& 31)) &&& 255)) 2 ((x0 >>> (8 &&& 31)) &&& 255)) 3 ((x0 >>> (0 &&& 31)) &&& 255)) 4 ((x1 >>> (24 &&& 31)) &&& 255)) 5 ((x1 >>> (16 &&& 31)) &&& 255)) 6 ((x1 >>> (8 &&& 31)) &&& 255)) 7 ((x1 >>> (0 &&& 31)) &&& 255)) 8 ((x2 >>> (24 &&& 31)) &&& 255)) 9 ((x2 >>> (16 &&& 31)) &&& 255)) 10 ((x2 >>> (8 &&& 31)) &&& 255)) 11 ((x2 >>> (0 &&& 31)) &&& 255)) 12 ((x3 >>> (24 &&& 31)) &&& 255)) 13 ((x3 >>> (16 &&& 31)) &&& 255))))] H := hP
  have hD : va_D A [(a0, .inr (9, [.int 0, .ref a1, .int 14, .int 0, .int 0, .int 0, .int 0, .int (-1), .ref a2, .ref a3, .ref a4, .ref a5, .int 0, .int 0, .int 0, .int 0, .int 0, .ref a6])), (a1, .inl (cs 0, 600, .inl (upd (upd (upd (upd (upd (upd (upd (upd (upd (upd (upd (upd (upd (upd (fun _ => 0) 0 ((x0 >>> (24 &&& 31)) &&& 255)) 1 ((x0 >>> (16 &&& 31)) &&& 255)) 2 ((x0 >>> (8 &&& 31)) &&& 255)) 3 ((x0 >>> (0 &&& 31)) &&& 255)) 4 ((x1 >>> (24 &&& 31)) &&& 255)) 5 ((x1 >>> (16 &&& 31)) &&& 255)) 6 ((x1 >>> (8 &&& 31)) &&& 255)) 7 ((x1 >>> (0 &&& 31)) &&& 255)) 8 ((x2 >>> (24 &&& 31)) &&& 255)) 9 ((x2 >>> (16 &&& 31)) &&& 255)) 10 ((x2 >>> (8 &&& 31)) &&& 255)) 11 ((x2 >>> (0 &&& 31)) &&& 255)) 12 ((x3 >>> (24 &&& 31)) &&& 255)) 13 ((x3 >>> (16 &&& 31)) &&& 255))))] := hD
  refine lv_iinc (v := 14) (lv' := [(6, .int 14), (7, .int x3), (0, .ref a0), (1, .int x0), (2, .int x1), (3, .int x2), (4, .int x3), (5, .int x4)]) hx hb dX9_append_114 hl (k := 1) rfl (by decide) (by decide) rfl (fun ls hl => ?_)
  refine lv_goto (tgt := 23) hx hb dX9_append_117 (by decide) ?_
  refine lv_iload hx hb dX9_append_23 (lv_at hl 0 rfl) ?_
  refine lv_bipush (v := 20) hx hb dX9_append_25 (by decide) ?_
  refine lv_icmp_ge (tgt := 120) hx hb dX9_append_27 (by decide) (fun c9 => absurd c9 (by decide)) (fun _ => ?_)
  refine lv_iload hx hb dX9_append_30 (lv_at hl 0 rfl) ?_
  refine lv_iconst (v := 4) hx hb dX9_append_32 (by decide) ?_
  refine lv_icmp_ge (tgt := 40) hx hb dX9_append_33 (by decide) (fun _ => ?_) (fun c9 => absurd (by decide) c9)
  refine lv_iload hx hb dX9_append_40 (lv_at hl 0 rfl) ?_
  refine lv_bipush (v := 8) hx hb dX9_append_42 (by decide) ?_
  refine lv_icmp_ge (tgt := 51) hx hb dX9_append_44 (by decide) (fun _ => ?_) (fun c9 => absurd (by decide) c9)
  refine lv_iload hx hb dX9_append_51 (lv_at hl 0 rfl) ?_
  refine lv_bipush (v := 12) hx hb dX9_append_53 (by decide) ?_
  refine lv_icmp_ge (tgt := 62) hx hb dX9_append_55 (by decide) (fun _ => ?_) (fun c9 => absurd (by decide) c9)
  refine lv_iload hx hb dX9_append_62 (lv_at hl 0 rfl) ?_
  refine lv_bipush (v := 16) hx hb dX9_append_64 (by decide) ?_
  refine lv_icmp_ge (tgt := 74) hx hb dX9_append_66 (by decide) (fun c9 => absurd c9 (by decide)) (fun _ => ?_)
  refine lv_iload hx hb dX9_append_69 (lv_at hl 6 rfl) ?_
  refine lv_goto (tgt := 76) hx hb dX9_append_71 (by decide) ?_
  refine lv_istore (lv' := [(7, .int x3), (6, .int 14), (0, .ref a0), (1, .int x0), (2, .int x1), (3, .int x2), (4, .int x3), (5, .int x4)]) hx hb dX9_append_76 hl (by decide) rfl (fun ls hl => ?_)
  refine lv_aload_n hx hb dX9_append_78 rfl (lv_at hl 2 rfl) ?_
  refine va_get (D := D) (ci := 9) (v := .ref a1) (C := RX9) (T := TX9) (N := 18) hx hb hts iX9_append_9 hown hN.1 hP 0 rfl rfl 1 (by decide) (hts _ mX9_append_3) (fun _ h9 => h9) rfl dX9_append_79 ?_
  refine lv_aload_n hx hb dX9_append_82 rfl (lv_at hl 2 rfl) ?_
  refine va_get (D := D) (ci := 9) (v := .int 14) (C := RX9) (T := TX9) (N := 18) hx hb hts iX9_append_9 hown hN.1 hP 0 rfl rfl 2 (by decide) (hts _ mX9_append_2) (fun _ h9 => h9) rfl dX9_append_83 ?_
  refine lv_iload hx hb dX9_append_86 (lv_at hl 0 rfl) ?_
  refine lv_bipush (v := 24) hx hb dX9_append_88 (by decide) ?_
  refine lv_bipush (v := 8) hx hb dX9_append_90 (by decide) ?_
  refine lv_iload hx hb dX9_append_92 (lv_at hl 1 rfl) ?_
  refine lv_iconst (v := 4) hx hb dX9_append_94 (by decide) ?_
  refine lv_irem hx hb dX9_append_95 (by decide) ?_
  refine tp_i (2) (by decide) ?_
  refine lv_imul hx hb dX9_append_96 ?_
  refine tp_i (16) (by decide) ?_
  refine lv_isub hx hb dX9_append_97 ?_
  refine tp_i (8) (by decide) ?_
  refine lv_ishr hx hb dX9_append_98 ?_
  refine lv_sipush (v := 255) hx hb dX9_append_99 (by decide) ?_
  refine lv_iand hx hb dX9_append_102 ?_
  refine st_i (g := (upd (upd (upd (upd (upd (upd (upd (upd (upd (upd (upd (upd (upd (upd (upd (fun _ => 0) 0 ((x0 >>> (24 &&& 31)) &&& 255)) 1 ((x0 >>> (16 &&& 31)) &&& 255)) 2 ((x0 >>> (8 &&& 31)) &&& 255)) 3 ((x0 >>> (0 &&& 31)) &&& 255)) 4 ((x1 >>> (24 &&& 31)) &&& 255)) 5 ((x1 >>> (16 &&& 31)) &&& 255)) 6 ((x1 >>> (8 &&& 31)) &&& 255)) 7 ((x1 >>> (0 &&& 31)) &&& 255)) 8 ((x2 >>> (24 &&& 31)) &&& 255)) 9 ((x2 >>> (16 &&& 31)) &&& 255)) 10 ((x2 >>> (8 &&& 31)) &&& 255)) 11 ((x2 >>> (0 &&& 31)) &&& 255)) 12 ((x3 >>> (24 &&& 31)) &&& 255)) 13 ((x3 >>> (16 &&& 31)) &&& 255)) 14 ((x3 >>> (8 &&& 31)) &&& 255))) hx hb hN hP hD hS 1 rfl (vin (by decide +kernel)) rfl dX9_append_103 (fun H locs hP hD hS => ?_)
  have hP : va_P D vwCl [(a0, .inr (9, [.int 0, .ref a1, .int 14, .int 0, .int 0, .int 0, .int 0, .int (-1), .ref a2, .ref a3, .ref a4, .ref a5, .int 0, .int 0, .int 0, .int 0, .int 0, .ref a6])), (a1, .inl (cs 0, 600, .inl (upd (upd (upd (upd (upd (upd (upd (upd (upd (upd (upd (upd (upd (upd (upd (fun _ => 0) 0 ((x0 >>> (24 &&& 31)) &&& 255)) 1 ((x0 >>> (16 &&& 31)) &&& 255)) 2 ((x0 >>> (8 &&& 31)) &&& 255)) 3 ((x0 >>> (0 &&& 31)) &&& 255)) 4 ((x1 >>> (24 &&& 31)) &&& 255)) 5 ((x1 >>> (16 &&& 31)) &&& 255)) 6 ((x1 >>> (8 &&& 31)) &&& 255)) 7 ((x1 >>> (0 &&& 31)) &&& 255)) 8 ((x2 >>> (24 &&& 31)) &&& 255)) 9 ((x2 >>> (16 &&& 31)) &&& 255)) 10 ((x2 >>> (8 &&& 31)) &&& 255)) 11 ((x2 >>> (0 &&& 31)) &&& 255)) 12 ((x3 >>> (24 &&& 31)) &&& 255)) 13 ((x3 >>> (16 &&& 31)) &&& 255)) 14 ((x3 >>> (8 &&& 31)) &&& 255))))] H := hP
  have hD : va_D A [(a0, .inr (9, [.int 0, .ref a1, .int 14, .int 0, .int 0, .int 0, .int 0, .int (-1), .ref a2, .ref a3, .ref a4, .ref a5, .int 0, .int 0, .int 0, .int 0, .int 0, .ref a6])), (a1, .inl (cs 0, 600, .inl (upd (upd (upd (upd (upd (upd (upd (upd (upd (upd (upd (upd (upd (upd (upd (fun _ => 0) 0 ((x0 >>> (24 &&& 31)) &&& 255)) 1 ((x0 >>> (16 &&& 31)) &&& 255)) 2 ((x0 >>> (8 &&& 31)) &&& 255)) 3 ((x0 >>> (0 &&& 31)) &&& 255)) 4 ((x1 >>> (24 &&& 31)) &&& 255)) 5 ((x1 >>> (16 &&& 31)) &&& 255)) 6 ((x1 >>> (8 &&& 31)) &&& 255)) 7 ((x1 >>> (0 &&& 31)) &&& 255)) 8 ((x2 >>> (24 &&& 31)) &&& 255)) 9 ((x2 >>> (16 &&& 31)) &&& 255)) 10 ((x2 >>> (8 &&& 31)) &&& 255)) 11 ((x2 >>> (0 &&& 31)) &&& 255)) 12 ((x3 >>> (24 &&& 31)) &&& 255)) 13 ((x3 >>> (16 &&& 31)) &&& 255)) 14 ((x3 >>> (8 &&& 31)) &&& 255))))] := hD
  refine lv_aload_n hx hb dX9_append_104 rfl (lv_at hl 2 rfl) ?_
  refine lv_dup hx hb dX9_append_105 rfl ?_
  refine va_get (D := D) (ci := 9) (v := .int 14) (C := RX9) (T := TX9) (N := 18) hx hb hts iX9_append_9 hown hN.1 hP 0 rfl rfl 2 (by decide) (hts _ mX9_append_2) (fun _ h9 => h9) rfl dX9_append_106 ?_
  refine lv_iconst (v := 1) hx hb dX9_append_109 (by decide) ?_
  refine lv_iadd hx hb dX9_append_110 ?_
  refine tp_i (15) (by decide) ?_
  refine va_put (D := D) (ci := 9) (v := .int 15) (ty := .int) (C := RX9) (T := TX9) (N := 18) hx hb hts iX9_append_9 tyX9 tyX9_ok nmX9 hown hN.1 hP hD hS 0 rfl rfl 2 (by decide) (hts _ mX9_append_2) (fun _ h9 => h9) rfl (by decide +kernel) rfl rfl (Nat.le_of_ble_eq_true rfl) dX9_append_111 (fun H locs hP hD hS => ?_)
  have hP : va_P D vwCl [(a0, .inr (9, [.int 0, .ref a1, .int 15, .int 0, .int 0, .int 0, .int 0, .int (-1), .ref a2, .ref a3, .ref a4, .ref a5, .int 0, .int 0, .int 0, .int 0, .int 0, .ref a6])), (a1, .inl (cs 0, 600, .inl (upd (upd (upd (upd (upd (upd (upd (upd (upd (upd (upd (upd (upd (upd (upd (fun _ => 0) 0 ((x0 >>> (24 &&& 31)) &&& 255)) 1 ((x0 >>> (16 &&& 31)) &&& 255)) 2 ((x0 >>> (8 &&& 31)) &&& 255)) 3 ((x0 >>> (0 &&& 31)) &&& 255)) 4 ((x1 >>> (24 &&& 31)) &&& 255)) 5 ((x1 >>> (16 &&& 31)) &&& 255)) 6 ((x1 >>> (8 &&& 31)) &&& 255)) 7 ((x1 >>> (0 &&& 31)) &&& 255)) 8 ((x2 >>> (24 &&& 31)) &&& 255)) 9 ((x2 >>> (16 &&& 31)) &&& 255)) 10 ((x2 >>> (8 &&& 31)) &&& 255)) 11 ((x2 >>> (0 &&& 31)) &&& 255)) 12 ((x3 >>> (24 &&& 31)) &&& 255)) 13 ((x3 >>> (16 &&& 31)) &&& 255)) 14 ((x3 >>> (8 &&& 31)) &&& 255))))] H := hP
  have hD : va_D A [(a0, .inr (9, [.int 0, .ref a1, .int 15, .int 0, .int 0, .int 0, .int 0, .int (-1), .ref a2, .ref a3, .ref a4, .ref a5, .int 0, .int 0, .int 0, .int 0, .int 0, .ref a6])), (a1, .inl (cs 0, 600, .inl (upd (upd (upd (upd (upd (upd (upd (upd (upd (upd (upd (upd (upd (upd (upd (fun _ => 0) 0 ((x0 >>> (24 &&& 31)) &&& 255)) 1 ((x0 >>> (16 &&& 31)) &&& 255)) 2 ((x0 >>> (8 &&& 31)) &&& 255)) 3 ((x0 >>> (0 &&& 31)) &&& 255)) 4 ((x1 >>> (24 &&& 31)) &&& 255)) 5 ((x1 >>> (16 &&& 31)) &&& 255)) 6 ((x1 >>> (8 &&& 31)) &&& 255)) 7 ((x1 >>> (0 &&& 31)) &&& 255)) 8 ((x2 >>> (24 &&& 31)) &&& 255)) 9 ((x2 >>> (16 &&& 31)) &&& 255)) 10 ((x2 >>> (8 &&& 31)) &&& 255)) 11 ((x2 >>> (0 &&& 31)) &&& 255)) 12 ((x3 >>> (24 &&& 31)) &&& 255)) 13 ((x3 >>> (16 &&& 31)) &&& 255)) 14 ((x3 >>> (8 &&& 31)) &&& 255))))] := hD
  refine lv_iinc (v := 15) (lv' := [(6, .int 15), (7, .int x3), (0, .ref a0), (1, .int x0), (2, .int x1), (3, .int x2), (4, .int x3), (5, .int x4)]) hx hb dX9_append_114 hl (k := 1) rfl (by decide) (by decide) rfl (fun ls hl => ?_)
  refine lv_goto (tgt := 23) hx hb dX9_append_117 (by decide) ?_
  refine lv_iload hx hb dX9_append_23 (lv_at hl 0 rfl) ?_
  refine lv_bipush (v := 20) hx hb dX9_append_25 (by decide) ?_
  refine lv_icmp_ge (tgt := 120) hx hb dX9_append_27 (by decide) (fun c9 => absurd c9 (by decide)) (fun _ => ?_)
  refine lv_iload hx hb dX9_append_30 (lv_at hl 0 rfl) ?_
  refine lv_iconst (v := 4) hx hb dX9_append_32 (by decide) ?_
  refine lv_icmp_ge (tgt := 40) hx hb dX9_append_33 (by decide) (fun _ => ?_) (fun c9 => absurd (by decide) c9)
  refine lv_iload hx hb dX9_append_40 (lv_at hl 0 rfl) ?_
  refine lv_bipush (v := 8) hx hb dX9_append_42 (by decide) ?_
  refine lv_icmp_ge (tgt := 51) hx hb dX9_append_44 (by decide) (fun _ => ?_) (fun c9 => absurd (by decide) c9)
  refine lv_iload hx hb dX9_append_51 (lv_at hl 0 rfl) ?_
  refine lv_bipush (v := 12) hx hb dX9_append_53 (by decide) ?_
  refine lv_icmp_ge (tgt := 62) hx hb dX9_append_55 (by decide) (fun _ => ?_) (fun c9 => absurd (by decide) c9)
  refine lv_iload hx hb dX9_append_62 (lv_at hl 0 rfl) ?_
  refine lv_bipush (v := 16) hx hb dX9_append_64 (by decide) ?_
  refine lv_icmp_ge (tgt := 74) hx hb dX9_append_66 (by decide) (fun c9 => absurd c9 (by decide)) (fun _ => ?_)
  refine lv_iload hx hb dX9_append_69 (lv_at hl 6 rfl) ?_
  refine lv_goto (tgt := 76) hx hb dX9_append_71 (by decide) ?_
  refine lv_istore (lv' := [(7, .int x3), (6, .int 15), (0, .ref a0), (1, .int x0), (2, .int x1), (3, .int x2), (4, .int x3), (5, .int x4)]) hx hb dX9_append_76 hl (by decide) rfl (fun ls hl => ?_)
  refine lv_aload_n hx hb dX9_append_78 rfl (lv_at hl 2 rfl) ?_
  refine va_get (D := D) (ci := 9) (v := .ref a1) (C := RX9) (T := TX9) (N := 18) hx hb hts iX9_append_9 hown hN.1 hP 0 rfl rfl 1 (by decide) (hts _ mX9_append_3) (fun _ h9 => h9) rfl dX9_append_79 ?_
  refine lv_aload_n hx hb dX9_append_82 rfl (lv_at hl 2 rfl) ?_
  refine va_get (D := D) (ci := 9) (v := .int 15) (C := RX9) (T := TX9) (N := 18) hx hb hts iX9_append_9 hown hN.1 hP 0 rfl rfl 2 (by decide) (hts _ mX9_append_2) (fun _ h9 => h9) rfl dX9_append_83 ?_
  refine lv_iload hx hb dX9_append_86 (lv_at hl 0 rfl) ?_
  refine lv_bipush (v := 24) hx hb dX9_append_88 (by decide) ?_
  refine lv_bipush (v := 8) hx hb dX9_append_90 (by decide) ?_
  refine lv_iload hx hb dX9_append_92 (lv_at hl 1 rfl) ?_
  refine lv_iconst (v := 4) hx hb dX9_append_94 (by decide) ?_
  refine lv_irem hx hb dX9_append_95 (by decide) ?_
  refine tp_i (3) (by decide) ?_
  refine lv_imul hx hb dX9_append_96 ?_
  refine tp_i (24) (by decide) ?_
  refine lv_isub hx hb dX9_append_97 ?_
  refine tp_i (0) (by decide) ?_
  refine lv_ishr hx hb dX9_append_98 ?_
  refine lv_sipush (v := 255) hx hb dX9_append_99 (by decide) ?_
  refine lv_iand hx hb dX9_append_102 ?_
  refine st_i (g := (upd (upd (upd (upd (upd (upd (upd (upd (upd (upd (upd (upd (upd (upd (upd (upd (fun _ => 0) 0 ((x0 >>> (24 &&& 31)) &&& 255)) 1 ((x0 >>> (16 &&& 31)) &&& 255)) 2 ((x0 >>> (8 &&& 31)) &&& 255)) 3 ((x0 >>> (0 &&& 31)) &&& 255)) 4 ((x1 >>> (24 &&& 31)) &&& 255)) 5 ((x1 >>> (16 &&& 31)) &&& 255)) 6 ((x1 >>> (8 &&& 31)) &&& 255)) 7 ((x1 >>> (0 &&& 31)) &&& 255)) 8 ((x2 >>> (24 &&& 31)) &&& 255)) 9 ((x2 >>> (16 &&& 31)) &&& 255)) 10 ((x2 >>> (8 &&& 31)) &&& 255)) 11 ((x2 >>> (0 &&& 31)) &&& 255)) 12 ((x3 >>> (24 &&& 31)) &&& 255)) 13 ((x3 >>> (16 &&& 31)) &&& 255)) 14 ((x3 >>> (8 &&& 31)) &&& 255)) 15 ((x3 >>> (0 &&& 31)) &&& 255))) hx hb hN hP hD hS 1 rfl (vin (by decide +kernel)) rfl dX9_append_103 (fun H locs hP hD hS => ?_)
  have hP : va_P D vwCl [(a0, .inr (9, [.int 0, .ref a1, .int 15, .int 0, .int 0, .int 0, .int 0, .int (-1), .ref a2, .ref a3, .ref a4, .ref a5, .int 0, .int 0, .int 0, .int 0, .int 0, .ref a6])), (a1, .inl (cs 0, 600, .inl (upd (upd (upd (upd (upd (upd (upd (upd (upd (upd (upd (upd (upd (upd (upd (upd (fun _ => 0) 0 ((x0 >>> (24 &&& 31)) &&& 255)) 1 ((x0 >>> (16 &&& 31)) &&& 255)) 2 ((x0 >>> (8 &&& 31)) &&& 255)) 3 ((x0 >>> (0 &&& 31)) &&& 255)) 4 ((x1 >>> (24 &&& 31)) &&& 255)) 5 ((x1 >>> (16 &&& 31)) &&& 255)) 6 ((x1 >>> (8 &&& 31)) &&& 255)) 7 ((x1 >>> (0 &&& 31)) &&& 255)) 8 ((x2 >>> (24 &&& 31)) &&& 255)) 9 ((x2 >>> (16 &&& 31)) &&& 255)) 10 ((x2 >>> (8 &&& 31)) &&& 255)) 11 ((x2 >>> (0 &&& 31)) &&& 255)) 12 ((x3 >>> (24 &&& 31)) &&& 255)) 13 ((x3 >>> (16 &&& 31)) &&& 255)) 14 ((x3 >>> (8 &&& 31)) &&& 255)) 15 ((x3 >>> (0 &&& 31)) &&& 255))))] H := hP
  have hD : va_D A [(a0, .inr (9, [.int 0, .ref a1, .int 15, .int 0, .int 0, .int 0, .int 0, .int (-1), .ref a2, .ref a3, .ref a4, .ref a5, .int 0, .int 0, .int 0, .int 0, .int 0, .ref a6])), (a1, .inl (cs 0, 600, .inl (upd (upd (upd (upd (upd (upd (upd (upd (upd (upd (upd (upd (upd (upd (upd (upd (fun _ => 0) 0 ((x0 >>> (24 &&& 31)) &&& 255)) 1 ((x0 >>> (16 &&& 31)) &&& 255)) 2 ((x0 >>> (8 &&& 31)) &&& 255)) 3 ((x0 >>> (0 &&& 31)) &&& 255)) 4 ((x1 >>> (24 &&& 31)) &&& 255)) 5 ((x1 >>> (16 &&& 31)) &&& 255)) 6 ((x1 >>> (8 &&& 31)) &&& 255)) 7 ((x1 >>> (0 &&& 31)) &&& 255)) 8 ((x2 >>> (24 &&& 31)) &&& 255)) 9 ((x2 >>> (16 &&& 31)) &&& 255)) 10 ((x2 >>> (8 &&& 31)) &&& 255)) 11 ((x2 >>> (0 &&& 31)) &&& 255)) 12 ((x3 >>> (24 &&& 31)) &&& 255)) 13 ((x3 >>> (16 &&& 31)) &&& 255)) 14 ((x3 >>> (8 &&& 31)) &&& 255)) 15 ((x3 >>> (0 &&& 31)) &&& 255))))] := hD
  refine lv_aload_n hx hb dX9_append_104 rfl (lv_at hl 2 rfl) ?_
  refine lv_dup hx hb dX9_append_105 rfl ?_
  refine va_get (D := D) (ci := 9) (v := .int 15) (C := RX9) (T := TX9) (N := 18) hx hb hts iX9_append_9 hown hN.1 hP 0 rfl rfl 2 (by decide) (hts _ mX9_append_2) (fun _ h9 => h9) rfl dX9_append_106 ?_
  refine lv_iconst (v := 1) hx hb dX9_append_109 (by decide) ?_
  refine lv_iadd hx hb dX9_append_110 ?_
  refine tp_i (16) (by decide) ?_
  refine va_put (D := D) (ci := 9) (v := .int 16) (ty := .int) (C := RX9) (T := TX9) (N := 18) hx hb hts iX9_append_9 tyX9 tyX9_ok nmX9 hown hN.1 hP hD hS 0 rfl rfl 2 (by decide) (hts _ mX9_append_2) (fun _ h9 => h9) rfl (by decide +kernel) rfl rfl (Nat.le_of_ble_eq_true rfl) dX9_append_111 (fun H locs hP hD hS => ?_)
  have hP : va_P D vwCl [(a0, .inr (9, [.int 0, .ref a1, .int 16, .int 0, .int 0, .int 0, .int 0, .int (-1), .ref a2, .ref a3, .ref a4, .ref a5, .int 0, .int 0, .int 0, .int 0, .int 0, .ref a6])), (a1, .inl (cs 0, 600, .inl (upd (upd (upd (upd (upd (upd (upd (upd (upd (upd (upd (upd (upd (upd (upd (upd (fun _ => 0) 0 ((x0 >>> (24 &&& 31)) &&& 255)) 1 ((x0 >>> (16 &&& 31)) &&& 255)) 2 ((x0 >>> (8 &&& 31)) &&& 255)) 3 ((x0 >>> (0 &&& 31)) &&& 255)) 4 ((x1 >>> (24 &&& 31)) &&& 255)) 5 ((x1 >>> (16 &&& 31)) &&& 255)) 6 ((x1 >>> (8 &&& 31)) &&& 255)) 7 ((x1 >>> (0 &&& 31)) &&& 255)) 8 ((x2 >>> (24 &&& 31)) &&& 255)) 9 ((x2 >>> (16 &&& 31)) &&& 255)) 10 ((x2 >>> (8 &&& 31)) &&& 255)) 11 ((x2 >>> (0 &&& 31)) &&& 255)) 12 ((x3 >>> (24 &&& 31)) &&& 255)) 13 ((x3 >>> (16 &&& 31)) &&& 255)) 14 ((x3 >>> (8 &&& 31)) &&& 255)) 15 ((x3 >>> (0 &&& 31)) &&& 255))))] H := hP
  have hD : va_D A [(a0, .inr (9, [.int 0, .ref a1, .int 16, .int 0, .int 0, .int 0, .int 0, .int (-1), .ref a2, .ref a3, .ref a4, .ref a5, .int 0, .int 0, .int 0, .int 0, .int 0, .ref a6])), (a1, .inl (cs 0, 600, .inl (upd (upd (upd (upd (upd (upd (upd (upd (upd (upd (upd (upd (upd (upd (upd (upd (fun _ => 0) 0 ((x0 >>> (24 &&& 31)) &&& 255)) 1 ((x0 >>> (16 &&& 31)) &&& 255)) 2 ((x0 >>> (8 &&& 31)) &&& 255)) 3 ((x0 >>> (0 &&& 31)) &&& 255)) 4 ((x1 >>> (24 &&& 31)) &&& 255)) 5 ((x1 >>> (16 &&& 31)) &&& 255)) 6 ((x1 >>> (8 &&& 31)) &&& 255)) 7 ((x1 >>> (0 &&& 31)) &&& 255)) 8 ((x2 >>> (24 &&& 31)) &&& 255)) 9 ((x2 >>> (16 &&& 31)) &&& 255)) 10 ((x2 >>> (8 &&& 31)) &&& 255)) 11 ((x2 >>> (0 &&& 31)) &&& 255)) 12 ((x3 >>> (24 &&& 31)) &&& 255)) 13 ((x3 >>> (16 &&& 31)) &&& 255)) 14 ((x3 >>> (8 &&& 31)) &&& 255)) 15 ((x3 >>> (0 &&& 31)) &&& 255))))] := hD
  refine lv_iinc (v := 16) (lv' := [(6, .int 16), (7, .int x3), (0, .ref a0), (1, .int x0), (2, .int x1), (3, .int x2), (4, .int x3), (5, .int x4)]) hx hb dX9_append_114 hl (k := 1) rfl (by decide) (by decide) rfl (fun ls hl => ?_)
  refine lv_goto (tgt := 23) hx hb dX9_append_117 (by decide) ?_
  refine lv_iload hx hb dX9_append_23 (lv_at hl 0 rfl) ?_
  refine lv_bipush (v := 20) hx hb dX9_append_25 (by decide) ?_
  refine lv_icmp_ge (tgt := 120) hx hb dX9_append_27 (by decide) (fun c9 => absurd c9 (by decide)) (fun _ => ?_)
  refine lv_iload hx hb dX9_append_30 (lv_at hl 0 rfl) ?_
  refine lv_iconst (v := 4) hx hb dX9_append_32 (by decide) ?_
  refine lv_icmp_ge (tgt := 40) hx hb dX9_append_33 (by decide) (fun _ => ?_) (fun c9 => absurd (by decide) c9)
  refine lv_iload hx hb dX9_append_40 (lv_at hl 0 rfl) ?_
  refine lv_bipush (v := 8) hx hb dX9_append_42 (by decide) ?_
  refine lv_icmp_ge (tgt := 51) hx hb dX9_append_44 (by decide) (fun _ => ?_) (fun c9 => absurd (by decide) c9)
  refine lv_iload hx hb dX9_append_51 (lv_at hl 0 rfl) ?_
  refine lv_bipush (v := 12) hx hb dX9_append_53 (by decide) ?_
  refine lv_icmp_ge (tgt := 62) hx hb dX9_append_55 (by decide) (fun _ => ?_) (fun c9 => absurd (by decide) c9)
  refine lv_iload hx hb dX9_append_62 (lv_at hl 0 rfl) ?_
  refine lv_bipush (v := 16) hx hb dX9_append_64 (by decide) ?_
  refine lv_icmp_ge (tgt := 74) hx hb dX9_append_66 (by decide) (fun _ => ?_) (fun c9 => absurd (by decide) c9)
  refine lv_iload hx hb dX9_append_74 (lv_at hl 7 rfl) ?_
  refine lv_istore (lv' := [(7, .int x4), (6, .int 16), (0, .ref a0), (1, .int x0), (2, .int x1), (3, .int x2), (4, .int x3), (5, .int x4)]) hx hb dX9_append_76 hl (by decide) rfl (fun ls hl => ?_)
  refine lv_aload_n hx hb dX9_append_78 rfl (lv_at hl 2 rfl) ?_
  refine va_get (D := D) (ci := 9) (v := .ref a1) (C := RX9) (T := TX9) (N := 18) hx hb hts iX9_append_9 hown hN.1 hP 0 rfl rfl 1 (by decide) (hts _ mX9_append_3) (fun _ h9 => h9) rfl dX9_append_79 ?_
  refine lv_aload_n hx hb dX9_append_82 rfl (lv_at hl 2 rfl) ?_
  refine va_get (D := D) (ci := 9) (v := .int 16) (C := RX9) (T := TX9) (N := 18) hx hb hts iX9_append_9 hown hN.1 hP 0 rfl rfl 2 (by decide) (hts _ mX9_append_2) (fun _ h9 => h9) rfl dX9_append_83 ?_
  refine lv_iload hx hb dX9_append_86 (lv_at hl 0 rfl) ?_
  refine lv_bipush (v := 24) hx hb dX9_append_88 (by decide) ?_
  refine lv_bipush (v := 8) hx hb dX9_append_90 (by decide) ?_
  refine lv_iload hx hb dX9_append_92 (lv_at hl 1 rfl) ?_
  refine lv_iconst (v := 4) hx hb dX9_append_94 (by decide) ?_
  refine lv_irem hx hb dX9_append_95 (by decide) ?_
  refine tp_i (0) (by decide) ?_
  refine lv_imul hx hb dX9_append_96 ?_
  refine tp_i (0) (by decide) ?_
  refine lv_isub hx hb dX9_append_97 ?_
  refine tp_i (24) (by decide) ?_
  refine lv_ishr hx hb dX9_append_98 ?_
  refine lv_sipush (v := 255) hx hb dX9_append_99 (by decide) ?_
  refine lv_iand hx hb dX9_append_102 ?_
  refine st_i (g := (upd (upd (upd (upd (upd (upd (upd (upd (upd (upd (upd (upd (upd (upd (upd (upd (upd (fun _ => 0) 0 ((x0 >>> (24 &&& 31)) &&& 255)) 1 ((x0 >>> (16 &&& 31)) &&& 255)) 2 ((x0 >>> (8 &&& 31)) &&& 255)) 3 ((x0 >>> (0 &&& 31)) &&& 255)) 4 ((x1 >>> (24 &&& 31)) &&& 255)) 5 ((x1 >>> (16 &&& 31)) &&& 255)) 6 ((x1 >>> (8 &&& 31)) &&& 255)) 7 ((x1 >>> (0 &&& 31)) &&& 255)) 8 ((x2 >>> (24 &&& 31)) &&& 255)) 9 ((x2 >>> (16 &&& 31)) &&& 255)) 10 ((x2 >>> (8 &&& 31)) &&& 255)) 11 ((x2 >>> (0 &&& 31)) &&& 255)) 12 ((x3 >>> (24 &&& 31)) &&& 255)) 13 ((x3 >>> (16 &&& 31)) &&& 255)) 14 ((x3 >>> (8 &&& 31)) &&& 255)) 15 ((x3 >>> (0 &&& 31)) &&& 255)) 16 ((x4 >>> (24 &&& 31)) &&& 255))) hx hb hN hP hD hS 1 rfl (vin (by decide +kernel)) rfl dX9_append_103 (fun H locs hP hD hS => ?_)
  have hP : va_P D vwCl [(a0, .inr (9, [.int 0, .ref a1, .int 16, .int 0, .int 0, .int 0, .int 0, .int (-1), .ref a2, .ref a3, .ref a4, .ref a5, .int 0, .int 0, .int 0, .int 0, .int 0, .ref a6])), (a1, .inl (cs 0, 600, .inl (upd (upd (upd (upd (upd (upd (upd (upd (upd (upd (upd (upd (upd (upd (upd (upd (upd (fun _ => 0) 0 ((x0 >>> (24 &&& 31)) &&& 255)) 1 ((x0 >>> (16 &&& 31)) &&& 255)) 2 ((x0 >>> (8 &&& 31)) &&& 255)) 3 ((x0 >>> (0 &&& 31)) &&& 255)) 4 ((x1 >>> (24 &&& 31)) &&& 255)) 5 ((x1 >>> (16 &&& 31)) &&& 255)) 6 ((x1 >>> (8 &&& 31)) &&& 255)) 7 ((x1 >>> (0 &&& 31)) &&& 255)) 8 ((x2 >>> (24 &&& 31)) &&& 255)) 9 ((x2 >>> (16 &&& 31)) &&& 255)) 10 ((x2 >>> (8 &&& 31)) &&& 255)) 11 ((x2 >>> (0 &&& 31)) &&& 255)) 12 ((x3 >>> (24 &&& 31)) &&& 255)) 13 ((x3 >>> (16 &&& 31)) &&& 255)) 14 ((x3 >>> (8 &&& 31)) &&& 255)) 15 ((x3 >>> (0 &&& 31)) &&& 255)) 16 ((x4 >>> (24 &&& 31)) &&& 255))))] H := hP
  have hD : va_D A [(a0, .inr (9, [.int 0, .ref a1, .int 16, .int 0, .int 0, .int 0, .int 0, .int (-1), .ref a2, .ref a3, .ref a4, .ref a5, .int 0, .int 0, .int 0, .int 0, .int 0, .ref a6])), (a1, .inl (cs 0, 600, .inl (upd (upd (upd (upd (upd (upd (upd (upd (upd (upd (upd (upd (upd (upd (upd (upd (upd (fun _ => 0) 0 ((x0 >>> (24 &&& 31)) &&& 255)) 1 ((x0 >>> (16 &&& 31)) &&& 255)) 2 ((x0 >>> (8 &&& 31)) &&& 255)) 3 ((x0 >>> (0 &&& 31)) &&& 255)) 4 ((x1 >>> (24 &&& 31)) &&& 255)) 5 ((x1 >>> (16 &&& 31)) &&& 255)) 6 ((x1 >>> (8 &&& 31)) &&& 255)) 7 ((x1 >>> (0 &&& 31)) &&& 255)) 8 ((x2 >>> (24 &&& 31)) &&& 255)) 9 ((x2 >>> (16 &&& 31)) &&& 255)) 10 ((x2 >>> (8 &&& 31)) &&& 255)) 11 ((x2 >>> (0 &&& 31)) &&& 255)) 12 ((x3 >>> (24 &&& 31)) &&& 255)) 13 ((x3 >>> (16 &&& 31)) &&& 255)) 14 ((x3 >>> (8 &&& 31)) &&& 255)) 15 ((x3 >>> (0 &&& 31)) &&& 255)) 16 ((x4 >>> (24 &&& 31)) &&& 255))))] := hD
  refine lv_aload_n hx hb dX9_append_104 rfl (lv_at hl 2 rfl) ?_
  refine lv_dup hx hb dX9_append_105 rfl ?_
  refine va_get (D := D) (ci := 9) (v := .int 16) (C := RX9) (T := TX9) (N := 18) hx hb hts iX9_append_9 hown hN.1 hP 0 rfl rfl 2 (by decide) (hts _ mX9_append_2) (fun _ h9 => h9) rfl dX9_append_106 ?_
  refine lv_iconst (v := 1) hx hb dX9_append_109 (by decide) ?_
  refine lv_iadd hx hb dX9_append_110 ?_
  refine tp_i (17) (by decide) ?_
  refine va_put (D := D) (ci := 9) (v := .int 17) (ty := .int) (C := RX9) (T := TX9) (N := 18) hx hb hts iX9_append_9 tyX9 tyX9_ok nmX9 hown hN.1 hP hD hS 0 rfl rfl 2 (by decide) (hts _ mX9_append_2) (fun _ h9 => h9) rfl (by decide +kernel) rfl rfl (Nat.le_of_ble_eq_true rfl) dX9_append_111 (fun H locs hP hD hS => ?_)
  have hP : va_P D vwCl [(a0, .inr (9, [.int 0, .ref a1, .int 17, .int 0, .int 0, .int 0, .int 0, .int (-1), .ref a2, .ref a3, .ref a4, .ref a5, .int 0, .int 0, .int 0, .int 0, .int 0, .ref a6])), (a1, .inl (cs 0, 600, .inl (upd (upd (upd (upd (upd (upd (upd (upd (upd (upd (upd (upd (upd (upd (upd (upd (upd (fun _ => 0) 0 ((x0 >>> (24 &&& 31)) &&& 255)) 1 ((x0 >>> (16 &&& 31)) &&& 255)) 2 ((x0 >>> (8 &&& 31)) &&& 255)) 3 ((x0 >>> (0 &&& 31)) &&& 255)) 4 ((x1 >>> (24 &&& 31)) &&& 255)) 5 ((x1 >>> (16 &&& 31)) &&& 255)) 6 ((x1 >>> (8 &&& 31)) &&& 255)) 7 ((x1 >>> (0 &&& 31)) &&& 255)) 8 ((x2 >>> (24 &&& 31)) &&& 255)) 9 ((x2 >>> (16 &&& 31)) &&& 255)) 10 ((x2 >>> (8 &&& 31)) &&& 255)) 11 ((x2 >>> (0 &&& 31)) &&& 255)) 12 ((x3 >>> (24 &&& 31)) &&& 255)) 13 ((x3 >>> (16 &&& 31)) &&& 255)) 14 ((x3 >>> (8 &&& 31)) &&& 255)) 15 ((x3 >>> (0 &&& 31)) &&& 255)) 16 ((x4 >>> (24 &&& 31)) &&& 255))))] H := hP
  have hD : va_D A [(a0, .inr (9, [.int 0, .ref a1, .int 17, .int 0, .int 0, .int 0, .int 0, .int (-1), .ref a2, .ref a3, .ref a4, .ref a5, .int 0, .int 0, .int 0, .int 0, .int 0, .ref a6])), (a1, .inl (cs 0, 600, .inl (upd (upd (upd (upd (upd (upd (upd (upd (upd (upd (upd (upd (upd (upd (upd (upd (upd (fun _ => 0) 0 ((x0 >>> (24 &&& 31)) &&& 255)) 1 ((x0 >>> (16 &&& 31)) &&& 255)) 2 ((x0 >>> (8 &&& 31)) &&& 255)) 3 ((x0 >>> (0 &&& 31)) &&& 255)) 4 ((x1 >>> (24 &&& 31)) &&& 255)) 5 ((x1 >>> (16 &&& 31)) &&& 255)) 6 ((x1 >>> (8 &&& 31)) &&& 255)) 7 ((x1 >>> (0 &&& 31)) &&& 255)) 8 ((x2 >>> (24 &&& 31)) &&& 255)) 9 ((x2 >>> (16 &&& 31)) &&& 255)) 10 ((x2 >>> (8 &&& 31)) &&& 255)) 11 ((x2 >>> (0 &&& 31)) &&& 255)) 12 ((x3 >>> (24 &&& 31)) &&& 255)) 13 ((x3 >>> (16 &&& 31)) &&& 255)) 14 ((x3 >>> (8 &&& 31)) &&& 255)) 15 ((x3 >>> (0 &&& 31)) &&& 255)) 16 ((x4 >>> (24 &&& 31)) &&& 255))))] := hD
  refine lv_iinc (v := 17) (lv' := [(6, .int 17), (7, .int x4), (0, .ref a0), (1, .int x0), (2, .int x1), (3, .int x2), (4, .int x3), (5, .int x4)]) hx hb dX9_append_114 hl (k := 1) rfl (by decide) (by decide) rfl (fun ls hl => ?_)
  refine lv_goto (tgt := 23) hx hb dX9_append_117 (by decide) ?_
  refine lv_iload hx hb dX9_append_23 (lv_at hl 0 rfl) ?_
  refine lv_bipush (v := 20) hx hb dX9_append_25 (by decide) ?_
  refine lv_icmp_ge (tgt := 120) hx hb dX9_append_27 (by decide) (fun c9 => absurd c9 (by decide)) (fun _ => ?_)
  refine lv_iload hx hb dX9_append_30 (lv_at hl 0 rfl) ?_
  refine lv_iconst (v := 4) hx hb dX9_append_32 (by decide) ?_
  refine lv_icmp_ge (tgt := 40) hx hb dX9_append_33 (by decide) (fun _ => ?_) (fun c9 => absurd (by decide) c9)
  refine lv_iload hx hb dX9_append_40 (lv_at hl 0 rfl) ?_
  refine lv_bipush (v := 8) hx hb dX9_append_42 (by decide) ?_
  refine lv_icmp_ge (tgt := 51) hx hb dX9_append_44 (by decide) (fun _ => ?_) (fun c9 => absurd (by decide) c9)
  refine lv_iload hx hb dX9_append_51 (lv_at hl 0 rfl) ?_
  refine lv_bipush (v := 12) hx hb dX9_append_53 (by decide) ?_
  refine lv_icmp_ge (tgt := 62) hx hb dX9_append_55 (by decide) (fun _ => ?_) (fun c9 => absurd (by decide) c9)
  refine lv_iload hx hb dX9_append_62 (lv_at hl 0 rfl) ?_
  refine lv_bipush (v := 16) hx hb dX9_append_64 (by decide) ?_
  refine lv_icmp_ge (tgt := 74) hx hb dX9_append_66 (by decide) (fun _ => ?_) (fun c9 => absurd (by decide) c9)
  refine lv_iload hx hb dX9_append_74 (lv_at hl 7 rfl) ?_
  refine lv_istore (lv' := [(7, .int x4), (6, .int 17), (0, .ref a0), (1, .int x0), (2, .int x1), (3, .int x2), (4, .int x3), (5, .int x4)]) hx hb dX9_append_76 hl (by decide) rfl (fun ls hl => ?_)
  refine lv_aload_n hx hb dX9_append_78 rfl (lv_at hl 2 rfl) ?_
  refine va_get (D := D) (ci := 9) (v := .ref a1) (C := RX9) (T := TX9) (N := 18) hx hb hts iX9_append_9 hown hN.1 hP 0 rfl rfl 1 (by decide) (hts _ mX9_append_3) (fun _ h9 => h9) rfl dX9_append_79 ?_
  refine lv_aload_n hx hb dX9_append_82 rfl (lv_at hl 2 rfl) ?_
  refine va_get (D := D) (ci := 9) (v := .int 17) (C := RX9) (T := TX9) (N := 18) hx hb hts iX9_append_9 hown hN.1 hP 0 rfl rfl 2 (by decide) (hts _ mX9_append_2) (fun _ h9 => h9) rfl dX9_append_83 ?_
  refine lv_iload hx hb dX9_append_86 (lv_at hl 0 rfl) ?_
  refine lv_bipush (v := 24) hx hb dX9_append_88 (by decide) ?_
  refine lv_bipush (v := 8) hx hb dX9_append_90 (by decide) ?_
  refine lv_iload hx hb dX9_append_92 (lv_at hl 1 rfl) ?_
  refine lv_iconst (v := 4) hx hb dX9_append_94 (by decide) ?_
  refine lv_irem hx hb dX9_append_95 (by decide) ?_
  refine tp_i (1) (by decide) ?_
  refine lv_imul hx hb dX9_append_96 ?_
  refine tp_i (8) (by decide) ?_
  refine lv_isub hx hb dX9_append_97 ?_
  refine tp_i (16) (by decide) ?_
  refine lv_ishr hx hb dX9_append_98 ?_
  refine lv_sipush (v := 255) hx hb dX9_append_99 (by decide) ?_
  refine lv_iand hx hb dX9_append_102 ?_
  refine st_i (g := (upd (upd (upd (upd (upd (upd (upd (upd (upd (upd (upd (upd (upd (upd (upd (upd (upd (upd (fun _ => 0) 0 ((x0 >>> (24 &&& 31)) &&& 255)) 1 ((x0 >>> (16 &&& 31)) &&& 255)) 2 ((x0 >>> (8 &&& 31)) &&& 255)) 3 ((x0 >>> (0 &&& 31)) &&& 255)) 4 ((x1 >>> (24 &&& 31)) &&& 255)) 5 ((x1 >>> (16 &&& 31)) &&& 255)) 6 ((x1 >>> (8 &&& 31)) &&& 255)) 7 ((x1 >>> (0 &&& 31)) &&& 255)) 8 ((x2 >>> (24 &&& 31)) &&& 255)) 9 ((x2 >>> (16 &&& 31)) &&& 255)) 10 ((x2 >>> (8 &&& 31)) &&& 255)) 11 ((x2 >>> (0 &&& 31)) &&& 255)) 12 ((x3 >>> (24 &&& 31)) &&& 255)) 13 ((x3 >>> (16 &&& 31)) &&& 255)) 14 ((x3 >>> (8 &&& 31)) &&& 255)) 15 ((x3 >>> (0 &&& 31)) &&& 255)) 16 ((x4 >>> (24 &&& 31)) &&& 255)) 17 ((x4 >>> (16 &&& 31)) &&& 255))) hx hb hN hP hD hS 1 rfl (vin (by decide +kernel)) rfl dX9_append_103 (fun H locs hP hD hS => ?_)
  have hP : va_P D vwCl [(a0, .inr (9, [.int 0, .ref a1, .int 17, .int 0, .int 0, .int 0, .int 0, .int (-1), .ref a2, .ref a3, .ref a4, .ref a5, .int 0, .int 0, .int 0, .int 0, .int 0, .ref a6])), (a1, .inl (cs 0, 600, .inl (upd (upd (upd (upd (upd (upd (upd (upd (upd (upd (upd (upd (upd (upd (upd (upd (upd (upd (fun _ => 0) 0 ((x0 >>> (24 &&& 31)) &&& 255)) 1 ((x0 >>> (16 &&& 31)) &&& 255)) 2 ((x0 >>> (8 &&& 31)) &&& 255)) 3 ((x0 >>> (0 &&& 31)) &&& 255)) 4 ((x1 >>> (24 &&& 31)) &&& 255)) 5 ((x1 >>> (16 &&& 31)) &&& 255)) 6 ((x1 >>> (8 &&& 31)) &&& 255)) 7 ((x1 >>> (0 &&& 31)) &&& 255)) 8 ((x2 >>> (24 &&& 31)) &&& 255)) 9 ((x2 >>> (16 &&& 31)) &&& 255)) 10 ((x2 >>> (8 &&& 31)) &&& 255)) 11 ((x2 >>> (0 &&& 31)) &&& 255)) 12 ((x3 >>> (24 &&& 31)) &&& 255)) 13 ((x3 >>> (16 &&& 31)) &&& 255)) 14 ((x3 >>> (8 &&& 31)) &&& 255)) 15 ((x3 >>> (0 &&& 31)) &&& 255)) 16 ((x4 >>> (24 &&& 31)) &&& 255)) 17 ((x4 >>> (16 &&& 31)) &&& 255))))] H := hP
  have hD : va_D A [(a0, .inr (9, [.int 0, .ref a1, .int 17, .int 0, .int 0, .int 0, .int 0, .int (-1), .ref a2, .ref a3, .ref a4, .ref a5, .int 0, .int 0, .int 0, .int 0, .int 0, .ref a6])), (a1, .inl (cs 0, 600, .inl (upd (upd (upd (upd (upd (upd (upd (upd (upd (upd (upd (upd (upd (upd (upd (upd (upd (upd (fun _ => 0) 0 ((x0 >>> (24 &&& 31)) &&& 255)) 1 ((x0 >>> (16 &&& 31)) &&& 255)) 2 ((x0 >>> (8 &&& 31)) &&& 255)) 3 ((x0 >>> (0 &&& 31)) &&& 255)) 4 ((x1 >>> (24 &&& 31)) &&& 255)) 5 ((x1 >>> (16 &&& 31)) &&& 255)) 6 ((x1 >>> (8 &&& 31)) &&& 255)) 7 ((x1 >>> (0 &&& 31)) &&& 255)) 8 ((x2 >>> (24 &&& 31)) &&& 255)) 9 ((x2 >>> (16 &&& 31)) &&& 255)) 10 ((x2 >>> (8 &&& 31)) &&& 255)) 11 ((x2 >>> (0 &&& 31)) &&& 255)) 12 ((x3 >>> (24 &&& 31)) &&& 255)) 13 ((x3 >>> (16 &&& 31)) &&& 255)) 14 ((x3 >>> (8 &&& 31)) &&& 255)) 15 ((x3 >>> (0 &&& 31)) &&& 255)) 16 ((x4 >>> (24 &&& 31)) &&& 255)) 17 ((x4 >>> (16 &&& 31)) &&& 255))))] := hD
  refine lv_aload_n hx hb dX9_append_104 rfl (lv_at hl 2 rfl) ?_
  refine lv_dup hx hb dX9_append_105 rfl ?_
  refine va_get (D := D) (ci := 9) (v := .int 17) (C := RX9) (T := TX9) (N := 18) hx hb hts iX9_append_9 hown hN.1 hP 0 rfl rfl 2 (by decide) (hts _ mX9_append_2) (fun _ h9 => h9) rfl dX9_append_106 ?_
  refine lv_iconst (v := 1) hx hb dX9_append_109 (by decide) ?_
  refine lv_iadd hx hb dX9_append_110 ?_
  refine tp_i (18) (by decide) ?_
  refine va_put (D := D) (ci := 9) (v := .int 18) (ty := .int) (C := RX9) (T := TX9) (N := 18) hx hb hts iX9_append_9 tyX9 tyX9_ok nmX9 hown hN.1 hP hD hS 0 rfl rfl 2 (by decide) (hts _ mX9_append_2) (fun _ h9 => h9) rfl (by decide +kernel) rfl rfl (Nat.le_of_ble_eq_true rfl) dX9_append_111 (fun H locs hP hD hS => ?_)
  have hP : va_P D vwCl [(a0, .inr (9, [.int 0, .ref a1, .int 18, .int 0, .int 0, .int 0, .int 0, .int (-1), .ref a2, .ref a3, .ref a4, .ref a5, .int 0, .int 0, .int 0, .int 0, .int 0, .ref a6])), (a1, .inl (cs 0, 600, .inl (upd (upd (upd (upd (upd (upd (upd (upd (upd (upd (upd (upd (upd (upd (upd (upd (upd (upd (fun _ => 0) 0 ((x0 >>> (24 &&& 31)) &&& 255)) 1 ((x0 >>> (16 &&& 31)) &&& 255)) 2 ((x0 >>> (8 &&& 31)) &&& 255)) 3 ((x0 >>> (0 &&& 31)) &&& 255)) 4 ((x1 >>> (24 &&& 31)) &&& 255)) 5 ((x1 >>> (16 &&& 31)) &&& 255)) 6 ((x1 >>> (8 &&& 31)) &&& 255)) 7 ((x1 >>> (0 &&& 31)) &&& 255)) 8 ((x2 >>> (24 &&& 31)) &&& 255)) 9 ((x2 >>> (16 &&& 31)) &&& 255)) 10 ((x2 >>> (8 &&& 31)) &&& 255)) 11 ((x2 >>> (0 &&& 31)) &&& 255)) 12 ((x3 >>> (24 &&& 31)) &&& 255)) 13 ((x3 >>> (16 &&& 31)) &&& 255)) 14 ((x3 >>> (8 &&& 31)) &&& 255)) 15 ((x3 >>> (0 &&& 31)) &&& 255)) 16 ((x4 >>> (24 &&& 31)) &&& 255)) 17 ((x4 >>> (16 &&& 31)) &&& 255))))] H := hP
  have hD : va_D A [(a0, .inr (9, [.int 0, .ref a1, .int 18, .int 0, .int 0, .int 0, .int 0, .int (-1), .ref a2, .ref a3, .ref a4, .ref a5, .int 0, .int 0, .int 0, .int 0, .int 0, .ref a6])), (a1, .inl (cs 0, 600, .inl (upd (upd (upd (upd (upd (upd (upd (upd (upd (upd (upd (upd (upd (upd (upd (upd (upd (upd (fun _ => 0) 0 ((x0 >>> (24 &&& 31)) &&& 255)) 1 ((x0 >>> (16 &&& 31)) &&& 255)) 2 ((x0 >>> (8 &&& 31)) &&& 255)) 3 ((x0 >>> (0 &&& 31)) &&& 255)) 4 ((x1 >>> (24 &&& 31)) &&& 255)) 5 ((x1 >>> (16 &&& 31)) &&& 255)) 6 ((x1 >>> (8 &&& 31)) &&& 255)) 7 ((x1 >>> (0 &&& 31)) &&& 255)) 8 ((x2 >>> (24 &&& 31)) &&& 255)) 9 ((x2 >>> (16 &&& 31)) &&& 255)) 10 ((x2 >>> (8 &&& 31)) &&& 255)) 11 ((x2 >>> (0 &&& 31)) &&& 255)) 12 ((x3 >>> (24 &&& 31)) &&& 255)) 13 ((x3 >>> (16 &&& 31)) &&& 255)) 14 ((x3 >>> (8 &&& 31)) &&& 255)) 15 ((x3 >>> (0 &&& 31)) &&& 255)) 16 ((x4 >>> (24 &&& 31)) &&& 255)) 17 ((x4 >>> (16 &&& 31)) &&& 255))))] := hD
  refine lv_iinc (v := 18) (lv' := [(6, .int 18), (7, .int x4), (0, .ref a0), (1, .int x0), (2, .int x1), (3, .int x2), (4, .int x3), (5, .int x4)]) hx hb dX9_append_114 hl (k := 1) rfl (by decide) (by decide) rfl (fun ls hl => ?_)
  refine lv_goto (tgt := 23) hx hb dX9_append_117 (by decide) ?_
  refine lv_iload hx hb dX9_append_23 (lv_at hl 0 rfl) ?_
  refine lv_bipush (v := 20) hx hb dX9_append_25 (by decide) ?_
  refine lv_icmp_ge (tgt := 120) hx hb dX9_append_27 (by decide) (fun c9 => absurd c9 (by decide)) (fun _ => ?_)
  refine lv_iload hx hb dX9_append_30 (lv_at hl 0 rfl) ?_
  refine lv_iconst (v := 4) hx hb dX9_append_32 (by decide) ?_
  refine lv_icmp_ge (tgt := 40) hx hb dX9_append_33 (by decide) (fun _ => ?_) (fun c9 => absurd (by decide) c9)
  refine lv_iload hx hb dX9_append_40 (lv_at hl 0 rfl) ?_
  refine lv_bipush (v := 8) hx hb dX9_append_42 (by decide) ?_
  refine lv_icmp_ge (tgt := 51) hx hb dX9_append_44 (by decide) (fun _ => ?_) (fun c9 => absurd (by decide) c9)
  refine lv_iload hx hb dX9_append_51 (lv_at hl 0 rfl) ?_
  refine lv_bipush (v := 12) hx hb dX9_append_53 (by decide) ?_
  refine lv_icmp_ge (tgt := 62) hx hb dX9_append_55 (by decide) (fun _ => ?_) (fun c9 => absurd (by decide) c9)
  refine lv_iload hx hb dX9_append_62 (lv_at hl 0 rfl) ?_
  refine lv_bipush (v := 16) hx hb dX9_append_64 (by decide) ?_
  refine lv_icmp_ge (tgt := 74) hx hb dX9_append_66 (by decide) (fun _ => ?_) (fun c9 => absurd (by decide) c9)
  refine lv_iload hx hb dX9_append_74 (lv_at hl 7 rfl) ?_
  refine lv_istore (lv' := [(7, .int x4), (6, .int 18), (0, .ref a0), (1, .int x0), (2, .int x1), (3, .int x2), (4, .int x3), (5, .int x4)]) hx hb dX9_append_76 hl (by decide) rfl (fun ls hl => ?_)
  refine lv_aload_n hx hb dX9_append_78 rfl (lv_at hl 2 rfl) ?_
  refine va_get (D := D) (ci := 9) (v := .ref a1) (C := RX9) (T := TX9) (N := 18) hx hb hts iX9_append_9 hown hN.1 hP 0 rfl rfl 1 (by decide) (hts _ mX9_append_3) (fun _ h9 => h9) rfl dX9_append_79 ?_
  refine lv_aload_n hx hb dX9_append_82 rfl (lv_at hl 2 rfl) ?_
  refine va_get (D := D) (ci := 9) (v := .int 18) (C := RX9) (T := TX9) (N := 18) hx hb hts iX9_append_9 hown hN.1 hP 0 rfl rfl 2 (by decide) (hts _ mX9_append_2) (fun _ h9 => h9) rfl dX9_append_83 ?_
  refine lv_iload hx hb dX9_append_86 (lv_at hl 0 rfl) ?_
  refine lv_bipush (v := 24) hx hb dX9_append_88 (by decide) ?_
  refine lv_bipush (v := 8) hx hb dX9_append_90 (by decide) ?_
  refine lv_iload hx hb dX9_append_92 (lv_at hl 1 rfl) ?_
  refine lv_iconst (v := 4) hx hb dX9_append_94 (by decide) ?_
  refine lv_irem hx hb dX9_append_95 (by decide) ?_
  refine tp_i (2) (by decide) ?_
  refine lv_imul hx hb dX9_append_96 ?_
  refine tp_i (16) (by decide) ?_
  refine lv_isub hx hb dX9_append_97 ?_
  refine tp_i (8) (by decide) ?_
  refine lv_ishr hx hb dX9_append_98 ?_
  refine lv_sipush (v := 255) hx hb dX9_append_99 (by decide) ?_
  refine lv_iand hx hb dX9_append_102 ?_
  refine st_i (g := (upd (upd (upd (upd (upd (upd (upd (upd (upd (upd (upd (upd (upd (upd (upd (upd (upd (upd (upd (fun _ => 0) 0 ((x0 >>> (24 &&& 31)) &&& 255)) 1 ((x0 >>> (16 &&& 31)) &&& 255)) 2 ((x0 >>> (8 &&& 31)) &&& 255)) 3 ((x0 >>> (0 &&& 31)) &&& 255)) 4 ((x1 >>> (24 &&& 31)) &&& 255)) 5 ((x1 >>> (16 &&& 31)) &&& 255)) 6 ((x1 >>> (8 &&& 31)) &&& 255)) 7 ((x1 >>> (0 &&& 31)) &&& 255)) 8 ((x2 >>> (24 &&& 31)) &&& 255)) 9 ((x2 >>> (16 &&& 31)) &&& 255)) 10 ((x2 >>> (8 &&& 31)) &&& 255)) 11 ((x2 >>> (0 &&& 31)) &&& 255)) 12 ((x3 >>> (24 &&& 31)) &&& 255)) 13 ((x3 >>> (16 &&& 31)) &&& 255)) 14 ((x3 >>> (8 &&& 31)) &&& 255)) 15 ((x3 >>> (0 &&& 31)) &&& 255)) 16 ((x4 >>> (24 &&& 31)) &&& 255)) 17 ((x4 >>> (16 &&& 31)) &&& 255)) 18 ((x4 >>> (8 &&& 31)) &&& 255))) hx hb hN hP hD hS 1 rfl (vin (by decide +kernel)) rfl dX9_append_103 (fun H locs hP hD hS => ?_)
  have hP : va_P D vwCl [(a0, .inr (9, [.int 0, .ref a1, .int 18, .int 0, .int 0, .int 0, .int 0, .int (-1), .ref a2, .ref a3, .ref a4, .ref a5, .int 0, .int 0, .int 0, .int 0, .int 0, .ref a6])), (a1, .inl (cs 0, 600, .inl (upd (upd (upd (upd (upd (upd (upd (upd (upd (upd (upd (upd (upd (upd (upd (upd (upd (upd (upd (fun _ => 0) 0 ((x0 >>> (24 &&& 31)) &&& 255)) 1 ((x0 >>> (16 &&& 31)) &&& 255)) 2 ((x0 >>> (8 &&& 31)) &&& 255)) 3 ((x0 >>> (0 &&& 31)) &&& 255)) 4 ((x1 >>> (24 &&& 31)) &&& 255)) 5 ((x1 >>> (16 &&& 31)) &&& 255)) 6 ((x1 >>> (8 &&& 31)) &&& 255)) 7 ((x1 >>> (0 &&& 31)) &&& 255)) 8 ((x2 >>> (24 &&& 31)) &&& 255)) 9 ((x2 >>> (16 &&& 31)) &&& 255)) 10 ((x2 >>> (8 &&& 31)) &&& 255)) 11 ((x2 >>> (0 &&& 31)) &&& 255)) 12 ((x3 >>> (24 &&& 31)) &&& 255)) 13 ((x3 >>> (16 &&& 31)) &&& 255)) 14 ((x3 >>> (8 &&& 31)) &&& 255)) 15 ((x3 >>> (0 &&& 31)) &&& 255)) 16 ((x4 >>> (24 &&& 31)) &&& 255)) 17 ((x4 >>> (16 &&& 31)) &&& 255)) 18 ((x4 >>> (8 &&& 31)) &&& 255))))] H := hP
  have hD : va_D A [(a0, .inr (9, [.int 0, .ref a1, .int 18, .int 0, .int 0, .int 0, .int 0, .int (-1), .ref a2, .ref a3, .ref a4, .ref a5, .int 0, .int 0, .int 0, .int 0, .int 0, .ref a6])), (a1, .inl (cs 0, 600, .inl (upd (upd (upd (upd (upd (upd (upd (upd (upd (upd (upd (upd (upd (upd (upd (upd (upd (upd (upd (fun _ => 0) 0 ((x0 >>> (24 &&& 31)) &&& 255)) 1 ((x0 >>> (16 &&& 31)) &&& 255)) 2 ((x0 >>> (8 &&& 31)) &&& 255)) 3 ((x0 >>> (0 &&& 31)) &&& 255)) 4 ((x1 >>> (24 &&& 31)) &&& 255)) 5 ((x1 >>> (16 &&& 31)) &&& 255)) 6 ((x1 >>> (8 &&& 31)) &&& 255)) 7 ((x1 >>> (0 &&& 31)) &&& 255)) 8 ((x2 >>> (24 &&& 31)) &&& 255)) 9 ((x2 >>> (16 &&& 31)) &&& 255)) 10 ((x2 >>> (8 &&& 31)) &&& 255)) 11 ((x2 >>> (0 &&& 31)) &&& 255)) 12 ((x3 >>> (24 &&& 31)) &&& 255)) 13 ((x3 >>> (16 &&& 31)) &&& 255)) 14 ((x3 >>> (8 &&& 31)) &&& 255)) 15 ((x3 >>> (0 &&& 31)) &&& 255)) 16 ((x4 >>> (24 &&& 31)) &&& 255)) 17 ((x4 >>> (16 &&& 31)) &&& 255)) 18 ((x4 >>> (8 &&& 31)) &&& 255))))] := hD
  refine lv_aload_n hx hb dX9_append_104 rfl (lv_at hl 2 rfl) ?_
  refine lv_dup hx hb dX9_append_105 rfl ?_
  refine va_get (D := D) (ci := 9) (v := .int 18) (C := RX9) (T := TX9) (N := 18) hx hb hts iX9_append_9 hown hN.1 hP 0 rfl rfl 2 (by decide) (hts _ mX9_append_2) (fun _ h9 => h9) rfl dX9_append_106 ?_
  refine lv_iconst (v := 1) hx hb dX9_append_109 (by decide) ?_
  refine lv_iadd hx hb dX9_append_110 ?_
  refine tp_i (19) (by decide) ?_
  refine va_put (D := D) (ci := 9) (v := .int 19) (ty := .int) (C := RX9) (T := TX9) (N := 18) hx hb hts iX9_append_9 tyX9 tyX9_ok nmX9 hown hN.1 hP hD hS 0 rfl rfl 2 (by decide) (hts _ mX9_append_2) (fun _ h9 => h9) rfl (by decide +kernel) rfl rfl (Nat.le_of_ble_eq_true rfl) dX9_append_111 (fun H locs hP hD hS => ?_)
  have hP : va_P D vwCl [(a0, .inr (9, [.int 0, .ref a1, .int 19, .int 0, .int 0, .int 0, .int 0, .int (-1), .ref a2, .ref a3, .ref a4, .ref a5, .int 0, .int 0, .int 0, .int 0, .int 0, .ref a6])), (a1, .inl (cs 0, 600, .inl (upd (upd (upd (upd (upd (upd (upd (upd (upd (upd (upd (upd (upd (upd (upd (upd (upd (upd (upd (fun _ => 0) 0 ((x0 >>> (24 &&& 31)) &&& 255)) 1 ((x0 >>> (16 &&& 31)) &&& 255)) 2 ((x0 >>> (8 &&& 31)) &&& 255)) 3 ((x0 >>> (0 &&& 31)) &&& 255)) 4 ((x1 >>> (24 &&& 31)) &&& 255)) 5 ((x1 >>> (16 &&& 31)) &&& 255)) 6 ((x1 >>> (8 &&& 31)) &&& 255)) 7 ((x1 >>> (0 &&& 31)) &&& 255)) 8 ((x2 >>> (24 &&& 31)) &&& 255)) 9 ((x2 >>> (16 &&& 31)) &&& 255)) 10 ((x2 >>> (8 &&& 31)) &&& 255)) 11 ((x2 >>> (0 &&& 31)) &&& 255)) 12 ((x3 >>> (24 &&& 31)) &&& 255)) 13 ((x3 >>> (16 &&& 31)) &&& 255)) 14 ((x3 >>> (8 &&& 31)) &&& 255)) 15 ((x3 >>> (0 &&& 31)) &&& 255)) 16 ((x4 >>> (24 &&& 31)) &&& 255)) 17 ((x4 >>> (16 &&& 31)) &&& 255)) 18 ((x4 >>> (8 &&& 31)) &&& 255))))] H := hP
  have hD : va_D A [(a0, .inr (9, [.int 0, .ref a1, .int 19, .int 0, .int 0, .int 0, .int 0, .int (-1), .ref a2, .ref a3, .ref a4, .ref a5, .int 0, .int 0, .int 0, .int 0, .int 0, .ref a6])), (a1, .inl (cs 0, 600, .inl (upd (upd (upd (upd (upd (upd (upd (upd (upd (upd (upd (upd (upd (upd (upd (upd (upd (upd (upd (fun _ => 0) 0 ((x0 >>> (24 &&& 31)) &&& 255)) 1 ((x0 >>> (16 &&& 31)) &&& 255)) 2 ((x0 >>> (8 &&& 31)) &&& 255)) 3 ((x0 >>> (0 &&& 31)) &&& 255)) 4 ((x1 >>> (24 &&& 31)) &&& 255)) 5 ((x1 >>> (16 &&& 31)) &&& 255)) 6 ((x1 >>> (8 &&& 31)) &&& 255)) 7 ((x1 >>> (0 &&& 31)) &&& 255)) 8 ((x2 >>> (24 &&& 31)) &&& 255)) 9 ((x2 >>> (16 &&& 31)) &&& 255)) 10 ((x2 >>> (8 &&& 31)) &&& 255)) 11 ((x2 >>> (0 &&& 31)) &&& 255)) 12 ((x3 >>> (24 &&& 31)) &&& 255)) 13 ((x3 >>> (16 &&& 31)) &&& 255)) 14 ((x3 >>> (8 &&& 31)) &&& 255)) 15 ((x3 >>> (0 &&& 31)) &&& 255)) 16 ((x4 >>> (24 &&& 31)) &&& 255)) 17 ((x4 >>> (16 &&& 31)) &&& 255)) 18 ((x4 >>> (8 &&& 31)) &&& 255))))] := hD
  refine lv_iinc (v := 19) (lv' := [(6, .int 19), (7, .int x4), (0, .ref a0), (1, .int x0), (2, .int x1), (3, .int x2), (4, .int x3), (5, .int x4)]) hx hb dX9_append_114 hl (k := 1) rfl (by decide) (by decide) rfl (fun ls hl => ?_)
  refine lv_goto (tgt := 23) hx hb dX9_append_117 (by decide) ?_
  refine lv_iload hx hb dX9_append_23 (lv_at hl 0 rfl) ?_
  refine lv_bipush (v := 20) hx hb dX9_append_25 (by decide) ?_
  refine lv_icmp_ge (tgt := 120) hx hb dX9_append_27 (by decide) (fun c9 => absurd c9 (by decide)) (fun _ => ?_)
  refine lv_iload hx hb dX9_append_30 (lv_at hl 0 rfl) ?_
  refine lv_iconst (v := 4) hx hb dX9_append_32 (by decide) ?_
  refine lv_icmp_ge (tgt := 40) hx hb dX9_append_33 (by decide) (fun _ => ?_) (fun c9 => absurd (by decide) c9)
  refine lv_iload hx hb dX9_append_40 (lv_at hl 0 rfl) ?_
  refine lv_bipush (v := 8) hx hb dX9_append_42 (by decide) ?_
  refine lv_icmp_ge (tgt := 51) hx hb dX9_append_44 (by decide) (fun _ => ?_) (fun c9 => absurd (by decide) c9)
  refine lv_iload hx hb dX9_append_51 (lv_at hl 0 rfl) ?_
  refine lv_bipush (v := 12) hx hb dX9_append_53 (by decide) ?_
  refine lv_icmp_ge (tgt := 62) hx hb dX9_append_55 (by decide) (fun _ => ?_) (fun c9 => absurd (by decide) c9)
  refine lv_iload hx hb dX9_append_62 (lv_at hl 0 rfl) ?_
  refine lv_bipush (v := 16) hx hb dX9_append_64 (by decide) ?_
  refine lv_icmp_ge (tgt := 74) hx hb dX9_append_66 (by decide) (fun _ => ?_) (fun c9 => absurd (by decide) c9)
  refine lv_iload hx hb dX9_append_74 (lv_at hl 7 rfl) ?_
  refine lv_istore (lv' := [(7, .int x4), (6, .int 19), (0, .ref a0), (1, .int x0), (2, .int x1), (3, .int x2), (4, .int x3), (5, .int x4)]) hx hb dX9_append_76 hl (by decide) rfl (fun ls hl => ?_)
  refine lv_aload_n hx hb dX9_append_78 rfl (lv_at hl 2 rfl) ?_
  refine va_get (D := D) (ci := 9) (v := .ref a1) (C := RX9) (T := TX9) (N := 18) hx hb hts iX9_append_9 hown hN.1 hP 0 rfl rfl 1 (by decide) (hts _ mX9_append_3) (fun _ h9 => h9) rfl dX9_append_79 ?_
  refine lv_aload_n hx hb dX9_append_82 rfl (lv_at hl 2 rfl) ?_
  refine va_get (D := D) (ci := 9) (v := .int 19) (C := RX9) (T := TX9) (N := 18) hx hb hts iX9_append_9 hown hN.1 hP 0 rfl rfl 2 (by decide) (hts _ mX9_append_2) (fun _ h9 => h9) rfl dX9_append_83 ?_
  refine lv_iload hx hb dX9_append_86 (lv_at hl 0 rfl) ?_
  refine lv_bipush (v := 24) hx hb dX9_append_88 (by decide) ?_
  refine lv_bipush (v := 8) hx hb dX9_append_90 (by decide) ?_
  refine lv_iload hx hb dX9_append_92 (lv_at hl 1 rfl) ?_
  refine lv_iconst (v := 4) hx hb dX9_append_94 (by decide) ?_
  refine lv_irem hx hb dX9_append_95 (by decide) ?_
  refine tp_i (3) (by decide) ?_
  refine lv_imul hx hb dX9_append_96 ?_
  refine tp_i (24) (by decide) ?_
  refine lv_isub hx hb dX9_append_97 ?_
  refine tp_i (0) (by decide) ?_
  refine lv_ishr hx hb dX9_append_98 ?_
  refine lv_sipush (v := 255) hx hb dX9_append_99 (by decide) ?_
  refine lv_iand hx hb dX9_append_102 ?_
  refine st_i (g := (upd (upd (upd (upd (upd (upd (upd (upd (upd (upd (upd (upd (upd (upd (upd (upd (upd (upd (upd (upd (fun _ => 0) 0 ((x0 >>> (24 &&& 31)) &&& 255)) 1 ((x0 >>> (16 &&& 31)) &&& 255)) 2 ((x0 >>> (8 &&& 31)) &&& 255)) 3 ((x0 >>> (0 &&& 31)) &&& 255)) 4 ((x1 >>> (24 &&& 31)) &&& 255)) 5 ((x1 >>> (16 &&& 31)) &&& 255)) 6 ((x1 >>> (8 &&& 31)) &&& 255)) 7 ((x1 >>> (0 &&& 31)) &&& 255)) 8 ((x2 >>> (24 &&& 31)) &&& 255)) 9 ((x2 >>> (16 &&& 31)) &&& 255)) 10 ((x2 >>> (8 &&& 31)) &&& 255)) 11 ((x2 >>> (0 &&& 31)) &&& 255)) 12 ((x3 >>> (24 &&& 31)) &&& 255)) 13 ((x3 >>> (16 &&& 31)) &&& 255)) 14 ((x3 >>> (8 &&& 31)) &&& 255)) 15 ((x3 >>> (0 &&& 31)) &&& 255)) 16 ((x4 >>> (24 &&& 31)) &&& 255)) 17 ((x4 >>> (16 &&& 31)) &&& 255)) 18 ((x4 >>> (8 &&& 31)) &&& 255)) 19 ((x4 >>> (0 &&& 31)) &&& 255))) hx hb hN hP hD hS 1 rfl (vin (by decide +kernel)) rfl dX9_append_103 (fun H locs hP hD hS => ?_)
  have hP : va_P D vwCl [(a0, .inr (9, [.int 0, .ref a1, .int 19, .int 0, .int 0, .int 0, .int 0, .int (-1), .ref a2, .ref a3, .ref a4, .ref a5, .int 0, .int 0, .int 0, .int 0, .int 0, .ref a6])), (a1, .inl (cs 0, 600, .inl (upd (upd (upd (upd (upd (upd (upd (upd (upd (upd (upd (upd (upd (upd (upd (upd (upd (upd (upd (upd (fun _ => 0) 0 ((x0 >>> (24 &&& 31)) &&& 255)) 1 ((x0 >>> (16 &&& 31)) &&& 255)) 2 ((x0 >>> (8 &&& 31)) &&& 255)) 3 ((x0 >>> (0 &&& 31)) &&& 255)) 4 ((x1 >>> (24 &&& 31)) &&& 255)) 5 ((x1 >>> (16 &&& 31)) &&& 255)) 6 ((x1 >>> (8 &&& 31)) &&& 255)) 7 ((x1 >>> (0 &&& 31)) &&& 255)) 8 ((x2 >>> (24 &&& 31)) &&& 255)) 9 ((x2 >>> (16 &&& 31)) &&& 255)) 10 ((x2 >>> (8 &&& 31)) &&& 255)) 11 ((x2 >>> (0 &&& 31)) &&& 255)) 12 ((x3 >>> (24 &&& 31)) &&& 255)) 13 ((x3 >>> (16 &&& 31)) &&& 255)) 14 ((x3 >>> (8 &&& 31)) &&& 255)) 15 ((x3 >>> (0 &&& 31)) &&& 255)) 16 ((x4 >>> (24 &&& 31)) &&& 255)) 17 ((x4 >>> (16 &&& 31)) &&& 255)) 18 ((x4 >>> (8 &&& 31)) &&& 255)) 19 ((x4 >>> (0 &&& 31)) &&& 255))))] H := hP
  have hD : va_D A [(a0, .inr (9, [.int 0, .ref a1, .int 19, .int 0, .int 0, .int 0, .int 0, .int (-1), .ref a2, .ref a3, .ref a4, .ref a5, .int 0, .int 0, .int 0, .int 0, .int 0, .ref a6])), (a1, .inl (cs 0, 600, .inl (upd (upd (upd (upd (upd (upd (upd (upd (upd (upd (upd (upd (upd (upd (upd (upd (upd (upd (upd (upd (fun _ => 0) 0 ((x0 >>> (24 &&& 31)) &&& 255)) 1 ((x0 >>> (16 &&& 31)) &&& 255)) 2 ((x0 >>> (8 &&& 31)) &&& 255)) 3 ((x0 >>> (0 &&& 31)) &&& 255)) 4 ((x1 >>> (24 &&& 31)) &&& 255)) 5 ((x1 >>> (16 &&& 31)) &&& 255)) 6 ((x1 >>> (8 &&& 31)) &&& 255)) 7 ((x1 >>> (0 &&& 31)) &&& 255)) 8 ((x2 >>> (24 &&& 31)) &&& 255)) 9 ((x2 >>> (16 &&& 31)) &&& 255)) 10 ((x2 >>> (8 &&& 31)) &&& 255)) 11 ((x2 >>> (0 &&& 31)) &&& 255)) 12 ((x3 >>> (24 &&& 31)) &&& 255)) 13 ((x3 >>> (16 &&& 31)) &&& 255)) 14 ((x3 >>> (8 &&& 31)) &&& 255)) 15 ((x3 >>> (0 &&& 31)) &&& 255)) 16 ((x4 >>> (24 &&& 31)) &&& 255)) 17 ((x4 >>> (16 &&& 31)) &&& 255)) 18 ((x4 >>> (8 &&& 31)) &&& 255)) 19 ((x4 >>> (0 &&& 31)) &&& 255))))] := hD
  refine lv_aload_n hx hb dX9_append_104 rfl (lv_at hl 2 rfl) ?_
  refine lv_dup hx hb dX9_append_105 rfl ?_
  refine va_get (D := D) (ci := 9) (v := .int 19) (C := RX9) (T := TX9) (N := 18) hx hb hts iX9_append_9 hown hN.1 hP 0 rfl rfl 2 (by decide) (hts _ mX9_append_2) (fun _ h9 => h9) rfl dX9_append_106 ?_
  refine lv_iconst (v := 1) hx hb dX9_append_109 (by decide) ?_
  refine lv_iadd hx hb dX9_append_110 ?_
  refine tp_i (20) (by decide) ?_
  refine va_put (D := D) (ci := 9) (v := .int 20) (ty := .int) (C := RX9) (T := TX9) (N := 18) hx hb hts iX9_append_9 tyX9 tyX9_ok nmX9 hown hN.1 hP hD hS 0 rfl rfl 2 (by decide) (hts _ mX9_append_2) (fun _ h9 => h9) rfl (by decide +kernel) rfl rfl (Nat.le_of_ble_eq_true rfl) dX9_append_111 (fun H locs hP hD hS => ?_)
  have hP : va_P D vwCl [(a0, .inr (9, [.int 0, .ref a1, .int 20, .int 0, .int 0, .int 0, .int 0, .int (-1), .ref a2, .ref a3, .ref a4, .ref a5, .int 0, .int 0, .int 0, .int 0, .int 0, .ref a6])), (a1, .inl (cs 0, 600, .inl (upd (upd (upd (upd (upd (upd (upd (upd (upd (upd (upd (upd (upd (upd (upd (upd (upd (upd (upd (upd (fun _ => 0) 0 ((x0 >>> (24 &&& 31)) &&& 255)) 1 ((x0 >>> (16 &&& 31)) &&& 255)) 2 ((x0 >>> (8 &&& 31)) &&& 255)) 3 ((x0 >>> (0 &&& 31)) &&& 255)) 4 ((x1 >>> (24 &&& 31)) &&& 255)) 5 ((x1 >>> (16 &&& 31)) &&& 255)) 6 ((x1 >>> (8 &&& 31)) &&& 255)) 7 ((x1 >>> (0 &&& 31)) &&& 255)) 8 ((x2 >>> (24 &&& 31)) &&& 255)) 9 ((x2 >>> (16 &&& 31)) &&& 255)) 10 ((x2 >>> (8 &&& 31)) &&& 255)) 11 ((x2 >>> (0 &&& 31)) &&& 255)) 12 ((x3 >>> (24 &&& 31)) &&& 255)) 13 ((x3 >>> (16 &&& 31)) &&& 255)) 14 ((x3 >>> (8 &&& 31)) &&& 255)) 15 ((x3 >>> (0 &&& 31)) &&& 255)) 16 ((x4 >>> (24 &&& 31)) &&& 255)) 17 ((x4 >>> (16 &&& 31)) &&& 255)) 18 ((x4 >>> (8 &&& 31)) &&& 255)) 19 ((x4 >>> (0 &&& 31)) &&& 255))))] H := hP
  have hD : va_D A [(a0, .inr (9, [.int 0, .ref a1, .int 20, .int 0, .int 0, .int 0, .int 0, .int (-1), .ref a2, .ref a3, .ref a4, .ref a5, .int 0, .int 0, .int 0, .int 0, .int 0, .ref a6])), (a1, .inl (cs 0, 600, .inl (upd (upd (upd (upd (upd (upd (upd (upd (upd (upd (upd (upd (upd (upd (upd (upd (upd (upd (upd (upd (fun _ => 0) 0 ((x0 >>> (24 &&& 31)) &&& 255)) 1 ((x0 >>> (16 &&& 31)) &&& 255)) 2 ((x0 >>> (8 &&& 31)) &&& 255)) 3 ((x0 >>> (0 &&& 31)) &&& 255)) 4 ((x1 >>> (24 &&& 31)) &&& 255)) 5 ((x1 >>> (16 &&& 31)) &&& 255)) 6 ((x1 >>> (8 &&& 31)) &&& 255)) 7 ((x1 >>> (0 &&& 31)) &&& 255)) 8 ((x2 >>> (24 &&& 31)) &&& 255)) 9 ((x2 >>> (16 &&& 31)) &&& 255)) 10 ((x2 >>> (8 &&& 31)) &&& 255)) 11 ((x2 >>> (0 &&& 31)) &&& 255)) 12 ((x3 >>> (24 &&& 31)) &&& 255)) 13 ((x3 >>> (16 &&& 31)) &&& 255)) 14 ((x3 >>> (8 &&& 31)) &&& 255)) 15 ((x3 >>> (0 &&& 31)) &&& 255)) 16 ((x4 >>> (24 &&& 31)) &&& 255)) 17 ((x4 >>> (16 &&& 31)) &&& 255)) 18 ((x4 >>> (8 &&& 31)) &&& 255)) 19 ((x4 >>> (0 &&& 31)) &&& 255))))] := hD
  refine lv_iinc (v := 20) (lv' := [(6, .int 20), (7, .int x4), (0, .ref a0), (1, .int x0), (2, .int x1), (3, .int x2), (4, .int x3), (5, .int x4)]) hx hb dX9_append_114 hl (k := 1) rfl (by decide) (by decide) rfl (fun ls hl => ?_)
  refine lv_goto (tgt := 23) hx hb dX9_append_117 (by decide) ?_
  refine lv_iload hx hb dX9_append_23 (lv_at hl 0 rfl) ?_
  refine lv_bipush (v := 20) hx hb dX9_append_25 (by decide) ?_
  refine lv_icmp_ge (tgt := 120) hx hb dX9_append_27 (by decide) (fun _ => ?_) (fun c9 => absurd (by decide) c9)
  refine lv_aload_n hx hb dX9_append_120 rfl (lv_at hl 2 rfl) ?_
  refine va_get (D := D) (ci := 9) (v := .int 20) (C := RX9) (T := TX9) (N := 18) hx hb hts iX9_append_9 hown hN.1 hP 0 rfl rfl 2 (by decide) (hts _ mX9_append_2) (fun _ h9 => h9) rfl dX9_append_121 ?_
  exact en_i (fun k => ([] : List Nat).getD k 0) hx hb hr hlocks rfl rfl hP hD hS (Nat.le_of_ble_eq_true rfl) (Nat.le_of_ble_eq_true rfl) dX9_append_124
theorem hdX8_append_v : yX8_append.cls = RX8 ∧ yX8_append.cls ≠ "java/lang/invoke/MethodHandle" ∧ yX8_append.cls ≠ "java/lang/invoke/VarHandle" ∧ (parseMethodDescriptor yX8_append.desc).map (fun d => d.parameters.length) = some 5 := by decide +kernel
theorem hdX9_append_v : yX9_append.cls = RX9 ∧ yX9_append.cls ≠ "java/lang/invoke/MethodHandle" ∧ yX9_append.cls ≠ "java/lang/invoke/VarHandle" ∧ (parseMethodDescriptor yX9_append.desc).map (fun d => d.parameters.length) = some 5 := by decide +kernel
set_option maxHeartbeats 4000000 in
set_option maxRecDepth 100000 in
theorem law_0 {p : Program} {l : Launch} {e : Env} {s : State} {m : MethodId} {args : Array Value} {below : List Frame} {meth : Method} {c : Code} {Q : State → Prop} {D : va_G} {cs : Nat → ClassId} {A : Nat → Prop} {xs : Nat → Int32} {b : Nat} (hx : p.tables.exec = Jvm.exec) (hb : c.code = cL_law) (hml : c.maxLocals = 9) (hown : s.vm.findClass RL = some m.cls) (hts : ∀ w ∈ wsL_law, w.before args s = true) (hN : NK D cs s) (hX : va_X b 6 xs s s.heap) (hbl : b < s.heap.size) (hbA : ¬ A b) (hA : ∀ q : Nat, s.heap.size ≤ q → A q) (hZ : ZX A s s.heap) (hZS : ZS cs A s s.heap) (hlt : l.stackTraces = false)
    (kend : ∀ (H : Heap) (locs : List Loc) (ls : Array Slot), va_S A s.heap H locs → lv_has ls 9 [(0, .ref b), (4, .int 0)] → W p l e room_1 s m args below meth c H locs 600002 7302232 Q (F0 m 1169 ls []))
    (a0 a1 a2 a3 a4 a5 a6 a7 a8 a9 a10 a11 a12 a13 a14 : Nat) (y1 y2 y3 y4 y5 : Int32) (hy1 : xs 1 = (y1)) (hy2 : xs 2 = (y2)) (hy3 : xs 3 = (y3)) (hy4 : xs 4 = (y4)) (hy5 : xs 5 = (y5))  (H : Heap) (locs : List Loc) (ls : Array Slot) (hP : va_P D vwCl [(a0, .inr (8, [.ref a1, .ref a5, .ref a6, .ref a7, .int 0, .int 0, .int (-1)])), (a1, .inr (5, [.ref a2, .int 0, .int 0, .int 0, .int 0, .int 0, .int 0, .int 0, .int 0, .ref a8, .int 0, .null, .int 0, .int 0])), (a2, .inl (cs 1, 600, .inl (fun _ => 0))), (a3, .inr (9, [.int 0, .ref a4, .int 0, .int 0, .int 0, .int 0, .int 0, .int (-1), .ref a9, .ref a10, .ref a11, .ref a12, .int 0, .int 0, .int 0, .int 0, .int 0, .ref a13])), (a4, .inl (cs 0, 600, .inl (fun _ => 0)))] H) (hD : va_D A [(a0, .inr (8, [.ref a1, .ref a5, .ref a6, .ref a7, .int 0, .int 0, .int (-1)])), (a1, .inr (5, [.ref a2, .int 0, .int 0, .int 0, .int 0, .int 0, .int 0, .int 0, .int 0, .ref a8, .int 0, .null, .int 0, .int 0])), (a2, .inl (cs 1, 600, .inl (fun _ => 0))), (a3, .inr (9, [.int 0, .ref a4, .int 0, .int 0, .int 0, .int 0, .int 0, .int (-1), .ref a9, .ref a10, .ref a11, .ref a12, .int 0, .int 0, .int 0, .int 0, .int 0, .ref a13])), (a4, .inl (cs 0, 600, .inl (fun _ => 0)))]) (hS : va_S A s.heap H locs) (hl : lv_has ls 9 [(4, .int 0), (3, .ref a14), (2, .ref a3), (1, .ref a0), (0, .ref b)]) : W p l e room_1 s m args below meth c H locs 391 467079 Q (F0 m 136 ls []) := by
  refine lv_aload_n hx hb dL_law_136 rfl (lv_at hl 3 rfl) ?_
  refine lv_aload_n hx hb dL_law_137 rfl (lv_at hl 4 rfl) ?_
  refine lv_iload hx hb dL_law_138 (lv_at hl 0 rfl) ?_
  refine lv_iconst (v := 1) hx hb dL_law_140 (by decide) ?_
  refine lv_iadd hx hb dL_law_141 ?_
  refine tp_i (1) (by decide) ?_
  refine va_sld hx hb hX hbl hbA hS (vin (by decide +kernel)) dL_law_142 ?_
  refine tp_i (y1) hy1 ?_
  refine lv_aload_n hx hb dL_law_143 rfl (lv_at hl 4 rfl) ?_
  refine lv_iload hx hb dL_law_144 (lv_at hl 0 rfl) ?_
  refine lv_iconst (v := 2) hx hb dL_law_146 (by decide) ?_
  refine lv_iadd hx hb dL_law_147 ?_
  refine tp_i (2) (by decide) ?_
  refine va_sld hx hb hX hbl hbA hS (vin (by decide +kernel)) dL_law_148 ?_
  refine tp_i (y2) hy2 ?_
  refine lv_aload_n hx hb dL_law_149 rfl (lv_at hl 4 rfl) ?_
  refine lv_iload hx hb dL_law_150 (lv_at hl 0 rfl) ?_
  refine lv_iconst (v := 3) hx hb dL_law_152 (by decide) ?_
  refine lv_iadd hx hb dL_law_153 ?_
  refine tp_i (3) (by decide) ?_
  refine va_sld hx hb hX hbl hbA hS (vin (by decide +kernel)) dL_law_154 ?_
  refine tp_i (y3) hy3 ?_
  refine lv_aload_n hx hb dL_law_155 rfl (lv_at hl 4 rfl) ?_
  refine lv_iload hx hb dL_law_156 (lv_at hl 0 rfl) ?_
  refine lv_iconst (v := 4) hx hb dL_law_158 (by decide) ?_
  refine lv_iadd hx hb dL_law_159 ?_
  refine tp_i (4) (by decide) ?_
  refine va_sld hx hb hX hbl hbA hS (vin (by decide +kernel)) dL_law_160 ?_
  refine tp_i (y4) hy4 ?_
  refine lv_aload_n hx hb dL_law_161 rfl (lv_at hl 4 rfl) ?_
  refine lv_iload hx hb dL_law_162 (lv_at hl 0 rfl) ?_
  refine lv_iconst (v := 5) hx hb dL_law_164 (by decide) ?_
  refine lv_iadd hx hb dL_law_165 ?_
  refine tp_i (5) (by decide) ?_
  refine va_sld hx hb hX hbl hbA hS (vin (by decide +kernel)) dL_law_166 ?_
  refine tp_i (y5) hy5 ?_
  refine cv_i (As := [.int y1, .int y2, .int y3, .int y4, .int y5]) (rest := []) (b := a0) (wr := [(a3, .inr (9, [.int 0, .ref a4, .int 0, .int 0, .int 0, .int 0, .int 0, .int (-1), .ref a9, .ref a10, .ref a11, .ref a12, .int 0, .int 0, .int 0, .int 0, .int 0, .ref a13])), (a4, .inl (cs 0, 600, .inl (fun _ => 0)))]) ⟨hx, hb, hml, hown, hts⟩ (fun sz => k32_X8_append l D cs sz a0 a1 a2 a5 a6 a7 a8 (y1) (y2) (y3) (y4) (y5)) (cwV 5 hts gL_law_X8_append rfl rfl rfl hdX8_append_v ⟨Nat.le_of_ble_eq_true rfl, Nat.le_of_ble_eq_true rfl⟩) hN hP hD hS hA [0, 1, 2] [3, 4] rfl rfl rfl rfl (by decide) (ci := 8) (q0 := 0) rfl rfl rfl rfl hl.1 (Nat.le_of_ble_eq_true rfl) dL_law_167 (Nat.le_of_ble_eq_true rfl) (Nat.le_of_ble_eq_true rfl) (fun u0 H locs hP hD hS => ?_)
  have hP : va_P D vwCl [(a3, .inr (9, [.int 0, .ref a4, .int 0, .int 0, .int 0, .int 0, .int 0, .int (-1), .ref a9, .ref a10, .ref a11, .ref a12, .int 0, .int 0, .int 0, .int 0, .int 0, .ref a13])), (a4, .inl (cs 0, 600, .inl (fun _ => 0))), (a0, .inr (8, [.ref a1, .ref a5, .ref a6, .ref a7, .int 0, .int 0, .int (-1)])), (a1, .inr (5, [.ref a2, .int 20, .int 0, .int 0, .int 0, .int 0, .int 0, .int 0, .int 0, .ref a8, .int 0, .null, .int 0, .int 0])), (a2, .inl (cs 1, 600, .inl (upd (upd (upd (upd (upd (upd (upd (upd (upd (upd (upd (upd (upd (upd (upd (upd (upd (upd (upd (upd (fun _ => 0) 0 (vp_nar .byte (y1 >>> (24 &&& 31)).toInt8.toInt32)) 1 (vp_nar .byte (y1 >>> (16 &&& 31)).toInt8.toInt32)) 2 (vp_nar .byte (y1 >>> (8 &&& 31)).toInt8.toInt32)) 3 (vp_nar .byte (y1 >>> (0 &&& 31)).toInt8.toInt32)) 4 (vp_nar .byte (y2 >>> (24 &&& 31)).toInt8.toInt32)) 5 (vp_nar .byte (y2 >>> (16 &&& 31)).toInt8.toInt32)) 6 (vp_nar .byte (y2 >>> (8 &&& 31)).toInt8.toInt32)) 7 (vp_nar .byte (y2 >>> (0 &&& 31)).toInt8.toInt32)) 8 (vp_nar .byte (y3 >>> (24 &&& 31)).toInt8.toInt32)) 9 (vp_nar .byte (y3 >>> (16 &&& 31)).toInt8.toInt32)) 10 (vp_nar .byte (y3 >>> (8 &&& 31)).toInt8.toInt32)) 11 (vp_nar .byte (y3 >>> (0 &&& 31)).toInt8.toInt32)) 12 (vp_nar .byte (y4 >>> (24 &&& 31)).toInt8.toInt32)) 13 (vp_nar .byte (y4 >>> (16 &&& 31)).toInt8.toInt32)) 14 (vp_nar .byte (y4 >>> (8 &&& 31)).toInt8.toInt32)) 15 (vp_nar .byte (y4 >>> (0 &&& 31)).toInt8.toInt32)) 16 (vp_nar .byte (y5 >>> (24 &&& 31)).toInt8.toInt32)) 17 (vp_nar .byte (y5 >>> (16 &&& 31)).toInt8.toInt32)) 18 (vp_nar .byte (y5 >>> (8 &&& 31)).toInt8.toInt32)) 19 (vp_nar .byte (y5 >>> (0 &&& 31)).toInt8.toInt32))))] H := hP
  have hD : va_D A [(a3, .inr (9, [.int 0, .ref a4, .int 0, .int 0, .int 0, .int 0, .int 0, .int (-1), .ref a9, .ref a10, .ref a11, .ref a12, .int 0, .int 0, .int 0, .int 0, .int 0, .ref a13])), (a4, .inl (cs 0, 600, .inl (fun _ => 0))), (a0, .inr (8, [.ref a1, .ref a5, .ref a6, .ref a7, .int 0, .int 0, .int (-1)])), (a1, .inr (5, [.ref a2, .int 20, .int 0, .int 0, .int 0, .int 0, .int 0, .int 0, .int 0, .ref a8, .int 0, .null, .int 0, .int 0])), (a2, .inl (cs 1, 600, .inl (upd (upd (upd (upd (upd (upd (upd (upd (upd (upd (upd (upd (upd (upd (upd (upd (upd (upd (upd (upd (fun _ => 0) 0 (vp_nar .byte (y1 >>> (24 &&& 31)).toInt8.toInt32)) 1 (vp_nar .byte (y1 >>> (16 &&& 31)).toInt8.toInt32)) 2 (vp_nar .byte (y1 >>> (8 &&& 31)).toInt8.toInt32)) 3 (vp_nar .byte (y1 >>> (0 &&& 31)).toInt8.toInt32)) 4 (vp_nar .byte (y2 >>> (24 &&& 31)).toInt8.toInt32)) 5 (vp_nar .byte (y2 >>> (16 &&& 31)).toInt8.toInt32)) 6 (vp_nar .byte (y2 >>> (8 &&& 31)).toInt8.toInt32)) 7 (vp_nar .byte (y2 >>> (0 &&& 31)).toInt8.toInt32)) 8 (vp_nar .byte (y3 >>> (24 &&& 31)).toInt8.toInt32)) 9 (vp_nar .byte (y3 >>> (16 &&& 31)).toInt8.toInt32)) 10 (vp_nar .byte (y3 >>> (8 &&& 31)).toInt8.toInt32)) 11 (vp_nar .byte (y3 >>> (0 &&& 31)).toInt8.toInt32)) 12 (vp_nar .byte (y4 >>> (24 &&& 31)).toInt8.toInt32)) 13 (vp_nar .byte (y4 >>> (16 &&& 31)).toInt8.toInt32)) 14 (vp_nar .byte (y4 >>> (8 &&& 31)).toInt8.toInt32)) 15 (vp_nar .byte (y4 >>> (0 &&& 31)).toInt8.toInt32)) 16 (vp_nar .byte (y5 >>> (24 &&& 31)).toInt8.toInt32)) 17 (vp_nar .byte (y5 >>> (16 &&& 31)).toInt8.toInt32)) 18 (vp_nar .byte (y5 >>> (8 &&& 31)).toInt8.toInt32)) 19 (vp_nar .byte (y5 >>> (0 &&& 31)).toInt8.toInt32))))] := hD
  refine W.widen (k := 391) (n := 467079) (Nat.le_of_ble_eq_true rfl) (Nat.le_of_ble_eq_true rfl) ?_
  refine lv_aload_n hx hb dL_law_170 rfl (lv_at hl 2 rfl) ?_
  refine lv_aload_n hx hb dL_law_171 rfl (lv_at hl 4 rfl) ?_
  refine lv_iload hx hb dL_law_172 (lv_at hl 0 rfl) ?_
  refine lv_iconst (v := 1) hx hb dL_law_174 (by decide) ?_
  refine lv_iadd hx hb dL_law_175 ?_
  refine tp_i (1) (by decide) ?_
  refine va_sld hx hb hX hbl hbA hS (vin (by decide +kernel)) dL_law_176 ?_
  refine tp_i (y1) hy1 ?_
  refine lv_aload_n hx hb dL_law_177 rfl (lv_at hl 4 rfl) ?_
  refine lv_iload hx hb dL_law_178 (lv_at hl 0 rfl) ?_
  refine lv_iconst (v := 2) hx hb dL_law_180 (by decide) ?_
  refine lv_iadd hx hb dL_law_181 ?_
  refine tp_i (2) (by decide) ?_
  refine va_sld hx hb hX hbl hbA hS (vin (by decide +kernel)) dL_law_182 ?_
  refine tp_i (y2) hy2 ?_
  refine lv_aload_n hx hb dL_law_183 rfl (lv_at hl 4 rfl) ?_
  refine lv_iload hx hb dL_law_184 (lv_at hl 0 rfl) ?_
  refine lv_iconst (v := 3) hx hb dL_law_186 (by decide) ?_
  refine lv_iadd hx hb dL_law_187 ?_
  refine tp_i (3) (by decide) ?_
  refine va_sld hx hb hX hbl hbA hS (vin (by decide +kernel)) dL_law_188 ?_
  refine tp_i (y3) hy3 ?_
  refine lv_aload_n hx hb dL_law_189 rfl (lv_at hl 4 rfl) ?_
  refine lv_iload hx hb dL_law_190 (lv_at hl 0 rfl) ?_
  refine lv_iconst (v := 4) hx hb dL_law_192 (by decide) ?_
  refine lv_iadd hx hb dL_law_193 ?_
  refine tp_i (4) (by decide) ?_
  refine va_sld hx hb hX hbl hbA hS (vin (by decide +kernel)) dL_law_194 ?_
  refine tp_i (y4) hy4 ?_
  refine lv_aload_n hx hb dL_law_195 rfl (lv_at hl 4 rfl) ?_
  refine lv_iload hx hb dL_law_196 (lv_at hl 0 rfl) ?_
  refine lv_iconst (v := 5) hx hb dL_law_198 (by decide) ?_
  refine lv_iadd hx hb dL_law_199 ?_
  refine tp_i (5) (by decide) ?_
  refine va_sld hx hb hX hbl hbA hS (vin (by decide +kernel)) dL_law_200 ?_
  refine tp_i (y5) hy5 ?_
  refine cv_i (As := [.int y1, .int y2, .int y3, .int y4, .int y5]) (rest := [.int 20]) (b := a3) (wr := [(a0, .inr (8, [.ref a1, .ref a5, .ref a6, .ref a7, .int 0, .int 0, .int (-1)])), (a1, .inr (5, [.ref a2, .int 20, .int 0, .int 0, .int 0, .int 0, .int 0, .int 0, .int 0, .ref a8, .int 0, .null, .int 0, .int 0])), (a2, .inl (cs 1, 600, .inl (upd (upd (upd (upd (upd (upd (upd (upd (upd (upd (upd (upd (upd (upd (upd (upd (upd (upd (upd (upd (fun _ => 0) 0 (vp_nar .byte (y1 >>> (24 &&& 31)).toInt8.toInt32)) 1 (vp_nar .byte (y1 >>> (16 &&& 31)).toInt8.toInt32)) 2 (vp_nar .byte (y1 >>> (8 &&& 31)).toInt8.toInt32)) 3 (vp_nar .byte (y1 >>> (0 &&& 31)).toInt8.toInt32)) 4 (vp_nar .byte (y2 >>> (24 &&& 31)).toInt8.toInt32)) 5 (vp_nar .byte (y2 >>> (16 &&& 31)).toInt8.toInt32)) 6 (vp_nar .byte (y2 >>> (8 &&& 31)).toInt8.toInt32)) 7 (vp_nar .byte (y2 >>> (0 &&& 31)).toInt8.toInt32)) 8 (vp_nar .byte (y3 >>> (24 &&& 31)).toInt8.toInt32)) 9 (vp_nar .byte (y3 >>> (16 &&& 31)).toInt8.toInt32)) 10 (vp_nar .byte (y3 >>> (8 &&& 31)).toInt8.toInt32)) 11 (vp_nar .byte (y3 >>> (0 &&& 31)).toInt8.toInt32)) 12 (vp_nar .byte (y4 >>> (24 &&& 31)).toInt8.toInt32)) 13 (vp_nar .byte (y4 >>> (16 &&& 31)).toInt8.toInt32)) 14 (vp_nar .byte (y4 >>> (8 &&& 31)).toInt8.toInt32)) 15 (vp_nar .byte (y4 >>> (0 &&& 31)).toInt8.toInt32)) 16 (vp_nar .byte (y5 >>> (24 &&& 31)).toInt8.toInt32)) 17 (vp_nar .byte (y5 >>> (16 &&& 31)).toInt8.toInt32)) 18 (vp_nar .byte (y5 >>> (8 &&& 31)).toInt8.toInt32)) 19 (vp_nar .byte (y5 >>> (0 &&& 31)).toInt8.toInt32))))]) ⟨hx, hb, hml, hown, hts⟩ (fun sz => k33_X9_append l D cs sz a3 a4 a9 a10 a11 a12 a13 (y1) (y2) (y3) (y4) (y5)) (cwV 5 hts gL_law_X9_append rfl rfl rfl hdX9_append_v ⟨Nat.le_of_ble_eq_true rfl, Nat.le_of_ble_eq_true rfl⟩) hN hP hD hS hA [0, 1] [2, 3, 4] rfl rfl rfl rfl (by decide) (ci := 9) (q0 := 0) rfl rfl rfl rfl hl.1 (Nat.le_of_ble_eq_true rfl) dL_law_201 (Nat.le_of_ble_eq_true rfl) (Nat.le_of_ble_eq_true rfl) (fun u1 H locs hP hD hS => ?_)
  have hP : va_P D vwCl [(a0, .inr (8, [.ref a1, .ref a5, .ref a6, .ref a7, .int 0, .int 0, .int (-1)])), (a1, .inr (5, [.ref a2, .int 20, .int 0, .int 0, .int 0, .int 0, .int 0, .int 0, .int 0, .ref a8, .int 0, .null, .int 0, .int 0])), (a2, .inl (cs 1, 600, .inl (upd (upd (upd (upd (upd (upd (upd (upd (upd (upd (upd (upd (upd (upd (upd (upd (upd (upd (upd (upd (fun _ => 0) 0 (vp_nar .byte (y1 >>> (24 &&& 31)).toInt8.toInt32)) 1 (vp_nar .byte (y1 >>> (16 &&& 31)).toInt8.toInt32)) 2 (vp_nar .byte (y1 >>> (8 &&& 31)).toInt8.toInt32)) 3 (vp_nar .byte (y1 >>> (0 &&& 31)).toInt8.toInt32)) 4 (vp_nar .byte (y2 >>> (24 &&& 31)).toInt8.toInt32)) 5 (vp_nar .byte (y2 >>> (16 &&& 31)).toInt8.toInt32)) 6 (vp_nar .byte (y2 >>> (8 &&& 31)).toInt8.toInt32)) 7 (vp_nar .byte (y2 >>> (0 &&& 31)).toInt8.toInt32)) 8 (vp_nar .byte (y3 >>> (24 &&& 31)).toInt8.toInt32)) 9 (vp_nar .byte (y3 >>> (16 &&& 31)).toInt8.toInt32)) 10 (vp_nar .byte (y3 >>> (8 &&& 31)).toInt8.toInt32)) 11 (vp_nar .byte (y3 >>> (0 &&& 31)).toInt8.toInt32)) 12 (vp_nar .byte (y4 >>> (24 &&& 31)).toInt8.toInt32)) 13 (vp_nar .byte (y4 >>> (16 &&& 31)).toInt8.toInt32)) 14 (vp_nar .byte (y4 >>> (8 &&& 31)).toInt8.toInt32)) 15 (vp_nar .byte (y4 >>> (0 &&& 31)).toInt8.toInt32)) 16 (vp_nar .byte (y5 >>> (24 &&& 31)).toInt8.toInt32)) 17 (vp_nar .byte (y5 >>> (16 &&& 31)).toInt8.toInt32)) 18 (vp_nar .byte (y5 >>> (8 &&& 31)).toInt8.toInt32)) 19 (vp_nar .byte (y5 >>> (0 &&& 31)).toInt8.toInt32)))), (a3, .inr (9, [.int 0, .ref a4, .int 20, .int 0, .int 0, .int 0, .int 0, .int (-1), .ref a9, .ref a10, .ref a11, .ref a12, .int 0, .int 0, .int 0, .int 0, .int 0, .ref a13])), (a4, .inl (cs 0, 600, .inl (upd (upd (upd (upd (upd (upd (upd (upd (upd (upd (upd (upd (upd (upd (upd (upd (upd (upd (upd (upd (fun _ => 0) 0 ((y1 >>> (24 &&& 31)) &&& 255)) 1 ((y1 >>> (16 &&& 31)) &&& 255)) 2 ((y1 >>> (8 &&& 31)) &&& 255)) 3 ((y1 >>> (0 &&& 31)) &&& 255)) 4 ((y2 >>> (24 &&& 31)) &&& 255)) 5 ((y2 >>> (16 &&& 31)) &&& 255)) 6 ((y2 >>> (8 &&& 31)) &&& 255)) 7 ((y2 >>> (0 &&& 31)) &&& 255)) 8 ((y3 >>> (24 &&& 31)) &&& 255)) 9 ((y3 >>> (16 &&& 31)) &&& 255)) 10 ((y3 >>> (8 &&& 31)) &&& 255)) 11 ((y3 >>> (0 &&& 31)) &&& 255)) 12 ((y4 >>> (24 &&& 31)) &&& 255)) 13 ((y4 >>> (16 &&& 31)) &&& 255)) 14 ((y4 >>> (8 &&& 31)) &&& 255)) 15 ((y4 >>> (0 &&& 31)) &&& 255)) 16 ((y5 >>> (24 &&& 31)) &&& 255)) 17 ((y5 >>> (16 &&& 31)) &&& 255)) 18 ((y5 >>> (8 &&& 31)) &&& 255)) 19 ((y5 >>> (0 &&& 31)) &&& 255))))] H := hP
  have hD : va_D A [(a0, .inr (8, [.ref a1, .ref a5, .ref a6, .ref a7, .int 0, .int 0, .int (-1)])), (a1, .inr (5, [.ref a2, .int 20, .int 0, .int 0, .int 0, .int 0, .int 0, .int 0, .int 0, .ref a8, .int 0, .null, .int 0, .int 0])), (a2, .inl (cs 1, 600, .inl (upd (upd (upd (upd (upd (upd (upd (upd (upd (upd (upd (upd (upd (upd (upd (upd (upd (upd (upd (upd (fun _ => 0) 0 (vp_nar .byte (y1 >>> (24 &&& 31)).toInt8.toInt32)) 1 (vp_nar .byte (y1 >>> (16 &&& 31)).toInt8.toInt32)) 2 (vp_nar .byte (y1 >>> (8 &&& 31)).toInt8.toInt32)) 3 (vp_nar .byte (y1 >>> (0 &&& 31)).toInt8.toInt32)) 4 (vp_nar .byte (y2 >>> (24 &&& 31)).toInt8.toInt32)) 5 (vp_nar .byte (y2 >>> (16 &&& 31)).toInt8.toInt32)) 6 (vp_nar .byte (y2 >>> (8 &&& 31)).toInt8.toInt32)) 7 (vp_nar .byte (y2 >>> (0 &&& 31)).toInt8.toInt32)) 8 (vp_nar .byte (y3 >>> (24 &&& 31)).toInt8.toInt32)) 9 (vp_nar .byte (y3 >>> (16 &&& 31)).toInt8.toInt32)) 10 (vp_nar .byte (y3 >>> (8 &&& 31)).toInt8.toInt32)) 11 (vp_nar .byte (y3 >>> (0 &&& 31)).toInt8.toInt32)) 12 (vp_nar .byte (y4 >>> (24 &&& 31)).toInt8.toInt32)) 13 (vp_nar .byte (y4 >>> (16 &&& 31)).toInt8.toInt32)) 14 (vp_nar .byte (y4 >>> (8 &&& 31)).toInt8.toInt32)) 15 (vp_nar .byte (y4 >>> (0 &&& 31)).toInt8.toInt32)) 16 (vp_nar .byte (y5 >>> (24 &&& 31)).toInt8.toInt32)) 17 (vp_nar .byte (y5 >>> (16 &&& 31)).toInt8.toInt32)) 18 (vp_nar .byte (y5 >>> (8 &&& 31)).toInt8.toInt32)) 19 (vp_nar .byte (y5 >>> (0 &&& 31)).toInt8.toInt32)))), (a3, .inr (9, [.int 0, .ref a4, .int 20, .int 0, .int 0, .int 0, .int 0, .int (-1), .ref a9, .ref a10, .ref a11, .ref a12, .int 0, .int 0, .int 0, .int 0, .int 0, .ref a13])), (a4, .inl (cs 0, 600, .inl (upd (upd (upd (upd (upd (upd (upd (upd (upd (upd (upd (upd (upd (upd (upd (upd (upd (upd (upd (upd (fun _ => 0) 0 ((y1 >>> (24 &&& 31)) &&& 255)) 1 ((y1 >>> (16 &&& 31)) &&& 255)) 2 ((y1 >>> (8 &&& 31)) &&& 255)) 3 ((y1 >>> (0 &&& 31)) &&& 255)) 4 ((y2 >>> (24 &&& 31)) &&& 255)) 5 ((y2 >>> (16 &&& 31)) &&& 255)) 6 ((y2 >>> (8 &&& 31)) &&& 255)) 7 ((y2 >>> (0 &&& 31)) &&& 255)) 8 ((y3 >>> (24 &&& 31)) &&& 255)) 9 ((y3 >>> (16 &&& 31)) &&& 255)) 10 ((y3 >>> (8 &&& 31)) &&& 255)) 11 ((y3 >>> (0 &&& 31)) &&& 255)) 12 ((y4 >>> (24 &&& 31)) &&& 255)) 13 ((y4 >>> (16 &&& 31)) &&& 255)) 14 ((y4 >>> (8 &&& 31)) &&& 255)) 15 ((y4 >>> (0 &&& 31)) &&& 255)) 16 ((y5 >>> (24 &&& 31)) &&& 255)) 17 ((y5 >>> (16 &&& 31)) &&& 255)) 18 ((y5 >>> (8 &&& 31)) &&& 255)) 19 ((y5 >>> (0 &&& 31)) &&& 255))))] := hD
  refine W.widen (k := 391) (n := 467079) (Nat.le_of_ble_eq_true rfl) (Nat.le_of_ble_eq_true rfl) ?_
  refine lv_icmp_eq (tgt := 1169) hx hb dL_law_204 (by decide) (fun _ => ?_) (fun c9 => absurd (by decide) c9)
  refine W.widen (k := 600002) (n := 7302232) (Nat.le_of_ble_eq_true rfl) (Nat.le_of_ble_eq_true rfl) ?_
  exact kend _ _ _ hS (lv_sub hl [4, 0] rfl)

theorem mX8_errorOffset_1 : (.fieldLink RX8 30 "OneBeat" "errorAt" "I" : Cond) ∈ wsX8_errorOffset := List.mem_of_getElem? (i := 1) (by decide +kernel)
theorem iX8_errorOffset_8 : ∀ w ∈ wsX80, w ∈ wsX8_errorOffset := fun w h => List.mem_of_mem_drop (List.mem_of_mem_take ((show wsX80 = (wsX8_errorOffset.drop 2).take 7 by decide +kernel) ▸ h))
set_option maxHeartbeats 4000000 in
set_option maxRecDepth 100000 in
theorem k34_X8_errorOffset (l : Launch) (D : va_G) (cs : Nat → ClassId) (sz : Nat) (a0 a1 a2 a3 a4 : Nat) : KI l yX8_errorOffset wsX8_errorOffset 0 0 0 0 D cs sz [.ref a0] [(a0, .inr (8, [.ref a1, .ref a2, .ref a3, .ref a4, .int 0, .int 0, .int (-1)]))] (fun u => [(a0, .inr (8, [.ref a1, .ref a2, .ref a3, .ref a4, .int 0, .int 0, .int (-1)]))]) ((-1)) := by
  refine KI.of cX8_errorOffset 1 (some .int) (by decide) rfl (Nat.le_of_ble_eq_true rfl) ?_
  intro p e s m below meth c A ls hx hb hr hml hown hts hlocks hin hP hN hD hA hS hl
  have hown : s.vm.findClass RX8 = some m.cls := hown
  have hl : lv_has ls 1 [(0, .ref a0)] := hl
  refine lv_aload_n hx hb dX8_errorOffset_0 rfl (lv_at hl 0 rfl) ?_
  refine va_get (D := D) (ci := 8) (v := .int (-1)) (C := RX8) (T := TX8) (N := 7) hx hb hts iX8_errorOffset_8 hown hN.1 hP 0 rfl rfl 6 (by decide) (hts _ mX8_errorOffset_1) (fun _ h9 => h9) rfl dX8_errorOffset_1 ?_
  exact en_i (fun k => ([] : List Nat).getD k 0) hx hb hr hlocks rfl rfl hP hD hS (Nat.le_of_ble_eq_true rfl) (Nat.le_of_ble_eq_true rfl) dX8_errorOffset_4
theorem mX9_errorOffset_1 : (.fieldLink RX9 40 "OneBeatModel" "thrown" "I" : Cond) ∈ wsX9_errorOffset := List.mem_of_getElem? (i := 1) (by decide +kernel)
theorem iX9_errorOffset_9 : ∀ w ∈ wsX90, w ∈ wsX9_errorOffset := fun w h => List.mem_of_mem_drop (List.mem_of_mem_take ((show wsX90 = (wsX9_errorOffset.drop 3).take 18 by decide +kernel) ▸ h))
theorem mX9_errorOffset_2 : (.fieldLink RX9 13 "OneBeatModel" "errorOffset" "I" : Cond) ∈ wsX9_errorOffset := List.mem_of_getElem? (i := 2) (by decide +kernel)
set_option maxHeartbeats 4000000 in
set_option maxRecDepth 100000 in
theorem k35_X9_errorOffset (l : Launch) (D : va_G) (cs : Nat → ClassId) (sz : Nat) (a0 a1 a2 a3 a4 a5 a6 : Nat) : KI l yX9_errorOffset wsX9_errorOffset 0 0 0 0 D cs sz [.ref a0] [(a0, .inr (9, [.int 0, .ref a1, .int 0, .int 0, .int 0, .int 0, .int 0, .int (-1), .ref a2, .ref a3, .ref a4, .ref a5, .int 0, .int 0, .int 0, .int 0, .int 0, .ref a6]))] (fun u => [(a0, .inr (9, [.int 0, .ref a1, .int 0, .int 0, .int 0, .int 0, .int 0, .int (-1), .ref a2, .ref a3, .ref a4, .ref a5, .int 0, .int 0, .int 0, .int 0, .int 0, .ref a6]))]) ((-1)) := by
  refine KI.of cX9_errorOffset 1 (some .int) (by decide) rfl (Nat.le_of_ble_eq_true rfl) ?_
  intro p e s m below meth c A ls hx hb hr hml hown hts hlocks hin hP hN hD hA hS hl
  have hown : s.vm.findClass RX9 = some m.cls := hown
  have hl : lv_has ls 1 [(0, .ref a0)] := hl
  refine lv_aload_n hx hb dX9_errorOffset_0 rfl (lv_at hl 0 rfl) ?_
  refine lv_iconst (v := 0) hx hb dX9_errorOffset_1 (by decide) ?_
  refine va_put (D := D) (ci := 9) (v := .int 0) (ty := .int) (C := RX9) (T := TX9) (N := 18) hx hb hts iX9_errorOffset_9 tyX9 tyX9_ok nmX9 hown hN.1 hP hD hS 0 rfl rfl 0 (by decide) (hts _ mX9_errorOffset_1) (fun _ h9 => h9) rfl (by decide +kernel) rfl rfl (Nat.le_of_ble_eq_true rfl) dX9_errorOffset_2 (fun H locs hP hD hS => ?_)
  have hP : va_P D vwCl [(a0, .inr (9, [.int 0, .ref a1, .int 0, .int 0, .int 0, .int 0, .int 0, .int (-1), .ref a2, .ref a3, .ref a4, .ref a5, .int 0, .int 0, .int 0, .int 0, .int 0, .ref a6]))] H := hP
  have hD : va_D A [(a0, .inr (9, [.int 0, .ref a1, .int 0, .int 0, .int 0, .int 0, .int 0, .int (-1), .ref a2, .ref a3, .ref a4, .ref a5, .int 0, .int 0, .int 0, .int 0, .int 0, .ref a6]))] := hD
  refine lv_aload_n hx hb dX9_errorOffset_5 rfl (lv_at hl 0 rfl) ?_
  refine va_get (D := D) (ci := 9) (v := .int (-1)) (C := RX9) (T := TX9) (N := 18) hx hb hts iX9_errorOffset_9 hown hN.1 hP 0 rfl rfl 7 (by decide) (hts _ mX9_errorOffset_2) (fun _ h9 => h9) rfl dX9_errorOffset_6 ?_
  exact en_i (fun k => ([] : List Nat).getD k 0) hx hb hr hlocks rfl rfl hP hD hS (Nat.le_of_ble_eq_true rfl) (Nat.le_of_ble_eq_true rfl) dX9_errorOffset_9
theorem hdX8_errorOffset_v : yX8_errorOffset.cls = RX8 ∧ yX8_errorOffset.cls ≠ "java/lang/invoke/MethodHandle" ∧ yX8_errorOffset.cls ≠ "java/lang/invoke/VarHandle" ∧ (parseMethodDescriptor yX8_errorOffset.desc).map (fun d => d.parameters.length) = some 0 := by decide +kernel
theorem hdX9_errorOffset_v : yX9_errorOffset.cls = RX9 ∧ yX9_errorOffset.cls ≠ "java/lang/invoke/MethodHandle" ∧ yX9_errorOffset.cls ≠ "java/lang/invoke/VarHandle" ∧ (parseMethodDescriptor yX9_errorOffset.desc).map (fun d => d.parameters.length) = some 0 := by decide +kernel
set_option maxHeartbeats 4000000 in
set_option maxRecDepth 100000 in
theorem law_2 {p : Program} {l : Launch} {e : Env} {s : State} {m : MethodId} {args : Array Value} {below : List Frame} {meth : Method} {c : Code} {Q : State → Prop} {D : va_G} {cs : Nat → ClassId} {A : Nat → Prop} {xs : Nat → Int32} {b : Nat} (hx : p.tables.exec = Jvm.exec) (hb : c.code = cL_law) (hml : c.maxLocals = 9) (hown : s.vm.findClass RL = some m.cls) (hts : ∀ w ∈ wsL_law, w.before args s = true) (hN : NK D cs s) (hX : va_X b 6 xs s s.heap) (hbl : b < s.heap.size) (hbA : ¬ A b) (hA : ∀ q : Nat, s.heap.size ≤ q → A q) (hZ : ZX A s s.heap) (hZS : ZS cs A s s.heap) (hlt : l.stackTraces = false)
    (kend : ∀ (H : Heap) (locs : List Loc) (ls : Array Slot), va_S A s.heap H locs → lv_has ls 9 [(0, .ref b), (4, .int 0)] → W p l e room_1 s m args below meth c H locs 600002 7302232 Q (F0 m 1169 ls []))
    (a0 a1 a2 a3 a4 a5 a6 a7 a8 a9 a10 a11 a12 : Nat)   (H : Heap) (locs : List Loc) (ls : Array Slot) (hP : va_P D vwCl [(a0, .inr (8, [.ref a2, .ref a3, .ref a4, .ref a5, .int 0, .int 0, .int (-1)])), (a1, .inr (9, [.int 0, .ref a6, .int 0, .int 0, .int 0, .int 0, .int 0, .int (-1), .ref a7, .ref a8, .ref a9, .ref a10, .int 0, .int 0, .int 0, .int 0, .int 0, .ref a11]))] H) (hD : va_D A [(a0, .inr (8, [.ref a2, .ref a3, .ref a4, .ref a5, .int 0, .int 0, .int (-1)])), (a1, .inr (9, [.int 0, .ref a6, .int 0, .int 0, .int 0, .int 0, .int 0, .int (-1), .ref a7, .ref a8, .ref a9, .ref a10, .int 0, .int 0, .int 0, .int 0, .int 0, .ref a11]))]) (hS : va_S A s.heap H locs) (hl : lv_has ls 9 [(4, .int 0), (3, .ref a12), (2, .ref a1), (1, .ref a0), (0, .ref b)]) : W p l e room_1 s m args below meth c H locs 391 467079 Q (F0 m 265 ls []) := by
  refine lv_aload_n hx hb dL_law_265 rfl (lv_at hl 3 rfl) ?_
  refine cv_i (As := []) (rest := []) (b := a0) (wr := [(a1, .inr (9, [.int 0, .ref a6, .int 0, .int 0, .int 0, .int 0, .int 0, .int (-1), .ref a7, .ref a8, .ref a9, .ref a10, .int 0, .int 0, .int 0, .int 0, .int 0, .ref a11]))]) ⟨hx, hb, hml, hown, hts⟩ (fun sz => k34_X8_errorOffset l D cs sz a0 a2 a3 a4 a5) (cwV 0 hts gL_law_X8_errorOffset rfl rfl rfl hdX8_errorOffset_v ⟨Nat.le_of_ble_eq_true rfl, Nat.le_of_ble_eq_true rfl⟩) hN hP hD hS hA [0] [1] rfl rfl rfl rfl (by decide) (ci := 8) (q0 := 0) rfl rfl rfl rfl hl.1 (Nat.le_of_ble_eq_true rfl) dL_law_266 (Nat.le_of_ble_eq_true rfl) (Nat.le_of_ble_eq_true rfl) (fun u0 H locs hP hD hS => ?_)
  have hP : va_P D vwCl [(a1, .inr (9, [.int 0, .ref a6, .int 0, .int 0, .int 0, .int 0, .int 0, .int (-1), .ref a7, .ref a8, .ref a9, .ref a10, .int 0, .int 0, .int 0, .int 0, .int 0, .ref a11])), (a0, .inr (8, [.ref a2, .ref a3, .ref a4, .ref a5, .int 0, .int 0, .int (-1)]))] H := hP
  have hD : va_D A [(a1, .inr (9, [.int 0, .ref a6, .int 0, .int 0, .int 0, .int 0, .int 0, .int (-1), .ref a7, .ref a8, .ref a9, .ref a10, .int 0, .int 0, .int 0, .int 0, .int 0, .ref a11])), (a0, .inr (8, [.ref a2, .ref a3, .ref a4, .ref a5, .int 0, .int 0, .int (-1)]))] := hD
  refine W.widen (k := 391) (n := 467079) (Nat.le_of_ble_eq_true rfl) (Nat.le_of_ble_eq_true rfl) ?_
  refine lv_aload_n hx hb dL_law_269 rfl (lv_at hl 2 rfl) ?_
  refine cv_i (As := []) (rest := [.int (-1)]) (b := a1) (wr := [(a0, .inr (8, [.ref a2, .ref a3, .ref a4, .ref a5, .int 0, .int 0, .int (-1)]))]) ⟨hx, hb, hml, hown, hts⟩ (fun sz => k35_X9_errorOffset l D cs sz a1 a6 a7 a8 a9 a10 a11) (cwV 0 hts gL_law_X9_errorOffset rfl rfl rfl hdX9_errorOffset_v ⟨Nat.le_of_ble_eq_true rfl, Nat.le_of_ble_eq_true rfl⟩) hN hP hD hS hA [0] [1] rfl rfl rfl rfl (by decide) (ci := 9) (q0 := 0) rfl rfl rfl rfl hl.1 (Nat.le_of_ble_eq_true rfl) dL_law_270 (Nat.le_of_ble_eq_true rfl) (Nat.le_of_ble_eq_true rfl) (fun u1 H locs hP hD hS => ?_)
  have hP : va_P D vwCl [(a0, .inr (8, [.ref a2, .ref a3, .ref a4, .ref a5, .int 0, .int 0, .int (-1)])), (a1, .inr (9, [.int 0, .ref a6, .int 0, .int 0, .int 0, .int 0, .int 0, .int (-1), .ref a7, .ref a8, .ref a9, .ref a10, .int 0, .int 0, .int 0, .int 0, .int 0, .ref a11]))] H := hP
  have hD : va_D A [(a0, .inr (8, [.ref a2, .ref a3, .ref a4, .ref a5, .int 0, .int 0, .int (-1)])), (a1, .inr (9, [.int 0, .ref a6, .int 0, .int 0, .int 0, .int 0, .int 0, .int (-1), .ref a7, .ref a8, .ref a9, .ref a10, .int 0, .int 0, .int 0, .int 0, .int 0, .ref a11]))] := hD
  refine W.widen (k := 391) (n := 467079) (Nat.le_of_ble_eq_true rfl) (Nat.le_of_ble_eq_true rfl) ?_
  refine lv_icmp_eq (tgt := 1169) hx hb dL_law_273 (by decide) (fun _ => ?_) (fun c9 => absurd (by decide) c9)
  refine W.widen (k := 600002) (n := 7302232) (Nat.le_of_ble_eq_true rfl) (Nat.le_of_ble_eq_true rfl) ?_
  exact kend _ _ _ hS (lv_sub hl [4, 0] rfl)

theorem mX8_spread_1 : (.fieldLink RX8 19 "OneBeat" "now" "LOneBeat$World;" : Cond) ∈ wsX8_spread := List.mem_of_getElem? (i := 1) (by decide +kernel)
theorem iX8_spread_8 : ∀ w ∈ wsX80, w ∈ wsX8_spread := fun w h => List.mem_of_mem_drop (List.mem_of_mem_take ((show wsX80 = (wsX8_spread.drop 9).take 7 by decide +kernel) ▸ h))
theorem iX8_spread_7 : ∀ w ∈ wsX70, w ∈ wsX8_spread := fun w h => List.mem_of_mem_drop (List.mem_of_mem_take ((show wsX70 = (wsX8_spread.drop 16).take 16 by decide +kernel) ▸ h))
theorem mX4_spreadOfChanges_1 : (.fieldLink RX4 13 "OneBeat$Proposal" "firstChange" "I" : Cond) ∈ wsX4_spreadOfChanges := List.mem_of_getElem? (i := 1) (by decide +kernel)
theorem iX4_spreadOfChanges_4 : ∀ w ∈ wsX40, w ∈ wsX4_spreadOfChanges := fun w h => List.mem_of_mem_drop (List.mem_of_mem_take ((show wsX40 = (wsX4_spreadOfChanges.drop 3).take 8 by decide +kernel) ▸ h))
set_option maxHeartbeats 4000000 in
set_option maxRecDepth 100000 in
theorem k36_X4_spreadOfChanges (l : Launch) (D : va_G) (cs : Nat → ClassId) (sz : Nat) (a0 : Nat) : KI l yX4_spreadOfChanges wsX4_spreadOfChanges 0 0 0 0 D cs sz [.ref a0] [(a0, .inr (4, [.int 0, .int 0, .int 0, .int 0, .int 0, .int 3, .int (-1), .int 0]))] (fun u => [(a0, .inr (4, [.int 0, .int 0, .int 0, .int 0, .int 0, .int 3, .int (-1), .int 0]))]) ((-1)) := by
  refine KI.of cX4_spreadOfChanges 1 (some .int) (by decide) rfl (Nat.le_of_ble_eq_true rfl) ?_
  intro p e s m below meth c A ls hx hb hr hml hown hts hlocks hin hP hN hD hA hS hl
  have hown : s.vm.findClass RX4 = some m.cls := hown
  have hl : lv_has ls 1 [(0, .ref a0)] := hl
  refine lv_aload_n hx hb dX4_spreadOfChanges_0 rfl (lv_at hl 0 rfl) ?_
  refine va_get (D := D) (ci := 4) (v := .int (-1)) (C := RX4) (T := TX4) (N := 8) hx hb hts iX4_spreadOfChanges_4 hown hN.1 hP 0 rfl rfl 6 (by decide) (hts _ mX4_spreadOfChanges_1) (fun _ h9 => h9) rfl dX4_spreadOfChanges_1 ?_
  refine lv_if_ge (tgt := 11) hx hb dX4_spreadOfChanges_4 (by decide) (fun c9 => absurd c9 (by decide)) (fun _ => ?_)
  refine lv_iconst (v := (-1)) hx hb dX4_spreadOfChanges_7 (by decide) ?_
  refine lv_goto (tgt := 20) hx hb dX4_spreadOfChanges_8 (by decide) ?_
  exact en_i (fun k => ([] : List Nat).getD k 0) hx hb hr hlocks rfl rfl hP hD hS (Nat.le_of_ble_eq_true rfl) (Nat.le_of_ble_eq_true rfl) dX4_spreadOfChanges_20
theorem hdX4_spreadOfChanges_v : yX4_spreadOfChanges.cls = RX4 ∧ yX4_spreadOfChanges.cls ≠ "java/lang/invoke/MethodHandle" ∧ yX4_spreadOfChanges.cls ≠ "java/lang/invoke/VarHandle" ∧ (parseMethodDescriptor yX4_spreadOfChanges.desc).map (fun d => d.parameters.length) = some 0 := by decide +kernel
set_option maxHeartbeats 4000000 in
set_option maxRecDepth 100000 in
theorem k37_X8_spread (l : Launch) (D : va_G) (cs : Nat → ClassId) (sz : Nat) (a0 a1 a2 a3 a4 a5 a6 a7 a8 a9 a10 : Nat) : KI l yX8_spread wsX8_spread 1 20 0 0 D cs sz [.ref a0] [(a0, .inr (8, [.ref a3, .ref a1, .ref a4, .ref a5, .int 0, .int 0, .int (-1)])), (a1, .inr (7, [.ref a6, .ref a7, .ref a8, .ref a2, .ref a9, .ref a10, .long 0, .int 0, .int 0, .int 0, .int 0, .int 0, .int 0, .int 0, .int 0, .int 0])), (a2, .inr (4, [.int 0, .int 0, .int 0, .int 0, .int 0, .int 3, .int (-1), .int 0]))] (fun u => [(a0, .inr (8, [.ref a3, .ref a1, .ref a4, .ref a5, .int 0, .int 0, .int (-1)])), (a1, .inr (7, [.ref a6, .ref a7, .ref a8, .ref a2, .ref a9, .ref a10, .long 0, .int 0, .int 0, .int 0, .int 0, .int 0, .int 0, .int 0, .int 0, .int 0])), (a2, .inr (4, [.int 0, .int 0, .int 0, .int 0, .int 0, .int 3, .int (-1), .int 0]))]) ((-1)) := by
  refine KI.of cX8_spread 1 (some .int) (by decide) rfl (Nat.le_of_ble_eq_true rfl) ?_
  intro p e s m below meth c A ls hx hb hr hml hown hts hlocks hin hP hN hD hA hS hl
  have hown : s.vm.findClass RX8 = some m.cls := hown
  have hl : lv_has ls 1 [(0, .ref a0)] := hl
  refine lv_aload_n hx hb dX8_spread_0 rfl (lv_at hl 0 rfl) ?_
  refine va_get (D := D) (ci := 8) (v := .ref a1) (C := RX8) (T := TX8) (N := 7) hx hb hts iX8_spread_8 hown hN.1 hP 0 rfl rfl 1 (by decide) (hts _ mX8_spread_1) (fun _ h9 => h9) rfl dX8_spread_1 ?_
  refine va_getN (D := D) (ci := 7) (v := .ref a2) (C := RX7) (T := TX7) (N := 16) hx hb hts iX8_spread_7 hown hN.1 hP 1 rfl rfl 3 (by decide) (hN.f 48 rfl) (fun _ h9 => h9) rfl dX8_spread_4 ?_
  refine cv_i (As := []) (rest := []) (b := a2) (wr := [(a0, .inr (8, [.ref a3, .ref a1, .ref a4, .ref a5, .int 0, .int 0, .int (-1)])), (a1, .inr (7, [.ref a6, .ref a7, .ref a8, .ref a2, .ref a9, .ref a10, .long 0, .int 0, .int 0, .int 0, .int 0, .int 0, .int 0, .int 0, .int 0, .int 0]))]) ⟨hx, hb, hml, hown, hts⟩ (fun sz => k36_X4_spreadOfChanges l D cs sz a2) (cwV 0 hts gX8_spread_X4_spreadOfChanges rfl rfl rfl hdX4_spreadOfChanges_v ⟨Nat.le_of_ble_eq_true rfl, Nat.le_of_ble_eq_true rfl⟩) hN hP hD hS hA [2] [0, 1] rfl rfl rfl rfl (by decide) (ci := 4) (q0 := 0) rfl rfl rfl rfl hl.1 (Nat.le_of_ble_eq_true rfl) dX8_spread_7 (Nat.le_of_ble_eq_true rfl) (Nat.le_of_ble_eq_true rfl) (fun u0 H locs hP hD hS => ?_)
  have hP : va_P D vwCl [(a0, .inr (8, [.ref a3, .ref a1, .ref a4, .ref a5, .int 0, .int 0, .int (-1)])), (a1, .inr (7, [.ref a6, .ref a7, .ref a8, .ref a2, .ref a9, .ref a10, .long 0, .int 0, .int 0, .int 0, .int 0, .int 0, .int 0, .int 0, .int 0, .int 0])), (a2, .inr (4, [.int 0, .int 0, .int 0, .int 0, .int 0, .int 3, .int (-1), .int 0]))] H := hP
  have hD : va_D A [(a0, .inr (8, [.ref a3, .ref a1, .ref a4, .ref a5, .int 0, .int 0, .int (-1)])), (a1, .inr (7, [.ref a6, .ref a7, .ref a8, .ref a2, .ref a9, .ref a10, .long 0, .int 0, .int 0, .int 0, .int 0, .int 0, .int 0, .int 0, .int 0, .int 0])), (a2, .inr (4, [.int 0, .int 0, .int 0, .int 0, .int 0, .int 3, .int (-1), .int 0]))] := hD
  refine W.widen (k := 0) (n := 0) (Nat.le_of_ble_eq_true rfl) (Nat.le_of_ble_eq_true rfl) ?_
  exact en_i (fun k => ([] : List Nat).getD k 0) hx hb hr hlocks rfl rfl hP hD hS (Nat.le_of_ble_eq_true rfl) (Nat.le_of_ble_eq_true rfl) dX8_spread_10
theorem mX9_spread_1 : (.fieldLink RX9 40 "OneBeatModel" "thrown" "I" : Cond) ∈ wsX9_spread := List.mem_of_getElem? (i := 1) (by decide +kernel)
theorem iX9_spread_9 : ∀ w ∈ wsX90, w ∈ wsX9_spread := fun w h => List.mem_of_mem_drop (List.mem_of_mem_take ((show wsX90 = (wsX9_spread.drop 8).take 18 by decide +kernel) ▸ h))
theorem mX9_spreadNow_1 : (.fieldLink RX9 18 "OneBeatModel" "data" "[I" : Cond) ∈ wsX9_spreadNow := List.mem_of_getElem? (i := 1) (by decide +kernel)
theorem iX9_spreadNow_9 : ∀ w ∈ wsX90, w ∈ wsX9_spreadNow := fun w h => List.mem_of_mem_drop (List.mem_of_mem_take ((show wsX90 = (wsX9_spreadNow.drop 2).take 18 by decide +kernel) ▸ h))
set_option maxHeartbeats 4000000 in
set_option maxRecDepth 100000 in
theorem k38_X9_spreadNow (l : Launch) (D : va_G) (cs : Nat → ClassId) (sz : Nat) (a0 a1 a2 a3 a4 a5 a6 : Nat) : KI l yX9_spreadNow wsX9_spreadNow 0 0 0 0 D cs sz [.ref a0] [(a0, .inr (9, [.int 0, .ref a2, .int 0, .int 0, .int 0, .int 0, .int 0, .int (-1), .ref a1, .ref a3, .ref a4, .ref a5, .int 0, .int 0, .int 0, .int 0, .int 0, .ref a6])), (a1, .inl (cs 0, 45783, .inl (layF (fun _ => 0) 1)))] (fun u => [(a0, .inr (9, [.int 0, .ref a2, .int 0, .int 0, .int 0, .int 0, .int 0, .int (-1), .ref a1, .ref a3, .ref a4, .ref a5, .int 0, .int 0, .int 0, .int 0, .int 0, .ref a6])), (a1, .inl (cs 0, 45783, .inl (layF (fun _ => 0) 1)))]) ((-1)) := by
  refine KI.of cX9_spreadNow 1 (some .int) (by decide) rfl (Nat.le_of_ble_eq_true rfl) ?_
  intro p e s m below meth c A ls hx hb hr hml hown hts hlocks hin hP hN hD hA hS hl
  have hown : s.vm.findClass RX9 = some m.cls := hown
  have hl : lv_has ls 1 [(0, .ref a0)] := hl
  refine lv_aload_n hx hb dX9_spreadNow_0 rfl (lv_at hl 0 rfl) ?_
  refine va_get (D := D) (ci := 9) (v := .ref a1) (C := RX9) (T := TX9) (N := 18) hx hb hts iX9_spreadNow_9 hown hN.1 hP 0 rfl rfl 8 (by decide) (hts _ mX9_spreadNow_1) (fun _ h9 => h9) rfl dX9_spreadNow_1 ?_
  refine lv_bipush (v := 21) hx hb dX9_spreadNow_4 (by decide) ?_
  refine ld_i (v := (-1)) hx hb hN hP 1 rfl (vin (by decide +kernel)) (by first | rfl | decide +kernel) dX9_spreadNow_6 ?_
  refine lv_iconst (v := (-1)) hx hb dX9_spreadNow_7 (by decide) ?_
  refine lv_icmp_ne (tgt := 15) hx hb dX9_spreadNow_8 (by decide) (fun c9 => absurd (by decide) c9) (fun _ => ?_)
  refine lv_iconst (v := (-1)) hx hb dX9_spreadNow_11 (by decide) ?_
  refine lv_goto (tgt := 30) hx hb dX9_spreadNow_12 (by decide) ?_
  exact en_i (fun k => ([] : List Nat).getD k 0) hx hb hr hlocks rfl rfl hP hD hS (Nat.le_of_ble_eq_true rfl) (Nat.le_of_ble_eq_true rfl) dX9_spreadNow_30
theorem hdX9_spreadNow_v : yX9_spreadNow.cls = RX9 ∧ yX9_spreadNow.cls ≠ "java/lang/invoke/MethodHandle" ∧ yX9_spreadNow.cls ≠ "java/lang/invoke/VarHandle" ∧ (parseMethodDescriptor yX9_spreadNow.desc).map (fun d => d.parameters.length) = some 0 := by decide +kernel
set_option maxHeartbeats 4000000 in
set_option maxRecDepth 100000 in
theorem k39_X9_spread (l : Launch) (D : va_G) (cs : Nat → ClassId) (sz : Nat) (a0 a1 a2 a3 a4 a5 a6 : Nat) : KI l yX9_spread wsX9_spread 1 20 0 0 D cs sz [.ref a0] [(a0, .inr (9, [.int 0, .ref a2, .int 0, .int 0, .int 0, .int 0, .int 0, .int (-1), .ref a1, .ref a3, .ref a4, .ref a5, .int 0, .int 0, .int 0, .int 0, .int 0, .ref a6])), (a1, .inl (cs 0, 45783, .inl (layF (fun _ => 0) 1)))] (fun u => [(a0, .inr (9, [.int 0, .ref a2, .int 0, .int 0, .int 0, .int 0, .int 0, .int (-1), .ref a1, .ref a3, .ref a4, .ref a5, .int 0, .int 0, .int 0, .int 0, .int 0, .ref a6])), (a1, .inl (cs 0, 45783, .inl (layF (fun _ => 0) 1)))]) ((-1)) := by
  refine KI.of cX9_spread 1 (some .int) (by decide) rfl (Nat.le_of_ble_eq_true rfl) ?_
  intro p e s m below meth c A ls hx hb hr hml hown hts hlocks hin hP hN hD hA hS hl
  have hown : s.vm.findClass RX9 = some m.cls := hown
  have hl : lv_has ls 1 [(0, .ref a0)] := hl
  refine lv_aload_n hx hb dX9_spread_0 rfl (lv_at hl 0 rfl) ?_
  refine lv_iconst (v := 0) hx hb dX9_spread_1 (by decide) ?_
  refine va_put (D := D) (ci := 9) (v := .int 0) (ty := .int) (C := RX9) (T := TX9) (N := 18) hx hb hts iX9_spread_9 tyX9 tyX9_ok nmX9 hown hN.1 hP hD hS 0 rfl rfl 0 (by decide) (hts _ mX9_spread_1) (fun _ h9 => h9) rfl (by decide +kernel) rfl rfl (Nat.le_of_ble_eq_true rfl) dX9_spread_2 (fun H locs hP hD hS => ?_)
  have hP : va_P D vwCl [(a0, .inr (9, [.int 0, .ref a2, .int 0, .int 0, .int 0, .int 0, .int 0, .int (-1), .ref a1, .ref a3, .ref a4, .ref a5, .int 0, .int 0, .int 0, .int 0, .int 0, .ref a6])), (a1, .inl (cs 0, 45783, .inl (layF (fun _ => 0) 1)))] H := hP
  have hD : va_D A [(a0, .inr (9, [.int 0, .ref a2, .int 0, .int 0, .int 0, .int 0, .int 0, .int (-1), .ref a1, .ref a3, .ref a4, .ref a5, .int 0, .int 0, .int 0, .int 0, .int 0, .ref a6])), (a1, .inl (cs 0, 45783, .inl (layF (fun _ => 0) 1)))] := hD
  refine lv_aload_n hx hb dX9_spread_5 rfl (lv_at hl 0 rfl) ?_
  refine cv_i (As := []) (rest := []) (b := a0) (wr := []) ⟨hx, hb, hml, hown, hts⟩ (fun sz => k38_X9_spreadNow l D cs sz a0 a1 a2 a3 a4 a5 a6) (cwV 0 hts gX9_spread_X9_spreadNow rfl rfl rfl hdX9_spreadNow_v ⟨Nat.le_of_ble_eq_true rfl, Nat.le_of_ble_eq_true rfl⟩) hN hP hD hS hA [0, 1] [] rfl rfl rfl rfl (by decide) (ci := 9) (q0 := 0) rfl rfl rfl rfl hl.1 (Nat.le_of_ble_eq_true rfl) dX9_spread_6 (Nat.le_of_ble_eq_true rfl) (Nat.le_of_ble_eq_true rfl) (fun u0 H locs hP hD hS => ?_)
  have hP : va_P D vwCl [(a0, .inr (9, [.int 0, .ref a2, .int 0, .int 0, .int 0, .int 0, .int 0, .int (-1), .ref a1, .ref a3, .ref a4, .ref a5, .int 0, .int 0, .int 0, .int 0, .int 0, .ref a6])), (a1, .inl (cs 0, 45783, .inl (layF (fun _ => 0) 1)))] H := hP
  have hD : va_D A [(a0, .inr (9, [.int 0, .ref a2, .int 0, .int 0, .int 0, .int 0, .int 0, .int (-1), .ref a1, .ref a3, .ref a4, .ref a5, .int 0, .int 0, .int 0, .int 0, .int 0, .ref a6])), (a1, .inl (cs 0, 45783, .inl (layF (fun _ => 0) 1)))] := hD
  refine W.widen (k := 0) (n := 0) (Nat.le_of_ble_eq_true rfl) (Nat.le_of_ble_eq_true rfl) ?_
  exact en_i (fun k => ([] : List Nat).getD k 0) hx hb hr hlocks rfl rfl hP hD hS (Nat.le_of_ble_eq_true rfl) (Nat.le_of_ble_eq_true rfl) dX9_spread_9
theorem hdX8_spread_v : yX8_spread.cls = RX8 ∧ yX8_spread.cls ≠ "java/lang/invoke/MethodHandle" ∧ yX8_spread.cls ≠ "java/lang/invoke/VarHandle" ∧ (parseMethodDescriptor yX8_spread.desc).map (fun d => d.parameters.length) = some 0 := by decide +kernel
theorem hdX9_spread_v : yX9_spread.cls = RX9 ∧ yX9_spread.cls ≠ "java/lang/invoke/MethodHandle" ∧ yX9_spread.cls ≠ "java/lang/invoke/VarHandle" ∧ (parseMethodDescriptor yX9_spread.desc).map (fun d => d.parameters.length) = some 0 := by decide +kernel
set_option maxHeartbeats 4000000 in
set_option maxRecDepth 100000 in
theorem law_8 {p : Program} {l : Launch} {e : Env} {s : State} {m : MethodId} {args : Array Value} {below : List Frame} {meth : Method} {c : Code} {Q : State → Prop} {D : va_G} {cs : Nat → ClassId} {A : Nat → Prop} {xs : Nat → Int32} {b : Nat} (hx : p.tables.exec = Jvm.exec) (hb : c.code = cL_law) (hml : c.maxLocals = 9) (hown : s.vm.findClass RL = some m.cls) (hts : ∀ w ∈ wsL_law, w.before args s = true) (hN : NK D cs s) (hX : va_X b 6 xs s s.heap) (hbl : b < s.heap.size) (hbA : ¬ A b) (hA : ∀ q : Nat, s.heap.size ≤ q → A q) (hZ : ZX A s s.heap) (hZS : ZS cs A s s.heap) (hlt : l.stackTraces = false)
    (kend : ∀ (H : Heap) (locs : List Loc) (ls : Array Slot), va_S A s.heap H locs → lv_has ls 9 [(0, .ref b), (4, .int 0)] → W p l e room_1 s m args below meth c H locs 600002 7302232 Q (F0 m 1169 ls []))
    (a0 a1 a2 a3 a4 a5 a6 a7 a8 a9 a10 a11 a12 a13 a14 a15 a16 a17 a18 : Nat)   (H : Heap) (locs : List Loc) (ls : Array Slot) (hP : va_P D vwCl [(a0, .inr (8, [.ref a5, .ref a1, .ref a6, .ref a7, .int 0, .int 0, .int (-1)])), (a1, .inr (7, [.ref a8, .ref a9, .ref a10, .ref a2, .ref a11, .ref a12, .long 0, .int 0, .int 0, .int 0, .int 0, .int 0, .int 0, .int 0, .int 0, .int 0])), (a2, .inr (4, [.int 0, .int 0, .int 0, .int 0, .int 0, .int 3, .int (-1), .int 0])), (a3, .inr (9, [.int 0, .ref a13, .int 0, .int 0, .int 0, .int 0, .int 0, .int (-1), .ref a4, .ref a14, .ref a15, .ref a16, .int 0, .int 0, .int 0, .int 0, .int 0, .ref a17])), (a4, .inl (cs 0, 45783, .inl (layF (fun _ => 0) 1)))] H) (hD : va_D A [(a0, .inr (8, [.ref a5, .ref a1, .ref a6, .ref a7, .int 0, .int 0, .int (-1)])), (a1, .inr (7, [.ref a8, .ref a9, .ref a10, .ref a2, .ref a11, .ref a12, .long 0, .int 0, .int 0, .int 0, .int 0, .int 0, .int 0, .int 0, .int 0, .int 0])), (a2, .inr (4, [.int 0, .int 0, .int 0, .int 0, .int 0, .int 3, .int (-1), .int 0])), (a3, .inr (9, [.int 0, .ref a13, .int 0, .int 0, .int 0, .int 0, .int 0, .int (-1), .ref a4, .ref a14, .ref a15, .ref a16, .int 0, .int 0, .int 0, .int 0, .int 0, .ref a17])), (a4, .inl (cs 0, 45783, .inl (layF (fun _ => 0) 1)))]) (hS : va_S A s.heap H locs) (hl : lv_has ls 9 [(4, .int 0), (3, .ref a18), (2, .ref a3), (1, .ref a0), (0, .ref b)]) : W p l e room_1 s m args below meth c H locs 391 467079 Q (F0 m 594 ls []) := by
  refine lv_aload_n hx hb dL_law_594 rfl (lv_at hl 3 rfl) ?_
  refine cv_i (As := []) (rest := []) (b := a0) (wr := [(a3, .inr (9, [.int 0, .ref a13, .int 0, .int 0, .int 0, .int 0, .int 0, .int (-1), .ref a4, .ref a14, .ref a15, .ref a16, .int 0, .int 0, .int 0, .int 0, .int 0, .ref a17])), (a4, .inl (cs 0, 45783, .inl (layF (fun _ => 0) 1)))]) ⟨hx, hb, hml, hown, hts⟩ (fun sz => k37_X8_spread l D cs sz a0 a1 a2 a5 a6 a7 a8 a9 a10 a11 a12) (cwV 0 hts gL_law_X8_spread rfl rfl rfl hdX8_spread_v ⟨Nat.le_of_ble_eq_true rfl, Nat.le_of_ble_eq_true rfl⟩) hN hP hD hS hA [0, 1, 2] [3, 4] rfl rfl rfl rfl (by decide) (ci := 8) (q0 := 0) rfl rfl rfl rfl hl.1 (Nat.le_of_ble_eq_true rfl) dL_law_595 (Nat.le_of_ble_eq_true rfl) (Nat.le_of_ble_eq_true rfl) (fun u0 H locs hP hD hS => ?_)
  have hP : va_P D vwCl [(a3, .inr (9, [.int 0, .ref a13, .int 0, .int 0, .int 0, .int 0, .int 0, .int (-1), .ref a4, .ref a14, .ref a15, .ref a16, .int 0, .int 0, .int 0, .int 0, .int 0, .ref a17])), (a4, .inl (cs 0, 45783, .inl (layF (fun _ => 0) 1))), (a0, .inr (8, [.ref a5, .ref a1, .ref a6, .ref a7, .int 0, .int 0, .int (-1)])), (a1, .inr (7, [.ref a8, .ref a9, .ref a10, .ref a2, .ref a11, .ref a12, .long 0, .int 0, .int 0, .int 0, .int 0, .int 0, .int 0, .int 0, .int 0, .int 0])), (a2, .inr (4, [.int 0, .int 0, .int 0, .int 0, .int 0, .int 3, .int (-1), .int 0]))] H := hP
  have hD : va_D A [(a3, .inr (9, [.int 0, .ref a13, .int 0, .int 0, .int 0, .int 0, .int 0, .int (-1), .ref a4, .ref a14, .ref a15, .ref a16, .int 0, .int 0, .int 0, .int 0, .int 0, .ref a17])), (a4, .inl (cs 0, 45783, .inl (layF (fun _ => 0) 1))), (a0, .inr (8, [.ref a5, .ref a1, .ref a6, .ref a7, .int 0, .int 0, .int (-1)])), (a1, .inr (7, [.ref a8, .ref a9, .ref a10, .ref a2, .ref a11, .ref a12, .long 0, .int 0, .int 0, .int 0, .int 0, .int 0, .int 0, .int 0, .int 0, .int 0])), (a2, .inr (4, [.int 0, .int 0, .int 0, .int 0, .int 0, .int 3, .int (-1), .int 0]))] := hD
  refine W.widen (k := 391) (n := 467079) (Nat.le_of_ble_eq_true rfl) (Nat.le_of_ble_eq_true rfl) ?_
  refine lv_aload_n hx hb dL_law_598 rfl (lv_at hl 2 rfl) ?_
  refine cv_i (As := []) (rest := [.int (-1)]) (b := a3) (wr := [(a0, .inr (8, [.ref a5, .ref a1, .ref a6, .ref a7, .int 0, .int 0, .int (-1)])), (a1, .inr (7, [.ref a8, .ref a9, .ref a10, .ref a2, .ref a11, .ref a12, .long 0, .int 0, .int 0, .int 0, .int 0, .int 0, .int 0, .int 0, .int 0, .int 0])), (a2, .inr (4, [.int 0, .int 0, .int 0, .int 0, .int 0, .int 3, .int (-1), .int 0]))]) ⟨hx, hb, hml, hown, hts⟩ (fun sz => k39_X9_spread l D cs sz a3 a4 a13 a14 a15 a16 a17) (cwV 0 hts gL_law_X9_spread rfl rfl rfl hdX9_spread_v ⟨Nat.le_of_ble_eq_true rfl, Nat.le_of_ble_eq_true rfl⟩) hN hP hD hS hA [0, 1] [2, 3, 4] rfl rfl rfl rfl (by decide) (ci := 9) (q0 := 0) rfl rfl rfl rfl hl.1 (Nat.le_of_ble_eq_true rfl) dL_law_599 (Nat.le_of_ble_eq_true rfl) (Nat.le_of_ble_eq_true rfl) (fun u1 H locs hP hD hS => ?_)
  have hP : va_P D vwCl [(a0, .inr (8, [.ref a5, .ref a1, .ref a6, .ref a7, .int 0, .int 0, .int (-1)])), (a1, .inr (7, [.ref a8, .ref a9, .ref a10, .ref a2, .ref a11, .ref a12, .long 0, .int 0, .int 0, .int 0, .int 0, .int 0, .int 0, .int 0, .int 0, .int 0])), (a2, .inr (4, [.int 0, .int 0, .int 0, .int 0, .int 0, .int 3, .int (-1), .int 0])), (a3, .inr (9, [.int 0, .ref a13, .int 0, .int 0, .int 0, .int 0, .int 0, .int (-1), .ref a4, .ref a14, .ref a15, .ref a16, .int 0, .int 0, .int 0, .int 0, .int 0, .ref a17])), (a4, .inl (cs 0, 45783, .inl (layF (fun _ => 0) 1)))] H := hP
  have hD : va_D A [(a0, .inr (8, [.ref a5, .ref a1, .ref a6, .ref a7, .int 0, .int 0, .int (-1)])), (a1, .inr (7, [.ref a8, .ref a9, .ref a10, .ref a2, .ref a11, .ref a12, .long 0, .int 0, .int 0, .int 0, .int 0, .int 0, .int 0, .int 0, .int 0, .int 0])), (a2, .inr (4, [.int 0, .int 0, .int 0, .int 0, .int 0, .int 3, .int (-1), .int 0])), (a3, .inr (9, [.int 0, .ref a13, .int 0, .int 0, .int 0, .int 0, .int 0, .int (-1), .ref a4, .ref a14, .ref a15, .ref a16, .int 0, .int 0, .int 0, .int 0, .int 0, .ref a17])), (a4, .inl (cs 0, 45783, .inl (layF (fun _ => 0) 1)))] := hD
  refine W.widen (k := 391) (n := 467079) (Nat.le_of_ble_eq_true rfl) (Nat.le_of_ble_eq_true rfl) ?_
  refine lv_icmp_eq (tgt := 1169) hx hb dL_law_602 (by decide) (fun _ => ?_) (fun c9 => absurd (by decide) c9)
  refine W.widen (k := 600002) (n := 7302232) (Nat.le_of_ble_eq_true rfl) (Nat.le_of_ble_eq_true rfl) ?_
  exact kend _ _ _ hS (lv_sub hl [4, 0] rfl)

theorem mX8_undo_1 : (.fieldLink RX8 222 "OneBeat" "undoable" "I" : Cond) ∈ wsX8_undo := List.mem_of_getElem? (i := 1) (by decide +kernel)
theorem iX8_undo_8 : ∀ w ∈ wsX80, w ∈ wsX8_undo := fun w h => List.mem_of_mem_drop (List.mem_of_mem_take ((show wsX80 = (wsX8_undo.drop 73).take 7 by decide +kernel) ▸ h))
set_option maxHeartbeats 4000000 in
set_option maxRecDepth 100000 in
theorem k40_X8_undo (l : Launch) (D : va_G) (cs : Nat → ClassId) (sz : Nat) (a0 a1 a2 a3 a4 : Nat) : KI l yX8_undo wsX8_undo 0 0 0 0 D cs sz [.ref a0] [(a0, .inr (8, [.ref a1, .ref a2, .ref a3, .ref a4, .int 0, .int 0, .int (-1)]))] (fun u => [(a0, .inr (8, [.ref a1, .ref a2, .ref a3, .ref a4, .int 0, .int 0, .int (-1)]))]) ((-1)) := by
  refine KI.of cX8_undo 1 (some .int) (by decide) rfl (Nat.le_of_ble_eq_true rfl) ?_
  intro p e s m below meth c A ls hx hb hr hml hown hts hlocks hin hP hN hD hA hS hl
  have hown : s.vm.findClass RX8 = some m.cls := hown
  have hl : lv_has ls 1 [(0, .ref a0)] := hl
  refine lv_aload_n hx hb dX8_undo_0 rfl (lv_at hl 0 rfl) ?_
  refine va_get (D := D) (ci := 8) (v := .int 0) (C := RX8) (T := TX8) (N := 7) hx hb hts iX8_undo_8 hown hN.1 hP 0 rfl rfl 5 (by decide) (hts _ mX8_undo_1) (fun _ h9 => h9) rfl dX8_undo_1 ?_
  refine lv_if_ne (tgt := 9) hx hb dX8_undo_4 (by decide) (fun c9 => absurd (by decide) c9) (fun _ => ?_)
  refine lv_iconst (v := (-1)) hx hb dX8_undo_7 (by decide) ?_
  exact en_i (fun k => ([] : List Nat).getD k 0) hx hb hr hlocks rfl rfl hP hD hS (Nat.le_of_ble_eq_true rfl) (Nat.le_of_ble_eq_true rfl) dX8_undo_8
theorem mX9_undo_1 : (.fieldLink RX9 40 "OneBeatModel" "thrown" "I" : Cond) ∈ wsX9_undo := List.mem_of_getElem? (i := 1) (by decide +kernel)
theorem iX9_undo_9 : ∀ w ∈ wsX90, w ∈ wsX9_undo := fun w h => List.mem_of_mem_drop (List.mem_of_mem_take ((show wsX90 = (wsX9_undo.drop 9).take 18 by decide +kernel) ▸ h))
theorem mX9_undo_2 : (.fieldLink RX9 302 "OneBeatModel" "undoDepth" "I" : Cond) ∈ wsX9_undo := List.mem_of_getElem? (i := 2) (by decide +kernel)
set_option maxHeartbeats 4000000 in
set_option maxRecDepth 100000 in
theorem k41_X9_undo (l : Launch) (D : va_G) (cs : Nat → ClassId) (sz : Nat) (a0 a1 a2 a3 a4 a5 a6 : Nat) : KI l yX9_undo wsX9_undo 0 0 0 0 D cs sz [.ref a0] [(a0, .inr (9, [.int 0, .ref a1, .int 0, .int 0, .int 0, .int 0, .int 0, .int (-1), .ref a2, .ref a3, .ref a4, .ref a5, .int 0, .int 0, .int 0, .int 0, .int 0, .ref a6]))] (fun u => [(a0, .inr (9, [.int 0, .ref a1, .int 0, .int 0, .int 0, .int 0, .int 0, .int (-1), .ref a2, .ref a3, .ref a4, .ref a5, .int 0, .int 0, .int 0, .int 0, .int 0, .ref a6]))]) ((-1)) := by
  refine KI.of cX9_undo 1 (some .int) (by decide) rfl (Nat.le_of_ble_eq_true rfl) ?_
  intro p e s m below meth c A ls hx hb hr hml hown hts hlocks hin hP hN hD hA hS hl
  have hown : s.vm.findClass RX9 = some m.cls := hown
  have hl : lv_has ls 1 [(0, .ref a0)] := hl
  refine lv_aload_n hx hb dX9_undo_0 rfl (lv_at hl 0 rfl) ?_
  refine lv_iconst (v := 0) hx hb dX9_undo_1 (by decide) ?_
  refine va_put (D := D) (ci := 9) (v := .int 0) (ty := .int) (C := RX9) (T := TX9) (N := 18) hx hb hts iX9_undo_9 tyX9 tyX9_ok nmX9 hown hN.1 hP hD hS 0 rfl rfl 0 (by decide) (hts _ mX9_undo_1) (fun _ h9 => h9) rfl (by decide +kernel) rfl rfl (Nat.le_of_ble_eq_true rfl) dX9_undo_2 (fun H locs hP hD hS => ?_)
  have hP : va_P D vwCl [(a0, .inr (9, [.int 0, .ref a1, .int 0, .int 0, .int 0, .int 0, .int 0, .int (-1), .ref a2, .ref a3, .ref a4, .ref a5, .int 0, .int 0, .int 0, .int 0, .int 0, .ref a6]))] H := hP
  have hD : va_D A [(a0, .inr (9, [.int 0, .ref a1, .int 0, .int 0, .int 0, .int 0, .int 0, .int (-1), .ref a2, .ref a3, .ref a4, .ref a5, .int 0, .int 0, .int 0, .int 0, .int 0, .ref a6]))] := hD
  refine lv_aload_n hx hb dX9_undo_5 rfl (lv_at hl 0 rfl) ?_
  refine va_get (D := D) (ci := 9) (v := .int 0) (C := RX9) (T := TX9) (N := 18) hx hb hts iX9_undo_9 hown hN.1 hP 0 rfl rfl 12 (by decide) (hts _ mX9_undo_2) (fun _ h9 => h9) rfl dX9_undo_6 ?_
  refine lv_if_ne (tgt := 14) hx hb dX9_undo_9 (by decide) (fun c9 => absurd (by decide) c9) (fun _ => ?_)
  refine lv_iconst (v := (-1)) hx hb dX9_undo_12 (by decide) ?_
  exact en_i (fun k => ([] : List Nat).getD k 0) hx hb hr hlocks rfl rfl hP hD hS (Nat.le_of_ble_eq_true rfl) (Nat.le_of_ble_eq_true rfl) dX9_undo_13
theorem hdX8_undo_v : yX8_undo.cls = RX8 ∧ yX8_undo.cls ≠ "java/lang/invoke/MethodHandle" ∧ yX8_undo.cls ≠ "java/lang/invoke/VarHandle" ∧ (parseMethodDescriptor yX8_undo.desc).map (fun d => d.parameters.length) = some 0 := by decide +kernel
theorem hdX9_undo_v : yX9_undo.cls = RX9 ∧ yX9_undo.cls ≠ "java/lang/invoke/MethodHandle" ∧ yX9_undo.cls ≠ "java/lang/invoke/VarHandle" ∧ (parseMethodDescriptor yX9_undo.desc).map (fun d => d.parameters.length) = some 0 := by decide +kernel
set_option maxHeartbeats 4000000 in
set_option maxRecDepth 100000 in
theorem law_18 {p : Program} {l : Launch} {e : Env} {s : State} {m : MethodId} {args : Array Value} {below : List Frame} {meth : Method} {c : Code} {Q : State → Prop} {D : va_G} {cs : Nat → ClassId} {A : Nat → Prop} {xs : Nat → Int32} {b : Nat} (hx : p.tables.exec = Jvm.exec) (hb : c.code = cL_law) (hml : c.maxLocals = 9) (hown : s.vm.findClass RL = some m.cls) (hts : ∀ w ∈ wsL_law, w.before args s = true) (hN : NK D cs s) (hX : va_X b 6 xs s s.heap) (hbl : b < s.heap.size) (hbA : ¬ A b) (hA : ∀ q : Nat, s.heap.size ≤ q → A q) (hZ : ZX A s s.heap) (hZS : ZS cs A s s.heap) (hlt : l.stackTraces = false)
    (kend : ∀ (H : Heap) (locs : List Loc) (ls : Array Slot), va_S A s.heap H locs → lv_has ls 9 [(0, .ref b), (4, .int 0)] → W p l e room_1 s m args below meth c H locs 600002 7302232 Q (F0 m 1169 ls []))
    (a0 a1 a2 a3 a4 a5 a6 a7 a8 a9 a10 a11 a12 : Nat)   (H : Heap) (locs : List Loc) (ls : Array Slot) (hP : va_P D vwCl [(a0, .inr (8, [.ref a2, .ref a3, .ref a4, .ref a5, .int 0, .int 0, .int (-1)])), (a1, .inr (9, [.int 0, .ref a6, .int 0, .int 0, .int 0, .int 0, .int 0, .int (-1), .ref a7, .ref a8, .ref a9, .ref a10, .int 0, .int 0, .int 0, .int 0, .int 0, .ref a11]))] H) (hD : va_D A [(a0, .inr (8, [.ref a2, .ref a3, .ref a4, .ref a5, .int 0, .int 0, .int (-1)])), (a1, .inr (9, [.int 0, .ref a6, .int 0, .int 0, .int 0, .int 0, .int 0, .int (-1), .ref a7, .ref a8, .ref a9, .ref a10, .int 0, .int 0, .int 0, .int 0, .int 0, .ref a11]))]) (hS : va_S A s.heap H locs) (hl : lv_has ls 9 [(4, .int 0), (3, .ref a12), (2, .ref a1), (1, .ref a0), (0, .ref b)]) : W p l e room_1 s m args below meth c H locs 391 467079 Q (F0 m 1142 ls []) := by
  refine lv_aload_n hx hb dL_law_1142 rfl (lv_at hl 3 rfl) ?_
  refine cv_i (As := []) (rest := []) (b := a0) (wr := [(a1, .inr (9, [.int 0, .ref a6, .int 0, .int 0, .int 0, .int 0, .int 0, .int (-1), .ref a7, .ref a8, .ref a9, .ref a10, .int 0, .int 0, .int 0, .int 0, .int 0, .ref a11]))]) ⟨hx, hb, hml, hown, hts⟩ (fun sz => k40_X8_undo l D cs sz a0 a2 a3 a4 a5) (cwV 0 hts gL_law_X8_undo rfl rfl rfl hdX8_undo_v ⟨Nat.le_of_ble_eq_true rfl, Nat.le_of_ble_eq_true rfl⟩) hN hP hD hS hA [0] [1] rfl rfl rfl rfl (by decide) (ci := 8) (q0 := 0) rfl rfl rfl rfl hl.1 (Nat.le_of_ble_eq_true rfl) dL_law_1143 (Nat.le_of_ble_eq_true rfl) (Nat.le_of_ble_eq_true rfl) (fun u0 H locs hP hD hS => ?_)
  have hP : va_P D vwCl [(a1, .inr (9, [.int 0, .ref a6, .int 0, .int 0, .int 0, .int 0, .int 0, .int (-1), .ref a7, .ref a8, .ref a9, .ref a10, .int 0, .int 0, .int 0, .int 0, .int 0, .ref a11])), (a0, .inr (8, [.ref a2, .ref a3, .ref a4, .ref a5, .int 0, .int 0, .int (-1)]))] H := hP
  have hD : va_D A [(a1, .inr (9, [.int 0, .ref a6, .int 0, .int 0, .int 0, .int 0, .int 0, .int (-1), .ref a7, .ref a8, .ref a9, .ref a10, .int 0, .int 0, .int 0, .int 0, .int 0, .ref a11])), (a0, .inr (8, [.ref a2, .ref a3, .ref a4, .ref a5, .int 0, .int 0, .int (-1)]))] := hD
  refine W.widen (k := 391) (n := 467079) (Nat.le_of_ble_eq_true rfl) (Nat.le_of_ble_eq_true rfl) ?_
  refine lv_aload_n hx hb dL_law_1146 rfl (lv_at hl 2 rfl) ?_
  refine cv_i (As := []) (rest := [.int (-1)]) (b := a1) (wr := [(a0, .inr (8, [.ref a2, .ref a3, .ref a4, .ref a5, .int 0, .int 0, .int (-1)]))]) ⟨hx, hb, hml, hown, hts⟩ (fun sz => k41_X9_undo l D cs sz a1 a6 a7 a8 a9 a10 a11) (cwV 0 hts gL_law_X9_undo rfl rfl rfl hdX9_undo_v ⟨Nat.le_of_ble_eq_true rfl, Nat.le_of_ble_eq_true rfl⟩) hN hP hD hS hA [0] [1] rfl rfl rfl rfl (by decide) (ci := 9) (q0 := 0) rfl rfl rfl rfl hl.1 (Nat.le_of_ble_eq_true rfl) dL_law_1147 (Nat.le_of_ble_eq_true rfl) (Nat.le_of_ble_eq_true rfl) (fun u1 H locs hP hD hS => ?_)
  have hP : va_P D vwCl [(a0, .inr (8, [.ref a2, .ref a3, .ref a4, .ref a5, .int 0, .int 0, .int (-1)])), (a1, .inr (9, [.int 0, .ref a6, .int 0, .int 0, .int 0, .int 0, .int 0, .int (-1), .ref a7, .ref a8, .ref a9, .ref a10, .int 0, .int 0, .int 0, .int 0, .int 0, .ref a11]))] H := hP
  have hD : va_D A [(a0, .inr (8, [.ref a2, .ref a3, .ref a4, .ref a5, .int 0, .int 0, .int (-1)])), (a1, .inr (9, [.int 0, .ref a6, .int 0, .int 0, .int 0, .int 0, .int 0, .int (-1), .ref a7, .ref a8, .ref a9, .ref a10, .int 0, .int 0, .int 0, .int 0, .int 0, .ref a11]))] := hD
  refine W.widen (k := 391) (n := 467079) (Nat.le_of_ble_eq_true rfl) (Nat.le_of_ble_eq_true rfl) ?_
  refine lv_icmp_eq (tgt := 1169) hx hb dL_law_1150 (by decide) (fun _ => ?_) (fun c9 => absurd (by decide) c9)
  refine W.widen (k := 600002) (n := 7302232) (Nat.le_of_ble_eq_true rfl) (Nat.le_of_ble_eq_true rfl) ?_
  exact kend _ _ _ hS (lv_sub hl [4, 0] rfl)

set_option maxHeartbeats 4000000 in
set_option maxRecDepth 100000 in
theorem k42_X8_refuseWhatOutside (l : Launch) (D : va_G) (cs : Nat → ClassId) (sz : Nat) (a0 a1 a2 a3 a4 : Nat) : KV l yX8_refuseWhatOutside wsX8_refuseWhatOutside 0 0 0 0 D cs sz [.ref a0, .int 0, .int 12] [(a0, .inr (8, [.ref a1, .ref a2, .ref a3, .ref a4, .int 0, .int 0, .int (-1)]))] (fun u => [(a0, .inr (8, [.ref a1, .ref a2, .ref a3, .ref a4, .int 0, .int 0, .int (-1)]))]) := by
  refine KV.of cX8_refuseWhatOutside 3 none (by decide) rfl (Nat.le_of_ble_eq_true rfl) ?_
  intro p e s m below meth c A ls hx hb hr hml hown hts hlocks hin hP hN hD hA hS hl
  have hown : s.vm.findClass RX8 = some m.cls := hown
  have hl : lv_has ls 3 [(0, .ref a0), (1, .int 0), (2, .int 12)] := hl
  refine lv_iload_n hx hb dX8_refuseWhatOutside_0 rfl (lv_at hl 1 rfl) ?_
  refine lv_if_lt (tgt := 9) hx hb dX8_refuseWhatOutside_1 (by decide) (fun c9 => absurd c9 (by decide)) (fun _ => ?_)
  refine lv_iload_n hx hb dX8_refuseWhatOutside_4 rfl (lv_at hl 1 rfl) ?_
  refine lv_iload_n hx hb dX8_refuseWhatOutside_5 rfl (lv_at hl 2 rfl) ?_
  refine lv_icmp_le (tgt := 19) hx hb dX8_refuseWhatOutside_6 (by decide) (fun _ => ?_) (fun c9 => absurd (by decide) c9)
  exact en_v (fun k => ([] : List Nat).getD k 0) hx hb hr hlocks hP hD hS (Nat.le_of_ble_eq_true rfl) (Nat.le_of_ble_eq_true rfl) dX8_refuseWhatOutside_19
theorem mX8_state_1 : (.fieldLink RX8 19 "OneBeat" "now" "LOneBeat$World;" : Cond) ∈ wsX8_state := List.mem_of_getElem? (i := 1) (by decide +kernel)
theorem iX8_state_8 : ∀ w ∈ wsX80, w ∈ wsX8_state := fun w h => List.mem_of_mem_drop (List.mem_of_mem_take ((show wsX80 = (wsX8_state.drop 97).take 7 by decide +kernel) ▸ h))
theorem mX7_count_1 : (.fieldLink RX7 52 "OneBeat$World" "setup" "LOneBeat$Setup;" : Cond) ∈ wsX7_count := List.mem_of_getElem? (i := 1) (by decide +kernel)
theorem iX7_count_7 : ∀ w ∈ wsX70, w ∈ wsX7_count := fun w h => List.mem_of_mem_drop (List.mem_of_mem_take ((show wsX70 = (wsX7_count.drop 85).take 16 by decide +kernel) ▸ h))
theorem iX7_count_6 : ∀ w ∈ wsX60, w ∈ wsX7_count := fun w h => List.mem_of_mem_drop (List.mem_of_mem_take ((show wsX60 = (wsX7_count.drop 101).take 8 by decide +kernel) ▸ h))
set_option maxHeartbeats 4000000 in
set_option maxRecDepth 100000 in
theorem k43_X7_count (l : Launch) (D : va_G) (cs : Nat → ClassId) (sz : Nat) (a0 a1 a2 a3 a4 a5 a6 a7 a8 a9 a10 : Nat) : KI l yX7_count wsX7_count 0 0 0 0 D cs sz [.ref a0, .int 0] [(a0, .inr (7, [.ref a1, .ref a2, .ref a3, .ref a4, .ref a5, .ref a6, .long 0, .int 0, .int 0, .int 0, .int 0, .int 0, .int 0, .int 0, .int 0, .int 0])), (a1, .inr (6, [.int 1, .int 1, .int 50, .null, .ref a7, .ref a8, .ref a9, .ref a10]))] (fun u => [(a0, .inr (7, [.ref a1, .ref a2, .ref a3, .ref a4, .ref a5, .ref a6, .long 0, .int 0, .int 0, .int 0, .int 0, .int 0, .int 0, .int 0, .int 0, .int 0])), (a1, .inr (6, [.int 1, .int 1, .int 50, .null, .ref a7, .ref a8, .ref a9, .ref a10]))]) (1) := by
  refine KI.of cX7_count 2 (some .int) (by decide) rfl (Nat.le_of_ble_eq_true rfl) ?_
  intro p e s m below meth c A ls hx hb hr hml hown hts hlocks hin hP hN hD hA hS hl
  have hown : s.vm.findClass RX7 = some m.cls := hown
  have hl : lv_has ls 2 [(0, .ref a0), (1, .int 0)] := hl
  refine lv_iload_n hx hb dX7_count_0 rfl (lv_at hl 1 rfl) ?_
  refine lv_tableIn (tgt := 64) (off := 63) hx hb dX7_count_1 (by decide) (by decide) (by decide) (by decide) ?_
  refine lv_aload_n hx hb dX7_count_64 rfl (lv_at hl 0 rfl) ?_
  refine va_get (D := D) (ci := 7) (v := .ref a1) (C := RX7) (T := TX7) (N := 16) hx hb hts iX7_count_7 hown hN.1 hP 0 rfl rfl 0 (by decide) (hts _ mX7_count_1) (fun _ h9 => h9) rfl dX7_count_65 ?_
  refine va_getN (D := D) (ci := 6) (v := .int 1) (C := RX6) (T := TX6) (N := 8) hx hb hts iX7_count_6 hown hN.1 hP 1 rfl rfl 0 (by decide) (hN.f 39 rfl) (fun _ h9 => h9) rfl dX7_count_68 ?_
  exact en_i (fun k => ([] : List Nat).getD k 0) hx hb hr hlocks rfl rfl hP hD hS (Nat.le_of_ble_eq_true rfl) (Nat.le_of_ble_eq_true rfl) dX7_count_71
theorem hdX8_refuseWhatOutside_v : yX8_refuseWhatOutside.cls = RX8 ∧ yX8_refuseWhatOutside.cls ≠ "java/lang/invoke/MethodHandle" ∧ yX8_refuseWhatOutside.cls ≠ "java/lang/invoke/VarHandle" ∧ (parseMethodDescriptor yX8_refuseWhatOutside.desc).map (fun d => d.parameters.length) = some 2 := by decide +kernel
theorem hdX7_count_v : yX7_count.cls = RX7 ∧ yX7_count.cls ≠ "java/lang/invoke/MethodHandle" ∧ yX7_count.cls ≠ "java/lang/invoke/VarHandle" ∧ (parseMethodDescriptor yX7_count.desc).map (fun d => d.parameters.length) = some 1 := by decide +kernel
set_option maxHeartbeats 4000000 in
set_option maxRecDepth 100000 in
theorem k44_X8_state (l : Launch) (D : va_G) (cs : Nat → ClassId) (sz : Nat) (a0 a1 a2 a3 a4 a5 a6 a7 a8 a9 a10 a11 a12 a13 a14 : Nat) : KI l yX8_state wsX8_state 1 22 0 0 D cs sz [.ref a0, .int 0] [(a0, .inr (8, [.ref a3, .ref a1, .ref a4, .ref a5, .int 0, .int 0, .int (-1)])), (a1, .inr (7, [.ref a2, .ref a6, .ref a7, .ref a8, .ref a9, .ref a10, .long 0, .int 0, .int 0, .int 0, .int 0, .int 0, .int 0, .int 0, .int 0, .int 0])), (a2, .inr (6, [.int 1, .int 1, .int 50, .null, .ref a11, .ref a12, .ref a13, .ref a14]))] (fun u => [(a0, .inr (8, [.ref a3, .ref a1, .ref a4, .ref a5, .int 0, .int 0, .int (-1)])), (a1, .inr (7, [.ref a2, .ref a6, .ref a7, .ref a8, .ref a9, .ref a10, .long 0, .int 0, .int 0, .int 0, .int 0, .int 0, .int 0, .int 0, .int 0, .int 0])), (a2, .inr (6, [.int 1, .int 1, .int 50, .null, .ref a11, .ref a12, .ref a13, .ref a14]))]) (1) := by
  refine KI.of cX8_state 2 (some .int) (by decide) rfl (Nat.le_of_ble_eq_true rfl) ?_
  intro p e s m below meth c A ls hx hb hr hml hown hts hlocks hin hP hN hD hA hS hl
  have hown : s.vm.findClass RX8 = some m.cls := hown
  have hl : lv_has ls 2 [(0, .ref a0), (1, .int 0)] := hl
  refine lv_aload_n hx hb dX8_state_0 rfl (lv_at hl 0 rfl) ?_
  refine lv_iload_n hx hb dX8_state_1 rfl (lv_at hl 1 rfl) ?_
  refine lv_bipush (v := 12) hx hb dX8_state_2 (by decide) ?_
  refine cv_v (As := [.int 0, .int 12]) (rest := []) (b := a0) (wr := [(a1, .inr (7, [.ref a2, .ref a6, .ref a7, .ref a8, .ref a9, .ref a10, .long 0, .int 0, .int 0, .int 0, .int 0, .int 0, .int 0, .int 0, .int 0, .int 0])), (a2, .inr (6, [.int 1, .int 1, .int 50, .null, .ref a11, .ref a12, .ref a13, .ref a14]))]) ⟨hx, hb, hml, hown, hts⟩ (fun sz => k42_X8_refuseWhatOutside l D cs sz a0 a3 a1 a4 a5) (cwV 2 hts gX8_state_X8_refuseWhatOutside rfl rfl rfl hdX8_refuseWhatOutside_v ⟨Nat.le_of_ble_eq_true rfl, Nat.le_of_ble_eq_true rfl⟩) hN hP hD hS hA [0] [1, 2] rfl rfl rfl rfl (by decide) (ci := 8) (q0 := 0) rfl rfl rfl rfl hl.1 (Nat.le_of_ble_eq_true rfl) dX8_state_4 (Nat.le_of_ble_eq_true rfl) (Nat.le_of_ble_eq_true rfl) (fun u0 H locs hP hD hS => ?_)
  have hP : va_P D vwCl [(a1, .inr (7, [.ref a2, .ref a6, .ref a7, .ref a8, .ref a9, .ref a10, .long 0, .int 0, .int 0, .int 0, .int 0, .int 0, .int 0, .int 0, .int 0, .int 0])), (a2, .inr (6, [.int 1, .int 1, .int 50, .null, .ref a11, .ref a12, .ref a13, .ref a14])), (a0, .inr (8, [.ref a3, .ref a1, .ref a4, .ref a5, .int 0, .int 0, .int (-1)]))] H := hP
  have hD : va_D A [(a1, .inr (7, [.ref a2, .ref a6, .ref a7, .ref a8, .ref a9, .ref a10, .long 0, .int 0, .int 0, .int 0, .int 0, .int 0, .int 0, .int 0, .int 0, .int 0])), (a2, .inr (6, [.int 1, .int 1, .int 50, .null, .ref a11, .ref a12, .ref a13, .ref a14])), (a0, .inr (8, [.ref a3, .ref a1, .ref a4, .ref a5, .int 0, .int 0, .int (-1)]))] := hD
  refine W.widen (k := 0) (n := 0) (Nat.le_of_ble_eq_true rfl) (Nat.le_of_ble_eq_true rfl) ?_
  refine lv_aload_n hx hb dX8_state_7 rfl (lv_at hl 0 rfl) ?_
  refine va_get (D := D) (ci := 8) (v := .ref a1) (C := RX8) (T := TX8) (N := 7) hx hb hts iX8_state_8 hown hN.1 hP 2 rfl rfl 1 (by decide) (hts _ mX8_state_1) (fun _ h9 => h9) rfl dX8_state_8 ?_
  refine lv_iload_n hx hb dX8_state_11 rfl (lv_at hl 1 rfl) ?_
  refine cv_i (As := [.int 0]) (rest := []) (b := a1) (wr := [(a0, .inr (8, [.ref a3, .ref a1, .ref a4, .ref a5, .int 0, .int 0, .int (-1)]))]) ⟨hx, hb, hml, hown, hts⟩ (fun sz => k43_X7_count l D cs sz a1 a2 a6 a7 a8 a9 a10 a11 a12 a13 a14) (cwV 1 hts gX8_state_X7_count rfl rfl rfl hdX7_count_v ⟨Nat.le_of_ble_eq_true rfl, Nat.le_of_ble_eq_true rfl⟩) hN hP hD hS hA [0, 1] [2] rfl rfl rfl rfl (by decide) (ci := 7) (q0 := 0) rfl rfl rfl rfl hl.1 (Nat.le_of_ble_eq_true rfl) dX8_state_12 (Nat.le_of_ble_eq_true rfl) (Nat.le_of_ble_eq_true rfl) (fun u1 H locs hP hD hS => ?_)
  have hP : va_P D vwCl [(a0, .inr (8, [.ref a3, .ref a1, .ref a4, .ref a5, .int 0, .int 0, .int (-1)])), (a1, .inr (7, [.ref a2, .ref a6, .ref a7, .ref a8, .ref a9, .ref a10, .long 0, .int 0, .int 0, .int 0, .int 0, .int 0, .int 0, .int 0, .int 0, .int 0])), (a2, .inr (6, [.int 1, .int 1, .int 50, .null, .ref a11, .ref a12, .ref a13, .ref a14]))] H := hP
  have hD : va_D A [(a0, .inr (8, [.ref a3, .ref a1, .ref a4, .ref a5, .int 0, .int 0, .int (-1)])), (a1, .inr (7, [.ref a2, .ref a6, .ref a7, .ref a8, .ref a9, .ref a10, .long 0, .int 0, .int 0, .int 0, .int 0, .int 0, .int 0, .int 0, .int 0, .int 0])), (a2, .inr (6, [.int 1, .int 1, .int 50, .null, .ref a11, .ref a12, .ref a13, .ref a14]))] := hD
  refine W.widen (k := 0) (n := 0) (Nat.le_of_ble_eq_true rfl) (Nat.le_of_ble_eq_true rfl) ?_
  exact en_i (fun k => ([] : List Nat).getD k 0) hx hb hr hlocks rfl rfl hP hD hS (Nat.le_of_ble_eq_true rfl) (Nat.le_of_ble_eq_true rfl) dX8_state_15
theorem hdX8_state_v : yX8_state.cls = RX8 ∧ yX8_state.cls ≠ "java/lang/invoke/MethodHandle" ∧ yX8_state.cls ≠ "java/lang/invoke/VarHandle" ∧ (parseMethodDescriptor yX8_state.desc).map (fun d => d.parameters.length) = some 1 := by decide +kernel
set_option maxHeartbeats 4000000 in
set_option maxRecDepth 100000 in
theorem k45_L_state (l : Launch) (D : va_G) (cs : Nat → ClassId) (sz : Nat) (hlt : l.stackTraces = false) (a0 a1 a2 a3 a4 a5 a6 a7 a8 a9 a10 a11 a12 a13 a14 a15 : Nat) : KH l yL_state wsL_state 2 43 0 0 D cs sz [.ref a0, .int 0, .ref a3] [(a0, .inr (8, [.ref a4, .ref a1, .ref a5, .ref a6, .int 0, .int 0, .int (-1)])), (a1, .inr (7, [.ref a2, .ref a7, .ref a8, .ref a9, .ref a10, .ref a11, .long 0, .int 0, .int 0, .int 0, .int 0, .int 0, .int 0, .int 0, .int 0, .int 0])), (a2, .inr (6, [.int 1, .int 1, .int 50, .null, .ref a12, .ref a13, .ref a14, .ref a15])), (a3, .inl (cs 3, 1, .inr (.inl (fun _ => 0))))] (fun u => [(a3, .inl (cs 3, 1, .inr (.inl (vp_updL (fun _ => 0) 0 1)))), (a0, .inr (8, [.ref a4, .ref a1, .ref a5, .ref a6, .int 0, .int 0, .int (-1)])), (a1, .inr (7, [.ref a2, .ref a7, .ref a8, .ref a9, .ref a10, .ref a11, .long 0, .int 0, .int 0, .int 0, .int 0, .int 0, .int 0, .int 0, .int 0, .int 0])), (a2, .inr (6, [.int 1, .int 1, .int 50, .null, .ref a12, .ref a13, .ref a14, .ref a15]))]) (0) := by
  refine KH.of cL_state 4 (some .int) (by decide) rfl (Nat.le_of_ble_eq_true rfl) ?_
  intro p e s m below meth c A ls hx hb hr hml hown hts hlocks htab hP hN hD hA hS hl hZ
  have hown : s.vm.findClass RL = some m.cls := hown
  have hl : lv_has ls 4 [(0, .ref a0), (1, .int 0), (2, .ref a3)] := hl
  refine lv_aload_n hx hb dL_state_0 rfl (lv_at hl 2 rfl) ?_
  refine lv_iconst (v := 0) hx hb dL_state_1 (by decide) ?_
  refine lv_aload_n hx hb dL_state_2 rfl (lv_at hl 0 rfl) ?_
  refine lv_iload_n hx hb dL_state_3 rfl (lv_at hl 1 rfl) ?_
  refine cv_i (As := [.int 0]) (rest := [.int 0, .ref a3]) (b := a0) (wr := [(a3, .inl (cs 3, 1, .inr (.inl (fun _ => 0))))]) ⟨hx, hb, hml, hown, hts⟩ (fun sz => k44_X8_state l D cs sz a0 a1 a2 a4 a5 a6 a7 a8 a9 a10 a11 a12 a13 a14 a15) (cwV 1 hts gL_state_X8_state rfl rfl rfl hdX8_state_v ⟨Nat.le_of_ble_eq_true rfl, Nat.le_of_ble_eq_true rfl⟩) hN hP hD hS hA [0, 1, 2] [3] rfl rfl rfl rfl (by decide) (ci := 8) (q0 := 0) rfl rfl rfl rfl hl.1 (Nat.le_of_ble_eq_true rfl) dL_state_4 (Nat.le_of_ble_eq_true rfl) (Nat.le_of_ble_eq_true rfl) (fun u0 H locs hP hD hS => ?_)
  have hP : va_P D vwCl [(a3, .inl (cs 3, 1, .inr (.inl (fun _ => 0)))), (a0, .inr (8, [.ref a4, .ref a1, .ref a5, .ref a6, .int 0, .int 0, .int (-1)])), (a1, .inr (7, [.ref a2, .ref a7, .ref a8, .ref a9, .ref a10, .ref a11, .long 0, .int 0, .int 0, .int 0, .int 0, .int 0, .int 0, .int 0, .int 0, .int 0])), (a2, .inr (6, [.int 1, .int 1, .int 50, .null, .ref a12, .ref a13, .ref a14, .ref a15]))] H := hP
  have hD : va_D A [(a3, .inl (cs 3, 1, .inr (.inl (fun _ => 0)))), (a0, .inr (8, [.ref a4, .ref a1, .ref a5, .ref a6, .int 0, .int 0, .int (-1)])), (a1, .inr (7, [.ref a2, .ref a7, .ref a8, .ref a9, .ref a10, .ref a11, .long 0, .int 0, .int 0, .int 0, .int 0, .int 0, .int 0, .int 0, .int 0, .int 0])), (a2, .inr (6, [.int 1, .int 1, .int 50, .null, .ref a12, .ref a13, .ref a14, .ref a15]))] := hD
  refine W.widen (k := 0) (n := 0) (Nat.le_of_ble_eq_true rfl) (Nat.le_of_ble_eq_true rfl) ?_
  refine lv_i2l (v := 1) hx hb dL_state_7 (by decide) ?_
  refine st_l (g := (vp_updL (fun _ => 0) 0 1)) hx hb hN hP hD hS 0 rfl (vin (by decide +kernel)) rfl dL_state_8 (fun H locs hP hD hS => ?_)
  have hP : va_P D vwCl [(a3, .inl (cs 3, 1, .inr (.inl (vp_updL (fun _ => 0) 0 1)))), (a0, .inr (8, [.ref a4, .ref a1, .ref a5, .ref a6, .int 0, .int 0, .int (-1)])), (a1, .inr (7, [.ref a2, .ref a7, .ref a8, .ref a9, .ref a10, .ref a11, .long 0, .int 0, .int 0, .int 0, .int 0, .int 0, .int 0, .int 0, .int 0, .int 0])), (a2, .inr (6, [.int 1, .int 1, .int 50, .null, .ref a12, .ref a13, .ref a14, .ref a15]))] H := hP
  have hD : va_D A [(a3, .inl (cs 3, 1, .inr (.inl (vp_updL (fun _ => 0) 0 1)))), (a0, .inr (8, [.ref a4, .ref a1, .ref a5, .ref a6, .int 0, .int 0, .int (-1)])), (a1, .inr (7, [.ref a2, .ref a7, .ref a8, .ref a9, .ref a10, .ref a11, .long 0, .int 0, .int 0, .int 0, .int 0, .int 0, .int 0, .int 0, .int 0, .int 0])), (a2, .inr (6, [.int 1, .int 1, .int 50, .null, .ref a12, .ref a13, .ref a14, .ref a15]))] := hD
  refine lv_goto (tgt := 15) hx hb dL_state_9 (by decide) ?_
  refine lv_iconst (v := 0) hx hb dL_state_15 (by decide) ?_
  exact en_i (fun k => ([] : List Nat).getD k 0) hx hb hr hlocks rfl rfl hP hD hS (Nat.le_of_ble_eq_true rfl) (Nat.le_of_ble_eq_true rfl) dL_state_16
theorem mX9_state_1 : (.fieldLink RX9 40 "OneBeatModel" "thrown" "I" : Cond) ∈ wsX9_state := List.mem_of_getElem? (i := 1) (by decide +kernel)
theorem iX9_state_9 : ∀ w ∈ wsX90, w ∈ wsX9_state := fun w h => List.mem_of_mem_drop (List.mem_of_mem_take ((show wsX90 = (wsX9_state.drop 65).take 18 by decide +kernel) ▸ h))
set_option maxHeartbeats 4000000 in
set_option maxRecDepth 100000 in
theorem k46_X9_in (l : Launch) (D : va_G) (cs : Nat → ClassId) (sz : Nat) : KI l yX9_in wsX9_in 0 0 0 0 D cs sz [.int 0, .int 0, .int 12] [] (fun u => []) (1) := by
  refine KI.of cX9_in 3 (some .boolean) (by decide) rfl (Nat.le_of_ble_eq_true rfl) ?_
  intro p e s m below meth c A ls hx hb hr hml hown hts hlocks hin hP hN hD hA hS hl
  have hown : s.vm.findClass RX9 = some m.cls := hown
  have hl : lv_has ls 3 [(0, .int 0), (1, .int 0), (2, .int 12)] := hl
  refine lv_iload_n hx hb dX9_in_0 rfl (lv_at hl 0 rfl) ?_
  refine lv_iload_n hx hb dX9_in_1 rfl (lv_at hl 1 rfl) ?_
  refine lv_icmp_lt (tgt := 14) hx hb dX9_in_2 (by decide) (fun c9 => absurd c9 (by decide)) (fun _ => ?_)
  refine lv_iload_n hx hb dX9_in_5 rfl (lv_at hl 0 rfl) ?_
  refine lv_iload_n hx hb dX9_in_6 rfl (lv_at hl 2 rfl) ?_
  refine lv_icmp_gt (tgt := 14) hx hb dX9_in_7 (by decide) (fun c9 => absurd c9 (by decide)) (fun _ => ?_)
  refine lv_iconst (v := 1) hx hb dX9_in_10 (by decide) ?_
  refine lv_goto (tgt := 15) hx hb dX9_in_11 (by decide) ?_
  exact en_i (fun k => ([] : List Nat).getD k 0) hx hb hr hlocks rfl rfl hP hD hS (Nat.le_of_ble_eq_true rfl) (Nat.le_of_ble_eq_true rfl) dX9_in_15
theorem mX9_fails_1 : (.fieldLink RX9 40 "OneBeatModel" "thrown" "I" : Cond) ∈ wsX9_fails := List.mem_of_getElem? (i := 1) (by decide +kernel)
theorem iX9_fails_9 : ∀ w ∈ wsX90, w ∈ wsX9_fails := fun w h => List.mem_of_mem_drop (List.mem_of_mem_take ((show wsX90 = (wsX9_fails.drop 2).take 18 by decide +kernel) ▸ h))
set_option maxHeartbeats 4000000 in
set_option maxRecDepth 100000 in
theorem k47_X9_fails (l : Launch) (D : va_G) (cs : Nat → ClassId) (sz : Nat) (a0 a1 a2 a3 a4 a5 a6 : Nat) : KI l yX9_fails wsX9_fails 0 0 0 0 D cs sz [.ref a0, .int 0, .int 1] [(a0, .inr (9, [.int 0, .ref a1, .int 0, .int 0, .int 0, .int 0, .int 0, .int (-1), .ref a2, .ref a3, .ref a4, .ref a5, .int 0, .int 0, .int 0, .int 0, .int 0, .ref a6]))] (fun u => [(a0, .inr (9, [.int 0, .ref a1, .int 0, .int 0, .int 0, .int 0, .int 0, .int (-1), .ref a2, .ref a3, .ref a4, .ref a5, .int 0, .int 0, .int 0, .int 0, .int 0, .ref a6]))]) (0) := by
  refine KI.of cX9_fails 3 (some .boolean) (by decide) rfl (Nat.le_of_ble_eq_true rfl) ?_
  intro p e s m below meth c A ls hx hb hr hml hown hts hlocks hin hP hN hD hA hS hl
  have hown : s.vm.findClass RX9 = some m.cls := hown
  have hl : lv_has ls 3 [(0, .ref a0), (1, .int 0), (2, .int 1)] := hl
  refine lv_iload_n hx hb dX9_fails_0 rfl (lv_at hl 1 rfl) ?_
  refine lv_if_eq (tgt := 16) hx hb dX9_fails_1 (by decide) (fun _ => ?_) (fun c9 => absurd (by decide) c9)
  refine lv_aload_n hx hb dX9_fails_16 rfl (lv_at hl 0 rfl) ?_
  refine va_get (D := D) (ci := 9) (v := .int 0) (C := RX9) (T := TX9) (N := 18) hx hb hts iX9_fails_9 hown hN.1 hP 0 rfl rfl 0 (by decide) (hts _ mX9_fails_1) (fun _ h9 => h9) rfl dX9_fails_17 ?_
  refine lv_if_eq (tgt := 27) hx hb dX9_fails_20 (by decide) (fun _ => ?_) (fun c9 => absurd (by decide) c9)
  refine lv_iconst (v := 0) hx hb dX9_fails_27 (by decide) ?_
  exact en_i (fun k => ([] : List Nat).getD k 0) hx hb hr hlocks rfl rfl hP hD hS (Nat.le_of_ble_eq_true rfl) (Nat.le_of_ble_eq_true rfl) dX9_fails_28
theorem mX9_told_1 : (.fieldLink RX9 18 "OneBeatModel" "data" "[I" : Cond) ∈ wsX9_told := List.mem_of_getElem? (i := 1) (by decide +kernel)
theorem iX9_told_9 : ∀ w ∈ wsX90, w ∈ wsX9_told := fun w h => List.mem_of_mem_drop (List.mem_of_mem_take ((show wsX90 = (wsX9_told.drop 53).take 18 by decide +kernel) ▸ h))
set_option maxHeartbeats 4000000 in
set_option maxRecDepth 100000 in
theorem k48_X9_told (l : Launch) (D : va_G) (cs : Nat → ClassId) (sz : Nat) (a0 a1 a2 a3 a4 a5 a6 : Nat) : KI l yX9_told wsX9_told 0 0 0 0 D cs sz [.ref a0, .int 0] [(a0, .inr (9, [.int 0, .ref a2, .int 0, .int 0, .int 0, .int 0, .int 0, .int (-1), .ref a1, .ref a3, .ref a4, .ref a5, .int 0, .int 0, .int 0, .int 0, .int 0, .ref a6])), (a1, .inl (cs 0, 45783, .inl (layF (fun _ => 0) 1)))] (fun u => [(a0, .inr (9, [.int 0, .ref a2, .int 0, .int 0, .int 0, .int 0, .int 0, .int (-1), .ref a1, .ref a3, .ref a4, .ref a5, .int 0, .int 0, .int 0, .int 0, .int 0, .ref a6])), (a1, .inl (cs 0, 45783, .inl (layF (fun _ => 0) 1)))]) (1) := by
  refine KI.of cX9_told 2 (some .int) (by decide) rfl (Nat.le_of_ble_eq_true rfl) ?_
  intro p e s m below meth c A ls hx hb hr hml hown hts hlocks hin hP hN hD hA hS hl
  have hown : s.vm.findClass RX9 = some m.cls := hown
  have hl : lv_has ls 2 [(0, .ref a0), (1, .int 0)] := hl
  refine lv_iload_n hx hb dX9_told_0 rfl (lv_at hl 1 rfl) ?_
  refine lv_tableOut (tgt := 59) hx hb dX9_told_1 (by decide) (by decide) ?_
  refine lv_aload_n hx hb dX9_told_59 rfl (lv_at hl 0 rfl) ?_
  refine va_get (D := D) (ci := 9) (v := .ref a1) (C := RX9) (T := TX9) (N := 18) hx hb hts iX9_told_9 hown hN.1 hP 0 rfl rfl 8 (by decide) (hts _ mX9_told_1) (fun _ h9 => h9) rfl dX9_told_60 ?_
  refine lv_iload_n hx hb dX9_told_63 rfl (lv_at hl 1 rfl) ?_
  refine ld_i (v := 1) hx hb hN hP 1 rfl (vin (by decide +kernel)) (by first | rfl | decide +kernel) dX9_told_64 ?_
  exact en_i (fun k => ([] : List Nat).getD k 0) hx hb hr hlocks rfl rfl hP hD hS (Nat.le_of_ble_eq_true rfl) (Nat.le_of_ble_eq_true rfl) dX9_told_65
theorem hdX9_in_o : yX9_in.cls ≠ "java/lang/invoke/MethodHandle" ∧ yX9_in.cls ≠ "java/lang/invoke/VarHandle" ∧ (parseMethodDescriptor yX9_in.desc).map (fun d => d.parameters.length) = some 3 := by decide +kernel
theorem hdX9_fails_v : yX9_fails.cls = RX9 ∧ yX9_fails.cls ≠ "java/lang/invoke/MethodHandle" ∧ yX9_fails.cls ≠ "java/lang/invoke/VarHandle" ∧ (parseMethodDescriptor yX9_fails.desc).map (fun d => d.parameters.length) = some 2 := by decide +kernel
theorem hdX9_told_v : yX9_told.cls = RX9 ∧ yX9_told.cls ≠ "java/lang/invoke/MethodHandle" ∧ yX9_told.cls ≠ "java/lang/invoke/VarHandle" ∧ (parseMethodDescriptor yX9_told.desc).map (fun d => d.parameters.length) = some 1 := by decide +kernel
set_option maxHeartbeats 4000000 in
set_option maxRecDepth 100000 in
theorem k49_X9_state (l : Launch) (D : va_G) (cs : Nat → ClassId) (sz : Nat) (a0 a1 a2 a3 a4 a5 a6 : Nat) : KI l yX9_state wsX9_state 1 22 0 0 D cs sz [.ref a0, .int 0] [(a0, .inr (9, [.int 0, .ref a2, .int 0, .int 0, .int 0, .int 0, .int 0, .int (-1), .ref a1, .ref a3, .ref a4, .ref a5, .int 0, .int 0, .int 0, .int 0, .int 0, .ref a6])), (a1, .inl (cs 0, 45783, .inl (layF (fun _ => 0) 1)))] (fun u => [(a0, .inr (9, [.int 0, .ref a2, .int 0, .int 0, .int 0, .int 0, .int 0, .int (-1), .ref a1, .ref a3, .ref a4, .ref a5, .int 0, .int 0, .int 0, .int 0, .int 0, .ref a6])), (a1, .inl (cs 0, 45783, .inl (layF (fun _ => 0) 1)))]) (1) := by
  refine KI.of cX9_state 2 (some .int) (by decide) rfl (Nat.le_of_ble_eq_true rfl) ?_
  intro p e s m below meth c A ls hx hb hr hml hown hts hlocks hin hP hN hD hA hS hl
  have hown : s.vm.findClass RX9 = some m.cls := hown
  have hl : lv_has ls 2 [(0, .ref a0), (1, .int 0)] := hl
  refine lv_aload_n hx hb dX9_state_0 rfl (lv_at hl 0 rfl) ?_
  refine lv_iconst (v := 0) hx hb dX9_state_1 (by decide) ?_
  refine va_put (D := D) (ci := 9) (v := .int 0) (ty := .int) (C := RX9) (T := TX9) (N := 18) hx hb hts iX9_state_9 tyX9 tyX9_ok nmX9 hown hN.1 hP hD hS 0 rfl rfl 0 (by decide) (hts _ mX9_state_1) (fun _ h9 => h9) rfl (by decide +kernel) rfl rfl (Nat.le_of_ble_eq_true rfl) dX9_state_2 (fun H locs hP hD hS => ?_)
  have hP : va_P D vwCl [(a0, .inr (9, [.int 0, .ref a2, .int 0, .int 0, .int 0, .int 0, .int 0, .int (-1), .ref a1, .ref a3, .ref a4, .ref a5, .int 0, .int 0, .int 0, .int 0, .int 0, .ref a6])), (a1, .inl (cs 0, 45783, .inl (layF (fun _ => 0) 1)))] H := hP
  have hD : va_D A [(a0, .inr (9, [.int 0, .ref a2, .int 0, .int 0, .int 0, .int 0, .int 0, .int (-1), .ref a1, .ref a3, .ref a4, .ref a5, .int 0, .int 0, .int 0, .int 0, .int 0, .ref a6])), (a1, .inl (cs 0, 45783, .inl (layF (fun _ => 0) 1)))] := hD
  refine lv_aload_n hx hb dX9_state_5 rfl (lv_at hl 0 rfl) ?_
  refine lv_iload_n hx hb dX9_state_6 rfl (lv_at hl 1 rfl) ?_
  refine lv_iconst (v := 0) hx hb dX9_state_7 (by decide) ?_
  refine lv_bipush (v := 12) hx hb dX9_state_8 (by decide) ?_
  refine cs_i (As := [.int 0, .int 0, .int 12]) (rest := [.ref a0]) (wr := [(a0, .inr (9, [.int 0, .ref a2, .int 0, .int 0, .int 0, .int 0, .int 0, .int (-1), .ref a1, .ref a3, .ref a4, .ref a5, .int 0, .int 0, .int 0, .int 0, .int 0, .ref a6])), (a1, .inl (cs 0, 45783, .inl (layF (fun _ => 0) 1)))]) ⟨hx, hb, hml, hown, hts⟩ (fun sz => k46_X9_in l D cs sz ) (va_cwS 3 hts gX9_state_X9_in rfl rfl rfl hdX9_in_o ⟨Nat.le_of_ble_eq_true rfl, Nat.le_of_ble_eq_true rfl⟩) hN hP hD hS hA [] [0, 1] rfl rfl rfl rfl (by decide) rfl rfl hl.1 (Nat.le_of_ble_eq_true rfl) dX9_state_10 (Nat.le_of_ble_eq_true rfl) (Nat.le_of_ble_eq_true rfl) (fun u0 H locs hP hD hS => ?_)
  have hP : va_P D vwCl [(a0, .inr (9, [.int 0, .ref a2, .int 0, .int 0, .int 0, .int 0, .int 0, .int (-1), .ref a1, .ref a3, .ref a4, .ref a5, .int 0, .int 0, .int 0, .int 0, .int 0, .ref a6])), (a1, .inl (cs 0, 45783, .inl (layF (fun _ => 0) 1)))] H := hP
  have hD : va_D A [(a0, .inr (9, [.int 0, .ref a2, .int 0, .int 0, .int 0, .int 0, .int 0, .int (-1), .ref a1, .ref a3, .ref a4, .ref a5, .int 0, .int 0, .int 0, .int 0, .int 0, .ref a6])), (a1, .inl (cs 0, 45783, .inl (layF (fun _ => 0) 1)))] := hD
  refine W.widen (k := 0) (n := 0) (Nat.le_of_ble_eq_true rfl) (Nat.le_of_ble_eq_true rfl) ?_
  refine lv_if_ne (tgt := 20) hx hb dX9_state_13 (by decide) (fun _ => ?_) (fun c9 => absurd c9 (by decide))
  refine lv_iconst (v := 0) hx hb dX9_state_20 (by decide) ?_
  refine lv_iconst (v := 1) hx hb dX9_state_21 (by decide) ?_
  refine cv_i (As := [.int 0, .int 1]) (rest := []) (b := a0) (wr := [(a1, .inl (cs 0, 45783, .inl (layF (fun _ => 0) 1)))]) ⟨hx, hb, hml, hown, hts⟩ (fun sz => k47_X9_fails l D cs sz a0 a2 a1 a3 a4 a5 a6) (cwV 2 hts gX9_state_X9_fails rfl rfl rfl hdX9_fails_v ⟨Nat.le_of_ble_eq_true rfl, Nat.le_of_ble_eq_true rfl⟩) hN hP hD hS hA [0] [1] rfl rfl rfl rfl (by decide) (ci := 9) (q0 := 0) rfl rfl rfl rfl hl.1 (Nat.le_of_ble_eq_true rfl) dX9_state_22 (Nat.le_of_ble_eq_true rfl) (Nat.le_of_ble_eq_true rfl) (fun u1 H locs hP hD hS => ?_)
  have hP : va_P D vwCl [(a1, .inl (cs 0, 45783, .inl (layF (fun _ => 0) 1))), (a0, .inr (9, [.int 0, .ref a2, .int 0, .int 0, .int 0, .int 0, .int 0, .int (-1), .ref a1, .ref a3, .ref a4, .ref a5, .int 0, .int 0, .int 0, .int 0, .int 0, .ref a6]))] H := hP
  have hD : va_D A [(a1, .inl (cs 0, 45783, .inl (layF (fun _ => 0) 1))), (a0, .inr (9, [.int 0, .ref a2, .int 0, .int 0, .int 0, .int 0, .int 0, .int (-1), .ref a1, .ref a3, .ref a4, .ref a5, .int 0, .int 0, .int 0, .int 0, .int 0, .ref a6]))] := hD
  refine W.widen (k := 0) (n := 0) (Nat.le_of_ble_eq_true rfl) (Nat.le_of_ble_eq_true rfl) ?_
  refine lv_if_eq (tgt := 32) hx hb dX9_state_25 (by decide) (fun _ => ?_) (fun c9 => absurd (by decide) c9)
  refine lv_aload_n hx hb dX9_state_32 rfl (lv_at hl 0 rfl) ?_
  refine lv_iload_n hx hb dX9_state_33 rfl (lv_at hl 1 rfl) ?_
  refine cv_i (As := [.int 0]) (rest := []) (b := a0) (wr := []) ⟨hx, hb, hml, hown, hts⟩ (fun sz => k48_X9_told l D cs sz a0 a1 a2 a3 a4 a5 a6) (cwV 1 hts gX9_state_X9_told rfl rfl rfl hdX9_told_v ⟨Nat.le_of_ble_eq_true rfl, Nat.le_of_ble_eq_true rfl⟩) hN hP hD hS hA [1, 0] [] rfl rfl rfl rfl (by decide) (ci := 9) (q0 := 0) rfl rfl rfl rfl hl.1 (Nat.le_of_ble_eq_true rfl) dX9_state_34 (Nat.le_of_ble_eq_true rfl) (Nat.le_of_ble_eq_true rfl) (fun u2 H locs hP hD hS => ?_)
  have hP : va_P D vwCl [(a0, .inr (9, [.int 0, .ref a2, .int 0, .int 0, .int 0, .int 0, .int 0, .int (-1), .ref a1, .ref a3, .ref a4, .ref a5, .int 0, .int 0, .int 0, .int 0, .int 0, .ref a6])), (a1, .inl (cs 0, 45783, .inl (layF (fun _ => 0) 1)))] H := hP
  have hD : va_D A [(a0, .inr (9, [.int 0, .ref a2, .int 0, .int 0, .int 0, .int 0, .int 0, .int (-1), .ref a1, .ref a3, .ref a4, .ref a5, .int 0, .int 0, .int 0, .int 0, .int 0, .ref a6])), (a1, .inl (cs 0, 45783, .inl (layF (fun _ => 0) 1)))] := hD
  refine W.widen (k := 0) (n := 0) (Nat.le_of_ble_eq_true rfl) (Nat.le_of_ble_eq_true rfl) ?_
  exact en_i (fun k => ([] : List Nat).getD k 0) hx hb hr hlocks rfl rfl hP hD hS (Nat.le_of_ble_eq_true rfl) (Nat.le_of_ble_eq_true rfl) dX9_state_37
theorem mX9_thrown_1 : (.fieldLink RX9 40 "OneBeatModel" "thrown" "I" : Cond) ∈ wsX9_thrown := List.mem_of_getElem? (i := 1) (by decide +kernel)
theorem iX9_thrown_9 : ∀ w ∈ wsX90, w ∈ wsX9_thrown := fun w h => List.mem_of_mem_drop (List.mem_of_mem_take ((show wsX90 = (wsX9_thrown.drop 2).take 18 by decide +kernel) ▸ h))
set_option maxHeartbeats 4000000 in
set_option maxRecDepth 100000 in
theorem k50_X9_thrown (l : Launch) (D : va_G) (cs : Nat → ClassId) (sz : Nat) (a0 a1 a2 a3 a4 a5 a6 : Nat) : KI l yX9_thrown wsX9_thrown 0 0 0 0 D cs sz [.ref a0] [(a0, .inr (9, [.int 0, .ref a1, .int 0, .int 0, .int 0, .int 0, .int 0, .int (-1), .ref a2, .ref a3, .ref a4, .ref a5, .int 0, .int 0, .int 0, .int 0, .int 0, .ref a6]))] (fun u => [(a0, .inr (9, [.int 0, .ref a1, .int 0, .int 0, .int 0, .int 0, .int 0, .int (-1), .ref a2, .ref a3, .ref a4, .ref a5, .int 0, .int 0, .int 0, .int 0, .int 0, .ref a6]))]) (0) := by
  refine KI.of cX9_thrown 1 (some .int) (by decide) rfl (Nat.le_of_ble_eq_true rfl) ?_
  intro p e s m below meth c A ls hx hb hr hml hown hts hlocks hin hP hN hD hA hS hl
  have hown : s.vm.findClass RX9 = some m.cls := hown
  have hl : lv_has ls 1 [(0, .ref a0)] := hl
  refine lv_aload_n hx hb dX9_thrown_0 rfl (lv_at hl 0 rfl) ?_
  refine va_get (D := D) (ci := 9) (v := .int 0) (C := RX9) (T := TX9) (N := 18) hx hb hts iX9_thrown_9 hown hN.1 hP 0 rfl rfl 0 (by decide) (hts _ mX9_thrown_1) (fun _ h9 => h9) rfl dX9_thrown_1 ?_
  exact en_i (fun k => ([] : List Nat).getD k 0) hx hb hr hlocks rfl rfl hP hD hS (Nat.le_of_ble_eq_true rfl) (Nat.le_of_ble_eq_true rfl) dX9_thrown_4
theorem hdL_state_o : yL_state.cls ≠ "java/lang/invoke/MethodHandle" ∧ yL_state.cls ≠ "java/lang/invoke/VarHandle" ∧ (parseMethodDescriptor yL_state.desc).map (fun d => d.parameters.length) = some 3 := by decide +kernel
theorem hdX9_state_v : yX9_state.cls = RX9 ∧ yX9_state.cls ≠ "java/lang/invoke/MethodHandle" ∧ yX9_state.cls ≠ "java/lang/invoke/VarHandle" ∧ (parseMethodDescriptor yX9_state.desc).map (fun d => d.parameters.length) = some 1 := by decide +kernel
theorem hdX9_thrown_v : yX9_thrown.cls = RX9 ∧ yX9_thrown.cls ≠ "java/lang/invoke/MethodHandle" ∧ yX9_thrown.cls ≠ "java/lang/invoke/VarHandle" ∧ (parseMethodDescriptor yX9_thrown.desc).map (fun d => d.parameters.length) = some 0 := by decide +kernel
set_option maxHeartbeats 4000000 in
set_option maxRecDepth 100000 in
theorem law_3_0 {p : Program} {l : Launch} {e : Env} {s : State} {m : MethodId} {args : Array Value} {below : List Frame} {meth : Method} {c : Code} {Q : State → Prop} {D : va_G} {cs : Nat → ClassId} {A : Nat → Prop} {xs : Nat → Int32} {b : Nat} (hx : p.tables.exec = Jvm.exec) (hb : c.code = cL_law) (hml : c.maxLocals = 9) (hown : s.vm.findClass RL = some m.cls) (hts : ∀ w ∈ wsL_law, w.before args s = true) (hN : NK D cs s) (hX : va_X b 6 xs s s.heap) (hbl : b < s.heap.size) (hbA : ¬ A b) (hA : ∀ q : Nat, s.heap.size ≤ q → A q) (hZ : ZX A s s.heap) (hZS : ZS cs A s s.heap) (hlt : l.stackTraces = false)
    (kend : ∀ (H : Heap) (locs : List Loc) (ls : Array Slot), va_S A s.heap H locs → lv_has ls 9 [(0, .ref b), (4, .int 0)] → W p l e room_1 s m args below meth c H locs 600002 7302232 Q (F0 m 1169 ls []))
    (a0 a1 a2 a3 a4 a5 a6 a7 a8 a9 a10 a11 a12 a13 a14 a15 a16 a17 a18 a19 a20 a21 a22 : Nat) (hy1 : xs 1 = (0))  (H : Heap) (locs : List Loc) (ls : Array Slot) (hP : va_P D vwCl [(a0, .inr (8, [.ref a6, .ref a2, .ref a7, .ref a8, .int 0, .int 0, .int (-1)])), (a1, .inr (6, [.int 1, .int 1, .int 50, .null, .ref a9, .ref a10, .ref a11, .ref a12])), (a2, .inr (7, [.ref a1, .ref a13, .ref a14, .ref a15, .ref a16, .ref a17, .long 0, .int 0, .int 0, .int 0, .int 0, .int 0, .int 0, .int 0, .int 0, .int 0])), (a3, .inr (9, [.int 0, .ref a18, .int 0, .int 0, .int 0, .int 0, .int 0, .int (-1), .ref a4, .ref a19, .ref a20, .ref a21, .int 0, .int 0, .int 0, .int 0, .int 0, .ref a22])), (a4, .inl (cs 0, 45783, .inl (layF (fun _ => 0) 1))), (a5, .inl (cs 3, 1, .inr (.inl (fun _ => 0))))] H) (hD : va_D A [(a0, .inr (8, [.ref a6, .ref a2, .ref a7, .ref a8, .int 0, .int 0, .int (-1)])), (a1, .inr (6, [.int 1, .int 1, .int 50, .null, .ref a9, .ref a10, .ref a11, .ref a12])), (a2, .inr (7, [.ref a1, .ref a13, .ref a14, .ref a15, .ref a16, .ref a17, .long 0, .int 0, .int 0, .int 0, .int 0, .int 0, .int 0, .int 0, .int 0, .int 0])), (a3, .inr (9, [.int 0, .ref a18, .int 0, .int 0, .int 0, .int 0, .int 0, .int (-1), .ref a4, .ref a19, .ref a20, .ref a21, .int 0, .int 0, .int 0, .int 0, .int 0, .ref a22])), (a4, .inl (cs 0, 45783, .inl (layF (fun _ => 0) 1))), (a5, .inl (cs 3, 1, .inr (.inl (fun _ => 0))))]) (hS : va_S A s.heap H locs) (hl : lv_has ls 9 [(4, .int 0), (3, .ref a5), (2, .ref a3), (1, .ref a0), (0, .ref b)]) : W p l e room_1 s m args below meth c H locs 391 467079 Q (F0 m 278 ls []) := by
  refine lv_aload_n hx hb dL_law_278 rfl (lv_at hl 3 rfl) ?_
  refine lv_aload_n hx hb dL_law_279 rfl (lv_at hl 4 rfl) ?_
  refine lv_iload hx hb dL_law_280 (lv_at hl 0 rfl) ?_
  refine lv_iconst (v := 1) hx hb dL_law_282 (by decide) ?_
  refine lv_iadd hx hb dL_law_283 ?_
  refine tp_i (1) (by decide) ?_
  refine va_sld hx hb hX hbl hbA hS (vin (by decide +kernel)) dL_law_284 ?_
  refine tp_i (0) hy1 ?_
  refine lv_aload_n hx hb dL_law_285 rfl (lv_at hl 1 rfl) ?_
  refine ch_i (As := [.ref a0, .int 0, .ref a5]) (rest := []) (wr := [(a3, .inr (9, [.int 0, .ref a18, .int 0, .int 0, .int 0, .int 0, .int 0, .int (-1), .ref a4, .ref a19, .ref a20, .ref a21, .int 0, .int 0, .int 0, .int 0, .int 0, .ref a22])), (a4, .inl (cs 0, 45783, .inl (layF (fun _ => 0) 1)))]) ⟨hx, hb, hml, hown, hts⟩ (fun sz => k45_L_state l D cs sz hlt a0 a2 a1 a5 a6 a7 a8 a13 a14 a15 a16 a17 a9 a10 a11 a12) (vx_cwSW 3 hts gL_law_L_state rfl rfl rfl hdL_state_o ⟨Nat.le_of_ble_eq_true rfl, Nat.le_of_ble_eq_true rfl⟩) hN hP hD hS hA hZ [0, 2, 1, 5] [3, 4] rfl rfl rfl rfl (by decide) rfl rfl hl.1 (Nat.le_of_ble_eq_true rfl) dL_law_286 (Nat.le_of_ble_eq_true rfl) (Nat.le_of_ble_eq_true rfl) (fun u0 H locs hP hD hS => ?_)
  have hP : va_P D vwCl [(a3, .inr (9, [.int 0, .ref a18, .int 0, .int 0, .int 0, .int 0, .int 0, .int (-1), .ref a4, .ref a19, .ref a20, .ref a21, .int 0, .int 0, .int 0, .int 0, .int 0, .ref a22])), (a4, .inl (cs 0, 45783, .inl (layF (fun _ => 0) 1))), (a5, .inl (cs 3, 1, .inr (.inl (vp_updL (fun _ => 0) 0 1)))), (a0, .inr (8, [.ref a6, .ref a2, .ref a7, .ref a8, .int 0, .int 0, .int (-1)])), (a2, .inr (7, [.ref a1, .ref a13, .ref a14, .ref a15, .ref a16, .ref a17, .long 0, .int 0, .int 0, .int 0, .int 0, .int 0, .int 0, .int 0, .int 0, .int 0])), (a1, .inr (6, [.int 1, .int 1, .int 50, .null, .ref a9, .ref a10, .ref a11, .ref a12]))] H := hP
  have hD : va_D A [(a3, .inr (9, [.int 0, .ref a18, .int 0, .int 0, .int 0, .int 0, .int 0, .int (-1), .ref a4, .ref a19, .ref a20, .ref a21, .int 0, .int 0, .int 0, .int 0, .int 0, .ref a22])), (a4, .inl (cs 0, 45783, .inl (layF (fun _ => 0) 1))), (a5, .inl (cs 3, 1, .inr (.inl (vp_updL (fun _ => 0) 0 1)))), (a0, .inr (8, [.ref a6, .ref a2, .ref a7, .ref a8, .int 0, .int 0, .int (-1)])), (a2, .inr (7, [.ref a1, .ref a13, .ref a14, .ref a15, .ref a16, .ref a17, .long 0, .int 0, .int 0, .int 0, .int 0, .int 0, .int 0, .int 0, .int 0, .int 0])), (a1, .inr (6, [.int 1, .int 1, .int 50, .null, .ref a9, .ref a10, .ref a11, .ref a12]))] := hD
  refine W.widen (k := 391) (n := 467079) (Nat.le_of_ble_eq_true rfl) (Nat.le_of_ble_eq_true rfl) ?_
  refine lv_istore (lv' := [(5, .int 0), (4, .int 0), (3, .ref a5), (2, .ref a3), (1, .ref a0), (0, .ref b)]) hx hb dL_law_289 hl (by decide) rfl (fun ls hl => ?_)
  refine lv_aload_n hx hb dL_law_291 rfl (lv_at hl 3 rfl) ?_
  refine lv_aload_n hx hb dL_law_292 rfl (lv_at hl 5 rfl) ?_
  refine lv_iload hx hb dL_law_293 (lv_at hl 1 rfl) ?_
  refine lv_iconst (v := 1) hx hb dL_law_295 (by decide) ?_
  refine lv_iadd hx hb dL_law_296 ?_
  refine tp_i (1) (by decide) ?_
  refine va_sld hx hb hX hbl hbA hS (vin (by decide +kernel)) dL_law_297 ?_
  refine tp_i (0) hy1 ?_
  refine cv_i (As := [.int 0]) (rest := []) (b := a3) (wr := [(a5, .inl (cs 3, 1, .inr (.inl (vp_updL (fun _ => 0) 0 1)))), (a0, .inr (8, [.ref a6, .ref a2, .ref a7, .ref a8, .int 0, .int 0, .int (-1)])), (a2, .inr (7, [.ref a1, .ref a13, .ref a14, .ref a15, .ref a16, .ref a17, .long 0, .int 0, .int 0, .int 0, .int 0, .int 0, .int 0, .int 0, .int 0, .int 0])), (a1, .inr (6, [.int 1, .int 1, .int 50, .null, .ref a9, .ref a10, .ref a11, .ref a12]))]) ⟨hx, hb, hml, hown, hts⟩ (fun sz => k49_X9_state l D cs sz a3 a4 a18 a19 a20 a21 a22) (cwV 1 hts gL_law_X9_state rfl rfl rfl hdX9_state_v ⟨Nat.le_of_ble_eq_true rfl, Nat.le_of_ble_eq_true rfl⟩) hN hP hD hS hA [0, 1] [2, 3, 4, 5] rfl rfl rfl rfl (by decide) (ci := 9) (q0 := 0) rfl rfl rfl rfl hl.1 (Nat.le_of_ble_eq_true rfl) dL_law_298 (Nat.le_of_ble_eq_true rfl) (Nat.le_of_ble_eq_true rfl) (fun u1 H locs hP hD hS => ?_)
  have hP : va_P D vwCl [(a5, .inl (cs 3, 1, .inr (.inl (vp_updL (fun _ => 0) 0 1)))), (a0, .inr (8, [.ref a6, .ref a2, .ref a7, .ref a8, .int 0, .int 0, .int (-1)])), (a2, .inr (7, [.ref a1, .ref a13, .ref a14, .ref a15, .ref a16, .ref a17, .long 0, .int 0, .int 0, .int 0, .int 0, .int 0, .int 0, .int 0, .int 0, .int 0])), (a1, .inr (6, [.int 1, .int 1, .int 50, .null, .ref a9, .ref a10, .ref a11, .ref a12])), (a3, .inr (9, [.int 0, .ref a18, .int 0, .int 0, .int 0, .int 0, .int 0, .int (-1), .ref a4, .ref a19, .ref a20, .ref a21, .int 0, .int 0, .int 0, .int 0, .int 0, .ref a22])), (a4, .inl (cs 0, 45783, .inl (layF (fun _ => 0) 1)))] H := hP
  have hD : va_D A [(a5, .inl (cs 3, 1, .inr (.inl (vp_updL (fun _ => 0) 0 1)))), (a0, .inr (8, [.ref a6, .ref a2, .ref a7, .ref a8, .int 0, .int 0, .int (-1)])), (a2, .inr (7, [.ref a1, .ref a13, .ref a14, .ref a15, .ref a16, .ref a17, .long 0, .int 0, .int 0, .int 0, .int 0, .int 0, .int 0, .int 0, .int 0, .int 0])), (a1, .inr (6, [.int 1, .int 1, .int 50, .null, .ref a9, .ref a10, .ref a11, .ref a12])), (a3, .inr (9, [.int 0, .ref a18, .int 0, .int 0, .int 0, .int 0, .int 0, .int (-1), .ref a4, .ref a19, .ref a20, .ref a21, .int 0, .int 0, .int 0, .int 0, .int 0, .ref a22])), (a4, .inl (cs 0, 45783, .inl (layF (fun _ => 0) 1)))] := hD
  refine W.widen (k := 391) (n := 467079) (Nat.le_of_ble_eq_true rfl) (Nat.le_of_ble_eq_true rfl) ?_
  refine lv_istore (lv' := [(6, .int 1), (5, .int 0), (4, .int 0), (3, .ref a5), (2, .ref a3), (1, .ref a0), (0, .ref b)]) hx hb dL_law_301 hl (by decide) rfl (fun ls hl => ?_)
  refine lv_aload_n hx hb dL_law_303 rfl (lv_at hl 4 rfl) ?_
  refine cv_i (As := []) (rest := []) (b := a3) (wr := [(a5, .inl (cs 3, 1, .inr (.inl (vp_updL (fun _ => 0) 0 1)))), (a0, .inr (8, [.ref a6, .ref a2, .ref a7, .ref a8, .int 0, .int 0, .int (-1)])), (a2, .inr (7, [.ref a1, .ref a13, .ref a14, .ref a15, .ref a16, .ref a17, .long 0, .int 0, .int 0, .int 0, .int 0, .int 0, .int 0, .int 0, .int 0, .int 0])), (a1, .inr (6, [.int 1, .int 1, .int 50, .null, .ref a9, .ref a10, .ref a11, .ref a12])), (a4, .inl (cs 0, 45783, .inl (layF (fun _ => 0) 1)))]) ⟨hx, hb, hml, hown, hts⟩ (fun sz => k50_X9_thrown l D cs sz a3 a18 a4 a19 a20 a21 a22) (cwV 0 hts gL_law_X9_thrown rfl rfl rfl hdX9_thrown_v ⟨Nat.le_of_ble_eq_true rfl, Nat.le_of_ble_eq_true rfl⟩) hN hP hD hS hA [4] [0, 1, 2, 3, 5] rfl rfl rfl rfl (by decide) (ci := 9) (q0 := 0) rfl rfl rfl rfl hl.1 (Nat.le_of_ble_eq_true rfl) dL_law_304 (Nat.le_of_ble_eq_true rfl) (Nat.le_of_ble_eq_true rfl) (fun u2 H locs hP hD hS => ?_)
  have hP : va_P D vwCl [(a5, .inl (cs 3, 1, .inr (.inl (vp_updL (fun _ => 0) 0 1)))), (a0, .inr (8, [.ref a6, .ref a2, .ref a7, .ref a8, .int 0, .int 0, .int (-1)])), (a2, .inr (7, [.ref a1, .ref a13, .ref a14, .ref a15, .ref a16, .ref a17, .long 0, .int 0, .int 0, .int 0, .int 0, .int 0, .int 0, .int 0, .int 0, .int 0])), (a1, .inr (6, [.int 1, .int 1, .int 50, .null, .ref a9, .ref a10, .ref a11, .ref a12])), (a4, .inl (cs 0, 45783, .inl (layF (fun _ => 0) 1))), (a3, .inr (9, [.int 0, .ref a18, .int 0, .int 0, .int 0, .int 0, .int 0, .int (-1), .ref a4, .ref a19, .ref a20, .ref a21, .int 0, .int 0, .int 0, .int 0, .int 0, .ref a22]))] H := hP
  have hD : va_D A [(a5, .inl (cs 3, 1, .inr (.inl (vp_updL (fun _ => 0) 0 1)))), (a0, .inr (8, [.ref a6, .ref a2, .ref a7, .ref a8, .int 0, .int 0, .int (-1)])), (a2, .inr (7, [.ref a1, .ref a13, .ref a14, .ref a15, .ref a16, .ref a17, .long 0, .int 0, .int 0, .int 0, .int 0, .int 0, .int 0, .int 0, .int 0, .int 0])), (a1, .inr (6, [.int 1, .int 1, .int 50, .null, .ref a9, .ref a10, .ref a11, .ref a12])), (a4, .inl (cs 0, 45783, .inl (layF (fun _ => 0) 1))), (a3, .inr (9, [.int 0, .ref a18, .int 0, .int 0, .int 0, .int 0, .int 0, .int (-1), .ref a4, .ref a19, .ref a20, .ref a21, .int 0, .int 0, .int 0, .int 0, .int 0, .ref a22]))] := hD
  refine W.widen (k := 391) (n := 467079) (Nat.le_of_ble_eq_true rfl) (Nat.le_of_ble_eq_true rfl) ?_
  refine lv_iload hx hb dL_law_307 (lv_at hl 1 rfl) ?_
  refine lv_icmp_eq (tgt := 314) hx hb dL_law_309 (by decide) (fun _ => ?_) (fun c9 => absurd (by decide) c9)
  refine lv_iload hx hb dL_law_314 (lv_at hl 1 rfl) ?_
  refine lv_if_ne (tgt := 331) hx hb dL_law_316 (by decide) (fun c9 => absurd (by decide) c9) (fun _ => ?_)
  refine lv_aload_n hx hb dL_law_319 rfl (lv_at hl 3 rfl) ?_
  refine lv_iconst (v := 0) hx hb dL_law_320 (by decide) ?_
  refine ld_l (v := 1) hx hb hN hP 0 rfl (vin (by decide +kernel)) (by first | rfl | decide +kernel) dL_law_321 ?_
  refine lv_iload hx hb dL_law_322 (lv_at hl 0 rfl) ?_
  refine lv_i2l (v := 1) hx hb dL_law_324 (by decide) ?_
  refine W.lcmp hx hb dL_law_325 ?_
  refine tp_i (0) (by decide) ?_
  refine lv_if_eq (tgt := 331) hx hb dL_law_326 (by decide) (fun _ => ?_) (fun c9 => absurd (by decide) c9)
  refine lv_goto (tgt := 1169) hx hb dL_law_331 (by decide) ?_
  refine W.widen (k := 600002) (n := 7302232) (Nat.le_of_ble_eq_true rfl) (Nat.le_of_ble_eq_true rfl) ?_
  exact kend _ _ _ hS (lv_sub hl [6, 2] rfl)

set_option maxHeartbeats 4000000 in
set_option maxRecDepth 100000 in
theorem k51_X8_refuseWhatOutside (l : Launch) (D : va_G) (cs : Nat → ClassId) (sz : Nat) (a0 a1 a2 a3 a4 : Nat) : KV l yX8_refuseWhatOutside wsX8_refuseWhatOutside 0 0 0 0 D cs sz [.ref a0, .int 1, .int 12] [(a0, .inr (8, [.ref a1, .ref a2, .ref a3, .ref a4, .int 0, .int 0, .int (-1)]))] (fun u => [(a0, .inr (8, [.ref a1, .ref a2, .ref a3, .ref a4, .int 0, .int 0, .int (-1)]))]) := by
  refine KV.of cX8_refuseWhatOutside 3 none (by decide) rfl (Nat.le_of_ble_eq_true rfl) ?_
  intro p e s m below meth c A ls hx hb hr hml hown hts hlocks hin hP hN hD hA hS hl
  have hown : s.vm.findClass RX8 = some m.cls := hown
  have hl : lv_has ls 3 [(0, .ref a0), (1, .int 1), (2, .int 12)] := hl
  refine lv_iload_n hx hb dX8_refuseWhatOutside_0 rfl (lv_at hl 1 rfl) ?_
  refine lv_if_lt (tgt := 9) hx hb dX8_refuseWhatOutside_1 (by decide) (fun c9 => absurd c9 (by decide)) (fun _ => ?_)
  refine lv_iload_n hx hb dX8_refuseWhatOutside_4 rfl (lv_at hl 1 rfl) ?_
  refine lv_iload_n hx hb dX8_refuseWhatOutside_5 rfl (lv_at hl 2 rfl) ?_
  refine lv_icmp_le (tgt := 19) hx hb dX8_refuseWhatOutside_6 (by decide) (fun _ => ?_) (fun c9 => absurd (by decide) c9)
  exact en_v (fun k => ([] : List Nat).getD k 0) hx hb hr hlocks hP hD hS (Nat.le_of_ble_eq_true rfl) (Nat.le_of_ble_eq_true rfl) dX8_refuseWhatOutside_19
theorem mX7_count_2 : (.fieldLink RX7 64 "OneBeat$World" "time" "I" : Cond) ∈ wsX7_count := List.mem_of_getElem? (i := 2) (by decide +kernel)
set_option maxHeartbeats 4000000 in
set_option maxRecDepth 100000 in
theorem k52_X7_count (l : Launch) (D : va_G) (cs : Nat → ClassId) (sz : Nat) (a0 a1 a2 a3 a4 a5 a6 : Nat) : KI l yX7_count wsX7_count 0 0 0 0 D cs sz [.ref a0, .int 1] [(a0, .inr (7, [.ref a1, .ref a2, .ref a3, .ref a4, .ref a5, .ref a6, .long 0, .int 0, .int 0, .int 0, .int 0, .int 0, .int 0, .int 0, .int 0, .int 0]))] (fun u => [(a0, .inr (7, [.ref a1, .ref a2, .ref a3, .ref a4, .ref a5, .ref a6, .long 0, .int 0, .int 0, .int 0, .int 0, .int 0, .int 0, .int 0, .int 0, .int 0]))]) (0) := by
  refine KI.of cX7_count 2 (some .int) (by decide) rfl (Nat.le_of_ble_eq_true rfl) ?_
  intro p e s m below meth c A ls hx hb hr hml hown hts hlocks hin hP hN hD hA hS hl
  have hown : s.vm.findClass RX7 = some m.cls := hown
  have hl : lv_has ls 2 [(0, .ref a0), (1, .int 1)] := hl
  refine lv_iload_n hx hb dX7_count_0 rfl (lv_at hl 1 rfl) ?_
  refine lv_tableIn (tgt := 72) (off := 71) hx hb dX7_count_1 (by decide) (by decide) (by decide) (by decide) ?_
  refine lv_aload_n hx hb dX7_count_72 rfl (lv_at hl 0 rfl) ?_
  refine va_get (D := D) (ci := 7) (v := .int 0) (C := RX7) (T := TX7) (N := 16) hx hb hts iX7_count_7 hown hN.1 hP 0 rfl rfl 7 (by decide) (hts _ mX7_count_2) (fun _ h9 => h9) rfl dX7_count_73 ?_
  exact en_i (fun k => ([] : List Nat).getD k 0) hx hb hr hlocks rfl rfl hP hD hS (Nat.le_of_ble_eq_true rfl) (Nat.le_of_ble_eq_true rfl) dX7_count_76
set_option maxHeartbeats 4000000 in
set_option maxRecDepth 100000 in
theorem k53_X8_state (l : Launch) (D : va_G) (cs : Nat → ClassId) (sz : Nat) (a0 a1 a2 a3 a4 a5 a6 a7 a8 a9 a10 : Nat) : KI l yX8_state wsX8_state 1 22 0 0 D cs sz [.ref a0, .int 1] [(a0, .inr (8, [.ref a2, .ref a1, .ref a3, .ref a4, .int 0, .int 0, .int (-1)])), (a1, .inr (7, [.ref a5, .ref a6, .ref a7, .ref a8, .ref a9, .ref a10, .long 0, .int 0, .int 0, .int 0, .int 0, .int 0, .int 0, .int 0, .int 0, .int 0]))] (fun u => [(a0, .inr (8, [.ref a2, .ref a1, .ref a3, .ref a4, .int 0, .int 0, .int (-1)])), (a1, .inr (7, [.ref a5, .ref a6, .ref a7, .ref a8, .ref a9, .ref a10, .long 0, .int 0, .int 0, .int 0, .int 0, .int 0, .int 0, .int 0, .int 0, .int 0]))]) (0) := by
  refine KI.of cX8_state 2 (some .int) (by decide) rfl (Nat.le_of_ble_eq_true rfl) ?_
  intro p e s m below meth c A ls hx hb hr hml hown hts hlocks hin hP hN hD hA hS hl
  have hown : s.vm.findClass RX8 = some m.cls := hown
  have hl : lv_has ls 2 [(0, .ref a0), (1, .int 1)] := hl
  refine lv_aload_n hx hb dX8_state_0 rfl (lv_at hl 0 rfl) ?_
  refine lv_iload_n hx hb dX8_state_1 rfl (lv_at hl 1 rfl) ?_
  refine lv_bipush (v := 12) hx hb dX8_state_2 (by decide) ?_
  refine cv_v (As := [.int 1, .int 12]) (rest := []) (b := a0) (wr := [(a1, .inr (7, [.ref a5, .ref a6, .ref a7, .ref a8, .ref a9, .ref a10, .long 0, .int 0, .int 0, .int 0, .int 0, .int 0, .int 0, .int 0, .int 0, .int 0]))]) ⟨hx, hb, hml, hown, hts⟩ (fun sz => k51_X8_refuseWhatOutside l D cs sz a0 a2 a1 a3 a4) (cwV 2 hts gX8_state_X8_refuseWhatOutside rfl rfl rfl hdX8_refuseWhatOutside_v ⟨Nat.le_of_ble_eq_true rfl, Nat.le_of_ble_eq_true rfl⟩) hN hP hD hS hA [0] [1] rfl rfl rfl rfl (by decide) (ci := 8) (q0 := 0) rfl rfl rfl rfl hl.1 (Nat.le_of_ble_eq_true rfl) dX8_state_4 (Nat.le_of_ble_eq_true rfl) (Nat.le_of_ble_eq_true rfl) (fun u0 H locs hP hD hS => ?_)
  have hP : va_P D vwCl [(a1, .inr (7, [.ref a5, .ref a6, .ref a7, .ref a8, .ref a9, .ref a10, .long 0, .int 0, .int 0, .int 0, .int 0, .int 0, .int 0, .int 0, .int 0, .int 0])), (a0, .inr (8, [.ref a2, .ref a1, .ref a3, .ref a4, .int 0, .int 0, .int (-1)]))] H := hP
  have hD : va_D A [(a1, .inr (7, [.ref a5, .ref a6, .ref a7, .ref a8, .ref a9, .ref a10, .long 0, .int 0, .int 0, .int 0, .int 0, .int 0, .int 0, .int 0, .int 0, .int 0])), (a0, .inr (8, [.ref a2, .ref a1, .ref a3, .ref a4, .int 0, .int 0, .int (-1)]))] := hD
  refine W.widen (k := 0) (n := 0) (Nat.le_of_ble_eq_true rfl) (Nat.le_of_ble_eq_true rfl) ?_
  refine lv_aload_n hx hb dX8_state_7 rfl (lv_at hl 0 rfl) ?_
  refine va_get (D := D) (ci := 8) (v := .ref a1) (C := RX8) (T := TX8) (N := 7) hx hb hts iX8_state_8 hown hN.1 hP 1 rfl rfl 1 (by decide) (hts _ mX8_state_1) (fun _ h9 => h9) rfl dX8_state_8 ?_
  refine lv_iload_n hx hb dX8_state_11 rfl (lv_at hl 1 rfl) ?_
  refine cv_i (As := [.int 1]) (rest := []) (b := a1) (wr := [(a0, .inr (8, [.ref a2, .ref a1, .ref a3, .ref a4, .int 0, .int 0, .int (-1)]))]) ⟨hx, hb, hml, hown, hts⟩ (fun sz => k52_X7_count l D cs sz a1 a5 a6 a7 a8 a9 a10) (cwV 1 hts gX8_state_X7_count rfl rfl rfl hdX7_count_v ⟨Nat.le_of_ble_eq_true rfl, Nat.le_of_ble_eq_true rfl⟩) hN hP hD hS hA [0] [1] rfl rfl rfl rfl (by decide) (ci := 7) (q0 := 0) rfl rfl rfl rfl hl.1 (Nat.le_of_ble_eq_true rfl) dX8_state_12 (Nat.le_of_ble_eq_true rfl) (Nat.le_of_ble_eq_true rfl) (fun u1 H locs hP hD hS => ?_)
  have hP : va_P D vwCl [(a0, .inr (8, [.ref a2, .ref a1, .ref a3, .ref a4, .int 0, .int 0, .int (-1)])), (a1, .inr (7, [.ref a5, .ref a6, .ref a7, .ref a8, .ref a9, .ref a10, .long 0, .int 0, .int 0, .int 0, .int 0, .int 0, .int 0, .int 0, .int 0, .int 0]))] H := hP
  have hD : va_D A [(a0, .inr (8, [.ref a2, .ref a1, .ref a3, .ref a4, .int 0, .int 0, .int (-1)])), (a1, .inr (7, [.ref a5, .ref a6, .ref a7, .ref a8, .ref a9, .ref a10, .long 0, .int 0, .int 0, .int 0, .int 0, .int 0, .int 0, .int 0, .int 0, .int 0]))] := hD
  refine W.widen (k := 0) (n := 0) (Nat.le_of_ble_eq_true rfl) (Nat.le_of_ble_eq_true rfl) ?_
  exact en_i (fun k => ([] : List Nat).getD k 0) hx hb hr hlocks rfl rfl hP hD hS (Nat.le_of_ble_eq_true rfl) (Nat.le_of_ble_eq_true rfl) dX8_state_15
set_option maxHeartbeats 4000000 in
set_option maxRecDepth 100000 in
theorem k54_L_state (l : Launch) (D : va_G) (cs : Nat → ClassId) (sz : Nat) (hlt : l.stackTraces = false) (a0 a1 a2 a3 a4 a5 a6 a7 a8 a9 a10 a11 : Nat) : KH l yL_state wsL_state 2 43 0 0 D cs sz [.ref a0, .int 1, .ref a2] [(a0, .inr (8, [.ref a3, .ref a1, .ref a4, .ref a5, .int 0, .int 0, .int (-1)])), (a1, .inr (7, [.ref a6, .ref a7, .ref a8, .ref a9, .ref a10, .ref a11, .long 0, .int 0, .int 0, .int 0, .int 0, .int 0, .int 0, .int 0, .int 0, .int 0])), (a2, .inl (cs 3, 1, .inr (.inl (fun _ => 0))))] (fun u => [(a2, .inl (cs 3, 1, .inr (.inl (fun _ => 0)))), (a0, .inr (8, [.ref a3, .ref a1, .ref a4, .ref a5, .int 0, .int 0, .int (-1)])), (a1, .inr (7, [.ref a6, .ref a7, .ref a8, .ref a9, .ref a10, .ref a11, .long 0, .int 0, .int 0, .int 0, .int 0, .int 0, .int 0, .int 0, .int 0, .int 0]))]) (0) := by
  refine KH.of cL_state 4 (some .int) (by decide) rfl (Nat.le_of_ble_eq_true rfl) ?_
  intro p e s m below meth c A ls hx hb hr hml hown hts hlocks htab hP hN hD hA hS hl hZ
  have hown : s.vm.findClass RL = some m.cls := hown
  have hl : lv_has ls 4 [(0, .ref a0), (1, .int 1), (2, .ref a2)] := hl
  refine lv_aload_n hx hb dL_state_0 rfl (lv_at hl 2 rfl) ?_
  refine lv_iconst (v := 0) hx hb dL_state_1 (by decide) ?_
  refine lv_aload_n hx hb dL_state_2 rfl (lv_at hl 0 rfl) ?_
  refine lv_iload_n hx hb dL_state_3 rfl (lv_at hl 1 rfl) ?_
  refine cv_i (As := [.int 1]) (rest := [.int 0, .ref a2]) (b := a0) (wr := [(a2, .inl (cs 3, 1, .inr (.inl (fun _ => 0))))]) ⟨hx, hb, hml, hown, hts⟩ (fun sz => k53_X8_state l D cs sz a0 a1 a3 a4 a5 a6 a7 a8 a9 a10 a11) (cwV 1 hts gL_state_X8_state rfl rfl rfl hdX8_state_v ⟨Nat.le_of_ble_eq_true rfl, Nat.le_of_ble_eq_true rfl⟩) hN hP hD hS hA [0, 1] [2] rfl rfl rfl rfl (by decide) (ci := 8) (q0 := 0) rfl rfl rfl rfl hl.1 (Nat.le_of_ble_eq_true rfl) dL_state_4 (Nat.le_of_ble_eq_true rfl) (Nat.le_of_ble_eq_true rfl) (fun u0 H locs hP hD hS => ?_)
  have hP : va_P D vwCl [(a2, .inl (cs 3, 1, .inr (.inl (fun _ => 0)))), (a0, .inr (8, [.ref a3, .ref a1, .ref a4, .ref a5, .int 0, .int 0, .int (-1)])), (a1, .inr (7, [.ref a6, .ref a7, .ref a8, .ref a9, .ref a10, .ref a11, .long 0, .int 0, .int 0, .int 0, .int 0, .int 0, .int 0, .int 0, .int 0, .int 0]))] H := hP
  have hD : va_D A [(a2, .inl (cs 3, 1, .inr (.inl (fun _ => 0)))), (a0, .inr (8, [.ref a3, .ref a1, .ref a4, .ref a5, .int 0, .int 0, .int (-1)])), (a1, .inr (7, [.ref a6, .ref a7, .ref a8, .ref a9, .ref a10, .ref a11, .long 0, .int 0, .int 0, .int 0, .int 0, .int 0, .int 0, .int 0, .int 0, .int 0]))] := hD
  refine W.widen (k := 0) (n := 0) (Nat.le_of_ble_eq_true rfl) (Nat.le_of_ble_eq_true rfl) ?_
  refine lv_i2l (v := 0) hx hb dL_state_7 (by decide) ?_
  refine st_l (g := (fun _ => 0)) hx hb hN hP hD hS 0 rfl (vin (by decide +kernel)) (funext (fun j9 => by unfold vp_updL; split <;> rename_i h9 <;> first | rfl | (subst h9; rfl))) dL_state_8 (fun H locs hP hD hS => ?_)
  have hP : va_P D vwCl [(a2, .inl (cs 3, 1, .inr (.inl (fun _ => 0)))), (a0, .inr (8, [.ref a3, .ref a1, .ref a4, .ref a5, .int 0, .int 0, .int (-1)])), (a1, .inr (7, [.ref a6, .ref a7, .ref a8, .ref a9, .ref a10, .ref a11, .long 0, .int 0, .int 0, .int 0, .int 0, .int 0, .int 0, .int 0, .int 0, .int 0]))] H := hP
  have hD : va_D A [(a2, .inl (cs 3, 1, .inr (.inl (fun _ => 0)))), (a0, .inr (8, [.ref a3, .ref a1, .ref a4, .ref a5, .int 0, .int 0, .int (-1)])), (a1, .inr (7, [.ref a6, .ref a7, .ref a8, .ref a9, .ref a10, .ref a11, .long 0, .int 0, .int 0, .int 0, .int 0, .int 0, .int 0, .int 0, .int 0, .int 0]))] := hD
  refine lv_goto (tgt := 15) hx hb dL_state_9 (by decide) ?_
  refine lv_iconst (v := 0) hx hb dL_state_15 (by decide) ?_
  exact en_i (fun k => ([] : List Nat).getD k 0) hx hb hr hlocks rfl rfl hP hD hS (Nat.le_of_ble_eq_true rfl) (Nat.le_of_ble_eq_true rfl) dL_state_16
set_option maxHeartbeats 4000000 in
set_option maxRecDepth 100000 in
theorem k55_X9_in (l : Launch) (D : va_G) (cs : Nat → ClassId) (sz : Nat) : KI l yX9_in wsX9_in 0 0 0 0 D cs sz [.int 1, .int 0, .int 12] [] (fun u => []) (1) := by
  refine KI.of cX9_in 3 (some .boolean) (by decide) rfl (Nat.le_of_ble_eq_true rfl) ?_
  intro p e s m below meth c A ls hx hb hr hml hown hts hlocks hin hP hN hD hA hS hl
  have hown : s.vm.findClass RX9 = some m.cls := hown
  have hl : lv_has ls 3 [(0, .int 1), (1, .int 0), (2, .int 12)] := hl
  refine lv_iload_n hx hb dX9_in_0 rfl (lv_at hl 0 rfl) ?_
  refine lv_iload_n hx hb dX9_in_1 rfl (lv_at hl 1 rfl) ?_
  refine lv_icmp_lt (tgt := 14) hx hb dX9_in_2 (by decide) (fun c9 => absurd c9 (by decide)) (fun _ => ?_)
  refine lv_iload_n hx hb dX9_in_5 rfl (lv_at hl 0 rfl) ?_
  refine lv_iload_n hx hb dX9_in_6 rfl (lv_at hl 2 rfl) ?_
  refine lv_icmp_gt (tgt := 14) hx hb dX9_in_7 (by decide) (fun c9 => absurd c9 (by decide)) (fun _ => ?_)
  refine lv_iconst (v := 1) hx hb dX9_in_10 (by decide) ?_
  refine lv_goto (tgt := 15) hx hb dX9_in_11 (by decide) ?_
  exact en_i (fun k => ([] : List Nat).getD k 0) hx hb hr hlocks rfl rfl hP hD hS (Nat.le_of_ble_eq_true rfl) (Nat.le_of_ble_eq_true rfl) dX9_in_15
set_option maxHeartbeats 4000000 in
set_option maxRecDepth 100000 in
theorem k56_X9_told (l : Launch) (D : va_G) (cs : Nat → ClassId) (sz : Nat) (a0 a1 a2 a3 a4 a5 a6 : Nat) : KI l yX9_told wsX9_told 0 0 0 0 D cs sz [.ref a0, .int 1] [(a0, .inr (9, [.int 0, .ref a2, .int 0, .int 0, .int 0, .int 0, .int 0, .int (-1), .ref a1, .ref a3, .ref a4, .ref a5, .int 0, .int 0, .int 0, .int 0, .int 0, .ref a6])), (a1, .inl (cs 0, 45783, .inl (layF (fun _ => 0) 1)))] (fun u => [(a0, .inr (9, [.int 0, .ref a2, .int 0, .int 0, .int 0, .int 0, .int 0, .int (-1), .ref a1, .ref a3, .ref a4, .ref a5, .int 0, .int 0, .int 0, .int 0, .int 0, .ref a6])), (a1, .inl (cs 0, 45783, .inl (layF (fun _ => 0) 1)))]) (0) := by
  refine KI.of cX9_told 2 (some .int) (by decide) rfl (Nat.le_of_ble_eq_true rfl) ?_
  intro p e s m below meth c A ls hx hb hr hml hown hts hlocks hin hP hN hD hA hS hl
  have hown : s.vm.findClass RX9 = some m.cls := hown
  have hl : lv_has ls 2 [(0, .ref a0), (1, .int 1)] := hl
  refine lv_iload_n hx hb dX9_told_0 rfl (lv_at hl 1 rfl) ?_
  refine lv_tableOut (tgt := 59) hx hb dX9_told_1 (by decide) (by decide) ?_
  refine lv_aload_n hx hb dX9_told_59 rfl (lv_at hl 0 rfl) ?_
  refine va_get (D := D) (ci := 9) (v := .ref a1) (C := RX9) (T := TX9) (N := 18) hx hb hts iX9_told_9 hown hN.1 hP 0 rfl rfl 8 (by decide) (hts _ mX9_told_1) (fun _ h9 => h9) rfl dX9_told_60 ?_
  refine lv_iload_n hx hb dX9_told_63 rfl (lv_at hl 1 rfl) ?_
  refine ld_i (v := 0) hx hb hN hP 1 rfl (vin (by decide +kernel)) (by first | rfl | decide +kernel) dX9_told_64 ?_
  exact en_i (fun k => ([] : List Nat).getD k 0) hx hb hr hlocks rfl rfl hP hD hS (Nat.le_of_ble_eq_true rfl) (Nat.le_of_ble_eq_true rfl) dX9_told_65
set_option maxHeartbeats 4000000 in
set_option maxRecDepth 100000 in
theorem k57_X9_state (l : Launch) (D : va_G) (cs : Nat → ClassId) (sz : Nat) (a0 a1 a2 a3 a4 a5 a6 : Nat) : KI l yX9_state wsX9_state 1 22 0 0 D cs sz [.ref a0, .int 1] [(a0, .inr (9, [.int 0, .ref a2, .int 0, .int 0, .int 0, .int 0, .int 0, .int (-1), .ref a1, .ref a3, .ref a4, .ref a5, .int 0, .int 0, .int 0, .int 0, .int 0, .ref a6])), (a1, .inl (cs 0, 45783, .inl (layF (fun _ => 0) 1)))] (fun u => [(a0, .inr (9, [.int 0, .ref a2, .int 0, .int 0, .int 0, .int 0, .int 0, .int (-1), .ref a1, .ref a3, .ref a4, .ref a5, .int 0, .int 0, .int 0, .int 0, .int 0, .ref a6])), (a1, .inl (cs 0, 45783, .inl (layF (fun _ => 0) 1)))]) (0) := by
  refine KI.of cX9_state 2 (some .int) (by decide) rfl (Nat.le_of_ble_eq_true rfl) ?_
  intro p e s m below meth c A ls hx hb hr hml hown hts hlocks hin hP hN hD hA hS hl
  have hown : s.vm.findClass RX9 = some m.cls := hown
  have hl : lv_has ls 2 [(0, .ref a0), (1, .int 1)] := hl
  refine lv_aload_n hx hb dX9_state_0 rfl (lv_at hl 0 rfl) ?_
  refine lv_iconst (v := 0) hx hb dX9_state_1 (by decide) ?_
  refine va_put (D := D) (ci := 9) (v := .int 0) (ty := .int) (C := RX9) (T := TX9) (N := 18) hx hb hts iX9_state_9 tyX9 tyX9_ok nmX9 hown hN.1 hP hD hS 0 rfl rfl 0 (by decide) (hts _ mX9_state_1) (fun _ h9 => h9) rfl (by decide +kernel) rfl rfl (Nat.le_of_ble_eq_true rfl) dX9_state_2 (fun H locs hP hD hS => ?_)
  have hP : va_P D vwCl [(a0, .inr (9, [.int 0, .ref a2, .int 0, .int 0, .int 0, .int 0, .int 0, .int (-1), .ref a1, .ref a3, .ref a4, .ref a5, .int 0, .int 0, .int 0, .int 0, .int 0, .ref a6])), (a1, .inl (cs 0, 45783, .inl (layF (fun _ => 0) 1)))] H := hP
  have hD : va_D A [(a0, .inr (9, [.int 0, .ref a2, .int 0, .int 0, .int 0, .int 0, .int 0, .int (-1), .ref a1, .ref a3, .ref a4, .ref a5, .int 0, .int 0, .int 0, .int 0, .int 0, .ref a6])), (a1, .inl (cs 0, 45783, .inl (layF (fun _ => 0) 1)))] := hD
  refine lv_aload_n hx hb dX9_state_5 rfl (lv_at hl 0 rfl) ?_
  refine lv_iload_n hx hb dX9_state_6 rfl (lv_at hl 1 rfl) ?_
  refine lv_iconst (v := 0) hx hb dX9_state_7 (by decide) ?_
  refine lv_bipush (v := 12) hx hb dX9_state_8 (by decide) ?_
  refine cs_i (As := [.int 1, .int 0, .int 12]) (rest := [.ref a0]) (wr := [(a0, .inr (9, [.int 0, .ref a2, .int 0, .int 0, .int 0, .int 0, .int 0, .int (-1), .ref a1, .ref a3, .ref a4, .ref a5, .int 0, .int 0, .int 0, .int 0, .int 0, .ref a6])), (a1, .inl (cs 0, 45783, .inl (layF (fun _ => 0) 1)))]) ⟨hx, hb, hml, hown, hts⟩ (fun sz => k55_X9_in l D cs sz ) (va_cwS 3 hts gX9_state_X9_in rfl rfl rfl hdX9_in_o ⟨Nat.le_of_ble_eq_true rfl, Nat.le_of_ble_eq_true rfl⟩) hN hP hD hS hA [] [0, 1] rfl rfl rfl rfl (by decide) rfl rfl hl.1 (Nat.le_of_ble_eq_true rfl) dX9_state_10 (Nat.le_of_ble_eq_true rfl) (Nat.le_of_ble_eq_true rfl) (fun u0 H locs hP hD hS => ?_)
  have hP : va_P D vwCl [(a0, .inr (9, [.int 0, .ref a2, .int 0, .int 0, .int 0, .int 0, .int 0, .int (-1), .ref a1, .ref a3, .ref a4, .ref a5, .int 0, .int 0, .int 0, .int 0, .int 0, .ref a6])), (a1, .inl (cs 0, 45783, .inl (layF (fun _ => 0) 1)))] H := hP
  have hD : va_D A [(a0, .inr (9, [.int 0, .ref a2, .int 0, .int 0, .int 0, .int 0, .int 0, .int (-1), .ref a1, .ref a3, .ref a4, .ref a5, .int 0, .int 0, .int 0, .int 0, .int 0, .ref a6])), (a1, .inl (cs 0, 45783, .inl (layF (fun _ => 0) 1)))] := hD
  refine W.widen (k := 0) (n := 0) (Nat.le_of_ble_eq_true rfl) (Nat.le_of_ble_eq_true rfl) ?_
  refine lv_if_ne (tgt := 20) hx hb dX9_state_13 (by decide) (fun _ => ?_) (fun c9 => absurd c9 (by decide))
  refine lv_iconst (v := 0) hx hb dX9_state_20 (by decide) ?_
  refine lv_iconst (v := 1) hx hb dX9_state_21 (by decide) ?_
  refine cv_i (As := [.int 0, .int 1]) (rest := []) (b := a0) (wr := [(a1, .inl (cs 0, 45783, .inl (layF (fun _ => 0) 1)))]) ⟨hx, hb, hml, hown, hts⟩ (fun sz => k47_X9_fails l D cs sz a0 a2 a1 a3 a4 a5 a6) (cwV 2 hts gX9_state_X9_fails rfl rfl rfl hdX9_fails_v ⟨Nat.le_of_ble_eq_true rfl, Nat.le_of_ble_eq_true rfl⟩) hN hP hD hS hA [0] [1] rfl rfl rfl rfl (by decide) (ci := 9) (q0 := 0) rfl rfl rfl rfl hl.1 (Nat.le_of_ble_eq_true rfl) dX9_state_22 (Nat.le_of_ble_eq_true rfl) (Nat.le_of_ble_eq_true rfl) (fun u1 H locs hP hD hS => ?_)
  have hP : va_P D vwCl [(a1, .inl (cs 0, 45783, .inl (layF (fun _ => 0) 1))), (a0, .inr (9, [.int 0, .ref a2, .int 0, .int 0, .int 0, .int 0, .int 0, .int (-1), .ref a1, .ref a3, .ref a4, .ref a5, .int 0, .int 0, .int 0, .int 0, .int 0, .ref a6]))] H := hP
  have hD : va_D A [(a1, .inl (cs 0, 45783, .inl (layF (fun _ => 0) 1))), (a0, .inr (9, [.int 0, .ref a2, .int 0, .int 0, .int 0, .int 0, .int 0, .int (-1), .ref a1, .ref a3, .ref a4, .ref a5, .int 0, .int 0, .int 0, .int 0, .int 0, .ref a6]))] := hD
  refine W.widen (k := 0) (n := 0) (Nat.le_of_ble_eq_true rfl) (Nat.le_of_ble_eq_true rfl) ?_
  refine lv_if_eq (tgt := 32) hx hb dX9_state_25 (by decide) (fun _ => ?_) (fun c9 => absurd (by decide) c9)
  refine lv_aload_n hx hb dX9_state_32 rfl (lv_at hl 0 rfl) ?_
  refine lv_iload_n hx hb dX9_state_33 rfl (lv_at hl 1 rfl) ?_
  refine cv_i (As := [.int 1]) (rest := []) (b := a0) (wr := []) ⟨hx, hb, hml, hown, hts⟩ (fun sz => k56_X9_told l D cs sz a0 a1 a2 a3 a4 a5 a6) (cwV 1 hts gX9_state_X9_told rfl rfl rfl hdX9_told_v ⟨Nat.le_of_ble_eq_true rfl, Nat.le_of_ble_eq_true rfl⟩) hN hP hD hS hA [1, 0] [] rfl rfl rfl rfl (by decide) (ci := 9) (q0 := 0) rfl rfl rfl rfl hl.1 (Nat.le_of_ble_eq_true rfl) dX9_state_34 (Nat.le_of_ble_eq_true rfl) (Nat.le_of_ble_eq_true rfl) (fun u2 H locs hP hD hS => ?_)
  have hP : va_P D vwCl [(a0, .inr (9, [.int 0, .ref a2, .int 0, .int 0, .int 0, .int 0, .int 0, .int (-1), .ref a1, .ref a3, .ref a4, .ref a5, .int 0, .int 0, .int 0, .int 0, .int 0, .ref a6])), (a1, .inl (cs 0, 45783, .inl (layF (fun _ => 0) 1)))] H := hP
  have hD : va_D A [(a0, .inr (9, [.int 0, .ref a2, .int 0, .int 0, .int 0, .int 0, .int 0, .int (-1), .ref a1, .ref a3, .ref a4, .ref a5, .int 0, .int 0, .int 0, .int 0, .int 0, .ref a6])), (a1, .inl (cs 0, 45783, .inl (layF (fun _ => 0) 1)))] := hD
  refine W.widen (k := 0) (n := 0) (Nat.le_of_ble_eq_true rfl) (Nat.le_of_ble_eq_true rfl) ?_
  exact en_i (fun k => ([] : List Nat).getD k 0) hx hb hr hlocks rfl rfl hP hD hS (Nat.le_of_ble_eq_true rfl) (Nat.le_of_ble_eq_true rfl) dX9_state_37
set_option maxHeartbeats 4000000 in
set_option maxRecDepth 100000 in
theorem law_3_1 {p : Program} {l : Launch} {e : Env} {s : State} {m : MethodId} {args : Array Value} {below : List Frame} {meth : Method} {c : Code} {Q : State → Prop} {D : va_G} {cs : Nat → ClassId} {A : Nat → Prop} {xs : Nat → Int32} {b : Nat} (hx : p.tables.exec = Jvm.exec) (hb : c.code = cL_law) (hml : c.maxLocals = 9) (hown : s.vm.findClass RL = some m.cls) (hts : ∀ w ∈ wsL_law, w.before args s = true) (hN : NK D cs s) (hX : va_X b 6 xs s s.heap) (hbl : b < s.heap.size) (hbA : ¬ A b) (hA : ∀ q : Nat, s.heap.size ≤ q → A q) (hZ : ZX A s s.heap) (hZS : ZS cs A s s.heap) (hlt : l.stackTraces = false)
    (kend : ∀ (H : Heap) (locs : List Loc) (ls : Array Slot), va_S A s.heap H locs → lv_has ls 9 [(0, .ref b), (4, .int 0)] → W p l e room_1 s m args below meth c H locs 600002 7302232 Q (F0 m 1169 ls []))
    (a0 a1 a2 a3 a4 a5 a6 a7 a8 a9 a10 a11 a12 a13 a14 a15 a16 a17 a18 : Nat) (hy1 : xs 1 = (1))  (H : Heap) (locs : List Loc) (ls : Array Slot) (hP : va_P D vwCl [(a0, .inr (8, [.ref a5, .ref a1, .ref a6, .ref a7, .int 0, .int 0, .int (-1)])), (a1, .inr (7, [.ref a8, .ref a9, .ref a10, .ref a11, .ref a12, .ref a13, .long 0, .int 0, .int 0, .int 0, .int 0, .int 0, .int 0, .int 0, .int 0, .int 0])), (a2, .inr (9, [.int 0, .ref a14, .int 0, .int 0, .int 0, .int 0, .int 0, .int (-1), .ref a3, .ref a15, .ref a16, .ref a17, .int 0, .int 0, .int 0, .int 0, .int 0, .ref a18])), (a3, .inl (cs 0, 45783, .inl (layF (fun _ => 0) 1))), (a4, .inl (cs 3, 1, .inr (.inl (fun _ => 0))))] H) (hD : va_D A [(a0, .inr (8, [.ref a5, .ref a1, .ref a6, .ref a7, .int 0, .int 0, .int (-1)])), (a1, .inr (7, [.ref a8, .ref a9, .ref a10, .ref a11, .ref a12, .ref a13, .long 0, .int 0, .int 0, .int 0, .int 0, .int 0, .int 0, .int 0, .int 0, .int 0])), (a2, .inr (9, [.int 0, .ref a14, .int 0, .int 0, .int 0, .int 0, .int 0, .int (-1), .ref a3, .ref a15, .ref a16, .ref a17, .int 0, .int 0, .int 0, .int 0, .int 0, .ref a18])), (a3, .inl (cs 0, 45783, .inl (layF (fun _ => 0) 1))), (a4, .inl (cs 3, 1, .inr (.inl (fun _ => 0))))]) (hS : va_S A s.heap H locs) (hl : lv_has ls 9 [(4, .int 0), (3, .ref a4), (2, .ref a2), (1, .ref a0), (0, .ref b)]) : W p l e room_1 s m args below meth c H locs 391 467079 Q (F0 m 278 ls []) := by
  refine lv_aload_n hx hb dL_law_278 rfl (lv_at hl 3 rfl) ?_
  refine lv_aload_n hx hb dL_law_279 rfl (lv_at hl 4 rfl) ?_
  refine lv_iload hx hb dL_law_280 (lv_at hl 0 rfl) ?_
  refine lv_iconst (v := 1) hx hb dL_law_282 (by decide) ?_
  refine lv_iadd hx hb dL_law_283 ?_
  refine tp_i (1) (by decide) ?_
  refine va_sld hx hb hX hbl hbA hS (vin (by decide +kernel)) dL_law_284 ?_
  refine tp_i (1) hy1 ?_
  refine lv_aload_n hx hb dL_law_285 rfl (lv_at hl 1 rfl) ?_
  refine ch_i (As := [.ref a0, .int 1, .ref a4]) (rest := []) (wr := [(a2, .inr (9, [.int 0, .ref a14, .int 0, .int 0, .int 0, .int 0, .int 0, .int (-1), .ref a3, .ref a15, .ref a16, .ref a17, .int 0, .int 0, .int 0, .int 0, .int 0, .ref a18])), (a3, .inl (cs 0, 45783, .inl (layF (fun _ => 0) 1)))]) ⟨hx, hb, hml, hown, hts⟩ (fun sz => k54_L_state l D cs sz hlt a0 a1 a4 a5 a6 a7 a8 a9 a10 a11 a12 a13) (vx_cwSW 3 hts gL_law_L_state rfl rfl rfl hdL_state_o ⟨Nat.le_of_ble_eq_true rfl, Nat.le_of_ble_eq_true rfl⟩) hN hP hD hS hA hZ [0, 1, 4] [2, 3] rfl rfl rfl rfl (by decide) rfl rfl hl.1 (Nat.le_of_ble_eq_true rfl) dL_law_286 (Nat.le_of_ble_eq_true rfl) (Nat.le_of_ble_eq_true rfl) (fun u0 H locs hP hD hS => ?_)
  have hP : va_P D vwCl [(a2, .inr (9, [.int 0, .ref a14, .int 0, .int 0, .int 0, .int 0, .int 0, .int (-1), .ref a3, .ref a15, .ref a16, .ref a17, .int 0, .int 0, .int 0, .int 0, .int 0, .ref a18])), (a3, .inl (cs 0, 45783, .inl (layF (fun _ => 0) 1))), (a4, .inl (cs 3, 1, .inr (.inl (fun _ => 0)))), (a0, .inr (8, [.ref a5, .ref a1, .ref a6, .ref a7, .int 0, .int 0, .int (-1)])), (a1, .inr (7, [.ref a8, .ref a9, .ref a10, .ref a11, .ref a12, .ref a13, .long 0, .int 0, .int 0, .int 0, .int 0, .int 0, .int 0, .int 0, .int 0, .int 0]))] H := hP
  have hD : va_D A [(a2, .inr (9, [.int 0, .ref a14, .int 0, .int 0, .int 0, .int 0, .int 0, .int (-1), .ref a3, .ref a15, .ref a16, .ref a17, .int 0, .int 0, .int 0, .int 0, .int 0, .ref a18])), (a3, .inl (cs 0, 45783, .inl (layF (fun _ => 0) 1))), (a4, .inl (cs 3, 1, .inr (.inl (fun _ => 0)))), (a0, .inr (8, [.ref a5, .ref a1, .ref a6, .ref a7, .int 0, .int 0, .int (-1)])), (a1, .inr (7, [.ref a8, .ref a9, .ref a10, .ref a11, .ref a12, .ref a13, .long 0, .int 0, .int 0, .int 0, .int 0, .int 0, .int 0, .int 0, .int 0, .int 0]))] := hD
  refine W.widen (k := 391) (n := 467079) (Nat.le_of_ble_eq_true rfl) (Nat.le_of_ble_eq_true rfl) ?_
  refine lv_istore (lv' := [(5, .int 0), (4, .int 0), (3, .ref a4), (2, .ref a2), (1, .ref a0), (0, .ref b)]) hx hb dL_law_289 hl (by decide) rfl (fun ls hl => ?_)
  refine lv_aload_n hx hb dL_law_291 rfl (lv_at hl 3 rfl) ?_
  refine lv_aload_n hx hb dL_law_292 rfl (lv_at hl 5 rfl) ?_
  refine lv_iload hx hb dL_law_293 (lv_at hl 1 rfl) ?_
  refine lv_iconst (v := 1) hx hb dL_law_295 (by decide) ?_
  refine lv_iadd hx hb dL_law_296 ?_
  refine tp_i (1) (by decide) ?_
  refine va_sld hx hb hX hbl hbA hS (vin (by decide +kernel)) dL_law_297 ?_
  refine tp_i (1) hy1 ?_
  refine cv_i (As := [.int 1]) (rest := []) (b := a2) (wr := [(a4, .inl (cs 3, 1, .inr (.inl (fun _ => 0)))), (a0, .inr (8, [.ref a5, .ref a1, .ref a6, .ref a7, .int 0, .int 0, .int (-1)])), (a1, .inr (7, [.ref a8, .ref a9, .ref a10, .ref a11, .ref a12, .ref a13, .long 0, .int 0, .int 0, .int 0, .int 0, .int 0, .int 0, .int 0, .int 0, .int 0]))]) ⟨hx, hb, hml, hown, hts⟩ (fun sz => k57_X9_state l D cs sz a2 a3 a14 a15 a16 a17 a18) (cwV 1 hts gL_law_X9_state rfl rfl rfl hdX9_state_v ⟨Nat.le_of_ble_eq_true rfl, Nat.le_of_ble_eq_true rfl⟩) hN hP hD hS hA [0, 1] [2, 3, 4] rfl rfl rfl rfl (by decide) (ci := 9) (q0 := 0) rfl rfl rfl rfl hl.1 (Nat.le_of_ble_eq_true rfl) dL_law_298 (Nat.le_of_ble_eq_true rfl) (Nat.le_of_ble_eq_true rfl) (fun u1 H locs hP hD hS => ?_)
  have hP : va_P D vwCl [(a4, .inl (cs 3, 1, .inr (.inl (fun _ => 0)))), (a0, .inr (8, [.ref a5, .ref a1, .ref a6, .ref a7, .int 0, .int 0, .int (-1)])), (a1, .inr (7, [.ref a8, .ref a9, .ref a10, .ref a11, .ref a12, .ref a13, .long 0, .int 0, .int 0, .int 0, .int 0, .int 0, .int 0, .int 0, .int 0, .int 0])), (a2, .inr (9, [.int 0, .ref a14, .int 0, .int 0, .int 0, .int 0, .int 0, .int (-1), .ref a3, .ref a15, .ref a16, .ref a17, .int 0, .int 0, .int 0, .int 0, .int 0, .ref a18])), (a3, .inl (cs 0, 45783, .inl (layF (fun _ => 0) 1)))] H := hP
  have hD : va_D A [(a4, .inl (cs 3, 1, .inr (.inl (fun _ => 0)))), (a0, .inr (8, [.ref a5, .ref a1, .ref a6, .ref a7, .int 0, .int 0, .int (-1)])), (a1, .inr (7, [.ref a8, .ref a9, .ref a10, .ref a11, .ref a12, .ref a13, .long 0, .int 0, .int 0, .int 0, .int 0, .int 0, .int 0, .int 0, .int 0, .int 0])), (a2, .inr (9, [.int 0, .ref a14, .int 0, .int 0, .int 0, .int 0, .int 0, .int (-1), .ref a3, .ref a15, .ref a16, .ref a17, .int 0, .int 0, .int 0, .int 0, .int 0, .ref a18])), (a3, .inl (cs 0, 45783, .inl (layF (fun _ => 0) 1)))] := hD
  refine W.widen (k := 391) (n := 467079) (Nat.le_of_ble_eq_true rfl) (Nat.le_of_ble_eq_true rfl) ?_
  refine lv_istore (lv' := [(6, .int 0), (5, .int 0), (4, .int 0), (3, .ref a4), (2, .ref a2), (1, .ref a0), (0, .ref b)]) hx hb dL_law_301 hl (by decide) rfl (fun ls hl => ?_)
  refine lv_aload_n hx hb dL_law_303 rfl (lv_at hl 4 rfl) ?_
  refine cv_i (As := []) (rest := []) (b := a2) (wr := [(a4, .inl (cs 3, 1, .inr (.inl (fun _ => 0)))), (a0, .inr (8, [.ref a5, .ref a1, .ref a6, .ref a7, .int 0, .int 0, .int (-1)])), (a1, .inr (7, [.ref a8, .ref a9, .ref a10, .ref a11, .ref a12, .ref a13, .long 0, .int 0, .int 0, .int 0, .int 0, .int 0, .int 0, .int 0, .int 0, .int 0])), (a3, .inl (cs 0, 45783, .inl (layF (fun _ => 0) 1)))]) ⟨hx, hb, hml, hown, hts⟩ (fun sz => k50_X9_thrown l D cs sz a2 a14 a3 a15 a16 a17 a18) (cwV 0 hts gL_law_X9_thrown rfl rfl rfl hdX9_thrown_v ⟨Nat.le_of_ble_eq_true rfl, Nat.le_of_ble_eq_true rfl⟩) hN hP hD hS hA [3] [0, 1, 2, 4] rfl rfl rfl rfl (by decide) (ci := 9) (q0 := 0) rfl rfl rfl rfl hl.1 (Nat.le_of_ble_eq_true rfl) dL_law_304 (Nat.le_of_ble_eq_true rfl) (Nat.le_of_ble_eq_true rfl) (fun u2 H locs hP hD hS => ?_)
  have hP : va_P D vwCl [(a4, .inl (cs 3, 1, .inr (.inl (fun _ => 0)))), (a0, .inr (8, [.ref a5, .ref a1, .ref a6, .ref a7, .int 0, .int 0, .int (-1)])), (a1, .inr (7, [.ref a8, .ref a9, .ref a10, .ref a11, .ref a12, .ref a13, .long 0, .int 0, .int 0, .int 0, .int 0, .int 0, .int 0, .int 0, .int 0, .int 0])), (a3, .inl (cs 0, 45783, .inl (layF (fun _ => 0) 1))), (a2, .inr (9, [.int 0, .ref a14, .int 0, .int 0, .int 0, .int 0, .int 0, .int (-1), .ref a3, .ref a15, .ref a16, .ref a17, .int 0, .int 0, .int 0, .int 0, .int 0, .ref a18]))] H := hP
  have hD : va_D A [(a4, .inl (cs 3, 1, .inr (.inl (fun _ => 0)))), (a0, .inr (8, [.ref a5, .ref a1, .ref a6, .ref a7, .int 0, .int 0, .int (-1)])), (a1, .inr (7, [.ref a8, .ref a9, .ref a10, .ref a11, .ref a12, .ref a13, .long 0, .int 0, .int 0, .int 0, .int 0, .int 0, .int 0, .int 0, .int 0, .int 0])), (a3, .inl (cs 0, 45783, .inl (layF (fun _ => 0) 1))), (a2, .inr (9, [.int 0, .ref a14, .int 0, .int 0, .int 0, .int 0, .int 0, .int (-1), .ref a3, .ref a15, .ref a16, .ref a17, .int 0, .int 0, .int 0, .int 0, .int 0, .ref a18]))] := hD
  refine W.widen (k := 391) (n := 467079) (Nat.le_of_ble_eq_true rfl) (Nat.le_of_ble_eq_true rfl) ?_
  refine lv_iload hx hb dL_law_307 (lv_at hl 1 rfl) ?_
  refine lv_icmp_eq (tgt := 314) hx hb dL_law_309 (by decide) (fun _ => ?_) (fun c9 => absurd (by decide) c9)
  refine lv_iload hx hb dL_law_314 (lv_at hl 1 rfl) ?_
  refine lv_if_ne (tgt := 331) hx hb dL_law_316 (by decide) (fun c9 => absurd (by decide) c9) (fun _ => ?_)
  refine lv_aload_n hx hb dL_law_319 rfl (lv_at hl 3 rfl) ?_
  refine lv_iconst (v := 0) hx hb dL_law_320 (by decide) ?_
  refine ld_l (v := 0) hx hb hN hP 0 rfl (vin (by decide +kernel)) (by first | rfl | decide +kernel) dL_law_321 ?_
  refine lv_iload hx hb dL_law_322 (lv_at hl 0 rfl) ?_
  refine lv_i2l (v := 0) hx hb dL_law_324 (by decide) ?_
  refine W.lcmp hx hb dL_law_325 ?_
  refine tp_i (0) (by decide) ?_
  refine lv_if_eq (tgt := 331) hx hb dL_law_326 (by decide) (fun _ => ?_) (fun c9 => absurd (by decide) c9)
  refine lv_goto (tgt := 1169) hx hb dL_law_331 (by decide) ?_
  refine W.widen (k := 600002) (n := 7302232) (Nat.le_of_ble_eq_true rfl) (Nat.le_of_ble_eq_true rfl) ?_
  exact kend _ _ _ hS (lv_sub hl [6, 2] rfl)

set_option maxHeartbeats 4000000 in
set_option maxRecDepth 100000 in
theorem k58_X8_refuseWhatOutside (l : Launch) (D : va_G) (cs : Nat → ClassId) (sz : Nat) (a0 a1 a2 a3 a4 : Nat) : KV l yX8_refuseWhatOutside wsX8_refuseWhatOutside 0 0 0 0 D cs sz [.ref a0, .int 2, .int 12] [(a0, .inr (8, [.ref a1, .ref a2, .ref a3, .ref a4, .int 0, .int 0, .int (-1)]))] (fun u => [(a0, .inr (8, [.ref a1, .ref a2, .ref a3, .ref a4, .int 0, .int 0, .int (-1)]))]) := by
  refine KV.of cX8_refuseWhatOutside 3 none (by decide) rfl (Nat.le_of_ble_eq_true rfl) ?_
  intro p e s m below meth c A ls hx hb hr hml hown hts hlocks hin hP hN hD hA hS hl
  have hown : s.vm.findClass RX8 = some m.cls := hown
  have hl : lv_has ls 3 [(0, .ref a0), (1, .int 2), (2, .int 12)] := hl
  refine lv_iload_n hx hb dX8_refuseWhatOutside_0 rfl (lv_at hl 1 rfl) ?_
  refine lv_if_lt (tgt := 9) hx hb dX8_refuseWhatOutside_1 (by decide) (fun c9 => absurd c9 (by decide)) (fun _ => ?_)
  refine lv_iload_n hx hb dX8_refuseWhatOutside_4 rfl (lv_at hl 1 rfl) ?_
  refine lv_iload_n hx hb dX8_refuseWhatOutside_5 rfl (lv_at hl 2 rfl) ?_
  refine lv_icmp_le (tgt := 19) hx hb dX8_refuseWhatOutside_6 (by decide) (fun _ => ?_) (fun c9 => absurd (by decide) c9)
  exact en_v (fun k => ([] : List Nat).getD k 0) hx hb hr hlocks hP hD hS (Nat.le_of_ble_eq_true rfl) (Nat.le_of_ble_eq_true rfl) dX8_refuseWhatOutside_19
theorem mX7_count_3 : (.fieldLink RX7 68 "OneBeat$World" "conductor" "I" : Cond) ∈ wsX7_count := List.mem_of_getElem? (i := 3) (by decide +kernel)
set_option maxHeartbeats 4000000 in
set_option maxRecDepth 100000 in
theorem k59_X7_count (l : Launch) (D : va_G) (cs : Nat → ClassId) (sz : Nat) (a0 a1 a2 a3 a4 a5 a6 : Nat) : KI l yX7_count wsX7_count 0 0 0 0 D cs sz [.ref a0, .int 2] [(a0, .inr (7, [.ref a1, .ref a2, .ref a3, .ref a4, .ref a5, .ref a6, .long 0, .int 0, .int 0, .int 0, .int 0, .int 0, .int 0, .int 0, .int 0, .int 0]))] (fun u => [(a0, .inr (7, [.ref a1, .ref a2, .ref a3, .ref a4, .ref a5, .ref a6, .long 0, .int 0, .int 0, .int 0, .int 0, .int 0, .int 0, .int 0, .int 0, .int 0]))]) (0) := by
  refine KI.of cX7_count 2 (some .int) (by decide) rfl (Nat.le_of_ble_eq_true rfl) ?_
  intro p e s m below meth c A ls hx hb hr hml hown hts hlocks hin hP hN hD hA hS hl
  have hown : s.vm.findClass RX7 = some m.cls := hown
  have hl : lv_has ls 2 [(0, .ref a0), (1, .int 2)] := hl
  refine lv_iload_n hx hb dX7_count_0 rfl (lv_at hl 1 rfl) ?_
  refine lv_tableIn (tgt := 77) (off := 76) hx hb dX7_count_1 (by decide) (by decide) (by decide) (by decide) ?_
  refine lv_aload_n hx hb dX7_count_77 rfl (lv_at hl 0 rfl) ?_
  refine va_get (D := D) (ci := 7) (v := .int 0) (C := RX7) (T := TX7) (N := 16) hx hb hts iX7_count_7 hown hN.1 hP 0 rfl rfl 8 (by decide) (hts _ mX7_count_3) (fun _ h9 => h9) rfl dX7_count_78 ?_
  exact en_i (fun k => ([] : List Nat).getD k 0) hx hb hr hlocks rfl rfl hP hD hS (Nat.le_of_ble_eq_true rfl) (Nat.le_of_ble_eq_true rfl) dX7_count_81
set_option maxHeartbeats 4000000 in
set_option maxRecDepth 100000 in
theorem k60_X8_state (l : Launch) (D : va_G) (cs : Nat → ClassId) (sz : Nat) (a0 a1 a2 a3 a4 a5 a6 a7 a8 a9 a10 : Nat) : KI l yX8_state wsX8_state 1 22 0 0 D cs sz [.ref a0, .int 2] [(a0, .inr (8, [.ref a2, .ref a1, .ref a3, .ref a4, .int 0, .int 0, .int (-1)])), (a1, .inr (7, [.ref a5, .ref a6, .ref a7, .ref a8, .ref a9, .ref a10, .long 0, .int 0, .int 0, .int 0, .int 0, .int 0, .int 0, .int 0, .int 0, .int 0]))] (fun u => [(a0, .inr (8, [.ref a2, .ref a1, .ref a3, .ref a4, .int 0, .int 0, .int (-1)])), (a1, .inr (7, [.ref a5, .ref a6, .ref a7, .ref a8, .ref a9, .ref a10, .long 0, .int 0, .int 0, .int 0, .int 0, .int 0, .int 0, .int 0, .int 0, .int 0]))]) (0) := by
  refine KI.of cX8_state 2 (some .int) (by decide) rfl (Nat.le_of_ble_eq_true rfl) ?_
  intro p e s m below meth c A ls hx hb hr hml hown hts hlocks hin hP hN hD hA hS hl
  have hown : s.vm.findClass RX8 = some m.cls := hown
  have hl : lv_has ls 2 [(0, .ref a0), (1, .int 2)] := hl
  refine lv_aload_n hx hb dX8_state_0 rfl (lv_at hl 0 rfl) ?_
  refine lv_iload_n hx hb dX8_state_1 rfl (lv_at hl 1 rfl) ?_
  refine lv_bipush (v := 12) hx hb dX8_state_2 (by decide) ?_
  refine cv_v (As := [.int 2, .int 12]) (rest := []) (b := a0) (wr := [(a1, .inr (7, [.ref a5, .ref a6, .ref a7, .ref a8, .ref a9, .ref a10, .long 0, .int 0, .int 0, .int 0, .int 0, .int 0, .int 0, .int 0, .int 0, .int 0]))]) ⟨hx, hb, hml, hown, hts⟩ (fun sz => k58_X8_refuseWhatOutside l D cs sz a0 a2 a1 a3 a4) (cwV 2 hts gX8_state_X8_refuseWhatOutside rfl rfl rfl hdX8_refuseWhatOutside_v ⟨Nat.le_of_ble_eq_true rfl, Nat.le_of_ble_eq_true rfl⟩) hN hP hD hS hA [0] [1] rfl rfl rfl rfl (by decide) (ci := 8) (q0 := 0) rfl rfl rfl rfl hl.1 (Nat.le_of_ble_eq_true rfl) dX8_state_4 (Nat.le_of_ble_eq_true rfl) (Nat.le_of_ble_eq_true rfl) (fun u0 H locs hP hD hS => ?_)
  have hP : va_P D vwCl [(a1, .inr (7, [.ref a5, .ref a6, .ref a7, .ref a8, .ref a9, .ref a10, .long 0, .int 0, .int 0, .int 0, .int 0, .int 0, .int 0, .int 0, .int 0, .int 0])), (a0, .inr (8, [.ref a2, .ref a1, .ref a3, .ref a4, .int 0, .int 0, .int (-1)]))] H := hP
  have hD : va_D A [(a1, .inr (7, [.ref a5, .ref a6, .ref a7, .ref a8, .ref a9, .ref a10, .long 0, .int 0, .int 0, .int 0, .int 0, .int 0, .int 0, .int 0, .int 0, .int 0])), (a0, .inr (8, [.ref a2, .ref a1, .ref a3, .ref a4, .int 0, .int 0, .int (-1)]))] := hD
  refine W.widen (k := 0) (n := 0) (Nat.le_of_ble_eq_true rfl) (Nat.le_of_ble_eq_true rfl) ?_
  refine lv_aload_n hx hb dX8_state_7 rfl (lv_at hl 0 rfl) ?_
  refine va_get (D := D) (ci := 8) (v := .ref a1) (C := RX8) (T := TX8) (N := 7) hx hb hts iX8_state_8 hown hN.1 hP 1 rfl rfl 1 (by decide) (hts _ mX8_state_1) (fun _ h9 => h9) rfl dX8_state_8 ?_
  refine lv_iload_n hx hb dX8_state_11 rfl (lv_at hl 1 rfl) ?_
  refine cv_i (As := [.int 2]) (rest := []) (b := a1) (wr := [(a0, .inr (8, [.ref a2, .ref a1, .ref a3, .ref a4, .int 0, .int 0, .int (-1)]))]) ⟨hx, hb, hml, hown, hts⟩ (fun sz => k59_X7_count l D cs sz a1 a5 a6 a7 a8 a9 a10) (cwV 1 hts gX8_state_X7_count rfl rfl rfl hdX7_count_v ⟨Nat.le_of_ble_eq_true rfl, Nat.le_of_ble_eq_true rfl⟩) hN hP hD hS hA [0] [1] rfl rfl rfl rfl (by decide) (ci := 7) (q0 := 0) rfl rfl rfl rfl hl.1 (Nat.le_of_ble_eq_true rfl) dX8_state_12 (Nat.le_of_ble_eq_true rfl) (Nat.le_of_ble_eq_true rfl) (fun u1 H locs hP hD hS => ?_)
  have hP : va_P D vwCl [(a0, .inr (8, [.ref a2, .ref a1, .ref a3, .ref a4, .int 0, .int 0, .int (-1)])), (a1, .inr (7, [.ref a5, .ref a6, .ref a7, .ref a8, .ref a9, .ref a10, .long 0, .int 0, .int 0, .int 0, .int 0, .int 0, .int 0, .int 0, .int 0, .int 0]))] H := hP
  have hD : va_D A [(a0, .inr (8, [.ref a2, .ref a1, .ref a3, .ref a4, .int 0, .int 0, .int (-1)])), (a1, .inr (7, [.ref a5, .ref a6, .ref a7, .ref a8, .ref a9, .ref a10, .long 0, .int 0, .int 0, .int 0, .int 0, .int 0, .int 0, .int 0, .int 0, .int 0]))] := hD
  refine W.widen (k := 0) (n := 0) (Nat.le_of_ble_eq_true rfl) (Nat.le_of_ble_eq_true rfl) ?_
  exact en_i (fun k => ([] : List Nat).getD k 0) hx hb hr hlocks rfl rfl hP hD hS (Nat.le_of_ble_eq_true rfl) (Nat.le_of_ble_eq_true rfl) dX8_state_15
set_option maxHeartbeats 4000000 in
set_option maxRecDepth 100000 in
theorem k61_L_state (l : Launch) (D : va_G) (cs : Nat → ClassId) (sz : Nat) (hlt : l.stackTraces = false) (a0 a1 a2 a3 a4 a5 a6 a7 a8 a9 a10 a11 : Nat) : KH l yL_state wsL_state 2 43 0 0 D cs sz [.ref a0, .int 2, .ref a2] [(a0, .inr (8, [.ref a3, .ref a1, .ref a4, .ref a5, .int 0, .int 0, .int (-1)])), (a1, .inr (7, [.ref a6, .ref a7, .ref a8, .ref a9, .ref a10, .ref a11, .long 0, .int 0, .int 0, .int 0, .int 0, .int 0, .int 0, .int 0, .int 0, .int 0])), (a2, .inl (cs 3, 1, .inr (.inl (fun _ => 0))))] (fun u => [(a2, .inl (cs 3, 1, .inr (.inl (fun _ => 0)))), (a0, .inr (8, [.ref a3, .ref a1, .ref a4, .ref a5, .int 0, .int 0, .int (-1)])), (a1, .inr (7, [.ref a6, .ref a7, .ref a8, .ref a9, .ref a10, .ref a11, .long 0, .int 0, .int 0, .int 0, .int 0, .int 0, .int 0, .int 0, .int 0, .int 0]))]) (0) := by
  refine KH.of cL_state 4 (some .int) (by decide) rfl (Nat.le_of_ble_eq_true rfl) ?_
  intro p e s m below meth c A ls hx hb hr hml hown hts hlocks htab hP hN hD hA hS hl hZ
  have hown : s.vm.findClass RL = some m.cls := hown
  have hl : lv_has ls 4 [(0, .ref a0), (1, .int 2), (2, .ref a2)] := hl
  refine lv_aload_n hx hb dL_state_0 rfl (lv_at hl 2 rfl) ?_
  refine lv_iconst (v := 0) hx hb dL_state_1 (by decide) ?_
  refine lv_aload_n hx hb dL_state_2 rfl (lv_at hl 0 rfl) ?_
  refine lv_iload_n hx hb dL_state_3 rfl (lv_at hl 1 rfl) ?_
  refine cv_i (As := [.int 2]) (rest := [.int 0, .ref a2]) (b := a0) (wr := [(a2, .inl (cs 3, 1, .inr (.inl (fun _ => 0))))]) ⟨hx, hb, hml, hown, hts⟩ (fun sz => k60_X8_state l D cs sz a0 a1 a3 a4 a5 a6 a7 a8 a9 a10 a11) (cwV 1 hts gL_state_X8_state rfl rfl rfl hdX8_state_v ⟨Nat.le_of_ble_eq_true rfl, Nat.le_of_ble_eq_true rfl⟩) hN hP hD hS hA [0, 1] [2] rfl rfl rfl rfl (by decide) (ci := 8) (q0 := 0) rfl rfl rfl rfl hl.1 (Nat.le_of_ble_eq_true rfl) dL_state_4 (Nat.le_of_ble_eq_true rfl) (Nat.le_of_ble_eq_true rfl) (fun u0 H locs hP hD hS => ?_)
  have hP : va_P D vwCl [(a2, .inl (cs 3, 1, .inr (.inl (fun _ => 0)))), (a0, .inr (8, [.ref a3, .ref a1, .ref a4, .ref a5, .int 0, .int 0, .int (-1)])), (a1, .inr (7, [.ref a6, .ref a7, .ref a8, .ref a9, .ref a10, .ref a11, .long 0, .int 0, .int 0, .int 0, .int 0, .int 0, .int 0, .int 0, .int 0, .int 0]))] H := hP
  have hD : va_D A [(a2, .inl (cs 3, 1, .inr (.inl (fun _ => 0)))), (a0, .inr (8, [.ref a3, .ref a1, .ref a4, .ref a5, .int 0, .int 0, .int (-1)])), (a1, .inr (7, [.ref a6, .ref a7, .ref a8, .ref a9, .ref a10, .ref a11, .long 0, .int 0, .int 0, .int 0, .int 0, .int 0, .int 0, .int 0, .int 0, .int 0]))] := hD
  refine W.widen (k := 0) (n := 0) (Nat.le_of_ble_eq_true rfl) (Nat.le_of_ble_eq_true rfl) ?_
  refine lv_i2l (v := 0) hx hb dL_state_7 (by decide) ?_
  refine st_l (g := (fun _ => 0)) hx hb hN hP hD hS 0 rfl (vin (by decide +kernel)) (funext (fun j9 => by unfold vp_updL; split <;> rename_i h9 <;> first | rfl | (subst h9; rfl))) dL_state_8 (fun H locs hP hD hS => ?_)
  have hP : va_P D vwCl [(a2, .inl (cs 3, 1, .inr (.inl (fun _ => 0)))), (a0, .inr (8, [.ref a3, .ref a1, .ref a4, .ref a5, .int 0, .int 0, .int (-1)])), (a1, .inr (7, [.ref a6, .ref a7, .ref a8, .ref a9, .ref a10, .ref a11, .long 0, .int 0, .int 0, .int 0, .int 0, .int 0, .int 0, .int 0, .int 0, .int 0]))] H := hP
  have hD : va_D A [(a2, .inl (cs 3, 1, .inr (.inl (fun _ => 0)))), (a0, .inr (8, [.ref a3, .ref a1, .ref a4, .ref a5, .int 0, .int 0, .int (-1)])), (a1, .inr (7, [.ref a6, .ref a7, .ref a8, .ref a9, .ref a10, .ref a11, .long 0, .int 0, .int 0, .int 0, .int 0, .int 0, .int 0, .int 0, .int 0, .int 0]))] := hD
  refine lv_goto (tgt := 15) hx hb dL_state_9 (by decide) ?_
  refine lv_iconst (v := 0) hx hb dL_state_15 (by decide) ?_
  exact en_i (fun k => ([] : List Nat).getD k 0) hx hb hr hlocks rfl rfl hP hD hS (Nat.le_of_ble_eq_true rfl) (Nat.le_of_ble_eq_true rfl) dL_state_16
set_option maxHeartbeats 4000000 in
set_option maxRecDepth 100000 in
theorem k62_X9_in (l : Launch) (D : va_G) (cs : Nat → ClassId) (sz : Nat) : KI l yX9_in wsX9_in 0 0 0 0 D cs sz [.int 2, .int 0, .int 12] [] (fun u => []) (1) := by
  refine KI.of cX9_in 3 (some .boolean) (by decide) rfl (Nat.le_of_ble_eq_true rfl) ?_
  intro p e s m below meth c A ls hx hb hr hml hown hts hlocks hin hP hN hD hA hS hl
  have hown : s.vm.findClass RX9 = some m.cls := hown
  have hl : lv_has ls 3 [(0, .int 2), (1, .int 0), (2, .int 12)] := hl
  refine lv_iload_n hx hb dX9_in_0 rfl (lv_at hl 0 rfl) ?_
  refine lv_iload_n hx hb dX9_in_1 rfl (lv_at hl 1 rfl) ?_
  refine lv_icmp_lt (tgt := 14) hx hb dX9_in_2 (by decide) (fun c9 => absurd c9 (by decide)) (fun _ => ?_)
  refine lv_iload_n hx hb dX9_in_5 rfl (lv_at hl 0 rfl) ?_
  refine lv_iload_n hx hb dX9_in_6 rfl (lv_at hl 2 rfl) ?_
  refine lv_icmp_gt (tgt := 14) hx hb dX9_in_7 (by decide) (fun c9 => absurd c9 (by decide)) (fun _ => ?_)
  refine lv_iconst (v := 1) hx hb dX9_in_10 (by decide) ?_
  refine lv_goto (tgt := 15) hx hb dX9_in_11 (by decide) ?_
  exact en_i (fun k => ([] : List Nat).getD k 0) hx hb hr hlocks rfl rfl hP hD hS (Nat.le_of_ble_eq_true rfl) (Nat.le_of_ble_eq_true rfl) dX9_in_15
set_option maxHeartbeats 4000000 in
set_option maxRecDepth 100000 in
theorem k63_X9_told (l : Launch) (D : va_G) (cs : Nat → ClassId) (sz : Nat) (a0 a1 a2 a3 a4 a5 a6 : Nat) : KI l yX9_told wsX9_told 0 0 0 0 D cs sz [.ref a0, .int 2] [(a0, .inr (9, [.int 0, .ref a2, .int 0, .int 0, .int 0, .int 0, .int 0, .int (-1), .ref a1, .ref a3, .ref a4, .ref a5, .int 0, .int 0, .int 0, .int 0, .int 0, .ref a6])), (a1, .inl (cs 0, 45783, .inl (layF (fun _ => 0) 1)))] (fun u => [(a0, .inr (9, [.int 0, .ref a2, .int 0, .int 0, .int 0, .int 0, .int 0, .int (-1), .ref a1, .ref a3, .ref a4, .ref a5, .int 0, .int 0, .int 0, .int 0, .int 0, .ref a6])), (a1, .inl (cs 0, 45783, .inl (layF (fun _ => 0) 1)))]) (0) := by
  refine KI.of cX9_told 2 (some .int) (by decide) rfl (Nat.le_of_ble_eq_true rfl) ?_
  intro p e s m below meth c A ls hx hb hr hml hown hts hlocks hin hP hN hD hA hS hl
  have hown : s.vm.findClass RX9 = some m.cls := hown
  have hl : lv_has ls 2 [(0, .ref a0), (1, .int 2)] := hl
  refine lv_iload_n hx hb dX9_told_0 rfl (lv_at hl 1 rfl) ?_
  refine lv_tableOut (tgt := 59) hx hb dX9_told_1 (by decide) (by decide) ?_
  refine lv_aload_n hx hb dX9_told_59 rfl (lv_at hl 0 rfl) ?_
  refine va_get (D := D) (ci := 9) (v := .ref a1) (C := RX9) (T := TX9) (N := 18) hx hb hts iX9_told_9 hown hN.1 hP 0 rfl rfl 8 (by decide) (hts _ mX9_told_1) (fun _ h9 => h9) rfl dX9_told_60 ?_
  refine lv_iload_n hx hb dX9_told_63 rfl (lv_at hl 1 rfl) ?_
  refine ld_i (v := 0) hx hb hN hP 1 rfl (vin (by decide +kernel)) (by first | rfl | decide +kernel) dX9_told_64 ?_
  exact en_i (fun k => ([] : List Nat).getD k 0) hx hb hr hlocks rfl rfl hP hD hS (Nat.le_of_ble_eq_true rfl) (Nat.le_of_ble_eq_true rfl) dX9_told_65
set_option maxHeartbeats 4000000 in
set_option maxRecDepth 100000 in
theorem k64_X9_state (l : Launch) (D : va_G) (cs : Nat → ClassId) (sz : Nat) (a0 a1 a2 a3 a4 a5 a6 : Nat) : KI l yX9_state wsX9_state 1 22 0 0 D cs sz [.ref a0, .int 2] [(a0, .inr (9, [.int 0, .ref a2, .int 0, .int 0, .int 0, .int 0, .int 0, .int (-1), .ref a1, .ref a3, .ref a4, .ref a5, .int 0, .int 0, .int 0, .int 0, .int 0, .ref a6])), (a1, .inl (cs 0, 45783, .inl (layF (fun _ => 0) 1)))] (fun u => [(a0, .inr (9, [.int 0, .ref a2, .int 0, .int 0, .int 0, .int 0, .int 0, .int (-1), .ref a1, .ref a3, .ref a4, .ref a5, .int 0, .int 0, .int 0, .int 0, .int 0, .ref a6])), (a1, .inl (cs 0, 45783, .inl (layF (fun _ => 0) 1)))]) (0) := by
  refine KI.of cX9_state 2 (some .int) (by decide) rfl (Nat.le_of_ble_eq_true rfl) ?_
  intro p e s m below meth c A ls hx hb hr hml hown hts hlocks hin hP hN hD hA hS hl
  have hown : s.vm.findClass RX9 = some m.cls := hown
  have hl : lv_has ls 2 [(0, .ref a0), (1, .int 2)] := hl
  refine lv_aload_n hx hb dX9_state_0 rfl (lv_at hl 0 rfl) ?_
  refine lv_iconst (v := 0) hx hb dX9_state_1 (by decide) ?_
  refine va_put (D := D) (ci := 9) (v := .int 0) (ty := .int) (C := RX9) (T := TX9) (N := 18) hx hb hts iX9_state_9 tyX9 tyX9_ok nmX9 hown hN.1 hP hD hS 0 rfl rfl 0 (by decide) (hts _ mX9_state_1) (fun _ h9 => h9) rfl (by decide +kernel) rfl rfl (Nat.le_of_ble_eq_true rfl) dX9_state_2 (fun H locs hP hD hS => ?_)
  have hP : va_P D vwCl [(a0, .inr (9, [.int 0, .ref a2, .int 0, .int 0, .int 0, .int 0, .int 0, .int (-1), .ref a1, .ref a3, .ref a4, .ref a5, .int 0, .int 0, .int 0, .int 0, .int 0, .ref a6])), (a1, .inl (cs 0, 45783, .inl (layF (fun _ => 0) 1)))] H := hP
  have hD : va_D A [(a0, .inr (9, [.int 0, .ref a2, .int 0, .int 0, .int 0, .int 0, .int 0, .int (-1), .ref a1, .ref a3, .ref a4, .ref a5, .int 0, .int 0, .int 0, .int 0, .int 0, .ref a6])), (a1, .inl (cs 0, 45783, .inl (layF (fun _ => 0) 1)))] := hD
  refine lv_aload_n hx hb dX9_state_5 rfl (lv_at hl 0 rfl) ?_
  refine lv_iload_n hx hb dX9_state_6 rfl (lv_at hl 1 rfl) ?_
  refine lv_iconst (v := 0) hx hb dX9_state_7 (by decide) ?_
  refine lv_bipush (v := 12) hx hb dX9_state_8 (by decide) ?_
  refine cs_i (As := [.int 2, .int 0, .int 12]) (rest := [.ref a0]) (wr := [(a0, .inr (9, [.int 0, .ref a2, .int 0, .int 0, .int 0, .int 0, .int 0, .int (-1), .ref a1, .ref a3, .ref a4, .ref a5, .int 0, .int 0, .int 0, .int 0, .int 0, .ref a6])), (a1, .inl (cs 0, 45783, .inl (layF (fun _ => 0) 1)))]) ⟨hx, hb, hml, hown, hts⟩ (fun sz => k62_X9_in l D cs sz ) (va_cwS 3 hts gX9_state_X9_in rfl rfl rfl hdX9_in_o ⟨Nat.le_of_ble_eq_true rfl, Nat.le_of_ble_eq_true rfl⟩) hN hP hD hS hA [] [0, 1] rfl rfl rfl rfl (by decide) rfl rfl hl.1 (Nat.le_of_ble_eq_true rfl) dX9_state_10 (Nat.le_of_ble_eq_true rfl) (Nat.le_of_ble_eq_true rfl) (fun u0 H locs hP hD hS => ?_)
  have hP : va_P D vwCl [(a0, .inr (9, [.int 0, .ref a2, .int 0, .int 0, .int 0, .int 0, .int 0, .int (-1), .ref a1, .ref a3, .ref a4, .ref a5, .int 0, .int 0, .int 0, .int 0, .int 0, .ref a6])), (a1, .inl (cs 0, 45783, .inl (layF (fun _ => 0) 1)))] H := hP
  have hD : va_D A [(a0, .inr (9, [.int 0, .ref a2, .int 0, .int 0, .int 0, .int 0, .int 0, .int (-1), .ref a1, .ref a3, .ref a4, .ref a5, .int 0, .int 0, .int 0, .int 0, .int 0, .ref a6])), (a1, .inl (cs 0, 45783, .inl (layF (fun _ => 0) 1)))] := hD
  refine W.widen (k := 0) (n := 0) (Nat.le_of_ble_eq_true rfl) (Nat.le_of_ble_eq_true rfl) ?_
  refine lv_if_ne (tgt := 20) hx hb dX9_state_13 (by decide) (fun _ => ?_) (fun c9 => absurd c9 (by decide))
  refine lv_iconst (v := 0) hx hb dX9_state_20 (by decide) ?_
  refine lv_iconst (v := 1) hx hb dX9_state_21 (by decide) ?_
  refine cv_i (As := [.int 0, .int 1]) (rest := []) (b := a0) (wr := [(a1, .inl (cs 0, 45783, .inl (layF (fun _ => 0) 1)))]) ⟨hx, hb, hml, hown, hts⟩ (fun sz => k47_X9_fails l D cs sz a0 a2 a1 a3 a4 a5 a6) (cwV 2 hts gX9_state_X9_fails rfl rfl rfl hdX9_fails_v ⟨Nat.le_of_ble_eq_true rfl, Nat.le_of_ble_eq_true rfl⟩) hN hP hD hS hA [0] [1] rfl rfl rfl rfl (by decide) (ci := 9) (q0 := 0) rfl rfl rfl rfl hl.1 (Nat.le_of_ble_eq_true rfl) dX9_state_22 (Nat.le_of_ble_eq_true rfl) (Nat.le_of_ble_eq_true rfl) (fun u1 H locs hP hD hS => ?_)
  have hP : va_P D vwCl [(a1, .inl (cs 0, 45783, .inl (layF (fun _ => 0) 1))), (a0, .inr (9, [.int 0, .ref a2, .int 0, .int 0, .int 0, .int 0, .int 0, .int (-1), .ref a1, .ref a3, .ref a4, .ref a5, .int 0, .int 0, .int 0, .int 0, .int 0, .ref a6]))] H := hP
  have hD : va_D A [(a1, .inl (cs 0, 45783, .inl (layF (fun _ => 0) 1))), (a0, .inr (9, [.int 0, .ref a2, .int 0, .int 0, .int 0, .int 0, .int 0, .int (-1), .ref a1, .ref a3, .ref a4, .ref a5, .int 0, .int 0, .int 0, .int 0, .int 0, .ref a6]))] := hD
  refine W.widen (k := 0) (n := 0) (Nat.le_of_ble_eq_true rfl) (Nat.le_of_ble_eq_true rfl) ?_
  refine lv_if_eq (tgt := 32) hx hb dX9_state_25 (by decide) (fun _ => ?_) (fun c9 => absurd (by decide) c9)
  refine lv_aload_n hx hb dX9_state_32 rfl (lv_at hl 0 rfl) ?_
  refine lv_iload_n hx hb dX9_state_33 rfl (lv_at hl 1 rfl) ?_
  refine cv_i (As := [.int 2]) (rest := []) (b := a0) (wr := []) ⟨hx, hb, hml, hown, hts⟩ (fun sz => k63_X9_told l D cs sz a0 a1 a2 a3 a4 a5 a6) (cwV 1 hts gX9_state_X9_told rfl rfl rfl hdX9_told_v ⟨Nat.le_of_ble_eq_true rfl, Nat.le_of_ble_eq_true rfl⟩) hN hP hD hS hA [1, 0] [] rfl rfl rfl rfl (by decide) (ci := 9) (q0 := 0) rfl rfl rfl rfl hl.1 (Nat.le_of_ble_eq_true rfl) dX9_state_34 (Nat.le_of_ble_eq_true rfl) (Nat.le_of_ble_eq_true rfl) (fun u2 H locs hP hD hS => ?_)
  have hP : va_P D vwCl [(a0, .inr (9, [.int 0, .ref a2, .int 0, .int 0, .int 0, .int 0, .int 0, .int (-1), .ref a1, .ref a3, .ref a4, .ref a5, .int 0, .int 0, .int 0, .int 0, .int 0, .ref a6])), (a1, .inl (cs 0, 45783, .inl (layF (fun _ => 0) 1)))] H := hP
  have hD : va_D A [(a0, .inr (9, [.int 0, .ref a2, .int 0, .int 0, .int 0, .int 0, .int 0, .int (-1), .ref a1, .ref a3, .ref a4, .ref a5, .int 0, .int 0, .int 0, .int 0, .int 0, .ref a6])), (a1, .inl (cs 0, 45783, .inl (layF (fun _ => 0) 1)))] := hD
  refine W.widen (k := 0) (n := 0) (Nat.le_of_ble_eq_true rfl) (Nat.le_of_ble_eq_true rfl) ?_
  exact en_i (fun k => ([] : List Nat).getD k 0) hx hb hr hlocks rfl rfl hP hD hS (Nat.le_of_ble_eq_true rfl) (Nat.le_of_ble_eq_true rfl) dX9_state_37
set_option maxHeartbeats 4000000 in
set_option maxRecDepth 100000 in
theorem law_3_2 {p : Program} {l : Launch} {e : Env} {s : State} {m : MethodId} {args : Array Value} {below : List Frame} {meth : Method} {c : Code} {Q : State → Prop} {D : va_G} {cs : Nat → ClassId} {A : Nat → Prop} {xs : Nat → Int32} {b : Nat} (hx : p.tables.exec = Jvm.exec) (hb : c.code = cL_law) (hml : c.maxLocals = 9) (hown : s.vm.findClass RL = some m.cls) (hts : ∀ w ∈ wsL_law, w.before args s = true) (hN : NK D cs s) (hX : va_X b 6 xs s s.heap) (hbl : b < s.heap.size) (hbA : ¬ A b) (hA : ∀ q : Nat, s.heap.size ≤ q → A q) (hZ : ZX A s s.heap) (hZS : ZS cs A s s.heap) (hlt : l.stackTraces = false)
    (kend : ∀ (H : Heap) (locs : List Loc) (ls : Array Slot), va_S A s.heap H locs → lv_has ls 9 [(0, .ref b), (4, .int 0)] → W p l e room_1 s m args below meth c H locs 600002 7302232 Q (F0 m 1169 ls []))
    (a0 a1 a2 a3 a4 a5 a6 a7 a8 a9 a10 a11 a12 a13 a14 a15 a16 a17 a18 : Nat) (hy1 : xs 1 = (2))  (H : Heap) (locs : List Loc) (ls : Array Slot) (hP : va_P D vwCl [(a0, .inr (8, [.ref a5, .ref a1, .ref a6, .ref a7, .int 0, .int 0, .int (-1)])), (a1, .inr (7, [.ref a8, .ref a9, .ref a10, .ref a11, .ref a12, .ref a13, .long 0, .int 0, .int 0, .int 0, .int 0, .int 0, .int 0, .int 0, .int 0, .int 0])), (a2, .inr (9, [.int 0, .ref a14, .int 0, .int 0, .int 0, .int 0, .int 0, .int (-1), .ref a3, .ref a15, .ref a16, .ref a17, .int 0, .int 0, .int 0, .int 0, .int 0, .ref a18])), (a3, .inl (cs 0, 45783, .inl (layF (fun _ => 0) 1))), (a4, .inl (cs 3, 1, .inr (.inl (fun _ => 0))))] H) (hD : va_D A [(a0, .inr (8, [.ref a5, .ref a1, .ref a6, .ref a7, .int 0, .int 0, .int (-1)])), (a1, .inr (7, [.ref a8, .ref a9, .ref a10, .ref a11, .ref a12, .ref a13, .long 0, .int 0, .int 0, .int 0, .int 0, .int 0, .int 0, .int 0, .int 0, .int 0])), (a2, .inr (9, [.int 0, .ref a14, .int 0, .int 0, .int 0, .int 0, .int 0, .int (-1), .ref a3, .ref a15, .ref a16, .ref a17, .int 0, .int 0, .int 0, .int 0, .int 0, .ref a18])), (a3, .inl (cs 0, 45783, .inl (layF (fun _ => 0) 1))), (a4, .inl (cs 3, 1, .inr (.inl (fun _ => 0))))]) (hS : va_S A s.heap H locs) (hl : lv_has ls 9 [(4, .int 0), (3, .ref a4), (2, .ref a2), (1, .ref a0), (0, .ref b)]) : W p l e room_1 s m args below meth c H locs 391 467079 Q (F0 m 278 ls []) := by
  refine lv_aload_n hx hb dL_law_278 rfl (lv_at hl 3 rfl) ?_
  refine lv_aload_n hx hb dL_law_279 rfl (lv_at hl 4 rfl) ?_
  refine lv_iload hx hb dL_law_280 (lv_at hl 0 rfl) ?_
  refine lv_iconst (v := 1) hx hb dL_law_282 (by decide) ?_
  refine lv_iadd hx hb dL_law_283 ?_
  refine tp_i (1) (by decide) ?_
  refine va_sld hx hb hX hbl hbA hS (vin (by decide +kernel)) dL_law_284 ?_
  refine tp_i (2) hy1 ?_
  refine lv_aload_n hx hb dL_law_285 rfl (lv_at hl 1 rfl) ?_
  refine ch_i (As := [.ref a0, .int 2, .ref a4]) (rest := []) (wr := [(a2, .inr (9, [.int 0, .ref a14, .int 0, .int 0, .int 0, .int 0, .int 0, .int (-1), .ref a3, .ref a15, .ref a16, .ref a17, .int 0, .int 0, .int 0, .int 0, .int 0, .ref a18])), (a3, .inl (cs 0, 45783, .inl (layF (fun _ => 0) 1)))]) ⟨hx, hb, hml, hown, hts⟩ (fun sz => k61_L_state l D cs sz hlt a0 a1 a4 a5 a6 a7 a8 a9 a10 a11 a12 a13) (vx_cwSW 3 hts gL_law_L_state rfl rfl rfl hdL_state_o ⟨Nat.le_of_ble_eq_true rfl, Nat.le_of_ble_eq_true rfl⟩) hN hP hD hS hA hZ [0, 1, 4] [2, 3] rfl rfl rfl rfl (by decide) rfl rfl hl.1 (Nat.le_of_ble_eq_true rfl) dL_law_286 (Nat.le_of_ble_eq_true rfl) (Nat.le_of_ble_eq_true rfl) (fun u0 H locs hP hD hS => ?_)
  have hP : va_P D vwCl [(a2, .inr (9, [.int 0, .ref a14, .int 0, .int 0, .int 0, .int 0, .int 0, .int (-1), .ref a3, .ref a15, .ref a16, .ref a17, .int 0, .int 0, .int 0, .int 0, .int 0, .ref a18])), (a3, .inl (cs 0, 45783, .inl (layF (fun _ => 0) 1))), (a4, .inl (cs 3, 1, .inr (.inl (fun _ => 0)))), (a0, .inr (8, [.ref a5, .ref a1, .ref a6, .ref a7, .int 0, .int 0, .int (-1)])), (a1, .inr (7, [.ref a8, .ref a9, .ref a10, .ref a11, .ref a12, .ref a13, .long 0, .int 0, .int 0, .int 0, .int 0, .int 0, .int 0, .int 0, .int 0, .int 0]))] H := hP
  have hD : va_D A [(a2, .inr (9, [.int 0, .ref a14, .int 0, .int 0, .int 0, .int 0, .int 0, .int (-1), .ref a3, .ref a15, .ref a16, .ref a17, .int 0, .int 0, .int 0, .int 0, .int 0, .ref a18])), (a3, .inl (cs 0, 45783, .inl (layF (fun _ => 0) 1))), (a4, .inl (cs 3, 1, .inr (.inl (fun _ => 0)))), (a0, .inr (8, [.ref a5, .ref a1, .ref a6, .ref a7, .int 0, .int 0, .int (-1)])), (a1, .inr (7, [.ref a8, .ref a9, .ref a10, .ref a11, .ref a12, .ref a13, .long 0, .int 0, .int 0, .int 0, .int 0, .int 0, .int 0, .int 0, .int 0, .int 0]))] := hD
  refine W.widen (k := 391) (n := 467079) (Nat.le_of_ble_eq_true rfl) (Nat.le_of_ble_eq_true rfl) ?_
  refine lv_istore (lv' := [(5, .int 0), (4, .int 0), (3, .ref a4), (2, .ref a2), (1, .ref a0), (0, .ref b)]) hx hb dL_law_289 hl (by decide) rfl (fun ls hl => ?_)
  refine lv_aload_n hx hb dL_law_291 rfl (lv_at hl 3 rfl) ?_
  refine lv_aload_n hx hb dL_law_292 rfl (lv_at hl 5 rfl) ?_
  refine lv_iload hx hb dL_law_293 (lv_at hl 1 rfl) ?_
  refine lv_iconst (v := 1) hx hb dL_law_295 (by decide) ?_
  refine lv_iadd hx hb dL_law_296 ?_
  refine tp_i (1) (by decide) ?_
  refine va_sld hx hb hX hbl hbA hS (vin (by decide +kernel)) dL_law_297 ?_
  refine tp_i (2) hy1 ?_
  refine cv_i (As := [.int 2]) (rest := []) (b := a2) (wr := [(a4, .inl (cs 3, 1, .inr (.inl (fun _ => 0)))), (a0, .inr (8, [.ref a5, .ref a1, .ref a6, .ref a7, .int 0, .int 0, .int (-1)])), (a1, .inr (7, [.ref a8, .ref a9, .ref a10, .ref a11, .ref a12, .ref a13, .long 0, .int 0, .int 0, .int 0, .int 0, .int 0, .int 0, .int 0, .int 0, .int 0]))]) ⟨hx, hb, hml, hown, hts⟩ (fun sz => k64_X9_state l D cs sz a2 a3 a14 a15 a16 a17 a18) (cwV 1 hts gL_law_X9_state rfl rfl rfl hdX9_state_v ⟨Nat.le_of_ble_eq_true rfl, Nat.le_of_ble_eq_true rfl⟩) hN hP hD hS hA [0, 1] [2, 3, 4] rfl rfl rfl rfl (by decide) (ci := 9) (q0 := 0) rfl rfl rfl rfl hl.1 (Nat.le_of_ble_eq_true rfl) dL_law_298 (Nat.le_of_ble_eq_true rfl) (Nat.le_of_ble_eq_true rfl) (fun u1 H locs hP hD hS => ?_)
  have hP : va_P D vwCl [(a4, .inl (cs 3, 1, .inr (.inl (fun _ => 0)))), (a0, .inr (8, [.ref a5, .ref a1, .ref a6, .ref a7, .int 0, .int 0, .int (-1)])), (a1, .inr (7, [.ref a8, .ref a9, .ref a10, .ref a11, .ref a12, .ref a13, .long 0, .int 0, .int 0, .int 0, .int 0, .int 0, .int 0, .int 0, .int 0, .int 0])), (a2, .inr (9, [.int 0, .ref a14, .int 0, .int 0, .int 0, .int 0, .int 0, .int (-1), .ref a3, .ref a15, .ref a16, .ref a17, .int 0, .int 0, .int 0, .int 0, .int 0, .ref a18])), (a3, .inl (cs 0, 45783, .inl (layF (fun _ => 0) 1)))] H := hP
  have hD : va_D A [(a4, .inl (cs 3, 1, .inr (.inl (fun _ => 0)))), (a0, .inr (8, [.ref a5, .ref a1, .ref a6, .ref a7, .int 0, .int 0, .int (-1)])), (a1, .inr (7, [.ref a8, .ref a9, .ref a10, .ref a11, .ref a12, .ref a13, .long 0, .int 0, .int 0, .int 0, .int 0, .int 0, .int 0, .int 0, .int 0, .int 0])), (a2, .inr (9, [.int 0, .ref a14, .int 0, .int 0, .int 0, .int 0, .int 0, .int (-1), .ref a3, .ref a15, .ref a16, .ref a17, .int 0, .int 0, .int 0, .int 0, .int 0, .ref a18])), (a3, .inl (cs 0, 45783, .inl (layF (fun _ => 0) 1)))] := hD
  refine W.widen (k := 391) (n := 467079) (Nat.le_of_ble_eq_true rfl) (Nat.le_of_ble_eq_true rfl) ?_
  refine lv_istore (lv' := [(6, .int 0), (5, .int 0), (4, .int 0), (3, .ref a4), (2, .ref a2), (1, .ref a0), (0, .ref b)]) hx hb dL_law_301 hl (by decide) rfl (fun ls hl => ?_)
  refine lv_aload_n hx hb dL_law_303 rfl (lv_at hl 4 rfl) ?_
  refine cv_i (As := []) (rest := []) (b := a2) (wr := [(a4, .inl (cs 3, 1, .inr (.inl (fun _ => 0)))), (a0, .inr (8, [.ref a5, .ref a1, .ref a6, .ref a7, .int 0, .int 0, .int (-1)])), (a1, .inr (7, [.ref a8, .ref a9, .ref a10, .ref a11, .ref a12, .ref a13, .long 0, .int 0, .int 0, .int 0, .int 0, .int 0, .int 0, .int 0, .int 0, .int 0])), (a3, .inl (cs 0, 45783, .inl (layF (fun _ => 0) 1)))]) ⟨hx, hb, hml, hown, hts⟩ (fun sz => k50_X9_thrown l D cs sz a2 a14 a3 a15 a16 a17 a18) (cwV 0 hts gL_law_X9_thrown rfl rfl rfl hdX9_thrown_v ⟨Nat.le_of_ble_eq_true rfl, Nat.le_of_ble_eq_true rfl⟩) hN hP hD hS hA [3] [0, 1, 2, 4] rfl rfl rfl rfl (by decide) (ci := 9) (q0 := 0) rfl rfl rfl rfl hl.1 (Nat.le_of_ble_eq_true rfl) dL_law_304 (Nat.le_of_ble_eq_true rfl) (Nat.le_of_ble_eq_true rfl) (fun u2 H locs hP hD hS => ?_)
  have hP : va_P D vwCl [(a4, .inl (cs 3, 1, .inr (.inl (fun _ => 0)))), (a0, .inr (8, [.ref a5, .ref a1, .ref a6, .ref a7, .int 0, .int 0, .int (-1)])), (a1, .inr (7, [.ref a8, .ref a9, .ref a10, .ref a11, .ref a12, .ref a13, .long 0, .int 0, .int 0, .int 0, .int 0, .int 0, .int 0, .int 0, .int 0, .int 0])), (a3, .inl (cs 0, 45783, .inl (layF (fun _ => 0) 1))), (a2, .inr (9, [.int 0, .ref a14, .int 0, .int 0, .int 0, .int 0, .int 0, .int (-1), .ref a3, .ref a15, .ref a16, .ref a17, .int 0, .int 0, .int 0, .int 0, .int 0, .ref a18]))] H := hP
  have hD : va_D A [(a4, .inl (cs 3, 1, .inr (.inl (fun _ => 0)))), (a0, .inr (8, [.ref a5, .ref a1, .ref a6, .ref a7, .int 0, .int 0, .int (-1)])), (a1, .inr (7, [.ref a8, .ref a9, .ref a10, .ref a11, .ref a12, .ref a13, .long 0, .int 0, .int 0, .int 0, .int 0, .int 0, .int 0, .int 0, .int 0, .int 0])), (a3, .inl (cs 0, 45783, .inl (layF (fun _ => 0) 1))), (a2, .inr (9, [.int 0, .ref a14, .int 0, .int 0, .int 0, .int 0, .int 0, .int (-1), .ref a3, .ref a15, .ref a16, .ref a17, .int 0, .int 0, .int 0, .int 0, .int 0, .ref a18]))] := hD
  refine W.widen (k := 391) (n := 467079) (Nat.le_of_ble_eq_true rfl) (Nat.le_of_ble_eq_true rfl) ?_
  refine lv_iload hx hb dL_law_307 (lv_at hl 1 rfl) ?_
  refine lv_icmp_eq (tgt := 314) hx hb dL_law_309 (by decide) (fun _ => ?_) (fun c9 => absurd (by decide) c9)
  refine lv_iload hx hb dL_law_314 (lv_at hl 1 rfl) ?_
  refine lv_if_ne (tgt := 331) hx hb dL_law_316 (by decide) (fun c9 => absurd (by decide) c9) (fun _ => ?_)
  refine lv_aload_n hx hb dL_law_319 rfl (lv_at hl 3 rfl) ?_
  refine lv_iconst (v := 0) hx hb dL_law_320 (by decide) ?_
  refine ld_l (v := 0) hx hb hN hP 0 rfl (vin (by decide +kernel)) (by first | rfl | decide +kernel) dL_law_321 ?_
  refine lv_iload hx hb dL_law_322 (lv_at hl 0 rfl) ?_
  refine lv_i2l (v := 0) hx hb dL_law_324 (by decide) ?_
  refine W.lcmp hx hb dL_law_325 ?_
  refine tp_i (0) (by decide) ?_
  refine lv_if_eq (tgt := 331) hx hb dL_law_326 (by decide) (fun _ => ?_) (fun c9 => absurd (by decide) c9)
  refine lv_goto (tgt := 1169) hx hb dL_law_331 (by decide) ?_
  refine W.widen (k := 600002) (n := 7302232) (Nat.le_of_ble_eq_true rfl) (Nat.le_of_ble_eq_true rfl) ?_
  exact kend _ _ _ hS (lv_sub hl [6, 2] rfl)

set_option maxHeartbeats 4000000 in
set_option maxRecDepth 100000 in
theorem k65_X8_refuseWhatOutside (l : Launch) (D : va_G) (cs : Nat → ClassId) (sz : Nat) (a0 a1 a2 a3 a4 : Nat) : KV l yX8_refuseWhatOutside wsX8_refuseWhatOutside 0 0 0 0 D cs sz [.ref a0, .int 3, .int 12] [(a0, .inr (8, [.ref a1, .ref a2, .ref a3, .ref a4, .int 0, .int 0, .int (-1)]))] (fun u => [(a0, .inr (8, [.ref a1, .ref a2, .ref a3, .ref a4, .int 0, .int 0, .int (-1)]))]) := by
  refine KV.of cX8_refuseWhatOutside 3 none (by decide) rfl (Nat.le_of_ble_eq_true rfl) ?_
  intro p e s m below meth c A ls hx hb hr hml hown hts hlocks hin hP hN hD hA hS hl
  have hown : s.vm.findClass RX8 = some m.cls := hown
  have hl : lv_has ls 3 [(0, .ref a0), (1, .int 3), (2, .int 12)] := hl
  refine lv_iload_n hx hb dX8_refuseWhatOutside_0 rfl (lv_at hl 1 rfl) ?_
  refine lv_if_lt (tgt := 9) hx hb dX8_refuseWhatOutside_1 (by decide) (fun c9 => absurd c9 (by decide)) (fun _ => ?_)
  refine lv_iload_n hx hb dX8_refuseWhatOutside_4 rfl (lv_at hl 1 rfl) ?_
  refine lv_iload_n hx hb dX8_refuseWhatOutside_5 rfl (lv_at hl 2 rfl) ?_
  refine lv_icmp_le (tgt := 19) hx hb dX8_refuseWhatOutside_6 (by decide) (fun _ => ?_) (fun c9 => absurd (by decide) c9)
  exact en_v (fun k => ([] : List Nat).getD k 0) hx hb hr hlocks hP hD hS (Nat.le_of_ble_eq_true rfl) (Nat.le_of_ble_eq_true rfl) dX8_refuseWhatOutside_19
theorem mX7_count_4 : (.fieldLink RX7 20 "OneBeat$World" "mail" "LOneBeat$Mail;" : Cond) ∈ wsX7_count := List.mem_of_getElem? (i := 4) (by decide +kernel)
theorem iX7_count_2 : ∀ w ∈ wsX20, w ∈ wsX7_count := fun w h => List.mem_of_mem_drop (List.mem_of_mem_take ((show wsX20 = (wsX7_count.drop 109).take 3 by decide +kernel) ▸ h))
set_option maxHeartbeats 4000000 in
set_option maxRecDepth 100000 in
theorem k66_X7_count (l : Launch) (D : va_G) (cs : Nat → ClassId) (sz : Nat) (a0 a1 a2 a3 a4 a5 a6 a7 a8 : Nat) : KI l yX7_count wsX7_count 0 0 0 0 D cs sz [.ref a0, .int 3] [(a0, .inr (7, [.ref a2, .ref a3, .ref a1, .ref a4, .ref a5, .ref a6, .long 0, .int 0, .int 0, .int 0, .int 0, .int 0, .int 0, .int 0, .int 0, .int 0])), (a1, .inr (2, [.ref a7, .ref a8, .int 0]))] (fun u => [(a0, .inr (7, [.ref a2, .ref a3, .ref a1, .ref a4, .ref a5, .ref a6, .long 0, .int 0, .int 0, .int 0, .int 0, .int 0, .int 0, .int 0, .int 0, .int 0])), (a1, .inr (2, [.ref a7, .ref a8, .int 0]))]) (0) := by
  refine KI.of cX7_count 2 (some .int) (by decide) rfl (Nat.le_of_ble_eq_true rfl) ?_
  intro p e s m below meth c A ls hx hb hr hml hown hts hlocks hin hP hN hD hA hS hl
  have hown : s.vm.findClass RX7 = some m.cls := hown
  have hl : lv_has ls 2 [(0, .ref a0), (1, .int 3)] := hl
  refine lv_iload_n hx hb dX7_count_0 rfl (lv_at hl 1 rfl) ?_
  refine lv_tableIn (tgt := 82) (off := 81) hx hb dX7_count_1 (by decide) (by decide) (by decide) (by decide) ?_
  refine lv_aload_n hx hb dX7_count_82 rfl (lv_at hl 0 rfl) ?_
  refine va_get (D := D) (ci := 7) (v := .ref a1) (C := RX7) (T := TX7) (N := 16) hx hb hts iX7_count_7 hown hN.1 hP 0 rfl rfl 2 (by decide) (hts _ mX7_count_4) (fun _ h9 => h9) rfl dX7_count_83 ?_
  refine va_getN (D := D) (ci := 2) (v := .int 0) (C := RX2) (T := TX2) (N := 3) hx hb hts iX7_count_2 hown hN.1 hP 1 rfl rfl 2 (by decide) (hN.f 4 rfl) (fun _ h9 => h9) rfl dX7_count_86 ?_
  exact en_i (fun k => ([] : List Nat).getD k 0) hx hb hr hlocks rfl rfl hP hD hS (Nat.le_of_ble_eq_true rfl) (Nat.le_of_ble_eq_true rfl) dX7_count_89
