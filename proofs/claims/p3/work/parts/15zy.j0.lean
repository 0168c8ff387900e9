theorem mX5_store_1 : (.fieldLink RX5 19 "OneBeat$Reader" "stored" "I" : Cond) ∈ wsX5_store := List.mem_of_getElem? (i := 1) (by decide +kernel)
theorem iX5_store_5 : ∀ w ∈ wsX50, w ∈ wsX5_store := fun w h => List.mem_of_mem_drop (List.mem_of_mem_take ((show wsX50 = (wsX5_store.drop 3).take 14 by decide +kernel) ▸ h))
theorem mX5_store_2 : (.fieldLink RX5 11 "OneBeat$Reader" "text" "[B" : Cond) ∈ wsX5_store := List.mem_of_getElem? (i := 2) (by decide +kernel)
set_option maxHeartbeats 4000000 in
set_option maxRecDepth 100000 in
theorem c_X5_store {l : Launch} {D : va_G} {cs : Nat → ClassId} {B0 T : Nat} {κ : KM} {H0 : Heap} (hT : WT B0 D cs T κ H0) {w : Nat} (hw : T2 κ w 6 10) {x : Int32} {tx : Nat} {f : Nat → Int32} (hs4 : (κ w).2.2.1 + 4 ≤ 600) (hbr : BRT D cs w H0 tx f) : KC l yX5_store wsX5_store 0 0 0 0 D cs B0 H0 [.ref w, .int x] (Qv (fun H => WT B0 D cs T (kp κ w ((κ w).2.2.1 + 4) (κ w).2.2.2) H ∧ Fr B0 [10] κ H0 H ∧ BRT D cs w H tx (st4 f (κ w).2.2.1 x))) := by
  refine KC.of cX5_store 3 none (by decide) rfl (Nat.le_of_ble_eq_true rfl) ?_
  intro p e s m below meth c ls hx hb hr hml hown hts hlocks hin hN hE hH0 hl
  have hown : s.vm.findClass RX5 = some m.cls := hown
  have hl : lv_has ls 3 [(0, .ref w), (1, .int x)] := hl
  have hL : OkL B0 [] := OkL.nil
  have hF : Fr B0 [10] κ H0 H0 := Fr.rf
  obtain ⟨hwb9, e9, hkw, tx9, len9, pos9, kd9, st9, va9, ta9, tk9, co, cc9, su9, ec9, es9, rfl, l1, l2, l3, l4, l5, htx, hco, hsu9, hp29⟩ := hT.o6 hw.1
  obtain rfl : tx = tx9 := (hbr.tx hkw).symm
  have hktx := hbr.2
  obtain ⟨cf, hkco⟩ := f17 hT hco
  refine lv_bipush (v := 24) hx hb dX5_store_0 (by decide) ?_
  refine lv_istore_n (lv' := [(2, .int 24), (0, .ref w), (1, .int x)]) hx hb dX5_store_2 rfl hl (by decide) rfl (fun ls hl => ?_)
  refine lv_iload_n hx hb dX5_store_3 rfl (lv_at hl 0 rfl) ?_
  refine lv_if_lt (tgt := 48) hx hb dX5_store_4 (by decide) (fun c9 => absurd c9 (by decide)) (fun _ => ?_)
  refine lv_aload_n hx hb dX5_store_7 rfl (lv_at hl 1 rfl) ?_
  obtain ⟨hb3117, e3117, hat3117, hk3117⟩ := hT.o6 hw.1
  obtain ⟨f3117_0, f3117_2, f3117_3, f3117_4, f3117_5, f3117_6, f3117_7, f3117_8, f3117_9, f3117_10, f3117_11, f3117_12, f3117_13, rfl, c3117_1, c3117_2, c3117_3, c3117_5, c3117_10, t3117_0, t3117_9, c3117_11, c3117_p2⟩ := hk3117
  obtain ⟨rfl, rfl, rfl, rfl, rfl, rfl, rfl, rfl, rfl, rfl, rfl, rfl, rfl⟩ := eq6 hat3117 hkw (by omega)
  have hP : va_P D vwCl [(w, .inr (5, [.ref tx, .int (nI ((κ w).2.2.1)), .int (nI len9), .int (nI pos9), .int kd9, .int (nI st9), .int va9, .int ta9, .int tk9, .ref co, .int (nI cc9), su9, .int ec9, .int es9]))] _ := va_P.cons hat3117 va_P.nil
  refine va_get (D := D) (ci := 5) (v := .int (nI ((κ w).2.2.1))) (C := RX5) (T := TX5) (N := 14) hx hb hts iX5_store_5 hown hN.1 hP 0 rfl rfl 1 (by decide) (hts _ mX5_store_1) (fun _ h9 => h9) rfl dX5_store_8 ?_
  refine lv_aload_n hx hb dX5_store_11 rfl (lv_at hl 1 rfl) ?_
  refine va_get (D := D) (ci := 5) (v := .ref tx) (C := RX5) (T := TX5) (N := 14) hx hb hts iX5_store_5 hown hN.1 hP 0 rfl rfl 0 (by decide) (hts _ mX5_store_2) (fun _ h9 => h9) rfl dX5_store_12 ?_
  obtain ⟨hb3118, e3118, hat3118, hk3118⟩ := hT.o16 t3117_0.1
  have hat3118 := hktx
  have hP : va_P D vwCl [(tx, .inl (cs 1, 600, .inl f)), (w, .inr (5, [.ref tx, .int (nI ((κ w).2.2.1)), .int (nI len9), .int (nI pos9), .int kd9, .int (nI st9), .int va9, .int ta9, .int tk9, .ref co, .int (nI cc9), su9, .int ec9, .int es9]))] _ := va_P.cons hat3118 hP
  refine va_alen (v := 600) hx hb hN.1 hP 0 1 rfl rfl rfl dX5_store_15 ?_
  refine lv_icmp_ge (tgt := 48) hx hb dX5_store_16 (by decide) (fun c3119 => ?_) (fun c3119 => ?_)
  · have c3119 : 600 ≤ ((κ w).2.2.1) := (nI_leI (a := 600) (b := ((κ w).2.2.1)) (by omega) (by omega)).mp c3119
    exact absurd c3119 (by omega)
  · have c3119 : ¬ 600 ≤ ((κ w).2.2.1) := fun h9 => c3119 ((nI_leI (a := 600) (b := ((κ w).2.2.1)) (by omega) (by omega)).mpr h9)
    refine lv_aload_n hx hb dX5_store_19 rfl (lv_at hl 1 rfl) ?_
    refine va_get (D := D) (ci := 5) (v := .ref tx) (C := RX5) (T := TX5) (N := 14) hx hb hts iX5_store_5 hown hN.1 hP 1 rfl rfl 0 (by decide) (hts _ mX5_store_2) (fun _ h9 => h9) rfl dX5_store_20 ?_
    refine lv_aload_n hx hb dX5_store_23 rfl (lv_at hl 1 rfl) ?_
    refine va_get (D := D) (ci := 5) (v := .int (nI ((κ w).2.2.1))) (C := RX5) (T := TX5) (N := 14) hx hb hts iX5_store_5 hown hN.1 hP 1 rfl rfl 1 (by decide) (hts _ mX5_store_1) (fun _ h9 => h9) rfl dX5_store_24 ?_
    refine lv_iload_n hx hb dX5_store_27 rfl (lv_at hl 2 rfl) ?_
    refine lv_iload_n hx hb dX5_store_28 rfl (lv_at hl 0 rfl) ?_
    refine lv_ishr hx hb dX5_store_29 ?_
    refine tp_i (shb x 24) (shb_24 x) ?_
    refine lv_i2b (v := (vp_nar .byte (shb x 24))) hx hb dX5_store_30 rfl ?_
    have hB : Bx B0 D _ [(tx, .inl (cs 1, 600, .inl f)), (w, .inr (5, [.ref tx, .int (nI ((κ w).2.2.1)), .int (nI len9), .int (nI pos9), .int kd9, .int (nI st9), .int va9, .int ta9, .int tk9, .ref co, .int (nI cc9), su9, .int ec9, .int es9]))] [] _ _ := Bx.of (fun a => (κ a).1) hL hP (fa_c hb3118 (fa_c hb3117 fa_n)) (by simp only [List.map_cons, List.map_nil, t3117_0.1, hw.1]; decide)
    refine b_b hx hb hN hB 0 rfl (vp_in_nI (n := ((κ w).2.2.1)) (N := 600) (by omega) (by omega)) (.inl rfl) dX5_store_31 (fun H locs hB => ?_)
    rw [(show ((nI ((κ w).2.2.1)) : Int32).toNatClampNeg = ((κ w).2.2.1) from nI_clamp (n := ((κ w).2.2.1)) (by omega))] at hB
    have hB : Bx B0 D _ [(tx, .inl (cs 1, 600, .inl (upd f ((κ w).2.2.1) (vp_nar .byte (vp_nar .byte (shb x 24)))))), (w, .inr (5, [.ref tx, .int (nI ((κ w).2.2.1)), .int (nI len9), .int (nI pos9), .int kd9, .int (nI st9), .int va9, .int ta9, .int tk9, .ref co, .int (nI cc9), su9, .int ec9, .int es9]))] [tx] _ _ := hB
    refine lv_aload_n hx hb dX5_store_32 rfl (lv_at hl 1 rfl) ?_
    refine lv_dup hx hb dX5_store_33 rfl ?_
    refine va_get (D := D) (ci := 5) (v := .int (nI ((κ w).2.2.1))) (C := RX5) (T := TX5) (N := 14) hx hb hts iX5_store_5 hown hN.1 hB.1 1 rfl rfl 1 (by decide) (hts _ mX5_store_1) (fun _ h9 => h9) rfl dX5_store_34 ?_
    refine lv_iconst (v := 1) hx hb dX5_store_37 (by decide) ?_
    refine lv_iadd hx hb dX5_store_38 ?_
    refine tp_i (nI (((κ w).2.2.1) + 1)) (nI_add ((κ w).2.2.1) 1) ?_
    refine b_put (D := D) (ci := 5) (v := .int (nI (((κ w).2.2.1) + 1))) (ty := .int) (C := RX5) (T := TX5) (N := 14) hx hb hts iX5_store_5 tyX5 tyX5_ok nmX5 hown hN hB 1 rfl rfl 1 (by decide) (hts _ mX5_store_1) (fun _ h9 => h9) rfl (by decide +kernel) rfl rfl (Nat.le_of_ble_eq_true rfl) (.inl rfl) dX5_store_39 (fun H locs hB => ?_)
    have hB : Bx B0 D _ [(tx, .inl (cs 1, 600, .inl (upd f ((κ w).2.2.1) (vp_nar .byte (vp_nar .byte (shb x 24)))))), (w, .inr (5, [.ref tx, .int (nI (((κ w).2.2.1) + 1)), .int (nI len9), .int (nI pos9), .int kd9, .int (nI st9), .int va9, .int ta9, .int tk9, .ref co, .int (nI cc9), su9, .int ec9, .int es9]))] [w, tx] _ _ := hB
    refine lv_iinc (v := 16) (lv' := [(2, .int 16), (0, .ref w), (1, .int x)]) hx hb dX5_store_42 hl (k := 0) rfl (by decide) (by decide) rfl (fun ls hl => ?_)
    refine lv_goto (tgt := 3) hx hb dX5_store_45 (by decide) ?_
    refine lv_iload_n hx hb dX5_store_3 rfl (lv_at hl 0 rfl) ?_
    refine lv_if_lt (tgt := 48) hx hb dX5_store_4 (by decide) (fun c9 => absurd c9 (by decide)) (fun _ => ?_)
    refine lv_aload_n hx hb dX5_store_7 rfl (lv_at hl 1 rfl) ?_
    refine va_get (D := D) (ci := 5) (v := .int (nI (((κ w).2.2.1) + 1))) (C := RX5) (T := TX5) (N := 14) hx hb hts iX5_store_5 hown hN.1 hB.1 1 rfl rfl 1 (by decide) (hts _ mX5_store_1) (fun _ h9 => h9) rfl dX5_store_8 ?_
    refine lv_aload_n hx hb dX5_store_11 rfl (lv_at hl 1 rfl) ?_
    refine va_get (D := D) (ci := 5) (v := .ref tx) (C := RX5) (T := TX5) (N := 14) hx hb hts iX5_store_5 hown hN.1 hB.1 1 rfl rfl 0 (by decide) (hts _ mX5_store_2) (fun _ h9 => h9) rfl dX5_store_12 ?_
    refine va_alen (v := 600) hx hb hN.1 hB.1 0 1 rfl rfl rfl dX5_store_15 ?_
    refine lv_icmp_ge (tgt := 48) hx hb dX5_store_16 (by decide) (fun c3121 => ?_) (fun c3121 => ?_)
    · have c3121 : 600 ≤ (((κ w).2.2.1) + 1) := (nI_leI (a := 600) (b := (((κ w).2.2.1) + 1)) (by omega) (by omega)).mp c3121
      exact absurd c3121 (by omega)
    · have c3121 : ¬ 600 ≤ (((κ w).2.2.1) + 1) := fun h9 => c3121 ((nI_leI (a := 600) (b := (((κ w).2.2.1) + 1)) (by omega) (by omega)).mpr h9)
      refine lv_aload_n hx hb dX5_store_19 rfl (lv_at hl 1 rfl) ?_
      refine va_get (D := D) (ci := 5) (v := .ref tx) (C := RX5) (T := TX5) (N := 14) hx hb hts iX5_store_5 hown hN.1 hB.1 1 rfl rfl 0 (by decide) (hts _ mX5_store_2) (fun _ h9 => h9) rfl dX5_store_20 ?_
      refine lv_aload_n hx hb dX5_store_23 rfl (lv_at hl 1 rfl) ?_
      refine va_get (D := D) (ci := 5) (v := .int (nI (((κ w).2.2.1) + 1))) (C := RX5) (T := TX5) (N := 14) hx hb hts iX5_store_5 hown hN.1 hB.1 1 rfl rfl 1 (by decide) (hts _ mX5_store_1) (fun _ h9 => h9) rfl dX5_store_24 ?_
      refine lv_iload_n hx hb dX5_store_27 rfl (lv_at hl 2 rfl) ?_
      refine lv_iload_n hx hb dX5_store_28 rfl (lv_at hl 0 rfl) ?_
      refine lv_ishr hx hb dX5_store_29 ?_
      refine tp_i (shb x 16) (shb_16 x) ?_
      refine lv_i2b (v := (vp_nar .byte (shb x 16))) hx hb dX5_store_30 rfl ?_
      refine b_b hx hb hN hB 0 rfl (vp_in_nI (n := (((κ w).2.2.1) + 1)) (N := 600) (by omega) (by omega)) (.inr ⟨rfl, List.mem_of_getElem? (i := 1) rfl⟩) dX5_store_31 (fun H locs hB => ?_)
      rw [(show ((nI (((κ w).2.2.1) + 1)) : Int32).toNatClampNeg = (((κ w).2.2.1) + 1) from nI_clamp (n := (((κ w).2.2.1) + 1)) (by omega))] at hB
      have hB : Bx B0 D _ [(tx, .inl (cs 1, 600, .inl (upd (upd f ((κ w).2.2.1) (vp_nar .byte (vp_nar .byte (shb x 24)))) (((κ w).2.2.1) + 1) (vp_nar .byte (vp_nar .byte (shb x 16)))))), (w, .inr (5, [.ref tx, .int (nI (((κ w).2.2.1) + 1)), .int (nI len9), .int (nI pos9), .int kd9, .int (nI st9), .int va9, .int ta9, .int tk9, .ref co, .int (nI cc9), su9, .int ec9, .int es9]))] [w, tx] _ _ := hB
      refine lv_aload_n hx hb dX5_store_32 rfl (lv_at hl 1 rfl) ?_
      refine lv_dup hx hb dX5_store_33 rfl ?_
      refine va_get (D := D) (ci := 5) (v := .int (nI (((κ w).2.2.1) + 1))) (C := RX5) (T := TX5) (N := 14) hx hb hts iX5_store_5 hown hN.1 hB.1 1 rfl rfl 1 (by decide) (hts _ mX5_store_1) (fun _ h9 => h9) rfl dX5_store_34 ?_
      refine lv_iconst (v := 1) hx hb dX5_store_37 (by decide) ?_
      refine lv_iadd hx hb dX5_store_38 ?_
      refine tp_i (nI ((((κ w).2.2.1) + 1) + 1)) (nI_add (((κ w).2.2.1) + 1) 1) ?_
      refine b_put (D := D) (ci := 5) (v := .int (nI ((((κ w).2.2.1) + 1) + 1))) (ty := .int) (C := RX5) (T := TX5) (N := 14) hx hb hts iX5_store_5 tyX5 tyX5_ok nmX5 hown hN hB 1 rfl rfl 1 (by decide) (hts _ mX5_store_1) (fun _ h9 => h9) rfl (by decide +kernel) rfl rfl (Nat.le_of_ble_eq_true rfl) (.inr ⟨rfl, List.mem_of_getElem? (i := 0) rfl⟩) dX5_store_39 (fun H locs hB => ?_)
      have hB : Bx B0 D _ [(tx, .inl (cs 1, 600, .inl (upd (upd f ((κ w).2.2.1) (vp_nar .byte (vp_nar .byte (shb x 24)))) (((κ w).2.2.1) + 1) (vp_nar .byte (vp_nar .byte (shb x 16)))))), (w, .inr (5, [.ref tx, .int (nI ((((κ w).2.2.1) + 1) + 1)), .int (nI len9), .int (nI pos9), .int kd9, .int (nI st9), .int va9, .int ta9, .int tk9, .ref co, .int (nI cc9), su9, .int ec9, .int es9]))] [w, tx] _ _ := hB
      refine lv_iinc (v := 8) (lv' := [(2, .int 8), (0, .ref w), (1, .int x)]) hx hb dX5_store_42 hl (k := 0) rfl (by decide) (by decide) rfl (fun ls hl => ?_)
      refine lv_goto (tgt := 3) hx hb dX5_store_45 (by decide) ?_
      refine lv_iload_n hx hb dX5_store_3 rfl (lv_at hl 0 rfl) ?_
      refine lv_if_lt (tgt := 48) hx hb dX5_store_4 (by decide) (fun c9 => absurd c9 (by decide)) (fun _ => ?_)
      refine lv_aload_n hx hb dX5_store_7 rfl (lv_at hl 1 rfl) ?_
      refine va_get (D := D) (ci := 5) (v := .int (nI ((((κ w).2.2.1) + 1) + 1))) (C := RX5) (T := TX5) (N := 14) hx hb hts iX5_store_5 hown hN.1 hB.1 1 rfl rfl 1 (by decide) (hts _ mX5_store_1) (fun _ h9 => h9) rfl dX5_store_8 ?_
      refine lv_aload_n hx hb dX5_store_11 rfl (lv_at hl 1 rfl) ?_
      refine va_get (D := D) (ci := 5) (v := .ref tx) (C := RX5) (T := TX5) (N := 14) hx hb hts iX5_store_5 hown hN.1 hB.1 1 rfl rfl 0 (by decide) (hts _ mX5_store_2) (fun _ h9 => h9) rfl dX5_store_12 ?_
      refine va_alen (v := 600) hx hb hN.1 hB.1 0 1 rfl rfl rfl dX5_store_15 ?_
      refine lv_icmp_ge (tgt := 48) hx hb dX5_store_16 (by decide) (fun c3123 => ?_) (fun c3123 => ?_)
      · have c3123 : 600 ≤ ((((κ w).2.2.1) + 1) + 1) := (nI_leI (a := 600) (b := ((((κ w).2.2.1) + 1) + 1)) (by omega) (by omega)).mp c3123
        exact absurd c3123 (by omega)
      · have c3123 : ¬ 600 ≤ ((((κ w).2.2.1) + 1) + 1) := fun h9 => c3123 ((nI_leI (a := 600) (b := ((((κ w).2.2.1) + 1) + 1)) (by omega) (by omega)).mpr h9)
        refine lv_aload_n hx hb dX5_store_19 rfl (lv_at hl 1 rfl) ?_
        refine va_get (D := D) (ci := 5) (v := .ref tx) (C := RX5) (T := TX5) (N := 14) hx hb hts iX5_store_5 hown hN.1 hB.1 1 rfl rfl 0 (by decide) (hts _ mX5_store_2) (fun _ h9 => h9) rfl dX5_store_20 ?_
        refine lv_aload_n hx hb dX5_store_23 rfl (lv_at hl 1 rfl) ?_
        refine va_get (D := D) (ci := 5) (v := .int (nI ((((κ w).2.2.1) + 1) + 1))) (C := RX5) (T := TX5) (N := 14) hx hb hts iX5_store_5 hown hN.1 hB.1 1 rfl rfl 1 (by decide) (hts _ mX5_store_1) (fun _ h9 => h9) rfl dX5_store_24 ?_
        refine lv_iload_n hx hb dX5_store_27 rfl (lv_at hl 2 rfl) ?_
        refine lv_iload_n hx hb dX5_store_28 rfl (lv_at hl 0 rfl) ?_
        refine lv_ishr hx hb dX5_store_29 ?_
        refine tp_i (shb x 8) (shb_8 x) ?_
        refine lv_i2b (v := (vp_nar .byte (shb x 8))) hx hb dX5_store_30 rfl ?_
        refine b_b hx hb hN hB 0 rfl (vp_in_nI (n := ((((κ w).2.2.1) + 1) + 1)) (N := 600) (by omega) (by omega)) (.inr ⟨rfl, List.mem_of_getElem? (i := 1) rfl⟩) dX5_store_31 (fun H locs hB => ?_)
        rw [(show ((nI ((((κ w).2.2.1) + 1) + 1)) : Int32).toNatClampNeg = ((((κ w).2.2.1) + 1) + 1) from nI_clamp (n := ((((κ w).2.2.1) + 1) + 1)) (by omega))] at hB
        have hB : Bx B0 D _ [(tx, .inl (cs 1, 600, .inl (upd (upd (upd f ((κ w).2.2.1) (vp_nar .byte (vp_nar .byte (shb x 24)))) (((κ w).2.2.1) + 1) (vp_nar .byte (vp_nar .byte (shb x 16)))) ((((κ w).2.2.1) + 1) + 1) (vp_nar .byte (vp_nar .byte (shb x 8)))))), (w, .inr (5, [.ref tx, .int (nI ((((κ w).2.2.1) + 1) + 1)), .int (nI len9), .int (nI pos9), .int kd9, .int (nI st9), .int va9, .int ta9, .int tk9, .ref co, .int (nI cc9), su9, .int ec9, .int es9]))] [w, tx] _ _ := hB
        refine lv_aload_n hx hb dX5_store_32 rfl (lv_at hl 1 rfl) ?_
        refine lv_dup hx hb dX5_store_33 rfl ?_
        refine va_get (D := D) (ci := 5) (v := .int (nI ((((κ w).2.2.1) + 1) + 1))) (C := RX5) (T := TX5) (N := 14) hx hb hts iX5_store_5 hown hN.1 hB.1 1 rfl rfl 1 (by decide) (hts _ mX5_store_1) (fun _ h9 => h9) rfl dX5_store_34 ?_
        refine lv_iconst (v := 1) hx hb dX5_store_37 (by decide) ?_
        refine lv_iadd hx hb dX5_store_38 ?_
        refine tp_i (nI (((((κ w).2.2.1) + 1) + 1) + 1)) (nI_add ((((κ w).2.2.1) + 1) + 1) 1) ?_
        refine b_put (D := D) (ci := 5) (v := .int (nI (((((κ w).2.2.1) + 1) + 1) + 1))) (ty := .int) (C := RX5) (T := TX5) (N := 14) hx hb hts iX5_store_5 tyX5 tyX5_ok nmX5 hown hN hB 1 rfl rfl 1 (by decide) (hts _ mX5_store_1) (fun _ h9 => h9) rfl (by decide +kernel) rfl rfl (Nat.le_of_ble_eq_true rfl) (.inr ⟨rfl, List.mem_of_getElem? (i := 0) rfl⟩) dX5_store_39 (fun H locs hB => ?_)
        have hB : Bx B0 D _ [(tx, .inl (cs 1, 600, .inl (upd (upd (upd f ((κ w).2.2.1) (vp_nar .byte (vp_nar .byte (shb x 24)))) (((κ w).2.2.1) + 1) (vp_nar .byte (vp_nar .byte (shb x 16)))) ((((κ w).2.2.1) + 1) + 1) (vp_nar .byte (vp_nar .byte (shb x 8)))))), (w, .inr (5, [.ref tx, .int (nI (((((κ w).2.2.1) + 1) + 1) + 1)), .int (nI len9), .int (nI pos9), .int kd9, .int (nI st9), .int va9, .int ta9, .int tk9, .ref co, .int (nI cc9), su9, .int ec9, .int es9]))] [w, tx] _ _ := hB
        refine lv_iinc (v := 0) (lv' := [(2, .int 0), (0, .ref w), (1, .int x)]) hx hb dX5_store_42 hl (k := 0) rfl (by decide) (by decide) rfl (fun ls hl => ?_)
        refine lv_goto (tgt := 3) hx hb dX5_store_45 (by decide) ?_
        refine lv_iload_n hx hb dX5_store_3 rfl (lv_at hl 0 rfl) ?_
        refine lv_if_lt (tgt := 48) hx hb dX5_store_4 (by decide) (fun c9 => absurd c9 (by decide)) (fun _ => ?_)
        refine lv_aload_n hx hb dX5_store_7 rfl (lv_at hl 1 rfl) ?_
        refine va_get (D := D) (ci := 5) (v := .int (nI (((((κ w).2.2.1) + 1) + 1) + 1))) (C := RX5) (T := TX5) (N := 14) hx hb hts iX5_store_5 hown hN.1 hB.1 1 rfl rfl 1 (by decide) (hts _ mX5_store_1) (fun _ h9 => h9) rfl dX5_store_8 ?_
        refine lv_aload_n hx hb dX5_store_11 rfl (lv_at hl 1 rfl) ?_
        refine va_get (D := D) (ci := 5) (v := .ref tx) (C := RX5) (T := TX5) (N := 14) hx hb hts iX5_store_5 hown hN.1 hB.1 1 rfl rfl 0 (by decide) (hts _ mX5_store_2) (fun _ h9 => h9) rfl dX5_store_12 ?_
        refine va_alen (v := 600) hx hb hN.1 hB.1 0 1 rfl rfl rfl dX5_store_15 ?_
        refine lv_icmp_ge (tgt := 48) hx hb dX5_store_16 (by decide) (fun c3125 => ?_) (fun c3125 => ?_)
        · have c3125 : 600 ≤ (((((κ w).2.2.1) + 1) + 1) + 1) := (nI_leI (a := 600) (b := (((((κ w).2.2.1) + 1) + 1) + 1)) (by omega) (by omega)).mp c3125
          exact absurd c3125 (by omega)
        · have c3125 : ¬ 600 ≤ (((((κ w).2.2.1) + 1) + 1) + 1) := fun h9 => c3125 ((nI_leI (a := 600) (b := (((((κ w).2.2.1) + 1) + 1) + 1)) (by omega) (by omega)).mpr h9)
          refine lv_aload_n hx hb dX5_store_19 rfl (lv_at hl 1 rfl) ?_
          refine va_get (D := D) (ci := 5) (v := .ref tx) (C := RX5) (T := TX5) (N := 14) hx hb hts iX5_store_5 hown hN.1 hB.1 1 rfl rfl 0 (by decide) (hts _ mX5_store_2) (fun _ h9 => h9) rfl dX5_store_20 ?_
          refine lv_aload_n hx hb dX5_store_23 rfl (lv_at hl 1 rfl) ?_
          refine va_get (D := D) (ci := 5) (v := .int (nI (((((κ w).2.2.1) + 1) + 1) + 1))) (C := RX5) (T := TX5) (N := 14) hx hb hts iX5_store_5 hown hN.1 hB.1 1 rfl rfl 1 (by decide) (hts _ mX5_store_1) (fun _ h9 => h9) rfl dX5_store_24 ?_
          refine lv_iload_n hx hb dX5_store_27 rfl (lv_at hl 2 rfl) ?_
          refine lv_iload_n hx hb dX5_store_28 rfl (lv_at hl 0 rfl) ?_
          refine lv_ishr hx hb dX5_store_29 ?_
          refine tp_i (shb x 0) (shb_0 x) ?_
          refine lv_i2b (v := (vp_nar .byte (shb x 0))) hx hb dX5_store_30 rfl ?_
          refine b_b hx hb hN hB 0 rfl (vp_in_nI (n := (((((κ w).2.2.1) + 1) + 1) + 1)) (N := 600) (by omega) (by omega)) (.inr ⟨rfl, List.mem_of_getElem? (i := 1) rfl⟩) dX5_store_31 (fun H locs hB => ?_)
          rw [(show ((nI (((((κ w).2.2.1) + 1) + 1) + 1)) : Int32).toNatClampNeg = (((((κ w).2.2.1) + 1) + 1) + 1) from nI_clamp (n := (((((κ w).2.2.1) + 1) + 1) + 1)) (by omega))] at hB
          have hB : Bx B0 D _ [(tx, .inl (cs 1, 600, .inl (upd (upd (upd (upd f ((κ w).2.2.1) (vp_nar .byte (vp_nar .byte (shb x 24)))) (((κ w).2.2.1) + 1) (vp_nar .byte (vp_nar .byte (shb x 16)))) ((((κ w).2.2.1) + 1) + 1) (vp_nar .byte (vp_nar .byte (shb x 8)))) (((((κ w).2.2.1) + 1) + 1) + 1) (vp_nar .byte (vp_nar .byte (shb x 0)))))), (w, .inr (5, [.ref tx, .int (nI (((((κ w).2.2.1) + 1) + 1) + 1)), .int (nI len9), .int (nI pos9), .int kd9, .int (nI st9), .int va9, .int ta9, .int tk9, .ref co, .int (nI cc9), su9, .int ec9, .int es9]))] [w, tx] _ _ := hB
          refine lv_aload_n hx hb dX5_store_32 rfl (lv_at hl 1 rfl) ?_
          refine lv_dup hx hb dX5_store_33 rfl ?_
          refine va_get (D := D) (ci := 5) (v := .int (nI (((((κ w).2.2.1) + 1) + 1) + 1))) (C := RX5) (T := TX5) (N := 14) hx hb hts iX5_store_5 hown hN.1 hB.1 1 rfl rfl 1 (by decide) (hts _ mX5_store_1) (fun _ h9 => h9) rfl dX5_store_34 ?_
          refine lv_iconst (v := 1) hx hb dX5_store_37 (by decide) ?_
          refine lv_iadd hx hb dX5_store_38 ?_
          refine tp_i (nI ((((((κ w).2.2.1) + 1) + 1) + 1) + 1)) (nI_add (((((κ w).2.2.1) + 1) + 1) + 1) 1) ?_
          refine b_put (D := D) (ci := 5) (v := .int (nI ((((((κ w).2.2.1) + 1) + 1) + 1) + 1))) (ty := .int) (C := RX5) (T := TX5) (N := 14) hx hb hts iX5_store_5 tyX5 tyX5_ok nmX5 hown hN hB 1 rfl rfl 1 (by decide) (hts _ mX5_store_1) (fun _ h9 => h9) rfl (by decide +kernel) rfl rfl (Nat.le_of_ble_eq_true rfl) (.inr ⟨rfl, List.mem_of_getElem? (i := 0) rfl⟩) dX5_store_39 (fun H locs hB => ?_)
          have hB : Bx B0 D _ [(tx, .inl (cs 1, 600, .inl (upd (upd (upd (upd f ((κ w).2.2.1) (vp_nar .byte (vp_nar .byte (shb x 24)))) (((κ w).2.2.1) + 1) (vp_nar .byte (vp_nar .byte (shb x 16)))) ((((κ w).2.2.1) + 1) + 1) (vp_nar .byte (vp_nar .byte (shb x 8)))) (((((κ w).2.2.1) + 1) + 1) + 1) (vp_nar .byte (vp_nar .byte (shb x 0)))))), (w, .inr (5, [.ref tx, .int (nI ((((((κ w).2.2.1) + 1) + 1) + 1) + 1)), .int (nI len9), .int (nI pos9), .int kd9, .int (nI st9), .int va9, .int ta9, .int tk9, .ref co, .int (nI cc9), su9, .int ec9, .int es9]))] [w, tx] _ _ := hB
          refine lv_iinc (v := (-8)) (lv' := [(2, .int (-8)), (0, .ref w), (1, .int x)]) hx hb dX5_store_42 hl (k := 0) rfl (by decide) (by decide) rfl (fun ls hl => ?_)
          refine lv_goto (tgt := 3) hx hb dX5_store_45 (by decide) ?_
          refine lv_iload_n hx hb dX5_store_3 rfl (lv_at hl 0 rfl) ?_
          refine lv_if_lt (tgt := 48) hx hb dX5_store_4 (by decide) (fun _ => ?_) (fun c9 => absurd (by decide) c9)
          have hF : Fr B0 [10] κ H0 _ := hF.close hB (fa_c (by simp [hw.2]) (fa_c (by simp [t3117_0.2]) fa_n))
          have hT : WT B0 D cs T (kp κ w ((κ w).2.2.1 + 4) (κ w).2.2.2) _ := hT.closeK w ((κ w).2.2.1 + 4) (κ w).2.2.2 hB (by rw [hw.1]; decide) (by rw [hw.1]; decide) (List.mem_of_getElem? (i := 0) rfl) ⟨⟨1, _, rfl, kp_ok (ok_6 (k := ((κ w).1, (κ w).2.1, _, _)) hw.1 ⟨_, _, _, _, _, _, _, _, _, _, _, _, _, rfl, (by show ((κ w).2.2.1 + 4) ≤ 600; omega), (by omega), (by omega), (by omega), (by omega), (t2kp t3117_0), (t2kp t3117_9), (kp_su c3117_11), c3117_p2⟩)⟩, ⟨⟨0, _, rfl, kp_oth (ne_c t3117_0.1 hw.1 (by decide)) (by rw [hw.1]; decide) (by rw [hw.1]; decide) (ok_16 t3117_0.1 ⟨_, rfl⟩)⟩, trivial⟩⟩
          have hL : OkL B0 _ := hB.2.2.2.2.2
          have hP : va_P D vwCl [(tx, .inl (cs 1, 600, .inl (upd (upd (upd (upd f ((κ w).2.2.1) (vp_nar .byte (vp_nar .byte (shb x 24)))) (((κ w).2.2.1) + 1) (vp_nar .byte (vp_nar .byte (shb x 16)))) ((((κ w).2.2.1) + 1) + 1) (vp_nar .byte (vp_nar .byte (shb x 8)))) (((((κ w).2.2.1) + 1) + 1) + 1) (vp_nar .byte (vp_nar .byte (shb x 0)))))), (w, .inr (5, [.ref tx, .int (nI ((((((κ w).2.2.1) + 1) + 1) + 1) + 1)), .int (nI len9), .int (nI pos9), .int kd9, .int (nI st9), .int va9, .int ta9, .int tk9, .ref co, .int (nI cc9), su9, .int ec9, .int es9]))] _ := hB.1
          have hkw : va_at D vwCl (w, .inr (5, [.ref tx, .int (nI ((((((κ w).2.2.1) + 1) + 1) + 1) + 1)), .int (nI len9), .int (nI pos9), .int kd9, .int (nI st9), .int va9, .int ta9, .int tk9, .ref co, .int (nI cc9), su9, .int ec9, .int es9])) _ := hP 1 _ rfl
          have hktx : va_at D vwCl (tx, .inl (cs 1, 600, .inl (upd (upd (upd (upd f ((κ w).2.2.1) (vp_nar .byte (vp_nar .byte (shb x 24)))) (((κ w).2.2.1) + 1) (vp_nar .byte (vp_nar .byte (shb x 16)))) ((((κ w).2.2.1) + 1) + 1) (vp_nar .byte (vp_nar .byte (shb x 8)))) (((((κ w).2.2.1) + 1) + 1) + 1) (vp_nar .byte (vp_nar .byte (shb x 0)))))) _ := hP 0 _ rfl
          have hkco := hkco.kept (hB.2.2.2.1 _ hkco.lt (by simp only [List.mem_cons, List.not_mem_nil, or_false, not_or]; exact ⟨ne_c hco.1 hw.1 (by decide), ne_c hco.1 t3117_0.1 (by decide)⟩))
          exact en_v hx hb hr hlocks hL (Nat.zero_le _) (Nat.zero_le _) dX5_store_48 (⟨hT, hF, ⟨⟨_, hkw⟩, hktx⟩⟩)
