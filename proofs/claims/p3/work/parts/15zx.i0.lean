theorem mX5_read_1 : (.fieldLink RX5 11 "OneBeat$Reader" "text" "[B" : Cond) ∈ wsX5_read := List.mem_of_getElem? (i := 1) (by decide +kernel)
theorem iX5_read_5 : ∀ w ∈ wsX50, w ∈ wsX5_read := fun w h => List.mem_of_mem_drop (List.mem_of_mem_take ((show wsX50 = (wsX5_read.drop 210).take 14 by decide +kernel) ▸ h))
theorem mX5_read_2 : (.methodLink RX5 23 Lib.Math.min.name : Cond) ∈ wsX5_read := List.mem_of_getElem? (i := 2) (by decide +kernel)
theorem mX5_read_3 : (.static Lib.Math.min.name : Cond) ∈ wsX5_read := List.mem_of_getElem? (i := 3) (by decide +kernel)
theorem mX5_read_4 : (.initialized "java/lang/Math" : Cond) ∈ wsX5_read := List.mem_of_getElem? (i := 4) (by decide +kernel)
theorem mX5_read_5 : (.code Lib.Math.min.name Lib.Math.min.code 2 (some .int) : Cond) ∈ wsX5_read := List.mem_of_getElem? (i := 5) (by decide +kernel)
theorem mX5_read_6 : (.methodLink RX5 29 Lib.Math.max.name : Cond) ∈ wsX5_read := List.mem_of_getElem? (i := 6) (by decide +kernel)
theorem mX5_read_7 : (.static Lib.Math.max.name : Cond) ∈ wsX5_read := List.mem_of_getElem? (i := 7) (by decide +kernel)
theorem mX5_read_8 : (.code Lib.Math.max.name Lib.Math.max.code 2 (some .int) : Cond) ∈ wsX5_read := List.mem_of_getElem? (i := 8) (by decide +kernel)
theorem mX5_read_9 : (.fieldLink RX5 32 "OneBeat$Reader" "length" "I" : Cond) ∈ wsX5_read := List.mem_of_getElem? (i := 9) (by decide +kernel)
theorem mX5_read_10 : (.fieldLink RX5 19 "OneBeat$Reader" "stored" "I" : Cond) ∈ wsX5_read := List.mem_of_getElem? (i := 10) (by decide +kernel)
theorem mX5_read_11 : (.fieldLink RX5 35 "OneBeat$Reader" "position" "I" : Cond) ∈ wsX5_read := List.mem_of_getElem? (i := 11) (by decide +kernel)
theorem mX5_read_12 : (.fieldLink RX5 38 "OneBeat$Reader" "codeCount" "I" : Cond) ∈ wsX5_read := List.mem_of_getElem? (i := 12) (by decide +kernel)
theorem mX5_read_13 : (.fieldLink RX5 41 "OneBeat$Reader" "errorStart" "I" : Cond) ∈ wsX5_read := List.mem_of_getElem? (i := 13) (by decide +kernel)
theorem hdX5_takeWord_v : yX5_takeWord.cls = RX5 ∧ yX5_takeWord.cls ≠ "java/lang/invoke/MethodHandle" ∧ yX5_takeWord.cls ≠ "java/lang/invoke/VarHandle" ∧ (parseMethodDescriptor yX5_takeWord.desc).map (fun d => d.parameters.length) = some 1 := by decide +kernel
theorem iX5_read_6 : ∀ w ∈ wsX60, w ∈ wsX5_read := fun w h => List.mem_of_mem_drop (List.mem_of_mem_take ((show wsX60 = (wsX5_read.drop 224).take 8 by decide +kernel) ▸ h))
theorem mX5_read_14 : (.classLink RX5 53 RX6 : Cond) ∈ wsX5_read := List.mem_of_getElem? (i := 14) (by decide +kernel)
theorem mX5_read_15 : (.instantiable RX6 8 : Cond) ∈ wsX5_read := List.mem_of_getElem? (i := 15) (by decide +kernel)
theorem mX5_read_16 : (.initialized RX6 : Cond) ∈ wsX5_read := List.mem_of_getElem? (i := 16) (by decide +kernel)
theorem dfl6 : ∀ j, j < 8 → defaultValue (tyX6 j) = vp_V [.int 0, .int 0, .int 0, .null, .null, .null, .null, .null] j := by decide +kernel
theorem mX5_read_17 : (.fieldLink RX5 59 "OneBeat$Reader" "taken" "I" : Cond) ∈ wsX5_read := List.mem_of_getElem? (i := 17) (by decide +kernel)
theorem mX5_read_96 : (.instanceMethod yX6_init : Cond) ∈ wsX5_read := List.mem_of_getElem? (i := 96) (by decide +kernel)
theorem mX5_read_95 : (.methodLink RX5 62 yX6_init : Cond) ∈ wsX5_read := List.mem_of_getElem? (i := 95) (by decide +kernel)
theorem hdX6_init_o : yX6_init.cls ≠ "java/lang/invoke/MethodHandle" ∧ yX6_init.cls ≠ "java/lang/invoke/VarHandle" ∧ (parseMethodDescriptor yX6_init.desc).map (fun d => d.parameters.length) = some 1 := by decide +kernel
theorem mX5_read_18 : (.fieldLink RX5 65 "OneBeat$Reader" "setup" "LOneBeat$Setup;" : Cond) ∈ wsX5_read := List.mem_of_getElem? (i := 18) (by decide +kernel)
theorem mX5_read_19 : (.fieldLink RX5 73 "OneBeat$Reader" "kind" "I" : Cond) ∈ wsX5_read := List.mem_of_getElem? (i := 19) (by decide +kernel)
theorem hdX6_fillIn_v : yX6_fillIn.cls = RX6 ∧ yX6_fillIn.cls ≠ "java/lang/invoke/MethodHandle" ∧ yX6_fillIn.cls ≠ "java/lang/invoke/VarHandle" ∧ (parseMethodDescriptor yX6_fillIn.desc).map (fun d => d.parameters.length) = some 0 := by decide +kernel
theorem hdX5_readStatement_v : yX5_readStatement.cls = RX5 ∧ yX5_readStatement.cls ≠ "java/lang/invoke/MethodHandle" ∧ yX5_readStatement.cls ≠ "java/lang/invoke/VarHandle" ∧ (parseMethodDescriptor yX5_readStatement.desc).map (fun d => d.parameters.length) = some 0 := by decide +kernel
set_option maxHeartbeats 4000000 in
set_option maxRecDepth 100000 in
theorem c_X5_read_de {l : Launch} {D : va_G} {cs : Nat → ClassId} {B0 T : Nat} {κ : KM} {H0 : Heap} (hT : WT B0 D cs T κ H0) {w : Nat} (hw : T2 κ w 6 10) {tx tn : Nat} {f B : Nat → Int32} (hY : BY B tn) (hf : TXB f B tn) (hbr : BRT D cs w H0 tx f) : KC l yX5_read wsX5_read 22 487 11 1332 D cs B0 H0 [.ref w, .int (nI tn)] (Qn (fun r H => ∃ κ1, (∀ a, (κ a).1 ≠ 0 → a ≠ w → (κ a).2.1 ≠ 11 → κ1 a = κ a) ∧ (∀ a, (κ a).1 ≠ 0 → (κ1 a).1 = (κ a).1) ∧ T2 κ1 w 6 10 ∧ (κ1 w).2.2.1 = 0 ∧ WT B0 D cs T κ1 H ∧ Fr B0 [10, 11] κ H0 H ∧ Gr H0 H 8 714 ∧ ((r = .null ∧ ∃ c9 o9 co1 su1, rdB B = .inl (c9, o9) ∧ RE D cs w H tx f co1 0 tn su1 c9 (nI o9)) ∨ (∃ q pl s9 mg9 ct of dr dl, r = .ref q ∧ T2 κ1 q 7 15 ∧ rdB B = .inr (pl, s9) ∧ pl ≤ 8 ∧ SUX D cs q H pl (fin s9.1 (nI pl)) (fin s9.2.1 50) mg9 ct of dr dl s9.2.2.2.1 s9.2.2.2.2.1 s9.2.2.2.2.2.1 s9.2.2.2.2.2.2 ∧ ∃ co1 su1 ec1, RE D cs w H tx f co1 0 tn su1 ec1 (-1))))) := by
  refine KC.of cX5_read 3 (some (.object "OneBeat$Setup")) (by decide) rfl (Nat.le_of_ble_eq_true rfl) ?_
  intro p e s m below meth c ls hx hb hr hml hown hts hlocks hin hN hE hH0 hl
  have hown : s.vm.findClass RX5 = some m.cls := hown
  have hl : lv_has ls 3 [(0, .ref w), (1, .int (nI tn))] := hl
  have hL : OkL B0 [] := OkL.nil
  have hF : Fr B0 [10, 11] κ H0 H0 := Fr.rf
  have h6n := hY.1
  obtain ⟨hwb9, e9, hkw, tx9, len9, pos9, kd9, st9, va9, ta9, tk9, co, cc9, su9, ec9, es9, rfl, l1, l2, l3, l4, l5, htx, hco, hsu9, hp29⟩ := hT.o6 hw.1
  obtain rfl : tx = tx9 := (hbr.tx hkw).symm
  have hktx := hbr.2
  obtain ⟨cf, hkco⟩ := f17 hT hco
  refine lv_aload_n hx hb dX5_read_0 rfl (lv_at hl 0 rfl) ?_
  refine lv_iconst (v := 0) hx hb dX5_read_1 (by decide) ?_
  refine lv_iload_n hx hb dX5_read_2 rfl (lv_at hl 1 rfl) ?_
  refine lv_aload_n hx hb dX5_read_3 rfl (lv_at hl 0 rfl) ?_
  obtain ⟨hb3041, e3041, hat3041, hk3041⟩ := hT.o6 hw.1
  obtain ⟨f3041_0, f3041_2, f3041_3, f3041_4, f3041_5, f3041_6, f3041_7, f3041_8, f3041_9, f3041_10, f3041_11, f3041_12, f3041_13, rfl, c3041_1, c3041_2, c3041_3, c3041_5, c3041_10, t3041_0, t3041_9, c3041_11, c3041_p2⟩ := hk3041
  obtain ⟨rfl, rfl, rfl, rfl, rfl, rfl, rfl, rfl, rfl, rfl, rfl, rfl, rfl⟩ := eq6 hat3041 hkw (by omega)
  have hP : va_P D vwCl [(w, .inr (5, [.ref tx, .int (nI ((κ w).2.2.1)), .int (nI len9), .int (nI pos9), .int kd9, .int (nI st9), .int va9, .int ta9, .int tk9, .ref co, .int (nI cc9), su9, .int ec9, .int es9]))] _ := va_P.cons hat3041 va_P.nil
  refine va_get (D := D) (ci := 5) (v := .ref tx) (C := RX5) (T := TX5) (N := 14) hx hb hts iX5_read_5 hown hN.1 hP 0 rfl rfl 0 (by decide) (hts _ mX5_read_1) (fun _ h9 => h9) rfl dX5_read_4 ?_
  obtain ⟨hb3042, e3042, hat3042, hk3042⟩ := hT.o16 t3041_0.1
  have hat3042 := hktx
  have hP : va_P D vwCl [(tx, .inl (cs 1, 600, .inl f)), (w, .inr (5, [.ref tx, .int (nI ((κ w).2.2.1)), .int (nI len9), .int (nI pos9), .int kd9, .int (nI st9), .int va9, .int ta9, .int tk9, .ref co, .int (nI cc9), su9, .int ec9, .int es9]))] _ := va_P.cons hat3042 hP
  refine va_alen (v := 600) hx hb hN.1 hP 0 1 rfl rfl rfl dX5_read_7 ?_
  refine va_mmin hx hb (hml.trans hl.1.symm) hown (hts _ mX5_read_2) (hts _ mX5_read_3) (hts _ mX5_read_4) (hts _ mX5_read_5) (Nat.le_of_ble_eq_true rfl) (Nat.le_of_ble_eq_true rfl) (Nat.zero_le _) (Nat.zero_le _) dX5_read_8 ?_
  obtain ⟨m3043, hm3043, em3043⟩ := nI_min (a := tn) (b := 600) (by omega) (by omega)
  refine tp_i (nI m3043) em3043 ?_
  refine va_mmax hx hb (hml.trans hl.1.symm) hown (hts _ mX5_read_6) (hts _ mX5_read_7) (hts _ mX5_read_4) (hts _ mX5_read_8) (Nat.le_of_ble_eq_true rfl) (Nat.le_of_ble_eq_true rfl) (Nat.zero_le _) (Nat.zero_le _) dX5_read_11 ?_
  obtain ⟨m3044, hm3044, em3044⟩ := nI_max (a := 0) (b := m3043) (by omega) (by omega)
  refine tp_i (nI m3044) em3044 ?_
  obtain rfl : tn = m3044 := by omega
  have hB : Bx B0 D _ [(tx, .inl (cs 1, 600, .inl f)), (w, .inr (5, [.ref tx, .int (nI ((κ w).2.2.1)), .int (nI len9), .int (nI pos9), .int kd9, .int (nI st9), .int va9, .int ta9, .int tk9, .ref co, .int (nI cc9), su9, .int ec9, .int es9]))] [] _ _ := Bx.of (fun a => (κ a).1) hL hP (fa_c hb3042 (fa_c hb3041 fa_n)) (by simp only [List.map_cons, List.map_nil, t3041_0.1, hw.1]; decide)
  refine b_put (D := D) (ci := 5) (v := .int (nI tn)) (ty := .int) (C := RX5) (T := TX5) (N := 14) hx hb hts iX5_read_5 tyX5 tyX5_ok nmX5 hown hN hB 1 rfl rfl 2 (by decide) (hts _ mX5_read_9) (fun _ h9 => h9) rfl (by decide +kernel) rfl rfl (Nat.le_of_ble_eq_true rfl) (.inl rfl) dX5_read_14 (fun H locs hB => ?_)
  have hB : Bx B0 D _ [(tx, .inl (cs 1, 600, .inl f)), (w, .inr (5, [.ref tx, .int (nI ((κ w).2.2.1)), .int (nI tn), .int (nI pos9), .int kd9, .int (nI st9), .int va9, .int ta9, .int tk9, .ref co, .int (nI cc9), su9, .int ec9, .int es9]))] [w] _ _ := hB
  refine lv_aload_n hx hb dX5_read_17 rfl (lv_at hl 0 rfl) ?_
  refine lv_iconst (v := 0) hx hb dX5_read_18 (by decide) ?_
  refine tp_i (nI 0) rfl ?_
  refine b_put (D := D) (ci := 5) (v := .int (nI 0)) (ty := .int) (C := RX5) (T := TX5) (N := 14) hx hb hts iX5_read_5 tyX5 tyX5_ok nmX5 hown hN hB 1 rfl rfl 1 (by decide) (hts _ mX5_read_10) (fun _ h9 => h9) rfl (by decide +kernel) rfl rfl (Nat.le_of_ble_eq_true rfl) (.inr ⟨rfl, List.mem_of_getElem? (i := 0) rfl⟩) dX5_read_19 (fun H locs hB => ?_)
  have hB : Bx B0 D _ [(tx, .inl (cs 1, 600, .inl f)), (w, .inr (5, [.ref tx, .int (nI 0), .int (nI tn), .int (nI pos9), .int kd9, .int (nI st9), .int va9, .int ta9, .int tk9, .ref co, .int (nI cc9), su9, .int ec9, .int es9]))] [w] _ _ := hB
  refine lv_aload_n hx hb dX5_read_22 rfl (lv_at hl 0 rfl) ?_
  refine lv_iconst (v := 0) hx hb dX5_read_23 (by decide) ?_
  refine tp_i (nI 0) rfl ?_
  refine b_put (D := D) (ci := 5) (v := .int (nI 0)) (ty := .int) (C := RX5) (T := TX5) (N := 14) hx hb hts iX5_read_5 tyX5 tyX5_ok nmX5 hown hN hB 1 rfl rfl 3 (by decide) (hts _ mX5_read_11) (fun _ h9 => h9) rfl (by decide +kernel) rfl rfl (Nat.le_of_ble_eq_true rfl) (.inr ⟨rfl, List.mem_of_getElem? (i := 0) rfl⟩) dX5_read_24 (fun H locs hB => ?_)
  have hB : Bx B0 D _ [(tx, .inl (cs 1, 600, .inl f)), (w, .inr (5, [.ref tx, .int (nI 0), .int (nI tn), .int (nI 0), .int kd9, .int (nI st9), .int va9, .int ta9, .int tk9, .ref co, .int (nI cc9), su9, .int ec9, .int es9]))] [w] _ _ := hB
  refine lv_aload_n hx hb dX5_read_27 rfl (lv_at hl 0 rfl) ?_
  refine lv_iconst (v := 0) hx hb dX5_read_28 (by decide) ?_
  refine tp_i (nI 0) rfl ?_
  refine b_put (D := D) (ci := 5) (v := .int (nI 0)) (ty := .int) (C := RX5) (T := TX5) (N := 14) hx hb hts iX5_read_5 tyX5 tyX5_ok nmX5 hown hN hB 1 rfl rfl 10 (by decide) (hts _ mX5_read_12) (fun _ h9 => h9) rfl (by decide +kernel) rfl rfl (Nat.le_of_ble_eq_true rfl) (.inr ⟨rfl, List.mem_of_getElem? (i := 0) rfl⟩) dX5_read_29 (fun H locs hB => ?_)
  have hB : Bx B0 D _ [(tx, .inl (cs 1, 600, .inl f)), (w, .inr (5, [.ref tx, .int (nI 0), .int (nI tn), .int (nI 0), .int kd9, .int (nI st9), .int va9, .int ta9, .int tk9, .ref co, .int (nI 0), su9, .int ec9, .int es9]))] [w] _ _ := hB
  refine lv_aload_n hx hb dX5_read_32 rfl (lv_at hl 0 rfl) ?_
  refine lv_iconst (v := (-1)) hx hb dX5_read_33 (by decide) ?_
  refine b_put (D := D) (ci := 5) (v := .int (-1)) (ty := .int) (C := RX5) (T := TX5) (N := 14) hx hb hts iX5_read_5 tyX5 tyX5_ok nmX5 hown hN hB 1 rfl rfl 13 (by decide) (hts _ mX5_read_13) (fun _ h9 => h9) rfl (by decide +kernel) rfl rfl (Nat.le_of_ble_eq_true rfl) (.inr ⟨rfl, List.mem_of_getElem? (i := 0) rfl⟩) dX5_read_34 (fun H locs hB => ?_)
  have hB : Bx B0 D _ [(tx, .inl (cs 1, 600, .inl f)), (w, .inr (5, [.ref tx, .int (nI 0), .int (nI tn), .int (nI 0), .int kd9, .int (nI st9), .int va9, .int ta9, .int tk9, .ref co, .int (nI 0), su9, .int ec9, .int (-1)]))] [w] _ _ := hB
  have hF : Fr B0 [10, 11] κ H0 _ := hF.close hB (fa_c (by simp [hw.2]) fa_n)
  have hT : WT B0 D cs T (kp κ w 0 0) _ := hT.closeK w 0 0 hB (by rw [hw.1]; decide) (by rw [hw.1]; decide) (List.mem_of_getElem? (i := 0) rfl) ⟨⟨1, _, rfl, kp_ok (ok_6 (k := ((κ w).1, (κ w).2.1, _, _)) hw.1 ⟨_, _, _, _, _, _, _, _, _, _, _, _, _, rfl, (by show 0 ≤ 600; omega), (by omega), (by omega), (by omega), (by omega), (t2kp t3041_0), (t2kp t3041_9), (kp_su c3041_11), (Or.inl rfl)⟩)⟩, trivial⟩
  have hL : OkL B0 _ := hB.2.2.2.2.2
  have hP : va_P D vwCl [(tx, .inl (cs 1, 600, .inl f)), (w, .inr (5, [.ref tx, .int (nI 0), .int (nI tn), .int (nI 0), .int kd9, .int (nI st9), .int va9, .int ta9, .int tk9, .ref co, .int (nI 0), su9, .int ec9, .int (-1)]))] _ := hB.1
  have hkw : va_at D vwCl (w, .inr (5, [.ref tx, .int (nI 0), .int (nI tn), .int (nI 0), .int kd9, .int (nI st9), .int va9, .int ta9, .int tk9, .ref co, .int (nI 0), su9, .int ec9, .int (-1)])) _ := hP 1 _ rfl
  have hktx : va_at D vwCl (tx, .inl (cs 1, 600, .inl f)) _ := hP 0 _ rfl
  have hkco := hkco.kept (hB.2.2.2.1 _ hkco.lt (by simp only [List.mem_cons, List.not_mem_nil, or_false, not_or]; exact ne_c hco.1 hw.1 (by decide)))
  have hP : va_P D vwCl [(tx, .inl (cs 1, 600, .inl f)), (w, .inr (5, [.ref tx, .int (nI 0), .int (nI tn), .int (nI 0), .int kd9, .int (nI st9), .int va9, .int ta9, .int tk9, .ref co, .int (nI 0), su9, .int ec9, .int (-1)]))] _ := hB.1
  obtain ⟨κ3045, hκ3045⟩ : ∃ κq : KM, κq = (kp κ w 0 0) := ⟨_, rfl⟩
  have hxf3045 : KF κ κ3045 := by rw [hκ3045]; exact KF.kp
  rw [← hκ3045] at hT
  have hKF : KF κ κ3045 := hxf3045
  have hw := (KF.t2 hxf3045 hw (by decide))
  have htx := (KF.t2 hxf3045 htx (by decide))
  have hco := (KF.t2 hxf3045 hco (by decide))
  have hKW : ∀ a, (κ a).1 ≠ 0 → a ≠ w → κ3045 a = κ a := fun a _ h9 => by rw [hκ3045, kp_n h9]
  have hw1 : (κ3045 w).2.2.1 = 0 := by rw [hκ3045, kp_a]
  have hkw := sd5 (k' := (κ3045 w).2.2.1) (by rw [hw1]) hkw
  refine lv_aload_n hx hb dX5_read_37 rfl (lv_at hl 0 rfl) ?_
  refine cv_v (As := []) (rest := []) (b := w) ⟨hx, hb, hml, hown, hts⟩ (c_X5_step hT (w := w) hw (by first | omega | decide | assumption) (by first | omega | decide | assumption) (by first | omega | decide | assumption) (by first | omega | decide | assumption) (by first | omega | decide | assumption) ⟨hkw, hktx, hkco⟩) (cwV 0 hts gX5_read_X5_step rfl rfl rfl hdX5_step_v ⟨Nat.le_of_ble_eq_true rfl, Nat.le_of_ble_eq_true rfl⟩) hN hE hL (rcv6 hN hT hw.1) rfl rfl hl.1 (Nat.le_of_ble_eq_true rfl) dX5_read_38 (Nat.zero_le _) (Nat.zero_le _) (fun H1 locs hL hqr3046 => ?_)
  obtain ⟨hT1, hF1, hqr3046⟩ := hqr3046
  have hF := hF.tr ((hF1.kf hKF).mono (by simp))
  have hT := hT1
  have m3047 := hqr3046
  obtain ⟨z3048, hz3048⟩ : ∃ z9, z9 = skp B 0 := ⟨_, rfl⟩
  rw [← hz3048] at m3047
  have bz3048 : z3048 ≤ tn := by rw [hz3048]; exact run_ub hY (by decide) (by omega)
  have hzE := tkE_le hY (s := z3048) (by omega)
  obtain ⟨hkw, hktx, hkco⟩ := m3047
  refine lv_aload_n hx hb dX5_read_41 rfl (lv_at hl 0 rfl) ?_
  refine va_ldcS hx hb hown (hN.s 1 rfl) dX5_read_42 ?_
  refine cv_i (As := [.ref (cs 101)]) (rest := []) (b := w) ⟨hx, hb, hml, hown, hts⟩ (c_X5_takeWord hT (w := w) hw (i := 1) (by decide) (by first | omega | decide | assumption) (by first | omega | decide | assumption) (by first | omega | decide | assumption) (by first | omega | decide | assumption) ⟨hkw, hktx, hkco⟩) (cwV 1 hts gX5_read_X5_takeWord rfl rfl rfl hdX5_takeWord_v ⟨Nat.le_of_ble_eq_true rfl, Nat.le_of_ble_eq_true rfl⟩) hN hE hL (rcv6 hN hT hw.1) rfl rfl hl.1 (Nat.le_of_ble_eq_true rfl) dX5_read_44 (Nat.zero_le _) (Nat.zero_le _) (fun r3049 H1 locs hL hqr3049 => ?_)
  obtain ⟨hT1, hF1, hqr3049⟩ := hqr3049
  have hF := hF.tr ((hF1.kf hKF).mono (by simp))
  have hT := hT1
  rcases hqr3049 with ⟨rfl, e3050, m3051⟩ | ⟨rfl, e3052, m3053⟩
  · obtain ⟨z3054, hz3054⟩ : ∃ z9, z9 = skp B (z3048 + nT 1) := ⟨_, rfl⟩
    rw [← hz3054] at m3051
    have bz3054 : z3054 ≤ tn := by rw [hz3054]; exact (isW_lt hY (i := 1) (by decide) e3050).2
    have hzE := tkE_le hY (s := z3054) (by omega)
    obtain ⟨hkw, hktx, hkco⟩ := m3051
    refine lv_if_eq (tgt := 60) hx hb dX5_read_47 (by decide) (fun c9 => absurd c9 (by decide)) (fun _ => ?_)
    refine lv_aload_n hx hb dX5_read_50 rfl (lv_at hl 0 rfl) ?_
    refine lv_iconst (v := 1) hx hb dX5_read_51 (by decide) ?_
    refine lv_bipush (v := 8) hx hb dX5_read_52 (by decide) ?_
    refine cv_i (As := [.int 1, .int 8]) (rest := []) (b := w) ⟨hx, hb, hml, hown, hts⟩ (c_X5_takeNumber hT (w := w) hw (aa := 1) (bb := 8) (by first | omega | decide | assumption) (by first | omega | decide | assumption) (by first | omega | decide | assumption) (by first | omega | decide | assumption) ⟨hkw, hktx, hkco⟩ (by first | omega | decide | assumption) (by first | omega | decide | assumption)) (cwV 2 hts gX5_read_X5_takeNumber rfl rfl rfl hdX5_takeNumber_v ⟨Nat.le_of_ble_eq_true rfl, Nat.le_of_ble_eq_true rfl⟩) hN hE hL (rcv6 hN hT hw.1) rfl rfl hl.1 (Nat.le_of_ble_eq_true rfl) dX5_read_54 (Nat.zero_le _) (Nat.zero_le _) (fun r3055 H1 locs hL hqr3055 => ?_)
    obtain ⟨hT1, hF1, hqr3055⟩ := hqr3055
    have hF := hF.tr ((hF1.kf hKF).mono (by simp))
    have hT := hT1
    rcases hqr3055 with ⟨rfl, d3056, l3057, g3058, m3059⟩ | ⟨rfl, d3060, m3061⟩ | ⟨rfl, d3062, g3063, m3064⟩
    · obtain ⟨z3065, hz3065⟩ : ∃ z9, z9 = skp B (dgE B z3054) := ⟨_, rfl⟩
      rw [← hz3065] at m3059
      have bz3065 : z3065 ≤ tn := by rw [hz3065]; exact (dgE_lt hY d3056).2
      have hzE := tkE_le hY (s := z3065) (by omega)
      obtain ⟨hkw, hktx, hkco⟩ := m3059
      have e3066 : numB B 1 8 z3054 = .inr (nvl B z3054 0, z3065) := (num_ok d3056 l3057 g3058).trans (by rw [hz3065])
      have le3066 := numB_pg hY e3066
      obtain ⟨pl, hplq⟩ : ∃ p9, p9 = nvl B z3054 0 := ⟨_, rfl⟩
      rw [← hplq] at hkw e3066 le3066
      refine lv_if_ne (tgt := 62) hx hb dX5_read_57 (by decide) (fun _ => ?_) (fun c9 => absurd c9 (by decide))
      refine lv_aload_n hx hb dX5_read_62 rfl (lv_at hl 0 rfl) ?_
      have hb0 : B0 ≤ _ := hT.b0 hw (by decide)
      have hP : va_P D vwCl [] _ := hT.nil
      have hB : Bx B0 D _ [] [] _ _ := Bx.of (fun a => (κ3045 a).1) hL hP fa_n (by simp only [List.map_cons, List.map_nil, ]; decide)
      refine nw_o (ci := 6) (fs := [.int 0, .int 0, .int 0, .null, .null, .null, .null, .null]) (C := RX6) (T := TX6) (N := 8) hx hb hts iX5_read_6 tyX6 tyX6_ok hown (hts _ mX5_read_14) (hts _ mX5_read_15) (hts _ mX5_read_16) hN rfl dfl6 (show 0 + 1 ≤ 11 by omega) (show 0 + 8 ≤ 1332 by omega) dX5_read_63 (fun q3067 H heq3067 hzq3067 hoq3067 hatq3067 => ?_)
      have hgeq3067 : _ ≤ q3067 := Nat.le_trans hB.2.2.1 (Nat.le_of_eq heq3067.symm)
      have hbq3067 : B0 ≤ q3067 := Nat.le_trans hb0 hgeq3067
      have hfq3067 : (κ3045 q3067).1 = 0 := hT.fresh hgeq3067
      have hB := hB.nw heq3067 hzq3067 hoq3067 hatq3067 hb0
      have hB : Bx B0 D _ [(q3067, .inr (6, [.int 0, .int 0, .int 0, .null, .null, .null, .null, .null]))] [] _ _ := hB
      have hT0 := hT
      refine lv_dup hx hb dX5_read_66 rfl ?_
      refine lv_aload_n hx hb dX5_read_67 rfl (lv_at hl 0 rfl) ?_
      obtain ⟨hb3068, e3068, hat3068, hk3068⟩ := hT.o6 hw.1
      obtain ⟨f3068_0, f3068_2, f3068_3, f3068_4, f3068_5, f3068_6, f3068_7, f3068_8, f3068_9, f3068_10, f3068_11, f3068_12, f3068_13, rfl, c3068_1, c3068_2, c3068_3, c3068_5, c3068_10, t3068_0, t3068_9, c3068_11, c3068_p2⟩ := hk3068
      obtain ⟨rfl, rfl, rfl, rfl, rfl, rfl, rfl, rfl, rfl, rfl, rfl, rfl, rfl⟩ := eq6 hat3068 hkw (by omega)
      have hB : Bx B0 D _ [(q3067, .inr (6, [.int 0, .int 0, .int 0, .null, .null, .null, .null, .null])), (w, .inr (5, [.ref tx, .int (nI ((κ3045 w).2.2.1)), .int (nI tn), .int (nI ((tkE B z3065))), .int (tkK B z3065), .int (nI z3065), .int (tkV B z3065), .int (nI pl), .int (nI z3054), .ref co, .int (nI 0), su9, .int ec9, .int (-1)]))] [] _ _ := hB.more hat3068 hb3068 (fa_c (nw_ne hat3068 hgeq3067) fa_n) fa_n
      refine va_get (D := D) (ci := 5) (v := .int (nI pl)) (C := RX5) (T := TX5) (N := 14) hx hb hts iX5_read_5 hown hN.1 hB.1 1 rfl rfl 7 (by decide) (hts _ mX5_read_17) (fun _ h9 => h9) rfl dX5_read_68 ?_
      have hwO := hw
      have hKFO := hKF
      have hT : WT B0 D cs T κ3045 _ := hT.close hB trivial
      have hF : Fr B0 [10, 11] κ H0 _ := hF.closeN hB fa_n
      have hL : OkL B0 _ := hB.2.2.2.2.2
      have hP : va_P D vwCl [(q3067, .inr (6, [.int 0, .int 0, .int 0, .null, .null, .null, .null, .null])), (w, .inr (5, [.ref tx, .int (nI ((κ3045 w).2.2.1)), .int (nI tn), .int (nI ((tkE B z3065))), .int (tkK B z3065), .int (nI z3065), .int (tkV B z3065), .int (nI pl), .int (nI z3054), .ref co, .int (nI 0), su9, .int ec9, .int (-1)]))] _ := hB.1
      have hkw : va_at D vwCl (w, .inr (5, [.ref tx, .int (nI ((κ3045 w).2.2.1)), .int (nI tn), .int (nI ((tkE B z3065))), .int (tkK B z3065), .int (nI z3065), .int (tkV B z3065), .int (nI pl), .int (nI z3054), .ref co, .int (nI 0), su9, .int ec9, .int (-1)])) _ := hP 1 _ rfl
      have hktx := hktx.kept (hB.2.2.2.1 _ hktx.lt (by simp))
      have hkco := hkco.kept (hB.2.2.2.1 _ hkco.lt (by simp))
      refine ci_v (As := [.int (nI pl)]) (rest := [.ref q3067, .ref w]) (b := q3067) ⟨hx, hb, hml, hown, hts⟩ (c_X6_init_de hT (w := q3067) hfq3067 hbq3067 (hP 0 _ rfl) (n := pl) (by first | omega | decide | assumption)) (cwI 1 hts gX5_read_X6_init rfl rfl rfl (hts _ mX5_read_16) (hts _ mX5_read_95) (hts _ mX5_read_96) rfl hdX6_init_o ⟨Nat.le_of_ble_eq_true rfl, Nat.le_of_ble_eq_true rfl⟩) hN hE hL rfl rfl hl.1 (Nat.le_of_ble_eq_true rfl) dX5_read_71 (show 1 + 4 ≤ 11 by omega) (show (0 + 8) + 88 ≤ 1332 by omega) (fun H1 locs hL hqr3069 => ?_)
      obtain ⟨κr3069, hxr3069, hT1, hF1, hqr3069⟩ := hqr3069
      have hkw := hF1.hP (va_P.cons hkw va_P.nil) (fa_c ⟨by rw [hw.1]; decide, by rw [hw.2]; first | decide | (simp; done) | (simp; omega)⟩ fa_n) 0 _ rfl
      have hktx := hF1.hP (va_P.cons hktx va_P.nil) (fa_c ⟨by rw [htx.1]; decide, by rw [htx.2]; first | decide | (simp; done) | (simp; omega)⟩ fa_n) 0 _ rfl
      have hkco := hF1.hP (va_P.cons hkco va_P.nil) (fa_c ⟨by rw [hco.1]; decide, by rw [hco.2]; first | decide | (simp; done) | (simp; omega)⟩ fa_n) 0 _ rfl
      have hF := hF.tr ((hF1.kf hKF).mono (by simp))
      have hT := hT1
      have hKF := hKF.tr hxr3069.f
      have hw := (hxr3069.f.t2 hw (by decide))
      have htx := (hxr3069.f.t2 htx (by decide))
      have hco := (hxr3069.f.t2 hco (by decide))
      obtain ⟨hq3067, hqr3069⟩ := hqr3069
      obtain ⟨ekq3067, ct, of, dr, dl, hsx⟩ := hqr3069
      have ew9 : κr3069 w = _ := hxr3069 w (by rw [hwO.1]; decide)
      have hKW : ∀ a, (κ a).1 ≠ 0 → a ≠ w → κr3069 a = κ a := fun a h1 h2 => (hxr3069 a (by rw [hKW a h1 h2]; exact h1)).trans (hKW a h1 h2)
      have hw1 : (κr3069 w).2.2.1 = 0 := by rw [ew9]; exact hw1
      have hsf : (κ q3067).1 = 0 := by have h9 := hfq3067; by_cases h8 : (κ q3067).1 = 0; exact h8; rw [(hKFO _ h8).1] at h9; exact h9
      have hq0 : ¬ q3067 = 0 := by have h9 := hT0.lt hwO (by decide); omega
      have hqw : q3067 ≠ w := ne_c hq3067.1 hw.1 (by decide)
      have hkw := sd5 (k' := (κr3069 w).2.2.1) (by rw [ew9]) hkw
      have hsqT := hq3067
      obtain ⟨hct, hof, hdr, hdl⟩ := SUX.t2 hT hsqT hsx.1
      obtain ⟨hksq, hkct, hkof, hkdr, hkdl, hod⟩ := hsx
      have hq18 := f18 hT hct hkct
      have hq20 := f20 hT hdl hkdl
      have hw0 := hw1
      obtain ⟨hb3070, e3070, hat3070, hk3070⟩ := hT.o6 hw.1
      obtain ⟨f3070_0, f3070_2, f3070_3, f3070_4, f3070_5, f3070_6, f3070_7, f3070_8, f3070_9, f3070_10, f3070_11, f3070_12, f3070_13, rfl, c3070_1, c3070_2, c3070_3, c3070_5, c3070_10, t3070_0, t3070_9, c3070_11, c3070_p2⟩ := hk3070
      obtain ⟨rfl, rfl, rfl, rfl, rfl, rfl, rfl, rfl, rfl, rfl, rfl, rfl, rfl⟩ := eq6 hat3070 hkw (by omega)
      have hP : va_P D vwCl [(w, .inr (5, [.ref tx, .int (nI ((κr3069 w).2.2.1)), .int (nI tn), .int (nI ((tkE B z3065))), .int (tkK B z3065), .int (nI z3065), .int (tkV B z3065), .int (nI pl), .int (nI z3054), .ref co, .int (nI 0), su9, .int ec9, .int (-1)]))] _ := va_P.cons hat3070 va_P.nil
      have hB : Bx B0 D _ [(w, .inr (5, [.ref tx, .int (nI ((κr3069 w).2.2.1)), .int (nI tn), .int (nI ((tkE B z3065))), .int (tkK B z3065), .int (nI z3065), .int (tkV B z3065), .int (nI pl), .int (nI z3054), .ref co, .int (nI 0), su9, .int ec9, .int (-1)]))] [] _ _ := Bx.of (fun a => (κr3069 a).1) hL hP (fa_c hb3070 fa_n) (by simp only [List.map_cons, List.map_nil, hw.1]; decide)
      refine b_put (D := D) (ci := 5) (v := .ref q3067) (ty := .object "OneBeat$Setup") (C := RX5) (T := TX5) (N := 14) hx hb hts iX5_read_5 tyX5 tyX5_ok nmX5 hown hN hB 0 rfl rfl 11 (by decide) (hts _ mX5_read_18) (fun _ h9 => h9) rfl (by decide +kernel) rfl rfl (Nat.le_of_ble_eq_true rfl) (.inl rfl) dX5_read_74 (fun H locs hB => ?_)
      have hB : Bx B0 D _ [(w, .inr (5, [.ref tx, .int (nI ((κr3069 w).2.2.1)), .int (nI tn), .int (nI ((tkE B z3065))), .int (tkK B z3065), .int (nI z3065), .int (tkV B z3065), .int (nI pl), .int (nI z3054), .ref co, .int (nI 0), .ref q3067, .int ec9, .int (-1)]))] [w] _ _ := hB
      have hqO := hq3067
      have hF : Fr B0 [10, 11] κ H0 _ := hF.closeN hB (fa_c (fun h9 => by rw [← (hKF _ h9).2, hw.2]; simp) fa_n)
      have hT : WT B0 D cs T (kp κr3069 w (κr3069 w).2.2.1 q3067) _ := hT.closeK w (κr3069 w).2.2.1 q3067 hB (by rw [hw.1]; decide) (by rw [hw.1]; decide) (List.mem_of_getElem? (i := 0) rfl) ⟨⟨0, _, rfl, kp_ok (ok_6 (k := ((κr3069 w).1, (κr3069 w).2.1, _, _)) hw.1 ⟨_, _, _, _, _, _, _, _, _, _, _, _, _, rfl, (by show (κr3069 w).2.2.1 ≤ 600; omega), (by omega), (by omega), (by omega), (by omega), (t2kp t3070_0), (t2kp t3070_9), (kp_su (Or.inr ⟨_, rfl, hq3067.1⟩)), (Or.inr rfl)⟩)⟩, trivial⟩
      have hL : OkL B0 _ := hB.2.2.2.2.2
      have hP : va_P D vwCl [(w, .inr (5, [.ref tx, .int (nI ((κr3069 w).2.2.1)), .int (nI tn), .int (nI ((tkE B z3065))), .int (tkK B z3065), .int (nI z3065), .int (tkV B z3065), .int (nI pl), .int (nI z3054), .ref co, .int (nI 0), .ref q3067, .int ec9, .int (-1)]))] _ := hB.1
      have hkw : va_at D vwCl (w, .inr (5, [.ref tx, .int (nI ((κr3069 w).2.2.1)), .int (nI tn), .int (nI ((tkE B z3065))), .int (tkK B z3065), .int (nI z3065), .int (tkV B z3065), .int (nI pl), .int (nI z3054), .ref co, .int (nI 0), .ref q3067, .int ec9, .int (-1)])) _ := hP 0 _ rfl
      have hktx := hktx.kept (hB.2.2.2.1 _ hktx.lt (by simp only [List.mem_cons, List.not_mem_nil, or_false, not_or]; exact ne_c htx.1 hw.1 (by decide)))
      have hkco := hkco.kept (hB.2.2.2.1 _ hkco.lt (by simp only [List.mem_cons, List.not_mem_nil, or_false, not_or]; exact ne_c hco.1 hw.1 (by decide)))
      have hksq := hksq.kept (hB.2.2.2.1 _ hksq.lt (by simp only [List.mem_cons, List.not_mem_nil, or_false, not_or]; exact ne_c hsqT.1 hw.1 (by decide)))
      have hkct := hkct.kept (hB.2.2.2.1 _ hkct.lt (by simp only [List.mem_cons, List.not_mem_nil, or_false, not_or]; exact ne_c hct.1 hw.1 (by decide)))
      have hkof := hkof.kept (hB.2.2.2.1 _ hkof.lt (by simp only [List.mem_cons, List.not_mem_nil, or_false, not_or]; exact ne_c hof.1 hw.1 (by decide)))
      have hkdr := hkdr.kept (hB.2.2.2.1 _ hkdr.lt (by simp only [List.mem_cons, List.not_mem_nil, or_false, not_or]; exact ne_c hdr.1 hw.1 (by decide)))
      have hkdl := hkdl.kept (hB.2.2.2.1 _ hkdl.lt (by simp only [List.mem_cons, List.not_mem_nil, or_false, not_or]; exact ne_c hdl.1 hw.1 (by decide)))
      have hP : va_P D vwCl [(w, .inr (5, [.ref tx, .int (nI ((κr3069 w).2.2.1)), .int (nI tn), .int (nI ((tkE B z3065))), .int (tkK B z3065), .int (nI z3065), .int (tkV B z3065), .int (nI pl), .int (nI z3054), .ref co, .int (nI 0), .ref q3067, .int ec9, .int (-1)]))] _ := hB.1
      obtain ⟨κ3071, hκ3071⟩ : ∃ κq : KM, κq = (kp κr3069 w (κr3069 w).2.2.1 q3067) := ⟨_, rfl⟩
      have hxf3071 : KF κr3069 κ3071 := by rw [hκ3071]; exact KF.kp
      rw [← hκ3071] at hT
      have hKF := hKF.tr hxf3071
      have hw := (KF.t2 hxf3071 hw (by decide))
      have htx := (KF.t2 hxf3071 htx (by decide))
      have hco := (KF.t2 hxf3071 hco (by decide))
      have hct := (KF.t2 hxf3071 hct (by decide))
      have hof := (KF.t2 hxf3071 hof (by decide))
      have hdr := (KF.t2 hxf3071 hdr (by decide))
      have hdl := (KF.t2 hxf3071 hdl (by decide))
      have hsqT := (KF.t2 hxf3071 hsqT (by decide))
      have hKW : ∀ a, (κ a).1 ≠ 0 → a ≠ w → κ3071 a = κ a := fun a h1 h9 => by rw [hκ3071, kp_n h9]; exact hKW a h1 h9
      have hw1 : (κ3071 w).2.2.1 = 0 := by rw [hκ3071, kp_a]; exact hw1
      have ewq : (κ3071 w).2.2.2 = q3067 := by rw [hκ3071, kp_a]
      have hsf : (κ (κ3071 w).2.2.2).1 = 0 := by rw [ewq]; exact hsf
      have hs0 : ¬ (κ3071 w).2.2.2 = 0 := by rw [ewq]; exact hq0
      have hsu : T2 κ3071 (κ3071 w).2.2.2 7 11 := by rw [ewq]; exact hxf3071.t2 hqO (by decide)
      have hp1 : (κ3071 (κ3071 w).2.2.2).2.2.1 ≠ 1 := by rw [ewq, hκ3071, kp_n hqw, ekq3067]; decide
      have hkw := sd5 (k' := (κ3071 w).2.2.1) (by rw [hw1, hw0]) hkw
      refine lv_aload_n hx hb dX5_read_77 rfl (lv_at hl 0 rfl) ?_
      refine lv_bipush (v := 59) hx hb dX5_read_78 (by decide) ?_
      refine cv_i (As := [.int 59]) (rest := []) (b := w) ⟨hx, hb, hml, hown, hts⟩ (c_X5_takeMark hT (w := w) hw (ch := 59) (by first | omega | decide | assumption) (by first | omega | decide | assumption) (by first | omega | decide | assumption) (by first | omega | decide | assumption) ⟨hkw, hktx, hkco⟩ (by first | omega | decide | assumption)) (cwV 1 hts gX5_read_X5_takeMark rfl rfl rfl hdX5_takeMark_v ⟨Nat.le_of_ble_eq_true rfl, Nat.le_of_ble_eq_true rfl⟩) hN hE hL (rcv6 hN hT hw.1) rfl rfl hl.1 (Nat.le_of_ble_eq_true rfl) dX5_read_80 (show 5 + 0 ≤ 11 by omega) (show ((0 + 8) + 88) + 0 ≤ 1332 by omega) (fun r3072 H1 locs hL hqr3072 => ?_)
      obtain ⟨hT1, hF1, hqr3072⟩ := hqr3072
      have hksq := hF1.hP (va_P.cons hksq va_P.nil) (fa_c ⟨by rw [hsqT.1]; decide, by rw [hsqT.2]; first | decide | (simp; done) | (simp; omega)⟩ fa_n) 0 _ rfl
      have hkct := hF1.hP (va_P.cons hkct va_P.nil) (fa_c ⟨by rw [hct.1]; decide, by rw [hct.2]; first | decide | (simp; done) | (simp; omega)⟩ fa_n) 0 _ rfl
      have hkof := hF1.hP (va_P.cons hkof va_P.nil) (fa_c ⟨by rw [hof.1]; decide, by rw [hof.2]; first | decide | (simp; done) | (simp; omega)⟩ fa_n) 0 _ rfl
      have hkdr := hF1.hP (va_P.cons hkdr va_P.nil) (fa_c ⟨by rw [hdr.1]; decide, by rw [hdr.2]; first | decide | (simp; done) | (simp; omega)⟩ fa_n) 0 _ rfl
      have hkdl := hF1.hP (va_P.cons hkdl va_P.nil) (fa_c ⟨by rw [hdl.1]; decide, by rw [hdl.2]; first | decide | (simp; done) | (simp; omega)⟩ fa_n) 0 _ rfl
      have hF := hF.tr ((hF1.kf hKF).mono (by simp))
      have hT := hT1
      rcases hqr3072 with ⟨rfl, e3073, m3074⟩ | ⟨rfl, e3075, m3076⟩
      · obtain ⟨z3077, hz3077⟩ : ∃ z9, z9 = skp B (z3065 + 1) := ⟨_, rfl⟩
        rw [← hz3077] at m3074
        have bz3077 : z3077 ≤ tn := by rw [hz3077]; exact (skp_b hY (Nat.succ_le_of_lt (mark_lt hY (by first | decide | exact hch.1) e3073))).2
        have hzE := tkE_le hY (s := z3077) (by omega)
        obtain ⟨hkw, hktx, hkco⟩ := m3074
        have gzz3077 : z3065 + 1 ≤ z3077 := by rw [hz3077]; exact run_le
        refine lv_if_ne (tgt := 88) hx hb dX5_read_83 (by decide) (fun _ => ?_) (fun c9 => absurd c9 (by decide))
        refine lv_iconst (v := 0) hx hb dX5_read_88 (by decide) ?_
        refine lv_istore_n (lv' := [(2, .int 0), (0, .ref w), (1, .int (nI tn))]) hx hb dX5_read_89 rfl hl (by decide) rfl (fun ls hl => ?_)
        obtain ⟨z0, hz0⟩ : ∃ z9, z9 = z3077 := ⟨_, rfl⟩
        obtain ⟨ec0, hec0⟩ : ∃ e9, e9 = ec9 := ⟨_, rfl⟩
        rw [← hz0] at hkw
        rw [← hec0] at hkw
        have hz0n : z0 ≤ tn := by omega
        refine W.know (fun hg => ?_)
        rw [hH0] at hg
        have hgg : GG9 κ3071 w H0 _ := Or.inl ⟨hp1, hg.mono (by omega) (by omega)⟩
        refine W.tight (k := 8) (n := 714) (by rw [hH0]; exact hgg.all) ?_
        refine lp_m (α := Nat × KM × Nat × (Nat → Int32) × Nat × Int32 × Int32 × Int32 × Int32 × Value × (Option (List Int32)) × (Nat → Int32) × (Nat → Int32) × (Nat → Int32) × (Nat → Int32)) (nL := 3) (fun a9 => 600 - a9.1) (fun a9 H9 l9 => (a9.1 ≤ 600 ∧ a9.2.2.1 ≤ tn ∧ a9.1 < a9.2.2.1) ∧ (∀ a, (κ a).1 ≠ 0 → a ≠ w → a9.2.1 a = κ a) ∧ (KF κ a9.2.1) ∧ (T2 a9.2.1 w 6 10) ∧ ((a9.2.1 w).2.2.1 = 0) ∧ ((κ (a9.2.1 w).2.2.2).1 = 0) ∧ (¬ (a9.2.1 w).2.2.2 = 0) ∧ (T2 a9.2.1 (a9.2.1 w).2.2.2 7 11) ∧ (GG9 a9.2.1 w H0 H9) ∧ (T2 a9.2.1 tx 16 10) ∧ (T2 a9.2.1 co 17 10) ∧ (T2 a9.2.1 ct 18 11) ∧ (T2 a9.2.1 of 19 11) ∧ (T2 a9.2.1 dr 19 11) ∧ (T2 a9.2.1 dl 20 11) ∧ ((a9.2.2.2.2.2.2.2.2.2.2.1 = none ∧ a9.2.2.2.2.2.2.2.2.2.1 = .null ∧ a9.2.2.2.2.1 = 0) ∨ (a9.2.2.2.2.2.2.2.2.2.2.1 ≠ none ∧ ∃ a, a9.2.2.2.2.2.2.2.2.2.1 = .ref a)) ∧ (a9.2.2.2.2.1 ≤ a9.2.2.1) ∧ (SPB B pl z0 S00 = SPB B pl a9.2.2.1 (a9.2.2.2.2.2.2.2.1, a9.2.2.2.2.2.2.2.2.1, a9.2.2.2.2.2.2.2.2.2.2.1, a9.2.2.2.2.2.2.2.2.2.2.2.1, a9.2.2.2.2.2.2.2.2.2.2.2.2.1, a9.2.2.2.2.2.2.2.2.2.2.2.2.2.1, a9.2.2.2.2.2.2.2.2.2.2.2.2.2.2)) ∧ (RS D cs w H9 tx f co a9.2.2.2.1 (a9.2.1 w).2.2.1 tn (tkE B a9.2.2.1) (tkK B a9.2.2.1) a9.2.2.1 (tkV B a9.2.2.1) a9.2.2.2.2.2.1 a9.2.2.2.2.2.2.1 a9.2.2.2.2.1 (.ref (a9.2.1 w).2.2.2) ec0 (-1)) ∧ (SUX D cs (a9.2.1 w).2.2.2 H9 pl a9.2.2.2.2.2.2.2.1 a9.2.2.2.2.2.2.2.2.1 a9.2.2.2.2.2.2.2.2.2.1 ct of dr dl a9.2.2.2.2.2.2.2.2.2.2.2.1 a9.2.2.2.2.2.2.2.2.2.2.2.2.1 a9.2.2.2.2.2.2.2.2.2.2.2.2.2.1 a9.2.2.2.2.2.2.2.2.2.2.2.2.2.2) ∧ (WT B0 D cs T a9.2.1 H9) ∧ (Fr B0 [10, 11] κ H0 H9) ∧ (OkL B0 l9)) (fun a9 => [(2, .int (nI a9.1)), (0, .ref w)]) ?_ (0, κ3071, z0, cf, 0, (nI pl), (nI z3054), 0, 0, .null, none, (fun _ => 0), (fun _ => 0), (fun _ => 0), (fun _ => 0)) _ _ _ ⟨(by show (0) ≤ 600 ∧ (z0) ≤ tn ∧ (0) < (z0); omega), hKW, hKF, hw, hw1, hsf, hs0, hsu, hgg, htx, hco, hct, hof, hdr, hdl, (Or.inl ⟨rfl, rfl, rfl⟩), (by show (0) ≤ (z0); omega), rfl, (by rw [ewq]; exact ⟨hkw, hktx, hkco⟩), (by rw [ewq]; exact ⟨hksq, hkct, hkof, hkdr, hkdl, hod⟩), hT, hF, hL⟩ (lv_sub hl [0, 1] rfl)
        rintro ⟨k, κ9, zc, cf9, cc9, ta9, tk9, ne9, pa9, mg9, om9, tc9, fo9, fd9, fl9⟩ H locs ls ih3078 ⟨hk, hKW, hKF, hw, hw1, hsf, hs0, hsu, hgg, htx, hco, hct, hof, hdr, hdl, hom, hcz, hsp, hks, hsx9, hT, hF, hL⟩ hl
        have hl : lv_has ls 3 [(2, .int (nI k)), (0, .ref w)] := hl
        have hk : k ≤ 600 ∧ zc ≤ tn ∧ k < zc := hk
        have hKW : ∀ a, (κ a).1 ≠ 0 → a ≠ w → κ9 a = κ a := hKW
        have hKF : KF κ κ9 := hKF
        have hw : T2 κ9 w 6 10 := hw
        have hw1 : (κ9 w).2.2.1 = 0 := hw1
        have hsf : (κ (κ9 w).2.2.2).1 = 0 := hsf
        have hs0 : ¬ (κ9 w).2.2.2 = 0 := hs0
        have hsu : T2 κ9 (κ9 w).2.2.2 7 11 := hsu
        have hgg : GG9 κ9 w H0 H := hgg
        have htx : T2 κ9 tx 16 10 := htx
        have hco : T2 κ9 co 17 10 := hco
        have hct : T2 κ9 ct 18 11 := hct
        have hof : T2 κ9 of 19 11 := hof
        have hdr : T2 κ9 dr 19 11 := hdr
        have hdl : T2 κ9 dl 20 11 := hdl
        have hom : (om9 = none ∧ mg9 = .null ∧ cc9 = 0) ∨ (om9 ≠ none ∧ ∃ a, mg9 = .ref a) := hom
        have hcz : cc9 ≤ zc := hcz
        have hsp : SPB B pl z0 S00 = SPB B pl zc (ne9, pa9, om9, tc9, fo9, fd9, fl9) := hsp
        have hks : RS D cs w H tx f co cf9 (κ9 w).2.2.1 tn (tkE B zc) (tkK B zc) zc (tkV B zc) ta9 tk9 cc9 (.ref (κ9 w).2.2.2) ec0 (-1) := hks
        have hsx9 : SUX D cs (κ9 w).2.2.2 H pl ne9 pa9 mg9 ct of dr dl tc9 fo9 fd9 fl9 := hsx9
        have hT : WT B0 D cs T κ9 _ := hT
        obtain ⟨hkw, hktx, hkco⟩ := hks
        have hzE := tkE_le hY (s := zc) (by omega)
        obtain ⟨hksq, hkct, hkof, hkdr, hkdl, hod⟩ := hsx9
        have hq18 := f18 hT hct hkct
        have hq20 := f20 hT hdl hkdl
        refine lv_iload_n hx hb dX5_read_90 rfl (lv_at hl 0 rfl) ?_
        refine lv_sipush (v := 600) hx hb dX5_read_91 (by decide) ?_
        refine lv_icmp_ge (tgt := 128) hx hb dX5_read_94 (by decide) (fun c3079 => ?_) (fun c3079 => ?_)
        · have c3079 : 600 ≤ k := (nI_leI (a := 600) (b := k) (by omega) (by omega)).mp c3079
          exact absurd c3079 (by omega)
        · have c3079 : ¬ 600 ≤ k := fun h9 => c3079 ((nI_leI (a := 600) (b := k) (by omega) (by omega)).mpr h9)
          refine lv_aload_n hx hb dX5_read_97 rfl (lv_at hl 1 rfl) ?_
          obtain ⟨hb3080, e3080, hat3080, hk3080⟩ := hT.o6 hw.1
          obtain ⟨f3080_0, f3080_2, f3080_3, f3080_4, f3080_5, f3080_6, f3080_7, f3080_8, f3080_9, f3080_10, f3080_11, f3080_12, f3080_13, rfl, c3080_1, c3080_2, c3080_3, c3080_5, c3080_10, t3080_0, t3080_9, c3080_11, c3080_p2⟩ := hk3080
          obtain ⟨rfl, rfl, rfl, rfl, rfl, rfl, rfl, rfl, rfl, rfl, rfl, rfl, rfl⟩ := eq6 hat3080 hkw (by omega)
          have hP : va_P D vwCl [(w, .inr (5, [.ref tx, .int (nI ((κ9 w).2.2.1)), .int (nI tn), .int (nI ((tkE B zc))), .int (tkK B zc), .int (nI zc), .int (tkV B zc), .int ta9, .int tk9, .ref co, .int (nI cc9), .ref (κ9 w).2.2.2, .int ec0, .int (-1)]))] _ := va_P.cons hat3080 va_P.nil
          refine va_get (D := D) (ci := 5) (v := .int (tkK B zc)) (C := RX5) (T := TX5) (N := 14) hx hb hts iX5_read_5 hown hN.1 hP 0 rfl rfl 4 (by decide) (hts _ mX5_read_19) (fun _ h9 => h9) rfl dX5_read_98 ?_
          refine lv_if_eq (tgt := 128) hx hb dX5_read_101 (by decide) (fun c3081 => ?_) (fun c3081 => ?_)
          · have hze := tkK_0.mp c3081
            refine lv_aload_n hx hb dX5_read_128 rfl (lv_at hl 1 rfl) ?_
            refine va_get (D := D) (ci := 5) (v := .ref (κ9 w).2.2.2) (C := RX5) (T := TX5) (N := 14) hx hb hts iX5_read_5 hown hN.1 hP 0 rfl rfl 11 (by decide) (hts _ mX5_read_18) (fun _ h9 => h9) rfl dX5_read_129 ?_
            refine cv_v (As := []) (rest := []) (b := (κ9 w).2.2.2) ⟨hx, hb, hml, hown, hts⟩ (KC.grv (c_X6_fillIn_de hT (sq := (κ9 w).2.2.2) (by first | omega | decide | assumption) (by first | omega | decide | assumption) ⟨hksq, hkct, hkof, hkdr, hkdl, hod⟩)) (cwV 0 hts gX5_read_X6_fillIn rfl rfl rfl hdX6_fillIn_v ⟨Nat.le_of_ble_eq_true rfl, Nat.le_of_ble_eq_true rfl⟩) hN hE hL (rcv7 hN hT hsu.1) rfl rfl hl.1 (Nat.le_of_ble_eq_true rfl) dX5_read_132 (show 8 + 0 ≤ 11 by omega) (show 714 + 0 ≤ 1332 by omega) (fun H1 locs hL hqr3082 => ?_)
            obtain ⟨hgr3082, hqr3082⟩ := hqr3082
            obtain ⟨hT1, hF1, hqr3082⟩ := hqr3082
            have hP : va_P D vwCl [(w, .inr (5, [.ref tx, .int (nI ((κ9 w).2.2.1)), .int (nI tn), .int (nI ((tkE B zc))), .int (tkK B zc), .int (nI zc), .int (tkV B zc), .int ta9, .int tk9, .ref co, .int (nI cc9), .ref (κ9 w).2.2.2, .int ec0, .int (-1)]))] _ := hF1.hP (hP.sub [0] rfl) (fa_c ⟨by rw [hw.1]; decide, by rw [hw.2]; first | decide | (simp; done) | (simp [h15a, h15b, h15c]; done) | (simp; omega)⟩ fa_n)
            have hkw := hF1.hP (va_P.cons hkw va_P.nil) (fa_c ⟨by rw [hw.1]; decide, by rw [hw.2]; first | decide | (simp; done) | (simp; omega)⟩ fa_n) 0 _ rfl
            have hktx := hF1.hP (va_P.cons hktx va_P.nil) (fa_c ⟨by rw [htx.1]; decide, by rw [htx.2]; first | decide | (simp; done) | (simp; omega)⟩ fa_n) 0 _ rfl
            have hkco := hF1.hP (va_P.cons hkco va_P.nil) (fa_c ⟨by rw [hco.1]; decide, by rw [hco.2]; first | decide | (simp; done) | (simp; omega)⟩ fa_n) 0 _ rfl
            have hF := hF.tr ((hF1.kf hKF).mono (by simp))
            have hT := hT1
            have hgg : GG9 κ9 w H0 _ := hgg.gr hgr3082
            have m3083 := hqr3082
            obtain ⟨hksq, hkct, hkof, hkdr, hkdl, hod⟩ := m3083
            have hq18 := f18 hT hct hkct
            have hq20 := f20 hT hdl hkdl
            refine lv_aload_n hx hb dX5_read_135 rfl (lv_at hl 1 rfl) ?_
            refine va_get (D := D) (ci := 5) (v := .ref (κ9 w).2.2.2) (C := RX5) (T := TX5) (N := 14) hx hb hts iX5_read_5 hown hN.1 hP 0 rfl rfl 11 (by decide) (hts _ mX5_read_18) (fun _ h9 => h9) rfl dX5_read_136 ?_
            refine W.know (fun hg => ?_)
            rw [hH0] at hg
            have hkz := hkw
            rw [hw1] at hkz
            exact en_n hx hb hr hlocks (by first | exact Or.inl ⟨_, rfl⟩ | exact Or.inr ⟨_, rfl⟩) hL (show 8 ≤ 11 by omega) (show 714 ≤ 1332 by omega) (Or.inr ⟨_, rfl⟩) dX5_read_139 (⟨ro κ9, (fun a h1 h2 h3 => by rw [ro_n (by rw [hKW a h1 h2]; exact h3)]; exact hKW a h1 h2), (fun a h1 => (hKF a h1).1), (by rw [T2, ro_n (by rw [hw.2]; decide)]; exact hw), (by rw [ro_n (by rw [hw.2]; decide)]; exact hw1), hT.re, hF, hgg.all, Or.inr ⟨_, pl, (ne9, pa9, om9, tc9, fo9, fd9, fl9), mg9, ct, of, dr, dl, rfl, ro_t hsu, rd_o (by rw [← hz3048]; exact e3050) (by rw [← hz3048, ← hz3054]; exact e3066) e3073 (by rw [← hz3077, ← hz0]; exact hsp.trans (SP_end hze)), (by omega), ⟨hksq, hkct, hkof, hkdr, hkdl, hod⟩, _, _, _, ⟨_, _, _, _, _, _, _, _, (by omega), (by omega), (by omega), hkz, hktx, hkco⟩⟩⟩)
          · have hzn : B zc ≠ -1 := fun g9 => c3081 (tkK_0.mpr g9)
            refine lv_aload_n hx hb dX5_read_104 rfl (lv_at hl 1 rfl) ?_
            refine cv_i (As := []) (rest := []) (b := w) ⟨hx, hb, hml, hown, hts⟩ (c_X5_readStatement_de hT (w := w) hw (by first | omega | decide | assumption) (by first | omega | decide | assumption) (by first | omega | decide | assumption) (by first | omega | decide | assumption) (by first | omega | decide | assumption) (by first | omega | decide | assumption) ⟨hksq, hkct, hkof, hkdr, hkdl, hod⟩ (by first | omega | decide | assumption) (by first | omega | decide | assumption) (by first | omega | decide | assumption) ⟨hkw, hktx, hkco⟩) (cwV 0 hts gX5_read_X5_readStatement rfl rfl rfl hdX5_readStatement_v ⟨Nat.le_of_ble_eq_true rfl, Nat.le_of_ble_eq_true rfl⟩) hN hE hL (rcv6 hN hT hw.1) rfl rfl hl.1 (Nat.le_of_ble_eq_true rfl) dX5_read_105 (show 8 + 3 ≤ 11 by omega) (show 714 + 618 ≤ 1332 by omega) (fun r3084 H1 locs hL hqr3084 => ?_)
            obtain ⟨κr3084, hxr3084, hT1, hF1, hsr3084, hqr3084⟩ := hqr3084
            have hF := hF.tr ((hF1.kf hKF).mono (by simp))
            have hT := hT1
            have hxfr3084 := KSF hxr3084 hsu hsr3084
            have hwk := hw1
            have ew9 : κr3084 w = κ9 w := hxr3084 w (by rw [hw.1]; decide) (ne_c hw.1 hsu.1 (by decide))
            have hKW : ∀ a, (κ a).1 ≠ 0 → a ≠ w → κr3084 a = κ a := fun a h1 h2 => (hxr3084 a (by rw [hKW a h1 h2]; exact h1) (fun e9 => h1 (by rw [e9]; exact hsf))).trans (hKW a h1 h2)
            obtain ⟨hgs, hqr3084⟩ := hqr3084
            have hgg : GG9 κr3084 w H0 _ := hgg.step ew9 hgs
            have hsf : (κ (κr3084 w).2.2.2).1 = 0 := by rw [ew9]; exact hsf
            have hs0 : ¬ (κr3084 w).2.2.2 = 0 := by rw [ew9]; exact hs0
            have hsu : T2 κr3084 (κr3084 w).2.2.2 7 11 := by rw [ew9]; exact hsr3084
            have hw1 : (κr3084 w).2.2.1 = 0 := by rw [ew9]; exact hw1
            have hsuq : T2 κr3084 (κ9 w).2.2.2 7 11 := hsr3084
            have hKF := hKF.tr hxfr3084
            have hw := (KF.t2 hxfr3084 hw (by decide))
            have htx := (KF.t2 hxfr3084 htx (by decide))
            have hco := (KF.t2 hxfr3084 hco (by decide))
            have hct := (KF.t2 hxfr3084 hct (by decide))
            have hof := (KF.t2 hxfr3084 hof (by decide))
            have hdr := (KF.t2 hxfr3084 hdr (by decide))
            have hdl := (KF.t2 hxfr3084 hdl (by decide))
            rcases hqr3084 with ⟨rfl, ne3085, pa3086, mg3087, om3088, tc3089, fo3090, fd3091, fl3092, q3093, cf3094, cc3095, ta3096, tk3097, e3098, u3099, v3100, b3101, o3102, m3103, x3104⟩ | ⟨rfl, c3105, o3106, e3107, x3108⟩
            · obtain ⟨hkw, hktx, hkco⟩ := m3103
              have hkw := sd5 (k' := (κr3084 w).2.2.1) (by rw [ew9]) hkw
              have hzE := tkE_le hY (s := q3093) (by omega)
              obtain ⟨hksq, hkct, hkof, hkdr, hkdl, hod⟩ := x3104
              have hq18 := f18 hT hct hkct
              have hq20 := f20 hT hdl hkdl
              refine lv_if_eq (tgt := 120) hx hb dX5_read_108 (by decide) (fun c9 => absurd c9 (by decide)) (fun _ => ?_)
              refine lv_aload_n hx hb dX5_read_111 rfl (lv_at hl 1 rfl) ?_
              refine lv_bipush (v := 59) hx hb dX5_read_112 (by decide) ?_
              refine cv_i (As := [.int 59]) (rest := []) (b := w) ⟨hx, hb, hml, hown, hts⟩ (KC.gri (c_X5_takeMark hT (w := w) hw (ch := 59) (by first | omega | decide | assumption) (by first | omega | decide | assumption) (by first | omega | decide | assumption) (by first | omega | decide | assumption) ⟨hkw, hktx, hkco⟩ (by first | omega | decide | assumption))) (cwV 1 hts gX5_read_X5_takeMark rfl rfl rfl hdX5_takeMark_v ⟨Nat.le_of_ble_eq_true rfl, Nat.le_of_ble_eq_true rfl⟩) hN hE hL (rcv6 hN hT hw.1) rfl rfl hl.1 (Nat.le_of_ble_eq_true rfl) dX5_read_114 (show 11 + 0 ≤ 11 by omega) (show (714 + 618) + 0 ≤ 1332 by omega) (fun r3109 H1 locs hL hqr3109 => ?_)
              obtain ⟨hgr3109, hqr3109⟩ := hqr3109
              obtain ⟨hT1, hF1, hqr3109⟩ := hqr3109
              have hksq := hF1.hP (va_P.cons hksq va_P.nil) (fa_c ⟨by rw [hsuq.1]; decide, by rw [hsuq.2]; first | decide | (simp; done) | (simp; omega)⟩ fa_n) 0 _ rfl
              have hkct := hF1.hP (va_P.cons hkct va_P.nil) (fa_c ⟨by rw [hct.1]; decide, by rw [hct.2]; first | decide | (simp; done) | (simp; omega)⟩ fa_n) 0 _ rfl
              have hkof := hF1.hP (va_P.cons hkof va_P.nil) (fa_c ⟨by rw [hof.1]; decide, by rw [hof.2]; first | decide | (simp; done) | (simp; omega)⟩ fa_n) 0 _ rfl
              have hkdr := hF1.hP (va_P.cons hkdr va_P.nil) (fa_c ⟨by rw [hdr.1]; decide, by rw [hdr.2]; first | decide | (simp; done) | (simp; omega)⟩ fa_n) 0 _ rfl
              have hkdl := hF1.hP (va_P.cons hkdl va_P.nil) (fa_c ⟨by rw [hdl.1]; decide, by rw [hdl.2]; first | decide | (simp; done) | (simp; omega)⟩ fa_n) 0 _ rfl
              have hF := hF.tr ((hF1.kf hKF).mono (by simp))
              have hT := hT1
              have hgg : GG9 κr3084 w H0 _ := hgg.gr hgr3109
              rcases hqr3109 with ⟨rfl, e3110, m3111⟩ | ⟨rfl, e3112, m3113⟩
              · obtain ⟨z3114, hz3114⟩ : ∃ z9, z9 = skp B (q3093 + 1) := ⟨_, rfl⟩
                rw [← hz3114] at m3111
                have bz3114 : z3114 ≤ tn := by rw [hz3114]; exact (skp_b hY (Nat.succ_le_of_lt (mark_lt hY (by first | decide | exact hch.1) e3110))).2
                have hzE := tkE_le hY (s := z3114) (by omega)
                obtain ⟨hkw, hktx, hkco⟩ := m3111
                have gzz3114 : q3093 + 1 ≤ z3114 := by rw [hz3114]; exact run_le
                refine lv_if_ne (tgt := 122) hx hb dX5_read_117 (by decide) (fun _ => ?_) (fun c9 => absurd c9 (by decide))
                refine lv_iinc (v := (nI (k + 1))) (lv' := [(2, .int (nI (k + 1))), (0, .ref w)]) hx hb dX5_read_122 hl (k := 0) rfl (nI_add _ 1) (by decide) rfl (fun ls hl => ?_)
                refine lv_goto (tgt := 90) hx hb dX5_read_125 (by decide) ?_
                refine W.tight (k := 8) (n := 714) (by rw [hH0]; exact hgg.all) ?_
                have hsp := hsp.trans (SP_ok hY hzn e3098 e3110)
                rw [← hz3114] at hsp
                exact ih3078 ((k + 1), κr3084, z3114, cf3094, cc3095, ta3096, tk3097, ne3085, pa3086, mg3087, om3088, tc3089, fo3090, fd3091, fl3092) _ _ _ (by show 600 - ((k + 1)) < 600 - k; omega) ⟨(by show ((k + 1)) ≤ 600 ∧ (z3114) ≤ tn ∧ ((k + 1)) < (z3114); omega), hKW, hKF, hw, hw1, hsf, hs0, hsu, hgg, htx, hco, hct, hof, hdr, hdl, o3102, (by show (cc3095) ≤ (z3114); omega), hsp, (RS.sq (congrArg (fun x => x.2.2.2) ew9) ⟨hkw, hktx, hkco⟩), (SUX.sq (congrArg (fun x => x.2.2.2) ew9) ⟨hksq, hkct, hkof, hkdr, hkdl, hod⟩), hT, hF, hL⟩ (lv_sub hl [0, 1] rfl)
              · obtain ⟨hkw, hktx, hkco⟩ := m3113
                refine lv_if_ne (tgt := 122) hx hb dX5_read_117 (by decide) (fun c9 => absurd (by decide) c9) (fun _ => ?_)
                refine lv_null hx hb dX5_read_120 ?_
                refine W.know (fun hg => ?_)
                rw [hH0] at hg
                have hkz := hkw
                rw [hw1] at hkz
                exact en_n hx hb hr hlocks (by first | exact Or.inl ⟨_, rfl⟩ | exact Or.inr ⟨_, rfl⟩) hL (show 11 ≤ 11 by omega) (show (714 + 618) ≤ 1332 by omega) (Or.inl rfl) dX5_read_121 (⟨κr3084, (fun a h1 h2 _ => hKW a h1 h2), (fun a h1 => (hKF a h1).1), hw, hw1, hT, hF, hgg.all, Or.inl ⟨rfl, _, _, _, _, rd_s (by rw [← hz3048]; exact e3050) (by rw [← hz3048, ← hz3054]; exact e3066) e3073 (by rw [← hz3077, ← hz0]; exact hsp.trans (SP_no hY hzn e3098 e3112)), ⟨_, _, _, _, _, _, _, _, (by omega), (by omega), (by omega), hkz, hktx, hkco⟩⟩⟩)
            · refine lv_if_eq (tgt := 120) hx hb dX5_read_108 (by decide) (fun _ => ?_) (fun c9 => absurd (by decide) c9)
              refine lv_null hx hb dX5_read_120 ?_
              refine W.know (fun hg => ?_)
              rw [hH0] at hg
              exact en_n hx hb hr hlocks (by first | exact Or.inl ⟨_, rfl⟩ | exact Or.inr ⟨_, rfl⟩) hL (show 11 ≤ 11 by omega) (show (714 + 618) ≤ 1332 by omega) (Or.inl rfl) dX5_read_121 (⟨κr3084, (fun a h1 h2 _ => hKW a h1 h2), (fun a h1 => (hKF a h1).1), hw, hw1, hT, hF, hgg.all, Or.inl ⟨rfl, _, _, _, _, rd_s (by rw [← hz3048]; exact e3050) (by rw [← hz3048, ← hz3054]; exact e3066) e3073 (by rw [← hz3077, ← hz0]; exact hsp.trans (SP_er hY hzn e3107)), (by rw [hwk] at x3108; exact x3108)⟩⟩)
      · obtain ⟨hkw, hktx, hkco⟩ := m3076
        refine lv_if_ne (tgt := 88) hx hb dX5_read_83 (by decide) (fun c9 => absurd (by decide) c9) (fun _ => ?_)
        refine lv_null hx hb dX5_read_86 ?_
        refine W.know (fun hg => ?_)
        rw [hH0] at hg
        have hkz := hkw
        rw [hw1] at hkz
        exact en_n hx hb hr hlocks (by first | exact Or.inl ⟨_, rfl⟩ | exact Or.inr ⟨_, rfl⟩) hL (show 5 ≤ 11 by omega) (show ((0 + 8) + 88) ≤ 1332 by omega) (Or.inl rfl) dX5_read_87 (⟨κ3071, (fun a h1 h2 _ => hKW a h1 h2), (fun a h1 => (hKF a h1).1), hw, hw1, hT, hF, hg.mono (by omega) (by omega), Or.inl ⟨rfl, _, _, _, _, rd_m (by rw [← hz3048]; exact e3050) (by rw [← hz3048, ← hz3054]; exact e3066) e3075, ⟨_, _, _, _, _, _, _, _, (by omega), (by omega), (by omega), hkz, hktx, hkco⟩⟩⟩)
    · obtain ⟨hkw, hktx, hkco⟩ := m3061
      have e3115 : numB B 1 8 z3054 = .inl (-2, z3054) := num_nd d3060
      refine lv_if_ne (tgt := 62) hx hb dX5_read_57 (by decide) (fun c9 => absurd (by decide) c9) (fun _ => ?_)
      refine lv_null hx hb dX5_read_60 ?_
      refine W.know (fun hg => ?_)
      rw [hH0] at hg
      have hkz := hkw
      rw [hw1] at hkz
      exact en_n hx hb hr hlocks (by first | exact Or.inl ⟨_, rfl⟩ | exact Or.inr ⟨_, rfl⟩) hL (Nat.zero_le _) (Nat.zero_le _) (Or.inl rfl) dX5_read_61 (⟨κ3045, (fun a h1 h2 _ => hKW a h1 h2), (fun a h1 => (hKF a h1).1), hw, hw1, hT, hF, hg.mono (by omega) (by omega), Or.inl ⟨rfl, _, _, _, _, rd_n (by rw [← hz3048]; exact e3050) (by rw [← hz3048, ← hz3054]; exact e3115), ⟨_, _, _, _, _, _, _, _, (by omega), (by omega), (by omega), hkz, hktx, hkco⟩⟩⟩)
    · obtain ⟨hkw, hktx, hkco⟩ := m3064
      have e3116 : numB B 1 8 z3054 = .inl (-3, z3054) := num_or d3062 g3063
      refine lv_if_ne (tgt := 62) hx hb dX5_read_57 (by decide) (fun c9 => absurd (by decide) c9) (fun _ => ?_)
      refine lv_null hx hb dX5_read_60 ?_
      refine W.know (fun hg => ?_)
      rw [hH0] at hg
      have hkz := hkw
      rw [hw1] at hkz
      exact en_n hx hb hr hlocks (by first | exact Or.inl ⟨_, rfl⟩ | exact Or.inr ⟨_, rfl⟩) hL (Nat.zero_le _) (Nat.zero_le _) (Or.inl rfl) dX5_read_61 (⟨κ3045, (fun a h1 h2 _ => hKW a h1 h2), (fun a h1 => (hKF a h1).1), hw, hw1, hT, hF, hg.mono (by omega) (by omega), Or.inl ⟨rfl, _, _, _, _, rd_n (by rw [← hz3048]; exact e3050) (by rw [← hz3048, ← hz3054]; exact e3116), ⟨_, _, _, _, _, _, _, _, (by omega), (by omega), (by omega), hkz, hktx, hkco⟩⟩⟩)
  · obtain ⟨hkw, hktx, hkco⟩ := m3053
    refine lv_if_eq (tgt := 60) hx hb dX5_read_47 (by decide) (fun _ => ?_) (fun c9 => absurd (by decide) c9)
    refine lv_null hx hb dX5_read_60 ?_
    refine W.know (fun hg => ?_)
    rw [hH0] at hg
    have hkz := hkw
    rw [hw1] at hkz
    exact en_n hx hb hr hlocks (by first | exact Or.inl ⟨_, rfl⟩ | exact Or.inr ⟨_, rfl⟩) hL (Nat.zero_le _) (Nat.zero_le _) (Or.inl rfl) dX5_read_61 (⟨κ3045, (fun a h1 h2 _ => hKW a h1 h2), (fun a h1 => (hKF a h1).1), hw, hw1, hT, hF, hg.mono (by omega) (by omega), Or.inl ⟨rfl, _, _, _, _, (rd_w (by rw [← hz3048]; exact e3052)).trans (by rw [← hz3048]), ⟨_, _, _, _, _, _, _, _, (by omega), (by omega), (by omega), hkz, hktx, hkco⟩⟩⟩)
