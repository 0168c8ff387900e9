set_option maxHeartbeats 4000000 in
set_option maxRecDepth 100000 in
theorem c_X5_codeOfWord {l : Launch} {D : va_G} {cs : Nat → ClassId} {B0 T : Nat} {κ : KM} {H0 : Heap} (hT : WT B0 D cs T κ H0) {w : Nat} (hw : T2 κ w 6 10) {tx co tn cc : Nat} {f cf B : Nat → Int32} {ta tk ec es : Int32} {su : Value} (hY : BY B tn) (hf : TXB f B tn) (hcc : cc ≤ 600) {z : Nat} (hz : z ≤ tn) (hrs : RS D cs w H0 tx f co cf (κ w).2.2.1 tn (tkE B z) (tkK B z) z (tkV B z) ta tk cc su ec es) : KC l yX5_codeOfWord wsX5_codeOfWord 5 107 0 0 D cs B0 H0 [.ref w] (Qi (fun r H => H = H0 ∧ ((r = (-1) ∧ isW B 1 z) ∨ (r = (-2) ∧ ¬ isW B 1 z ∧ isW B 7 z) ∨ (r = (-3) ∧ ¬ isW B 1 z ∧ ¬ isW B 7 z ∧ isW B 8 z) ∨ (r = (-4) ∧ ¬ isW B 1 z ∧ ¬ isW B 7 z ∧ ¬ isW B 8 z ∧ isW B 9 z) ∨ (r = 0 ∧ ¬ isW B 1 z ∧ ¬ isW B 7 z ∧ ¬ isW B 8 z ∧ ¬ isW B 9 z)))) := by
  refine KC.of cX5_codeOfWord 1 (some .int) (by decide) rfl (Nat.le_of_ble_eq_true rfl) ?_
  intro p e s m below meth c ls hx hb hr hml hown hts hlocks hin hN hE hH0 hl
  have hown : s.vm.findClass RX5 = some m.cls := hown
  have hl : lv_has ls 1 [(0, .ref w)] := hl
  have hL : OkL B0 [] := OkL.nil
  obtain ⟨hkw, hktx, hkco⟩ := hrs
  have h6n := hY.1
  obtain ⟨htx, hco⟩ : T2 κ tx 16 10 ∧ T2 κ co 17 10 := RS.t2 hT hw hkw
  have hzE := tkE_le hY (s := z) (by omega)
  refine lv_aload_n hx hb dX5_codeOfWord_0 rfl (lv_at hl 0 rfl) ?_
  refine va_ldcS hx hb hown (hN.s 1 rfl) dX5_codeOfWord_1 ?_
  refine cv_i (As := [.ref (cs 101)]) (rest := []) (b := w) ⟨hx, hb, hml, hown, hts⟩ (c_X5_isWord hT (w := w) hw (i := 1) (by decide) (by first | omega | decide | assumption) (by first | omega | decide | assumption) (by first | omega | decide | assumption) (by first | omega | decide | assumption) ⟨hkw, hktx, hkco⟩) (cwV 1 hts gX5_codeOfWord_X5_isWord rfl rfl rfl hdX5_isWord_v ⟨Nat.le_of_ble_eq_true rfl, Nat.le_of_ble_eq_true rfl⟩) hN hE hL (rcv6 hN hT hw.1) rfl rfl hl.1 (Nat.le_of_ble_eq_true rfl) dX5_codeOfWord_3 (Nat.zero_le _) (Nat.zero_le _) (fun r1488 H1 locs hL hqr1488 => ?_)
  obtain ⟨h9, hqr1488⟩ := hqr1488; replace h9 := h9.symm; subst h9
  rcases hqr1488 with ⟨rfl, e1489⟩ | ⟨rfl, e1490⟩
  · refine lv_if_eq (tgt := 11) hx hb dX5_codeOfWord_6 (by decide) (fun c9 => absurd c9 (by decide)) (fun _ => ?_)
    refine lv_iconst (v := (-1)) hx hb dX5_codeOfWord_9 (by decide) ?_
    exact en_i hx hb hr hlocks hL rfl (Nat.zero_le _) (Nat.zero_le _) dX5_codeOfWord_10 (⟨rfl, Or.inl ⟨rfl, e1489⟩⟩)
  · refine lv_if_eq (tgt := 11) hx hb dX5_codeOfWord_6 (by decide) (fun _ => ?_) (fun c9 => absurd (by decide) c9)
    refine lv_aload_n hx hb dX5_codeOfWord_11 rfl (lv_at hl 0 rfl) ?_
    refine va_ldcS hx hb hown (hN.s 7 rfl) dX5_codeOfWord_12 ?_
    refine cv_i (As := [.ref (cs 107)]) (rest := []) (b := w) ⟨hx, hb, hml, hown, hts⟩ (c_X5_isWord hT (w := w) hw (i := 7) (by decide) (by first | omega | decide | assumption) (by first | omega | decide | assumption) (by first | omega | decide | assumption) (by first | omega | decide | assumption) ⟨hkw, hktx, hkco⟩) (cwV 1 hts gX5_codeOfWord_X5_isWord rfl rfl rfl hdX5_isWord_v ⟨Nat.le_of_ble_eq_true rfl, Nat.le_of_ble_eq_true rfl⟩) hN hE hL (rcv6 hN hT hw.1) rfl rfl hl.1 (Nat.le_of_ble_eq_true rfl) dX5_codeOfWord_14 (Nat.zero_le _) (Nat.zero_le _) (fun r1491 H1 locs hL hqr1491 => ?_)
    obtain ⟨h9, hqr1491⟩ := hqr1491; replace h9 := h9.symm; subst h9
    rcases hqr1491 with ⟨rfl, e1492⟩ | ⟨rfl, e1493⟩
    · refine lv_if_eq (tgt := 23) hx hb dX5_codeOfWord_17 (by decide) (fun c9 => absurd c9 (by decide)) (fun _ => ?_)
      refine lv_bipush (v := (-2)) hx hb dX5_codeOfWord_20 (by decide) ?_
      exact en_i hx hb hr hlocks hL rfl (Nat.zero_le _) (Nat.zero_le _) dX5_codeOfWord_22 (⟨rfl, Or.inr (Or.inl ⟨rfl, e1490, e1492⟩)⟩)
    · refine lv_if_eq (tgt := 23) hx hb dX5_codeOfWord_17 (by decide) (fun _ => ?_) (fun c9 => absurd (by decide) c9)
      refine lv_aload_n hx hb dX5_codeOfWord_23 rfl (lv_at hl 0 rfl) ?_
      refine va_ldcS hx hb hown (hN.s 8 rfl) dX5_codeOfWord_24 ?_
      refine cv_i (As := [.ref (cs 108)]) (rest := []) (b := w) ⟨hx, hb, hml, hown, hts⟩ (c_X5_isWord hT (w := w) hw (i := 8) (by decide) (by first | omega | decide | assumption) (by first | omega | decide | assumption) (by first | omega | decide | assumption) (by first | omega | decide | assumption) ⟨hkw, hktx, hkco⟩) (cwV 1 hts gX5_codeOfWord_X5_isWord rfl rfl rfl hdX5_isWord_v ⟨Nat.le_of_ble_eq_true rfl, Nat.le_of_ble_eq_true rfl⟩) hN hE hL (rcv6 hN hT hw.1) rfl rfl hl.1 (Nat.le_of_ble_eq_true rfl) dX5_codeOfWord_26 (Nat.zero_le _) (Nat.zero_le _) (fun r1494 H1 locs hL hqr1494 => ?_)
      obtain ⟨h9, hqr1494⟩ := hqr1494; replace h9 := h9.symm; subst h9
      rcases hqr1494 with ⟨rfl, e1495⟩ | ⟨rfl, e1496⟩
      · refine lv_if_eq (tgt := 35) hx hb dX5_codeOfWord_29 (by decide) (fun c9 => absurd c9 (by decide)) (fun _ => ?_)
        refine lv_bipush (v := (-3)) hx hb dX5_codeOfWord_32 (by decide) ?_
        exact en_i hx hb hr hlocks hL rfl (Nat.zero_le _) (Nat.zero_le _) dX5_codeOfWord_34 (⟨rfl, Or.inr (Or.inr (Or.inl ⟨rfl, e1490, e1493, e1495⟩))⟩)
      · refine lv_if_eq (tgt := 35) hx hb dX5_codeOfWord_29 (by decide) (fun _ => ?_) (fun c9 => absurd (by decide) c9)
        refine lv_aload_n hx hb dX5_codeOfWord_35 rfl (lv_at hl 0 rfl) ?_
        refine va_ldcS hx hb hown (hN.s 9 rfl) dX5_codeOfWord_36 ?_
        refine cv_i (As := [.ref (cs 109)]) (rest := []) (b := w) ⟨hx, hb, hml, hown, hts⟩ (c_X5_isWord hT (w := w) hw (i := 9) (by decide) (by first | omega | decide | assumption) (by first | omega | decide | assumption) (by first | omega | decide | assumption) (by first | omega | decide | assumption) ⟨hkw, hktx, hkco⟩) (cwV 1 hts gX5_codeOfWord_X5_isWord rfl rfl rfl hdX5_isWord_v ⟨Nat.le_of_ble_eq_true rfl, Nat.le_of_ble_eq_true rfl⟩) hN hE hL (rcv6 hN hT hw.1) rfl rfl hl.1 (Nat.le_of_ble_eq_true rfl) dX5_codeOfWord_38 (Nat.zero_le _) (Nat.zero_le _) (fun r1497 H1 locs hL hqr1497 => ?_)
        obtain ⟨h9, hqr1497⟩ := hqr1497; replace h9 := h9.symm; subst h9
        rcases hqr1497 with ⟨rfl, e1498⟩ | ⟨rfl, e1499⟩
        · refine lv_if_eq (tgt := 49) hx hb dX5_codeOfWord_41 (by decide) (fun c9 => absurd c9 (by decide)) (fun _ => ?_)
          refine lv_bipush (v := (-4)) hx hb dX5_codeOfWord_44 (by decide) ?_
          refine lv_goto (tgt := 50) hx hb dX5_codeOfWord_46 (by decide) ?_
          exact en_i hx hb hr hlocks hL rfl (Nat.zero_le _) (Nat.zero_le _) dX5_codeOfWord_50 (⟨rfl, Or.inr (Or.inr (Or.inr (Or.inl ⟨rfl, e1490, e1493, e1496, e1498⟩)))⟩)
        · refine lv_if_eq (tgt := 49) hx hb dX5_codeOfWord_41 (by decide) (fun _ => ?_) (fun c9 => absurd (by decide) c9)
          refine lv_iconst (v := 0) hx hb dX5_codeOfWord_49 (by decide) ?_
          exact en_i hx hb hr hlocks hL rfl (Nat.zero_le _) (Nat.zero_le _) dX5_codeOfWord_50 (⟨rfl, Or.inr (Or.inr (Or.inr (Or.inr (⟨rfl, e1490, e1493, e1496, e1499⟩))))⟩)
theorem mX5_putCode_1 : (.fieldLink RX5 38 "OneBeat$Reader" "codeCount" "I" : Cond) ∈ wsX5_putCode := List.mem_of_getElem? (i := 1) (by decide +kernel)
theorem iX5_putCode_5 : ∀ w ∈ wsX50, w ∈ wsX5_putCode := fun w h => List.mem_of_mem_drop (List.mem_of_mem_take ((show wsX50 = (wsX5_putCode.drop 3).take 14 by decide +kernel) ▸ h))
theorem mX5_putCode_2 : (.fieldLink RX5 15 "OneBeat$Reader" "codes" "[I" : Cond) ∈ wsX5_putCode := List.mem_of_getElem? (i := 2) (by decide +kernel)
set_option maxHeartbeats 4000000 in
set_option maxRecDepth 100000 in
theorem c_X5_putCode {l : Launch} {D : va_G} {cs : Nat → ClassId} {B0 T : Nat} {κ : KM} {H0 : Heap} (hT : WT B0 D cs T κ H0) {x : Int32} {w : Nat} (hw : T2 κ w 6 10) {tx co tn cc : Nat} {f cf B : Nat → Int32} {ta tk ec es : Int32} {su : Value} (hY : BY B tn) (hf : TXB f B tn) (hcc : cc ≤ 600) {z : Nat} (hz : z ≤ tn) (hrs : RS D cs w H0 tx f co cf (κ w).2.2.1 tn (tkE B z) (tkK B z) z (tkV B z) ta tk cc su ec es) (hc6 : cc < 600) : KC l yX5_putCode wsX5_putCode 0 0 0 0 D cs B0 H0 [.ref w, .int x] (Qv (fun H => WT B0 D cs T κ H ∧ Fr B0 [10] κ H0 H ∧ (RS D cs w H tx f co (upd cf cc x) (κ w).2.2.1 tn (tkE B z) (tkK B z) z (tkV B z) ta tk (cc + 1) su ec es))) := by
  refine KC.of cX5_putCode 2 none (by decide) rfl (Nat.le_of_ble_eq_true rfl) ?_
  intro p e s m below meth c ls hx hb hr hml hown hts hlocks hin hN hE hH0 hl
  have hown : s.vm.findClass RX5 = some m.cls := hown
  have hl : lv_has ls 2 [(0, .ref w), (1, .int x)] := hl
  have hL : OkL B0 [] := OkL.nil
  have hF : Fr B0 [10] κ H0 H0 := Fr.rf
  obtain ⟨hkw, hktx, hkco⟩ := hrs
  have h6n := hY.1
  obtain ⟨htx, hco⟩ : T2 κ tx 16 10 ∧ T2 κ co 17 10 := RS.t2 hT hw hkw
  have hzE := tkE_le hY (s := z) (by omega)
  refine lv_aload_n hx hb dX5_putCode_0 rfl (lv_at hl 0 rfl) ?_
  obtain ⟨hb1500, e1500, hat1500, hk1500⟩ := hT.o6 hw.1
  obtain ⟨f1500_0, f1500_2, f1500_3, f1500_4, f1500_5, f1500_6, f1500_7, f1500_8, f1500_9, f1500_10, f1500_11, f1500_12, f1500_13, rfl, c1500_1, c1500_2, c1500_3, c1500_5, c1500_10, t1500_0, t1500_9, c1500_11, c1500_p2⟩ := hk1500
  obtain ⟨rfl, rfl, rfl, rfl, rfl, rfl, rfl, rfl, rfl, rfl, rfl, rfl, rfl⟩ := eq6 hat1500 hkw (by omega)
  have hP : va_P D vwCl [(w, .inr (5, [.ref tx, .int (nI ((κ w).2.2.1)), .int (nI tn), .int (nI ((tkE B z))), .int (tkK B z), .int (nI z), .int (tkV B z), .int ta, .int tk, .ref co, .int (nI cc), su, .int ec, .int es]))] _ := va_P.cons hat1500 va_P.nil
  refine va_get (D := D) (ci := 5) (v := .int (nI cc)) (C := RX5) (T := TX5) (N := 14) hx hb hts iX5_putCode_5 hown hN.1 hP 0 rfl rfl 10 (by decide) (hts _ mX5_putCode_1) (fun _ h9 => h9) rfl dX5_putCode_1 ?_
  refine lv_aload_n hx hb dX5_putCode_4 rfl (lv_at hl 0 rfl) ?_
  refine va_get (D := D) (ci := 5) (v := .ref co) (C := RX5) (T := TX5) (N := 14) hx hb hts iX5_putCode_5 hown hN.1 hP 0 rfl rfl 9 (by decide) (hts _ mX5_putCode_2) (fun _ h9 => h9) rfl dX5_putCode_5 ?_
  obtain ⟨hb1501, e1501, hat1501, hk1501⟩ := hT.o17 t1500_9.1
  have hat1501 := hkco
  have hP : va_P D vwCl [(co, .inl (cs 0, 600, .inl cf)), (w, .inr (5, [.ref tx, .int (nI ((κ w).2.2.1)), .int (nI tn), .int (nI ((tkE B z))), .int (tkK B z), .int (nI z), .int (tkV B z), .int ta, .int tk, .ref co, .int (nI cc), su, .int ec, .int es]))] _ := va_P.cons hat1501 hP
  refine va_alen (v := 600) hx hb hN.1 hP 0 0 rfl rfl rfl dX5_putCode_8 ?_
  refine lv_icmp_ge (tgt := 32) hx hb dX5_putCode_9 (by decide) (fun c1502 => ?_) (fun c1502 => ?_)
  · have c1502 : 600 ≤ cc := (nI_leI (a := 600) (b := cc) (by omega) (by omega)).mp c1502
    exact absurd c1502 (by omega)
  · have c1502 : ¬ 600 ≤ cc := fun h9 => c1502 ((nI_leI (a := 600) (b := cc) (by omega) (by omega)).mpr h9)
    refine lv_aload_n hx hb dX5_putCode_12 rfl (lv_at hl 0 rfl) ?_
    refine va_get (D := D) (ci := 5) (v := .ref co) (C := RX5) (T := TX5) (N := 14) hx hb hts iX5_putCode_5 hown hN.1 hP 1 rfl rfl 9 (by decide) (hts _ mX5_putCode_2) (fun _ h9 => h9) rfl dX5_putCode_13 ?_
    refine lv_aload_n hx hb dX5_putCode_16 rfl (lv_at hl 0 rfl) ?_
    refine va_get (D := D) (ci := 5) (v := .int (nI cc)) (C := RX5) (T := TX5) (N := 14) hx hb hts iX5_putCode_5 hown hN.1 hP 1 rfl rfl 10 (by decide) (hts _ mX5_putCode_1) (fun _ h9 => h9) rfl dX5_putCode_17 ?_
    refine lv_iload_n hx hb dX5_putCode_20 rfl (lv_at hl 1 rfl) ?_
    have hB : Bx B0 D _ [(co, .inl (cs 0, 600, .inl cf)), (w, .inr (5, [.ref tx, .int (nI ((κ w).2.2.1)), .int (nI tn), .int (nI ((tkE B z))), .int (tkK B z), .int (nI z), .int (tkV B z), .int ta, .int tk, .ref co, .int (nI cc), su, .int ec, .int es]))] [] _ _ := Bx.of (fun a => (κ a).1) hL hP (fa_c hb1501 (fa_c hb1500 fa_n)) (by simp only [List.map_cons, List.map_nil, t1500_9.1, hw.1]; decide)
    refine b_i hx hb hN hB 0 rfl (vp_in_nI (n := cc) (N := 600) (by omega) (by omega)) (.inl rfl) dX5_putCode_21 (fun H locs hB => ?_)
    rw [(show ((nI cc) : Int32).toNatClampNeg = cc from nI_clamp (n := cc) (by omega))] at hB
    have hB : Bx B0 D _ [(co, .inl (cs 0, 600, .inl (upd cf cc x))), (w, .inr (5, [.ref tx, .int (nI ((κ w).2.2.1)), .int (nI tn), .int (nI ((tkE B z))), .int (tkK B z), .int (nI z), .int (tkV B z), .int ta, .int tk, .ref co, .int (nI cc), su, .int ec, .int es]))] [co] _ _ := hB
    refine lv_aload_n hx hb dX5_putCode_22 rfl (lv_at hl 0 rfl) ?_
    refine lv_dup hx hb dX5_putCode_23 rfl ?_
    refine va_get (D := D) (ci := 5) (v := .int (nI cc)) (C := RX5) (T := TX5) (N := 14) hx hb hts iX5_putCode_5 hown hN.1 hB.1 1 rfl rfl 10 (by decide) (hts _ mX5_putCode_1) (fun _ h9 => h9) rfl dX5_putCode_24 ?_
    refine lv_iconst (v := 1) hx hb dX5_putCode_27 (by decide) ?_
    refine lv_iadd hx hb dX5_putCode_28 ?_
    refine tp_i (nI (cc + 1)) (nI_add cc 1) ?_
    refine b_put (D := D) (ci := 5) (v := .int (nI (cc + 1))) (ty := .int) (C := RX5) (T := TX5) (N := 14) hx hb hts iX5_putCode_5 tyX5 tyX5_ok nmX5 hown hN hB 1 rfl rfl 10 (by decide) (hts _ mX5_putCode_1) (fun _ h9 => h9) rfl (by decide +kernel) rfl rfl (Nat.le_of_ble_eq_true rfl) (.inl rfl) dX5_putCode_29 (fun H locs hB => ?_)
    have hB : Bx B0 D _ [(co, .inl (cs 0, 600, .inl (upd cf cc x))), (w, .inr (5, [.ref tx, .int (nI ((κ w).2.2.1)), .int (nI tn), .int (nI ((tkE B z))), .int (tkK B z), .int (nI z), .int (tkV B z), .int ta, .int tk, .ref co, .int (nI (cc + 1)), su, .int ec, .int es]))] [w, co] _ _ := hB
    have hT : WT B0 D cs T κ _ := hT.close hB ⟨⟨1, _, rfl, ok_6 hw.1 ⟨_, _, _, _, _, _, _, _, _, _, _, _, _, rfl, (by omega), (by omega), (by omega), (by omega), (by omega), t1500_0, t1500_9, c1500_11, c1500_p2⟩⟩, ⟨⟨0, _, rfl, ok_17 t1500_9.1 ⟨_, rfl⟩⟩, trivial⟩⟩
    have hF : Fr B0 [10] κ H0 _ := hF.close hB (fa_c (by simp [hw.2]) (fa_c (by simp [t1500_9.2]) fa_n))
    have hL : OkL B0 _ := hB.2.2.2.2.2
    have hP : va_P D vwCl [(co, .inl (cs 0, 600, .inl (upd cf cc x))), (w, .inr (5, [.ref tx, .int (nI ((κ w).2.2.1)), .int (nI tn), .int (nI ((tkE B z))), .int (tkK B z), .int (nI z), .int (tkV B z), .int ta, .int tk, .ref co, .int (nI (cc + 1)), su, .int ec, .int es]))] _ := hB.1
    have hkw : va_at D vwCl (w, .inr (5, [.ref tx, .int (nI ((κ w).2.2.1)), .int (nI tn), .int (nI ((tkE B z))), .int (tkK B z), .int (nI z), .int (tkV B z), .int ta, .int tk, .ref co, .int (nI (cc + 1)), su, .int ec, .int es])) _ := hP 1 _ rfl
    have hktx := hktx.kept (hB.2.2.2.1 _ hktx.lt (by simp only [List.mem_cons, List.not_mem_nil, or_false, not_or]; exact ⟨ne_c htx.1 hw.1 (by decide), ne_c htx.1 t1500_9.1 (by decide)⟩))
    have hkco : va_at D vwCl (co, .inl (cs 0, 600, .inl (upd cf cc x))) _ := hP 0 _ rfl
    exact en_v hx hb hr hlocks hL (Nat.zero_le _) (Nat.zero_le _) dX5_putCode_32 (⟨hT, hF, ⟨hkw, hktx, hkco⟩⟩)
