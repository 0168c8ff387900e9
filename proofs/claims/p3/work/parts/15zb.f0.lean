theorem mX5_readFactor_1 : (.fieldLink RX5 73 "OneBeat$Reader" "kind" "I" : Cond) ∈ wsX5_readFactor := List.mem_of_getElem? (i := 1) (by decide +kernel)
theorem iX5_readFactor_5 : ∀ w ∈ wsX50, w ∈ wsX5_readFactor := fun w h => List.mem_of_mem_drop (List.mem_of_mem_take ((show wsX50 = (wsX5_readFactor.drop 107).take 14 by decide +kernel) ▸ h))
theorem mX5_readFactor_3 : (.fieldLink RX5 124 "OneBeat$Reader" "start" "I" : Cond) ∈ wsX5_readFactor := List.mem_of_getElem? (i := 3) (by decide +kernel)
theorem hdX5_codeOfWord_v : yX5_codeOfWord.cls = RX5 ∧ yX5_codeOfWord.cls ≠ "java/lang/invoke/MethodHandle" ∧ yX5_codeOfWord.cls ≠ "java/lang/invoke/VarHandle" ∧ (parseMethodDescriptor yX5_codeOfWord.desc).map (fun d => d.parameters.length) = some 0 := by decide +kernel
theorem hdX5_putCode_v : yX5_putCode.cls = RX5 ∧ yX5_putCode.cls ≠ "java/lang/invoke/MethodHandle" ∧ yX5_putCode.cls ≠ "java/lang/invoke/VarHandle" ∧ (parseMethodDescriptor yX5_putCode.desc).map (fun d => d.parameters.length) = some 1 := by decide +kernel
theorem hdX5_takeNumber_v : yX5_takeNumber.cls = RX5 ∧ yX5_takeNumber.cls ≠ "java/lang/invoke/MethodHandle" ∧ yX5_takeNumber.cls ≠ "java/lang/invoke/VarHandle" ∧ (parseMethodDescriptor yX5_takeNumber.desc).map (fun d => d.parameters.length) = some 2 := by decide +kernel
theorem mX5_readFactor_2 : (.fieldLink RX5 59 "OneBeat$Reader" "taken" "I" : Cond) ∈ wsX5_readFactor := List.mem_of_getElem? (i := 2) (by decide +kernel)
set_option maxHeartbeats 4000000 in
set_option maxRecDepth 100000 in
theorem c_X5_readFactor_d4 {l : Launch} {D : va_G} {cs : Nat → ClassId} {B0 T : Nat} {κ : KM} {H0 : Heap} (hT : WT B0 D cs T κ H0) {w : Nat} (hw : T2 κ w 6 10) {tx co tn cc : Nat} {f cf B : Nat → Int32} {ta tk ec es : Int32} {su : Value} (hY : BY B tn) (hf : TXB f B tn) (hcc : cc ≤ 600) {z : Nat} (hz : z ≤ tn) (hrs : RS D cs w H0 tx f co cf (κ w).2.2.1 tn (tkE B z) (tkK B z) z (tkV B z) ta tk cc su ec es) (hcz : cc ≤ z) : KC l yX5_readFactor wsX5_readFactor 6 127 0 0 D cs B0 H0 [.ref w, .int 4] (Qi (fun r H => WT B0 D cs T κ H ∧ Fr B0 [10] κ H0 H ∧ ((r = 1 ∧ ∃ l1 q1 cf1 ta1 tk1, facD B 0 z = .inr (l1, q1) ∧ z < q1 ∧ q1 ≤ tn ∧ z + l1.length ≤ q1 ∧ CDS cf cf1 cc l1 ∧ RS D cs w H tx f co cf1 (κ w).2.2.1 tn (tkE B q1) (tkK B q1) q1 (tkV B q1) ta1 tk1 (cc + l1.length) su ec es) ∨ (r = 0 ∧ ∃ c9 o9, facD B 0 z = .inl (c9, o9) ∧ RE D cs w H tx f co (κ w).2.2.1 tn su c9 (nI o9))))) := by
  refine KC.of cX5_readFactor 3 (some .boolean) (by decide) rfl (Nat.le_of_ble_eq_true rfl) ?_
  intro p e s m below meth c ls hx hb hr hml hown hts hlocks hin hN hE hH0 hl
  have hown : s.vm.findClass RX5 = some m.cls := hown
  have hl : lv_has ls 3 [(0, .ref w), (1, .int 4)] := hl
  have hL : OkL B0 [] := OkL.nil
  have hF : Fr B0 [10] κ H0 H0 := Fr.rf
  obtain ⟨hkw, hktx, hkco⟩ := hrs
  have h6n := hY.1
  obtain ⟨htx, hco⟩ : T2 κ tx 16 10 ∧ T2 κ co 17 10 := RS.t2 hT hw hkw
  have hzE := tkE_le hY (s := z) (by omega)
  have hfd : ∀ z9, facD B 0 z9 = facB B (fun _ => .inl (0, 0)) true z9 := fun _ => rfl
  refine lv_aload_n hx hb dX5_readFactor_0 rfl (lv_at hl 0 rfl) ?_
  obtain ⟨hb1504, e1504, hat1504, hk1504⟩ := hT.o6 hw.1
  obtain ⟨f1504_0, f1504_2, f1504_3, f1504_4, f1504_5, f1504_6, f1504_7, f1504_8, f1504_9, f1504_10, f1504_11, f1504_12, f1504_13, rfl, c1504_1, c1504_2, c1504_3, c1504_5, c1504_10, t1504_0, t1504_9, c1504_11, c1504_p2⟩ := hk1504
  obtain ⟨rfl, rfl, rfl, rfl, rfl, rfl, rfl, rfl, rfl, rfl, rfl, rfl, rfl⟩ := eq6 hat1504 hkw (by omega)
  have hP : va_P D vwCl [(w, .inr (5, [.ref tx, .int (nI ((κ w).2.2.1)), .int (nI tn), .int (nI ((tkE B z))), .int (tkK B z), .int (nI z), .int (tkV B z), .int ta, .int tk, .ref co, .int (nI cc), su, .int ec, .int es]))] _ := va_P.cons hat1504 va_P.nil
  refine va_get (D := D) (ci := 5) (v := .int (tkK B z)) (C := RX5) (T := TX5) (N := 14) hx hb hts iX5_readFactor_5 hown hN.1 hP 0 rfl rfl 4 (by decide) (hts _ mX5_readFactor_1) (fun _ h9 => h9) rfl dX5_readFactor_1 ?_
  refine lv_iconst (v := 1) hx hb dX5_readFactor_4 (by decide) ?_
  refine lv_icmp_ne (tgt := 31) hx hb dX5_readFactor_5 (by decide) (fun c1505 => ?_) (fun c1505 => ?_)
  · have hnd : ¬ isd (B z) := fun g9 => c1505 (tkK_1.mpr g9)
    refine lv_aload_n hx hb dX5_readFactor_31 rfl (lv_at hl 0 rfl) ?_
    refine lv_bipush (v := 40) hx hb dX5_readFactor_32 (by decide) ?_
    refine cv_i (As := [.int 40]) (rest := []) (b := w) ⟨hx, hb, hml, hown, hts⟩ (c_X5_isMark hT (w := w) hw (ch := 40) (by first | omega | decide | assumption) (by first | omega | decide | assumption) (by first | omega | decide | assumption) (by first | omega | decide | assumption) ⟨hkw, hktx, hkco⟩ (by first | omega | decide | assumption)) (cwV 1 hts gX5_readFactor_X5_isMark rfl rfl rfl hdX5_isMark_v ⟨Nat.le_of_ble_eq_true rfl, Nat.le_of_ble_eq_true rfl⟩) hN hE hL (rcv6 hN hT hw.1) rfl rfl hl.1 (Nat.le_of_ble_eq_true rfl) dX5_readFactor_34 (Nat.zero_le _) (Nat.zero_le _) (fun r1506 H1 locs hL hqr1506 => ?_)
    obtain ⟨h9, hqr1506⟩ := hqr1506; replace h9 := h9.symm; subst h9
    rcases hqr1506 with ⟨rfl, e1507⟩ | ⟨rfl, e1508⟩
    · refine lv_if_eq (tgt := 85) hx hb dX5_readFactor_37 (by decide) (fun c9 => absurd c9 (by decide)) (fun _ => ?_)
      refine lv_iload_n hx hb dX5_readFactor_40 rfl (lv_at hl 1 rfl) ?_
      refine lv_iconst (v := 4) hx hb dX5_readFactor_41 (by decide) ?_
      refine lv_icmp_lt (tgt := 56) hx hb dX5_readFactor_42 (by decide) (fun c9 => absurd c9 (by decide)) (fun _ => ?_)
      refine lv_aload_n hx hb dX5_readFactor_45 rfl (lv_at hl 0 rfl) ?_
      refine lv_bipush (v := (-5)) hx hb dX5_readFactor_46 (by decide) ?_
      refine lv_aload_n hx hb dX5_readFactor_48 rfl (lv_at hl 0 rfl) ?_
      refine va_get (D := D) (ci := 5) (v := .int (nI z)) (C := RX5) (T := TX5) (N := 14) hx hb hts iX5_readFactor_5 hown hN.1 hP 0 rfl rfl 5 (by decide) (hts _ mX5_readFactor_3) (fun _ h9 => h9) rfl dX5_readFactor_49 ?_
      refine cv_i (As := [.int (-5), .int (nI z)]) (rest := []) (b := w) ⟨hx, hb, hml, hown, hts⟩ (c_X5_fail hT (w := w) hw (x := (-5)) (y := (nI z)) (by first | omega | decide | assumption) (by first | omega | decide | assumption) (by first | omega | decide | assumption) (by first | omega | decide | assumption) (by first | omega | decide | assumption) ⟨hkw, hktx, hkco⟩) (cwV 2 hts gX5_readFactor_X5_fail rfl rfl rfl hdX5_fail_v ⟨Nat.le_of_ble_eq_true rfl, Nat.le_of_ble_eq_true rfl⟩) hN hE hL (rcv6 hN hT hw.1) rfl rfl hl.1 (Nat.le_of_ble_eq_true rfl) dX5_readFactor_52 (Nat.zero_le _) (Nat.zero_le _) (fun r1509 H1 locs hL hqr1509 => ?_)
      obtain ⟨hT1, hF1, hqr1509⟩ := hqr1509
      have hF := hF.tr (hF1.mono (by simp))
      have hT := hT1
      obtain ⟨rfl, m1510⟩ := hqr1509
      obtain ⟨hkw, hktx, hkco⟩ := m1510
      exact en_i hx hb hr hlocks hL rfl (Nat.zero_le _) (Nat.zero_le _) dX5_readFactor_55 (⟨hT, hF, Or.inr ⟨rfl, -5, z, (hfd z).trans (fac_deep hnd e1507), ⟨_, _, _, _, _, _, _, _, (by omega), (by omega), (by omega), hkw, hktx, hkco⟩⟩⟩)
    · refine lv_if_eq (tgt := 85) hx hb dX5_readFactor_37 (by decide) (fun _ => ?_) (fun c9 => absurd (by decide) c9)
      refine lv_aload_n hx hb dX5_readFactor_85 rfl (lv_at hl 0 rfl) ?_
      refine cv_i (As := []) (rest := []) (b := w) ⟨hx, hb, hml, hown, hts⟩ (c_X5_codeOfWord hT (w := w) hw (by first | omega | decide | assumption) (by first | omega | decide | assumption) (by first | omega | decide | assumption) (by first | omega | decide | assumption) ⟨hkw, hktx, hkco⟩) (cwV 0 hts gX5_readFactor_X5_codeOfWord rfl rfl rfl hdX5_codeOfWord_v ⟨Nat.le_of_ble_eq_true rfl, Nat.le_of_ble_eq_true rfl⟩) hN hE hL (rcv6 hN hT hw.1) rfl rfl hl.1 (Nat.le_of_ble_eq_true rfl) dX5_readFactor_86 (Nat.zero_le _) (Nat.zero_le _) (fun r1511 H1 locs hL hqr1511 => ?_)
      obtain ⟨h9, hqr1511⟩ := hqr1511; replace h9 := h9.symm; subst h9
      rcases hqr1511 with ⟨rfl, a1512⟩ | ⟨rfl, a1513, b1514⟩ | ⟨rfl, a1515, b1516, c1517⟩ | ⟨rfl, a1518, b1519, c1520, d1521⟩ | ⟨rfl, a1522, b1523, c1524, d1525⟩
      · have hzl := hY.l (isW_le hY (i := 1) (by decide) a1512).1
        refine lv_istore_n (lv' := [(2, .int (-1)), (0, .ref w), (1, .int 4)]) hx hb dX5_readFactor_89 rfl hl (by decide) rfl (fun ls hl => ?_)
        refine lv_iload_n hx hb dX5_readFactor_90 rfl (lv_at hl 0 rfl) ?_
        refine lv_if_ne (tgt := 105) hx hb dX5_readFactor_91 (by decide) (fun _ => ?_) (fun c9 => absurd c9 (by decide))
        refine lv_aload_n hx hb dX5_readFactor_105 rfl (lv_at hl 1 rfl) ?_
        refine lv_iload_n hx hb dX5_readFactor_106 rfl (lv_at hl 0 rfl) ?_
        refine cv_v (As := [.int (-1)]) (rest := []) (b := w) ⟨hx, hb, hml, hown, hts⟩ (c_X5_putCode hT (w := w) hw (x := (-1)) (by first | omega | decide | assumption) (by first | omega | decide | assumption) (by first | omega | decide | assumption) (by first | omega | decide | assumption) ⟨hkw, hktx, hkco⟩ (by first | omega | decide | assumption)) (cwV 1 hts gX5_readFactor_X5_putCode rfl rfl rfl hdX5_putCode_v ⟨Nat.le_of_ble_eq_true rfl, Nat.le_of_ble_eq_true rfl⟩) hN hE hL (rcv6 hN hT hw.1) rfl rfl hl.1 (Nat.le_of_ble_eq_true rfl) dX5_readFactor_107 (Nat.zero_le _) (Nat.zero_le _) (fun H1 locs hL hqr1526 => ?_)
        obtain ⟨hT1, hF1, hqr1526⟩ := hqr1526
        have hF := hF.tr (hF1.mono (by simp))
        have hT := hT1
        have m1527 := hqr1526
        obtain ⟨hkw, hktx, hkco⟩ := m1527
        refine lv_aload_n hx hb dX5_readFactor_110 rfl (lv_at hl 1 rfl) ?_
        refine cv_v (As := []) (rest := []) (b := w) ⟨hx, hb, hml, hown, hts⟩ (c_X5_step hT (w := w) hw (by first | omega | decide | assumption) (by first | omega | decide | assumption) (by first | omega | decide | assumption) (by first | omega | decide | assumption) (by first | omega | decide | assumption) ⟨hkw, hktx, hkco⟩) (cwV 0 hts gX5_readFactor_X5_step rfl rfl rfl hdX5_step_v ⟨Nat.le_of_ble_eq_true rfl, Nat.le_of_ble_eq_true rfl⟩) hN hE hL (rcv6 hN hT hw.1) rfl rfl hl.1 (Nat.le_of_ble_eq_true rfl) dX5_readFactor_111 (Nat.zero_le _) (Nat.zero_le _) (fun H1 locs hL hqr1528 => ?_)
        obtain ⟨hT1, hF1, hqr1528⟩ := hqr1528
        have hF := hF.tr (hF1.mono (by simp))
        have hT := hT1
        have m1529 := hqr1528
        obtain ⟨z1530, hz1530⟩ : ∃ z9, z9 = skp B ((tkE B z)) := ⟨_, rfl⟩
        rw [← hz1530] at m1529
        have bz1530 : z1530 ≤ tn := by rw [hz1530]; exact run_ub hY (by decide) (by omega)
        have hzE := tkE_le hY (s := z1530) (by omega)
        obtain ⟨hkw, hktx, hkco⟩ := m1529
        refine lv_iconst (v := 1) hx hb dX5_readFactor_114 (by decide) ?_
        have hwl := isW_lt hY (i := 1) (by decide) a1512
        have hzw : z1530 = skp B (z + nT 1) := by rw [hz1530, tkE_w hY (i := 1) (by decide) a1512]
        rw [← hzw] at hwl
        exact en_i hx hb hr hlocks hL rfl (Nat.zero_le _) (Nat.zero_le _) dX5_readFactor_115 (⟨hT, hF, Or.inl ⟨rfl, [(-1)], z1530, _, _, _, ((hfd z).trans (fac_w1 hnd e1508 a1512)).trans (by rw [hzw]), hwl.1, hwl.2, (show z + 1 ≤ _ by omega), CDS.one, ⟨hkw, hktx, hkco⟩⟩⟩)
      · have hzl := hY.l (isW_le hY (i := 7) (by decide) b1514).1
        refine lv_istore_n (lv' := [(2, .int (-2)), (0, .ref w), (1, .int 4)]) hx hb dX5_readFactor_89 rfl hl (by decide) rfl (fun ls hl => ?_)
        refine lv_iload_n hx hb dX5_readFactor_90 rfl (lv_at hl 0 rfl) ?_
        refine lv_if_ne (tgt := 105) hx hb dX5_readFactor_91 (by decide) (fun _ => ?_) (fun c9 => absurd c9 (by decide))
        refine lv_aload_n hx hb dX5_readFactor_105 rfl (lv_at hl 1 rfl) ?_
        refine lv_iload_n hx hb dX5_readFactor_106 rfl (lv_at hl 0 rfl) ?_
        refine cv_v (As := [.int (-2)]) (rest := []) (b := w) ⟨hx, hb, hml, hown, hts⟩ (c_X5_putCode hT (w := w) hw (x := (-2)) (by first | omega | decide | assumption) (by first | omega | decide | assumption) (by first | omega | decide | assumption) (by first | omega | decide | assumption) ⟨hkw, hktx, hkco⟩ (by first | omega | decide | assumption)) (cwV 1 hts gX5_readFactor_X5_putCode rfl rfl rfl hdX5_putCode_v ⟨Nat.le_of_ble_eq_true rfl, Nat.le_of_ble_eq_true rfl⟩) hN hE hL (rcv6 hN hT hw.1) rfl rfl hl.1 (Nat.le_of_ble_eq_true rfl) dX5_readFactor_107 (Nat.zero_le _) (Nat.zero_le _) (fun H1 locs hL hqr1531 => ?_)
        obtain ⟨hT1, hF1, hqr1531⟩ := hqr1531
        have hF := hF.tr (hF1.mono (by simp))
        have hT := hT1
        have m1532 := hqr1531
        obtain ⟨hkw, hktx, hkco⟩ := m1532
        refine lv_aload_n hx hb dX5_readFactor_110 rfl (lv_at hl 1 rfl) ?_
        refine cv_v (As := []) (rest := []) (b := w) ⟨hx, hb, hml, hown, hts⟩ (c_X5_step hT (w := w) hw (by first | omega | decide | assumption) (by first | omega | decide | assumption) (by first | omega | decide | assumption) (by first | omega | decide | assumption) (by first | omega | decide | assumption) ⟨hkw, hktx, hkco⟩) (cwV 0 hts gX5_readFactor_X5_step rfl rfl rfl hdX5_step_v ⟨Nat.le_of_ble_eq_true rfl, Nat.le_of_ble_eq_true rfl⟩) hN hE hL (rcv6 hN hT hw.1) rfl rfl hl.1 (Nat.le_of_ble_eq_true rfl) dX5_readFactor_111 (Nat.zero_le _) (Nat.zero_le _) (fun H1 locs hL hqr1533 => ?_)
        obtain ⟨hT1, hF1, hqr1533⟩ := hqr1533
        have hF := hF.tr (hF1.mono (by simp))
        have hT := hT1
        have m1534 := hqr1533
        obtain ⟨z1535, hz1535⟩ : ∃ z9, z9 = skp B ((tkE B z)) := ⟨_, rfl⟩
        rw [← hz1535] at m1534
        have bz1535 : z1535 ≤ tn := by rw [hz1535]; exact run_ub hY (by decide) (by omega)
        have hzE := tkE_le hY (s := z1535) (by omega)
        obtain ⟨hkw, hktx, hkco⟩ := m1534
        refine lv_iconst (v := 1) hx hb dX5_readFactor_114 (by decide) ?_
        have hwl := isW_lt hY (i := 7) (by decide) b1514
        have hzw : z1535 = skp B (z + nT 7) := by rw [hz1535, tkE_w hY (i := 7) (by decide) b1514]
        rw [← hzw] at hwl
        exact en_i hx hb hr hlocks hL rfl (Nat.zero_le _) (Nat.zero_le _) dX5_readFactor_115 (⟨hT, hF, Or.inl ⟨rfl, [(-2)], z1535, _, _, _, ((hfd z).trans (fac_w2 hnd e1508 a1513 b1514)).trans (by rw [hzw]), hwl.1, hwl.2, (show z + 1 ≤ _ by omega), CDS.one, ⟨hkw, hktx, hkco⟩⟩⟩)
      · have hzl := hY.l (isW_le hY (i := 8) (by decide) c1517).1
        refine lv_istore_n (lv' := [(2, .int (-3)), (0, .ref w), (1, .int 4)]) hx hb dX5_readFactor_89 rfl hl (by decide) rfl (fun ls hl => ?_)
        refine lv_iload_n hx hb dX5_readFactor_90 rfl (lv_at hl 0 rfl) ?_
        refine lv_if_ne (tgt := 105) hx hb dX5_readFactor_91 (by decide) (fun _ => ?_) (fun c9 => absurd c9 (by decide))
        refine lv_aload_n hx hb dX5_readFactor_105 rfl (lv_at hl 1 rfl) ?_
        refine lv_iload_n hx hb dX5_readFactor_106 rfl (lv_at hl 0 rfl) ?_
        refine cv_v (As := [.int (-3)]) (rest := []) (b := w) ⟨hx, hb, hml, hown, hts⟩ (c_X5_putCode hT (w := w) hw (x := (-3)) (by first | omega | decide | assumption) (by first | omega | decide | assumption) (by first | omega | decide | assumption) (by first | omega | decide | assumption) ⟨hkw, hktx, hkco⟩ (by first | omega | decide | assumption)) (cwV 1 hts gX5_readFactor_X5_putCode rfl rfl rfl hdX5_putCode_v ⟨Nat.le_of_ble_eq_true rfl, Nat.le_of_ble_eq_true rfl⟩) hN hE hL (rcv6 hN hT hw.1) rfl rfl hl.1 (Nat.le_of_ble_eq_true rfl) dX5_readFactor_107 (Nat.zero_le _) (Nat.zero_le _) (fun H1 locs hL hqr1536 => ?_)
        obtain ⟨hT1, hF1, hqr1536⟩ := hqr1536
        have hF := hF.tr (hF1.mono (by simp))
        have hT := hT1
        have m1537 := hqr1536
        obtain ⟨hkw, hktx, hkco⟩ := m1537
        refine lv_aload_n hx hb dX5_readFactor_110 rfl (lv_at hl 1 rfl) ?_
        refine cv_v (As := []) (rest := []) (b := w) ⟨hx, hb, hml, hown, hts⟩ (c_X5_step hT (w := w) hw (by first | omega | decide | assumption) (by first | omega | decide | assumption) (by first | omega | decide | assumption) (by first | omega | decide | assumption) (by first | omega | decide | assumption) ⟨hkw, hktx, hkco⟩) (cwV 0 hts gX5_readFactor_X5_step rfl rfl rfl hdX5_step_v ⟨Nat.le_of_ble_eq_true rfl, Nat.le_of_ble_eq_true rfl⟩) hN hE hL (rcv6 hN hT hw.1) rfl rfl hl.1 (Nat.le_of_ble_eq_true rfl) dX5_readFactor_111 (Nat.zero_le _) (Nat.zero_le _) (fun H1 locs hL hqr1538 => ?_)
        obtain ⟨hT1, hF1, hqr1538⟩ := hqr1538
        have hF := hF.tr (hF1.mono (by simp))
        have hT := hT1
        have m1539 := hqr1538
        obtain ⟨z1540, hz1540⟩ : ∃ z9, z9 = skp B ((tkE B z)) := ⟨_, rfl⟩
        rw [← hz1540] at m1539
        have bz1540 : z1540 ≤ tn := by rw [hz1540]; exact run_ub hY (by decide) (by omega)
        have hzE := tkE_le hY (s := z1540) (by omega)
        obtain ⟨hkw, hktx, hkco⟩ := m1539
        refine lv_iconst (v := 1) hx hb dX5_readFactor_114 (by decide) ?_
        have hwl := isW_lt hY (i := 8) (by decide) c1517
        have hzw : z1540 = skp B (z + nT 8) := by rw [hz1540, tkE_w hY (i := 8) (by decide) c1517]
        rw [← hzw] at hwl
        exact en_i hx hb hr hlocks hL rfl (Nat.zero_le _) (Nat.zero_le _) dX5_readFactor_115 (⟨hT, hF, Or.inl ⟨rfl, [(-3)], z1540, _, _, _, ((hfd z).trans (fac_w3 hnd e1508 a1515 b1516 c1517)).trans (by rw [hzw]), hwl.1, hwl.2, (show z + 1 ≤ _ by omega), CDS.one, ⟨hkw, hktx, hkco⟩⟩⟩)
      · have hzl := hY.l (isW_le hY (i := 9) (by decide) d1521).1
        refine lv_istore_n (lv' := [(2, .int (-4)), (0, .ref w), (1, .int 4)]) hx hb dX5_readFactor_89 rfl hl (by decide) rfl (fun ls hl => ?_)
        refine lv_iload_n hx hb dX5_readFactor_90 rfl (lv_at hl 0 rfl) ?_
        refine lv_if_ne (tgt := 105) hx hb dX5_readFactor_91 (by decide) (fun _ => ?_) (fun c9 => absurd c9 (by decide))
        refine lv_aload_n hx hb dX5_readFactor_105 rfl (lv_at hl 1 rfl) ?_
        refine lv_iload_n hx hb dX5_readFactor_106 rfl (lv_at hl 0 rfl) ?_
        refine cv_v (As := [.int (-4)]) (rest := []) (b := w) ⟨hx, hb, hml, hown, hts⟩ (c_X5_putCode hT (w := w) hw (x := (-4)) (by first | omega | decide | assumption) (by first | omega | decide | assumption) (by first | omega | decide | assumption) (by first | omega | decide | assumption) ⟨hkw, hktx, hkco⟩ (by first | omega | decide | assumption)) (cwV 1 hts gX5_readFactor_X5_putCode rfl rfl rfl hdX5_putCode_v ⟨Nat.le_of_ble_eq_true rfl, Nat.le_of_ble_eq_true rfl⟩) hN hE hL (rcv6 hN hT hw.1) rfl rfl hl.1 (Nat.le_of_ble_eq_true rfl) dX5_readFactor_107 (Nat.zero_le _) (Nat.zero_le _) (fun H1 locs hL hqr1541 => ?_)
        obtain ⟨hT1, hF1, hqr1541⟩ := hqr1541
        have hF := hF.tr (hF1.mono (by simp))
        have hT := hT1
        have m1542 := hqr1541
        obtain ⟨hkw, hktx, hkco⟩ := m1542
        refine lv_aload_n hx hb dX5_readFactor_110 rfl (lv_at hl 1 rfl) ?_
        refine cv_v (As := []) (rest := []) (b := w) ⟨hx, hb, hml, hown, hts⟩ (c_X5_step hT (w := w) hw (by first | omega | decide | assumption) (by first | omega | decide | assumption) (by first | omega | decide | assumption) (by first | omega | decide | assumption) (by first | omega | decide | assumption) ⟨hkw, hktx, hkco⟩) (cwV 0 hts gX5_readFactor_X5_step rfl rfl rfl hdX5_step_v ⟨Nat.le_of_ble_eq_true rfl, Nat.le_of_ble_eq_true rfl⟩) hN hE hL (rcv6 hN hT hw.1) rfl rfl hl.1 (Nat.le_of_ble_eq_true rfl) dX5_readFactor_111 (Nat.zero_le _) (Nat.zero_le _) (fun H1 locs hL hqr1543 => ?_)
        obtain ⟨hT1, hF1, hqr1543⟩ := hqr1543
        have hF := hF.tr (hF1.mono (by simp))
        have hT := hT1
        have m1544 := hqr1543
        obtain ⟨z1545, hz1545⟩ : ∃ z9, z9 = skp B ((tkE B z)) := ⟨_, rfl⟩
        rw [← hz1545] at m1544
        have bz1545 : z1545 ≤ tn := by rw [hz1545]; exact run_ub hY (by decide) (by omega)
        have hzE := tkE_le hY (s := z1545) (by omega)
        obtain ⟨hkw, hktx, hkco⟩ := m1544
        refine lv_iconst (v := 1) hx hb dX5_readFactor_114 (by decide) ?_
        have hwl := isW_lt hY (i := 9) (by decide) d1521
        have hzw : z1545 = skp B (z + nT 9) := by rw [hz1545, tkE_w hY (i := 9) (by decide) d1521]
        rw [← hzw] at hwl
        exact en_i hx hb hr hlocks hL rfl (Nat.zero_le _) (Nat.zero_le _) dX5_readFactor_115 (⟨hT, hF, Or.inl ⟨rfl, [(-4)], z1545, _, _, _, ((hfd z).trans (fac_w4 hnd e1508 a1518 b1519 c1520 d1521)).trans (by rw [hzw]), hwl.1, hwl.2, (show z + 1 ≤ _ by omega), CDS.one, ⟨hkw, hktx, hkco⟩⟩⟩)
      · refine lv_istore_n (lv' := [(2, .int 0), (0, .ref w), (1, .int 4)]) hx hb dX5_readFactor_89 rfl hl (by decide) rfl (fun ls hl => ?_)
        refine lv_iload_n hx hb dX5_readFactor_90 rfl (lv_at hl 0 rfl) ?_
        refine lv_if_ne (tgt := 105) hx hb dX5_readFactor_91 (by decide) (fun c9 => absurd (by decide) c9) (fun _ => ?_)
        refine lv_aload_n hx hb dX5_readFactor_94 rfl (lv_at hl 1 rfl) ?_
        refine lv_bipush (v := (-2)) hx hb dX5_readFactor_95 (by decide) ?_
        refine lv_aload_n hx hb dX5_readFactor_97 rfl (lv_at hl 1 rfl) ?_
        refine va_get (D := D) (ci := 5) (v := .int (nI z)) (C := RX5) (T := TX5) (N := 14) hx hb hts iX5_readFactor_5 hown hN.1 hP 0 rfl rfl 5 (by decide) (hts _ mX5_readFactor_3) (fun _ h9 => h9) rfl dX5_readFactor_98 ?_
        refine cv_i (As := [.int (-2), .int (nI z)]) (rest := []) (b := w) ⟨hx, hb, hml, hown, hts⟩ (c_X5_fail hT (w := w) hw (x := (-2)) (y := (nI z)) (by first | omega | decide | assumption) (by first | omega | decide | assumption) (by first | omega | decide | assumption) (by first | omega | decide | assumption) (by first | omega | decide | assumption) ⟨hkw, hktx, hkco⟩) (cwV 2 hts gX5_readFactor_X5_fail rfl rfl rfl hdX5_fail_v ⟨Nat.le_of_ble_eq_true rfl, Nat.le_of_ble_eq_true rfl⟩) hN hE hL (rcv6 hN hT hw.1) rfl rfl hl.1 (Nat.le_of_ble_eq_true rfl) dX5_readFactor_101 (Nat.zero_le _) (Nat.zero_le _) (fun r1546 H1 locs hL hqr1546 => ?_)
        obtain ⟨hT1, hF1, hqr1546⟩ := hqr1546
        have hF := hF.tr (hF1.mono (by simp))
        have hT := hT1
        obtain ⟨rfl, m1547⟩ := hqr1546
        obtain ⟨hkw, hktx, hkco⟩ := m1547
        exact en_i hx hb hr hlocks hL rfl (Nat.zero_le _) (Nat.zero_le _) dX5_readFactor_104 (⟨hT, hF, Or.inr ⟨rfl, -2, z, (hfd z).trans (fac_w0 hnd e1508 a1522 b1523 c1524 d1525), ⟨_, _, _, _, _, _, _, _, (by omega), (by omega), (by omega), hkw, hktx, hkco⟩⟩⟩)
  · have hd := tkK_1.mp c1505
    have hzl := hY.d hd
    refine lv_aload_n hx hb dX5_readFactor_8 rfl (lv_at hl 0 rfl) ?_
    refine lv_iconst (v := 0) hx hb dX5_readFactor_9 (by decide) ?_
    refine lv_sipush (v := 9999) hx hb dX5_readFactor_10 (by decide) ?_
    refine cv_i (As := [.int 0, .int 9999]) (rest := []) (b := w) ⟨hx, hb, hml, hown, hts⟩ (c_X5_takeNumber hT (w := w) hw (aa := 0) (bb := 9999) (by first | omega | decide | assumption) (by first | omega | decide | assumption) (by first | omega | decide | assumption) (by first | omega | decide | assumption) ⟨hkw, hktx, hkco⟩ (by first | omega | decide | assumption) (by first | omega | decide | assumption)) (cwV 2 hts gX5_readFactor_X5_takeNumber rfl rfl rfl hdX5_takeNumber_v ⟨Nat.le_of_ble_eq_true rfl, Nat.le_of_ble_eq_true rfl⟩) hN hE hL (rcv6 hN hT hw.1) rfl rfl hl.1 (Nat.le_of_ble_eq_true rfl) dX5_readFactor_13 (Nat.zero_le _) (Nat.zero_le _) (fun r1548 H1 locs hL hqr1548 => ?_)
    obtain ⟨hT1, hF1, hqr1548⟩ := hqr1548
    have hF := hF.tr (hF1.mono (by simp))
    have hT := hT1
    rcases hqr1548 with ⟨rfl, d1549, l1550, g1551, m1552⟩ | ⟨rfl, d1553, m1554⟩ | ⟨rfl, d1555, g1556, m1557⟩
    · obtain ⟨z1558, hz1558⟩ : ∃ z9, z9 = skp B (dgE B z) := ⟨_, rfl⟩
      rw [← hz1558] at m1552
      have bz1558 : z1558 ≤ tn := by rw [hz1558]; exact (dgE_lt hY d1549).2
      have hzE := tkE_le hY (s := z1558) (by omega)
      obtain ⟨hkw, hktx, hkco⟩ := m1552
      refine lv_if_ne (tgt := 21) hx hb dX5_readFactor_16 (by decide) (fun _ => ?_) (fun c9 => absurd c9 (by decide))
      refine lv_aload_n hx hb dX5_readFactor_21 rfl (lv_at hl 0 rfl) ?_
      refine lv_aload_n hx hb dX5_readFactor_22 rfl (lv_at hl 0 rfl) ?_
      obtain ⟨hb1559, e1559, hat1559, hk1559⟩ := hT.o6 hw.1
      obtain ⟨f1559_0, f1559_2, f1559_3, f1559_4, f1559_5, f1559_6, f1559_7, f1559_8, f1559_9, f1559_10, f1559_11, f1559_12, f1559_13, rfl, c1559_1, c1559_2, c1559_3, c1559_5, c1559_10, t1559_0, t1559_9, c1559_11, c1559_p2⟩ := hk1559
      obtain ⟨rfl, rfl, rfl, rfl, rfl, rfl, rfl, rfl, rfl, rfl, rfl, rfl, rfl⟩ := eq6 hat1559 hkw (by omega)
      have hP : va_P D vwCl [(w, .inr (5, [.ref tx, .int (nI ((κ w).2.2.1)), .int (nI tn), .int (nI ((tkE B z1558))), .int (tkK B z1558), .int (nI z1558), .int (tkV B z1558), .int (nI ((nvl B z 0))), .int (nI z), .ref co, .int (nI cc), su, .int ec, .int es]))] _ := va_P.cons hat1559 va_P.nil
      refine va_get (D := D) (ci := 5) (v := .int (nI ((nvl B z 0)))) (C := RX5) (T := TX5) (N := 14) hx hb hts iX5_readFactor_5 hown hN.1 hP 0 rfl rfl 7 (by decide) (hts _ mX5_readFactor_2) (fun _ h9 => h9) rfl dX5_readFactor_23 ?_
      refine cv_v (As := [.int (nI ((nvl B z 0)))]) (rest := []) (b := w) ⟨hx, hb, hml, hown, hts⟩ (c_X5_putCode hT (w := w) hw (x := (nI ((nvl B z 0)))) (by first | omega | decide | assumption) (by first | omega | decide | assumption) (by first | omega | decide | assumption) (by first | omega | decide | assumption) ⟨hkw, hktx, hkco⟩ (by first | omega | decide | assumption)) (cwV 1 hts gX5_readFactor_X5_putCode rfl rfl rfl hdX5_putCode_v ⟨Nat.le_of_ble_eq_true rfl, Nat.le_of_ble_eq_true rfl⟩) hN hE hL (rcv6 hN hT hw.1) rfl rfl hl.1 (Nat.le_of_ble_eq_true rfl) dX5_readFactor_26 (Nat.zero_le _) (Nat.zero_le _) (fun H1 locs hL hqr1560 => ?_)
      obtain ⟨hT1, hF1, hqr1560⟩ := hqr1560
      have hF := hF.tr (hF1.mono (by simp))
      have hT := hT1
      have m1561 := hqr1560
      obtain ⟨hkw, hktx, hkco⟩ := m1561
      refine lv_iconst (v := 1) hx hb dX5_readFactor_29 (by decide) ?_
      exact en_i hx hb hr hlocks hL rfl (Nat.zero_le _) (Nat.zero_le _) dX5_readFactor_30 (⟨hT, hF, Or.inl ⟨rfl, [nI (nvl B z 0)], z1558, _, _, _, (hfd z).trans ((fac_num hd (by omega)).trans (by rw [hz1558])), (by rw [hz1558]; exact (dgE_lt hY hd).1), (by rw [hz1558]; exact (dgE_lt hY hd).2), (by have h9 := (dgE_lt hY hd).1; rw [← hz1558] at h9; show z + 1 ≤ _; omega), CDS.one, ⟨hkw, hktx, hkco⟩⟩⟩)
    · exact absurd hd d1553
    · obtain ⟨hkw, hktx, hkco⟩ := m1557
      refine lv_if_ne (tgt := 21) hx hb dX5_readFactor_16 (by decide) (fun c9 => absurd (by decide) c9) (fun _ => ?_)
      refine lv_iconst (v := 0) hx hb dX5_readFactor_19 (by decide) ?_
      exact en_i hx hb hr hlocks hL rfl (Nat.zero_le _) (Nat.zero_le _) dX5_readFactor_20 (⟨hT, hF, Or.inr ⟨rfl, -3, z, (hfd z).trans (fac_big hd (by omega)), ⟨_, _, _, _, _, _, _, _, (by omega), (by omega), (by omega), hkw, hktx, hkco⟩⟩⟩)
theorem hdX5_readFactor_v : yX5_readFactor.cls = RX5 ∧ yX5_readFactor.cls ≠ "java/lang/invoke/MethodHandle" ∧ yX5_readFactor.cls ≠ "java/lang/invoke/VarHandle" ∧ (parseMethodDescriptor yX5_readFactor.desc).map (fun d => d.parameters.length) = some 1 := by decide +kernel
set_option maxHeartbeats 4000000 in
set_option maxRecDepth 100000 in
theorem c_X5_readTerm_d4 {l : Launch} {D : va_G} {cs : Nat → ClassId} {B0 T : Nat} {κ : KM} {H0 : Heap} (hT : WT B0 D cs T κ H0) {w : Nat} (hw : T2 κ w 6 10) {tx co tn cc : Nat} {f cf B : Nat → Int32} {ta tk ec es : Int32} {su : Value} (hY : BY B tn) (hf : TXB f B tn) (hcc : cc ≤ 600) {z : Nat} (hz : z ≤ tn) (hrs : RS D cs w H0 tx f co cf (κ w).2.2.1 tn (tkE B z) (tkK B z) z (tkV B z) ta tk cc su ec es) (hcz : cc ≤ z) : KC l yX5_readTerm wsX5_readTerm 7 149 0 0 D cs B0 H0 [.ref w, .int 4] (Qi (fun r H => WT B0 D cs T κ H ∧ Fr B0 [10] κ H0 H ∧ ((r = 1 ∧ ∃ l1 q1 cf1 ta1 tk1, trmD B 0 z = .inr (l1, q1) ∧ z < q1 ∧ q1 ≤ tn ∧ z + l1.length ≤ q1 ∧ CDS cf cf1 cc l1 ∧ RS D cs w H tx f co cf1 (κ w).2.2.1 tn (tkE B q1) (tkK B q1) q1 (tkV B q1) ta1 tk1 (cc + l1.length) su ec es) ∨ (r = 0 ∧ ∃ c9 o9, trmD B 0 z = .inl (c9, o9) ∧ RE D cs w H tx f co (κ w).2.2.1 tn su c9 (nI o9))))) := by
  refine KC.of cX5_readTerm 4 (some .boolean) (by decide) rfl (Nat.le_of_ble_eq_true rfl) ?_
  intro p e s m below meth c ls hx hb hr hml hown hts hlocks hin hN hE hH0 hl
  have hown : s.vm.findClass RX5 = some m.cls := hown
  have hl : lv_has ls 4 [(0, .ref w), (1, .int 4)] := hl
  have hL : OkL B0 [] := OkL.nil
  have hF : Fr B0 [10] κ H0 H0 := Fr.rf
  obtain ⟨hkw, hktx, hkco⟩ := hrs
  have h6n := hY.1
  obtain ⟨htx, hco⟩ : T2 κ tx 16 10 ∧ T2 κ co 17 10 := RS.t2 hT hw hkw
  have hzE := tkE_le hY (s := z) (by omega)
  have hfd : ∀ z9, trmD B 0 z9 = manyB B (facD B 0) 42 47 (-7) (-8) z9 := fun _ => rfl
  have hpg := facD_pg hY 0
  refine lv_aload_n hx hb dX5_readTerm_0 rfl (lv_at hl 0 rfl) ?_
  refine lv_iload_n hx hb dX5_readTerm_1 rfl (lv_at hl 1 rfl) ?_
  refine cv_i (As := [.int 4]) (rest := []) (b := w) ⟨hx, hb, hml, hown, hts⟩ (c_X5_readFactor_d4 hT (w := w) hw (by first | omega | decide | assumption) (by first | omega | decide | assumption) (by first | omega | decide | assumption) (by first | omega | decide | assumption) ⟨hkw, hktx, hkco⟩ (by first | omega | decide | assumption)) (cwV 1 hts gX5_readTerm_X5_readFactor rfl rfl rfl hdX5_readFactor_v ⟨Nat.le_of_ble_eq_true rfl, Nat.le_of_ble_eq_true rfl⟩) hN hE hL (rcv6 hN hT hw.1) rfl rfl hl.1 (Nat.le_of_ble_eq_true rfl) dX5_readTerm_2 (Nat.zero_le _) (Nat.zero_le _) (fun r1562 H1 locs hL hqr1562 => ?_)
  obtain ⟨hT1, hF1, hqr1562⟩ := hqr1562
  have hF := hF.tr (hF1.mono (by simp))
  have hT := hT1
  rcases hqr1562 with ⟨rfl, l1563, q1564, f1565, t1566, k1567, e1568, u1569, v1570, b1571, c1572, m1573⟩ | ⟨rfl, c1574, o1575, e1576, x1577⟩
  · obtain ⟨hkw, hktx, hkco⟩ := m1573
    have hzE := tkE_le hY (s := q1564) (by omega)
    refine lv_if_ne (tgt := 10) hx hb dX5_readTerm_5 (by decide) (fun _ => ?_) (fun c9 => absurd c9 (by decide))
    refine lv_iconst (v := 0) hx hb dX5_readTerm_10 (by decide) ?_
    refine lv_istore_n (lv' := [(2, .int 0), (0, .ref w), (1, .int 4)]) hx hb dX5_readTerm_11 rfl hl (by decide) rfl (fun ls hl => ?_)
    refine lp_m (α := Nat × Nat × List Int32 × (Nat → Int32) × Int32 × Int32) (nL := 4) (fun a9 => 600 - a9.1) (fun a9 H9 l9 => (a9.1 ≤ 600 ∧ a9.2.1 ≤ tn ∧ z + a9.1 < a9.2.1) ∧ (CDS cf a9.2.2.2.1 cc a9.2.2.1) ∧ (z + a9.2.2.1.length ≤ a9.2.1) ∧ (trmD B 0 z = LPB B (facD B 0) 42 47 (-7) (-8) a9.2.2.1 a9.2.1) ∧ (RS D cs w H9 tx f co a9.2.2.2.1 (κ w).2.2.1 tn (tkE B a9.2.1) (tkK B a9.2.1) a9.2.1 (tkV B a9.2.1) a9.2.2.2.2.1 a9.2.2.2.2.2 (cc + a9.2.2.1.length) su ec es) ∧ (WT B0 D cs T κ H9) ∧ (Fr B0 [10] κ H0 H9) ∧ (OkL B0 l9)) (fun a9 => [(2, .int (nI a9.1)), (0, .ref w), (1, .int 4)]) ?_ (0, q1564, l1563, f1565, t1566, k1567) _ _ _ ⟨(by show (0) ≤ 600 ∧ (q1564) ≤ tn ∧ z + (0) < (q1564); omega), c1572, (by show z + (l1563).length ≤ (q1564); omega), ((hfd z).trans (many_ok e1568)), ⟨hkw, hktx, hkco⟩, hT, hF, hL⟩ (lv_sub hl [0, 1, 2] rfl)
    rintro ⟨k, zc, l9, cf9, ta9, tk9⟩ H locs ls ih1578 ⟨hk, hcd, hcl, hlp, hks, hT, hF, hL⟩ hl
    have hl : lv_has ls 4 [(2, .int (nI k)), (0, .ref w), (1, .int 4)] := hl
    have hk : k ≤ 600 ∧ zc ≤ tn ∧ z + k < zc := hk
    have hcd : CDS cf cf9 cc l9 := hcd
    have hcl : z + l9.length ≤ zc := hcl
    have hlp : trmD B 0 z = LPB B (facD B 0) 42 47 (-7) (-8) l9 zc := hlp
    have hks : RS D cs w H tx f co cf9 (κ w).2.2.1 tn (tkE B zc) (tkK B zc) zc (tkV B zc) ta9 tk9 (cc + l9.length) su ec es := hks
    obtain ⟨hkw, hktx, hkco⟩ := hks
    have hzE := tkE_le hY (s := zc) (by omega)
    refine lv_iload_n hx hb dX5_readTerm_12 rfl (lv_at hl 0 rfl) ?_
    refine lv_sipush (v := 600) hx hb dX5_readTerm_13 (by decide) ?_
    refine lv_icmp_ge (tgt := 79) hx hb dX5_readTerm_16 (by decide) (fun c1579 => ?_) (fun c1579 => ?_)
    · have c1579 : 600 ≤ k := (nI_leI (a := 600) (b := k) (by omega) (by omega)).mp c1579
      exact absurd c1579 (by omega)
    · have c1579 : ¬ 600 ≤ k := fun h9 => c1579 ((nI_leI (a := 600) (b := k) (by omega) (by omega)).mpr h9)
      refine lv_aload_n hx hb dX5_readTerm_19 rfl (lv_at hl 1 rfl) ?_
      refine lv_bipush (v := 42) hx hb dX5_readTerm_20 (by decide) ?_
      refine cv_i (As := [.int 42]) (rest := []) (b := w) ⟨hx, hb, hml, hown, hts⟩ (c_X5_isMark hT (w := w) hw (ch := 42) (by first | omega | decide | assumption) (by first | omega | decide | assumption) (by first | omega | decide | assumption) (by first | omega | decide | assumption) ⟨hkw, hktx, hkco⟩ (by first | omega | decide | assumption)) (cwV 1 hts gX5_readTerm_X5_isMark rfl rfl rfl hdX5_isMark_v ⟨Nat.le_of_ble_eq_true rfl, Nat.le_of_ble_eq_true rfl⟩) hN hE hL (rcv6 hN hT hw.1) rfl rfl hl.1 (Nat.le_of_ble_eq_true rfl) dX5_readTerm_22 (Nat.zero_le _) (Nat.zero_le _) (fun r1580 H1 locs hL hqr1580 => ?_)
      obtain ⟨h9, hqr1580⟩ := hqr1580; replace h9 := h9.symm; subst h9
      rcases hqr1580 with ⟨rfl, e1581⟩ | ⟨rfl, e1582⟩
      · refine lv_if_ne (tgt := 37) hx hb dX5_readTerm_25 (by decide) (fun _ => ?_) (fun c9 => absurd c9 (by decide))
        refine lv_aload_n hx hb dX5_readTerm_37 rfl (lv_at hl 1 rfl) ?_
        refine lv_bipush (v := 42) hx hb dX5_readTerm_38 (by decide) ?_
        refine cv_i (As := [.int 42]) (rest := []) (b := w) ⟨hx, hb, hml, hown, hts⟩ (c_X5_isMark hT (w := w) hw (ch := 42) (by first | omega | decide | assumption) (by first | omega | decide | assumption) (by first | omega | decide | assumption) (by first | omega | decide | assumption) ⟨hkw, hktx, hkco⟩ (by first | omega | decide | assumption)) (cwV 1 hts gX5_readTerm_X5_isMark rfl rfl rfl hdX5_isMark_v ⟨Nat.le_of_ble_eq_true rfl, Nat.le_of_ble_eq_true rfl⟩) hN hE hL (rcv6 hN hT hw.1) rfl rfl hl.1 (Nat.le_of_ble_eq_true rfl) dX5_readTerm_40 (Nat.zero_le _) (Nat.zero_le _) (fun r1583 H1 locs hL hqr1583 => ?_)
        obtain ⟨h9, hqr1583⟩ := hqr1583; replace h9 := h9.symm; subst h9
        rcases hqr1583 with ⟨rfl, e1584⟩ | ⟨rfl, e1585⟩
        · refine lv_if_eq (tgt := 51) hx hb dX5_readTerm_43 (by decide) (fun c9 => absurd c9 (by decide)) (fun _ => ?_)
          refine lv_bipush (v := (-7)) hx hb dX5_readTerm_46 (by decide) ?_
          refine lv_goto (tgt := 53) hx hb dX5_readTerm_48 (by decide) ?_
          refine lv_istore_n (lv' := [(3, .int (-7)), (2, .int (nI k)), (0, .ref w), (1, .int 4)]) hx hb dX5_readTerm_53 rfl hl (by decide) rfl (fun ls hl => ?_)
          refine lv_aload_n hx hb dX5_readTerm_54 rfl (lv_at hl 2 rfl) ?_
          refine cv_v (As := []) (rest := []) (b := w) ⟨hx, hb, hml, hown, hts⟩ (c_X5_step hT (w := w) hw (by first | omega | decide | assumption) (by first | omega | decide | assumption) (by first | omega | decide | assumption) (by first | omega | decide | assumption) (by first | omega | decide | assumption) ⟨hkw, hktx, hkco⟩) (cwV 0 hts gX5_readTerm_X5_step rfl rfl rfl hdX5_step_v ⟨Nat.le_of_ble_eq_true rfl, Nat.le_of_ble_eq_true rfl⟩) hN hE hL (rcv6 hN hT hw.1) rfl rfl hl.1 (Nat.le_of_ble_eq_true rfl) dX5_readTerm_55 (Nat.zero_le _) (Nat.zero_le _) (fun H1 locs hL hqr1586 => ?_)
          obtain ⟨hT1, hF1, hqr1586⟩ := hqr1586
          have hF := hF.tr (hF1.mono (by simp))
          have hT := hT1
          have m1587 := hqr1586
          obtain ⟨z1588, hz1588⟩ : ∃ z9, z9 = skp B ((tkE B zc)) := ⟨_, rfl⟩
          rw [← hz1588] at m1587
          have bz1588 : z1588 ≤ tn := by rw [hz1588]; exact run_ub hY (by decide) (by omega)
          have hzE := tkE_le hY (s := z1588) (by omega)
          obtain ⟨hkw, hktx, hkco⟩ := m1587
          have hzl := mark_lt hY (by decide) e1584
          have hzz : z1588 = skp B (zc + 1) := by rw [hz1588, tkE_m hY (by decide) e1584]
          have hzb := skp_b hY (z := zc + 1) (by omega)
          rw [← hzz] at hzb
          refine lv_aload_n hx hb dX5_readTerm_58 rfl (lv_at hl 2 rfl) ?_
          refine lv_iload_n hx hb dX5_readTerm_59 rfl (lv_at hl 3 rfl) ?_
          refine cv_i (As := [.int 4]) (rest := []) (b := w) ⟨hx, hb, hml, hown, hts⟩ (c_X5_readFactor_d4 hT (w := w) hw (by first | omega | decide | assumption) (by first | omega | decide | assumption) (by first | omega | decide | assumption) (by first | omega | decide | assumption) ⟨hkw, hktx, hkco⟩ (by first | omega | decide | assumption)) (cwV 1 hts gX5_readTerm_X5_readFactor rfl rfl rfl hdX5_readFactor_v ⟨Nat.le_of_ble_eq_true rfl, Nat.le_of_ble_eq_true rfl⟩) hN hE hL (rcv6 hN hT hw.1) rfl rfl hl.1 (Nat.le_of_ble_eq_true rfl) dX5_readTerm_60 (Nat.zero_le _) (Nat.zero_le _) (fun r1589 H1 locs hL hqr1589 => ?_)
          obtain ⟨hT1, hF1, hqr1589⟩ := hqr1589
          have hF := hF.tr (hF1.mono (by simp))
          have hT := hT1
          rcases hqr1589 with ⟨rfl, l1590, q1591, f1592, t1593, k1594, e1595, u1596, v1597, b1598, c1599, m1600⟩ | ⟨rfl, c1601, o1602, e1603, x1604⟩
          · obtain ⟨hkw, hktx, hkco⟩ := m1600
            have hzE := tkE_le hY (s := q1591) (by omega)
            refine lv_if_ne (tgt := 68) hx hb dX5_readTerm_63 (by decide) (fun _ => ?_) (fun c9 => absurd c9 (by decide))
            refine lv_aload_n hx hb dX5_readTerm_68 rfl (lv_at hl 2 rfl) ?_
            refine lv_iload_n hx hb dX5_readTerm_69 rfl (lv_at hl 0 rfl) ?_
            refine cv_v (As := [.int (-7)]) (rest := []) (b := w) ⟨hx, hb, hml, hown, hts⟩ (c_X5_putCode hT (w := w) hw (x := (-7)) (by first | omega | decide | assumption) (by first | omega | decide | assumption) (by first | omega | decide | assumption) (by first | omega | decide | assumption) ⟨hkw, hktx, hkco⟩ (by first | omega | decide | assumption)) (cwV 1 hts gX5_readTerm_X5_putCode rfl rfl rfl hdX5_putCode_v ⟨Nat.le_of_ble_eq_true rfl, Nat.le_of_ble_eq_true rfl⟩) hN hE hL (rcv6 hN hT hw.1) rfl rfl hl.1 (Nat.le_of_ble_eq_true rfl) dX5_readTerm_70 (Nat.zero_le _) (Nat.zero_le _) (fun H1 locs hL hqr1605 => ?_)
            obtain ⟨hT1, hF1, hqr1605⟩ := hqr1605
            have hF := hF.tr (hF1.mono (by simp))
            have hT := hT1
            have m1606 := hqr1605
            obtain ⟨hkw, hktx, hkco⟩ := m1606
            refine lv_iinc (v := (nI (k + 1))) (lv' := [(2, .int (nI (k + 1))), (3, .int (-7)), (0, .ref w), (1, .int 4)]) hx hb dX5_readTerm_73 hl (k := 1) rfl (nI_add _ 1) (by decide) rfl (fun ls hl => ?_)
            refine lv_goto (tgt := 12) hx hb dX5_readTerm_76 (by decide) ?_
            exact ih1578 ((k + 1), q1591, (l9 ++ l1590 ++ [(-7)]), (upd f1592 ((cc + l9.length) + l1590.length) (-7)), t1593, k1594) _ _ _ (by show 600 - ((k + 1)) < 600 - k; omega) ⟨(by show ((k + 1)) ≤ 600 ∧ (q1591) ≤ tn ∧ z + ((k + 1)) < (q1591); omega), (by have e7 : cc + l9.length + l1590.length = cc + (l9 ++ l1590).length := (by rw [List.length_append, Nat.add_assoc]); rw [e7]; exact (hcd.tr c1599).app1), (by show z + (l9 ++ l1590 ++ [(-7 : Int32)]).length ≤ q1591; have e8 : (l9 ++ l1590 ++ [(-7 : Int32)]).length = l9.length + l1590.length + 1 := (by simp only [List.length_append, List.length_cons, List.length_nil]); rw [e8]; omega), (hlp.trans (LP_c1 hY (by decide) (by decide) hpg e1584 (by rw [← hzz]; exact e1595))), (by have e8 : (l9 ++ l1590 ++ [(-7 : Int32)]).length = l9.length + l1590.length + 1 := (by simp only [List.length_append, List.length_cons, List.length_nil]); rw [e8, show cc + (l9.length + l1590.length + 1) = cc + l9.length + l1590.length + 1 by omega]; exact ⟨hkw, hktx, hkco⟩), hT, hF, hL⟩ (lv_sub hl [0, 2, 3] rfl)
          · refine lv_if_ne (tgt := 68) hx hb dX5_readTerm_63 (by decide) (fun c9 => absurd (by decide) c9) (fun _ => ?_)
            refine lv_iconst (v := 0) hx hb dX5_readTerm_66 (by decide) ?_
            exact en_i hx hb hr hlocks hL rfl (Nat.zero_le _) (Nat.zero_le _) dX5_readTerm_67 (⟨hT, hF, Or.inr ⟨rfl, _, _, hlp.trans (LP_er (o := 0) hY (by omega) (Or.inl e1584) (by rw [← hzz]; exact e1603)), x1604⟩⟩)
        · exact absurd e1581 e1585
      · refine lv_if_ne (tgt := 37) hx hb dX5_readTerm_25 (by decide) (fun c9 => absurd (by decide) c9) (fun _ => ?_)
        refine lv_aload_n hx hb dX5_readTerm_28 rfl (lv_at hl 1 rfl) ?_
        refine lv_bipush (v := 47) hx hb dX5_readTerm_29 (by decide) ?_
        refine cv_i (As := [.int 47]) (rest := []) (b := w) ⟨hx, hb, hml, hown, hts⟩ (c_X5_isMark hT (w := w) hw (ch := 47) (by first | omega | decide | assumption) (by first | omega | decide | assumption) (by first | omega | decide | assumption) (by first | omega | decide | assumption) ⟨hkw, hktx, hkco⟩ (by first | omega | decide | assumption)) (cwV 1 hts gX5_readTerm_X5_isMark rfl rfl rfl hdX5_isMark_v ⟨Nat.le_of_ble_eq_true rfl, Nat.le_of_ble_eq_true rfl⟩) hN hE hL (rcv6 hN hT hw.1) rfl rfl hl.1 (Nat.le_of_ble_eq_true rfl) dX5_readTerm_31 (Nat.zero_le _) (Nat.zero_le _) (fun r1607 H1 locs hL hqr1607 => ?_)
        obtain ⟨h9, hqr1607⟩ := hqr1607; replace h9 := h9.symm; subst h9
        rcases hqr1607 with ⟨rfl, e1608⟩ | ⟨rfl, e1609⟩
        · refine lv_if_eq (tgt := 79) hx hb dX5_readTerm_34 (by decide) (fun c9 => absurd c9 (by decide)) (fun _ => ?_)
          refine lv_aload_n hx hb dX5_readTerm_37 rfl (lv_at hl 1 rfl) ?_
          refine lv_bipush (v := 42) hx hb dX5_readTerm_38 (by decide) ?_
          refine cv_i (As := [.int 42]) (rest := []) (b := w) ⟨hx, hb, hml, hown, hts⟩ (c_X5_isMark hT (w := w) hw (ch := 42) (by first | omega | decide | assumption) (by first | omega | decide | assumption) (by first | omega | decide | assumption) (by first | omega | decide | assumption) ⟨hkw, hktx, hkco⟩ (by first | omega | decide | assumption)) (cwV 1 hts gX5_readTerm_X5_isMark rfl rfl rfl hdX5_isMark_v ⟨Nat.le_of_ble_eq_true rfl, Nat.le_of_ble_eq_true rfl⟩) hN hE hL (rcv6 hN hT hw.1) rfl rfl hl.1 (Nat.le_of_ble_eq_true rfl) dX5_readTerm_40 (Nat.zero_le _) (Nat.zero_le _) (fun r1610 H1 locs hL hqr1610 => ?_)
          obtain ⟨h9, hqr1610⟩ := hqr1610; replace h9 := h9.symm; subst h9
          rcases hqr1610 with ⟨rfl, e1611⟩ | ⟨rfl, e1612⟩
          · exact absurd e1611 e1582
          · refine lv_if_eq (tgt := 51) hx hb dX5_readTerm_43 (by decide) (fun _ => ?_) (fun c9 => absurd (by decide) c9)
            refine lv_bipush (v := (-8)) hx hb dX5_readTerm_51 (by decide) ?_
            refine lv_istore_n (lv' := [(3, .int (-8)), (2, .int (nI k)), (0, .ref w), (1, .int 4)]) hx hb dX5_readTerm_53 rfl hl (by decide) rfl (fun ls hl => ?_)
            refine lv_aload_n hx hb dX5_readTerm_54 rfl (lv_at hl 2 rfl) ?_
            refine cv_v (As := []) (rest := []) (b := w) ⟨hx, hb, hml, hown, hts⟩ (c_X5_step hT (w := w) hw (by first | omega | decide | assumption) (by first | omega | decide | assumption) (by first | omega | decide | assumption) (by first | omega | decide | assumption) (by first | omega | decide | assumption) ⟨hkw, hktx, hkco⟩) (cwV 0 hts gX5_readTerm_X5_step rfl rfl rfl hdX5_step_v ⟨Nat.le_of_ble_eq_true rfl, Nat.le_of_ble_eq_true rfl⟩) hN hE hL (rcv6 hN hT hw.1) rfl rfl hl.1 (Nat.le_of_ble_eq_true rfl) dX5_readTerm_55 (Nat.zero_le _) (Nat.zero_le _) (fun H1 locs hL hqr1613 => ?_)
            obtain ⟨hT1, hF1, hqr1613⟩ := hqr1613
            have hF := hF.tr (hF1.mono (by simp))
            have hT := hT1
            have m1614 := hqr1613
            obtain ⟨z1615, hz1615⟩ : ∃ z9, z9 = skp B ((tkE B zc)) := ⟨_, rfl⟩
            rw [← hz1615] at m1614
            have bz1615 : z1615 ≤ tn := by rw [hz1615]; exact run_ub hY (by decide) (by omega)
            have hzE := tkE_le hY (s := z1615) (by omega)
            obtain ⟨hkw, hktx, hkco⟩ := m1614
            have hzl := mark_lt hY (by decide) e1608
            have hzz : z1615 = skp B (zc + 1) := by rw [hz1615, tkE_m hY (by decide) e1608]
            have hzb := skp_b hY (z := zc + 1) (by omega)
            rw [← hzz] at hzb
            refine lv_aload_n hx hb dX5_readTerm_58 rfl (lv_at hl 2 rfl) ?_
            refine lv_iload_n hx hb dX5_readTerm_59 rfl (lv_at hl 3 rfl) ?_
            refine cv_i (As := [.int 4]) (rest := []) (b := w) ⟨hx, hb, hml, hown, hts⟩ (c_X5_readFactor_d4 hT (w := w) hw (by first | omega | decide | assumption) (by first | omega | decide | assumption) (by first | omega | decide | assumption) (by first | omega | decide | assumption) ⟨hkw, hktx, hkco⟩ (by first | omega | decide | assumption)) (cwV 1 hts gX5_readTerm_X5_readFactor rfl rfl rfl hdX5_readFactor_v ⟨Nat.le_of_ble_eq_true rfl, Nat.le_of_ble_eq_true rfl⟩) hN hE hL (rcv6 hN hT hw.1) rfl rfl hl.1 (Nat.le_of_ble_eq_true rfl) dX5_readTerm_60 (Nat.zero_le _) (Nat.zero_le _) (fun r1616 H1 locs hL hqr1616 => ?_)
            obtain ⟨hT1, hF1, hqr1616⟩ := hqr1616
            have hF := hF.tr (hF1.mono (by simp))
            have hT := hT1
            rcases hqr1616 with ⟨rfl, l1617, q1618, f1619, t1620, k1621, e1622, u1623, v1624, b1625, c1626, m1627⟩ | ⟨rfl, c1628, o1629, e1630, x1631⟩
            · obtain ⟨hkw, hktx, hkco⟩ := m1627
              have hzE := tkE_le hY (s := q1618) (by omega)
              refine lv_if_ne (tgt := 68) hx hb dX5_readTerm_63 (by decide) (fun _ => ?_) (fun c9 => absurd c9 (by decide))
              refine lv_aload_n hx hb dX5_readTerm_68 rfl (lv_at hl 2 rfl) ?_
              refine lv_iload_n hx hb dX5_readTerm_69 rfl (lv_at hl 0 rfl) ?_
              refine cv_v (As := [.int (-8)]) (rest := []) (b := w) ⟨hx, hb, hml, hown, hts⟩ (c_X5_putCode hT (w := w) hw (x := (-8)) (by first | omega | decide | assumption) (by first | omega | decide | assumption) (by first | omega | decide | assumption) (by first | omega | decide | assumption) ⟨hkw, hktx, hkco⟩ (by first | omega | decide | assumption)) (cwV 1 hts gX5_readTerm_X5_putCode rfl rfl rfl hdX5_putCode_v ⟨Nat.le_of_ble_eq_true rfl, Nat.le_of_ble_eq_true rfl⟩) hN hE hL (rcv6 hN hT hw.1) rfl rfl hl.1 (Nat.le_of_ble_eq_true rfl) dX5_readTerm_70 (Nat.zero_le _) (Nat.zero_le _) (fun H1 locs hL hqr1632 => ?_)
              obtain ⟨hT1, hF1, hqr1632⟩ := hqr1632
              have hF := hF.tr (hF1.mono (by simp))
              have hT := hT1
              have m1633 := hqr1632
              obtain ⟨hkw, hktx, hkco⟩ := m1633
              refine lv_iinc (v := (nI (k + 1))) (lv' := [(2, .int (nI (k + 1))), (3, .int (-8)), (0, .ref w), (1, .int 4)]) hx hb dX5_readTerm_73 hl (k := 1) rfl (nI_add _ 1) (by decide) rfl (fun ls hl => ?_)
              refine lv_goto (tgt := 12) hx hb dX5_readTerm_76 (by decide) ?_
              exact ih1578 ((k + 1), q1618, (l9 ++ l1617 ++ [(-8)]), (upd f1619 ((cc + l9.length) + l1617.length) (-8)), t1620, k1621) _ _ _ (by show 600 - ((k + 1)) < 600 - k; omega) ⟨(by show ((k + 1)) ≤ 600 ∧ (q1618) ≤ tn ∧ z + ((k + 1)) < (q1618); omega), (by have e7 : cc + l9.length + l1617.length = cc + (l9 ++ l1617).length := (by rw [List.length_append, Nat.add_assoc]); rw [e7]; exact (hcd.tr c1626).app1), (by show z + (l9 ++ l1617 ++ [(-8 : Int32)]).length ≤ q1618; have e8 : (l9 ++ l1617 ++ [(-8 : Int32)]).length = l9.length + l1617.length + 1 := (by simp only [List.length_append, List.length_cons, List.length_nil]); rw [e8]; omega), (hlp.trans (LP_c2 hY (by decide) (by decide) hpg e1612 e1608 (by rw [← hzz]; exact e1622))), (by have e8 : (l9 ++ l1617 ++ [(-8 : Int32)]).length = l9.length + l1617.length + 1 := (by simp only [List.length_append, List.length_cons, List.length_nil]); rw [e8, show cc + (l9.length + l1617.length + 1) = cc + l9.length + l1617.length + 1 by omega]; exact ⟨hkw, hktx, hkco⟩), hT, hF, hL⟩ (lv_sub hl [0, 2, 3] rfl)
            · refine lv_if_ne (tgt := 68) hx hb dX5_readTerm_63 (by decide) (fun c9 => absurd (by decide) c9) (fun _ => ?_)
              refine lv_iconst (v := 0) hx hb dX5_readTerm_66 (by decide) ?_
              exact en_i hx hb hr hlocks hL rfl (Nat.zero_le _) (Nat.zero_le _) dX5_readTerm_67 (⟨hT, hF, Or.inr ⟨rfl, _, _, hlp.trans (LP_er (o := 0) hY (by omega) (Or.inr ⟨e1612, e1608⟩) (by rw [← hzz]; exact e1630)), x1631⟩⟩)
        · refine lv_if_eq (tgt := 79) hx hb dX5_readTerm_34 (by decide) (fun _ => ?_) (fun c9 => absurd (by decide) c9)
          refine lv_iconst (v := 1) hx hb dX5_readTerm_79 (by decide) ?_
          exact en_i hx hb hr hlocks hL rfl (Nat.zero_le _) (Nat.zero_le _) dX5_readTerm_80 (⟨hT, hF, Or.inl ⟨rfl, l9, zc, _, _, _, hlp.trans (LP_no e1582 e1609), (by omega), (by omega), (by omega), hcd, ⟨hkw, hktx, hkco⟩⟩⟩)
  · refine lv_if_ne (tgt := 10) hx hb dX5_readTerm_5 (by decide) (fun c9 => absurd (by decide) c9) (fun _ => ?_)
    refine lv_iconst (v := 0) hx hb dX5_readTerm_8 (by decide) ?_
    exact en_i hx hb hr hlocks hL rfl (Nat.zero_le _) (Nat.zero_le _) dX5_readTerm_9 (⟨hT, hF, Or.inr ⟨rfl, _, _, (hfd z).trans (many_er e1576), x1577⟩⟩)
theorem hdX5_readTerm_v : yX5_readTerm.cls = RX5 ∧ yX5_readTerm.cls ≠ "java/lang/invoke/MethodHandle" ∧ yX5_readTerm.cls ≠ "java/lang/invoke/VarHandle" ∧ (parseMethodDescriptor yX5_readTerm.desc).map (fun d => d.parameters.length) = some 1 := by decide +kernel
set_option maxHeartbeats 4000000 in
set_option maxRecDepth 100000 in
theorem c_X5_readSum_d4 {l : Launch} {D : va_G} {cs : Nat → ClassId} {B0 T : Nat} {κ : KM} {H0 : Heap} (hT : WT B0 D cs T κ H0) {w : Nat} (hw : T2 κ w 6 10) {tx co tn cc : Nat} {f cf B : Nat → Int32} {ta tk ec es : Int32} {su : Value} (hY : BY B tn) (hf : TXB f B tn) (hcc : cc ≤ 600) {z : Nat} (hz : z ≤ tn) (hrs : RS D cs w H0 tx f co cf (κ w).2.2.1 tn (tkE B z) (tkK B z) z (tkV B z) ta tk cc su ec es) (hcz : cc ≤ z) : KC l yX5_readSum wsX5_readSum 8 172 0 0 D cs B0 H0 [.ref w, .int 4] (Qi (fun r H => WT B0 D cs T κ H ∧ Fr B0 [10] κ H0 H ∧ ((r = 1 ∧ ∃ l1 q1 cf1 ta1 tk1, sumD B 0 z = .inr (l1, q1) ∧ z < q1 ∧ q1 ≤ tn ∧ z + l1.length ≤ q1 ∧ CDS cf cf1 cc l1 ∧ RS D cs w H tx f co cf1 (κ w).2.2.1 tn (tkE B q1) (tkK B q1) q1 (tkV B q1) ta1 tk1 (cc + l1.length) su ec es) ∨ (r = 0 ∧ ∃ c9 o9, sumD B 0 z = .inl (c9, o9) ∧ RE D cs w H tx f co (κ w).2.2.1 tn su c9 (nI o9))))) := by
  refine KC.of cX5_readSum 4 (some .boolean) (by decide) rfl (Nat.le_of_ble_eq_true rfl) ?_
  intro p e s m below meth c ls hx hb hr hml hown hts hlocks hin hN hE hH0 hl
  have hown : s.vm.findClass RX5 = some m.cls := hown
  have hl : lv_has ls 4 [(0, .ref w), (1, .int 4)] := hl
  have hL : OkL B0 [] := OkL.nil
  have hF : Fr B0 [10] κ H0 H0 := Fr.rf
  obtain ⟨hkw, hktx, hkco⟩ := hrs
  have h6n := hY.1
  obtain ⟨htx, hco⟩ : T2 κ tx 16 10 ∧ T2 κ co 17 10 := RS.t2 hT hw hkw
  have hzE := tkE_le hY (s := z) (by omega)
  have hfd : ∀ z9, sumD B 0 z9 = manyB B (trmD B 0) 43 45 (-5) (-6) z9 := fun _ => rfl
  have hpg := trmD_pg hY 0
  refine lv_aload_n hx hb dX5_readSum_0 rfl (lv_at hl 0 rfl) ?_
  refine lv_iload_n hx hb dX5_readSum_1 rfl (lv_at hl 1 rfl) ?_
  refine cv_i (As := [.int 4]) (rest := []) (b := w) ⟨hx, hb, hml, hown, hts⟩ (c_X5_readTerm_d4 hT (w := w) hw (by first | omega | decide | assumption) (by first | omega | decide | assumption) (by first | omega | decide | assumption) (by first | omega | decide | assumption) ⟨hkw, hktx, hkco⟩ (by first | omega | decide | assumption)) (cwV 1 hts gX5_readSum_X5_readTerm rfl rfl rfl hdX5_readTerm_v ⟨Nat.le_of_ble_eq_true rfl, Nat.le_of_ble_eq_true rfl⟩) hN hE hL (rcv6 hN hT hw.1) rfl rfl hl.1 (Nat.le_of_ble_eq_true rfl) dX5_readSum_2 (Nat.zero_le _) (Nat.zero_le _) (fun r1634 H1 locs hL hqr1634 => ?_)
  obtain ⟨hT1, hF1, hqr1634⟩ := hqr1634
  have hF := hF.tr (hF1.mono (by simp))
  have hT := hT1
  rcases hqr1634 with ⟨rfl, l1635, q1636, f1637, t1638, k1639, e1640, u1641, v1642, b1643, c1644, m1645⟩ | ⟨rfl, c1646, o1647, e1648, x1649⟩
  · obtain ⟨hkw, hktx, hkco⟩ := m1645
    have hzE := tkE_le hY (s := q1636) (by omega)
    refine lv_if_ne (tgt := 10) hx hb dX5_readSum_5 (by decide) (fun _ => ?_) (fun c9 => absurd c9 (by decide))
    refine lv_iconst (v := 0) hx hb dX5_readSum_10 (by decide) ?_
    refine lv_istore_n (lv' := [(2, .int 0), (0, .ref w), (1, .int 4)]) hx hb dX5_readSum_11 rfl hl (by decide) rfl (fun ls hl => ?_)
    refine lp_m (α := Nat × Nat × List Int32 × (Nat → Int32) × Int32 × Int32) (nL := 4) (fun a9 => 600 - a9.1) (fun a9 H9 l9 => (a9.1 ≤ 600 ∧ a9.2.1 ≤ tn ∧ z + a9.1 < a9.2.1) ∧ (CDS cf a9.2.2.2.1 cc a9.2.2.1) ∧ (z + a9.2.2.1.length ≤ a9.2.1) ∧ (sumD B 0 z = LPB B (trmD B 0) 43 45 (-5) (-6) a9.2.2.1 a9.2.1) ∧ (RS D cs w H9 tx f co a9.2.2.2.1 (κ w).2.2.1 tn (tkE B a9.2.1) (tkK B a9.2.1) a9.2.1 (tkV B a9.2.1) a9.2.2.2.2.1 a9.2.2.2.2.2 (cc + a9.2.2.1.length) su ec es) ∧ (WT B0 D cs T κ H9) ∧ (Fr B0 [10] κ H0 H9) ∧ (OkL B0 l9)) (fun a9 => [(2, .int (nI a9.1)), (0, .ref w), (1, .int 4)]) ?_ (0, q1636, l1635, f1637, t1638, k1639) _ _ _ ⟨(by show (0) ≤ 600 ∧ (q1636) ≤ tn ∧ z + (0) < (q1636); omega), c1644, (by show z + (l1635).length ≤ (q1636); omega), ((hfd z).trans (many_ok e1640)), ⟨hkw, hktx, hkco⟩, hT, hF, hL⟩ (lv_sub hl [0, 1, 2] rfl)
    rintro ⟨k, zc, l9, cf9, ta9, tk9⟩ H locs ls ih1650 ⟨hk, hcd, hcl, hlp, hks, hT, hF, hL⟩ hl
    have hl : lv_has ls 4 [(2, .int (nI k)), (0, .ref w), (1, .int 4)] := hl
    have hk : k ≤ 600 ∧ zc ≤ tn ∧ z + k < zc := hk
    have hcd : CDS cf cf9 cc l9 := hcd
    have hcl : z + l9.length ≤ zc := hcl
    have hlp : sumD B 0 z = LPB B (trmD B 0) 43 45 (-5) (-6) l9 zc := hlp
    have hks : RS D cs w H tx f co cf9 (κ w).2.2.1 tn (tkE B zc) (tkK B zc) zc (tkV B zc) ta9 tk9 (cc + l9.length) su ec es := hks
    obtain ⟨hkw, hktx, hkco⟩ := hks
    have hzE := tkE_le hY (s := zc) (by omega)
    refine lv_iload_n hx hb dX5_readSum_12 rfl (lv_at hl 0 rfl) ?_
    refine lv_sipush (v := 600) hx hb dX5_readSum_13 (by decide) ?_
    refine lv_icmp_ge (tgt := 79) hx hb dX5_readSum_16 (by decide) (fun c1651 => ?_) (fun c1651 => ?_)
    · have c1651 : 600 ≤ k := (nI_leI (a := 600) (b := k) (by omega) (by omega)).mp c1651
      exact absurd c1651 (by omega)
    · have c1651 : ¬ 600 ≤ k := fun h9 => c1651 ((nI_leI (a := 600) (b := k) (by omega) (by omega)).mpr h9)
      refine lv_aload_n hx hb dX5_readSum_19 rfl (lv_at hl 1 rfl) ?_
      refine lv_bipush (v := 43) hx hb dX5_readSum_20 (by decide) ?_
      refine cv_i (As := [.int 43]) (rest := []) (b := w) ⟨hx, hb, hml, hown, hts⟩ (c_X5_isMark hT (w := w) hw (ch := 43) (by first | omega | decide | assumption) (by first | omega | decide | assumption) (by first | omega | decide | assumption) (by first | omega | decide | assumption) ⟨hkw, hktx, hkco⟩ (by first | omega | decide | assumption)) (cwV 1 hts gX5_readSum_X5_isMark rfl rfl rfl hdX5_isMark_v ⟨Nat.le_of_ble_eq_true rfl, Nat.le_of_ble_eq_true rfl⟩) hN hE hL (rcv6 hN hT hw.1) rfl rfl hl.1 (Nat.le_of_ble_eq_true rfl) dX5_readSum_22 (Nat.zero_le _) (Nat.zero_le _) (fun r1652 H1 locs hL hqr1652 => ?_)
      obtain ⟨h9, hqr1652⟩ := hqr1652; replace h9 := h9.symm; subst h9
      rcases hqr1652 with ⟨rfl, e1653⟩ | ⟨rfl, e1654⟩
      · refine lv_if_ne (tgt := 37) hx hb dX5_readSum_25 (by decide) (fun _ => ?_) (fun c9 => absurd c9 (by decide))
        refine lv_aload_n hx hb dX5_readSum_37 rfl (lv_at hl 1 rfl) ?_
        refine lv_bipush (v := 43) hx hb dX5_readSum_38 (by decide) ?_
        refine cv_i (As := [.int 43]) (rest := []) (b := w) ⟨hx, hb, hml, hown, hts⟩ (c_X5_isMark hT (w := w) hw (ch := 43) (by first | omega | decide | assumption) (by first | omega | decide | assumption) (by first | omega | decide | assumption) (by first | omega | decide | assumption) ⟨hkw, hktx, hkco⟩ (by first | omega | decide | assumption)) (cwV 1 hts gX5_readSum_X5_isMark rfl rfl rfl hdX5_isMark_v ⟨Nat.le_of_ble_eq_true rfl, Nat.le_of_ble_eq_true rfl⟩) hN hE hL (rcv6 hN hT hw.1) rfl rfl hl.1 (Nat.le_of_ble_eq_true rfl) dX5_readSum_40 (Nat.zero_le _) (Nat.zero_le _) (fun r1655 H1 locs hL hqr1655 => ?_)
        obtain ⟨h9, hqr1655⟩ := hqr1655; replace h9 := h9.symm; subst h9
        rcases hqr1655 with ⟨rfl, e1656⟩ | ⟨rfl, e1657⟩
        · refine lv_if_eq (tgt := 51) hx hb dX5_readSum_43 (by decide) (fun c9 => absurd c9 (by decide)) (fun _ => ?_)
          refine lv_bipush (v := (-5)) hx hb dX5_readSum_46 (by decide) ?_
          refine lv_goto (tgt := 53) hx hb dX5_readSum_48 (by decide) ?_
          refine lv_istore_n (lv' := [(3, .int (-5)), (2, .int (nI k)), (0, .ref w), (1, .int 4)]) hx hb dX5_readSum_53 rfl hl (by decide) rfl (fun ls hl => ?_)
          refine lv_aload_n hx hb dX5_readSum_54 rfl (lv_at hl 2 rfl) ?_
          refine cv_v (As := []) (rest := []) (b := w) ⟨hx, hb, hml, hown, hts⟩ (c_X5_step hT (w := w) hw (by first | omega | decide | assumption) (by first | omega | decide | assumption) (by first | omega | decide | assumption) (by first | omega | decide | assumption) (by first | omega | decide | assumption) ⟨hkw, hktx, hkco⟩) (cwV 0 hts gX5_readSum_X5_step rfl rfl rfl hdX5_step_v ⟨Nat.le_of_ble_eq_true rfl, Nat.le_of_ble_eq_true rfl⟩) hN hE hL (rcv6 hN hT hw.1) rfl rfl hl.1 (Nat.le_of_ble_eq_true rfl) dX5_readSum_55 (Nat.zero_le _) (Nat.zero_le _) (fun H1 locs hL hqr1658 => ?_)
          obtain ⟨hT1, hF1, hqr1658⟩ := hqr1658
          have hF := hF.tr (hF1.mono (by simp))
          have hT := hT1
          have m1659 := hqr1658
          obtain ⟨z1660, hz1660⟩ : ∃ z9, z9 = skp B ((tkE B zc)) := ⟨_, rfl⟩
          rw [← hz1660] at m1659
          have bz1660 : z1660 ≤ tn := by rw [hz1660]; exact run_ub hY (by decide) (by omega)
          have hzE := tkE_le hY (s := z1660) (by omega)
          obtain ⟨hkw, hktx, hkco⟩ := m1659
          have hzl := mark_lt hY (by decide) e1656
          have hzz : z1660 = skp B (zc + 1) := by rw [hz1660, tkE_m hY (by decide) e1656]
          have hzb := skp_b hY (z := zc + 1) (by omega)
          rw [← hzz] at hzb
          refine lv_aload_n hx hb dX5_readSum_58 rfl (lv_at hl 2 rfl) ?_
          refine lv_iload_n hx hb dX5_readSum_59 rfl (lv_at hl 3 rfl) ?_
          refine cv_i (As := [.int 4]) (rest := []) (b := w) ⟨hx, hb, hml, hown, hts⟩ (c_X5_readTerm_d4 hT (w := w) hw (by first | omega | decide | assumption) (by first | omega | decide | assumption) (by first | omega | decide | assumption) (by first | omega | decide | assumption) ⟨hkw, hktx, hkco⟩ (by first | omega | decide | assumption)) (cwV 1 hts gX5_readSum_X5_readTerm rfl rfl rfl hdX5_readTerm_v ⟨Nat.le_of_ble_eq_true rfl, Nat.le_of_ble_eq_true rfl⟩) hN hE hL (rcv6 hN hT hw.1) rfl rfl hl.1 (Nat.le_of_ble_eq_true rfl) dX5_readSum_60 (Nat.zero_le _) (Nat.zero_le _) (fun r1661 H1 locs hL hqr1661 => ?_)
          obtain ⟨hT1, hF1, hqr1661⟩ := hqr1661
          have hF := hF.tr (hF1.mono (by simp))
          have hT := hT1
          rcases hqr1661 with ⟨rfl, l1662, q1663, f1664, t1665, k1666, e1667, u1668, v1669, b1670, c1671, m1672⟩ | ⟨rfl, c1673, o1674, e1675, x1676⟩
          · obtain ⟨hkw, hktx, hkco⟩ := m1672
            have hzE := tkE_le hY (s := q1663) (by omega)
            refine lv_if_ne (tgt := 68) hx hb dX5_readSum_63 (by decide) (fun _ => ?_) (fun c9 => absurd c9 (by decide))
            refine lv_aload_n hx hb dX5_readSum_68 rfl (lv_at hl 2 rfl) ?_
            refine lv_iload_n hx hb dX5_readSum_69 rfl (lv_at hl 0 rfl) ?_
            refine cv_v (As := [.int (-5)]) (rest := []) (b := w) ⟨hx, hb, hml, hown, hts⟩ (c_X5_putCode hT (w := w) hw (x := (-5)) (by first | omega | decide | assumption) (by first | omega | decide | assumption) (by first | omega | decide | assumption) (by first | omega | decide | assumption) ⟨hkw, hktx, hkco⟩ (by first | omega | decide | assumption)) (cwV 1 hts gX5_readSum_X5_putCode rfl rfl rfl hdX5_putCode_v ⟨Nat.le_of_ble_eq_true rfl, Nat.le_of_ble_eq_true rfl⟩) hN hE hL (rcv6 hN hT hw.1) rfl rfl hl.1 (Nat.le_of_ble_eq_true rfl) dX5_readSum_70 (Nat.zero_le _) (Nat.zero_le _) (fun H1 locs hL hqr1677 => ?_)
            obtain ⟨hT1, hF1, hqr1677⟩ := hqr1677
            have hF := hF.tr (hF1.mono (by simp))
            have hT := hT1
            have m1678 := hqr1677
            obtain ⟨hkw, hktx, hkco⟩ := m1678
            refine lv_iinc (v := (nI (k + 1))) (lv' := [(2, .int (nI (k + 1))), (3, .int (-5)), (0, .ref w), (1, .int 4)]) hx hb dX5_readSum_73 hl (k := 1) rfl (nI_add _ 1) (by decide) rfl (fun ls hl => ?_)
            refine lv_goto (tgt := 12) hx hb dX5_readSum_76 (by decide) ?_
            exact ih1650 ((k + 1), q1663, (l9 ++ l1662 ++ [(-5)]), (upd f1664 ((cc + l9.length) + l1662.length) (-5)), t1665, k1666) _ _ _ (by show 600 - ((k + 1)) < 600 - k; omega) ⟨(by show ((k + 1)) ≤ 600 ∧ (q1663) ≤ tn ∧ z + ((k + 1)) < (q1663); omega), (by have e7 : cc + l9.length + l1662.length = cc + (l9 ++ l1662).length := (by rw [List.length_append, Nat.add_assoc]); rw [e7]; exact (hcd.tr c1671).app1), (by show z + (l9 ++ l1662 ++ [(-5 : Int32)]).length ≤ q1663; have e8 : (l9 ++ l1662 ++ [(-5 : Int32)]).length = l9.length + l1662.length + 1 := (by simp only [List.length_append, List.length_cons, List.length_nil]); rw [e8]; omega), (hlp.trans (LP_c1 hY (by decide) (by decide) hpg e1656 (by rw [← hzz]; exact e1667))), (by have e8 : (l9 ++ l1662 ++ [(-5 : Int32)]).length = l9.length + l1662.length + 1 := (by simp only [List.length_append, List.length_cons, List.length_nil]); rw [e8, show cc + (l9.length + l1662.length + 1) = cc + l9.length + l1662.length + 1 by omega]; exact ⟨hkw, hktx, hkco⟩), hT, hF, hL⟩ (lv_sub hl [0, 2, 3] rfl)
          · refine lv_if_ne (tgt := 68) hx hb dX5_readSum_63 (by decide) (fun c9 => absurd (by decide) c9) (fun _ => ?_)
            refine lv_iconst (v := 0) hx hb dX5_readSum_66 (by decide) ?_
            exact en_i hx hb hr hlocks hL rfl (Nat.zero_le _) (Nat.zero_le _) dX5_readSum_67 (⟨hT, hF, Or.inr ⟨rfl, _, _, hlp.trans (LP_er (o := 0) hY (by omega) (Or.inl e1656) (by rw [← hzz]; exact e1675)), x1676⟩⟩)
        · exact absurd e1653 e1657
      · refine lv_if_ne (tgt := 37) hx hb dX5_readSum_25 (by decide) (fun c9 => absurd (by decide) c9) (fun _ => ?_)
        refine lv_aload_n hx hb dX5_readSum_28 rfl (lv_at hl 1 rfl) ?_
        refine lv_bipush (v := 45) hx hb dX5_readSum_29 (by decide) ?_
        refine cv_i (As := [.int 45]) (rest := []) (b := w) ⟨hx, hb, hml, hown, hts⟩ (c_X5_isMark hT (w := w) hw (ch := 45) (by first | omega | decide | assumption) (by first | omega | decide | assumption) (by first | omega | decide | assumption) (by first | omega | decide | assumption) ⟨hkw, hktx, hkco⟩ (by first | omega | decide | assumption)) (cwV 1 hts gX5_readSum_X5_isMark rfl rfl rfl hdX5_isMark_v ⟨Nat.le_of_ble_eq_true rfl, Nat.le_of_ble_eq_true rfl⟩) hN hE hL (rcv6 hN hT hw.1) rfl rfl hl.1 (Nat.le_of_ble_eq_true rfl) dX5_readSum_31 (Nat.zero_le _) (Nat.zero_le _) (fun r1679 H1 locs hL hqr1679 => ?_)
        obtain ⟨h9, hqr1679⟩ := hqr1679; replace h9 := h9.symm; subst h9
        rcases hqr1679 with ⟨rfl, e1680⟩ | ⟨rfl, e1681⟩
        · refine lv_if_eq (tgt := 79) hx hb dX5_readSum_34 (by decide) (fun c9 => absurd c9 (by decide)) (fun _ => ?_)
          refine lv_aload_n hx hb dX5_readSum_37 rfl (lv_at hl 1 rfl) ?_
          refine lv_bipush (v := 43) hx hb dX5_readSum_38 (by decide) ?_
          refine cv_i (As := [.int 43]) (rest := []) (b := w) ⟨hx, hb, hml, hown, hts⟩ (c_X5_isMark hT (w := w) hw (ch := 43) (by first | omega | decide | assumption) (by first | omega | decide | assumption) (by first | omega | decide | assumption) (by first | omega | decide | assumption) ⟨hkw, hktx, hkco⟩ (by first | omega | decide | assumption)) (cwV 1 hts gX5_readSum_X5_isMark rfl rfl rfl hdX5_isMark_v ⟨Nat.le_of_ble_eq_true rfl, Nat.le_of_ble_eq_true rfl⟩) hN hE hL (rcv6 hN hT hw.1) rfl rfl hl.1 (Nat.le_of_ble_eq_true rfl) dX5_readSum_40 (Nat.zero_le _) (Nat.zero_le _) (fun r1682 H1 locs hL hqr1682 => ?_)
          obtain ⟨h9, hqr1682⟩ := hqr1682; replace h9 := h9.symm; subst h9
          rcases hqr1682 with ⟨rfl, e1683⟩ | ⟨rfl, e1684⟩
          · exact absurd e1683 e1654
          · refine lv_if_eq (tgt := 51) hx hb dX5_readSum_43 (by decide) (fun _ => ?_) (fun c9 => absurd (by decide) c9)
            refine lv_bipush (v := (-6)) hx hb dX5_readSum_51 (by decide) ?_
            refine lv_istore_n (lv' := [(3, .int (-6)), (2, .int (nI k)), (0, .ref w), (1, .int 4)]) hx hb dX5_readSum_53 rfl hl (by decide) rfl (fun ls hl => ?_)
            refine lv_aload_n hx hb dX5_readSum_54 rfl (lv_at hl 2 rfl) ?_
            refine cv_v (As := []) (rest := []) (b := w) ⟨hx, hb, hml, hown, hts⟩ (c_X5_step hT (w := w) hw (by first | omega | decide | assumption) (by first | omega | decide | assumption) (by first | omega | decide | assumption) (by first | omega | decide | assumption) (by first | omega | decide | assumption) ⟨hkw, hktx, hkco⟩) (cwV 0 hts gX5_readSum_X5_step rfl rfl rfl hdX5_step_v ⟨Nat.le_of_ble_eq_true rfl, Nat.le_of_ble_eq_true rfl⟩) hN hE hL (rcv6 hN hT hw.1) rfl rfl hl.1 (Nat.le_of_ble_eq_true rfl) dX5_readSum_55 (Nat.zero_le _) (Nat.zero_le _) (fun H1 locs hL hqr1685 => ?_)
            obtain ⟨hT1, hF1, hqr1685⟩ := hqr1685
            have hF := hF.tr (hF1.mono (by simp))
            have hT := hT1
            have m1686 := hqr1685
            obtain ⟨z1687, hz1687⟩ : ∃ z9, z9 = skp B ((tkE B zc)) := ⟨_, rfl⟩
            rw [← hz1687] at m1686
            have bz1687 : z1687 ≤ tn := by rw [hz1687]; exact run_ub hY (by decide) (by omega)
            have hzE := tkE_le hY (s := z1687) (by omega)
            obtain ⟨hkw, hktx, hkco⟩ := m1686
            have hzl := mark_lt hY (by decide) e1680
            have hzz : z1687 = skp B (zc + 1) := by rw [hz1687, tkE_m hY (by decide) e1680]
            have hzb := skp_b hY (z := zc + 1) (by omega)
            rw [← hzz] at hzb
            refine lv_aload_n hx hb dX5_readSum_58 rfl (lv_at hl 2 rfl) ?_
            refine lv_iload_n hx hb dX5_readSum_59 rfl (lv_at hl 3 rfl) ?_
            refine cv_i (As := [.int 4]) (rest := []) (b := w) ⟨hx, hb, hml, hown, hts⟩ (c_X5_readTerm_d4 hT (w := w) hw (by first | omega | decide | assumption) (by first | omega | decide | assumption) (by first | omega | decide | assumption) (by first | omega | decide | assumption) ⟨hkw, hktx, hkco⟩ (by first | omega | decide | assumption)) (cwV 1 hts gX5_readSum_X5_readTerm rfl rfl rfl hdX5_readTerm_v ⟨Nat.le_of_ble_eq_true rfl, Nat.le_of_ble_eq_true rfl⟩) hN hE hL (rcv6 hN hT hw.1) rfl rfl hl.1 (Nat.le_of_ble_eq_true rfl) dX5_readSum_60 (Nat.zero_le _) (Nat.zero_le _) (fun r1688 H1 locs hL hqr1688 => ?_)
            obtain ⟨hT1, hF1, hqr1688⟩ := hqr1688
            have hF := hF.tr (hF1.mono (by simp))
            have hT := hT1
            rcases hqr1688 with ⟨rfl, l1689, q1690, f1691, t1692, k1693, e1694, u1695, v1696, b1697, c1698, m1699⟩ | ⟨rfl, c1700, o1701, e1702, x1703⟩
            · obtain ⟨hkw, hktx, hkco⟩ := m1699
              have hzE := tkE_le hY (s := q1690) (by omega)
              refine lv_if_ne (tgt := 68) hx hb dX5_readSum_63 (by decide) (fun _ => ?_) (fun c9 => absurd c9 (by decide))
              refine lv_aload_n hx hb dX5_readSum_68 rfl (lv_at hl 2 rfl) ?_
              refine lv_iload_n hx hb dX5_readSum_69 rfl (lv_at hl 0 rfl) ?_
              refine cv_v (As := [.int (-6)]) (rest := []) (b := w) ⟨hx, hb, hml, hown, hts⟩ (c_X5_putCode hT (w := w) hw (x := (-6)) (by first | omega | decide | assumption) (by first | omega | decide | assumption) (by first | omega | decide | assumption) (by first | omega | decide | assumption) ⟨hkw, hktx, hkco⟩ (by first | omega | decide | assumption)) (cwV 1 hts gX5_readSum_X5_putCode rfl rfl rfl hdX5_putCode_v ⟨Nat.le_of_ble_eq_true rfl, Nat.le_of_ble_eq_true rfl⟩) hN hE hL (rcv6 hN hT hw.1) rfl rfl hl.1 (Nat.le_of_ble_eq_true rfl) dX5_readSum_70 (Nat.zero_le _) (Nat.zero_le _) (fun H1 locs hL hqr1704 => ?_)
              obtain ⟨hT1, hF1, hqr1704⟩ := hqr1704
              have hF := hF.tr (hF1.mono (by simp))
              have hT := hT1
              have m1705 := hqr1704
              obtain ⟨hkw, hktx, hkco⟩ := m1705
              refine lv_iinc (v := (nI (k + 1))) (lv' := [(2, .int (nI (k + 1))), (3, .int (-6)), (0, .ref w), (1, .int 4)]) hx hb dX5_readSum_73 hl (k := 1) rfl (nI_add _ 1) (by decide) rfl (fun ls hl => ?_)
              refine lv_goto (tgt := 12) hx hb dX5_readSum_76 (by decide) ?_
              exact ih1650 ((k + 1), q1690, (l9 ++ l1689 ++ [(-6)]), (upd f1691 ((cc + l9.length) + l1689.length) (-6)), t1692, k1693) _ _ _ (by show 600 - ((k + 1)) < 600 - k; omega) ⟨(by show ((k + 1)) ≤ 600 ∧ (q1690) ≤ tn ∧ z + ((k + 1)) < (q1690); omega), (by have e7 : cc + l9.length + l1689.length = cc + (l9 ++ l1689).length := (by rw [List.length_append, Nat.add_assoc]); rw [e7]; exact (hcd.tr c1698).app1), (by show z + (l9 ++ l1689 ++ [(-6 : Int32)]).length ≤ q1690; have e8 : (l9 ++ l1689 ++ [(-6 : Int32)]).length = l9.length + l1689.length + 1 := (by simp only [List.length_append, List.length_cons, List.length_nil]); rw [e8]; omega), (hlp.trans (LP_c2 hY (by decide) (by decide) hpg e1684 e1680 (by rw [← hzz]; exact e1694))), (by have e8 : (l9 ++ l1689 ++ [(-6 : Int32)]).length = l9.length + l1689.length + 1 := (by simp only [List.length_append, List.length_cons, List.length_nil]); rw [e8, show cc + (l9.length + l1689.length + 1) = cc + l9.length + l1689.length + 1 by omega]; exact ⟨hkw, hktx, hkco⟩), hT, hF, hL⟩ (lv_sub hl [0, 2, 3] rfl)
            · refine lv_if_ne (tgt := 68) hx hb dX5_readSum_63 (by decide) (fun c9 => absurd (by decide) c9) (fun _ => ?_)
              refine lv_iconst (v := 0) hx hb dX5_readSum_66 (by decide) ?_
              exact en_i hx hb hr hlocks hL rfl (Nat.zero_le _) (Nat.zero_le _) dX5_readSum_67 (⟨hT, hF, Or.inr ⟨rfl, _, _, hlp.trans (LP_er (o := 0) hY (by omega) (Or.inr ⟨e1684, e1680⟩) (by rw [← hzz]; exact e1702)), x1703⟩⟩)
        · refine lv_if_eq (tgt := 79) hx hb dX5_readSum_34 (by decide) (fun _ => ?_) (fun c9 => absurd (by decide) c9)
          refine lv_iconst (v := 1) hx hb dX5_readSum_79 (by decide) ?_
          exact en_i hx hb hr hlocks hL rfl (Nat.zero_le _) (Nat.zero_le _) dX5_readSum_80 (⟨hT, hF, Or.inl ⟨rfl, l9, zc, _, _, _, hlp.trans (LP_no e1654 e1681), (by omega), (by omega), (by omega), hcd, ⟨hkw, hktx, hkco⟩⟩⟩)
  · refine lv_if_ne (tgt := 10) hx hb dX5_readSum_5 (by decide) (fun c9 => absurd (by decide) c9) (fun _ => ?_)
    refine lv_iconst (v := 0) hx hb dX5_readSum_8 (by decide) ?_
    exact en_i hx hb hr hlocks hL rfl (Nat.zero_le _) (Nat.zero_le _) dX5_readSum_9 (⟨hT, hF, Or.inr ⟨rfl, _, _, (hfd z).trans (many_er e1648), x1649⟩⟩)
theorem hdX5_readSum_v : yX5_readSum.cls = RX5 ∧ yX5_readSum.cls ≠ "java/lang/invoke/MethodHandle" ∧ yX5_readSum.cls ≠ "java/lang/invoke/VarHandle" ∧ (parseMethodDescriptor yX5_readSum.desc).map (fun d => d.parameters.length) = some 1 := by decide +kernel
theorem hdX5_takeMark_v : yX5_takeMark.cls = RX5 ∧ yX5_takeMark.cls ≠ "java/lang/invoke/MethodHandle" ∧ yX5_takeMark.cls ≠ "java/lang/invoke/VarHandle" ∧ (parseMethodDescriptor yX5_takeMark.desc).map (fun d => d.parameters.length) = some 1 := by decide +kernel
set_option maxHeartbeats 4000000 in
set_option maxRecDepth 100000 in
theorem c_X5_readFactor_d3 {l : Launch} {D : va_G} {cs : Nat → ClassId} {B0 T : Nat} {κ : KM} {H0 : Heap} (hT : WT B0 D cs T κ H0) {w : Nat} (hw : T2 κ w 6 10) {tx co tn cc : Nat} {f cf B : Nat → Int32} {ta tk ec es : Int32} {su : Value} (hY : BY B tn) (hf : TXB f B tn) (hcc : cc ≤ 600) {z : Nat} (hz : z ≤ tn) (hrs : RS D cs w H0 tx f co cf (κ w).2.2.1 tn (tkE B z) (tkK B z) z (tkV B z) ta tk cc su ec es) (hcz : cc ≤ z) : KC l yX5_readFactor wsX5_readFactor 9 195 0 0 D cs B0 H0 [.ref w, .int 3] (Qi (fun r H => WT B0 D cs T κ H ∧ Fr B0 [10] κ H0 H ∧ ((r = 1 ∧ ∃ l1 q1 cf1 ta1 tk1, facD B 1 z = .inr (l1, q1) ∧ z < q1 ∧ q1 ≤ tn ∧ z + l1.length ≤ q1 ∧ CDS cf cf1 cc l1 ∧ RS D cs w H tx f co cf1 (κ w).2.2.1 tn (tkE B q1) (tkK B q1) q1 (tkV B q1) ta1 tk1 (cc + l1.length) su ec es) ∨ (r = 0 ∧ ∃ c9 o9, facD B 1 z = .inl (c9, o9) ∧ RE D cs w H tx f co (κ w).2.2.1 tn su c9 (nI o9))))) := by
  refine KC.of cX5_readFactor 3 (some .boolean) (by decide) rfl (Nat.le_of_ble_eq_true rfl) ?_
  intro p e s m below meth c ls hx hb hr hml hown hts hlocks hin hN hE hH0 hl
  have hown : s.vm.findClass RX5 = some m.cls := hown
  have hl : lv_has ls 3 [(0, .ref w), (1, .int 3)] := hl
  have hL : OkL B0 [] := OkL.nil
  have hF : Fr B0 [10] κ H0 H0 := Fr.rf
  obtain ⟨hkw, hktx, hkco⟩ := hrs
  have h6n := hY.1
  obtain ⟨htx, hco⟩ : T2 κ tx 16 10 ∧ T2 κ co 17 10 := RS.t2 hT hw hkw
  have hzE := tkE_le hY (s := z) (by omega)
  have hfd : ∀ z9, facD B 1 z9 = facB B (sumD B 0) false z9 := fun _ => rfl
  refine lv_aload_n hx hb dX5_readFactor_0 rfl (lv_at hl 0 rfl) ?_
  obtain ⟨hb1706, e1706, hat1706, hk1706⟩ := hT.o6 hw.1
  obtain ⟨f1706_0, f1706_2, f1706_3, f1706_4, f1706_5, f1706_6, f1706_7, f1706_8, f1706_9, f1706_10, f1706_11, f1706_12, f1706_13, rfl, c1706_1, c1706_2, c1706_3, c1706_5, c1706_10, t1706_0, t1706_9, c1706_11, c1706_p2⟩ := hk1706
  obtain ⟨rfl, rfl, rfl, rfl, rfl, rfl, rfl, rfl, rfl, rfl, rfl, rfl, rfl⟩ := eq6 hat1706 hkw (by omega)
  have hP : va_P D vwCl [(w, .inr (5, [.ref tx, .int (nI ((κ w).2.2.1)), .int (nI tn), .int (nI ((tkE B z))), .int (tkK B z), .int (nI z), .int (tkV B z), .int ta, .int tk, .ref co, .int (nI cc), su, .int ec, .int es]))] _ := va_P.cons hat1706 va_P.nil
  refine va_get (D := D) (ci := 5) (v := .int (tkK B z)) (C := RX5) (T := TX5) (N := 14) hx hb hts iX5_readFactor_5 hown hN.1 hP 0 rfl rfl 4 (by decide) (hts _ mX5_readFactor_1) (fun _ h9 => h9) rfl dX5_readFactor_1 ?_
  refine lv_iconst (v := 1) hx hb dX5_readFactor_4 (by decide) ?_
  refine lv_icmp_ne (tgt := 31) hx hb dX5_readFactor_5 (by decide) (fun c1707 => ?_) (fun c1707 => ?_)
  · have hnd : ¬ isd (B z) := fun g9 => c1707 (tkK_1.mpr g9)
    refine lv_aload_n hx hb dX5_readFactor_31 rfl (lv_at hl 0 rfl) ?_
    refine lv_bipush (v := 40) hx hb dX5_readFactor_32 (by decide) ?_
    refine cv_i (As := [.int 40]) (rest := []) (b := w) ⟨hx, hb, hml, hown, hts⟩ (c_X5_isMark hT (w := w) hw (ch := 40) (by first | omega | decide | assumption) (by first | omega | decide | assumption) (by first | omega | decide | assumption) (by first | omega | decide | assumption) ⟨hkw, hktx, hkco⟩ (by first | omega | decide | assumption)) (cwV 1 hts gX5_readFactor_X5_isMark rfl rfl rfl hdX5_isMark_v ⟨Nat.le_of_ble_eq_true rfl, Nat.le_of_ble_eq_true rfl⟩) hN hE hL (rcv6 hN hT hw.1) rfl rfl hl.1 (Nat.le_of_ble_eq_true rfl) dX5_readFactor_34 (Nat.zero_le _) (Nat.zero_le _) (fun r1708 H1 locs hL hqr1708 => ?_)
    obtain ⟨h9, hqr1708⟩ := hqr1708; replace h9 := h9.symm; subst h9
    rcases hqr1708 with ⟨rfl, e1709⟩ | ⟨rfl, e1710⟩
    · refine lv_if_eq (tgt := 85) hx hb dX5_readFactor_37 (by decide) (fun c9 => absurd c9 (by decide)) (fun _ => ?_)
      refine lv_iload_n hx hb dX5_readFactor_40 rfl (lv_at hl 1 rfl) ?_
      refine lv_iconst (v := 4) hx hb dX5_readFactor_41 (by decide) ?_
      refine lv_icmp_lt (tgt := 56) hx hb dX5_readFactor_42 (by decide) (fun _ => ?_) (fun c9 => absurd (by decide) c9)
      refine lv_aload_n hx hb dX5_readFactor_56 rfl (lv_at hl 0 rfl) ?_
      refine cv_v (As := []) (rest := []) (b := w) ⟨hx, hb, hml, hown, hts⟩ (c_X5_step hT (w := w) hw (by first | omega | decide | assumption) (by first | omega | decide | assumption) (by first | omega | decide | assumption) (by first | omega | decide | assumption) (by first | omega | decide | assumption) ⟨hkw, hktx, hkco⟩) (cwV 0 hts gX5_readFactor_X5_step rfl rfl rfl hdX5_step_v ⟨Nat.le_of_ble_eq_true rfl, Nat.le_of_ble_eq_true rfl⟩) hN hE hL (rcv6 hN hT hw.1) rfl rfl hl.1 (Nat.le_of_ble_eq_true rfl) dX5_readFactor_57 (Nat.zero_le _) (Nat.zero_le _) (fun H1 locs hL hqr1711 => ?_)
      obtain ⟨hT1, hF1, hqr1711⟩ := hqr1711
      have hF := hF.tr (hF1.mono (by simp))
      have hT := hT1
      have m1712 := hqr1711
      obtain ⟨z1713, hz1713⟩ : ∃ z9, z9 = skp B ((tkE B z)) := ⟨_, rfl⟩
      rw [← hz1713] at m1712
      have bz1713 : z1713 ≤ tn := by rw [hz1713]; exact run_ub hY (by decide) (by omega)
      have hzE := tkE_le hY (s := z1713) (by omega)
      obtain ⟨hkw, hktx, hkco⟩ := m1712
      have hz40 := mark_lt hY (by decide) e1709
      have hzz : z1713 = skp B (z + 1) := by rw [hz1713, tkE_m hY (by decide) e1709]
      have hzb := skp_b hY (z := z + 1) (by omega)
      refine lv_aload_n hx hb dX5_readFactor_60 rfl (lv_at hl 0 rfl) ?_
      refine lv_iload_n hx hb dX5_readFactor_61 rfl (lv_at hl 1 rfl) ?_
      refine lv_iconst (v := 1) hx hb dX5_readFactor_62 (by decide) ?_
      refine lv_iadd hx hb dX5_readFactor_63 ?_
      refine tp_i 4 (by decide) ?_
      refine cv_i (As := [.int 4]) (rest := []) (b := w) ⟨hx, hb, hml, hown, hts⟩ (c_X5_readSum_d4 hT (w := w) hw (by first | omega | decide | assumption) (by first | omega | decide | assumption) (by first | omega | decide | assumption) (by first | omega | decide | assumption) ⟨hkw, hktx, hkco⟩ (by first | omega | decide | assumption)) (cwV 1 hts gX5_readFactor_X5_readSum rfl rfl rfl hdX5_readSum_v ⟨Nat.le_of_ble_eq_true rfl, Nat.le_of_ble_eq_true rfl⟩) hN hE hL (rcv6 hN hT hw.1) rfl rfl hl.1 (Nat.le_of_ble_eq_true rfl) dX5_readFactor_64 (Nat.zero_le _) (Nat.zero_le _) (fun r1714 H1 locs hL hqr1714 => ?_)
      obtain ⟨hT1, hF1, hqr1714⟩ := hqr1714
      have hF := hF.tr (hF1.mono (by simp))
      have hT := hT1
      rcases hqr1714 with ⟨rfl, l1715, q1716, f1717, t1718, k1719, e1720, u1721, v1722, b1723, c1724, m1725⟩ | ⟨rfl, c1726, o1727, e1728, x1729⟩
      · obtain ⟨hkw, hktx, hkco⟩ := m1725
        have hzE := tkE_le hY (s := q1716) (by omega)
        refine lv_if_eq (tgt := 83) hx hb dX5_readFactor_67 (by decide) (fun c9 => absurd c9 (by decide)) (fun _ => ?_)
        refine lv_aload_n hx hb dX5_readFactor_70 rfl (lv_at hl 0 rfl) ?_
        refine lv_bipush (v := 41) hx hb dX5_readFactor_71 (by decide) ?_
        refine cv_i (As := [.int 41]) (rest := []) (b := w) ⟨hx, hb, hml, hown, hts⟩ (c_X5_takeMark hT (w := w) hw (ch := 41) (by first | omega | decide | assumption) (by first | omega | decide | assumption) (by first | omega | decide | assumption) (by first | omega | decide | assumption) ⟨hkw, hktx, hkco⟩ (by first | omega | decide | assumption)) (cwV 1 hts gX5_readFactor_X5_takeMark rfl rfl rfl hdX5_takeMark_v ⟨Nat.le_of_ble_eq_true rfl, Nat.le_of_ble_eq_true rfl⟩) hN hE hL (rcv6 hN hT hw.1) rfl rfl hl.1 (Nat.le_of_ble_eq_true rfl) dX5_readFactor_73 (Nat.zero_le _) (Nat.zero_le _) (fun r1730 H1 locs hL hqr1730 => ?_)
        obtain ⟨hT1, hF1, hqr1730⟩ := hqr1730
        have hF := hF.tr (hF1.mono (by simp))
        have hT := hT1
        rcases hqr1730 with ⟨rfl, e1731, m1732⟩ | ⟨rfl, e1733, m1734⟩
        · obtain ⟨z1735, hz1735⟩ : ∃ z9, z9 = skp B (q1716 + 1) := ⟨_, rfl⟩
          rw [← hz1735] at m1732
          have bz1735 : z1735 ≤ tn := by rw [hz1735]; exact (skp_b hY (Nat.succ_le_of_lt (mark_lt hY (by first | decide | exact hch.1) e1731))).2
          have hzE := tkE_le hY (s := z1735) (by omega)
          obtain ⟨hkw, hktx, hkco⟩ := m1732
          refine lv_if_eq (tgt := 83) hx hb dX5_readFactor_76 (by decide) (fun c9 => absurd c9 (by decide)) (fun _ => ?_)
          refine lv_iconst (v := 1) hx hb dX5_readFactor_79 (by decide) ?_
          refine lv_goto (tgt := 84) hx hb dX5_readFactor_80 (by decide) ?_
          have h41 := mark_lt hY (by decide) e1731
          have h41b := skp_b hY (z := q1716 + 1) (by omega)
          rw [← hz1735] at h41b
          exact en_i hx hb hr hlocks hL rfl (Nat.zero_le _) (Nat.zero_le _) dX5_readFactor_84 (⟨hT, hF, Or.inl ⟨rfl, l1715, z1735, _, _, _, (hfd z).trans ((fac_cl hnd e1709 (by rw [← hzz]; exact e1720) e1731).trans (by rw [hz1735])), (by omega), (by omega), (by omega), c1724, ⟨hkw, hktx, hkco⟩⟩⟩)
        · obtain ⟨hkw, hktx, hkco⟩ := m1734
          refine lv_if_eq (tgt := 83) hx hb dX5_readFactor_76 (by decide) (fun _ => ?_) (fun c9 => absurd (by decide) c9)
          refine lv_iconst (v := 0) hx hb dX5_readFactor_83 (by decide) ?_
          exact en_i hx hb hr hlocks hL rfl (Nat.zero_le _) (Nat.zero_le _) dX5_readFactor_84 (⟨hT, hF, Or.inr ⟨rfl, -2, q1716, (hfd z).trans (fac_op hnd e1709 (by rw [← hzz]; exact e1720) e1733), ⟨_, _, _, _, _, _, _, _, (by omega), (by omega), (by omega), hkw, hktx, hkco⟩⟩⟩)
      · refine lv_if_eq (tgt := 83) hx hb dX5_readFactor_67 (by decide) (fun _ => ?_) (fun c9 => absurd (by decide) c9)
        refine lv_iconst (v := 0) hx hb dX5_readFactor_83 (by decide) ?_
        exact en_i hx hb hr hlocks hL rfl (Nat.zero_le _) (Nat.zero_le _) dX5_readFactor_84 (⟨hT, hF, Or.inr ⟨rfl, _, _, (hfd z).trans (fac_er hnd e1709 (by rw [← hzz]; exact e1728)), x1729⟩⟩)
    · refine lv_if_eq (tgt := 85) hx hb dX5_readFactor_37 (by decide) (fun _ => ?_) (fun c9 => absurd (by decide) c9)
      refine lv_aload_n hx hb dX5_readFactor_85 rfl (lv_at hl 0 rfl) ?_
      refine cv_i (As := []) (rest := []) (b := w) ⟨hx, hb, hml, hown, hts⟩ (c_X5_codeOfWord hT (w := w) hw (by first | omega | decide | assumption) (by first | omega | decide | assumption) (by first | omega | decide | assumption) (by first | omega | decide | assumption) ⟨hkw, hktx, hkco⟩) (cwV 0 hts gX5_readFactor_X5_codeOfWord rfl rfl rfl hdX5_codeOfWord_v ⟨Nat.le_of_ble_eq_true rfl, Nat.le_of_ble_eq_true rfl⟩) hN hE hL (rcv6 hN hT hw.1) rfl rfl hl.1 (Nat.le_of_ble_eq_true rfl) dX5_readFactor_86 (Nat.zero_le _) (Nat.zero_le _) (fun r1736 H1 locs hL hqr1736 => ?_)
      obtain ⟨h9, hqr1736⟩ := hqr1736; replace h9 := h9.symm; subst h9
      rcases hqr1736 with ⟨rfl, a1737⟩ | ⟨rfl, a1738, b1739⟩ | ⟨rfl, a1740, b1741, c1742⟩ | ⟨rfl, a1743, b1744, c1745, d1746⟩ | ⟨rfl, a1747, b1748, c1749, d1750⟩
      · have hzl := hY.l (isW_le hY (i := 1) (by decide) a1737).1
        refine lv_istore_n (lv' := [(2, .int (-1)), (0, .ref w), (1, .int 3)]) hx hb dX5_readFactor_89 rfl hl (by decide) rfl (fun ls hl => ?_)
        refine lv_iload_n hx hb dX5_readFactor_90 rfl (lv_at hl 0 rfl) ?_
        refine lv_if_ne (tgt := 105) hx hb dX5_readFactor_91 (by decide) (fun _ => ?_) (fun c9 => absurd c9 (by decide))
        refine lv_aload_n hx hb dX5_readFactor_105 rfl (lv_at hl 1 rfl) ?_
        refine lv_iload_n hx hb dX5_readFactor_106 rfl (lv_at hl 0 rfl) ?_
        refine cv_v (As := [.int (-1)]) (rest := []) (b := w) ⟨hx, hb, hml, hown, hts⟩ (c_X5_putCode hT (w := w) hw (x := (-1)) (by first | omega | decide | assumption) (by first | omega | decide | assumption) (by first | omega | decide | assumption) (by first | omega | decide | assumption) ⟨hkw, hktx, hkco⟩ (by first | omega | decide | assumption)) (cwV 1 hts gX5_readFactor_X5_putCode rfl rfl rfl hdX5_putCode_v ⟨Nat.le_of_ble_eq_true rfl, Nat.le_of_ble_eq_true rfl⟩) hN hE hL (rcv6 hN hT hw.1) rfl rfl hl.1 (Nat.le_of_ble_eq_true rfl) dX5_readFactor_107 (Nat.zero_le _) (Nat.zero_le _) (fun H1 locs hL hqr1751 => ?_)
        obtain ⟨hT1, hF1, hqr1751⟩ := hqr1751
        have hF := hF.tr (hF1.mono (by simp))
        have hT := hT1
        have m1752 := hqr1751
        obtain ⟨hkw, hktx, hkco⟩ := m1752
        refine lv_aload_n hx hb dX5_readFactor_110 rfl (lv_at hl 1 rfl) ?_
        refine cv_v (As := []) (rest := []) (b := w) ⟨hx, hb, hml, hown, hts⟩ (c_X5_step hT (w := w) hw (by first | omega | decide | assumption) (by first | omega | decide | assumption) (by first | omega | decide | assumption) (by first | omega | decide | assumption) (by first | omega | decide | assumption) ⟨hkw, hktx, hkco⟩) (cwV 0 hts gX5_readFactor_X5_step rfl rfl rfl hdX5_step_v ⟨Nat.le_of_ble_eq_true rfl, Nat.le_of_ble_eq_true rfl⟩) hN hE hL (rcv6 hN hT hw.1) rfl rfl hl.1 (Nat.le_of_ble_eq_true rfl) dX5_readFactor_111 (Nat.zero_le _) (Nat.zero_le _) (fun H1 locs hL hqr1753 => ?_)
        obtain ⟨hT1, hF1, hqr1753⟩ := hqr1753
        have hF := hF.tr (hF1.mono (by simp))
        have hT := hT1
        have m1754 := hqr1753
        obtain ⟨z1755, hz1755⟩ : ∃ z9, z9 = skp B ((tkE B z)) := ⟨_, rfl⟩
        rw [← hz1755] at m1754
        have bz1755 : z1755 ≤ tn := by rw [hz1755]; exact run_ub hY (by decide) (by omega)
        have hzE := tkE_le hY (s := z1755) (by omega)
        obtain ⟨hkw, hktx, hkco⟩ := m1754
        refine lv_iconst (v := 1) hx hb dX5_readFactor_114 (by decide) ?_
        have hwl := isW_lt hY (i := 1) (by decide) a1737
        have hzw : z1755 = skp B (z + nT 1) := by rw [hz1755, tkE_w hY (i := 1) (by decide) a1737]
        rw [← hzw] at hwl
        exact en_i hx hb hr hlocks hL rfl (Nat.zero_le _) (Nat.zero_le _) dX5_readFactor_115 (⟨hT, hF, Or.inl ⟨rfl, [(-1)], z1755, _, _, _, ((hfd z).trans (fac_w1 hnd e1710 a1737)).trans (by rw [hzw]), hwl.1, hwl.2, (show z + 1 ≤ _ by omega), CDS.one, ⟨hkw, hktx, hkco⟩⟩⟩)
      · have hzl := hY.l (isW_le hY (i := 7) (by decide) b1739).1
        refine lv_istore_n (lv' := [(2, .int (-2)), (0, .ref w), (1, .int 3)]) hx hb dX5_readFactor_89 rfl hl (by decide) rfl (fun ls hl => ?_)
        refine lv_iload_n hx hb dX5_readFactor_90 rfl (lv_at hl 0 rfl) ?_
        refine lv_if_ne (tgt := 105) hx hb dX5_readFactor_91 (by decide) (fun _ => ?_) (fun c9 => absurd c9 (by decide))
        refine lv_aload_n hx hb dX5_readFactor_105 rfl (lv_at hl 1 rfl) ?_
        refine lv_iload_n hx hb dX5_readFactor_106 rfl (lv_at hl 0 rfl) ?_
        refine cv_v (As := [.int (-2)]) (rest := []) (b := w) ⟨hx, hb, hml, hown, hts⟩ (c_X5_putCode hT (w := w) hw (x := (-2)) (by first | omega | decide | assumption) (by first | omega | decide | assumption) (by first | omega | decide | assumption) (by first | omega | decide | assumption) ⟨hkw, hktx, hkco⟩ (by first | omega | decide | assumption)) (cwV 1 hts gX5_readFactor_X5_putCode rfl rfl rfl hdX5_putCode_v ⟨Nat.le_of_ble_eq_true rfl, Nat.le_of_ble_eq_true rfl⟩) hN hE hL (rcv6 hN hT hw.1) rfl rfl hl.1 (Nat.le_of_ble_eq_true rfl) dX5_readFactor_107 (Nat.zero_le _) (Nat.zero_le _) (fun H1 locs hL hqr1756 => ?_)
        obtain ⟨hT1, hF1, hqr1756⟩ := hqr1756
        have hF := hF.tr (hF1.mono (by simp))
        have hT := hT1
        have m1757 := hqr1756
        obtain ⟨hkw, hktx, hkco⟩ := m1757
        refine lv_aload_n hx hb dX5_readFactor_110 rfl (lv_at hl 1 rfl) ?_
        refine cv_v (As := []) (rest := []) (b := w) ⟨hx, hb, hml, hown, hts⟩ (c_X5_step hT (w := w) hw (by first | omega | decide | assumption) (by first | omega | decide | assumption) (by first | omega | decide | assumption) (by first | omega | decide | assumption) (by first | omega | decide | assumption) ⟨hkw, hktx, hkco⟩) (cwV 0 hts gX5_readFactor_X5_step rfl rfl rfl hdX5_step_v ⟨Nat.le_of_ble_eq_true rfl, Nat.le_of_ble_eq_true rfl⟩) hN hE hL (rcv6 hN hT hw.1) rfl rfl hl.1 (Nat.le_of_ble_eq_true rfl) dX5_readFactor_111 (Nat.zero_le _) (Nat.zero_le _) (fun H1 locs hL hqr1758 => ?_)
        obtain ⟨hT1, hF1, hqr1758⟩ := hqr1758
        have hF := hF.tr (hF1.mono (by simp))
        have hT := hT1
        have m1759 := hqr1758
        obtain ⟨z1760, hz1760⟩ : ∃ z9, z9 = skp B ((tkE B z)) := ⟨_, rfl⟩
        rw [← hz1760] at m1759
        have bz1760 : z1760 ≤ tn := by rw [hz1760]; exact run_ub hY (by decide) (by omega)
        have hzE := tkE_le hY (s := z1760) (by omega)
        obtain ⟨hkw, hktx, hkco⟩ := m1759
        refine lv_iconst (v := 1) hx hb dX5_readFactor_114 (by decide) ?_
        have hwl := isW_lt hY (i := 7) (by decide) b1739
        have hzw : z1760 = skp B (z + nT 7) := by rw [hz1760, tkE_w hY (i := 7) (by decide) b1739]
        rw [← hzw] at hwl
        exact en_i hx hb hr hlocks hL rfl (Nat.zero_le _) (Nat.zero_le _) dX5_readFactor_115 (⟨hT, hF, Or.inl ⟨rfl, [(-2)], z1760, _, _, _, ((hfd z).trans (fac_w2 hnd e1710 a1738 b1739)).trans (by rw [hzw]), hwl.1, hwl.2, (show z + 1 ≤ _ by omega), CDS.one, ⟨hkw, hktx, hkco⟩⟩⟩)
      · have hzl := hY.l (isW_le hY (i := 8) (by decide) c1742).1
        refine lv_istore_n (lv' := [(2, .int (-3)), (0, .ref w), (1, .int 3)]) hx hb dX5_readFactor_89 rfl hl (by decide) rfl (fun ls hl => ?_)
        refine lv_iload_n hx hb dX5_readFactor_90 rfl (lv_at hl 0 rfl) ?_
        refine lv_if_ne (tgt := 105) hx hb dX5_readFactor_91 (by decide) (fun _ => ?_) (fun c9 => absurd c9 (by decide))
        refine lv_aload_n hx hb dX5_readFactor_105 rfl (lv_at hl 1 rfl) ?_
        refine lv_iload_n hx hb dX5_readFactor_106 rfl (lv_at hl 0 rfl) ?_
        refine cv_v (As := [.int (-3)]) (rest := []) (b := w) ⟨hx, hb, hml, hown, hts⟩ (c_X5_putCode hT (w := w) hw (x := (-3)) (by first | omega | decide | assumption) (by first | omega | decide | assumption) (by first | omega | decide | assumption) (by first | omega | decide | assumption) ⟨hkw, hktx, hkco⟩ (by first | omega | decide | assumption)) (cwV 1 hts gX5_readFactor_X5_putCode rfl rfl rfl hdX5_putCode_v ⟨Nat.le_of_ble_eq_true rfl, Nat.le_of_ble_eq_true rfl⟩) hN hE hL (rcv6 hN hT hw.1) rfl rfl hl.1 (Nat.le_of_ble_eq_true rfl) dX5_readFactor_107 (Nat.zero_le _) (Nat.zero_le _) (fun H1 locs hL hqr1761 => ?_)
        obtain ⟨hT1, hF1, hqr1761⟩ := hqr1761
        have hF := hF.tr (hF1.mono (by simp))
        have hT := hT1
        have m1762 := hqr1761
        obtain ⟨hkw, hktx, hkco⟩ := m1762
        refine lv_aload_n hx hb dX5_readFactor_110 rfl (lv_at hl 1 rfl) ?_
        refine cv_v (As := []) (rest := []) (b := w) ⟨hx, hb, hml, hown, hts⟩ (c_X5_step hT (w := w) hw (by first | omega | decide | assumption) (by first | omega | decide | assumption) (by first | omega | decide | assumption) (by first | omega | decide | assumption) (by first | omega | decide | assumption) ⟨hkw, hktx, hkco⟩) (cwV 0 hts gX5_readFactor_X5_step rfl rfl rfl hdX5_step_v ⟨Nat.le_of_ble_eq_true rfl, Nat.le_of_ble_eq_true rfl⟩) hN hE hL (rcv6 hN hT hw.1) rfl rfl hl.1 (Nat.le_of_ble_eq_true rfl) dX5_readFactor_111 (Nat.zero_le _) (Nat.zero_le _) (fun H1 locs hL hqr1763 => ?_)
        obtain ⟨hT1, hF1, hqr1763⟩ := hqr1763
        have hF := hF.tr (hF1.mono (by simp))
        have hT := hT1
        have m1764 := hqr1763
        obtain ⟨z1765, hz1765⟩ : ∃ z9, z9 = skp B ((tkE B z)) := ⟨_, rfl⟩
        rw [← hz1765] at m1764
        have bz1765 : z1765 ≤ tn := by rw [hz1765]; exact run_ub hY (by decide) (by omega)
        have hzE := tkE_le hY (s := z1765) (by omega)
        obtain ⟨hkw, hktx, hkco⟩ := m1764
        refine lv_iconst (v := 1) hx hb dX5_readFactor_114 (by decide) ?_
        have hwl := isW_lt hY (i := 8) (by decide) c1742
        have hzw : z1765 = skp B (z + nT 8) := by rw [hz1765, tkE_w hY (i := 8) (by decide) c1742]
        rw [← hzw] at hwl
        exact en_i hx hb hr hlocks hL rfl (Nat.zero_le _) (Nat.zero_le _) dX5_readFactor_115 (⟨hT, hF, Or.inl ⟨rfl, [(-3)], z1765, _, _, _, ((hfd z).trans (fac_w3 hnd e1710 a1740 b1741 c1742)).trans (by rw [hzw]), hwl.1, hwl.2, (show z + 1 ≤ _ by omega), CDS.one, ⟨hkw, hktx, hkco⟩⟩⟩)
      · have hzl := hY.l (isW_le hY (i := 9) (by decide) d1746).1
        refine lv_istore_n (lv' := [(2, .int (-4)), (0, .ref w), (1, .int 3)]) hx hb dX5_readFactor_89 rfl hl (by decide) rfl (fun ls hl => ?_)
        refine lv_iload_n hx hb dX5_readFactor_90 rfl (lv_at hl 0 rfl) ?_
        refine lv_if_ne (tgt := 105) hx hb dX5_readFactor_91 (by decide) (fun _ => ?_) (fun c9 => absurd c9 (by decide))
        refine lv_aload_n hx hb dX5_readFactor_105 rfl (lv_at hl 1 rfl) ?_
        refine lv_iload_n hx hb dX5_readFactor_106 rfl (lv_at hl 0 rfl) ?_
        refine cv_v (As := [.int (-4)]) (rest := []) (b := w) ⟨hx, hb, hml, hown, hts⟩ (c_X5_putCode hT (w := w) hw (x := (-4)) (by first | omega | decide | assumption) (by first | omega | decide | assumption) (by first | omega | decide | assumption) (by first | omega | decide | assumption) ⟨hkw, hktx, hkco⟩ (by first | omega | decide | assumption)) (cwV 1 hts gX5_readFactor_X5_putCode rfl rfl rfl hdX5_putCode_v ⟨Nat.le_of_ble_eq_true rfl, Nat.le_of_ble_eq_true rfl⟩) hN hE hL (rcv6 hN hT hw.1) rfl rfl hl.1 (Nat.le_of_ble_eq_true rfl) dX5_readFactor_107 (Nat.zero_le _) (Nat.zero_le _) (fun H1 locs hL hqr1766 => ?_)
        obtain ⟨hT1, hF1, hqr1766⟩ := hqr1766
        have hF := hF.tr (hF1.mono (by simp))
        have hT := hT1
        have m1767 := hqr1766
        obtain ⟨hkw, hktx, hkco⟩ := m1767
        refine lv_aload_n hx hb dX5_readFactor_110 rfl (lv_at hl 1 rfl) ?_
        refine cv_v (As := []) (rest := []) (b := w) ⟨hx, hb, hml, hown, hts⟩ (c_X5_step hT (w := w) hw (by first | omega | decide | assumption) (by first | omega | decide | assumption) (by first | omega | decide | assumption) (by first | omega | decide | assumption) (by first | omega | decide | assumption) ⟨hkw, hktx, hkco⟩) (cwV 0 hts gX5_readFactor_X5_step rfl rfl rfl hdX5_step_v ⟨Nat.le_of_ble_eq_true rfl, Nat.le_of_ble_eq_true rfl⟩) hN hE hL (rcv6 hN hT hw.1) rfl rfl hl.1 (Nat.le_of_ble_eq_true rfl) dX5_readFactor_111 (Nat.zero_le _) (Nat.zero_le _) (fun H1 locs hL hqr1768 => ?_)
        obtain ⟨hT1, hF1, hqr1768⟩ := hqr1768
        have hF := hF.tr (hF1.mono (by simp))
        have hT := hT1
        have m1769 := hqr1768
        obtain ⟨z1770, hz1770⟩ : ∃ z9, z9 = skp B ((tkE B z)) := ⟨_, rfl⟩
        rw [← hz1770] at m1769
        have bz1770 : z1770 ≤ tn := by rw [hz1770]; exact run_ub hY (by decide) (by omega)
        have hzE := tkE_le hY (s := z1770) (by omega)
        obtain ⟨hkw, hktx, hkco⟩ := m1769
        refine lv_iconst (v := 1) hx hb dX5_readFactor_114 (by decide) ?_
        have hwl := isW_lt hY (i := 9) (by decide) d1746
        have hzw : z1770 = skp B (z + nT 9) := by rw [hz1770, tkE_w hY (i := 9) (by decide) d1746]
        rw [← hzw] at hwl
        exact en_i hx hb hr hlocks hL rfl (Nat.zero_le _) (Nat.zero_le _) dX5_readFactor_115 (⟨hT, hF, Or.inl ⟨rfl, [(-4)], z1770, _, _, _, ((hfd z).trans (fac_w4 hnd e1710 a1743 b1744 c1745 d1746)).trans (by rw [hzw]), hwl.1, hwl.2, (show z + 1 ≤ _ by omega), CDS.one, ⟨hkw, hktx, hkco⟩⟩⟩)
      · refine lv_istore_n (lv' := [(2, .int 0), (0, .ref w), (1, .int 3)]) hx hb dX5_readFactor_89 rfl hl (by decide) rfl (fun ls hl => ?_)
        refine lv_iload_n hx hb dX5_readFactor_90 rfl (lv_at hl 0 rfl) ?_
        refine lv_if_ne (tgt := 105) hx hb dX5_readFactor_91 (by decide) (fun c9 => absurd (by decide) c9) (fun _ => ?_)
        refine lv_aload_n hx hb dX5_readFactor_94 rfl (lv_at hl 1 rfl) ?_
        refine lv_bipush (v := (-2)) hx hb dX5_readFactor_95 (by decide) ?_
        refine lv_aload_n hx hb dX5_readFactor_97 rfl (lv_at hl 1 rfl) ?_
        refine va_get (D := D) (ci := 5) (v := .int (nI z)) (C := RX5) (T := TX5) (N := 14) hx hb hts iX5_readFactor_5 hown hN.1 hP 0 rfl rfl 5 (by decide) (hts _ mX5_readFactor_3) (fun _ h9 => h9) rfl dX5_readFactor_98 ?_
        refine cv_i (As := [.int (-2), .int (nI z)]) (rest := []) (b := w) ⟨hx, hb, hml, hown, hts⟩ (c_X5_fail hT (w := w) hw (x := (-2)) (y := (nI z)) (by first | omega | decide | assumption) (by first | omega | decide | assumption) (by first | omega | decide | assumption) (by first | omega | decide | assumption) (by first | omega | decide | assumption) ⟨hkw, hktx, hkco⟩) (cwV 2 hts gX5_readFactor_X5_fail rfl rfl rfl hdX5_fail_v ⟨Nat.le_of_ble_eq_true rfl, Nat.le_of_ble_eq_true rfl⟩) hN hE hL (rcv6 hN hT hw.1) rfl rfl hl.1 (Nat.le_of_ble_eq_true rfl) dX5_readFactor_101 (Nat.zero_le _) (Nat.zero_le _) (fun r1771 H1 locs hL hqr1771 => ?_)
        obtain ⟨hT1, hF1, hqr1771⟩ := hqr1771
        have hF := hF.tr (hF1.mono (by simp))
        have hT := hT1
        obtain ⟨rfl, m1772⟩ := hqr1771
        obtain ⟨hkw, hktx, hkco⟩ := m1772
        exact en_i hx hb hr hlocks hL rfl (Nat.zero_le _) (Nat.zero_le _) dX5_readFactor_104 (⟨hT, hF, Or.inr ⟨rfl, -2, z, (hfd z).trans (fac_w0 hnd e1710 a1747 b1748 c1749 d1750), ⟨_, _, _, _, _, _, _, _, (by omega), (by omega), (by omega), hkw, hktx, hkco⟩⟩⟩)
  · have hd := tkK_1.mp c1707
    have hzl := hY.d hd
    refine lv_aload_n hx hb dX5_readFactor_8 rfl (lv_at hl 0 rfl) ?_
    refine lv_iconst (v := 0) hx hb dX5_readFactor_9 (by decide) ?_
    refine lv_sipush (v := 9999) hx hb dX5_readFactor_10 (by decide) ?_
    refine cv_i (As := [.int 0, .int 9999]) (rest := []) (b := w) ⟨hx, hb, hml, hown, hts⟩ (c_X5_takeNumber hT (w := w) hw (aa := 0) (bb := 9999) (by first | omega | decide | assumption) (by first | omega | decide | assumption) (by first | omega | decide | assumption) (by first | omega | decide | assumption) ⟨hkw, hktx, hkco⟩ (by first | omega | decide | assumption) (by first | omega | decide | assumption)) (cwV 2 hts gX5_readFactor_X5_takeNumber rfl rfl rfl hdX5_takeNumber_v ⟨Nat.le_of_ble_eq_true rfl, Nat.le_of_ble_eq_true rfl⟩) hN hE hL (rcv6 hN hT hw.1) rfl rfl hl.1 (Nat.le_of_ble_eq_true rfl) dX5_readFactor_13 (Nat.zero_le _) (Nat.zero_le _) (fun r1773 H1 locs hL hqr1773 => ?_)
    obtain ⟨hT1, hF1, hqr1773⟩ := hqr1773
    have hF := hF.tr (hF1.mono (by simp))
    have hT := hT1
    rcases hqr1773 with ⟨rfl, d1774, l1775, g1776, m1777⟩ | ⟨rfl, d1778, m1779⟩ | ⟨rfl, d1780, g1781, m1782⟩
    · obtain ⟨z1783, hz1783⟩ : ∃ z9, z9 = skp B (dgE B z) := ⟨_, rfl⟩
      rw [← hz1783] at m1777
      have bz1783 : z1783 ≤ tn := by rw [hz1783]; exact (dgE_lt hY d1774).2
      have hzE := tkE_le hY (s := z1783) (by omega)
      obtain ⟨hkw, hktx, hkco⟩ := m1777
      refine lv_if_ne (tgt := 21) hx hb dX5_readFactor_16 (by decide) (fun _ => ?_) (fun c9 => absurd c9 (by decide))
      refine lv_aload_n hx hb dX5_readFactor_21 rfl (lv_at hl 0 rfl) ?_
      refine lv_aload_n hx hb dX5_readFactor_22 rfl (lv_at hl 0 rfl) ?_
      obtain ⟨hb1784, e1784, hat1784, hk1784⟩ := hT.o6 hw.1
      obtain ⟨f1784_0, f1784_2, f1784_3, f1784_4, f1784_5, f1784_6, f1784_7, f1784_8, f1784_9, f1784_10, f1784_11, f1784_12, f1784_13, rfl, c1784_1, c1784_2, c1784_3, c1784_5, c1784_10, t1784_0, t1784_9, c1784_11, c1784_p2⟩ := hk1784
      obtain ⟨rfl, rfl, rfl, rfl, rfl, rfl, rfl, rfl, rfl, rfl, rfl, rfl, rfl⟩ := eq6 hat1784 hkw (by omega)
      have hP : va_P D vwCl [(w, .inr (5, [.ref tx, .int (nI ((κ w).2.2.1)), .int (nI tn), .int (nI ((tkE B z1783))), .int (tkK B z1783), .int (nI z1783), .int (tkV B z1783), .int (nI ((nvl B z 0))), .int (nI z), .ref co, .int (nI cc), su, .int ec, .int es]))] _ := va_P.cons hat1784 va_P.nil
      refine va_get (D := D) (ci := 5) (v := .int (nI ((nvl B z 0)))) (C := RX5) (T := TX5) (N := 14) hx hb hts iX5_readFactor_5 hown hN.1 hP 0 rfl rfl 7 (by decide) (hts _ mX5_readFactor_2) (fun _ h9 => h9) rfl dX5_readFactor_23 ?_
      refine cv_v (As := [.int (nI ((nvl B z 0)))]) (rest := []) (b := w) ⟨hx, hb, hml, hown, hts⟩ (c_X5_putCode hT (w := w) hw (x := (nI ((nvl B z 0)))) (by first | omega | decide | assumption) (by first | omega | decide | assumption) (by first | omega | decide | assumption) (by first | omega | decide | assumption) ⟨hkw, hktx, hkco⟩ (by first | omega | decide | assumption)) (cwV 1 hts gX5_readFactor_X5_putCode rfl rfl rfl hdX5_putCode_v ⟨Nat.le_of_ble_eq_true rfl, Nat.le_of_ble_eq_true rfl⟩) hN hE hL (rcv6 hN hT hw.1) rfl rfl hl.1 (Nat.le_of_ble_eq_true rfl) dX5_readFactor_26 (Nat.zero_le _) (Nat.zero_le _) (fun H1 locs hL hqr1785 => ?_)
      obtain ⟨hT1, hF1, hqr1785⟩ := hqr1785
      have hF := hF.tr (hF1.mono (by simp))
      have hT := hT1
      have m1786 := hqr1785
      obtain ⟨hkw, hktx, hkco⟩ := m1786
      refine lv_iconst (v := 1) hx hb dX5_readFactor_29 (by decide) ?_
      exact en_i hx hb hr hlocks hL rfl (Nat.zero_le _) (Nat.zero_le _) dX5_readFactor_30 (⟨hT, hF, Or.inl ⟨rfl, [nI (nvl B z 0)], z1783, _, _, _, (hfd z).trans ((fac_num hd (by omega)).trans (by rw [hz1783])), (by rw [hz1783]; exact (dgE_lt hY hd).1), (by rw [hz1783]; exact (dgE_lt hY hd).2), (by have h9 := (dgE_lt hY hd).1; rw [← hz1783] at h9; show z + 1 ≤ _; omega), CDS.one, ⟨hkw, hktx, hkco⟩⟩⟩)
    · exact absurd hd d1778
    · obtain ⟨hkw, hktx, hkco⟩ := m1782
      refine lv_if_ne (tgt := 21) hx hb dX5_readFactor_16 (by decide) (fun c9 => absurd (by decide) c9) (fun _ => ?_)
      refine lv_iconst (v := 0) hx hb dX5_readFactor_19 (by decide) ?_
      exact en_i hx hb hr hlocks hL rfl (Nat.zero_le _) (Nat.zero_le _) dX5_readFactor_20 (⟨hT, hF, Or.inr ⟨rfl, -3, z, (hfd z).trans (fac_big hd (by omega)), ⟨_, _, _, _, _, _, _, _, (by omega), (by omega), (by omega), hkw, hktx, hkco⟩⟩⟩)
set_option maxHeartbeats 4000000 in
set_option maxRecDepth 100000 in
theorem c_X5_readTerm_d3 {l : Launch} {D : va_G} {cs : Nat → ClassId} {B0 T : Nat} {κ : KM} {H0 : Heap} (hT : WT B0 D cs T κ H0) {w : Nat} (hw : T2 κ w 6 10) {tx co tn cc : Nat} {f cf B : Nat → Int32} {ta tk ec es : Int32} {su : Value} (hY : BY B tn) (hf : TXB f B tn) (hcc : cc ≤ 600) {z : Nat} (hz : z ≤ tn) (hrs : RS D cs w H0 tx f co cf (κ w).2.2.1 tn (tkE B z) (tkK B z) z (tkV B z) ta tk cc su ec es) (hcz : cc ≤ z) : KC l yX5_readTerm wsX5_readTerm 10 217 0 0 D cs B0 H0 [.ref w, .int 3] (Qi (fun r H => WT B0 D cs T κ H ∧ Fr B0 [10] κ H0 H ∧ ((r = 1 ∧ ∃ l1 q1 cf1 ta1 tk1, trmD B 1 z = .inr (l1, q1) ∧ z < q1 ∧ q1 ≤ tn ∧ z + l1.length ≤ q1 ∧ CDS cf cf1 cc l1 ∧ RS D cs w H tx f co cf1 (κ w).2.2.1 tn (tkE B q1) (tkK B q1) q1 (tkV B q1) ta1 tk1 (cc + l1.length) su ec es) ∨ (r = 0 ∧ ∃ c9 o9, trmD B 1 z = .inl (c9, o9) ∧ RE D cs w H tx f co (κ w).2.2.1 tn su c9 (nI o9))))) := by
  refine KC.of cX5_readTerm 4 (some .boolean) (by decide) rfl (Nat.le_of_ble_eq_true rfl) ?_
  intro p e s m below meth c ls hx hb hr hml hown hts hlocks hin hN hE hH0 hl
  have hown : s.vm.findClass RX5 = some m.cls := hown
  have hl : lv_has ls 4 [(0, .ref w), (1, .int 3)] := hl
  have hL : OkL B0 [] := OkL.nil
  have hF : Fr B0 [10] κ H0 H0 := Fr.rf
  obtain ⟨hkw, hktx, hkco⟩ := hrs
  have h6n := hY.1
  obtain ⟨htx, hco⟩ : T2 κ tx 16 10 ∧ T2 κ co 17 10 := RS.t2 hT hw hkw
  have hzE := tkE_le hY (s := z) (by omega)
  have hfd : ∀ z9, trmD B 1 z9 = manyB B (facD B 1) 42 47 (-7) (-8) z9 := fun _ => rfl
  have hpg := facD_pg hY 1
  refine lv_aload_n hx hb dX5_readTerm_0 rfl (lv_at hl 0 rfl) ?_
  refine lv_iload_n hx hb dX5_readTerm_1 rfl (lv_at hl 1 rfl) ?_
  refine cv_i (As := [.int 3]) (rest := []) (b := w) ⟨hx, hb, hml, hown, hts⟩ (c_X5_readFactor_d3 hT (w := w) hw (by first | omega | decide | assumption) (by first | omega | decide | assumption) (by first | omega | decide | assumption) (by first | omega | decide | assumption) ⟨hkw, hktx, hkco⟩ (by first | omega | decide | assumption)) (cwV 1 hts gX5_readTerm_X5_readFactor rfl rfl rfl hdX5_readFactor_v ⟨Nat.le_of_ble_eq_true rfl, Nat.le_of_ble_eq_true rfl⟩) hN hE hL (rcv6 hN hT hw.1) rfl rfl hl.1 (Nat.le_of_ble_eq_true rfl) dX5_readTerm_2 (Nat.zero_le _) (Nat.zero_le _) (fun r1787 H1 locs hL hqr1787 => ?_)
  obtain ⟨hT1, hF1, hqr1787⟩ := hqr1787
  have hF := hF.tr (hF1.mono (by simp))
  have hT := hT1
  rcases hqr1787 with ⟨rfl, l1788, q1789, f1790, t1791, k1792, e1793, u1794, v1795, b1796, c1797, m1798⟩ | ⟨rfl, c1799, o1800, e1801, x1802⟩
  · obtain ⟨hkw, hktx, hkco⟩ := m1798
    have hzE := tkE_le hY (s := q1789) (by omega)
    refine lv_if_ne (tgt := 10) hx hb dX5_readTerm_5 (by decide) (fun _ => ?_) (fun c9 => absurd c9 (by decide))
    refine lv_iconst (v := 0) hx hb dX5_readTerm_10 (by decide) ?_
    refine lv_istore_n (lv' := [(2, .int 0), (0, .ref w), (1, .int 3)]) hx hb dX5_readTerm_11 rfl hl (by decide) rfl (fun ls hl => ?_)
    refine lp_m (α := Nat × Nat × List Int32 × (Nat → Int32) × Int32 × Int32) (nL := 4) (fun a9 => 600 - a9.1) (fun a9 H9 l9 => (a9.1 ≤ 600 ∧ a9.2.1 ≤ tn ∧ z + a9.1 < a9.2.1) ∧ (CDS cf a9.2.2.2.1 cc a9.2.2.1) ∧ (z + a9.2.2.1.length ≤ a9.2.1) ∧ (trmD B 1 z = LPB B (facD B 1) 42 47 (-7) (-8) a9.2.2.1 a9.2.1) ∧ (RS D cs w H9 tx f co a9.2.2.2.1 (κ w).2.2.1 tn (tkE B a9.2.1) (tkK B a9.2.1) a9.2.1 (tkV B a9.2.1) a9.2.2.2.2.1 a9.2.2.2.2.2 (cc + a9.2.2.1.length) su ec es) ∧ (WT B0 D cs T κ H9) ∧ (Fr B0 [10] κ H0 H9) ∧ (OkL B0 l9)) (fun a9 => [(2, .int (nI a9.1)), (0, .ref w), (1, .int 3)]) ?_ (0, q1789, l1788, f1790, t1791, k1792) _ _ _ ⟨(by show (0) ≤ 600 ∧ (q1789) ≤ tn ∧ z + (0) < (q1789); omega), c1797, (by show z + (l1788).length ≤ (q1789); omega), ((hfd z).trans (many_ok e1793)), ⟨hkw, hktx, hkco⟩, hT, hF, hL⟩ (lv_sub hl [0, 1, 2] rfl)
    rintro ⟨k, zc, l9, cf9, ta9, tk9⟩ H locs ls ih1803 ⟨hk, hcd, hcl, hlp, hks, hT, hF, hL⟩ hl
    have hl : lv_has ls 4 [(2, .int (nI k)), (0, .ref w), (1, .int 3)] := hl
    have hk : k ≤ 600 ∧ zc ≤ tn ∧ z + k < zc := hk
    have hcd : CDS cf cf9 cc l9 := hcd
    have hcl : z + l9.length ≤ zc := hcl
    have hlp : trmD B 1 z = LPB B (facD B 1) 42 47 (-7) (-8) l9 zc := hlp
    have hks : RS D cs w H tx f co cf9 (κ w).2.2.1 tn (tkE B zc) (tkK B zc) zc (tkV B zc) ta9 tk9 (cc + l9.length) su ec es := hks
    obtain ⟨hkw, hktx, hkco⟩ := hks
    have hzE := tkE_le hY (s := zc) (by omega)
    refine lv_iload_n hx hb dX5_readTerm_12 rfl (lv_at hl 0 rfl) ?_
    refine lv_sipush (v := 600) hx hb dX5_readTerm_13 (by decide) ?_
    refine lv_icmp_ge (tgt := 79) hx hb dX5_readTerm_16 (by decide) (fun c1804 => ?_) (fun c1804 => ?_)
    · have c1804 : 600 ≤ k := (nI_leI (a := 600) (b := k) (by omega) (by omega)).mp c1804
      exact absurd c1804 (by omega)
    · have c1804 : ¬ 600 ≤ k := fun h9 => c1804 ((nI_leI (a := 600) (b := k) (by omega) (by omega)).mpr h9)
      refine lv_aload_n hx hb dX5_readTerm_19 rfl (lv_at hl 1 rfl) ?_
      refine lv_bipush (v := 42) hx hb dX5_readTerm_20 (by decide) ?_
      refine cv_i (As := [.int 42]) (rest := []) (b := w) ⟨hx, hb, hml, hown, hts⟩ (c_X5_isMark hT (w := w) hw (ch := 42) (by first | omega | decide | assumption) (by first | omega | decide | assumption) (by first | omega | decide | assumption) (by first | omega | decide | assumption) ⟨hkw, hktx, hkco⟩ (by first | omega | decide | assumption)) (cwV 1 hts gX5_readTerm_X5_isMark rfl rfl rfl hdX5_isMark_v ⟨Nat.le_of_ble_eq_true rfl, Nat.le_of_ble_eq_true rfl⟩) hN hE hL (rcv6 hN hT hw.1) rfl rfl hl.1 (Nat.le_of_ble_eq_true rfl) dX5_readTerm_22 (Nat.zero_le _) (Nat.zero_le _) (fun r1805 H1 locs hL hqr1805 => ?_)
      obtain ⟨h9, hqr1805⟩ := hqr1805; replace h9 := h9.symm; subst h9
      rcases hqr1805 with ⟨rfl, e1806⟩ | ⟨rfl, e1807⟩
      · refine lv_if_ne (tgt := 37) hx hb dX5_readTerm_25 (by decide) (fun _ => ?_) (fun c9 => absurd c9 (by decide))
        refine lv_aload_n hx hb dX5_readTerm_37 rfl (lv_at hl 1 rfl) ?_
        refine lv_bipush (v := 42) hx hb dX5_readTerm_38 (by decide) ?_
        refine cv_i (As := [.int 42]) (rest := []) (b := w) ⟨hx, hb, hml, hown, hts⟩ (c_X5_isMark hT (w := w) hw (ch := 42) (by first | omega | decide | assumption) (by first | omega | decide | assumption) (by first | omega | decide | assumption) (by first | omega | decide | assumption) ⟨hkw, hktx, hkco⟩ (by first | omega | decide | assumption)) (cwV 1 hts gX5_readTerm_X5_isMark rfl rfl rfl hdX5_isMark_v ⟨Nat.le_of_ble_eq_true rfl, Nat.le_of_ble_eq_true rfl⟩) hN hE hL (rcv6 hN hT hw.1) rfl rfl hl.1 (Nat.le_of_ble_eq_true rfl) dX5_readTerm_40 (Nat.zero_le _) (Nat.zero_le _) (fun r1808 H1 locs hL hqr1808 => ?_)
        obtain ⟨h9, hqr1808⟩ := hqr1808; replace h9 := h9.symm; subst h9
        rcases hqr1808 with ⟨rfl, e1809⟩ | ⟨rfl, e1810⟩
        · refine lv_if_eq (tgt := 51) hx hb dX5_readTerm_43 (by decide) (fun c9 => absurd c9 (by decide)) (fun _ => ?_)
          refine lv_bipush (v := (-7)) hx hb dX5_readTerm_46 (by decide) ?_
          refine lv_goto (tgt := 53) hx hb dX5_readTerm_48 (by decide) ?_
          refine lv_istore_n (lv' := [(3, .int (-7)), (2, .int (nI k)), (0, .ref w), (1, .int 3)]) hx hb dX5_readTerm_53 rfl hl (by decide) rfl (fun ls hl => ?_)
          refine lv_aload_n hx hb dX5_readTerm_54 rfl (lv_at hl 2 rfl) ?_
          refine cv_v (As := []) (rest := []) (b := w) ⟨hx, hb, hml, hown, hts⟩ (c_X5_step hT (w := w) hw (by first | omega | decide | assumption) (by first | omega | decide | assumption) (by first | omega | decide | assumption) (by first | omega | decide | assumption) (by first | omega | decide | assumption) ⟨hkw, hktx, hkco⟩) (cwV 0 hts gX5_readTerm_X5_step rfl rfl rfl hdX5_step_v ⟨Nat.le_of_ble_eq_true rfl, Nat.le_of_ble_eq_true rfl⟩) hN hE hL (rcv6 hN hT hw.1) rfl rfl hl.1 (Nat.le_of_ble_eq_true rfl) dX5_readTerm_55 (Nat.zero_le _) (Nat.zero_le _) (fun H1 locs hL hqr1811 => ?_)
          obtain ⟨hT1, hF1, hqr1811⟩ := hqr1811
          have hF := hF.tr (hF1.mono (by simp))
          have hT := hT1
          have m1812 := hqr1811
          obtain ⟨z1813, hz1813⟩ : ∃ z9, z9 = skp B ((tkE B zc)) := ⟨_, rfl⟩
          rw [← hz1813] at m1812
          have bz1813 : z1813 ≤ tn := by rw [hz1813]; exact run_ub hY (by decide) (by omega)
          have hzE := tkE_le hY (s := z1813) (by omega)
          obtain ⟨hkw, hktx, hkco⟩ := m1812
          have hzl := mark_lt hY (by decide) e1809
          have hzz : z1813 = skp B (zc + 1) := by rw [hz1813, tkE_m hY (by decide) e1809]
          have hzb := skp_b hY (z := zc + 1) (by omega)
          rw [← hzz] at hzb
          refine lv_aload_n hx hb dX5_readTerm_58 rfl (lv_at hl 2 rfl) ?_
          refine lv_iload_n hx hb dX5_readTerm_59 rfl (lv_at hl 3 rfl) ?_
          refine cv_i (As := [.int 3]) (rest := []) (b := w) ⟨hx, hb, hml, hown, hts⟩ (c_X5_readFactor_d3 hT (w := w) hw (by first | omega | decide | assumption) (by first | omega | decide | assumption) (by first | omega | decide | assumption) (by first | omega | decide | assumption) ⟨hkw, hktx, hkco⟩ (by first | omega | decide | assumption)) (cwV 1 hts gX5_readTerm_X5_readFactor rfl rfl rfl hdX5_readFactor_v ⟨Nat.le_of_ble_eq_true rfl, Nat.le_of_ble_eq_true rfl⟩) hN hE hL (rcv6 hN hT hw.1) rfl rfl hl.1 (Nat.le_of_ble_eq_true rfl) dX5_readTerm_60 (Nat.zero_le _) (Nat.zero_le _) (fun r1814 H1 locs hL hqr1814 => ?_)
          obtain ⟨hT1, hF1, hqr1814⟩ := hqr1814
          have hF := hF.tr (hF1.mono (by simp))
          have hT := hT1
          rcases hqr1814 with ⟨rfl, l1815, q1816, f1817, t1818, k1819, e1820, u1821, v1822, b1823, c1824, m1825⟩ | ⟨rfl, c1826, o1827, e1828, x1829⟩
          · obtain ⟨hkw, hktx, hkco⟩ := m1825
            have hzE := tkE_le hY (s := q1816) (by omega)
            refine lv_if_ne (tgt := 68) hx hb dX5_readTerm_63 (by decide) (fun _ => ?_) (fun c9 => absurd c9 (by decide))
            refine lv_aload_n hx hb dX5_readTerm_68 rfl (lv_at hl 2 rfl) ?_
            refine lv_iload_n hx hb dX5_readTerm_69 rfl (lv_at hl 0 rfl) ?_
            refine cv_v (As := [.int (-7)]) (rest := []) (b := w) ⟨hx, hb, hml, hown, hts⟩ (c_X5_putCode hT (w := w) hw (x := (-7)) (by first | omega | decide | assumption) (by first | omega | decide | assumption) (by first | omega | decide | assumption) (by first | omega | decide | assumption) ⟨hkw, hktx, hkco⟩ (by first | omega | decide | assumption)) (cwV 1 hts gX5_readTerm_X5_putCode rfl rfl rfl hdX5_putCode_v ⟨Nat.le_of_ble_eq_true rfl, Nat.le_of_ble_eq_true rfl⟩) hN hE hL (rcv6 hN hT hw.1) rfl rfl hl.1 (Nat.le_of_ble_eq_true rfl) dX5_readTerm_70 (Nat.zero_le _) (Nat.zero_le _) (fun H1 locs hL hqr1830 => ?_)
            obtain ⟨hT1, hF1, hqr1830⟩ := hqr1830
            have hF := hF.tr (hF1.mono (by simp))
            have hT := hT1
            have m1831 := hqr1830
            obtain ⟨hkw, hktx, hkco⟩ := m1831
            refine lv_iinc (v := (nI (k + 1))) (lv' := [(2, .int (nI (k + 1))), (3, .int (-7)), (0, .ref w), (1, .int 3)]) hx hb dX5_readTerm_73 hl (k := 1) rfl (nI_add _ 1) (by decide) rfl (fun ls hl => ?_)
            refine lv_goto (tgt := 12) hx hb dX5_readTerm_76 (by decide) ?_
            exact ih1803 ((k + 1), q1816, (l9 ++ l1815 ++ [(-7)]), (upd f1817 ((cc + l9.length) + l1815.length) (-7)), t1818, k1819) _ _ _ (by show 600 - ((k + 1)) < 600 - k; omega) ⟨(by show ((k + 1)) ≤ 600 ∧ (q1816) ≤ tn ∧ z + ((k + 1)) < (q1816); omega), (by have e7 : cc + l9.length + l1815.length = cc + (l9 ++ l1815).length := (by rw [List.length_append, Nat.add_assoc]); rw [e7]; exact (hcd.tr c1824).app1), (by show z + (l9 ++ l1815 ++ [(-7 : Int32)]).length ≤ q1816; have e8 : (l9 ++ l1815 ++ [(-7 : Int32)]).length = l9.length + l1815.length + 1 := (by simp only [List.length_append, List.length_cons, List.length_nil]); rw [e8]; omega), (hlp.trans (LP_c1 hY (by decide) (by decide) hpg e1809 (by rw [← hzz]; exact e1820))), (by have e8 : (l9 ++ l1815 ++ [(-7 : Int32)]).length = l9.length + l1815.length + 1 := (by simp only [List.length_append, List.length_cons, List.length_nil]); rw [e8, show cc + (l9.length + l1815.length + 1) = cc + l9.length + l1815.length + 1 by omega]; exact ⟨hkw, hktx, hkco⟩), hT, hF, hL⟩ (lv_sub hl [0, 2, 3] rfl)
          · refine lv_if_ne (tgt := 68) hx hb dX5_readTerm_63 (by decide) (fun c9 => absurd (by decide) c9) (fun _ => ?_)
            refine lv_iconst (v := 0) hx hb dX5_readTerm_66 (by decide) ?_
            exact en_i hx hb hr hlocks hL rfl (Nat.zero_le _) (Nat.zero_le _) dX5_readTerm_67 (⟨hT, hF, Or.inr ⟨rfl, _, _, hlp.trans (LP_er (o := 0) hY (by omega) (Or.inl e1809) (by rw [← hzz]; exact e1828)), x1829⟩⟩)
        · exact absurd e1806 e1810
      · refine lv_if_ne (tgt := 37) hx hb dX5_readTerm_25 (by decide) (fun c9 => absurd (by decide) c9) (fun _ => ?_)
        refine lv_aload_n hx hb dX5_readTerm_28 rfl (lv_at hl 1 rfl) ?_
        refine lv_bipush (v := 47) hx hb dX5_readTerm_29 (by decide) ?_
        refine cv_i (As := [.int 47]) (rest := []) (b := w) ⟨hx, hb, hml, hown, hts⟩ (c_X5_isMark hT (w := w) hw (ch := 47) (by first | omega | decide | assumption) (by first | omega | decide | assumption) (by first | omega | decide | assumption) (by first | omega | decide | assumption) ⟨hkw, hktx, hkco⟩ (by first | omega | decide | assumption)) (cwV 1 hts gX5_readTerm_X5_isMark rfl rfl rfl hdX5_isMark_v ⟨Nat.le_of_ble_eq_true rfl, Nat.le_of_ble_eq_true rfl⟩) hN hE hL (rcv6 hN hT hw.1) rfl rfl hl.1 (Nat.le_of_ble_eq_true rfl) dX5_readTerm_31 (Nat.zero_le _) (Nat.zero_le _) (fun r1832 H1 locs hL hqr1832 => ?_)
        obtain ⟨h9, hqr1832⟩ := hqr1832; replace h9 := h9.symm; subst h9
        rcases hqr1832 with ⟨rfl, e1833⟩ | ⟨rfl, e1834⟩
        · refine lv_if_eq (tgt := 79) hx hb dX5_readTerm_34 (by decide) (fun c9 => absurd c9 (by decide)) (fun _ => ?_)
          refine lv_aload_n hx hb dX5_readTerm_37 rfl (lv_at hl 1 rfl) ?_
          refine lv_bipush (v := 42) hx hb dX5_readTerm_38 (by decide) ?_
          refine cv_i (As := [.int 42]) (rest := []) (b := w) ⟨hx, hb, hml, hown, hts⟩ (c_X5_isMark hT (w := w) hw (ch := 42) (by first | omega | decide | assumption) (by first | omega | decide | assumption) (by first | omega | decide | assumption) (by first | omega | decide | assumption) ⟨hkw, hktx, hkco⟩ (by first | omega | decide | assumption)) (cwV 1 hts gX5_readTerm_X5_isMark rfl rfl rfl hdX5_isMark_v ⟨Nat.le_of_ble_eq_true rfl, Nat.le_of_ble_eq_true rfl⟩) hN hE hL (rcv6 hN hT hw.1) rfl rfl hl.1 (Nat.le_of_ble_eq_true rfl) dX5_readTerm_40 (Nat.zero_le _) (Nat.zero_le _) (fun r1835 H1 locs hL hqr1835 => ?_)
          obtain ⟨h9, hqr1835⟩ := hqr1835; replace h9 := h9.symm; subst h9
          rcases hqr1835 with ⟨rfl, e1836⟩ | ⟨rfl, e1837⟩
          · exact absurd e1836 e1807
          · refine lv_if_eq (tgt := 51) hx hb dX5_readTerm_43 (by decide) (fun _ => ?_) (fun c9 => absurd (by decide) c9)
            refine lv_bipush (v := (-8)) hx hb dX5_readTerm_51 (by decide) ?_
            refine lv_istore_n (lv' := [(3, .int (-8)), (2, .int (nI k)), (0, .ref w), (1, .int 3)]) hx hb dX5_readTerm_53 rfl hl (by decide) rfl (fun ls hl => ?_)
            refine lv_aload_n hx hb dX5_readTerm_54 rfl (lv_at hl 2 rfl) ?_
            refine cv_v (As := []) (rest := []) (b := w) ⟨hx, hb, hml, hown, hts⟩ (c_X5_step hT (w := w) hw (by first | omega | decide | assumption) (by first | omega | decide | assumption) (by first | omega | decide | assumption) (by first | omega | decide | assumption) (by first | omega | decide | assumption) ⟨hkw, hktx, hkco⟩) (cwV 0 hts gX5_readTerm_X5_step rfl rfl rfl hdX5_step_v ⟨Nat.le_of_ble_eq_true rfl, Nat.le_of_ble_eq_true rfl⟩) hN hE hL (rcv6 hN hT hw.1) rfl rfl hl.1 (Nat.le_of_ble_eq_true rfl) dX5_readTerm_55 (Nat.zero_le _) (Nat.zero_le _) (fun H1 locs hL hqr1838 => ?_)
            obtain ⟨hT1, hF1, hqr1838⟩ := hqr1838
            have hF := hF.tr (hF1.mono (by simp))
            have hT := hT1
            have m1839 := hqr1838
            obtain ⟨z1840, hz1840⟩ : ∃ z9, z9 = skp B ((tkE B zc)) := ⟨_, rfl⟩
            rw [← hz1840] at m1839
            have bz1840 : z1840 ≤ tn := by rw [hz1840]; exact run_ub hY (by decide) (by omega)
            have hzE := tkE_le hY (s := z1840) (by omega)
            obtain ⟨hkw, hktx, hkco⟩ := m1839
            have hzl := mark_lt hY (by decide) e1833
            have hzz : z1840 = skp B (zc + 1) := by rw [hz1840, tkE_m hY (by decide) e1833]
            have hzb := skp_b hY (z := zc + 1) (by omega)
            rw [← hzz] at hzb
            refine lv_aload_n hx hb dX5_readTerm_58 rfl (lv_at hl 2 rfl) ?_
            refine lv_iload_n hx hb dX5_readTerm_59 rfl (lv_at hl 3 rfl) ?_
            refine cv_i (As := [.int 3]) (rest := []) (b := w) ⟨hx, hb, hml, hown, hts⟩ (c_X5_readFactor_d3 hT (w := w) hw (by first | omega | decide | assumption) (by first | omega | decide | assumption) (by first | omega | decide | assumption) (by first | omega | decide | assumption) ⟨hkw, hktx, hkco⟩ (by first | omega | decide | assumption)) (cwV 1 hts gX5_readTerm_X5_readFactor rfl rfl rfl hdX5_readFactor_v ⟨Nat.le_of_ble_eq_true rfl, Nat.le_of_ble_eq_true rfl⟩) hN hE hL (rcv6 hN hT hw.1) rfl rfl hl.1 (Nat.le_of_ble_eq_true rfl) dX5_readTerm_60 (Nat.zero_le _) (Nat.zero_le _) (fun r1841 H1 locs hL hqr1841 => ?_)
            obtain ⟨hT1, hF1, hqr1841⟩ := hqr1841
            have hF := hF.tr (hF1.mono (by simp))
            have hT := hT1
            rcases hqr1841 with ⟨rfl, l1842, q1843, f1844, t1845, k1846, e1847, u1848, v1849, b1850, c1851, m1852⟩ | ⟨rfl, c1853, o1854, e1855, x1856⟩
            · obtain ⟨hkw, hktx, hkco⟩ := m1852
              have hzE := tkE_le hY (s := q1843) (by omega)
              refine lv_if_ne (tgt := 68) hx hb dX5_readTerm_63 (by decide) (fun _ => ?_) (fun c9 => absurd c9 (by decide))
              refine lv_aload_n hx hb dX5_readTerm_68 rfl (lv_at hl 2 rfl) ?_
              refine lv_iload_n hx hb dX5_readTerm_69 rfl (lv_at hl 0 rfl) ?_
              refine cv_v (As := [.int (-8)]) (rest := []) (b := w) ⟨hx, hb, hml, hown, hts⟩ (c_X5_putCode hT (w := w) hw (x := (-8)) (by first | omega | decide | assumption) (by first | omega | decide | assumption) (by first | omega | decide | assumption) (by first | omega | decide | assumption) ⟨hkw, hktx, hkco⟩ (by first | omega | decide | assumption)) (cwV 1 hts gX5_readTerm_X5_putCode rfl rfl rfl hdX5_putCode_v ⟨Nat.le_of_ble_eq_true rfl, Nat.le_of_ble_eq_true rfl⟩) hN hE hL (rcv6 hN hT hw.1) rfl rfl hl.1 (Nat.le_of_ble_eq_true rfl) dX5_readTerm_70 (Nat.zero_le _) (Nat.zero_le _) (fun H1 locs hL hqr1857 => ?_)
              obtain ⟨hT1, hF1, hqr1857⟩ := hqr1857
              have hF := hF.tr (hF1.mono (by simp))
              have hT := hT1
              have m1858 := hqr1857
              obtain ⟨hkw, hktx, hkco⟩ := m1858
              refine lv_iinc (v := (nI (k + 1))) (lv' := [(2, .int (nI (k + 1))), (3, .int (-8)), (0, .ref w), (1, .int 3)]) hx hb dX5_readTerm_73 hl (k := 1) rfl (nI_add _ 1) (by decide) rfl (fun ls hl => ?_)
              refine lv_goto (tgt := 12) hx hb dX5_readTerm_76 (by decide) ?_
              exact ih1803 ((k + 1), q1843, (l9 ++ l1842 ++ [(-8)]), (upd f1844 ((cc + l9.length) + l1842.length) (-8)), t1845, k1846) _ _ _ (by show 600 - ((k + 1)) < 600 - k; omega) ⟨(by show ((k + 1)) ≤ 600 ∧ (q1843) ≤ tn ∧ z + ((k + 1)) < (q1843); omega), (by have e7 : cc + l9.length + l1842.length = cc + (l9 ++ l1842).length := (by rw [List.length_append, Nat.add_assoc]); rw [e7]; exact (hcd.tr c1851).app1), (by show z + (l9 ++ l1842 ++ [(-8 : Int32)]).length ≤ q1843; have e8 : (l9 ++ l1842 ++ [(-8 : Int32)]).length = l9.length + l1842.length + 1 := (by simp only [List.length_append, List.length_cons, List.length_nil]); rw [e8]; omega), (hlp.trans (LP_c2 hY (by decide) (by decide) hpg e1837 e1833 (by rw [← hzz]; exact e1847))), (by have e8 : (l9 ++ l1842 ++ [(-8 : Int32)]).length = l9.length + l1842.length + 1 := (by simp only [List.length_append, List.length_cons, List.length_nil]); rw [e8, show cc + (l9.length + l1842.length + 1) = cc + l9.length + l1842.length + 1 by omega]; exact ⟨hkw, hktx, hkco⟩), hT, hF, hL⟩ (lv_sub hl [0, 2, 3] rfl)
            · refine lv_if_ne (tgt := 68) hx hb dX5_readTerm_63 (by decide) (fun c9 => absurd (by decide) c9) (fun _ => ?_)
              refine lv_iconst (v := 0) hx hb dX5_readTerm_66 (by decide) ?_
              exact en_i hx hb hr hlocks hL rfl (Nat.zero_le _) (Nat.zero_le _) dX5_readTerm_67 (⟨hT, hF, Or.inr ⟨rfl, _, _, hlp.trans (LP_er (o := 0) hY (by omega) (Or.inr ⟨e1837, e1833⟩) (by rw [← hzz]; exact e1855)), x1856⟩⟩)
        · refine lv_if_eq (tgt := 79) hx hb dX5_readTerm_34 (by decide) (fun _ => ?_) (fun c9 => absurd (by decide) c9)
          refine lv_iconst (v := 1) hx hb dX5_readTerm_79 (by decide) ?_
          exact en_i hx hb hr hlocks hL rfl (Nat.zero_le _) (Nat.zero_le _) dX5_readTerm_80 (⟨hT, hF, Or.inl ⟨rfl, l9, zc, _, _, _, hlp.trans (LP_no e1807 e1834), (by omega), (by omega), (by omega), hcd, ⟨hkw, hktx, hkco⟩⟩⟩)
  · refine lv_if_ne (tgt := 10) hx hb dX5_readTerm_5 (by decide) (fun c9 => absurd (by decide) c9) (fun _ => ?_)
    refine lv_iconst (v := 0) hx hb dX5_readTerm_8 (by decide) ?_
    exact en_i hx hb hr hlocks hL rfl (Nat.zero_le _) (Nat.zero_le _) dX5_readTerm_9 (⟨hT, hF, Or.inr ⟨rfl, _, _, (hfd z).trans (many_er e1801), x1802⟩⟩)
set_option maxHeartbeats 4000000 in
set_option maxRecDepth 100000 in
theorem c_X5_readSum_d3 {l : Launch} {D : va_G} {cs : Nat → ClassId} {B0 T : Nat} {κ : KM} {H0 : Heap} (hT : WT B0 D cs T κ H0) {w : Nat} (hw : T2 κ w 6 10) {tx co tn cc : Nat} {f cf B : Nat → Int32} {ta tk ec es : Int32} {su : Value} (hY : BY B tn) (hf : TXB f B tn) (hcc : cc ≤ 600) {z : Nat} (hz : z ≤ tn) (hrs : RS D cs w H0 tx f co cf (κ w).2.2.1 tn (tkE B z) (tkK B z) z (tkV B z) ta tk cc su ec es) (hcz : cc ≤ z) : KC l yX5_readSum wsX5_readSum 11 240 0 0 D cs B0 H0 [.ref w, .int 3] (Qi (fun r H => WT B0 D cs T κ H ∧ Fr B0 [10] κ H0 H ∧ ((r = 1 ∧ ∃ l1 q1 cf1 ta1 tk1, sumD B 1 z = .inr (l1, q1) ∧ z < q1 ∧ q1 ≤ tn ∧ z + l1.length ≤ q1 ∧ CDS cf cf1 cc l1 ∧ RS D cs w H tx f co cf1 (κ w).2.2.1 tn (tkE B q1) (tkK B q1) q1 (tkV B q1) ta1 tk1 (cc + l1.length) su ec es) ∨ (r = 0 ∧ ∃ c9 o9, sumD B 1 z = .inl (c9, o9) ∧ RE D cs w H tx f co (κ w).2.2.1 tn su c9 (nI o9))))) := by
  refine KC.of cX5_readSum 4 (some .boolean) (by decide) rfl (Nat.le_of_ble_eq_true rfl) ?_
  intro p e s m below meth c ls hx hb hr hml hown hts hlocks hin hN hE hH0 hl
  have hown : s.vm.findClass RX5 = some m.cls := hown
  have hl : lv_has ls 4 [(0, .ref w), (1, .int 3)] := hl
  have hL : OkL B0 [] := OkL.nil
  have hF : Fr B0 [10] κ H0 H0 := Fr.rf
  obtain ⟨hkw, hktx, hkco⟩ := hrs
  have h6n := hY.1
  obtain ⟨htx, hco⟩ : T2 κ tx 16 10 ∧ T2 κ co 17 10 := RS.t2 hT hw hkw
  have hzE := tkE_le hY (s := z) (by omega)
  have hfd : ∀ z9, sumD B 1 z9 = manyB B (trmD B 1) 43 45 (-5) (-6) z9 := fun _ => rfl
  have hpg := trmD_pg hY 1
  refine lv_aload_n hx hb dX5_readSum_0 rfl (lv_at hl 0 rfl) ?_
  refine lv_iload_n hx hb dX5_readSum_1 rfl (lv_at hl 1 rfl) ?_
  refine cv_i (As := [.int 3]) (rest := []) (b := w) ⟨hx, hb, hml, hown, hts⟩ (c_X5_readTerm_d3 hT (w := w) hw (by first | omega | decide | assumption) (by first | omega | decide | assumption) (by first | omega | decide | assumption) (by first | omega | decide | assumption) ⟨hkw, hktx, hkco⟩ (by first | omega | decide | assumption)) (cwV 1 hts gX5_readSum_X5_readTerm rfl rfl rfl hdX5_readTerm_v ⟨Nat.le_of_ble_eq_true rfl, Nat.le_of_ble_eq_true rfl⟩) hN hE hL (rcv6 hN hT hw.1) rfl rfl hl.1 (Nat.le_of_ble_eq_true rfl) dX5_readSum_2 (Nat.zero_le _) (Nat.zero_le _) (fun r1859 H1 locs hL hqr1859 => ?_)
  obtain ⟨hT1, hF1, hqr1859⟩ := hqr1859
  have hF := hF.tr (hF1.mono (by simp))
  have hT := hT1
  rcases hqr1859 with ⟨rfl, l1860, q1861, f1862, t1863, k1864, e1865, u1866, v1867, b1868, c1869, m1870⟩ | ⟨rfl, c1871, o1872, e1873, x1874⟩
  · obtain ⟨hkw, hktx, hkco⟩ := m1870
    have hzE := tkE_le hY (s := q1861) (by omega)
    refine lv_if_ne (tgt := 10) hx hb dX5_readSum_5 (by decide) (fun _ => ?_) (fun c9 => absurd c9 (by decide))
    refine lv_iconst (v := 0) hx hb dX5_readSum_10 (by decide) ?_
    refine lv_istore_n (lv' := [(2, .int 0), (0, .ref w), (1, .int 3)]) hx hb dX5_readSum_11 rfl hl (by decide) rfl (fun ls hl => ?_)
    refine lp_m (α := Nat × Nat × List Int32 × (Nat → Int32) × Int32 × Int32) (nL := 4) (fun a9 => 600 - a9.1) (fun a9 H9 l9 => (a9.1 ≤ 600 ∧ a9.2.1 ≤ tn ∧ z + a9.1 < a9.2.1) ∧ (CDS cf a9.2.2.2.1 cc a9.2.2.1) ∧ (z + a9.2.2.1.length ≤ a9.2.1) ∧ (sumD B 1 z = LPB B (trmD B 1) 43 45 (-5) (-6) a9.2.2.1 a9.2.1) ∧ (RS D cs w H9 tx f co a9.2.2.2.1 (κ w).2.2.1 tn (tkE B a9.2.1) (tkK B a9.2.1) a9.2.1 (tkV B a9.2.1) a9.2.2.2.2.1 a9.2.2.2.2.2 (cc + a9.2.2.1.length) su ec es) ∧ (WT B0 D cs T κ H9) ∧ (Fr B0 [10] κ H0 H9) ∧ (OkL B0 l9)) (fun a9 => [(2, .int (nI a9.1)), (0, .ref w), (1, .int 3)]) ?_ (0, q1861, l1860, f1862, t1863, k1864) _ _ _ ⟨(by show (0) ≤ 600 ∧ (q1861) ≤ tn ∧ z + (0) < (q1861); omega), c1869, (by show z + (l1860).length ≤ (q1861); omega), ((hfd z).trans (many_ok e1865)), ⟨hkw, hktx, hkco⟩, hT, hF, hL⟩ (lv_sub hl [0, 1, 2] rfl)
    rintro ⟨k, zc, l9, cf9, ta9, tk9⟩ H locs ls ih1875 ⟨hk, hcd, hcl, hlp, hks, hT, hF, hL⟩ hl
    have hl : lv_has ls 4 [(2, .int (nI k)), (0, .ref w), (1, .int 3)] := hl
    have hk : k ≤ 600 ∧ zc ≤ tn ∧ z + k < zc := hk
    have hcd : CDS cf cf9 cc l9 := hcd
    have hcl : z + l9.length ≤ zc := hcl
    have hlp : sumD B 1 z = LPB B (trmD B 1) 43 45 (-5) (-6) l9 zc := hlp
    have hks : RS D cs w H tx f co cf9 (κ w).2.2.1 tn (tkE B zc) (tkK B zc) zc (tkV B zc) ta9 tk9 (cc + l9.length) su ec es := hks
    obtain ⟨hkw, hktx, hkco⟩ := hks
    have hzE := tkE_le hY (s := zc) (by omega)
    refine lv_iload_n hx hb dX5_readSum_12 rfl (lv_at hl 0 rfl) ?_
    refine lv_sipush (v := 600) hx hb dX5_readSum_13 (by decide) ?_
    refine lv_icmp_ge (tgt := 79) hx hb dX5_readSum_16 (by decide) (fun c1876 => ?_) (fun c1876 => ?_)
    · have c1876 : 600 ≤ k := (nI_leI (a := 600) (b := k) (by omega) (by omega)).mp c1876
      exact absurd c1876 (by omega)
    · have c1876 : ¬ 600 ≤ k := fun h9 => c1876 ((nI_leI (a := 600) (b := k) (by omega) (by omega)).mpr h9)
      refine lv_aload_n hx hb dX5_readSum_19 rfl (lv_at hl 1 rfl) ?_
      refine lv_bipush (v := 43) hx hb dX5_readSum_20 (by decide) ?_
      refine cv_i (As := [.int 43]) (rest := []) (b := w) ⟨hx, hb, hml, hown, hts⟩ (c_X5_isMark hT (w := w) hw (ch := 43) (by first | omega | decide | assumption) (by first | omega | decide | assumption) (by first | omega | decide | assumption) (by first | omega | decide | assumption) ⟨hkw, hktx, hkco⟩ (by first | omega | decide | assumption)) (cwV 1 hts gX5_readSum_X5_isMark rfl rfl rfl hdX5_isMark_v ⟨Nat.le_of_ble_eq_true rfl, Nat.le_of_ble_eq_true rfl⟩) hN hE hL (rcv6 hN hT hw.1) rfl rfl hl.1 (Nat.le_of_ble_eq_true rfl) dX5_readSum_22 (Nat.zero_le _) (Nat.zero_le _) (fun r1877 H1 locs hL hqr1877 => ?_)
      obtain ⟨h9, hqr1877⟩ := hqr1877; replace h9 := h9.symm; subst h9
      rcases hqr1877 with ⟨rfl, e1878⟩ | ⟨rfl, e1879⟩
      · refine lv_if_ne (tgt := 37) hx hb dX5_readSum_25 (by decide) (fun _ => ?_) (fun c9 => absurd c9 (by decide))
        refine lv_aload_n hx hb dX5_readSum_37 rfl (lv_at hl 1 rfl) ?_
        refine lv_bipush (v := 43) hx hb dX5_readSum_38 (by decide) ?_
        refine cv_i (As := [.int 43]) (rest := []) (b := w) ⟨hx, hb, hml, hown, hts⟩ (c_X5_isMark hT (w := w) hw (ch := 43) (by first | omega | decide | assumption) (by first | omega | decide | assumption) (by first | omega | decide | assumption) (by first | omega | decide | assumption) ⟨hkw, hktx, hkco⟩ (by first | omega | decide | assumption)) (cwV 1 hts gX5_readSum_X5_isMark rfl rfl rfl hdX5_isMark_v ⟨Nat.le_of_ble_eq_true rfl, Nat.le_of_ble_eq_true rfl⟩) hN hE hL (rcv6 hN hT hw.1) rfl rfl hl.1 (Nat.le_of_ble_eq_true rfl) dX5_readSum_40 (Nat.zero_le _) (Nat.zero_le _) (fun r1880 H1 locs hL hqr1880 => ?_)
        obtain ⟨h9, hqr1880⟩ := hqr1880; replace h9 := h9.symm; subst h9
        rcases hqr1880 with ⟨rfl, e1881⟩ | ⟨rfl, e1882⟩
        · refine lv_if_eq (tgt := 51) hx hb dX5_readSum_43 (by decide) (fun c9 => absurd c9 (by decide)) (fun _ => ?_)
          refine lv_bipush (v := (-5)) hx hb dX5_readSum_46 (by decide) ?_
          refine lv_goto (tgt := 53) hx hb dX5_readSum_48 (by decide) ?_
          refine lv_istore_n (lv' := [(3, .int (-5)), (2, .int (nI k)), (0, .ref w), (1, .int 3)]) hx hb dX5_readSum_53 rfl hl (by decide) rfl (fun ls hl => ?_)
          refine lv_aload_n hx hb dX5_readSum_54 rfl (lv_at hl 2 rfl) ?_
          refine cv_v (As := []) (rest := []) (b := w) ⟨hx, hb, hml, hown, hts⟩ (c_X5_step hT (w := w) hw (by first | omega | decide | assumption) (by first | omega | decide | assumption) (by first | omega | decide | assumption) (by first | omega | decide | assumption) (by first | omega | decide | assumption) ⟨hkw, hktx, hkco⟩) (cwV 0 hts gX5_readSum_X5_step rfl rfl rfl hdX5_step_v ⟨Nat.le_of_ble_eq_true rfl, Nat.le_of_ble_eq_true rfl⟩) hN hE hL (rcv6 hN hT hw.1) rfl rfl hl.1 (Nat.le_of_ble_eq_true rfl) dX5_readSum_55 (Nat.zero_le _) (Nat.zero_le _) (fun H1 locs hL hqr1883 => ?_)
          obtain ⟨hT1, hF1, hqr1883⟩ := hqr1883
          have hF := hF.tr (hF1.mono (by simp))
          have hT := hT1
          have m1884 := hqr1883
          obtain ⟨z1885, hz1885⟩ : ∃ z9, z9 = skp B ((tkE B zc)) := ⟨_, rfl⟩
          rw [← hz1885] at m1884
          have bz1885 : z1885 ≤ tn := by rw [hz1885]; exact run_ub hY (by decide) (by omega)
          have hzE := tkE_le hY (s := z1885) (by omega)
          obtain ⟨hkw, hktx, hkco⟩ := m1884
          have hzl := mark_lt hY (by decide) e1881
          have hzz : z1885 = skp B (zc + 1) := by rw [hz1885, tkE_m hY (by decide) e1881]
          have hzb := skp_b hY (z := zc + 1) (by omega)
          rw [← hzz] at hzb
          refine lv_aload_n hx hb dX5_readSum_58 rfl (lv_at hl 2 rfl) ?_
          refine lv_iload_n hx hb dX5_readSum_59 rfl (lv_at hl 3 rfl) ?_
          refine cv_i (As := [.int 3]) (rest := []) (b := w) ⟨hx, hb, hml, hown, hts⟩ (c_X5_readTerm_d3 hT (w := w) hw (by first | omega | decide | assumption) (by first | omega | decide | assumption) (by first | omega | decide | assumption) (by first | omega | decide | assumption) ⟨hkw, hktx, hkco⟩ (by first | omega | decide | assumption)) (cwV 1 hts gX5_readSum_X5_readTerm rfl rfl rfl hdX5_readTerm_v ⟨Nat.le_of_ble_eq_true rfl, Nat.le_of_ble_eq_true rfl⟩) hN hE hL (rcv6 hN hT hw.1) rfl rfl hl.1 (Nat.le_of_ble_eq_true rfl) dX5_readSum_60 (Nat.zero_le _) (Nat.zero_le _) (fun r1886 H1 locs hL hqr1886 => ?_)
          obtain ⟨hT1, hF1, hqr1886⟩ := hqr1886
          have hF := hF.tr (hF1.mono (by simp))
          have hT := hT1
          rcases hqr1886 with ⟨rfl, l1887, q1888, f1889, t1890, k1891, e1892, u1893, v1894, b1895, c1896, m1897⟩ | ⟨rfl, c1898, o1899, e1900, x1901⟩
          · obtain ⟨hkw, hktx, hkco⟩ := m1897
            have hzE := tkE_le hY (s := q1888) (by omega)
            refine lv_if_ne (tgt := 68) hx hb dX5_readSum_63 (by decide) (fun _ => ?_) (fun c9 => absurd c9 (by decide))
            refine lv_aload_n hx hb dX5_readSum_68 rfl (lv_at hl 2 rfl) ?_
            refine lv_iload_n hx hb dX5_readSum_69 rfl (lv_at hl 0 rfl) ?_
            refine cv_v (As := [.int (-5)]) (rest := []) (b := w) ⟨hx, hb, hml, hown, hts⟩ (c_X5_putCode hT (w := w) hw (x := (-5)) (by first | omega | decide | assumption) (by first | omega | decide | assumption) (by first | omega | decide | assumption) (by first | omega | decide | assumption) ⟨hkw, hktx, hkco⟩ (by first | omega | decide | assumption)) (cwV 1 hts gX5_readSum_X5_putCode rfl rfl rfl hdX5_putCode_v ⟨Nat.le_of_ble_eq_true rfl, Nat.le_of_ble_eq_true rfl⟩) hN hE hL (rcv6 hN hT hw.1) rfl rfl hl.1 (Nat.le_of_ble_eq_true rfl) dX5_readSum_70 (Nat.zero_le _) (Nat.zero_le _) (fun H1 locs hL hqr1902 => ?_)
            obtain ⟨hT1, hF1, hqr1902⟩ := hqr1902
            have hF := hF.tr (hF1.mono (by simp))
            have hT := hT1
            have m1903 := hqr1902
            obtain ⟨hkw, hktx, hkco⟩ := m1903
            refine lv_iinc (v := (nI (k + 1))) (lv' := [(2, .int (nI (k + 1))), (3, .int (-5)), (0, .ref w), (1, .int 3)]) hx hb dX5_readSum_73 hl (k := 1) rfl (nI_add _ 1) (by decide) rfl (fun ls hl => ?_)
            refine lv_goto (tgt := 12) hx hb dX5_readSum_76 (by decide) ?_
            exact ih1875 ((k + 1), q1888, (l9 ++ l1887 ++ [(-5)]), (upd f1889 ((cc + l9.length) + l1887.length) (-5)), t1890, k1891) _ _ _ (by show 600 - ((k + 1)) < 600 - k; omega) ⟨(by show ((k + 1)) ≤ 600 ∧ (q1888) ≤ tn ∧ z + ((k + 1)) < (q1888); omega), (by have e7 : cc + l9.length + l1887.length = cc + (l9 ++ l1887).length := (by rw [List.length_append, Nat.add_assoc]); rw [e7]; exact (hcd.tr c1896).app1), (by show z + (l9 ++ l1887 ++ [(-5 : Int32)]).length ≤ q1888; have e8 : (l9 ++ l1887 ++ [(-5 : Int32)]).length = l9.length + l1887.length + 1 := (by simp only [List.length_append, List.length_cons, List.length_nil]); rw [e8]; omega), (hlp.trans (LP_c1 hY (by decide) (by decide) hpg e1881 (by rw [← hzz]; exact e1892))), (by have e8 : (l9 ++ l1887 ++ [(-5 : Int32)]).length = l9.length + l1887.length + 1 := (by simp only [List.length_append, List.length_cons, List.length_nil]); rw [e8, show cc + (l9.length + l1887.length + 1) = cc + l9.length + l1887.length + 1 by omega]; exact ⟨hkw, hktx, hkco⟩), hT, hF, hL⟩ (lv_sub hl [0, 2, 3] rfl)
          · refine lv_if_ne (tgt := 68) hx hb dX5_readSum_63 (by decide) (fun c9 => absurd (by decide) c9) (fun _ => ?_)
            refine lv_iconst (v := 0) hx hb dX5_readSum_66 (by decide) ?_
            exact en_i hx hb hr hlocks hL rfl (Nat.zero_le _) (Nat.zero_le _) dX5_readSum_67 (⟨hT, hF, Or.inr ⟨rfl, _, _, hlp.trans (LP_er (o := 0) hY (by omega) (Or.inl e1881) (by rw [← hzz]; exact e1900)), x1901⟩⟩)
        · exact absurd e1878 e1882
      · refine lv_if_ne (tgt := 37) hx hb dX5_readSum_25 (by decide) (fun c9 => absurd (by decide) c9) (fun _ => ?_)
        refine lv_aload_n hx hb dX5_readSum_28 rfl (lv_at hl 1 rfl) ?_
        refine lv_bipush (v := 45) hx hb dX5_readSum_29 (by decide) ?_
        refine cv_i (As := [.int 45]) (rest := []) (b := w) ⟨hx, hb, hml, hown, hts⟩ (c_X5_isMark hT (w := w) hw (ch := 45) (by first | omega | decide | assumption) (by first | omega | decide | assumption) (by first | omega | decide | assumption) (by first | omega | decide | assumption) ⟨hkw, hktx, hkco⟩ (by first | omega | decide | assumption)) (cwV 1 hts gX5_readSum_X5_isMark rfl rfl rfl hdX5_isMark_v ⟨Nat.le_of_ble_eq_true rfl, Nat.le_of_ble_eq_true rfl⟩) hN hE hL (rcv6 hN hT hw.1) rfl rfl hl.1 (Nat.le_of_ble_eq_true rfl) dX5_readSum_31 (Nat.zero_le _) (Nat.zero_le _) (fun r1904 H1 locs hL hqr1904 => ?_)
        obtain ⟨h9, hqr1904⟩ := hqr1904; replace h9 := h9.symm; subst h9
        rcases hqr1904 with ⟨rfl, e1905⟩ | ⟨rfl, e1906⟩
        · refine lv_if_eq (tgt := 79) hx hb dX5_readSum_34 (by decide) (fun c9 => absurd c9 (by decide)) (fun _ => ?_)
          refine lv_aload_n hx hb dX5_readSum_37 rfl (lv_at hl 1 rfl) ?_
          refine lv_bipush (v := 43) hx hb dX5_readSum_38 (by decide) ?_
          refine cv_i (As := [.int 43]) (rest := []) (b := w) ⟨hx, hb, hml, hown, hts⟩ (c_X5_isMark hT (w := w) hw (ch := 43) (by first | omega | decide | assumption) (by first | omega | decide | assumption) (by first | omega | decide | assumption) (by first | omega | decide | assumption) ⟨hkw, hktx, hkco⟩ (by first | omega | decide | assumption)) (cwV 1 hts gX5_readSum_X5_isMark rfl rfl rfl hdX5_isMark_v ⟨Nat.le_of_ble_eq_true rfl, Nat.le_of_ble_eq_true rfl⟩) hN hE hL (rcv6 hN hT hw.1) rfl rfl hl.1 (Nat.le_of_ble_eq_true rfl) dX5_readSum_40 (Nat.zero_le _) (Nat.zero_le _) (fun r1907 H1 locs hL hqr1907 => ?_)
          obtain ⟨h9, hqr1907⟩ := hqr1907; replace h9 := h9.symm; subst h9
          rcases hqr1907 with ⟨rfl, e1908⟩ | ⟨rfl, e1909⟩
          · exact absurd e1908 e1879
          · refine lv_if_eq (tgt := 51) hx hb dX5_readSum_43 (by decide) (fun _ => ?_) (fun c9 => absurd (by decide) c9)
            refine lv_bipush (v := (-6)) hx hb dX5_readSum_51 (by decide) ?_
            refine lv_istore_n (lv' := [(3, .int (-6)), (2, .int (nI k)), (0, .ref w), (1, .int 3)]) hx hb dX5_readSum_53 rfl hl (by decide) rfl (fun ls hl => ?_)
            refine lv_aload_n hx hb dX5_readSum_54 rfl (lv_at hl 2 rfl) ?_
            refine cv_v (As := []) (rest := []) (b := w) ⟨hx, hb, hml, hown, hts⟩ (c_X5_step hT (w := w) hw (by first | omega | decide | assumption) (by first | omega | decide | assumption) (by first | omega | decide | assumption) (by first | omega | decide | assumption) (by first | omega | decide | assumption) ⟨hkw, hktx, hkco⟩) (cwV 0 hts gX5_readSum_X5_step rfl rfl rfl hdX5_step_v ⟨Nat.le_of_ble_eq_true rfl, Nat.le_of_ble_eq_true rfl⟩) hN hE hL (rcv6 hN hT hw.1) rfl rfl hl.1 (Nat.le_of_ble_eq_true rfl) dX5_readSum_55 (Nat.zero_le _) (Nat.zero_le _) (fun H1 locs hL hqr1910 => ?_)
            obtain ⟨hT1, hF1, hqr1910⟩ := hqr1910
            have hF := hF.tr (hF1.mono (by simp))
            have hT := hT1
            have m1911 := hqr1910
            obtain ⟨z1912, hz1912⟩ : ∃ z9, z9 = skp B ((tkE B zc)) := ⟨_, rfl⟩
            rw [← hz1912] at m1911
            have bz1912 : z1912 ≤ tn := by rw [hz1912]; exact run_ub hY (by decide) (by omega)
            have hzE := tkE_le hY (s := z1912) (by omega)
            obtain ⟨hkw, hktx, hkco⟩ := m1911
            have hzl := mark_lt hY (by decide) e1905
            have hzz : z1912 = skp B (zc + 1) := by rw [hz1912, tkE_m hY (by decide) e1905]
            have hzb := skp_b hY (z := zc + 1) (by omega)
            rw [← hzz] at hzb
            refine lv_aload_n hx hb dX5_readSum_58 rfl (lv_at hl 2 rfl) ?_
            refine lv_iload_n hx hb dX5_readSum_59 rfl (lv_at hl 3 rfl) ?_
            refine cv_i (As := [.int 3]) (rest := []) (b := w) ⟨hx, hb, hml, hown, hts⟩ (c_X5_readTerm_d3 hT (w := w) hw (by first | omega | decide | assumption) (by first | omega | decide | assumption) (by first | omega | decide | assumption) (by first | omega | decide | assumption) ⟨hkw, hktx, hkco⟩ (by first | omega | decide | assumption)) (cwV 1 hts gX5_readSum_X5_readTerm rfl rfl rfl hdX5_readTerm_v ⟨Nat.le_of_ble_eq_true rfl, Nat.le_of_ble_eq_true rfl⟩) hN hE hL (rcv6 hN hT hw.1) rfl rfl hl.1 (Nat.le_of_ble_eq_true rfl) dX5_readSum_60 (Nat.zero_le _) (Nat.zero_le _) (fun r1913 H1 locs hL hqr1913 => ?_)
            obtain ⟨hT1, hF1, hqr1913⟩ := hqr1913
            have hF := hF.tr (hF1.mono (by simp))
            have hT := hT1
            rcases hqr1913 with ⟨rfl, l1914, q1915, f1916, t1917, k1918, e1919, u1920, v1921, b1922, c1923, m1924⟩ | ⟨rfl, c1925, o1926, e1927, x1928⟩
            · obtain ⟨hkw, hktx, hkco⟩ := m1924
              have hzE := tkE_le hY (s := q1915) (by omega)
              refine lv_if_ne (tgt := 68) hx hb dX5_readSum_63 (by decide) (fun _ => ?_) (fun c9 => absurd c9 (by decide))
              refine lv_aload_n hx hb dX5_readSum_68 rfl (lv_at hl 2 rfl) ?_
              refine lv_iload_n hx hb dX5_readSum_69 rfl (lv_at hl 0 rfl) ?_
              refine cv_v (As := [.int (-6)]) (rest := []) (b := w) ⟨hx, hb, hml, hown, hts⟩ (c_X5_putCode hT (w := w) hw (x := (-6)) (by first | omega | decide | assumption) (by first | omega | decide | assumption) (by first | omega | decide | assumption) (by first | omega | decide | assumption) ⟨hkw, hktx, hkco⟩ (by first | omega | decide | assumption)) (cwV 1 hts gX5_readSum_X5_putCode rfl rfl rfl hdX5_putCode_v ⟨Nat.le_of_ble_eq_true rfl, Nat.le_of_ble_eq_true rfl⟩) hN hE hL (rcv6 hN hT hw.1) rfl rfl hl.1 (Nat.le_of_ble_eq_true rfl) dX5_readSum_70 (Nat.zero_le _) (Nat.zero_le _) (fun H1 locs hL hqr1929 => ?_)
              obtain ⟨hT1, hF1, hqr1929⟩ := hqr1929
              have hF := hF.tr (hF1.mono (by simp))
              have hT := hT1
              have m1930 := hqr1929
              obtain ⟨hkw, hktx, hkco⟩ := m1930
              refine lv_iinc (v := (nI (k + 1))) (lv' := [(2, .int (nI (k + 1))), (3, .int (-6)), (0, .ref w), (1, .int 3)]) hx hb dX5_readSum_73 hl (k := 1) rfl (nI_add _ 1) (by decide) rfl (fun ls hl => ?_)
              refine lv_goto (tgt := 12) hx hb dX5_readSum_76 (by decide) ?_
              exact ih1875 ((k + 1), q1915, (l9 ++ l1914 ++ [(-6)]), (upd f1916 ((cc + l9.length) + l1914.length) (-6)), t1917, k1918) _ _ _ (by show 600 - ((k + 1)) < 600 - k; omega) ⟨(by show ((k + 1)) ≤ 600 ∧ (q1915) ≤ tn ∧ z + ((k + 1)) < (q1915); omega), (by have e7 : cc + l9.length + l1914.length = cc + (l9 ++ l1914).length := (by rw [List.length_append, Nat.add_assoc]); rw [e7]; exact (hcd.tr c1923).app1), (by show z + (l9 ++ l1914 ++ [(-6 : Int32)]).length ≤ q1915; have e8 : (l9 ++ l1914 ++ [(-6 : Int32)]).length = l9.length + l1914.length + 1 := (by simp only [List.length_append, List.length_cons, List.length_nil]); rw [e8]; omega), (hlp.trans (LP_c2 hY (by decide) (by decide) hpg e1909 e1905 (by rw [← hzz]; exact e1919))), (by have e8 : (l9 ++ l1914 ++ [(-6 : Int32)]).length = l9.length + l1914.length + 1 := (by simp only [List.length_append, List.length_cons, List.length_nil]); rw [e8, show cc + (l9.length + l1914.length + 1) = cc + l9.length + l1914.length + 1 by omega]; exact ⟨hkw, hktx, hkco⟩), hT, hF, hL⟩ (lv_sub hl [0, 2, 3] rfl)
            · refine lv_if_ne (tgt := 68) hx hb dX5_readSum_63 (by decide) (fun c9 => absurd (by decide) c9) (fun _ => ?_)
              refine lv_iconst (v := 0) hx hb dX5_readSum_66 (by decide) ?_
              exact en_i hx hb hr hlocks hL rfl (Nat.zero_le _) (Nat.zero_le _) dX5_readSum_67 (⟨hT, hF, Or.inr ⟨rfl, _, _, hlp.trans (LP_er (o := 0) hY (by omega) (Or.inr ⟨e1909, e1905⟩) (by rw [← hzz]; exact e1927)), x1928⟩⟩)
        · refine lv_if_eq (tgt := 79) hx hb dX5_readSum_34 (by decide) (fun _ => ?_) (fun c9 => absurd (by decide) c9)
          refine lv_iconst (v := 1) hx hb dX5_readSum_79 (by decide) ?_
          exact en_i hx hb hr hlocks hL rfl (Nat.zero_le _) (Nat.zero_le _) dX5_readSum_80 (⟨hT, hF, Or.inl ⟨rfl, l9, zc, _, _, _, hlp.trans (LP_no e1879 e1906), (by omega), (by omega), (by omega), hcd, ⟨hkw, hktx, hkco⟩⟩⟩)
  · refine lv_if_ne (tgt := 10) hx hb dX5_readSum_5 (by decide) (fun c9 => absurd (by decide) c9) (fun _ => ?_)
    refine lv_iconst (v := 0) hx hb dX5_readSum_8 (by decide) ?_
    exact en_i hx hb hr hlocks hL rfl (Nat.zero_le _) (Nat.zero_le _) dX5_readSum_9 (⟨hT, hF, Or.inr ⟨rfl, _, _, (hfd z).trans (many_er e1873), x1874⟩⟩)
set_option maxHeartbeats 4000000 in
set_option maxRecDepth 100000 in
theorem c_X5_readFactor_d2 {l : Launch} {D : va_G} {cs : Nat → ClassId} {B0 T : Nat} {κ : KM} {H0 : Heap} (hT : WT B0 D cs T κ H0) {w : Nat} (hw : T2 κ w 6 10) {tx co tn cc : Nat} {f cf B : Nat → Int32} {ta tk ec es : Int32} {su : Value} (hY : BY B tn) (hf : TXB f B tn) (hcc : cc ≤ 600) {z : Nat} (hz : z ≤ tn) (hrs : RS D cs w H0 tx f co cf (κ w).2.2.1 tn (tkE B z) (tkK B z) z (tkV B z) ta tk cc su ec es) (hcz : cc ≤ z) : KC l yX5_readFactor wsX5_readFactor 12 263 0 0 D cs B0 H0 [.ref w, .int 2] (Qi (fun r H => WT B0 D cs T κ H ∧ Fr B0 [10] κ H0 H ∧ ((r = 1 ∧ ∃ l1 q1 cf1 ta1 tk1, facD B 2 z = .inr (l1, q1) ∧ z < q1 ∧ q1 ≤ tn ∧ z + l1.length ≤ q1 ∧ CDS cf cf1 cc l1 ∧ RS D cs w H tx f co cf1 (κ w).2.2.1 tn (tkE B q1) (tkK B q1) q1 (tkV B q1) ta1 tk1 (cc + l1.length) su ec es) ∨ (r = 0 ∧ ∃ c9 o9, facD B 2 z = .inl (c9, o9) ∧ RE D cs w H tx f co (κ w).2.2.1 tn su c9 (nI o9))))) := by
  refine KC.of cX5_readFactor 3 (some .boolean) (by decide) rfl (Nat.le_of_ble_eq_true rfl) ?_
  intro p e s m below meth c ls hx hb hr hml hown hts hlocks hin hN hE hH0 hl
  have hown : s.vm.findClass RX5 = some m.cls := hown
  have hl : lv_has ls 3 [(0, .ref w), (1, .int 2)] := hl
  have hL : OkL B0 [] := OkL.nil
  have hF : Fr B0 [10] κ H0 H0 := Fr.rf
  obtain ⟨hkw, hktx, hkco⟩ := hrs
  have h6n := hY.1
  obtain ⟨htx, hco⟩ : T2 κ tx 16 10 ∧ T2 κ co 17 10 := RS.t2 hT hw hkw
  have hzE := tkE_le hY (s := z) (by omega)
  have hfd : ∀ z9, facD B 2 z9 = facB B (sumD B 1) false z9 := fun _ => rfl
  refine lv_aload_n hx hb dX5_readFactor_0 rfl (lv_at hl 0 rfl) ?_
  obtain ⟨hb1931, e1931, hat1931, hk1931⟩ := hT.o6 hw.1
  obtain ⟨f1931_0, f1931_2, f1931_3, f1931_4, f1931_5, f1931_6, f1931_7, f1931_8, f1931_9, f1931_10, f1931_11, f1931_12, f1931_13, rfl, c1931_1, c1931_2, c1931_3, c1931_5, c1931_10, t1931_0, t1931_9, c1931_11, c1931_p2⟩ := hk1931
  obtain ⟨rfl, rfl, rfl, rfl, rfl, rfl, rfl, rfl, rfl, rfl, rfl, rfl, rfl⟩ := eq6 hat1931 hkw (by omega)
  have hP : va_P D vwCl [(w, .inr (5, [.ref tx, .int (nI ((κ w).2.2.1)), .int (nI tn), .int (nI ((tkE B z))), .int (tkK B z), .int (nI z), .int (tkV B z), .int ta, .int tk, .ref co, .int (nI cc), su, .int ec, .int es]))] _ := va_P.cons hat1931 va_P.nil
  refine va_get (D := D) (ci := 5) (v := .int (tkK B z)) (C := RX5) (T := TX5) (N := 14) hx hb hts iX5_readFactor_5 hown hN.1 hP 0 rfl rfl 4 (by decide) (hts _ mX5_readFactor_1) (fun _ h9 => h9) rfl dX5_readFactor_1 ?_
  refine lv_iconst (v := 1) hx hb dX5_readFactor_4 (by decide) ?_
  refine lv_icmp_ne (tgt := 31) hx hb dX5_readFactor_5 (by decide) (fun c1932 => ?_) (fun c1932 => ?_)
  · have hnd : ¬ isd (B z) := fun g9 => c1932 (tkK_1.mpr g9)
    refine lv_aload_n hx hb dX5_readFactor_31 rfl (lv_at hl 0 rfl) ?_
    refine lv_bipush (v := 40) hx hb dX5_readFactor_32 (by decide) ?_
    refine cv_i (As := [.int 40]) (rest := []) (b := w) ⟨hx, hb, hml, hown, hts⟩ (c_X5_isMark hT (w := w) hw (ch := 40) (by first | omega | decide | assumption) (by first | omega | decide | assumption) (by first | omega | decide | assumption) (by first | omega | decide | assumption) ⟨hkw, hktx, hkco⟩ (by first | omega | decide | assumption)) (cwV 1 hts gX5_readFactor_X5_isMark rfl rfl rfl hdX5_isMark_v ⟨Nat.le_of_ble_eq_true rfl, Nat.le_of_ble_eq_true rfl⟩) hN hE hL (rcv6 hN hT hw.1) rfl rfl hl.1 (Nat.le_of_ble_eq_true rfl) dX5_readFactor_34 (Nat.zero_le _) (Nat.zero_le _) (fun r1933 H1 locs hL hqr1933 => ?_)
    obtain ⟨h9, hqr1933⟩ := hqr1933; replace h9 := h9.symm; subst h9
    rcases hqr1933 with ⟨rfl, e1934⟩ | ⟨rfl, e1935⟩
    · refine lv_if_eq (tgt := 85) hx hb dX5_readFactor_37 (by decide) (fun c9 => absurd c9 (by decide)) (fun _ => ?_)
      refine lv_iload_n hx hb dX5_readFactor_40 rfl (lv_at hl 1 rfl) ?_
      refine lv_iconst (v := 4) hx hb dX5_readFactor_41 (by decide) ?_
      refine lv_icmp_lt (tgt := 56) hx hb dX5_readFactor_42 (by decide) (fun _ => ?_) (fun c9 => absurd (by decide) c9)
      refine lv_aload_n hx hb dX5_readFactor_56 rfl (lv_at hl 0 rfl) ?_
      refine cv_v (As := []) (rest := []) (b := w) ⟨hx, hb, hml, hown, hts⟩ (c_X5_step hT (w := w) hw (by first | omega | decide | assumption) (by first | omega | decide | assumption) (by first | omega | decide | assumption) (by first | omega | decide | assumption) (by first | omega | decide | assumption) ⟨hkw, hktx, hkco⟩) (cwV 0 hts gX5_readFactor_X5_step rfl rfl rfl hdX5_step_v ⟨Nat.le_of_ble_eq_true rfl, Nat.le_of_ble_eq_true rfl⟩) hN hE hL (rcv6 hN hT hw.1) rfl rfl hl.1 (Nat.le_of_ble_eq_true rfl) dX5_readFactor_57 (Nat.zero_le _) (Nat.zero_le _) (fun H1 locs hL hqr1936 => ?_)
      obtain ⟨hT1, hF1, hqr1936⟩ := hqr1936
      have hF := hF.tr (hF1.mono (by simp))
      have hT := hT1
      have m1937 := hqr1936
      obtain ⟨z1938, hz1938⟩ : ∃ z9, z9 = skp B ((tkE B z)) := ⟨_, rfl⟩
      rw [← hz1938] at m1937
      have bz1938 : z1938 ≤ tn := by rw [hz1938]; exact run_ub hY (by decide) (by omega)
      have hzE := tkE_le hY (s := z1938) (by omega)
      obtain ⟨hkw, hktx, hkco⟩ := m1937
      have hz40 := mark_lt hY (by decide) e1934
      have hzz : z1938 = skp B (z + 1) := by rw [hz1938, tkE_m hY (by decide) e1934]
      have hzb := skp_b hY (z := z + 1) (by omega)
      refine lv_aload_n hx hb dX5_readFactor_60 rfl (lv_at hl 0 rfl) ?_
      refine lv_iload_n hx hb dX5_readFactor_61 rfl (lv_at hl 1 rfl) ?_
      refine lv_iconst (v := 1) hx hb dX5_readFactor_62 (by decide) ?_
      refine lv_iadd hx hb dX5_readFactor_63 ?_
      refine tp_i 3 (by decide) ?_
      refine cv_i (As := [.int 3]) (rest := []) (b := w) ⟨hx, hb, hml, hown, hts⟩ (c_X5_readSum_d3 hT (w := w) hw (by first | omega | decide | assumption) (by first | omega | decide | assumption) (by first | omega | decide | assumption) (by first | omega | decide | assumption) ⟨hkw, hktx, hkco⟩ (by first | omega | decide | assumption)) (cwV 1 hts gX5_readFactor_X5_readSum rfl rfl rfl hdX5_readSum_v ⟨Nat.le_of_ble_eq_true rfl, Nat.le_of_ble_eq_true rfl⟩) hN hE hL (rcv6 hN hT hw.1) rfl rfl hl.1 (Nat.le_of_ble_eq_true rfl) dX5_readFactor_64 (Nat.zero_le _) (Nat.zero_le _) (fun r1939 H1 locs hL hqr1939 => ?_)
      obtain ⟨hT1, hF1, hqr1939⟩ := hqr1939
      have hF := hF.tr (hF1.mono (by simp))
      have hT := hT1
      rcases hqr1939 with ⟨rfl, l1940, q1941, f1942, t1943, k1944, e1945, u1946, v1947, b1948, c1949, m1950⟩ | ⟨rfl, c1951, o1952, e1953, x1954⟩
      · obtain ⟨hkw, hktx, hkco⟩ := m1950
        have hzE := tkE_le hY (s := q1941) (by omega)
        refine lv_if_eq (tgt := 83) hx hb dX5_readFactor_67 (by decide) (fun c9 => absurd c9 (by decide)) (fun _ => ?_)
        refine lv_aload_n hx hb dX5_readFactor_70 rfl (lv_at hl 0 rfl) ?_
        refine lv_bipush (v := 41) hx hb dX5_readFactor_71 (by decide) ?_
        refine cv_i (As := [.int 41]) (rest := []) (b := w) ⟨hx, hb, hml, hown, hts⟩ (c_X5_takeMark hT (w := w) hw (ch := 41) (by first | omega | decide | assumption) (by first | omega | decide | assumption) (by first | omega | decide | assumption) (by first | omega | decide | assumption) ⟨hkw, hktx, hkco⟩ (by first | omega | decide | assumption)) (cwV 1 hts gX5_readFactor_X5_takeMark rfl rfl rfl hdX5_takeMark_v ⟨Nat.le_of_ble_eq_true rfl, Nat.le_of_ble_eq_true rfl⟩) hN hE hL (rcv6 hN hT hw.1) rfl rfl hl.1 (Nat.le_of_ble_eq_true rfl) dX5_readFactor_73 (Nat.zero_le _) (Nat.zero_le _) (fun r1955 H1 locs hL hqr1955 => ?_)
        obtain ⟨hT1, hF1, hqr1955⟩ := hqr1955
        have hF := hF.tr (hF1.mono (by simp))
        have hT := hT1
        rcases hqr1955 with ⟨rfl, e1956, m1957⟩ | ⟨rfl, e1958, m1959⟩
        · obtain ⟨z1960, hz1960⟩ : ∃ z9, z9 = skp B (q1941 + 1) := ⟨_, rfl⟩
          rw [← hz1960] at m1957
          have bz1960 : z1960 ≤ tn := by rw [hz1960]; exact (skp_b hY (Nat.succ_le_of_lt (mark_lt hY (by first | decide | exact hch.1) e1956))).2
          have hzE := tkE_le hY (s := z1960) (by omega)
          obtain ⟨hkw, hktx, hkco⟩ := m1957
          refine lv_if_eq (tgt := 83) hx hb dX5_readFactor_76 (by decide) (fun c9 => absurd c9 (by decide)) (fun _ => ?_)
          refine lv_iconst (v := 1) hx hb dX5_readFactor_79 (by decide) ?_
          refine lv_goto (tgt := 84) hx hb dX5_readFactor_80 (by decide) ?_
          have h41 := mark_lt hY (by decide) e1956
          have h41b := skp_b hY (z := q1941 + 1) (by omega)
          rw [← hz1960] at h41b
          exact en_i hx hb hr hlocks hL rfl (Nat.zero_le _) (Nat.zero_le _) dX5_readFactor_84 (⟨hT, hF, Or.inl ⟨rfl, l1940, z1960, _, _, _, (hfd z).trans ((fac_cl hnd e1934 (by rw [← hzz]; exact e1945) e1956).trans (by rw [hz1960])), (by omega), (by omega), (by omega), c1949, ⟨hkw, hktx, hkco⟩⟩⟩)
        · obtain ⟨hkw, hktx, hkco⟩ := m1959
          refine lv_if_eq (tgt := 83) hx hb dX5_readFactor_76 (by decide) (fun _ => ?_) (fun c9 => absurd (by decide) c9)
          refine lv_iconst (v := 0) hx hb dX5_readFactor_83 (by decide) ?_
          exact en_i hx hb hr hlocks hL rfl (Nat.zero_le _) (Nat.zero_le _) dX5_readFactor_84 (⟨hT, hF, Or.inr ⟨rfl, -2, q1941, (hfd z).trans (fac_op hnd e1934 (by rw [← hzz]; exact e1945) e1958), ⟨_, _, _, _, _, _, _, _, (by omega), (by omega), (by omega), hkw, hktx, hkco⟩⟩⟩)
      · refine lv_if_eq (tgt := 83) hx hb dX5_readFactor_67 (by decide) (fun _ => ?_) (fun c9 => absurd (by decide) c9)
        refine lv_iconst (v := 0) hx hb dX5_readFactor_83 (by decide) ?_
        exact en_i hx hb hr hlocks hL rfl (Nat.zero_le _) (Nat.zero_le _) dX5_readFactor_84 (⟨hT, hF, Or.inr ⟨rfl, _, _, (hfd z).trans (fac_er hnd e1934 (by rw [← hzz]; exact e1953)), x1954⟩⟩)
    · refine lv_if_eq (tgt := 85) hx hb dX5_readFactor_37 (by decide) (fun _ => ?_) (fun c9 => absurd (by decide) c9)
      refine lv_aload_n hx hb dX5_readFactor_85 rfl (lv_at hl 0 rfl) ?_
      refine cv_i (As := []) (rest := []) (b := w) ⟨hx, hb, hml, hown, hts⟩ (c_X5_codeOfWord hT (w := w) hw (by first | omega | decide | assumption) (by first | omega | decide | assumption) (by first | omega | decide | assumption) (by first | omega | decide | assumption) ⟨hkw, hktx, hkco⟩) (cwV 0 hts gX5_readFactor_X5_codeOfWord rfl rfl rfl hdX5_codeOfWord_v ⟨Nat.le_of_ble_eq_true rfl, Nat.le_of_ble_eq_true rfl⟩) hN hE hL (rcv6 hN hT hw.1) rfl rfl hl.1 (Nat.le_of_ble_eq_true rfl) dX5_readFactor_86 (Nat.zero_le _) (Nat.zero_le _) (fun r1961 H1 locs hL hqr1961 => ?_)
      obtain ⟨h9, hqr1961⟩ := hqr1961; replace h9 := h9.symm; subst h9
      rcases hqr1961 with ⟨rfl, a1962⟩ | ⟨rfl, a1963, b1964⟩ | ⟨rfl, a1965, b1966, c1967⟩ | ⟨rfl, a1968, b1969, c1970, d1971⟩ | ⟨rfl, a1972, b1973, c1974, d1975⟩
      · have hzl := hY.l (isW_le hY (i := 1) (by decide) a1962).1
        refine lv_istore_n (lv' := [(2, .int (-1)), (0, .ref w), (1, .int 2)]) hx hb dX5_readFactor_89 rfl hl (by decide) rfl (fun ls hl => ?_)
        refine lv_iload_n hx hb dX5_readFactor_90 rfl (lv_at hl 0 rfl) ?_
        refine lv_if_ne (tgt := 105) hx hb dX5_readFactor_91 (by decide) (fun _ => ?_) (fun c9 => absurd c9 (by decide))
        refine lv_aload_n hx hb dX5_readFactor_105 rfl (lv_at hl 1 rfl) ?_
        refine lv_iload_n hx hb dX5_readFactor_106 rfl (lv_at hl 0 rfl) ?_
        refine cv_v (As := [.int (-1)]) (rest := []) (b := w) ⟨hx, hb, hml, hown, hts⟩ (c_X5_putCode hT (w := w) hw (x := (-1)) (by first | omega | decide | assumption) (by first | omega | decide | assumption) (by first | omega | decide | assumption) (by first | omega | decide | assumption) ⟨hkw, hktx, hkco⟩ (by first | omega | decide | assumption)) (cwV 1 hts gX5_readFactor_X5_putCode rfl rfl rfl hdX5_putCode_v ⟨Nat.le_of_ble_eq_true rfl, Nat.le_of_ble_eq_true rfl⟩) hN hE hL (rcv6 hN hT hw.1) rfl rfl hl.1 (Nat.le_of_ble_eq_true rfl) dX5_readFactor_107 (Nat.zero_le _) (Nat.zero_le _) (fun H1 locs hL hqr1976 => ?_)
        obtain ⟨hT1, hF1, hqr1976⟩ := hqr1976
        have hF := hF.tr (hF1.mono (by simp))
        have hT := hT1
        have m1977 := hqr1976
        obtain ⟨hkw, hktx, hkco⟩ := m1977
        refine lv_aload_n hx hb dX5_readFactor_110 rfl (lv_at hl 1 rfl) ?_
        refine cv_v (As := []) (rest := []) (b := w) ⟨hx, hb, hml, hown, hts⟩ (c_X5_step hT (w := w) hw (by first | omega | decide | assumption) (by first | omega | decide | assumption) (by first | omega | decide | assumption) (by first | omega | decide | assumption) (by first | omega | decide | assumption) ⟨hkw, hktx, hkco⟩) (cwV 0 hts gX5_readFactor_X5_step rfl rfl rfl hdX5_step_v ⟨Nat.le_of_ble_eq_true rfl, Nat.le_of_ble_eq_true rfl⟩) hN hE hL (rcv6 hN hT hw.1) rfl rfl hl.1 (Nat.le_of_ble_eq_true rfl) dX5_readFactor_111 (Nat.zero_le _) (Nat.zero_le _) (fun H1 locs hL hqr1978 => ?_)
        obtain ⟨hT1, hF1, hqr1978⟩ := hqr1978
        have hF := hF.tr (hF1.mono (by simp))
        have hT := hT1
        have m1979 := hqr1978
        obtain ⟨z1980, hz1980⟩ : ∃ z9, z9 = skp B ((tkE B z)) := ⟨_, rfl⟩
        rw [← hz1980] at m1979
        have bz1980 : z1980 ≤ tn := by rw [hz1980]; exact run_ub hY (by decide) (by omega)
        have hzE := tkE_le hY (s := z1980) (by omega)
        obtain ⟨hkw, hktx, hkco⟩ := m1979
        refine lv_iconst (v := 1) hx hb dX5_readFactor_114 (by decide) ?_
        have hwl := isW_lt hY (i := 1) (by decide) a1962
        have hzw : z1980 = skp B (z + nT 1) := by rw [hz1980, tkE_w hY (i := 1) (by decide) a1962]
        rw [← hzw] at hwl
        exact en_i hx hb hr hlocks hL rfl (Nat.zero_le _) (Nat.zero_le _) dX5_readFactor_115 (⟨hT, hF, Or.inl ⟨rfl, [(-1)], z1980, _, _, _, ((hfd z).trans (fac_w1 hnd e1935 a1962)).trans (by rw [hzw]), hwl.1, hwl.2, (show z + 1 ≤ _ by omega), CDS.one, ⟨hkw, hktx, hkco⟩⟩⟩)
      · have hzl := hY.l (isW_le hY (i := 7) (by decide) b1964).1
        refine lv_istore_n (lv' := [(2, .int (-2)), (0, .ref w), (1, .int 2)]) hx hb dX5_readFactor_89 rfl hl (by decide) rfl (fun ls hl => ?_)
        refine lv_iload_n hx hb dX5_readFactor_90 rfl (lv_at hl 0 rfl) ?_
        refine lv_if_ne (tgt := 105) hx hb dX5_readFactor_91 (by decide) (fun _ => ?_) (fun c9 => absurd c9 (by decide))
        refine lv_aload_n hx hb dX5_readFactor_105 rfl (lv_at hl 1 rfl) ?_
        refine lv_iload_n hx hb dX5_readFactor_106 rfl (lv_at hl 0 rfl) ?_
        refine cv_v (As := [.int (-2)]) (rest := []) (b := w) ⟨hx, hb, hml, hown, hts⟩ (c_X5_putCode hT (w := w) hw (x := (-2)) (by first | omega | decide | assumption) (by first | omega | decide | assumption) (by first | omega | decide | assumption) (by first | omega | decide | assumption) ⟨hkw, hktx, hkco⟩ (by first | omega | decide | assumption)) (cwV 1 hts gX5_readFactor_X5_putCode rfl rfl rfl hdX5_putCode_v ⟨Nat.le_of_ble_eq_true rfl, Nat.le_of_ble_eq_true rfl⟩) hN hE hL (rcv6 hN hT hw.1) rfl rfl hl.1 (Nat.le_of_ble_eq_true rfl) dX5_readFactor_107 (Nat.zero_le _) (Nat.zero_le _) (fun H1 locs hL hqr1981 => ?_)
        obtain ⟨hT1, hF1, hqr1981⟩ := hqr1981
        have hF := hF.tr (hF1.mono (by simp))
        have hT := hT1
        have m1982 := hqr1981
        obtain ⟨hkw, hktx, hkco⟩ := m1982
        refine lv_aload_n hx hb dX5_readFactor_110 rfl (lv_at hl 1 rfl) ?_
        refine cv_v (As := []) (rest := []) (b := w) ⟨hx, hb, hml, hown, hts⟩ (c_X5_step hT (w := w) hw (by first | omega | decide | assumption) (by first | omega | decide | assumption) (by first | omega | decide | assumption) (by first | omega | decide | assumption) (by first | omega | decide | assumption) ⟨hkw, hktx, hkco⟩) (cwV 0 hts gX5_readFactor_X5_step rfl rfl rfl hdX5_step_v ⟨Nat.le_of_ble_eq_true rfl, Nat.le_of_ble_eq_true rfl⟩) hN hE hL (rcv6 hN hT hw.1) rfl rfl hl.1 (Nat.le_of_ble_eq_true rfl) dX5_readFactor_111 (Nat.zero_le _) (Nat.zero_le _) (fun H1 locs hL hqr1983 => ?_)
        obtain ⟨hT1, hF1, hqr1983⟩ := hqr1983
        have hF := hF.tr (hF1.mono (by simp))
        have hT := hT1
        have m1984 := hqr1983
        obtain ⟨z1985, hz1985⟩ : ∃ z9, z9 = skp B ((tkE B z)) := ⟨_, rfl⟩
        rw [← hz1985] at m1984
        have bz1985 : z1985 ≤ tn := by rw [hz1985]; exact run_ub hY (by decide) (by omega)
        have hzE := tkE_le hY (s := z1985) (by omega)
        obtain ⟨hkw, hktx, hkco⟩ := m1984
        refine lv_iconst (v := 1) hx hb dX5_readFactor_114 (by decide) ?_
        have hwl := isW_lt hY (i := 7) (by decide) b1964
        have hzw : z1985 = skp B (z + nT 7) := by rw [hz1985, tkE_w hY (i := 7) (by decide) b1964]
        rw [← hzw] at hwl
        exact en_i hx hb hr hlocks hL rfl (Nat.zero_le _) (Nat.zero_le _) dX5_readFactor_115 (⟨hT, hF, Or.inl ⟨rfl, [(-2)], z1985, _, _, _, ((hfd z).trans (fac_w2 hnd e1935 a1963 b1964)).trans (by rw [hzw]), hwl.1, hwl.2, (show z + 1 ≤ _ by omega), CDS.one, ⟨hkw, hktx, hkco⟩⟩⟩)
      · have hzl := hY.l (isW_le hY (i := 8) (by decide) c1967).1
        refine lv_istore_n (lv' := [(2, .int (-3)), (0, .ref w), (1, .int 2)]) hx hb dX5_readFactor_89 rfl hl (by decide) rfl (fun ls hl => ?_)
        refine lv_iload_n hx hb dX5_readFactor_90 rfl (lv_at hl 0 rfl) ?_
        refine lv_if_ne (tgt := 105) hx hb dX5_readFactor_91 (by decide) (fun _ => ?_) (fun c9 => absurd c9 (by decide))
        refine lv_aload_n hx hb dX5_readFactor_105 rfl (lv_at hl 1 rfl) ?_
        refine lv_iload_n hx hb dX5_readFactor_106 rfl (lv_at hl 0 rfl) ?_
        refine cv_v (As := [.int (-3)]) (rest := []) (b := w) ⟨hx, hb, hml, hown, hts⟩ (c_X5_putCode hT (w := w) hw (x := (-3)) (by first | omega | decide | assumption) (by first | omega | decide | assumption) (by first | omega | decide | assumption) (by first | omega | decide | assumption) ⟨hkw, hktx, hkco⟩ (by first | omega | decide | assumption)) (cwV 1 hts gX5_readFactor_X5_putCode rfl rfl rfl hdX5_putCode_v ⟨Nat.le_of_ble_eq_true rfl, Nat.le_of_ble_eq_true rfl⟩) hN hE hL (rcv6 hN hT hw.1) rfl rfl hl.1 (Nat.le_of_ble_eq_true rfl) dX5_readFactor_107 (Nat.zero_le _) (Nat.zero_le _) (fun H1 locs hL hqr1986 => ?_)
        obtain ⟨hT1, hF1, hqr1986⟩ := hqr1986
        have hF := hF.tr (hF1.mono (by simp))
        have hT := hT1
        have m1987 := hqr1986
        obtain ⟨hkw, hktx, hkco⟩ := m1987
        refine lv_aload_n hx hb dX5_readFactor_110 rfl (lv_at hl 1 rfl) ?_
        refine cv_v (As := []) (rest := []) (b := w) ⟨hx, hb, hml, hown, hts⟩ (c_X5_step hT (w := w) hw (by first | omega | decide | assumption) (by first | omega | decide | assumption) (by first | omega | decide | assumption) (by first | omega | decide | assumption) (by first | omega | decide | assumption) ⟨hkw, hktx, hkco⟩) (cwV 0 hts gX5_readFactor_X5_step rfl rfl rfl hdX5_step_v ⟨Nat.le_of_ble_eq_true rfl, Nat.le_of_ble_eq_true rfl⟩) hN hE hL (rcv6 hN hT hw.1) rfl rfl hl.1 (Nat.le_of_ble_eq_true rfl) dX5_readFactor_111 (Nat.zero_le _) (Nat.zero_le _) (fun H1 locs hL hqr1988 => ?_)
        obtain ⟨hT1, hF1, hqr1988⟩ := hqr1988
        have hF := hF.tr (hF1.mono (by simp))
        have hT := hT1
        have m1989 := hqr1988
        obtain ⟨z1990, hz1990⟩ : ∃ z9, z9 = skp B ((tkE B z)) := ⟨_, rfl⟩
        rw [← hz1990] at m1989
        have bz1990 : z1990 ≤ tn := by rw [hz1990]; exact run_ub hY (by decide) (by omega)
        have hzE := tkE_le hY (s := z1990) (by omega)
        obtain ⟨hkw, hktx, hkco⟩ := m1989
        refine lv_iconst (v := 1) hx hb dX5_readFactor_114 (by decide) ?_
        have hwl := isW_lt hY (i := 8) (by decide) c1967
        have hzw : z1990 = skp B (z + nT 8) := by rw [hz1990, tkE_w hY (i := 8) (by decide) c1967]
        rw [← hzw] at hwl
        exact en_i hx hb hr hlocks hL rfl (Nat.zero_le _) (Nat.zero_le _) dX5_readFactor_115 (⟨hT, hF, Or.inl ⟨rfl, [(-3)], z1990, _, _, _, ((hfd z).trans (fac_w3 hnd e1935 a1965 b1966 c1967)).trans (by rw [hzw]), hwl.1, hwl.2, (show z + 1 ≤ _ by omega), CDS.one, ⟨hkw, hktx, hkco⟩⟩⟩)
      · have hzl := hY.l (isW_le hY (i := 9) (by decide) d1971).1
        refine lv_istore_n (lv' := [(2, .int (-4)), (0, .ref w), (1, .int 2)]) hx hb dX5_readFactor_89 rfl hl (by decide) rfl (fun ls hl => ?_)
        refine lv_iload_n hx hb dX5_readFactor_90 rfl (lv_at hl 0 rfl) ?_
        refine lv_if_ne (tgt := 105) hx hb dX5_readFactor_91 (by decide) (fun _ => ?_) (fun c9 => absurd c9 (by decide))
        refine lv_aload_n hx hb dX5_readFactor_105 rfl (lv_at hl 1 rfl) ?_
        refine lv_iload_n hx hb dX5_readFactor_106 rfl (lv_at hl 0 rfl) ?_
        refine cv_v (As := [.int (-4)]) (rest := []) (b := w) ⟨hx, hb, hml, hown, hts⟩ (c_X5_putCode hT (w := w) hw (x := (-4)) (by first | omega | decide | assumption) (by first | omega | decide | assumption) (by first | omega | decide | assumption) (by first | omega | decide | assumption) ⟨hkw, hktx, hkco⟩ (by first | omega | decide | assumption)) (cwV 1 hts gX5_readFactor_X5_putCode rfl rfl rfl hdX5_putCode_v ⟨Nat.le_of_ble_eq_true rfl, Nat.le_of_ble_eq_true rfl⟩) hN hE hL (rcv6 hN hT hw.1) rfl rfl hl.1 (Nat.le_of_ble_eq_true rfl) dX5_readFactor_107 (Nat.zero_le _) (Nat.zero_le _) (fun H1 locs hL hqr1991 => ?_)
        obtain ⟨hT1, hF1, hqr1991⟩ := hqr1991
        have hF := hF.tr (hF1.mono (by simp))
        have hT := hT1
        have m1992 := hqr1991
        obtain ⟨hkw, hktx, hkco⟩ := m1992
        refine lv_aload_n hx hb dX5_readFactor_110 rfl (lv_at hl 1 rfl) ?_
        refine cv_v (As := []) (rest := []) (b := w) ⟨hx, hb, hml, hown, hts⟩ (c_X5_step hT (w := w) hw (by first | omega | decide | assumption) (by first | omega | decide | assumption) (by first | omega | decide | assumption) (by first | omega | decide | assumption) (by first | omega | decide | assumption) ⟨hkw, hktx, hkco⟩) (cwV 0 hts gX5_readFactor_X5_step rfl rfl rfl hdX5_step_v ⟨Nat.le_of_ble_eq_true rfl, Nat.le_of_ble_eq_true rfl⟩) hN hE hL (rcv6 hN hT hw.1) rfl rfl hl.1 (Nat.le_of_ble_eq_true rfl) dX5_readFactor_111 (Nat.zero_le _) (Nat.zero_le _) (fun H1 locs hL hqr1993 => ?_)
        obtain ⟨hT1, hF1, hqr1993⟩ := hqr1993
        have hF := hF.tr (hF1.mono (by simp))
        have hT := hT1
        have m1994 := hqr1993
        obtain ⟨z1995, hz1995⟩ : ∃ z9, z9 = skp B ((tkE B z)) := ⟨_, rfl⟩
        rw [← hz1995] at m1994
        have bz1995 : z1995 ≤ tn := by rw [hz1995]; exact run_ub hY (by decide) (by omega)
        have hzE := tkE_le hY (s := z1995) (by omega)
        obtain ⟨hkw, hktx, hkco⟩ := m1994
        refine lv_iconst (v := 1) hx hb dX5_readFactor_114 (by decide) ?_
        have hwl := isW_lt hY (i := 9) (by decide) d1971
        have hzw : z1995 = skp B (z + nT 9) := by rw [hz1995, tkE_w hY (i := 9) (by decide) d1971]
        rw [← hzw] at hwl
        exact en_i hx hb hr hlocks hL rfl (Nat.zero_le _) (Nat.zero_le _) dX5_readFactor_115 (⟨hT, hF, Or.inl ⟨rfl, [(-4)], z1995, _, _, _, ((hfd z).trans (fac_w4 hnd e1935 a1968 b1969 c1970 d1971)).trans (by rw [hzw]), hwl.1, hwl.2, (show z + 1 ≤ _ by omega), CDS.one, ⟨hkw, hktx, hkco⟩⟩⟩)
      · refine lv_istore_n (lv' := [(2, .int 0), (0, .ref w), (1, .int 2)]) hx hb dX5_readFactor_89 rfl hl (by decide) rfl (fun ls hl => ?_)
        refine lv_iload_n hx hb dX5_readFactor_90 rfl (lv_at hl 0 rfl) ?_
        refine lv_if_ne (tgt := 105) hx hb dX5_readFactor_91 (by decide) (fun c9 => absurd (by decide) c9) (fun _ => ?_)
        refine lv_aload_n hx hb dX5_readFactor_94 rfl (lv_at hl 1 rfl) ?_
        refine lv_bipush (v := (-2)) hx hb dX5_readFactor_95 (by decide) ?_
        refine lv_aload_n hx hb dX5_readFactor_97 rfl (lv_at hl 1 rfl) ?_
        refine va_get (D := D) (ci := 5) (v := .int (nI z)) (C := RX5) (T := TX5) (N := 14) hx hb hts iX5_readFactor_5 hown hN.1 hP 0 rfl rfl 5 (by decide) (hts _ mX5_readFactor_3) (fun _ h9 => h9) rfl dX5_readFactor_98 ?_
        refine cv_i (As := [.int (-2), .int (nI z)]) (rest := []) (b := w) ⟨hx, hb, hml, hown, hts⟩ (c_X5_fail hT (w := w) hw (x := (-2)) (y := (nI z)) (by first | omega | decide | assumption) (by first | omega | decide | assumption) (by first | omega | decide | assumption) (by first | omega | decide | assumption) (by first | omega | decide | assumption) ⟨hkw, hktx, hkco⟩) (cwV 2 hts gX5_readFactor_X5_fail rfl rfl rfl hdX5_fail_v ⟨Nat.le_of_ble_eq_true rfl, Nat.le_of_ble_eq_true rfl⟩) hN hE hL (rcv6 hN hT hw.1) rfl rfl hl.1 (Nat.le_of_ble_eq_true rfl) dX5_readFactor_101 (Nat.zero_le _) (Nat.zero_le _) (fun r1996 H1 locs hL hqr1996 => ?_)
        obtain ⟨hT1, hF1, hqr1996⟩ := hqr1996
        have hF := hF.tr (hF1.mono (by simp))
        have hT := hT1
        obtain ⟨rfl, m1997⟩ := hqr1996
        obtain ⟨hkw, hktx, hkco⟩ := m1997
        exact en_i hx hb hr hlocks hL rfl (Nat.zero_le _) (Nat.zero_le _) dX5_readFactor_104 (⟨hT, hF, Or.inr ⟨rfl, -2, z, (hfd z).trans (fac_w0 hnd e1935 a1972 b1973 c1974 d1975), ⟨_, _, _, _, _, _, _, _, (by omega), (by omega), (by omega), hkw, hktx, hkco⟩⟩⟩)
  · have hd := tkK_1.mp c1932
    have hzl := hY.d hd
    refine lv_aload_n hx hb dX5_readFactor_8 rfl (lv_at hl 0 rfl) ?_
    refine lv_iconst (v := 0) hx hb dX5_readFactor_9 (by decide) ?_
    refine lv_sipush (v := 9999) hx hb dX5_readFactor_10 (by decide) ?_
    refine cv_i (As := [.int 0, .int 9999]) (rest := []) (b := w) ⟨hx, hb, hml, hown, hts⟩ (c_X5_takeNumber hT (w := w) hw (aa := 0) (bb := 9999) (by first | omega | decide | assumption) (by first | omega | decide | assumption) (by first | omega | decide | assumption) (by first | omega | decide | assumption) ⟨hkw, hktx, hkco⟩ (by first | omega | decide | assumption) (by first | omega | decide | assumption)) (cwV 2 hts gX5_readFactor_X5_takeNumber rfl rfl rfl hdX5_takeNumber_v ⟨Nat.le_of_ble_eq_true rfl, Nat.le_of_ble_eq_true rfl⟩) hN hE hL (rcv6 hN hT hw.1) rfl rfl hl.1 (Nat.le_of_ble_eq_true rfl) dX5_readFactor_13 (Nat.zero_le _) (Nat.zero_le _) (fun r1998 H1 locs hL hqr1998 => ?_)
    obtain ⟨hT1, hF1, hqr1998⟩ := hqr1998
    have hF := hF.tr (hF1.mono (by simp))
    have hT := hT1
    rcases hqr1998 with ⟨rfl, d1999, l2000, g2001, m2002⟩ | ⟨rfl, d2003, m2004⟩ | ⟨rfl, d2005, g2006, m2007⟩
    · obtain ⟨z2008, hz2008⟩ : ∃ z9, z9 = skp B (dgE B z) := ⟨_, rfl⟩
      rw [← hz2008] at m2002
      have bz2008 : z2008 ≤ tn := by rw [hz2008]; exact (dgE_lt hY d1999).2
      have hzE := tkE_le hY (s := z2008) (by omega)
      obtain ⟨hkw, hktx, hkco⟩ := m2002
      refine lv_if_ne (tgt := 21) hx hb dX5_readFactor_16 (by decide) (fun _ => ?_) (fun c9 => absurd c9 (by decide))
      refine lv_aload_n hx hb dX5_readFactor_21 rfl (lv_at hl 0 rfl) ?_
      refine lv_aload_n hx hb dX5_readFactor_22 rfl (lv_at hl 0 rfl) ?_
      obtain ⟨hb2009, e2009, hat2009, hk2009⟩ := hT.o6 hw.1
      obtain ⟨f2009_0, f2009_2, f2009_3, f2009_4, f2009_5, f2009_6, f2009_7, f2009_8, f2009_9, f2009_10, f2009_11, f2009_12, f2009_13, rfl, c2009_1, c2009_2, c2009_3, c2009_5, c2009_10, t2009_0, t2009_9, c2009_11, c2009_p2⟩ := hk2009
      obtain ⟨rfl, rfl, rfl, rfl, rfl, rfl, rfl, rfl, rfl, rfl, rfl, rfl, rfl⟩ := eq6 hat2009 hkw (by omega)
      have hP : va_P D vwCl [(w, .inr (5, [.ref tx, .int (nI ((κ w).2.2.1)), .int (nI tn), .int (nI ((tkE B z2008))), .int (tkK B z2008), .int (nI z2008), .int (tkV B z2008), .int (nI ((nvl B z 0))), .int (nI z), .ref co, .int (nI cc), su, .int ec, .int es]))] _ := va_P.cons hat2009 va_P.nil
      refine va_get (D := D) (ci := 5) (v := .int (nI ((nvl B z 0)))) (C := RX5) (T := TX5) (N := 14) hx hb hts iX5_readFactor_5 hown hN.1 hP 0 rfl rfl 7 (by decide) (hts _ mX5_readFactor_2) (fun _ h9 => h9) rfl dX5_readFactor_23 ?_
      refine cv_v (As := [.int (nI ((nvl B z 0)))]) (rest := []) (b := w) ⟨hx, hb, hml, hown, hts⟩ (c_X5_putCode hT (w := w) hw (x := (nI ((nvl B z 0)))) (by first | omega | decide | assumption) (by first | omega | decide | assumption) (by first | omega | decide | assumption) (by first | omega | decide | assumption) ⟨hkw, hktx, hkco⟩ (by first | omega | decide | assumption)) (cwV 1 hts gX5_readFactor_X5_putCode rfl rfl rfl hdX5_putCode_v ⟨Nat.le_of_ble_eq_true rfl, Nat.le_of_ble_eq_true rfl⟩) hN hE hL (rcv6 hN hT hw.1) rfl rfl hl.1 (Nat.le_of_ble_eq_true rfl) dX5_readFactor_26 (Nat.zero_le _) (Nat.zero_le _) (fun H1 locs hL hqr2010 => ?_)
      obtain ⟨hT1, hF1, hqr2010⟩ := hqr2010
      have hF := hF.tr (hF1.mono (by simp))
      have hT := hT1
      have m2011 := hqr2010
      obtain ⟨hkw, hktx, hkco⟩ := m2011
      refine lv_iconst (v := 1) hx hb dX5_readFactor_29 (by decide) ?_
      exact en_i hx hb hr hlocks hL rfl (Nat.zero_le _) (Nat.zero_le _) dX5_readFactor_30 (⟨hT, hF, Or.inl ⟨rfl, [nI (nvl B z 0)], z2008, _, _, _, (hfd z).trans ((fac_num hd (by omega)).trans (by rw [hz2008])), (by rw [hz2008]; exact (dgE_lt hY hd).1), (by rw [hz2008]; exact (dgE_lt hY hd).2), (by have h9 := (dgE_lt hY hd).1; rw [← hz2008] at h9; show z + 1 ≤ _; omega), CDS.one, ⟨hkw, hktx, hkco⟩⟩⟩)
    · exact absurd hd d2003
    · obtain ⟨hkw, hktx, hkco⟩ := m2007
      refine lv_if_ne (tgt := 21) hx hb dX5_readFactor_16 (by decide) (fun c9 => absurd (by decide) c9) (fun _ => ?_)
      refine lv_iconst (v := 0) hx hb dX5_readFactor_19 (by decide) ?_
      exact en_i hx hb hr hlocks hL rfl (Nat.zero_le _) (Nat.zero_le _) dX5_readFactor_20 (⟨hT, hF, Or.inr ⟨rfl, -3, z, (hfd z).trans (fac_big hd (by omega)), ⟨_, _, _, _, _, _, _, _, (by omega), (by omega), (by omega), hkw, hktx, hkco⟩⟩⟩)
set_option maxHeartbeats 4000000 in
set_option maxRecDepth 100000 in
theorem c_X5_readTerm_d2 {l : Launch} {D : va_G} {cs : Nat → ClassId} {B0 T : Nat} {κ : KM} {H0 : Heap} (hT : WT B0 D cs T κ H0) {w : Nat} (hw : T2 κ w 6 10) {tx co tn cc : Nat} {f cf B : Nat → Int32} {ta tk ec es : Int32} {su : Value} (hY : BY B tn) (hf : TXB f B tn) (hcc : cc ≤ 600) {z : Nat} (hz : z ≤ tn) (hrs : RS D cs w H0 tx f co cf (κ w).2.2.1 tn (tkE B z) (tkK B z) z (tkV B z) ta tk cc su ec es) (hcz : cc ≤ z) : KC l yX5_readTerm wsX5_readTerm 13 285 0 0 D cs B0 H0 [.ref w, .int 2] (Qi (fun r H => WT B0 D cs T κ H ∧ Fr B0 [10] κ H0 H ∧ ((r = 1 ∧ ∃ l1 q1 cf1 ta1 tk1, trmD B 2 z = .inr (l1, q1) ∧ z < q1 ∧ q1 ≤ tn ∧ z + l1.length ≤ q1 ∧ CDS cf cf1 cc l1 ∧ RS D cs w H tx f co cf1 (κ w).2.2.1 tn (tkE B q1) (tkK B q1) q1 (tkV B q1) ta1 tk1 (cc + l1.length) su ec es) ∨ (r = 0 ∧ ∃ c9 o9, trmD B 2 z = .inl (c9, o9) ∧ RE D cs w H tx f co (κ w).2.2.1 tn su c9 (nI o9))))) := by
  refine KC.of cX5_readTerm 4 (some .boolean) (by decide) rfl (Nat.le_of_ble_eq_true rfl) ?_
  intro p e s m below meth c ls hx hb hr hml hown hts hlocks hin hN hE hH0 hl
  have hown : s.vm.findClass RX5 = some m.cls := hown
  have hl : lv_has ls 4 [(0, .ref w), (1, .int 2)] := hl
  have hL : OkL B0 [] := OkL.nil
  have hF : Fr B0 [10] κ H0 H0 := Fr.rf
  obtain ⟨hkw, hktx, hkco⟩ := hrs
  have h6n := hY.1
  obtain ⟨htx, hco⟩ : T2 κ tx 16 10 ∧ T2 κ co 17 10 := RS.t2 hT hw hkw
  have hzE := tkE_le hY (s := z) (by omega)
  have hfd : ∀ z9, trmD B 2 z9 = manyB B (facD B 2) 42 47 (-7) (-8) z9 := fun _ => rfl
  have hpg := facD_pg hY 2
  refine lv_aload_n hx hb dX5_readTerm_0 rfl (lv_at hl 0 rfl) ?_
  refine lv_iload_n hx hb dX5_readTerm_1 rfl (lv_at hl 1 rfl) ?_
  refine cv_i (As := [.int 2]) (rest := []) (b := w) ⟨hx, hb, hml, hown, hts⟩ (c_X5_readFactor_d2 hT (w := w) hw (by first | omega | decide | assumption) (by first | omega | decide | assumption) (by first | omega | decide | assumption) (by first | omega | decide | assumption) ⟨hkw, hktx, hkco⟩ (by first | omega | decide | assumption)) (cwV 1 hts gX5_readTerm_X5_readFactor rfl rfl rfl hdX5_readFactor_v ⟨Nat.le_of_ble_eq_true rfl, Nat.le_of_ble_eq_true rfl⟩) hN hE hL (rcv6 hN hT hw.1) rfl rfl hl.1 (Nat.le_of_ble_eq_true rfl) dX5_readTerm_2 (Nat.zero_le _) (Nat.zero_le _) (fun r2012 H1 locs hL hqr2012 => ?_)
  obtain ⟨hT1, hF1, hqr2012⟩ := hqr2012
  have hF := hF.tr (hF1.mono (by simp))
  have hT := hT1
  rcases hqr2012 with ⟨rfl, l2013, q2014, f2015, t2016, k2017, e2018, u2019, v2020, b2021, c2022, m2023⟩ | ⟨rfl, c2024, o2025, e2026, x2027⟩
  · obtain ⟨hkw, hktx, hkco⟩ := m2023
    have hzE := tkE_le hY (s := q2014) (by omega)
    refine lv_if_ne (tgt := 10) hx hb dX5_readTerm_5 (by decide) (fun _ => ?_) (fun c9 => absurd c9 (by decide))
    refine lv_iconst (v := 0) hx hb dX5_readTerm_10 (by decide) ?_
    refine lv_istore_n (lv' := [(2, .int 0), (0, .ref w), (1, .int 2)]) hx hb dX5_readTerm_11 rfl hl (by decide) rfl (fun ls hl => ?_)
    refine lp_m (α := Nat × Nat × List Int32 × (Nat → Int32) × Int32 × Int32) (nL := 4) (fun a9 => 600 - a9.1) (fun a9 H9 l9 => (a9.1 ≤ 600 ∧ a9.2.1 ≤ tn ∧ z + a9.1 < a9.2.1) ∧ (CDS cf a9.2.2.2.1 cc a9.2.2.1) ∧ (z + a9.2.2.1.length ≤ a9.2.1) ∧ (trmD B 2 z = LPB B (facD B 2) 42 47 (-7) (-8) a9.2.2.1 a9.2.1) ∧ (RS D cs w H9 tx f co a9.2.2.2.1 (κ w).2.2.1 tn (tkE B a9.2.1) (tkK B a9.2.1) a9.2.1 (tkV B a9.2.1) a9.2.2.2.2.1 a9.2.2.2.2.2 (cc + a9.2.2.1.length) su ec es) ∧ (WT B0 D cs T κ H9) ∧ (Fr B0 [10] κ H0 H9) ∧ (OkL B0 l9)) (fun a9 => [(2, .int (nI a9.1)), (0, .ref w), (1, .int 2)]) ?_ (0, q2014, l2013, f2015, t2016, k2017) _ _ _ ⟨(by show (0) ≤ 600 ∧ (q2014) ≤ tn ∧ z + (0) < (q2014); omega), c2022, (by show z + (l2013).length ≤ (q2014); omega), ((hfd z).trans (many_ok e2018)), ⟨hkw, hktx, hkco⟩, hT, hF, hL⟩ (lv_sub hl [0, 1, 2] rfl)
    rintro ⟨k, zc, l9, cf9, ta9, tk9⟩ H locs ls ih2028 ⟨hk, hcd, hcl, hlp, hks, hT, hF, hL⟩ hl
    have hl : lv_has ls 4 [(2, .int (nI k)), (0, .ref w), (1, .int 2)] := hl
    have hk : k ≤ 600 ∧ zc ≤ tn ∧ z + k < zc := hk
    have hcd : CDS cf cf9 cc l9 := hcd
    have hcl : z + l9.length ≤ zc := hcl
    have hlp : trmD B 2 z = LPB B (facD B 2) 42 47 (-7) (-8) l9 zc := hlp
    have hks : RS D cs w H tx f co cf9 (κ w).2.2.1 tn (tkE B zc) (tkK B zc) zc (tkV B zc) ta9 tk9 (cc + l9.length) su ec es := hks
    obtain ⟨hkw, hktx, hkco⟩ := hks
    have hzE := tkE_le hY (s := zc) (by omega)
    refine lv_iload_n hx hb dX5_readTerm_12 rfl (lv_at hl 0 rfl) ?_
    refine lv_sipush (v := 600) hx hb dX5_readTerm_13 (by decide) ?_
    refine lv_icmp_ge (tgt := 79) hx hb dX5_readTerm_16 (by decide) (fun c2029 => ?_) (fun c2029 => ?_)
    · have c2029 : 600 ≤ k := (nI_leI (a := 600) (b := k) (by omega) (by omega)).mp c2029
      exact absurd c2029 (by omega)
    · have c2029 : ¬ 600 ≤ k := fun h9 => c2029 ((nI_leI (a := 600) (b := k) (by omega) (by omega)).mpr h9)
      refine lv_aload_n hx hb dX5_readTerm_19 rfl (lv_at hl 1 rfl) ?_
      refine lv_bipush (v := 42) hx hb dX5_readTerm_20 (by decide) ?_
      refine cv_i (As := [.int 42]) (rest := []) (b := w) ⟨hx, hb, hml, hown, hts⟩ (c_X5_isMark hT (w := w) hw (ch := 42) (by first | omega | decide | assumption) (by first | omega | decide | assumption) (by first | omega | decide | assumption) (by first | omega | decide | assumption) ⟨hkw, hktx, hkco⟩ (by first | omega | decide | assumption)) (cwV 1 hts gX5_readTerm_X5_isMark rfl rfl rfl hdX5_isMark_v ⟨Nat.le_of_ble_eq_true rfl, Nat.le_of_ble_eq_true rfl⟩) hN hE hL (rcv6 hN hT hw.1) rfl rfl hl.1 (Nat.le_of_ble_eq_true rfl) dX5_readTerm_22 (Nat.zero_le _) (Nat.zero_le _) (fun r2030 H1 locs hL hqr2030 => ?_)
      obtain ⟨h9, hqr2030⟩ := hqr2030; replace h9 := h9.symm; subst h9
      rcases hqr2030 with ⟨rfl, e2031⟩ | ⟨rfl, e2032⟩
      · refine lv_if_ne (tgt := 37) hx hb dX5_readTerm_25 (by decide) (fun _ => ?_) (fun c9 => absurd c9 (by decide))
        refine lv_aload_n hx hb dX5_readTerm_37 rfl (lv_at hl 1 rfl) ?_
        refine lv_bipush (v := 42) hx hb dX5_readTerm_38 (by decide) ?_
        refine cv_i (As := [.int 42]) (rest := []) (b := w) ⟨hx, hb, hml, hown, hts⟩ (c_X5_isMark hT (w := w) hw (ch := 42) (by first | omega | decide | assumption) (by first | omega | decide | assumption) (by first | omega | decide | assumption) (by first | omega | decide | assumption) ⟨hkw, hktx, hkco⟩ (by first | omega | decide | assumption)) (cwV 1 hts gX5_readTerm_X5_isMark rfl rfl rfl hdX5_isMark_v ⟨Nat.le_of_ble_eq_true rfl, Nat.le_of_ble_eq_true rfl⟩) hN hE hL (rcv6 hN hT hw.1) rfl rfl hl.1 (Nat.le_of_ble_eq_true rfl) dX5_readTerm_40 (Nat.zero_le _) (Nat.zero_le _) (fun r2033 H1 locs hL hqr2033 => ?_)
        obtain ⟨h9, hqr2033⟩ := hqr2033; replace h9 := h9.symm; subst h9
        rcases hqr2033 with ⟨rfl, e2034⟩ | ⟨rfl, e2035⟩
        · refine lv_if_eq (tgt := 51) hx hb dX5_readTerm_43 (by decide) (fun c9 => absurd c9 (by decide)) (fun _ => ?_)
          refine lv_bipush (v := (-7)) hx hb dX5_readTerm_46 (by decide) ?_
          refine lv_goto (tgt := 53) hx hb dX5_readTerm_48 (by decide) ?_
          refine lv_istore_n (lv' := [(3, .int (-7)), (2, .int (nI k)), (0, .ref w), (1, .int 2)]) hx hb dX5_readTerm_53 rfl hl (by decide) rfl (fun ls hl => ?_)
          refine lv_aload_n hx hb dX5_readTerm_54 rfl (lv_at hl 2 rfl) ?_
          refine cv_v (As := []) (rest := []) (b := w) ⟨hx, hb, hml, hown, hts⟩ (c_X5_step hT (w := w) hw (by first | omega | decide | assumption) (by first | omega | decide | assumption) (by first | omega | decide | assumption) (by first | omega | decide | assumption) (by first | omega | decide | assumption) ⟨hkw, hktx, hkco⟩) (cwV 0 hts gX5_readTerm_X5_step rfl rfl rfl hdX5_step_v ⟨Nat.le_of_ble_eq_true rfl, Nat.le_of_ble_eq_true rfl⟩) hN hE hL (rcv6 hN hT hw.1) rfl rfl hl.1 (Nat.le_of_ble_eq_true rfl) dX5_readTerm_55 (Nat.zero_le _) (Nat.zero_le _) (fun H1 locs hL hqr2036 => ?_)
          obtain ⟨hT1, hF1, hqr2036⟩ := hqr2036
          have hF := hF.tr (hF1.mono (by simp))
          have hT := hT1
          have m2037 := hqr2036
          obtain ⟨z2038, hz2038⟩ : ∃ z9, z9 = skp B ((tkE B zc)) := ⟨_, rfl⟩
          rw [← hz2038] at m2037
          have bz2038 : z2038 ≤ tn := by rw [hz2038]; exact run_ub hY (by decide) (by omega)
          have hzE := tkE_le hY (s := z2038) (by omega)
          obtain ⟨hkw, hktx, hkco⟩ := m2037
          have hzl := mark_lt hY (by decide) e2034
          have hzz : z2038 = skp B (zc + 1) := by rw [hz2038, tkE_m hY (by decide) e2034]
          have hzb := skp_b hY (z := zc + 1) (by omega)
          rw [← hzz] at hzb
          refine lv_aload_n hx hb dX5_readTerm_58 rfl (lv_at hl 2 rfl) ?_
          refine lv_iload_n hx hb dX5_readTerm_59 rfl (lv_at hl 3 rfl) ?_
          refine cv_i (As := [.int 2]) (rest := []) (b := w) ⟨hx, hb, hml, hown, hts⟩ (c_X5_readFactor_d2 hT (w := w) hw (by first | omega | decide | assumption) (by first | omega | decide | assumption) (by first | omega | decide | assumption) (by first | omega | decide | assumption) ⟨hkw, hktx, hkco⟩ (by first | omega | decide | assumption)) (cwV 1 hts gX5_readTerm_X5_readFactor rfl rfl rfl hdX5_readFactor_v ⟨Nat.le_of_ble_eq_true rfl, Nat.le_of_ble_eq_true rfl⟩) hN hE hL (rcv6 hN hT hw.1) rfl rfl hl.1 (Nat.le_of_ble_eq_true rfl) dX5_readTerm_60 (Nat.zero_le _) (Nat.zero_le _) (fun r2039 H1 locs hL hqr2039 => ?_)
          obtain ⟨hT1, hF1, hqr2039⟩ := hqr2039
          have hF := hF.tr (hF1.mono (by simp))
          have hT := hT1
          rcases hqr2039 with ⟨rfl, l2040, q2041, f2042, t2043, k2044, e2045, u2046, v2047, b2048, c2049, m2050⟩ | ⟨rfl, c2051, o2052, e2053, x2054⟩
          · obtain ⟨hkw, hktx, hkco⟩ := m2050
            have hzE := tkE_le hY (s := q2041) (by omega)
            refine lv_if_ne (tgt := 68) hx hb dX5_readTerm_63 (by decide) (fun _ => ?_) (fun c9 => absurd c9 (by decide))
            refine lv_aload_n hx hb dX5_readTerm_68 rfl (lv_at hl 2 rfl) ?_
            refine lv_iload_n hx hb dX5_readTerm_69 rfl (lv_at hl 0 rfl) ?_
            refine cv_v (As := [.int (-7)]) (rest := []) (b := w) ⟨hx, hb, hml, hown, hts⟩ (c_X5_putCode hT (w := w) hw (x := (-7)) (by first | omega | decide | assumption) (by first | omega | decide | assumption) (by first | omega | decide | assumption) (by first | omega | decide | assumption) ⟨hkw, hktx, hkco⟩ (by first | omega | decide | assumption)) (cwV 1 hts gX5_readTerm_X5_putCode rfl rfl rfl hdX5_putCode_v ⟨Nat.le_of_ble_eq_true rfl, Nat.le_of_ble_eq_true rfl⟩) hN hE hL (rcv6 hN hT hw.1) rfl rfl hl.1 (Nat.le_of_ble_eq_true rfl) dX5_readTerm_70 (Nat.zero_le _) (Nat.zero_le _) (fun H1 locs hL hqr2055 => ?_)
            obtain ⟨hT1, hF1, hqr2055⟩ := hqr2055
            have hF := hF.tr (hF1.mono (by simp))
            have hT := hT1
            have m2056 := hqr2055
            obtain ⟨hkw, hktx, hkco⟩ := m2056
            refine lv_iinc (v := (nI (k + 1))) (lv' := [(2, .int (nI (k + 1))), (3, .int (-7)), (0, .ref w), (1, .int 2)]) hx hb dX5_readTerm_73 hl (k := 1) rfl (nI_add _ 1) (by decide) rfl (fun ls hl => ?_)
            refine lv_goto (tgt := 12) hx hb dX5_readTerm_76 (by decide) ?_
            exact ih2028 ((k + 1), q2041, (l9 ++ l2040 ++ [(-7)]), (upd f2042 ((cc + l9.length) + l2040.length) (-7)), t2043, k2044) _ _ _ (by show 600 - ((k + 1)) < 600 - k; omega) ⟨(by show ((k + 1)) ≤ 600 ∧ (q2041) ≤ tn ∧ z + ((k + 1)) < (q2041); omega), (by have e7 : cc + l9.length + l2040.length = cc + (l9 ++ l2040).length := (by rw [List.length_append, Nat.add_assoc]); rw [e7]; exact (hcd.tr c2049).app1), (by show z + (l9 ++ l2040 ++ [(-7 : Int32)]).length ≤ q2041; have e8 : (l9 ++ l2040 ++ [(-7 : Int32)]).length = l9.length + l2040.length + 1 := (by simp only [List.length_append, List.length_cons, List.length_nil]); rw [e8]; omega), (hlp.trans (LP_c1 hY (by decide) (by decide) hpg e2034 (by rw [← hzz]; exact e2045))), (by have e8 : (l9 ++ l2040 ++ [(-7 : Int32)]).length = l9.length + l2040.length + 1 := (by simp only [List.length_append, List.length_cons, List.length_nil]); rw [e8, show cc + (l9.length + l2040.length + 1) = cc + l9.length + l2040.length + 1 by omega]; exact ⟨hkw, hktx, hkco⟩), hT, hF, hL⟩ (lv_sub hl [0, 2, 3] rfl)
          · refine lv_if_ne (tgt := 68) hx hb dX5_readTerm_63 (by decide) (fun c9 => absurd (by decide) c9) (fun _ => ?_)
            refine lv_iconst (v := 0) hx hb dX5_readTerm_66 (by decide) ?_
            exact en_i hx hb hr hlocks hL rfl (Nat.zero_le _) (Nat.zero_le _) dX5_readTerm_67 (⟨hT, hF, Or.inr ⟨rfl, _, _, hlp.trans (LP_er (o := 0) hY (by omega) (Or.inl e2034) (by rw [← hzz]; exact e2053)), x2054⟩⟩)
        · exact absurd e2031 e2035
      · refine lv_if_ne (tgt := 37) hx hb dX5_readTerm_25 (by decide) (fun c9 => absurd (by decide) c9) (fun _ => ?_)
        refine lv_aload_n hx hb dX5_readTerm_28 rfl (lv_at hl 1 rfl) ?_
        refine lv_bipush (v := 47) hx hb dX5_readTerm_29 (by decide) ?_
        refine cv_i (As := [.int 47]) (rest := []) (b := w) ⟨hx, hb, hml, hown, hts⟩ (c_X5_isMark hT (w := w) hw (ch := 47) (by first | omega | decide | assumption) (by first | omega | decide | assumption) (by first | omega | decide | assumption) (by first | omega | decide | assumption) ⟨hkw, hktx, hkco⟩ (by first | omega | decide | assumption)) (cwV 1 hts gX5_readTerm_X5_isMark rfl rfl rfl hdX5_isMark_v ⟨Nat.le_of_ble_eq_true rfl, Nat.le_of_ble_eq_true rfl⟩) hN hE hL (rcv6 hN hT hw.1) rfl rfl hl.1 (Nat.le_of_ble_eq_true rfl) dX5_readTerm_31 (Nat.zero_le _) (Nat.zero_le _) (fun r2057 H1 locs hL hqr2057 => ?_)
        obtain ⟨h9, hqr2057⟩ := hqr2057; replace h9 := h9.symm; subst h9
        rcases hqr2057 with ⟨rfl, e2058⟩ | ⟨rfl, e2059⟩
        · refine lv_if_eq (tgt := 79) hx hb dX5_readTerm_34 (by decide) (fun c9 => absurd c9 (by decide)) (fun _ => ?_)
          refine lv_aload_n hx hb dX5_readTerm_37 rfl (lv_at hl 1 rfl) ?_
          refine lv_bipush (v := 42) hx hb dX5_readTerm_38 (by decide) ?_
          refine cv_i (As := [.int 42]) (rest := []) (b := w) ⟨hx, hb, hml, hown, hts⟩ (c_X5_isMark hT (w := w) hw (ch := 42) (by first | omega | decide | assumption) (by first | omega | decide | assumption) (by first | omega | decide | assumption) (by first | omega | decide | assumption) ⟨hkw, hktx, hkco⟩ (by first | omega | decide | assumption)) (cwV 1 hts gX5_readTerm_X5_isMark rfl rfl rfl hdX5_isMark_v ⟨Nat.le_of_ble_eq_true rfl, Nat.le_of_ble_eq_true rfl⟩) hN hE hL (rcv6 hN hT hw.1) rfl rfl hl.1 (Nat.le_of_ble_eq_true rfl) dX5_readTerm_40 (Nat.zero_le _) (Nat.zero_le _) (fun r2060 H1 locs hL hqr2060 => ?_)
          obtain ⟨h9, hqr2060⟩ := hqr2060; replace h9 := h9.symm; subst h9
          rcases hqr2060 with ⟨rfl, e2061⟩ | ⟨rfl, e2062⟩
          · exact absurd e2061 e2032
          · refine lv_if_eq (tgt := 51) hx hb dX5_readTerm_43 (by decide) (fun _ => ?_) (fun c9 => absurd (by decide) c9)
            refine lv_bipush (v := (-8)) hx hb dX5_readTerm_51 (by decide) ?_
            refine lv_istore_n (lv' := [(3, .int (-8)), (2, .int (nI k)), (0, .ref w), (1, .int 2)]) hx hb dX5_readTerm_53 rfl hl (by decide) rfl (fun ls hl => ?_)
            refine lv_aload_n hx hb dX5_readTerm_54 rfl (lv_at hl 2 rfl) ?_
            refine cv_v (As := []) (rest := []) (b := w) ⟨hx, hb, hml, hown, hts⟩ (c_X5_step hT (w := w) hw (by first | omega | decide | assumption) (by first | omega | decide | assumption) (by first | omega | decide | assumption) (by first | omega | decide | assumption) (by first | omega | decide | assumption) ⟨hkw, hktx, hkco⟩) (cwV 0 hts gX5_readTerm_X5_step rfl rfl rfl hdX5_step_v ⟨Nat.le_of_ble_eq_true rfl, Nat.le_of_ble_eq_true rfl⟩) hN hE hL (rcv6 hN hT hw.1) rfl rfl hl.1 (Nat.le_of_ble_eq_true rfl) dX5_readTerm_55 (Nat.zero_le _) (Nat.zero_le _) (fun H1 locs hL hqr2063 => ?_)
            obtain ⟨hT1, hF1, hqr2063⟩ := hqr2063
            have hF := hF.tr (hF1.mono (by simp))
            have hT := hT1
            have m2064 := hqr2063
            obtain ⟨z2065, hz2065⟩ : ∃ z9, z9 = skp B ((tkE B zc)) := ⟨_, rfl⟩
            rw [← hz2065] at m2064
            have bz2065 : z2065 ≤ tn := by rw [hz2065]; exact run_ub hY (by decide) (by omega)
            have hzE := tkE_le hY (s := z2065) (by omega)
            obtain ⟨hkw, hktx, hkco⟩ := m2064
            have hzl := mark_lt hY (by decide) e2058
            have hzz : z2065 = skp B (zc + 1) := by rw [hz2065, tkE_m hY (by decide) e2058]
            have hzb := skp_b hY (z := zc + 1) (by omega)
            rw [← hzz] at hzb
            refine lv_aload_n hx hb dX5_readTerm_58 rfl (lv_at hl 2 rfl) ?_
            refine lv_iload_n hx hb dX5_readTerm_59 rfl (lv_at hl 3 rfl) ?_
            refine cv_i (As := [.int 2]) (rest := []) (b := w) ⟨hx, hb, hml, hown, hts⟩ (c_X5_readFactor_d2 hT (w := w) hw (by first | omega | decide | assumption) (by first | omega | decide | assumption) (by first | omega | decide | assumption) (by first | omega | decide | assumption) ⟨hkw, hktx, hkco⟩ (by first | omega | decide | assumption)) (cwV 1 hts gX5_readTerm_X5_readFactor rfl rfl rfl hdX5_readFactor_v ⟨Nat.le_of_ble_eq_true rfl, Nat.le_of_ble_eq_true rfl⟩) hN hE hL (rcv6 hN hT hw.1) rfl rfl hl.1 (Nat.le_of_ble_eq_true rfl) dX5_readTerm_60 (Nat.zero_le _) (Nat.zero_le _) (fun r2066 H1 locs hL hqr2066 => ?_)
            obtain ⟨hT1, hF1, hqr2066⟩ := hqr2066
            have hF := hF.tr (hF1.mono (by simp))
            have hT := hT1
            rcases hqr2066 with ⟨rfl, l2067, q2068, f2069, t2070, k2071, e2072, u2073, v2074, b2075, c2076, m2077⟩ | ⟨rfl, c2078, o2079, e2080, x2081⟩
            · obtain ⟨hkw, hktx, hkco⟩ := m2077
              have hzE := tkE_le hY (s := q2068) (by omega)
              refine lv_if_ne (tgt := 68) hx hb dX5_readTerm_63 (by decide) (fun _ => ?_) (fun c9 => absurd c9 (by decide))
              refine lv_aload_n hx hb dX5_readTerm_68 rfl (lv_at hl 2 rfl) ?_
              refine lv_iload_n hx hb dX5_readTerm_69 rfl (lv_at hl 0 rfl) ?_
              refine cv_v (As := [.int (-8)]) (rest := []) (b := w) ⟨hx, hb, hml, hown, hts⟩ (c_X5_putCode hT (w := w) hw (x := (-8)) (by first | omega | decide | assumption) (by first | omega | decide | assumption) (by first | omega | decide | assumption) (by first | omega | decide | assumption) ⟨hkw, hktx, hkco⟩ (by first | omega | decide | assumption)) (cwV 1 hts gX5_readTerm_X5_putCode rfl rfl rfl hdX5_putCode_v ⟨Nat.le_of_ble_eq_true rfl, Nat.le_of_ble_eq_true rfl⟩) hN hE hL (rcv6 hN hT hw.1) rfl rfl hl.1 (Nat.le_of_ble_eq_true rfl) dX5_readTerm_70 (Nat.zero_le _) (Nat.zero_le _) (fun H1 locs hL hqr2082 => ?_)
              obtain ⟨hT1, hF1, hqr2082⟩ := hqr2082
              have hF := hF.tr (hF1.mono (by simp))
              have hT := hT1
              have m2083 := hqr2082
              obtain ⟨hkw, hktx, hkco⟩ := m2083
              refine lv_iinc (v := (nI (k + 1))) (lv' := [(2, .int (nI (k + 1))), (3, .int (-8)), (0, .ref w), (1, .int 2)]) hx hb dX5_readTerm_73 hl (k := 1) rfl (nI_add _ 1) (by decide) rfl (fun ls hl => ?_)
              refine lv_goto (tgt := 12) hx hb dX5_readTerm_76 (by decide) ?_
              exact ih2028 ((k + 1), q2068, (l9 ++ l2067 ++ [(-8)]), (upd f2069 ((cc + l9.length) + l2067.length) (-8)), t2070, k2071) _ _ _ (by show 600 - ((k + 1)) < 600 - k; omega) ⟨(by show ((k + 1)) ≤ 600 ∧ (q2068) ≤ tn ∧ z + ((k + 1)) < (q2068); omega), (by have e7 : cc + l9.length + l2067.length = cc + (l9 ++ l2067).length := (by rw [List.length_append, Nat.add_assoc]); rw [e7]; exact (hcd.tr c2076).app1), (by show z + (l9 ++ l2067 ++ [(-8 : Int32)]).length ≤ q2068; have e8 : (l9 ++ l2067 ++ [(-8 : Int32)]).length = l9.length + l2067.length + 1 := (by simp only [List.length_append, List.length_cons, List.length_nil]); rw [e8]; omega), (hlp.trans (LP_c2 hY (by decide) (by decide) hpg e2062 e2058 (by rw [← hzz]; exact e2072))), (by have e8 : (l9 ++ l2067 ++ [(-8 : Int32)]).length = l9.length + l2067.length + 1 := (by simp only [List.length_append, List.length_cons, List.length_nil]); rw [e8, show cc + (l9.length + l2067.length + 1) = cc + l9.length + l2067.length + 1 by omega]; exact ⟨hkw, hktx, hkco⟩), hT, hF, hL⟩ (lv_sub hl [0, 2, 3] rfl)
            · refine lv_if_ne (tgt := 68) hx hb dX5_readTerm_63 (by decide) (fun c9 => absurd (by decide) c9) (fun _ => ?_)
              refine lv_iconst (v := 0) hx hb dX5_readTerm_66 (by decide) ?_
              exact en_i hx hb hr hlocks hL rfl (Nat.zero_le _) (Nat.zero_le _) dX5_readTerm_67 (⟨hT, hF, Or.inr ⟨rfl, _, _, hlp.trans (LP_er (o := 0) hY (by omega) (Or.inr ⟨e2062, e2058⟩) (by rw [← hzz]; exact e2080)), x2081⟩⟩)
        · refine lv_if_eq (tgt := 79) hx hb dX5_readTerm_34 (by decide) (fun _ => ?_) (fun c9 => absurd (by decide) c9)
          refine lv_iconst (v := 1) hx hb dX5_readTerm_79 (by decide) ?_
          exact en_i hx hb hr hlocks hL rfl (Nat.zero_le _) (Nat.zero_le _) dX5_readTerm_80 (⟨hT, hF, Or.inl ⟨rfl, l9, zc, _, _, _, hlp.trans (LP_no e2032 e2059), (by omega), (by omega), (by omega), hcd, ⟨hkw, hktx, hkco⟩⟩⟩)
  · refine lv_if_ne (tgt := 10) hx hb dX5_readTerm_5 (by decide) (fun c9 => absurd (by decide) c9) (fun _ => ?_)
    refine lv_iconst (v := 0) hx hb dX5_readTerm_8 (by decide) ?_
    exact en_i hx hb hr hlocks hL rfl (Nat.zero_le _) (Nat.zero_le _) dX5_readTerm_9 (⟨hT, hF, Or.inr ⟨rfl, _, _, (hfd z).trans (many_er e2026), x2027⟩⟩)
set_option maxHeartbeats 4000000 in
set_option maxRecDepth 100000 in
theorem c_X5_readSum_d2 {l : Launch} {D : va_G} {cs : Nat → ClassId} {B0 T : Nat} {κ : KM} {H0 : Heap} (hT : WT B0 D cs T κ H0) {w : Nat} (hw : T2 κ w 6 10) {tx co tn cc : Nat} {f cf B : Nat → Int32} {ta tk ec es : Int32} {su : Value} (hY : BY B tn) (hf : TXB f B tn) (hcc : cc ≤ 600) {z : Nat} (hz : z ≤ tn) (hrs : RS D cs w H0 tx f co cf (κ w).2.2.1 tn (tkE B z) (tkK B z) z (tkV B z) ta tk cc su ec es) (hcz : cc ≤ z) : KC l yX5_readSum wsX5_readSum 14 308 0 0 D cs B0 H0 [.ref w, .int 2] (Qi (fun r H => WT B0 D cs T κ H ∧ Fr B0 [10] κ H0 H ∧ ((r = 1 ∧ ∃ l1 q1 cf1 ta1 tk1, sumD B 2 z = .inr (l1, q1) ∧ z < q1 ∧ q1 ≤ tn ∧ z + l1.length ≤ q1 ∧ CDS cf cf1 cc l1 ∧ RS D cs w H tx f co cf1 (κ w).2.2.1 tn (tkE B q1) (tkK B q1) q1 (tkV B q1) ta1 tk1 (cc + l1.length) su ec es) ∨ (r = 0 ∧ ∃ c9 o9, sumD B 2 z = .inl (c9, o9) ∧ RE D cs w H tx f co (κ w).2.2.1 tn su c9 (nI o9))))) := by
  refine KC.of cX5_readSum 4 (some .boolean) (by decide) rfl (Nat.le_of_ble_eq_true rfl) ?_
  intro p e s m below meth c ls hx hb hr hml hown hts hlocks hin hN hE hH0 hl
  have hown : s.vm.findClass RX5 = some m.cls := hown
  have hl : lv_has ls 4 [(0, .ref w), (1, .int 2)] := hl
  have hL : OkL B0 [] := OkL.nil
  have hF : Fr B0 [10] κ H0 H0 := Fr.rf
  obtain ⟨hkw, hktx, hkco⟩ := hrs
  have h6n := hY.1
  obtain ⟨htx, hco⟩ : T2 κ tx 16 10 ∧ T2 κ co 17 10 := RS.t2 hT hw hkw
  have hzE := tkE_le hY (s := z) (by omega)
  have hfd : ∀ z9, sumD B 2 z9 = manyB B (trmD B 2) 43 45 (-5) (-6) z9 := fun _ => rfl
  have hpg := trmD_pg hY 2
  refine lv_aload_n hx hb dX5_readSum_0 rfl (lv_at hl 0 rfl) ?_
  refine lv_iload_n hx hb dX5_readSum_1 rfl (lv_at hl 1 rfl) ?_
  refine cv_i (As := [.int 2]) (rest := []) (b := w) ⟨hx, hb, hml, hown, hts⟩ (c_X5_readTerm_d2 hT (w := w) hw (by first | omega | decide | assumption) (by first | omega | decide | assumption) (by first | omega | decide | assumption) (by first | omega | decide | assumption) ⟨hkw, hktx, hkco⟩ (by first | omega | decide | assumption)) (cwV 1 hts gX5_readSum_X5_readTerm rfl rfl rfl hdX5_readTerm_v ⟨Nat.le_of_ble_eq_true rfl, Nat.le_of_ble_eq_true rfl⟩) hN hE hL (rcv6 hN hT hw.1) rfl rfl hl.1 (Nat.le_of_ble_eq_true rfl) dX5_readSum_2 (Nat.zero_le _) (Nat.zero_le _) (fun r2084 H1 locs hL hqr2084 => ?_)
  obtain ⟨hT1, hF1, hqr2084⟩ := hqr2084
  have hF := hF.tr (hF1.mono (by simp))
  have hT := hT1
  rcases hqr2084 with ⟨rfl, l2085, q2086, f2087, t2088, k2089, e2090, u2091, v2092, b2093, c2094, m2095⟩ | ⟨rfl, c2096, o2097, e2098, x2099⟩
  · obtain ⟨hkw, hktx, hkco⟩ := m2095
    have hzE := tkE_le hY (s := q2086) (by omega)
    refine lv_if_ne (tgt := 10) hx hb dX5_readSum_5 (by decide) (fun _ => ?_) (fun c9 => absurd c9 (by decide))
    refine lv_iconst (v := 0) hx hb dX5_readSum_10 (by decide) ?_
    refine lv_istore_n (lv' := [(2, .int 0), (0, .ref w), (1, .int 2)]) hx hb dX5_readSum_11 rfl hl (by decide) rfl (fun ls hl => ?_)
    refine lp_m (α := Nat × Nat × List Int32 × (Nat → Int32) × Int32 × Int32) (nL := 4) (fun a9 => 600 - a9.1) (fun a9 H9 l9 => (a9.1 ≤ 600 ∧ a9.2.1 ≤ tn ∧ z + a9.1 < a9.2.1) ∧ (CDS cf a9.2.2.2.1 cc a9.2.2.1) ∧ (z + a9.2.2.1.length ≤ a9.2.1) ∧ (sumD B 2 z = LPB B (trmD B 2) 43 45 (-5) (-6) a9.2.2.1 a9.2.1) ∧ (RS D cs w H9 tx f co a9.2.2.2.1 (κ w).2.2.1 tn (tkE B a9.2.1) (tkK B a9.2.1) a9.2.1 (tkV B a9.2.1) a9.2.2.2.2.1 a9.2.2.2.2.2 (cc + a9.2.2.1.length) su ec es) ∧ (WT B0 D cs T κ H9) ∧ (Fr B0 [10] κ H0 H9) ∧ (OkL B0 l9)) (fun a9 => [(2, .int (nI a9.1)), (0, .ref w), (1, .int 2)]) ?_ (0, q2086, l2085, f2087, t2088, k2089) _ _ _ ⟨(by show (0) ≤ 600 ∧ (q2086) ≤ tn ∧ z + (0) < (q2086); omega), c2094, (by show z + (l2085).length ≤ (q2086); omega), ((hfd z).trans (many_ok e2090)), ⟨hkw, hktx, hkco⟩, hT, hF, hL⟩ (lv_sub hl [0, 1, 2] rfl)
    rintro ⟨k, zc, l9, cf9, ta9, tk9⟩ H locs ls ih2100 ⟨hk, hcd, hcl, hlp, hks, hT, hF, hL⟩ hl
    have hl : lv_has ls 4 [(2, .int (nI k)), (0, .ref w), (1, .int 2)] := hl
    have hk : k ≤ 600 ∧ zc ≤ tn ∧ z + k < zc := hk
    have hcd : CDS cf cf9 cc l9 := hcd
    have hcl : z + l9.length ≤ zc := hcl
    have hlp : sumD B 2 z = LPB B (trmD B 2) 43 45 (-5) (-6) l9 zc := hlp
    have hks : RS D cs w H tx f co cf9 (κ w).2.2.1 tn (tkE B zc) (tkK B zc) zc (tkV B zc) ta9 tk9 (cc + l9.length) su ec es := hks
    obtain ⟨hkw, hktx, hkco⟩ := hks
    have hzE := tkE_le hY (s := zc) (by omega)
    refine lv_iload_n hx hb dX5_readSum_12 rfl (lv_at hl 0 rfl) ?_
    refine lv_sipush (v := 600) hx hb dX5_readSum_13 (by decide) ?_
    refine lv_icmp_ge (tgt := 79) hx hb dX5_readSum_16 (by decide) (fun c2101 => ?_) (fun c2101 => ?_)
    · have c2101 : 600 ≤ k := (nI_leI (a := 600) (b := k) (by omega) (by omega)).mp c2101
      exact absurd c2101 (by omega)
    · have c2101 : ¬ 600 ≤ k := fun h9 => c2101 ((nI_leI (a := 600) (b := k) (by omega) (by omega)).mpr h9)
      refine lv_aload_n hx hb dX5_readSum_19 rfl (lv_at hl 1 rfl) ?_
      refine lv_bipush (v := 43) hx hb dX5_readSum_20 (by decide) ?_
      refine cv_i (As := [.int 43]) (rest := []) (b := w) ⟨hx, hb, hml, hown, hts⟩ (c_X5_isMark hT (w := w) hw (ch := 43) (by first | omega | decide | assumption) (by first | omega | decide | assumption) (by first | omega | decide | assumption) (by first | omega | decide | assumption) ⟨hkw, hktx, hkco⟩ (by first | omega | decide | assumption)) (cwV 1 hts gX5_readSum_X5_isMark rfl rfl rfl hdX5_isMark_v ⟨Nat.le_of_ble_eq_true rfl, Nat.le_of_ble_eq_true rfl⟩) hN hE hL (rcv6 hN hT hw.1) rfl rfl hl.1 (Nat.le_of_ble_eq_true rfl) dX5_readSum_22 (Nat.zero_le _) (Nat.zero_le _) (fun r2102 H1 locs hL hqr2102 => ?_)
      obtain ⟨h9, hqr2102⟩ := hqr2102; replace h9 := h9.symm; subst h9
      rcases hqr2102 with ⟨rfl, e2103⟩ | ⟨rfl, e2104⟩
      · refine lv_if_ne (tgt := 37) hx hb dX5_readSum_25 (by decide) (fun _ => ?_) (fun c9 => absurd c9 (by decide))
        refine lv_aload_n hx hb dX5_readSum_37 rfl (lv_at hl 1 rfl) ?_
        refine lv_bipush (v := 43) hx hb dX5_readSum_38 (by decide) ?_
        refine cv_i (As := [.int 43]) (rest := []) (b := w) ⟨hx, hb, hml, hown, hts⟩ (c_X5_isMark hT (w := w) hw (ch := 43) (by first | omega | decide | assumption) (by first | omega | decide | assumption) (by first | omega | decide | assumption) (by first | omega | decide | assumption) ⟨hkw, hktx, hkco⟩ (by first | omega | decide | assumption)) (cwV 1 hts gX5_readSum_X5_isMark rfl rfl rfl hdX5_isMark_v ⟨Nat.le_of_ble_eq_true rfl, Nat.le_of_ble_eq_true rfl⟩) hN hE hL (rcv6 hN hT hw.1) rfl rfl hl.1 (Nat.le_of_ble_eq_true rfl) dX5_readSum_40 (Nat.zero_le _) (Nat.zero_le _) (fun r2105 H1 locs hL hqr2105 => ?_)
        obtain ⟨h9, hqr2105⟩ := hqr2105; replace h9 := h9.symm; subst h9
        rcases hqr2105 with ⟨rfl, e2106⟩ | ⟨rfl, e2107⟩
        · refine lv_if_eq (tgt := 51) hx hb dX5_readSum_43 (by decide) (fun c9 => absurd c9 (by decide)) (fun _ => ?_)
          refine lv_bipush (v := (-5)) hx hb dX5_readSum_46 (by decide) ?_
          refine lv_goto (tgt := 53) hx hb dX5_readSum_48 (by decide) ?_
          refine lv_istore_n (lv' := [(3, .int (-5)), (2, .int (nI k)), (0, .ref w), (1, .int 2)]) hx hb dX5_readSum_53 rfl hl (by decide) rfl (fun ls hl => ?_)
          refine lv_aload_n hx hb dX5_readSum_54 rfl (lv_at hl 2 rfl) ?_
          refine cv_v (As := []) (rest := []) (b := w) ⟨hx, hb, hml, hown, hts⟩ (c_X5_step hT (w := w) hw (by first | omega | decide | assumption) (by first | omega | decide | assumption) (by first | omega | decide | assumption) (by first | omega | decide | assumption) (by first | omega | decide | assumption) ⟨hkw, hktx, hkco⟩) (cwV 0 hts gX5_readSum_X5_step rfl rfl rfl hdX5_step_v ⟨Nat.le_of_ble_eq_true rfl, Nat.le_of_ble_eq_true rfl⟩) hN hE hL (rcv6 hN hT hw.1) rfl rfl hl.1 (Nat.le_of_ble_eq_true rfl) dX5_readSum_55 (Nat.zero_le _) (Nat.zero_le _) (fun H1 locs hL hqr2108 => ?_)
          obtain ⟨hT1, hF1, hqr2108⟩ := hqr2108
          have hF := hF.tr (hF1.mono (by simp))
          have hT := hT1
          have m2109 := hqr2108
          obtain ⟨z2110, hz2110⟩ : ∃ z9, z9 = skp B ((tkE B zc)) := ⟨_, rfl⟩
          rw [← hz2110] at m2109
          have bz2110 : z2110 ≤ tn := by rw [hz2110]; exact run_ub hY (by decide) (by omega)
          have hzE := tkE_le hY (s := z2110) (by omega)
          obtain ⟨hkw, hktx, hkco⟩ := m2109
          have hzl := mark_lt hY (by decide) e2106
          have hzz : z2110 = skp B (zc + 1) := by rw [hz2110, tkE_m hY (by decide) e2106]
          have hzb := skp_b hY (z := zc + 1) (by omega)
          rw [← hzz] at hzb
          refine lv_aload_n hx hb dX5_readSum_58 rfl (lv_at hl 2 rfl) ?_
          refine lv_iload_n hx hb dX5_readSum_59 rfl (lv_at hl 3 rfl) ?_
          refine cv_i (As := [.int 2]) (rest := []) (b := w) ⟨hx, hb, hml, hown, hts⟩ (c_X5_readTerm_d2 hT (w := w) hw (by first | omega | decide | assumption) (by first | omega | decide | assumption) (by first | omega | decide | assumption) (by first | omega | decide | assumption) ⟨hkw, hktx, hkco⟩ (by first | omega | decide | assumption)) (cwV 1 hts gX5_readSum_X5_readTerm rfl rfl rfl hdX5_readTerm_v ⟨Nat.le_of_ble_eq_true rfl, Nat.le_of_ble_eq_true rfl⟩) hN hE hL (rcv6 hN hT hw.1) rfl rfl hl.1 (Nat.le_of_ble_eq_true rfl) dX5_readSum_60 (Nat.zero_le _) (Nat.zero_le _) (fun r2111 H1 locs hL hqr2111 => ?_)
          obtain ⟨hT1, hF1, hqr2111⟩ := hqr2111
          have hF := hF.tr (hF1.mono (by simp))
          have hT := hT1
          rcases hqr2111 with ⟨rfl, l2112, q2113, f2114, t2115, k2116, e2117, u2118, v2119, b2120, c2121, m2122⟩ | ⟨rfl, c2123, o2124, e2125, x2126⟩
          · obtain ⟨hkw, hktx, hkco⟩ := m2122
            have hzE := tkE_le hY (s := q2113) (by omega)
            refine lv_if_ne (tgt := 68) hx hb dX5_readSum_63 (by decide) (fun _ => ?_) (fun c9 => absurd c9 (by decide))
            refine lv_aload_n hx hb dX5_readSum_68 rfl (lv_at hl 2 rfl) ?_
            refine lv_iload_n hx hb dX5_readSum_69 rfl (lv_at hl 0 rfl) ?_
            refine cv_v (As := [.int (-5)]) (rest := []) (b := w) ⟨hx, hb, hml, hown, hts⟩ (c_X5_putCode hT (w := w) hw (x := (-5)) (by first | omega | decide | assumption) (by first | omega | decide | assumption) (by first | omega | decide | assumption) (by first | omega | decide | assumption) ⟨hkw, hktx, hkco⟩ (by first | omega | decide | assumption)) (cwV 1 hts gX5_readSum_X5_putCode rfl rfl rfl hdX5_putCode_v ⟨Nat.le_of_ble_eq_true rfl, Nat.le_of_ble_eq_true rfl⟩) hN hE hL (rcv6 hN hT hw.1) rfl rfl hl.1 (Nat.le_of_ble_eq_true rfl) dX5_readSum_70 (Nat.zero_le _) (Nat.zero_le _) (fun H1 locs hL hqr2127 => ?_)
            obtain ⟨hT1, hF1, hqr2127⟩ := hqr2127
            have hF := hF.tr (hF1.mono (by simp))
            have hT := hT1
            have m2128 := hqr2127
            obtain ⟨hkw, hktx, hkco⟩ := m2128
            refine lv_iinc (v := (nI (k + 1))) (lv' := [(2, .int (nI (k + 1))), (3, .int (-5)), (0, .ref w), (1, .int 2)]) hx hb dX5_readSum_73 hl (k := 1) rfl (nI_add _ 1) (by decide) rfl (fun ls hl => ?_)
            refine lv_goto (tgt := 12) hx hb dX5_readSum_76 (by decide) ?_
            exact ih2100 ((k + 1), q2113, (l9 ++ l2112 ++ [(-5)]), (upd f2114 ((cc + l9.length) + l2112.length) (-5)), t2115, k2116) _ _ _ (by show 600 - ((k + 1)) < 600 - k; omega) ⟨(by show ((k + 1)) ≤ 600 ∧ (q2113) ≤ tn ∧ z + ((k + 1)) < (q2113); omega), (by have e7 : cc + l9.length + l2112.length = cc + (l9 ++ l2112).length := (by rw [List.length_append, Nat.add_assoc]); rw [e7]; exact (hcd.tr c2121).app1), (by show z + (l9 ++ l2112 ++ [(-5 : Int32)]).length ≤ q2113; have e8 : (l9 ++ l2112 ++ [(-5 : Int32)]).length = l9.length + l2112.length + 1 := (by simp only [List.length_append, List.length_cons, List.length_nil]); rw [e8]; omega), (hlp.trans (LP_c1 hY (by decide) (by decide) hpg e2106 (by rw [← hzz]; exact e2117))), (by have e8 : (l9 ++ l2112 ++ [(-5 : Int32)]).length = l9.length + l2112.length + 1 := (by simp only [List.length_append, List.length_cons, List.length_nil]); rw [e8, show cc + (l9.length + l2112.length + 1) = cc + l9.length + l2112.length + 1 by omega]; exact ⟨hkw, hktx, hkco⟩), hT, hF, hL⟩ (lv_sub hl [0, 2, 3] rfl)
          · refine lv_if_ne (tgt := 68) hx hb dX5_readSum_63 (by decide) (fun c9 => absurd (by decide) c9) (fun _ => ?_)
            refine lv_iconst (v := 0) hx hb dX5_readSum_66 (by decide) ?_
            exact en_i hx hb hr hlocks hL rfl (Nat.zero_le _) (Nat.zero_le _) dX5_readSum_67 (⟨hT, hF, Or.inr ⟨rfl, _, _, hlp.trans (LP_er (o := 0) hY (by omega) (Or.inl e2106) (by rw [← hzz]; exact e2125)), x2126⟩⟩)
        · exact absurd e2103 e2107
      · refine lv_if_ne (tgt := 37) hx hb dX5_readSum_25 (by decide) (fun c9 => absurd (by decide) c9) (fun _ => ?_)
        refine lv_aload_n hx hb dX5_readSum_28 rfl (lv_at hl 1 rfl) ?_
        refine lv_bipush (v := 45) hx hb dX5_readSum_29 (by decide) ?_
        refine cv_i (As := [.int 45]) (rest := []) (b := w) ⟨hx, hb, hml, hown, hts⟩ (c_X5_isMark hT (w := w) hw (ch := 45) (by first | omega | decide | assumption) (by first | omega | decide | assumption) (by first | omega | decide | assumption) (by first | omega | decide | assumption) ⟨hkw, hktx, hkco⟩ (by first | omega | decide | assumption)) (cwV 1 hts gX5_readSum_X5_isMark rfl rfl rfl hdX5_isMark_v ⟨Nat.le_of_ble_eq_true rfl, Nat.le_of_ble_eq_true rfl⟩) hN hE hL (rcv6 hN hT hw.1) rfl rfl hl.1 (Nat.le_of_ble_eq_true rfl) dX5_readSum_31 (Nat.zero_le _) (Nat.zero_le _) (fun r2129 H1 locs hL hqr2129 => ?_)
        obtain ⟨h9, hqr2129⟩ := hqr2129; replace h9 := h9.symm; subst h9
        rcases hqr2129 with ⟨rfl, e2130⟩ | ⟨rfl, e2131⟩
        · refine lv_if_eq (tgt := 79) hx hb dX5_readSum_34 (by decide) (fun c9 => absurd c9 (by decide)) (fun _ => ?_)
          refine lv_aload_n hx hb dX5_readSum_37 rfl (lv_at hl 1 rfl) ?_
          refine lv_bipush (v := 43) hx hb dX5_readSum_38 (by decide) ?_
          refine cv_i (As := [.int 43]) (rest := []) (b := w) ⟨hx, hb, hml, hown, hts⟩ (c_X5_isMark hT (w := w) hw (ch := 43) (by first | omega | decide | assumption) (by first | omega | decide | assumption) (by first | omega | decide | assumption) (by first | omega | decide | assumption) ⟨hkw, hktx, hkco⟩ (by first | omega | decide | assumption)) (cwV 1 hts gX5_readSum_X5_isMark rfl rfl rfl hdX5_isMark_v ⟨Nat.le_of_ble_eq_true rfl, Nat.le_of_ble_eq_true rfl⟩) hN hE hL (rcv6 hN hT hw.1) rfl rfl hl.1 (Nat.le_of_ble_eq_true rfl) dX5_readSum_40 (Nat.zero_le _) (Nat.zero_le _) (fun r2132 H1 locs hL hqr2132 => ?_)
          obtain ⟨h9, hqr2132⟩ := hqr2132; replace h9 := h9.symm; subst h9
          rcases hqr2132 with ⟨rfl, e2133⟩ | ⟨rfl, e2134⟩
          · exact absurd e2133 e2104
          · refine lv_if_eq (tgt := 51) hx hb dX5_readSum_43 (by decide) (fun _ => ?_) (fun c9 => absurd (by decide) c9)
            refine lv_bipush (v := (-6)) hx hb dX5_readSum_51 (by decide) ?_
            refine lv_istore_n (lv' := [(3, .int (-6)), (2, .int (nI k)), (0, .ref w), (1, .int 2)]) hx hb dX5_readSum_53 rfl hl (by decide) rfl (fun ls hl => ?_)
            refine lv_aload_n hx hb dX5_readSum_54 rfl (lv_at hl 2 rfl) ?_
            refine cv_v (As := []) (rest := []) (b := w) ⟨hx, hb, hml, hown, hts⟩ (c_X5_step hT (w := w) hw (by first | omega | decide | assumption) (by first | omega | decide | assumption) (by first | omega | decide | assumption) (by first | omega | decide | assumption) (by first | omega | decide | assumption) ⟨hkw, hktx, hkco⟩) (cwV 0 hts gX5_readSum_X5_step rfl rfl rfl hdX5_step_v ⟨Nat.le_of_ble_eq_true rfl, Nat.le_of_ble_eq_true rfl⟩) hN hE hL (rcv6 hN hT hw.1) rfl rfl hl.1 (Nat.le_of_ble_eq_true rfl) dX5_readSum_55 (Nat.zero_le _) (Nat.zero_le _) (fun H1 locs hL hqr2135 => ?_)
            obtain ⟨hT1, hF1, hqr2135⟩ := hqr2135
            have hF := hF.tr (hF1.mono (by simp))
            have hT := hT1
            have m2136 := hqr2135
            obtain ⟨z2137, hz2137⟩ : ∃ z9, z9 = skp B ((tkE B zc)) := ⟨_, rfl⟩
            rw [← hz2137] at m2136
            have bz2137 : z2137 ≤ tn := by rw [hz2137]; exact run_ub hY (by decide) (by omega)
            have hzE := tkE_le hY (s := z2137) (by omega)
            obtain ⟨hkw, hktx, hkco⟩ := m2136
            have hzl := mark_lt hY (by decide) e2130
            have hzz : z2137 = skp B (zc + 1) := by rw [hz2137, tkE_m hY (by decide) e2130]
            have hzb := skp_b hY (z := zc + 1) (by omega)
            rw [← hzz] at hzb
            refine lv_aload_n hx hb dX5_readSum_58 rfl (lv_at hl 2 rfl) ?_
            refine lv_iload_n hx hb dX5_readSum_59 rfl (lv_at hl 3 rfl) ?_
            refine cv_i (As := [.int 2]) (rest := []) (b := w) ⟨hx, hb, hml, hown, hts⟩ (c_X5_readTerm_d2 hT (w := w) hw (by first | omega | decide | assumption) (by first | omega | decide | assumption) (by first | omega | decide | assumption) (by first | omega | decide | assumption) ⟨hkw, hktx, hkco⟩ (by first | omega | decide | assumption)) (cwV 1 hts gX5_readSum_X5_readTerm rfl rfl rfl hdX5_readTerm_v ⟨Nat.le_of_ble_eq_true rfl, Nat.le_of_ble_eq_true rfl⟩) hN hE hL (rcv6 hN hT hw.1) rfl rfl hl.1 (Nat.le_of_ble_eq_true rfl) dX5_readSum_60 (Nat.zero_le _) (Nat.zero_le _) (fun r2138 H1 locs hL hqr2138 => ?_)
            obtain ⟨hT1, hF1, hqr2138⟩ := hqr2138
            have hF := hF.tr (hF1.mono (by simp))
            have hT := hT1
            rcases hqr2138 with ⟨rfl, l2139, q2140, f2141, t2142, k2143, e2144, u2145, v2146, b2147, c2148, m2149⟩ | ⟨rfl, c2150, o2151, e2152, x2153⟩
            · obtain ⟨hkw, hktx, hkco⟩ := m2149
              have hzE := tkE_le hY (s := q2140) (by omega)
              refine lv_if_ne (tgt := 68) hx hb dX5_readSum_63 (by decide) (fun _ => ?_) (fun c9 => absurd c9 (by decide))
              refine lv_aload_n hx hb dX5_readSum_68 rfl (lv_at hl 2 rfl) ?_
              refine lv_iload_n hx hb dX5_readSum_69 rfl (lv_at hl 0 rfl) ?_
              refine cv_v (As := [.int (-6)]) (rest := []) (b := w) ⟨hx, hb, hml, hown, hts⟩ (c_X5_putCode hT (w := w) hw (x := (-6)) (by first | omega | decide | assumption) (by first | omega | decide | assumption) (by first | omega | decide | assumption) (by first | omega | decide | assumption) ⟨hkw, hktx, hkco⟩ (by first | omega | decide | assumption)) (cwV 1 hts gX5_readSum_X5_putCode rfl rfl rfl hdX5_putCode_v ⟨Nat.le_of_ble_eq_true rfl, Nat.le_of_ble_eq_true rfl⟩) hN hE hL (rcv6 hN hT hw.1) rfl rfl hl.1 (Nat.le_of_ble_eq_true rfl) dX5_readSum_70 (Nat.zero_le _) (Nat.zero_le _) (fun H1 locs hL hqr2154 => ?_)
              obtain ⟨hT1, hF1, hqr2154⟩ := hqr2154
              have hF := hF.tr (hF1.mono (by simp))
              have hT := hT1
              have m2155 := hqr2154
              obtain ⟨hkw, hktx, hkco⟩ := m2155
              refine lv_iinc (v := (nI (k + 1))) (lv' := [(2, .int (nI (k + 1))), (3, .int (-6)), (0, .ref w), (1, .int 2)]) hx hb dX5_readSum_73 hl (k := 1) rfl (nI_add _ 1) (by decide) rfl (fun ls hl => ?_)
              refine lv_goto (tgt := 12) hx hb dX5_readSum_76 (by decide) ?_
              exact ih2100 ((k + 1), q2140, (l9 ++ l2139 ++ [(-6)]), (upd f2141 ((cc + l9.length) + l2139.length) (-6)), t2142, k2143) _ _ _ (by show 600 - ((k + 1)) < 600 - k; omega) ⟨(by show ((k + 1)) ≤ 600 ∧ (q2140) ≤ tn ∧ z + ((k + 1)) < (q2140); omega), (by have e7 : cc + l9.length + l2139.length = cc + (l9 ++ l2139).length := (by rw [List.length_append, Nat.add_assoc]); rw [e7]; exact (hcd.tr c2148).app1), (by show z + (l9 ++ l2139 ++ [(-6 : Int32)]).length ≤ q2140; have e8 : (l9 ++ l2139 ++ [(-6 : Int32)]).length = l9.length + l2139.length + 1 := (by simp only [List.length_append, List.length_cons, List.length_nil]); rw [e8]; omega), (hlp.trans (LP_c2 hY (by decide) (by decide) hpg e2134 e2130 (by rw [← hzz]; exact e2144))), (by have e8 : (l9 ++ l2139 ++ [(-6 : Int32)]).length = l9.length + l2139.length + 1 := (by simp only [List.length_append, List.length_cons, List.length_nil]); rw [e8, show cc + (l9.length + l2139.length + 1) = cc + l9.length + l2139.length + 1 by omega]; exact ⟨hkw, hktx, hkco⟩), hT, hF, hL⟩ (lv_sub hl [0, 2, 3] rfl)
            · refine lv_if_ne (tgt := 68) hx hb dX5_readSum_63 (by decide) (fun c9 => absurd (by decide) c9) (fun _ => ?_)
              refine lv_iconst (v := 0) hx hb dX5_readSum_66 (by decide) ?_
              exact en_i hx hb hr hlocks hL rfl (Nat.zero_le _) (Nat.zero_le _) dX5_readSum_67 (⟨hT, hF, Or.inr ⟨rfl, _, _, hlp.trans (LP_er (o := 0) hY (by omega) (Or.inr ⟨e2134, e2130⟩) (by rw [← hzz]; exact e2152)), x2153⟩⟩)
        · refine lv_if_eq (tgt := 79) hx hb dX5_readSum_34 (by decide) (fun _ => ?_) (fun c9 => absurd (by decide) c9)
          refine lv_iconst (v := 1) hx hb dX5_readSum_79 (by decide) ?_
          exact en_i hx hb hr hlocks hL rfl (Nat.zero_le _) (Nat.zero_le _) dX5_readSum_80 (⟨hT, hF, Or.inl ⟨rfl, l9, zc, _, _, _, hlp.trans (LP_no e2104 e2131), (by omega), (by omega), (by omega), hcd, ⟨hkw, hktx, hkco⟩⟩⟩)
  · refine lv_if_ne (tgt := 10) hx hb dX5_readSum_5 (by decide) (fun c9 => absurd (by decide) c9) (fun _ => ?_)
    refine lv_iconst (v := 0) hx hb dX5_readSum_8 (by decide) ?_
    exact en_i hx hb hr hlocks hL rfl (Nat.zero_le _) (Nat.zero_le _) dX5_readSum_9 (⟨hT, hF, Or.inr ⟨rfl, _, _, (hfd z).trans (many_er e2098), x2099⟩⟩)
