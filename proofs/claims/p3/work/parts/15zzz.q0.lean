set_option maxHeartbeats 4000000 in
set_option maxRecDepth 100000 in
theorem c_X9_factor_db {l : Launch} {D : va_G} {cs : Nat → ClassId} {B0 T : Nat} {κ : KM} {H0 : Heap} (hT : WT B0 D cs T κ H0) {w : Nat} (hw : T2 κ w 10 12) {pos tl : Nat} {er ns : Int32} {dr bu : Nat} {g : Nat → Int32} (hbT : T2 κ bu 23 14) (hdT : T2 κ dr 26 17) (hm : MF D cs w H0 pos tl er ns dr bu g) (hbad : er ≠ 0) : KC l yX9_factor wsX9_factor 1 20 0 0 D cs B0 H0 [.ref w] (Qv (fun H => H = H0 ∧ True)) := by
  refine KC.of cX9_factor 4 none (by decide) rfl (Nat.le_of_ble_eq_true rfl) ?_
  intro p e s m below meth c ls hx hb hr hml hown hts hlocks hin hN hE hH0 hl
  have hown : s.vm.findClass RX9 = some m.cls := hown
  have hl : lv_has ls 4 [(0, .ref w)] := hl
  have hL : OkL B0 [] := OkL.nil
  have hm8 := hm.2.2.2.2.2.2.2
  refine lv_aload_n hx hb dX9_factor_0 rfl (lv_at hl 0 rfl) ?_
  refine cv_i (As := []) (rest := []) (b := w) ⟨hx, hb, hml, hown, hts⟩ (c_X9_isGood hT (w := w) hw hbT hdT hm) (cwV 0 hts gX9_factor_X9_isGood rfl rfl rfl hdX9_isGood_v ⟨Nat.le_of_ble_eq_true rfl, Nat.le_of_ble_eq_true rfl⟩) hN hE hL (rcv10 hN hT hw.1) rfl rfl hl.1 (Nat.le_of_ble_eq_true rfl) dX9_factor_1 (Nat.zero_le _) (Nat.zero_le _) (fun r2056 H1 locs hL hqr2056 => ?_)
  obtain ⟨h9, hqr2056⟩ := hqr2056; replace h9 := h9.symm; subst h9
  rcases hqr2056 with ⟨rfl, e2057⟩ | ⟨rfl, e2058⟩
  · exact absurd e2057 hbad
  · refine lv_if_ne (tgt := 8) hx hb dX9_factor_4 (by decide) (fun c9 => absurd (by decide) c9) (fun _ => ?_)
    exact en_v hx hb hr hlocks hL (Nat.zero_le _) (Nat.zero_le _) dX9_factor_7 (⟨rfl, trivial⟩)
theorem hdX9_factor_v : yX9_factor.cls = RX9 ∧ yX9_factor.cls ≠ "java/lang/invoke/MethodHandle" ∧ yX9_factor.cls ≠ "java/lang/invoke/VarHandle" ∧ (parseMethodDescriptor yX9_factor.desc).map (fun d => d.parameters.length) = some 0 := by decide +kernel
set_option maxHeartbeats 4000000 in
set_option maxRecDepth 100000 in
theorem c_X9_term_db {l : Launch} {D : va_G} {cs : Nat → ClassId} {B0 T : Nat} {κ : KM} {H0 : Heap} (hT : WT B0 D cs T κ H0) {w : Nat} (hw : T2 κ w 10 12) {pos tl : Nat} {er ns : Int32} {dr bu : Nat} {g : Nat → Int32} (hbT : T2 κ bu 23 14) (hdT : T2 κ dr 26 17) (hm : MF D cs w H0 pos tl er ns dr bu g) (hbad : er ≠ 0) : KC l yX9_term wsX9_term 2 43 0 0 D cs B0 H0 [.ref w] (Qv (fun H => H = H0 ∧ True)) := by
  refine KC.of cX9_term 2 none (by decide) rfl (Nat.le_of_ble_eq_true rfl) ?_
  intro p e s m below meth c ls hx hb hr hml hown hts hlocks hin hN hE hH0 hl
  have hown : s.vm.findClass RX9 = some m.cls := hown
  have hl : lv_has ls 2 [(0, .ref w)] := hl
  have hL : OkL B0 [] := OkL.nil
  have hm8 := hm.2.2.2.2.2.2.2
  refine lv_aload_n hx hb dX9_term_0 rfl (lv_at hl 0 rfl) ?_
  refine cv_v (As := []) (rest := []) (b := w) ⟨hx, hb, hml, hown, hts⟩ (c_X9_factor_db hT (w := w) hw hbT hdT hm (by first | omega | decide | assumption)) (cwV 0 hts gX9_term_X9_factor rfl rfl rfl hdX9_factor_v ⟨Nat.le_of_ble_eq_true rfl, Nat.le_of_ble_eq_true rfl⟩) hN hE hL (rcv10 hN hT hw.1) rfl rfl hl.1 (Nat.le_of_ble_eq_true rfl) dX9_term_1 (Nat.zero_le _) (Nat.zero_le _) (fun H1 locs hL hqr2059 => ?_)
  obtain ⟨h9, hqr2059⟩ := hqr2059; replace h9 := h9.symm; subst h9
  refine lv_aload_n hx hb dX9_term_4 rfl (lv_at hl 0 rfl) ?_
  refine cv_i (As := []) (rest := []) (b := w) ⟨hx, hb, hml, hown, hts⟩ (c_X9_isGood hT (w := w) hw hbT hdT hm) (cwV 0 hts gX9_term_X9_isGood rfl rfl rfl hdX9_isGood_v ⟨Nat.le_of_ble_eq_true rfl, Nat.le_of_ble_eq_true rfl⟩) hN hE hL (rcv10 hN hT hw.1) rfl rfl hl.1 (Nat.le_of_ble_eq_true rfl) dX9_term_5 (Nat.zero_le _) (Nat.zero_le _) (fun r2060 H1 locs hL hqr2060 => ?_)
  obtain ⟨h9, hqr2060⟩ := hqr2060; replace h9 := h9.symm; subst h9
  rcases hqr2060 with ⟨rfl, e2061⟩ | ⟨rfl, e2062⟩
  · exact absurd e2061 hbad
  · refine lv_if_eq (tgt := 74) hx hb dX9_term_8 (by decide) (fun _ => ?_) (fun c9 => absurd (by decide) c9)
    exact en_v hx hb hr hlocks hL (Nat.zero_le _) (Nat.zero_le _) dX9_term_74 (⟨rfl, trivial⟩)
theorem hdX9_term_v : yX9_term.cls = RX9 ∧ yX9_term.cls ≠ "java/lang/invoke/MethodHandle" ∧ yX9_term.cls ≠ "java/lang/invoke/VarHandle" ∧ (parseMethodDescriptor yX9_term.desc).map (fun d => d.parameters.length) = some 0 := by decide +kernel
set_option maxHeartbeats 4000000 in
set_option maxRecDepth 100000 in
theorem c_X9_readSum_db {l : Launch} {D : va_G} {cs : Nat → ClassId} {B0 T : Nat} {κ : KM} {H0 : Heap} (hT : WT B0 D cs T κ H0) {w : Nat} (hw : T2 κ w 10 12) {pos tl : Nat} {er ns : Int32} {dr bu : Nat} {g : Nat → Int32} (hbT : T2 κ bu 23 14) (hdT : T2 κ dr 26 17) (hm : MF D cs w H0 pos tl er ns dr bu g) (hbad : er ≠ 0) : KC l yX9_readSum wsX9_readSum 3 64 0 0 D cs B0 H0 [.ref w] (Qv (fun H => H = H0 ∧ True)) := by
  refine KC.of cX9_readSum 2 none (by decide) rfl (Nat.le_of_ble_eq_true rfl) ?_
  intro p e s m below meth c ls hx hb hr hml hown hts hlocks hin hN hE hH0 hl
  have hown : s.vm.findClass RX9 = some m.cls := hown
  have hl : lv_has ls 2 [(0, .ref w)] := hl
  have hL : OkL B0 [] := OkL.nil
  have hm8 := hm.2.2.2.2.2.2.2
  refine lv_aload_n hx hb dX9_readSum_0 rfl (lv_at hl 0 rfl) ?_
  refine cv_v (As := []) (rest := []) (b := w) ⟨hx, hb, hml, hown, hts⟩ (c_X9_term_db hT (w := w) hw hbT hdT hm (by first | omega | decide | assumption)) (cwV 0 hts gX9_readSum_X9_term rfl rfl rfl hdX9_term_v ⟨Nat.le_of_ble_eq_true rfl, Nat.le_of_ble_eq_true rfl⟩) hN hE hL (rcv10 hN hT hw.1) rfl rfl hl.1 (Nat.le_of_ble_eq_true rfl) dX9_readSum_1 (Nat.zero_le _) (Nat.zero_le _) (fun H1 locs hL hqr2063 => ?_)
  obtain ⟨h9, hqr2063⟩ := hqr2063; replace h9 := h9.symm; subst h9
  refine lv_aload_n hx hb dX9_readSum_4 rfl (lv_at hl 0 rfl) ?_
  refine cv_i (As := []) (rest := []) (b := w) ⟨hx, hb, hml, hown, hts⟩ (c_X9_isGood hT (w := w) hw hbT hdT hm) (cwV 0 hts gX9_readSum_X9_isGood rfl rfl rfl hdX9_isGood_v ⟨Nat.le_of_ble_eq_true rfl, Nat.le_of_ble_eq_true rfl⟩) hN hE hL (rcv10 hN hT hw.1) rfl rfl hl.1 (Nat.le_of_ble_eq_true rfl) dX9_readSum_5 (Nat.zero_le _) (Nat.zero_le _) (fun r2064 H1 locs hL hqr2064 => ?_)
  obtain ⟨h9, hqr2064⟩ := hqr2064; replace h9 := h9.symm; subst h9
  rcases hqr2064 with ⟨rfl, e2065⟩ | ⟨rfl, e2066⟩
  · exact absurd e2065 hbad
  · refine lv_if_eq (tgt := 74) hx hb dX9_readSum_8 (by decide) (fun _ => ?_) (fun c9 => absurd (by decide) c9)
    exact en_v hx hb hr hlocks hL (Nat.zero_le _) (Nat.zero_le _) dX9_readSum_74 (⟨rfl, trivial⟩)
theorem hdX9_takeWord_v : yX9_takeWord.cls = RX9 ∧ yX9_takeWord.cls ≠ "java/lang/invoke/MethodHandle" ∧ yX9_takeWord.cls ≠ "java/lang/invoke/VarHandle" ∧ (parseMethodDescriptor yX9_takeWord.desc).map (fun d => d.parameters.length) = some 1 := by decide +kernel
theorem hdX9_number_v : yX9_number.cls = RX9 ∧ yX9_number.cls ≠ "java/lang/invoke/MethodHandle" ∧ yX9_number.cls ≠ "java/lang/invoke/VarHandle" ∧ (parseMethodDescriptor yX9_number.desc).map (fun d => d.parameters.length) = some 2 := by decide +kernel
theorem hdX9_emit_v : yX9_emit.cls = RX9 ∧ yX9_emit.cls ≠ "java/lang/invoke/MethodHandle" ∧ yX9_emit.cls ≠ "java/lang/invoke/VarHandle" ∧ (parseMethodDescriptor yX9_emit.desc).map (fun d => d.parameters.length) = some 1 := by decide +kernel
theorem mX9_factor_1 : (.fieldLink RX9 102 "OneBeatModel" "nesting" "I" : Cond) ∈ wsX9_factor := List.mem_of_getElem? (i := 1) (by decide +kernel)
theorem iX9_factor_9 : ∀ w ∈ wsX90, w ∈ wsX9_factor := fun w h => List.mem_of_mem_drop (List.mem_of_mem_take ((show wsX90 = (wsX9_factor.drop 112).take 18 by decide +kernel) ▸ h))
theorem mX9_factor_2 : (.fieldLink RX9 53 "OneBeatModel" "position" "I" : Cond) ∈ wsX9_factor := List.mem_of_getElem? (i := 2) (by decide +kernel)
theorem hdX9_readSum_v : yX9_readSum.cls = RX9 ∧ yX9_readSum.cls ≠ "java/lang/invoke/MethodHandle" ∧ yX9_readSum.cls ≠ "java/lang/invoke/VarHandle" ∧ (parseMethodDescriptor yX9_readSum.desc).map (fun d => d.parameters.length) = some 0 := by decide +kernel
theorem hdX9_expect_v : yX9_expect.cls = RX9 ∧ yX9_expect.cls ≠ "java/lang/invoke/MethodHandle" ∧ yX9_expect.cls ≠ "java/lang/invoke/VarHandle" ∧ (parseMethodDescriptor yX9_expect.desc).map (fun d => d.parameters.length) = some 1 := by decide +kernel
set_option maxHeartbeats 4000000 in
set_option maxRecDepth 100000 in
theorem c_X9_factor_d4 {l : Launch} {D : va_G} {cs : Nat → ClassId} {B0 T : Nat} {κ : KM} {H0 : Heap} (hT : WT B0 D cs T κ H0) {w : Nat} (hw : T2 κ w 10 12) {pos tl : Nat} {er : Int32} {dr bu : Nat} {g : Nat → Int32} {N h : Nat} (hbT : T2 κ bu 23 14) (hdT : T2 κ dr 26 17) (hps : PS D cs w H0 pos tl er 4 dr bu g N h) : KC l yX9_factor wsX9_factor 5 107 0 0 D cs B0 H0 [.ref w] (Qv (fun H => WT B0 D cs T κ H ∧ Fr B0 [12, 17] κ H0 H ∧ ∃ N1 pos1 er1, N1 + 2 * pos ≤ N + 2 * pos1 ∧ pos ≤ pos1 ∧ (er1 = 0 → er = 0) ∧ PS D cs w H pos1 tl er1 4 dr bu g N1 (h + 1))) := by
  refine KC.of cX9_factor 4 none (by decide) rfl (Nat.le_of_ble_eq_true rfl) ?_
  intro p e s m below meth c ls hx hb hr hml hown hts hlocks hin hN hE hH0 hl
  have hown : s.vm.findClass RX9 = some m.cls := hown
  have hl : lv_has ls 4 [(0, .ref w)] := hl
  have hL : OkL B0 [] := OkL.nil
  have hF : Fr B0 [12, 17] κ H0 H0 := Fr.rf
  obtain ⟨hm, f2067, hd2067, e2067, n2067, v2067⟩ := hps
  have hm8 := hm.2.2.2.2.2.2.2
  have hbd : B0 ≤ dr := (hT.o26 hdT.1).1
  have hDR := hT.dr hdT hd2067
  have hP : va_P D vwCl [(dr, .inl (cs 0, 1383, .inl f2067))] _ := va_P.cons hd2067 va_P.nil
  refine lv_aload_n hx hb dX9_factor_0 rfl (lv_at hl 0 rfl) ?_
  refine cv_i (As := []) (rest := []) (b := w) ⟨hx, hb, hml, hown, hts⟩ (c_X9_isGood hT (w := w) hw hbT hdT hm) (cwV 0 hts gX9_factor_X9_isGood rfl rfl rfl hdX9_isGood_v ⟨Nat.le_of_ble_eq_true rfl, Nat.le_of_ble_eq_true rfl⟩) hN hE hL (rcv10 hN hT hw.1) rfl rfl hl.1 (Nat.le_of_ble_eq_true rfl) dX9_factor_1 (Nat.zero_le _) (Nat.zero_le _) (fun r2069 H1 locs hL hqr2069 => ?_)
  obtain ⟨h9, hqr2069⟩ := hqr2069; replace h9 := h9.symm; subst h9
  rcases hqr2069 with ⟨rfl, e2070⟩ | ⟨rfl, e2071⟩
  · refine lv_if_ne (tgt := 8) hx hb dX9_factor_4 (by decide) (fun _ => ?_) (fun c9 => absurd c9 (by decide))
    refine lv_aload_n hx hb dX9_factor_8 rfl (lv_at hl 0 rfl) ?_
    refine cv_i (As := []) (rest := []) (b := w) ⟨hx, hb, hml, hown, hts⟩ (c_X9_ahead hT (w := w) hw hbT hdT hm) (cwV 0 hts gX9_factor_X9_ahead rfl rfl rfl hdX9_ahead_v ⟨Nat.le_of_ble_eq_true rfl, Nat.le_of_ble_eq_true rfl⟩) hN hE hL (rcv10 hN hT hw.1) rfl rfl hl.1 (Nat.le_of_ble_eq_true rfl) dX9_factor_9 (Nat.zero_le _) (Nat.zero_le _) (fun r2072 H1 locs hL hqr2072 => ?_)
    obtain ⟨hT1, hF1, hqr2072⟩ := hqr2072
    have hP : va_P D vwCl [(dr, .inl (cs 0, 1383, .inl f2067))] _ := hF1.hP (hP.sub [0] rfl) (fa_c ⟨by rw [hdT.1]; decide, by rw [hdT.2]; first | decide | (simp; done) | (simp [h15a, h15b, h15c]; done) | (simp; omega)⟩ fa_n)
    have hF := hF.tr (hF1.mono (by simp))
    have hT := hT1
    obtain ⟨p2073, h2074, m2075, n2076, s2077, rfl⟩ := hqr2072
    have hm := m2075
    have hm8 := hm.2.2.2.2.2.2.2
    refine lv_istore_n (lv' := [(1, .int (byF g tl p2073)), (0, .ref w)]) hx hb dX9_factor_12 rfl hl (by decide) rfl (fun ls hl => ?_)
    refine lv_iload_n hx hb dX9_factor_13 rfl (lv_at hl 0 rfl) ?_
    refine lv_bipush (v := 40) hx hb dX9_factor_14 (by decide) ?_
    refine lv_icmp_ne (tgt := 78) hx hb dX9_factor_16 (by decide) (fun c2078 => ?_) (fun c2078 => ?_)
    · refine lv_iload_n hx hb dX9_factor_78 rfl (lv_at hl 0 rfl) ?_
      refine cs_i (As := [.int (byF g tl p2073)]) (rest := []) ⟨hx, hb, hml, hown, hts⟩ (c_X9_isDigit hT (x := (byF g tl p2073))) (va_cwS 1 hts gX9_factor_X9_isDigit rfl rfl rfl hdX9_isDigit_o ⟨Nat.le_of_ble_eq_true rfl, Nat.le_of_ble_eq_true rfl⟩) hN hE hL rfl rfl hl.1 (Nat.le_of_ble_eq_true rfl) dX9_factor_79 (Nat.zero_le _) (Nat.zero_le _) (fun r2079 H1 locs hL hqr2079 => ?_)
      obtain ⟨h9, hqr2079⟩ := hqr2079; replace h9 := h9.symm; subst h9
      rcases hqr2079 with ⟨rfl, o2080⟩ | ⟨rfl, l2081, g2082⟩
      · refine lv_if_eq (tgt := 89) hx hb dX9_factor_82 (by decide) (fun _ => ?_) (fun c9 => absurd (by decide) c9)
        refine lv_aload_n hx hb dX9_factor_89 rfl (lv_at hl 1 rfl) ?_
        refine va_ldcS hx hb hown (hN.s 19 rfl) dX9_factor_90 ?_
        refine cv_i (As := [.ref (cs 119)]) (rest := []) (b := w) ⟨hx, hb, hml, hown, hts⟩ (c_X9_takeWord hT (w := w) hw (i := 19) (by decide) hbT hdT hm) (cwV 1 hts gX9_factor_X9_takeWord rfl rfl rfl hdX9_takeWord_v ⟨Nat.le_of_ble_eq_true rfl, Nat.le_of_ble_eq_true rfl⟩) hN hE hL (rcv10 hN hT hw.1) rfl rfl hl.1 (Nat.le_of_ble_eq_true rfl) dX9_factor_92 (Nat.zero_le _) (Nat.zero_le _) (fun r2083 H1 locs hL hqr2083 => ?_)
        obtain ⟨hT1, hF1, hqr2083⟩ := hqr2083
        have hP : va_P D vwCl [(dr, .inl (cs 0, 1383, .inl f2067))] _ := hF1.hP (hP.sub [0] rfl) (fa_c ⟨by rw [hdT.1]; decide, by rw [hdT.2]; first | decide | (simp; done) | (simp [h15a, h15b, h15c]; done) | (simp; omega)⟩ fa_n)
        have hF := hF.tr (hF1.mono (by simp))
        have hT := hT1
        rcases hqr2083 with ⟨rfl, p2084, h2085, m2086⟩ | ⟨rfl, p2087, q2088, e2089, m2090⟩
        · have hm := m2086
          have hm8 := hm.2.2.2.2.2.2.2
          refine lv_if_eq (tgt := 102) hx hb dX9_factor_95 (by decide) (fun _ => ?_) (fun c9 => absurd (by decide) c9)
          refine lv_aload_n hx hb dX9_factor_102 rfl (lv_at hl 1 rfl) ?_
          refine va_ldcS hx hb hown (hN.s 25 rfl) dX9_factor_103 ?_
          refine cv_i (As := [.ref (cs 125)]) (rest := []) (b := w) ⟨hx, hb, hml, hown, hts⟩ (c_X9_takeWord hT (w := w) hw (i := 25) (by decide) hbT hdT hm) (cwV 1 hts gX9_factor_X9_takeWord rfl rfl rfl hdX9_takeWord_v ⟨Nat.le_of_ble_eq_true rfl, Nat.le_of_ble_eq_true rfl⟩) hN hE hL (rcv10 hN hT hw.1) rfl rfl hl.1 (Nat.le_of_ble_eq_true rfl) dX9_factor_105 (Nat.zero_le _) (Nat.zero_le _) (fun r2091 H1 locs hL hqr2091 => ?_)
          obtain ⟨hT1, hF1, hqr2091⟩ := hqr2091
          have hP : va_P D vwCl [(dr, .inl (cs 0, 1383, .inl f2067))] _ := hF1.hP (hP.sub [0] rfl) (fa_c ⟨by rw [hdT.1]; decide, by rw [hdT.2]; first | decide | (simp; done) | (simp [h15a, h15b, h15c]; done) | (simp; omega)⟩ fa_n)
          have hF := hF.tr (hF1.mono (by simp))
          have hT := hT1
          rcases hqr2091 with ⟨rfl, p2092, h2093, m2094⟩ | ⟨rfl, p2095, q2096, e2097, m2098⟩
          · have hm := m2094
            have hm8 := hm.2.2.2.2.2.2.2
            refine lv_if_eq (tgt := 115) hx hb dX9_factor_108 (by decide) (fun _ => ?_) (fun c9 => absurd (by decide) c9)
            refine lv_aload_n hx hb dX9_factor_115 rfl (lv_at hl 1 rfl) ?_
            refine va_ldcS hx hb hown (hN.s 26 rfl) dX9_factor_116 ?_
            refine cv_i (As := [.ref (cs 126)]) (rest := []) (b := w) ⟨hx, hb, hml, hown, hts⟩ (c_X9_takeWord hT (w := w) hw (i := 26) (by decide) hbT hdT hm) (cwV 1 hts gX9_factor_X9_takeWord rfl rfl rfl hdX9_takeWord_v ⟨Nat.le_of_ble_eq_true rfl, Nat.le_of_ble_eq_true rfl⟩) hN hE hL (rcv10 hN hT hw.1) rfl rfl hl.1 (Nat.le_of_ble_eq_true rfl) dX9_factor_118 (Nat.zero_le _) (Nat.zero_le _) (fun r2099 H1 locs hL hqr2099 => ?_)
            obtain ⟨hT1, hF1, hqr2099⟩ := hqr2099
            have hP : va_P D vwCl [(dr, .inl (cs 0, 1383, .inl f2067))] _ := hF1.hP (hP.sub [0] rfl) (fa_c ⟨by rw [hdT.1]; decide, by rw [hdT.2]; first | decide | (simp; done) | (simp [h15a, h15b, h15c]; done) | (simp; omega)⟩ fa_n)
            have hF := hF.tr (hF1.mono (by simp))
            have hT := hT1
            rcases hqr2099 with ⟨rfl, p2100, h2101, m2102⟩ | ⟨rfl, p2103, q2104, e2105, m2106⟩
            · have hm := m2102
              have hm8 := hm.2.2.2.2.2.2.2
              refine lv_if_eq (tgt := 128) hx hb dX9_factor_121 (by decide) (fun _ => ?_) (fun c9 => absurd (by decide) c9)
              refine lv_aload_n hx hb dX9_factor_128 rfl (lv_at hl 1 rfl) ?_
              refine va_ldcS hx hb hown (hN.s 27 rfl) dX9_factor_129 ?_
              refine cv_i (As := [.ref (cs 127)]) (rest := []) (b := w) ⟨hx, hb, hml, hown, hts⟩ (c_X9_takeWord hT (w := w) hw (i := 27) (by decide) hbT hdT hm) (cwV 1 hts gX9_factor_X9_takeWord rfl rfl rfl hdX9_takeWord_v ⟨Nat.le_of_ble_eq_true rfl, Nat.le_of_ble_eq_true rfl⟩) hN hE hL (rcv10 hN hT hw.1) rfl rfl hl.1 (Nat.le_of_ble_eq_true rfl) dX9_factor_131 (Nat.zero_le _) (Nat.zero_le _) (fun r2107 H1 locs hL hqr2107 => ?_)
              obtain ⟨hT1, hF1, hqr2107⟩ := hqr2107
              have hP : va_P D vwCl [(dr, .inl (cs 0, 1383, .inl f2067))] _ := hF1.hP (hP.sub [0] rfl) (fa_c ⟨by rw [hdT.1]; decide, by rw [hdT.2]; first | decide | (simp; done) | (simp [h15a, h15b, h15c]; done) | (simp; omega)⟩ fa_n)
              have hF := hF.tr (hF1.mono (by simp))
              have hT := hT1
              rcases hqr2107 with ⟨rfl, p2108, h2109, m2110⟩ | ⟨rfl, p2111, q2112, e2113, m2114⟩
              · have hm := m2110
                have hm8 := hm.2.2.2.2.2.2.2
                refine lv_if_eq (tgt := 141) hx hb dX9_factor_134 (by decide) (fun _ => ?_) (fun c9 => absurd (by decide) c9)
                refine lv_iconst (v := (-1)) hx hb dX9_factor_141 (by decide) ?_
                refine lv_istore_n (lv' := [(2, .int (-1)), (1, .int (byF g tl p2073)), (0, .ref w)]) hx hb dX9_factor_142 rfl hl (by decide) rfl (fun ls hl => ?_)
                refine lv_iload_n hx hb dX9_factor_143 rfl (lv_at hl 0 rfl) ?_
                refine lv_if_ge (tgt := 158) hx hb dX9_factor_144 (by decide) (fun c9 => absurd c9 (by decide)) (fun _ => ?_)
                refine lv_aload_n hx hb dX9_factor_147 rfl (lv_at hl 2 rfl) ?_
                refine lv_iconst (v := 0) hx hb dX9_factor_148 (by decide) ?_
                refine lv_sipush (v := 9999) hx hb dX9_factor_149 (by decide) ?_
                refine cv_i (As := [.int 0, .int 9999]) (rest := []) (b := w) ⟨hx, hb, hml, hown, hts⟩ (c_X9_number hT (w := w) hw (x := 0) (y := 9999) hbT hdT hm) (cwV 2 hts gX9_factor_X9_number rfl rfl rfl hdX9_number_v ⟨Nat.le_of_ble_eq_true rfl, Nat.le_of_ble_eq_true rfl⟩) hN hE hL (rcv10 hN hT hw.1) rfl rfl hl.1 (Nat.le_of_ble_eq_true rfl) dX9_factor_152 (Nat.zero_le _) (Nat.zero_le _) (fun r2115 H1 locs hL hqr2115 => ?_)
                obtain ⟨hT1, hF1, hqr2115⟩ := hqr2115
                have hP : va_P D vwCl [(dr, .inl (cs 0, 1383, .inl f2067))] _ := hF1.hP (hP.sub [0] rfl) (fa_c ⟨by rw [hdT.1]; decide, by rw [hdT.2]; first | decide | (simp; done) | (simp [h15a, h15b, h15c]; done) | (simp; omega)⟩ fa_n)
                have hF := hF.tr (hF1.mono (by simp))
                have hT := hT1
                obtain ⟨p2116, er2117, a2118, z2119, m2120, q2121⟩ := hqr2115
                have hm := m2120
                have hm8 := hm.2.2.2.2.2.2.2
                refine lv_goto (tgt := 159) hx hb dX9_factor_155 (by decide) ?_
                refine lv_istore_n (lv' := [(3, .int r2115), (2, .int (-1)), (1, .int (byF g tl p2073)), (0, .ref w)]) hx hb dX9_factor_159 rfl hl (by decide) rfl (fun ls hl => ?_)
                refine lv_aload_n hx hb dX9_factor_160 rfl (lv_at hl 3 rfl) ?_
                refine lv_iload_n hx hb dX9_factor_161 rfl (lv_at hl 1 rfl) ?_
                refine lv_if_ge (tgt := 169) hx hb dX9_factor_162 (by decide) (fun c9 => absurd c9 (by decide)) (fun _ => ?_)
                refine lv_iconst (v := 0) hx hb dX9_factor_165 (by decide) ?_
                refine lv_goto (tgt := 170) hx hb dX9_factor_166 (by decide) ?_
                refine cv_v (As := [.int 0]) (rest := []) (b := w) ⟨hx, hb, hml, hown, hts⟩ (c_X9_emit hT (w := w) hw (x := 0) hbT hdT hm (hP 0 _ rfl) e2067 (fun e9 => by have q9 := (z2119 e9).2; omega)) (cwV 1 hts gX9_factor_X9_emit rfl rfl rfl hdX9_emit_v ⟨Nat.le_of_ble_eq_true rfl, Nat.le_of_ble_eq_true rfl⟩) hN hE hL (rcv10 hN hT hw.1) rfl rfl hl.1 (Nat.le_of_ble_eq_true rfl) dX9_factor_170 (Nat.zero_le _) (Nat.zero_le _) (fun H1 locs hL hqr2122 => ?_)
                obtain ⟨hT1, hF1, hqr2122⟩ := hqr2122
                have hF := hF.tr (hF1.mono (by simp))
                have hT := hT1
                obtain ⟨f2123, N2124, d2125, e2126, x2127, m2128⟩ := hqr2122
                have hm := m2128
                have hm8 := hm.2.2.2.2.2.2.2
                have nx2127 := x2127.n
                have ox2127 := nx2127.1
                have hbd : B0 ≤ dr := (hT.o26 hdT.1).1
                have hDR := hT.dr hdT d2125
                have hP : va_P D vwCl [(dr, .inl (cs 0, 1383, .inl f2123))] _ := va_P.cons d2125 va_P.nil
                refine lv_aload_n hx hb dX9_factor_173 rfl (lv_at hl 3 rfl) ?_
                refine lv_iload_n hx hb dX9_factor_174 rfl (lv_at hl 0 rfl) ?_
                refine cv_v (As := [.int r2115]) (rest := []) (b := w) ⟨hx, hb, hml, hown, hts⟩ (c_X9_emit hT (w := w) hw (x := r2115) hbT hdT hm (hP 0 _ rfl) e2126 (fun e9 => by have q9 := (z2119 e9).2; omega)) (cwV 1 hts gX9_factor_X9_emit rfl rfl rfl hdX9_emit_v ⟨Nat.le_of_ble_eq_true rfl, Nat.le_of_ble_eq_true rfl⟩) hN hE hL (rcv10 hN hT hw.1) rfl rfl hl.1 (Nat.le_of_ble_eq_true rfl) dX9_factor_175 (Nat.zero_le _) (Nat.zero_le _) (fun H1 locs hL hqr2130 => ?_)
                obtain ⟨hT1, hF1, hqr2130⟩ := hqr2130
                have hF := hF.tr (hF1.mono (by simp))
                have hT := hT1
                obtain ⟨f2131, N2132, d2133, e2134, x2135, m2136⟩ := hqr2130
                have hm := m2136
                have hm8 := hm.2.2.2.2.2.2.2
                have nx2135 := x2135.n
                have ox2135 := nx2135.1
                have hbd : B0 ≤ dr := (hT.o26 hdT.1).1
                have hDR := hT.dr hdT d2133
                have hP : va_P D vwCl [(dr, .inl (cs 0, 1383, .inl f2131))] _ := va_P.cons d2133 va_P.nil
                have bx2127 := nx2127.2.1
                have bx2135 := nx2135.2.1
                have hbn : N2132 + 2 * pos ≤ N + 2 * p2116 ∧ N2132 ≤ 2 * p2116 := by
                  by_cases e9 : er2117 = 0
                  · have q9 := (z2119 e9).2; omega
                  · have q9 := bx2127 e9; have q8 := bx2135 e9; omega
                exact en_v hx hb hr hlocks hL (Nat.zero_le _) (Nat.zero_le _) dX9_factor_178 (⟨hT, hF, _, p2116, er2117, hbn.1, (by omega), (fun e9 => id ((fun e9 => (z2119 e9).1) e9)), hm, _, hP 0 _ rfl, e2134, hbn.2, (EM.lit x2127 x2135 (by decide) (fun e9 => v2067 ((fun e9 => (z2119 e9).1) e9)))⟩)
              · have hm := m2114
                have hm8 := hm.2.2.2.2.2.2.2
                refine lv_if_eq (tgt := 141) hx hb dX9_factor_134 (by decide) (fun c9 => absurd c9 (by decide)) (fun _ => ?_)
                refine lv_iconst (v := 3) hx hb dX9_factor_137 (by decide) ?_
                refine lv_goto (tgt := 142) hx hb dX9_factor_138 (by decide) ?_
                refine lv_istore_n (lv' := [(2, .int 3), (1, .int (byF g tl p2073)), (0, .ref w)]) hx hb dX9_factor_142 rfl hl (by decide) rfl (fun ls hl => ?_)
                refine lv_iload_n hx hb dX9_factor_143 rfl (lv_at hl 0 rfl) ?_
                refine lv_if_ge (tgt := 158) hx hb dX9_factor_144 (by decide) (fun _ => ?_) (fun c9 => absurd (by decide) c9)
                refine lv_iload_n hx hb dX9_factor_158 rfl (lv_at hl 0 rfl) ?_
                refine lv_istore_n (lv' := [(3, .int 3), (2, .int 3), (1, .int (byF g tl p2073)), (0, .ref w)]) hx hb dX9_factor_159 rfl hl (by decide) rfl (fun ls hl => ?_)
                refine lv_aload_n hx hb dX9_factor_160 rfl (lv_at hl 3 rfl) ?_
                refine lv_iload_n hx hb dX9_factor_161 rfl (lv_at hl 1 rfl) ?_
                refine lv_if_ge (tgt := 169) hx hb dX9_factor_162 (by decide) (fun _ => ?_) (fun c9 => absurd (by decide) c9)
                refine lv_iconst (v := 1) hx hb dX9_factor_169 (by decide) ?_
                refine cv_v (As := [.int 1]) (rest := []) (b := w) ⟨hx, hb, hml, hown, hts⟩ (c_X9_emit hT (w := w) hw (x := 1) hbT hdT hm (hP 0 _ rfl) e2067 (fun e9 => by omega)) (cwV 1 hts gX9_factor_X9_emit rfl rfl rfl hdX9_emit_v ⟨Nat.le_of_ble_eq_true rfl, Nat.le_of_ble_eq_true rfl⟩) hN hE hL (rcv10 hN hT hw.1) rfl rfl hl.1 (Nat.le_of_ble_eq_true rfl) dX9_factor_170 (Nat.zero_le _) (Nat.zero_le _) (fun H1 locs hL hqr2138 => ?_)
                obtain ⟨hT1, hF1, hqr2138⟩ := hqr2138
                have hF := hF.tr (hF1.mono (by simp))
                have hT := hT1
                obtain ⟨f2139, N2140, d2141, e2142, x2143, m2144⟩ := hqr2138
                have hm := m2144
                have hm8 := hm.2.2.2.2.2.2.2
                have nx2143 := x2143.n
                have ox2143 := nx2143.1
                have hbd : B0 ≤ dr := (hT.o26 hdT.1).1
                have hDR := hT.dr hdT d2141
                have hP : va_P D vwCl [(dr, .inl (cs 0, 1383, .inl f2139))] _ := va_P.cons d2141 va_P.nil
                refine lv_aload_n hx hb dX9_factor_173 rfl (lv_at hl 3 rfl) ?_
                refine lv_iload_n hx hb dX9_factor_174 rfl (lv_at hl 0 rfl) ?_
                refine cv_v (As := [.int 3]) (rest := []) (b := w) ⟨hx, hb, hml, hown, hts⟩ (c_X9_emit hT (w := w) hw (x := 3) hbT hdT hm (hP 0 _ rfl) e2142 (fun e9 => by omega)) (cwV 1 hts gX9_factor_X9_emit rfl rfl rfl hdX9_emit_v ⟨Nat.le_of_ble_eq_true rfl, Nat.le_of_ble_eq_true rfl⟩) hN hE hL (rcv10 hN hT hw.1) rfl rfl hl.1 (Nat.le_of_ble_eq_true rfl) dX9_factor_175 (Nat.zero_le _) (Nat.zero_le _) (fun H1 locs hL hqr2146 => ?_)
                obtain ⟨hT1, hF1, hqr2146⟩ := hqr2146
                have hF := hF.tr (hF1.mono (by simp))
                have hT := hT1
                obtain ⟨f2147, N2148, d2149, e2150, x2151, m2152⟩ := hqr2146
                have hm := m2152
                have hm8 := hm.2.2.2.2.2.2.2
                have nx2151 := x2151.n
                have ox2151 := nx2151.1
                have hbd : B0 ≤ dr := (hT.o26 hdT.1).1
                have hDR := hT.dr hdT d2149
                have hP : va_P D vwCl [(dr, .inl (cs 0, 1383, .inl f2147))] _ := va_P.cons d2149 va_P.nil
                have bx2143 := nx2143.2.1
                have bx2151 := nx2151.2.1
                have hbn : N2148 + 2 * pos ≤ N + 2 * p2111 ∧ N2148 ≤ 2 * p2111 := by
                  by_cases e9 : er = 0
                  · omega
                  · have q9 := bx2143 e9; have q8 := bx2151 e9; omega
                exact en_v hx hb hr hlocks hL (Nat.zero_le _) (Nat.zero_le _) dX9_factor_178 (⟨hT, hF, _, p2111, er, hbn.1, (by omega), id, hm, _, hP 0 _ rfl, e2150, hbn.2, (EM.lit x2143 x2151 (by decide) v2067)⟩)
            · have hm := m2106
              have hm8 := hm.2.2.2.2.2.2.2
              refine lv_if_eq (tgt := 128) hx hb dX9_factor_121 (by decide) (fun c9 => absurd c9 (by decide)) (fun _ => ?_)
              refine lv_iconst (v := 2) hx hb dX9_factor_124 (by decide) ?_
              refine lv_goto (tgt := 142) hx hb dX9_factor_125 (by decide) ?_
              refine lv_istore_n (lv' := [(2, .int 2), (1, .int (byF g tl p2073)), (0, .ref w)]) hx hb dX9_factor_142 rfl hl (by decide) rfl (fun ls hl => ?_)
              refine lv_iload_n hx hb dX9_factor_143 rfl (lv_at hl 0 rfl) ?_
              refine lv_if_ge (tgt := 158) hx hb dX9_factor_144 (by decide) (fun _ => ?_) (fun c9 => absurd (by decide) c9)
              refine lv_iload_n hx hb dX9_factor_158 rfl (lv_at hl 0 rfl) ?_
              refine lv_istore_n (lv' := [(3, .int 2), (2, .int 2), (1, .int (byF g tl p2073)), (0, .ref w)]) hx hb dX9_factor_159 rfl hl (by decide) rfl (fun ls hl => ?_)
              refine lv_aload_n hx hb dX9_factor_160 rfl (lv_at hl 3 rfl) ?_
              refine lv_iload_n hx hb dX9_factor_161 rfl (lv_at hl 1 rfl) ?_
              refine lv_if_ge (tgt := 169) hx hb dX9_factor_162 (by decide) (fun _ => ?_) (fun c9 => absurd (by decide) c9)
              refine lv_iconst (v := 1) hx hb dX9_factor_169 (by decide) ?_
              refine cv_v (As := [.int 1]) (rest := []) (b := w) ⟨hx, hb, hml, hown, hts⟩ (c_X9_emit hT (w := w) hw (x := 1) hbT hdT hm (hP 0 _ rfl) e2067 (fun e9 => by omega)) (cwV 1 hts gX9_factor_X9_emit rfl rfl rfl hdX9_emit_v ⟨Nat.le_of_ble_eq_true rfl, Nat.le_of_ble_eq_true rfl⟩) hN hE hL (rcv10 hN hT hw.1) rfl rfl hl.1 (Nat.le_of_ble_eq_true rfl) dX9_factor_170 (Nat.zero_le _) (Nat.zero_le _) (fun H1 locs hL hqr2154 => ?_)
              obtain ⟨hT1, hF1, hqr2154⟩ := hqr2154
              have hF := hF.tr (hF1.mono (by simp))
              have hT := hT1
              obtain ⟨f2155, N2156, d2157, e2158, x2159, m2160⟩ := hqr2154
              have hm := m2160
              have hm8 := hm.2.2.2.2.2.2.2
              have nx2159 := x2159.n
              have ox2159 := nx2159.1
              have hbd : B0 ≤ dr := (hT.o26 hdT.1).1
              have hDR := hT.dr hdT d2157
              have hP : va_P D vwCl [(dr, .inl (cs 0, 1383, .inl f2155))] _ := va_P.cons d2157 va_P.nil
              refine lv_aload_n hx hb dX9_factor_173 rfl (lv_at hl 3 rfl) ?_
              refine lv_iload_n hx hb dX9_factor_174 rfl (lv_at hl 0 rfl) ?_
              refine cv_v (As := [.int 2]) (rest := []) (b := w) ⟨hx, hb, hml, hown, hts⟩ (c_X9_emit hT (w := w) hw (x := 2) hbT hdT hm (hP 0 _ rfl) e2158 (fun e9 => by omega)) (cwV 1 hts gX9_factor_X9_emit rfl rfl rfl hdX9_emit_v ⟨Nat.le_of_ble_eq_true rfl, Nat.le_of_ble_eq_true rfl⟩) hN hE hL (rcv10 hN hT hw.1) rfl rfl hl.1 (Nat.le_of_ble_eq_true rfl) dX9_factor_175 (Nat.zero_le _) (Nat.zero_le _) (fun H1 locs hL hqr2162 => ?_)
              obtain ⟨hT1, hF1, hqr2162⟩ := hqr2162
              have hF := hF.tr (hF1.mono (by simp))
              have hT := hT1
              obtain ⟨f2163, N2164, d2165, e2166, x2167, m2168⟩ := hqr2162
              have hm := m2168
              have hm8 := hm.2.2.2.2.2.2.2
              have nx2167 := x2167.n
              have ox2167 := nx2167.1
              have hbd : B0 ≤ dr := (hT.o26 hdT.1).1
              have hDR := hT.dr hdT d2165
              have hP : va_P D vwCl [(dr, .inl (cs 0, 1383, .inl f2163))] _ := va_P.cons d2165 va_P.nil
              have bx2159 := nx2159.2.1
              have bx2167 := nx2167.2.1
              have hbn : N2164 + 2 * pos ≤ N + 2 * p2103 ∧ N2164 ≤ 2 * p2103 := by
                by_cases e9 : er = 0
                · omega
                · have q9 := bx2159 e9; have q8 := bx2167 e9; omega
              exact en_v hx hb hr hlocks hL (Nat.zero_le _) (Nat.zero_le _) dX9_factor_178 (⟨hT, hF, _, p2103, er, hbn.1, (by omega), id, hm, _, hP 0 _ rfl, e2166, hbn.2, (EM.lit x2159 x2167 (by decide) v2067)⟩)
          · have hm := m2098
            have hm8 := hm.2.2.2.2.2.2.2
            refine lv_if_eq (tgt := 115) hx hb dX9_factor_108 (by decide) (fun c9 => absurd c9 (by decide)) (fun _ => ?_)
            refine lv_iconst (v := 1) hx hb dX9_factor_111 (by decide) ?_
            refine lv_goto (tgt := 142) hx hb dX9_factor_112 (by decide) ?_
            refine lv_istore_n (lv' := [(2, .int 1), (1, .int (byF g tl p2073)), (0, .ref w)]) hx hb dX9_factor_142 rfl hl (by decide) rfl (fun ls hl => ?_)
            refine lv_iload_n hx hb dX9_factor_143 rfl (lv_at hl 0 rfl) ?_
            refine lv_if_ge (tgt := 158) hx hb dX9_factor_144 (by decide) (fun _ => ?_) (fun c9 => absurd (by decide) c9)
            refine lv_iload_n hx hb dX9_factor_158 rfl (lv_at hl 0 rfl) ?_
            refine lv_istore_n (lv' := [(3, .int 1), (2, .int 1), (1, .int (byF g tl p2073)), (0, .ref w)]) hx hb dX9_factor_159 rfl hl (by decide) rfl (fun ls hl => ?_)
            refine lv_aload_n hx hb dX9_factor_160 rfl (lv_at hl 3 rfl) ?_
            refine lv_iload_n hx hb dX9_factor_161 rfl (lv_at hl 1 rfl) ?_
            refine lv_if_ge (tgt := 169) hx hb dX9_factor_162 (by decide) (fun _ => ?_) (fun c9 => absurd (by decide) c9)
            refine lv_iconst (v := 1) hx hb dX9_factor_169 (by decide) ?_
            refine cv_v (As := [.int 1]) (rest := []) (b := w) ⟨hx, hb, hml, hown, hts⟩ (c_X9_emit hT (w := w) hw (x := 1) hbT hdT hm (hP 0 _ rfl) e2067 (fun e9 => by omega)) (cwV 1 hts gX9_factor_X9_emit rfl rfl rfl hdX9_emit_v ⟨Nat.le_of_ble_eq_true rfl, Nat.le_of_ble_eq_true rfl⟩) hN hE hL (rcv10 hN hT hw.1) rfl rfl hl.1 (Nat.le_of_ble_eq_true rfl) dX9_factor_170 (Nat.zero_le _) (Nat.zero_le _) (fun H1 locs hL hqr2170 => ?_)
            obtain ⟨hT1, hF1, hqr2170⟩ := hqr2170
            have hF := hF.tr (hF1.mono (by simp))
            have hT := hT1
            obtain ⟨f2171, N2172, d2173, e2174, x2175, m2176⟩ := hqr2170
            have hm := m2176
            have hm8 := hm.2.2.2.2.2.2.2
            have nx2175 := x2175.n
            have ox2175 := nx2175.1
            have hbd : B0 ≤ dr := (hT.o26 hdT.1).1
            have hDR := hT.dr hdT d2173
            have hP : va_P D vwCl [(dr, .inl (cs 0, 1383, .inl f2171))] _ := va_P.cons d2173 va_P.nil
            refine lv_aload_n hx hb dX9_factor_173 rfl (lv_at hl 3 rfl) ?_
            refine lv_iload_n hx hb dX9_factor_174 rfl (lv_at hl 0 rfl) ?_
            refine cv_v (As := [.int 1]) (rest := []) (b := w) ⟨hx, hb, hml, hown, hts⟩ (c_X9_emit hT (w := w) hw (x := 1) hbT hdT hm (hP 0 _ rfl) e2174 (fun e9 => by omega)) (cwV 1 hts gX9_factor_X9_emit rfl rfl rfl hdX9_emit_v ⟨Nat.le_of_ble_eq_true rfl, Nat.le_of_ble_eq_true rfl⟩) hN hE hL (rcv10 hN hT hw.1) rfl rfl hl.1 (Nat.le_of_ble_eq_true rfl) dX9_factor_175 (Nat.zero_le _) (Nat.zero_le _) (fun H1 locs hL hqr2178 => ?_)
            obtain ⟨hT1, hF1, hqr2178⟩ := hqr2178
            have hF := hF.tr (hF1.mono (by simp))
            have hT := hT1
            obtain ⟨f2179, N2180, d2181, e2182, x2183, m2184⟩ := hqr2178
            have hm := m2184
            have hm8 := hm.2.2.2.2.2.2.2
            have nx2183 := x2183.n
            have ox2183 := nx2183.1
            have hbd : B0 ≤ dr := (hT.o26 hdT.1).1
            have hDR := hT.dr hdT d2181
            have hP : va_P D vwCl [(dr, .inl (cs 0, 1383, .inl f2179))] _ := va_P.cons d2181 va_P.nil
            have bx2175 := nx2175.2.1
            have bx2183 := nx2183.2.1
            have hbn : N2180 + 2 * pos ≤ N + 2 * p2095 ∧ N2180 ≤ 2 * p2095 := by
              by_cases e9 : er = 0
              · omega
              · have q9 := bx2175 e9; have q8 := bx2183 e9; omega
            exact en_v hx hb hr hlocks hL (Nat.zero_le _) (Nat.zero_le _) dX9_factor_178 (⟨hT, hF, _, p2095, er, hbn.1, (by omega), id, hm, _, hP 0 _ rfl, e2182, hbn.2, (EM.lit x2175 x2183 (by decide) v2067)⟩)
        · have hm := m2090
          have hm8 := hm.2.2.2.2.2.2.2
          refine lv_if_eq (tgt := 102) hx hb dX9_factor_95 (by decide) (fun c9 => absurd c9 (by decide)) (fun _ => ?_)
          refine lv_iconst (v := 0) hx hb dX9_factor_98 (by decide) ?_
          refine lv_goto (tgt := 142) hx hb dX9_factor_99 (by decide) ?_
          refine lv_istore_n (lv' := [(2, .int 0), (1, .int (byF g tl p2073)), (0, .ref w)]) hx hb dX9_factor_142 rfl hl (by decide) rfl (fun ls hl => ?_)
          refine lv_iload_n hx hb dX9_factor_143 rfl (lv_at hl 0 rfl) ?_
          refine lv_if_ge (tgt := 158) hx hb dX9_factor_144 (by decide) (fun _ => ?_) (fun c9 => absurd (by decide) c9)
          refine lv_iload_n hx hb dX9_factor_158 rfl (lv_at hl 0 rfl) ?_
          refine lv_istore_n (lv' := [(3, .int 0), (2, .int 0), (1, .int (byF g tl p2073)), (0, .ref w)]) hx hb dX9_factor_159 rfl hl (by decide) rfl (fun ls hl => ?_)
          refine lv_aload_n hx hb dX9_factor_160 rfl (lv_at hl 3 rfl) ?_
          refine lv_iload_n hx hb dX9_factor_161 rfl (lv_at hl 1 rfl) ?_
          refine lv_if_ge (tgt := 169) hx hb dX9_factor_162 (by decide) (fun _ => ?_) (fun c9 => absurd (by decide) c9)
          refine lv_iconst (v := 1) hx hb dX9_factor_169 (by decide) ?_
          refine cv_v (As := [.int 1]) (rest := []) (b := w) ⟨hx, hb, hml, hown, hts⟩ (c_X9_emit hT (w := w) hw (x := 1) hbT hdT hm (hP 0 _ rfl) e2067 (fun e9 => by omega)) (cwV 1 hts gX9_factor_X9_emit rfl rfl rfl hdX9_emit_v ⟨Nat.le_of_ble_eq_true rfl, Nat.le_of_ble_eq_true rfl⟩) hN hE hL (rcv10 hN hT hw.1) rfl rfl hl.1 (Nat.le_of_ble_eq_true rfl) dX9_factor_170 (Nat.zero_le _) (Nat.zero_le _) (fun H1 locs hL hqr2186 => ?_)
          obtain ⟨hT1, hF1, hqr2186⟩ := hqr2186
          have hF := hF.tr (hF1.mono (by simp))
          have hT := hT1
          obtain ⟨f2187, N2188, d2189, e2190, x2191, m2192⟩ := hqr2186
          have hm := m2192
          have hm8 := hm.2.2.2.2.2.2.2
          have nx2191 := x2191.n
          have ox2191 := nx2191.1
          have hbd : B0 ≤ dr := (hT.o26 hdT.1).1
          have hDR := hT.dr hdT d2189
          have hP : va_P D vwCl [(dr, .inl (cs 0, 1383, .inl f2187))] _ := va_P.cons d2189 va_P.nil
          refine lv_aload_n hx hb dX9_factor_173 rfl (lv_at hl 3 rfl) ?_
          refine lv_iload_n hx hb dX9_factor_174 rfl (lv_at hl 0 rfl) ?_
          refine cv_v (As := [.int 0]) (rest := []) (b := w) ⟨hx, hb, hml, hown, hts⟩ (c_X9_emit hT (w := w) hw (x := 0) hbT hdT hm (hP 0 _ rfl) e2190 (fun e9 => by omega)) (cwV 1 hts gX9_factor_X9_emit rfl rfl rfl hdX9_emit_v ⟨Nat.le_of_ble_eq_true rfl, Nat.le_of_ble_eq_true rfl⟩) hN hE hL (rcv10 hN hT hw.1) rfl rfl hl.1 (Nat.le_of_ble_eq_true rfl) dX9_factor_175 (Nat.zero_le _) (Nat.zero_le _) (fun H1 locs hL hqr2194 => ?_)
          obtain ⟨hT1, hF1, hqr2194⟩ := hqr2194
          have hF := hF.tr (hF1.mono (by simp))
          have hT := hT1
          obtain ⟨f2195, N2196, d2197, e2198, x2199, m2200⟩ := hqr2194
          have hm := m2200
          have hm8 := hm.2.2.2.2.2.2.2
          have nx2199 := x2199.n
          have ox2199 := nx2199.1
          have hbd : B0 ≤ dr := (hT.o26 hdT.1).1
          have hDR := hT.dr hdT d2197
          have hP : va_P D vwCl [(dr, .inl (cs 0, 1383, .inl f2195))] _ := va_P.cons d2197 va_P.nil
          have bx2191 := nx2191.2.1
          have bx2199 := nx2199.2.1
          have hbn : N2196 + 2 * pos ≤ N + 2 * p2087 ∧ N2196 ≤ 2 * p2087 := by
            by_cases e9 : er = 0
            · omega
            · have q9 := bx2191 e9; have q8 := bx2199 e9; omega
          exact en_v hx hb hr hlocks hL (Nat.zero_le _) (Nat.zero_le _) dX9_factor_178 (⟨hT, hF, _, p2087, er, hbn.1, (by omega), id, hm, _, hP 0 _ rfl, e2198, hbn.2, (EM.lit x2191 x2199 (by decide) v2067)⟩)
      · refine lv_if_eq (tgt := 89) hx hb dX9_factor_82 (by decide) (fun c9 => absurd c9 (by decide)) (fun _ => ?_)
        refine lv_iconst (v := (-1)) hx hb dX9_factor_85 (by decide) ?_
        refine lv_goto (tgt := 142) hx hb dX9_factor_86 (by decide) ?_
        refine lv_istore_n (lv' := [(2, .int (-1)), (1, .int (byF g tl p2073)), (0, .ref w)]) hx hb dX9_factor_142 rfl hl (by decide) rfl (fun ls hl => ?_)
        refine lv_iload_n hx hb dX9_factor_143 rfl (lv_at hl 0 rfl) ?_
        refine lv_if_ge (tgt := 158) hx hb dX9_factor_144 (by decide) (fun c9 => absurd c9 (by decide)) (fun _ => ?_)
        refine lv_aload_n hx hb dX9_factor_147 rfl (lv_at hl 2 rfl) ?_
        refine lv_iconst (v := 0) hx hb dX9_factor_148 (by decide) ?_
        refine lv_sipush (v := 9999) hx hb dX9_factor_149 (by decide) ?_
        refine cv_i (As := [.int 0, .int 9999]) (rest := []) (b := w) ⟨hx, hb, hml, hown, hts⟩ (c_X9_number hT (w := w) hw (x := 0) (y := 9999) hbT hdT hm) (cwV 2 hts gX9_factor_X9_number rfl rfl rfl hdX9_number_v ⟨Nat.le_of_ble_eq_true rfl, Nat.le_of_ble_eq_true rfl⟩) hN hE hL (rcv10 hN hT hw.1) rfl rfl hl.1 (Nat.le_of_ble_eq_true rfl) dX9_factor_152 (Nat.zero_le _) (Nat.zero_le _) (fun r2202 H1 locs hL hqr2202 => ?_)
        obtain ⟨hT1, hF1, hqr2202⟩ := hqr2202
        have hP : va_P D vwCl [(dr, .inl (cs 0, 1383, .inl f2067))] _ := hF1.hP (hP.sub [0] rfl) (fa_c ⟨by rw [hdT.1]; decide, by rw [hdT.2]; first | decide | (simp; done) | (simp [h15a, h15b, h15c]; done) | (simp; omega)⟩ fa_n)
        have hF := hF.tr (hF1.mono (by simp))
        have hT := hT1
        obtain ⟨p2203, er2204, a2205, z2206, m2207, q2208⟩ := hqr2202
        have hm := m2207
        have hm8 := hm.2.2.2.2.2.2.2
        refine lv_goto (tgt := 159) hx hb dX9_factor_155 (by decide) ?_
        refine lv_istore_n (lv' := [(3, .int r2202), (2, .int (-1)), (1, .int (byF g tl p2073)), (0, .ref w)]) hx hb dX9_factor_159 rfl hl (by decide) rfl (fun ls hl => ?_)
        refine lv_aload_n hx hb dX9_factor_160 rfl (lv_at hl 3 rfl) ?_
        refine lv_iload_n hx hb dX9_factor_161 rfl (lv_at hl 1 rfl) ?_
        refine lv_if_ge (tgt := 169) hx hb dX9_factor_162 (by decide) (fun c9 => absurd c9 (by decide)) (fun _ => ?_)
        refine lv_iconst (v := 0) hx hb dX9_factor_165 (by decide) ?_
        refine lv_goto (tgt := 170) hx hb dX9_factor_166 (by decide) ?_
        refine cv_v (As := [.int 0]) (rest := []) (b := w) ⟨hx, hb, hml, hown, hts⟩ (c_X9_emit hT (w := w) hw (x := 0) hbT hdT hm (hP 0 _ rfl) e2067 (fun e9 => by have q9 := (z2206 e9).2; omega)) (cwV 1 hts gX9_factor_X9_emit rfl rfl rfl hdX9_emit_v ⟨Nat.le_of_ble_eq_true rfl, Nat.le_of_ble_eq_true rfl⟩) hN hE hL (rcv10 hN hT hw.1) rfl rfl hl.1 (Nat.le_of_ble_eq_true rfl) dX9_factor_170 (Nat.zero_le _) (Nat.zero_le _) (fun H1 locs hL hqr2209 => ?_)
        obtain ⟨hT1, hF1, hqr2209⟩ := hqr2209
        have hF := hF.tr (hF1.mono (by simp))
        have hT := hT1
        obtain ⟨f2210, N2211, d2212, e2213, x2214, m2215⟩ := hqr2209
        have hm := m2215
        have hm8 := hm.2.2.2.2.2.2.2
        have nx2214 := x2214.n
        have ox2214 := nx2214.1
        have hbd : B0 ≤ dr := (hT.o26 hdT.1).1
        have hDR := hT.dr hdT d2212
        have hP : va_P D vwCl [(dr, .inl (cs 0, 1383, .inl f2210))] _ := va_P.cons d2212 va_P.nil
        refine lv_aload_n hx hb dX9_factor_173 rfl (lv_at hl 3 rfl) ?_
        refine lv_iload_n hx hb dX9_factor_174 rfl (lv_at hl 0 rfl) ?_
        refine cv_v (As := [.int r2202]) (rest := []) (b := w) ⟨hx, hb, hml, hown, hts⟩ (c_X9_emit hT (w := w) hw (x := r2202) hbT hdT hm (hP 0 _ rfl) e2213 (fun e9 => by have q9 := (z2206 e9).2; omega)) (cwV 1 hts gX9_factor_X9_emit rfl rfl rfl hdX9_emit_v ⟨Nat.le_of_ble_eq_true rfl, Nat.le_of_ble_eq_true rfl⟩) hN hE hL (rcv10 hN hT hw.1) rfl rfl hl.1 (Nat.le_of_ble_eq_true rfl) dX9_factor_175 (Nat.zero_le _) (Nat.zero_le _) (fun H1 locs hL hqr2217 => ?_)
        obtain ⟨hT1, hF1, hqr2217⟩ := hqr2217
        have hF := hF.tr (hF1.mono (by simp))
        have hT := hT1
        obtain ⟨f2218, N2219, d2220, e2221, x2222, m2223⟩ := hqr2217
        have hm := m2223
        have hm8 := hm.2.2.2.2.2.2.2
        have nx2222 := x2222.n
        have ox2222 := nx2222.1
        have hbd : B0 ≤ dr := (hT.o26 hdT.1).1
        have hDR := hT.dr hdT d2220
        have hP : va_P D vwCl [(dr, .inl (cs 0, 1383, .inl f2218))] _ := va_P.cons d2220 va_P.nil
        have bx2214 := nx2214.2.1
        have bx2222 := nx2222.2.1
        have hbn : N2219 + 2 * pos ≤ N + 2 * p2203 ∧ N2219 ≤ 2 * p2203 := by
          by_cases e9 : er2204 = 0
          · have q9 := (z2206 e9).2; omega
          · have q9 := bx2214 e9; have q8 := bx2222 e9; omega
        exact en_v hx hb hr hlocks hL (Nat.zero_le _) (Nat.zero_le _) dX9_factor_178 (⟨hT, hF, _, p2203, er2204, hbn.1, (by omega), (fun e9 => id ((fun e9 => (z2206 e9).1) e9)), hm, _, hP 0 _ rfl, e2221, hbn.2, (EM.lit x2214 x2222 (by decide) (fun e9 => v2067 ((fun e9 => (z2206 e9).1) e9)))⟩)
    · have hl9 := byF_c (c2078) (by decide)
      refine lv_aload_n hx hb dX9_factor_19 rfl (lv_at hl 1 rfl) ?_
      obtain ⟨hb2225, e2225, hat2225, hk2225⟩ := hT.o10 hw.1
      obtain ⟨f2225_0, f2225_1, f2225_3, f2225_4, f2225_5, f2225_6, f2225_7, f2225_9, f2225_10, f2225_11, f2225_12, f2225_13, f2225_14, f2225_15, f2225_16, f2225_17, rfl, c2225_2, c2225_3, c2225_4, c2225_12, t2225_1, t2225_8, t2225_9, c2225_sd, t2225_10, t2225_11, t2225_17⟩ := hk2225
      obtain ⟨rfl, rfl, rfl, rfl, rfl, rfl⟩ := hm.at hat2225 c2225_3 (by omega)
      have hm8 := hm.2.2.2.2.2.2.2
      have hP : va_P D vwCl [(w, .inr (9, [.int f2225_0, .ref bu, .int (nI ((κ w).2.2.1)), .int (nI tl), .int (nI p2073), .int er, .int f2225_6, .int f2225_7, .ref (κ w).2.2.2, .ref f2225_9, .ref dr, .ref f2225_11, .int (nI f2225_12), .int f2225_13, .int 4, .int f2225_15, .int f2225_16, .ref f2225_17])), (dr, .inl (cs 0, 1383, .inl f2067))] _ := va_P.cons hat2225 hP
      refine va_get (D := D) (ci := 9) (v := .int 4) (C := RX9) (T := TX9) (N := 18) hx hb hts iX9_factor_9 hown hN.1 hP 0 rfl rfl 14 (by decide) (hts _ mX9_factor_1) (fun _ h9 => h9) rfl dX9_factor_20 ?_
      refine lv_iconst (v := 4) hx hb dX9_factor_23 (by decide) ?_
      refine lv_icmp_ne (tgt := 37) hx hb dX9_factor_24 (by decide) (fun c9 => absurd (by decide) c9) (fun _ => ?_)
      refine lv_aload_n hx hb dX9_factor_27 rfl (lv_at hl 1 rfl) ?_
      refine lv_bipush (v := (-5)) hx hb dX9_factor_28 (by decide) ?_
      refine lv_aload_n hx hb dX9_factor_30 rfl (lv_at hl 1 rfl) ?_
      refine va_get (D := D) (ci := 9) (v := .int (nI p2073)) (C := RX9) (T := TX9) (N := 18) hx hb hts iX9_factor_9 hown hN.1 hP 0 rfl rfl 4 (by decide) (hts _ mX9_factor_2) (fun _ h9 => h9) rfl dX9_factor_31 ?_
      refine cv_v (As := [.int (-5), .int (nI p2073)]) (rest := []) (b := w) ⟨hx, hb, hml, hown, hts⟩ (c_X9_report hT (w := w) hw (x := (-5)) (y := (nI p2073)) hbT hdT hm ((by decide))) (cwV 2 hts gX9_factor_X9_report rfl rfl rfl hdX9_report_v ⟨Nat.le_of_ble_eq_true rfl, Nat.le_of_ble_eq_true rfl⟩) hN hE hL (rcv10 hN hT hw.1) rfl rfl hl.1 (Nat.le_of_ble_eq_true rfl) dX9_factor_34 (Nat.zero_le _) (Nat.zero_le _) (fun H1 locs hL hqr2226 => ?_)
      obtain ⟨hT1, hF1, hqr2226⟩ := hqr2226
      have hP : va_P D vwCl [(dr, .inl (cs 0, 1383, .inl f2067))] _ := hF1.hP (hP.sub [1] rfl) (fa_c ⟨by rw [hdT.1]; decide, by rw [hdT.2]; first | decide | (simp; done) | (simp [h15a, h15b, h15c]; done) | (simp; omega)⟩ fa_n)
      have hF := hF.tr (hF1.mono (by simp))
      have hT := hT1
      obtain ⟨er2227, z2228, m2229⟩ := hqr2226
      have hm := m2229
      have hm8 := hm.2.2.2.2.2.2.2
      refine lv_aload_n hx hb dX9_factor_37 rfl (lv_at hl 1 rfl) ?_
      refine lv_dup hx hb dX9_factor_38 rfl ?_
      obtain ⟨hb2230, e2230, hat2230, hk2230⟩ := hT.o10 hw.1
      obtain ⟨f2230_0, f2230_1, f2230_3, f2230_4, f2230_5, f2230_6, f2230_7, f2230_9, f2230_10, f2230_11, f2230_12, f2230_13, f2230_14, f2230_15, f2230_16, f2230_17, rfl, c2230_2, c2230_3, c2230_4, c2230_12, t2230_1, t2230_8, t2230_9, c2230_sd, t2230_10, t2230_11, t2230_17⟩ := hk2230
      obtain ⟨rfl, rfl, rfl, rfl, rfl, rfl⟩ := hm.at hat2230 c2230_3 (by omega)
      have hm8 := hm.2.2.2.2.2.2.2
      have hP : va_P D vwCl [(w, .inr (9, [.int f2230_0, .ref bu, .int (nI ((κ w).2.2.1)), .int (nI tl), .int (nI p2073), .int er2227, .int f2230_6, .int f2230_7, .ref (κ w).2.2.2, .ref f2230_9, .ref dr, .ref f2230_11, .int (nI f2230_12), .int f2230_13, .int 4, .int f2230_15, .int f2230_16, .ref f2230_17])), (dr, .inl (cs 0, 1383, .inl f2067))] _ := va_P.cons hat2230 hP
      refine va_get (D := D) (ci := 9) (v := .int (nI p2073)) (C := RX9) (T := TX9) (N := 18) hx hb hts iX9_factor_9 hown hN.1 hP 0 rfl rfl 4 (by decide) (hts _ mX9_factor_2) (fun _ h9 => h9) rfl dX9_factor_39 ?_
      refine lv_iconst (v := 1) hx hb dX9_factor_42 (by decide) ?_
      refine lv_iadd hx hb dX9_factor_43 ?_
      refine tp_i (nI (p2073 + 1)) (nI_add p2073 1) ?_
      have hB : Bx B0 D _ [(w, .inr (9, [.int f2230_0, .ref bu, .int (nI ((κ w).2.2.1)), .int (nI tl), .int (nI p2073), .int er2227, .int f2230_6, .int f2230_7, .ref (κ w).2.2.2, .ref f2230_9, .ref dr, .ref f2230_11, .int (nI f2230_12), .int f2230_13, .int 4, .int f2230_15, .int f2230_16, .ref f2230_17])), (dr, .inl (cs 0, 1383, .inl f2067))] [] _ _ := Bx.of (fun a => (κ a).1) hL hP (fa_c hb2230 (fa_c hbd fa_n)) (by simp only [List.map_cons, List.map_nil, hw.1, hdT.1]; decide)
      refine b_put (D := D) (ci := 9) (v := .int (nI (p2073 + 1))) (ty := .int) (C := RX9) (T := TX9) (N := 18) hx hb hts iX9_factor_9 tyX9 tyX9_ok nmX9 hown hN hB 0 rfl rfl 4 (by decide) (hts _ mX9_factor_2) (fun _ h9 => h9) rfl (by decide +kernel) rfl rfl (Nat.le_of_ble_eq_true rfl) (.inl rfl) dX9_factor_44 (fun H locs hB => ?_)
      have hB : Bx B0 D _ [(w, .inr (9, [.int f2230_0, .ref bu, .int (nI ((κ w).2.2.1)), .int (nI tl), .int (nI (p2073 + 1)), .int er2227, .int f2230_6, .int f2230_7, .ref (κ w).2.2.2, .ref f2230_9, .ref dr, .ref f2230_11, .int (nI f2230_12), .int f2230_13, .int 4, .int f2230_15, .int f2230_16, .ref f2230_17])), (dr, .inl (cs 0, 1383, .inl f2067))] [w] _ _ := hB
      refine lv_aload_n hx hb dX9_factor_47 rfl (lv_at hl 1 rfl) ?_
      refine lv_dup hx hb dX9_factor_48 rfl ?_
      refine va_get (D := D) (ci := 9) (v := .int 4) (C := RX9) (T := TX9) (N := 18) hx hb hts iX9_factor_9 hown hN.1 hB.1 0 rfl rfl 14 (by decide) (hts _ mX9_factor_1) (fun _ h9 => h9) rfl dX9_factor_49 ?_
      refine lv_iconst (v := 1) hx hb dX9_factor_52 (by decide) ?_
      refine lv_iadd hx hb dX9_factor_53 ?_
      refine tp_i 5 (by decide) ?_
      refine b_put (D := D) (ci := 9) (v := .int 5) (ty := .int) (C := RX9) (T := TX9) (N := 18) hx hb hts iX9_factor_9 tyX9 tyX9_ok nmX9 hown hN hB 0 rfl rfl 14 (by decide) (hts _ mX9_factor_1) (fun _ h9 => h9) rfl (by decide +kernel) rfl rfl (Nat.le_of_ble_eq_true rfl) (.inr ⟨rfl, List.mem_of_getElem? (i := 0) rfl⟩) dX9_factor_54 (fun H locs hB => ?_)
      have hB : Bx B0 D _ [(w, .inr (9, [.int f2230_0, .ref bu, .int (nI ((κ w).2.2.1)), .int (nI tl), .int (nI (p2073 + 1)), .int er2227, .int f2230_6, .int f2230_7, .ref (κ w).2.2.2, .ref f2230_9, .ref dr, .ref f2230_11, .int (nI f2230_12), .int f2230_13, .int 5, .int f2230_15, .int f2230_16, .ref f2230_17])), (dr, .inl (cs 0, 1383, .inl f2067))] [w] _ _ := hB
      refine lv_aload_n hx hb dX9_factor_57 rfl (lv_at hl 1 rfl) ?_
      have hT : WT B0 D cs T κ _ := hT.close hB ⟨⟨0, _, rfl, ok_10 hw.1 ⟨_, _, _, _, _, _, _, _, _, _, _, _, _, _, _, _, rfl, (by omega), (by omega), (by omega), (by omega), hbT, t2230_8, t2230_9, c2230_sd, hdT, t2230_11, t2230_17⟩⟩, trivial⟩
      have hF : Fr B0 [12, 17] κ H0 _ := hF.close hB (fa_c (by simp [hw.2]) fa_n)
      have hL : OkL B0 _ := hB.2.2.2.2.2
      have hP : va_P D vwCl [(w, .inr (9, [.int f2230_0, .ref bu, .int (nI ((κ w).2.2.1)), .int (nI tl), .int (nI (p2073 + 1)), .int er2227, .int f2230_6, .int f2230_7, .ref (κ w).2.2.2, .ref f2230_9, .ref dr, .ref f2230_11, .int (nI f2230_12), .int f2230_13, .int 5, .int f2230_15, .int f2230_16, .ref f2230_17])), (dr, .inl (cs 0, 1383, .inl f2067))] _ := hB.1
      have hbu9 := (hm.2.2.2.2.2.2.1).kept (hB.2.2.2.1 _ hm.2.2.2.2.2.2.1.lt (by simp only [List.mem_cons, List.not_mem_nil, or_false, not_or]; exact ne_c hbT.1 hw.1 (by decide)))
      have hm : MF D cs w _ ((p2073 + 1)) (tl) (er2227) (5) dr bu g := ⟨⟨_, hP 0 _ rfl, rfl⟩, ⟨_, hP 0 _ rfl, rfl⟩, ⟨_, hP 0 _ rfl, rfl⟩, ⟨_, hP 0 _ rfl, rfl⟩, ⟨_, hP 0 _ rfl, rfl⟩, ⟨_, hP 0 _ rfl, rfl⟩, hbu9, (by omega), (by omega)⟩
      refine cv_v (As := []) (rest := []) (b := w) ⟨hx, hb, hml, hown, hts⟩ (c_X9_readSum_db hT (w := w) hw hbT hdT hm (z2228)) (cwV 0 hts gX9_factor_X9_readSum rfl rfl rfl hdX9_readSum_v ⟨Nat.le_of_ble_eq_true rfl, Nat.le_of_ble_eq_true rfl⟩) hN hE hL (rcv10 hN hT hw.1) rfl rfl hl.1 (Nat.le_of_ble_eq_true rfl) dX9_factor_58 (Nat.zero_le _) (Nat.zero_le _) (fun H1 locs hL hqr2231 => ?_)
      obtain ⟨h9, hqr2231⟩ := hqr2231; replace h9 := h9.symm; subst h9
      refine lv_aload_n hx hb dX9_factor_61 rfl (lv_at hl 1 rfl) ?_
      refine lv_bipush (v := 41) hx hb dX9_factor_62 (by decide) ?_
      refine cv_v (As := [.int 41]) (rest := []) (b := w) ⟨hx, hb, hml, hown, hts⟩ (c_X9_expect hT (w := w) hw (x := 41) hbT hdT hm ((by decide))) (cwV 1 hts gX9_factor_X9_expect rfl rfl rfl hdX9_expect_v ⟨Nat.le_of_ble_eq_true rfl, Nat.le_of_ble_eq_true rfl⟩) hN hE hL (rcv10 hN hT hw.1) rfl rfl hl.1 (Nat.le_of_ble_eq_true rfl) dX9_factor_64 (Nat.zero_le _) (Nat.zero_le _) (fun H1 locs hL hqr2232 => ?_)
      obtain ⟨hT1, hF1, hqr2232⟩ := hqr2232
      have hP : va_P D vwCl [(dr, .inl (cs 0, 1383, .inl f2067))] _ := hF1.hP (hP.sub [1] rfl) (fa_c ⟨by rw [hdT.1]; decide, by rw [hdT.2]; first | decide | (simp; done) | (simp [h15a, h15b, h15c]; done) | (simp; omega)⟩ fa_n)
      have hF := hF.tr (hF1.mono (by simp))
      have hT := hT1
      obtain ⟨p2233, er2234, a2235, z2236, m2237⟩ := hqr2232
      have hm := m2237
      have hm8 := hm.2.2.2.2.2.2.2
      refine lv_aload_n hx hb dX9_factor_67 rfl (lv_at hl 1 rfl) ?_
      refine lv_dup hx hb dX9_factor_68 rfl ?_
      obtain ⟨hb2238, e2238, hat2238, hk2238⟩ := hT.o10 hw.1
      obtain ⟨f2238_0, f2238_1, f2238_3, f2238_4, f2238_5, f2238_6, f2238_7, f2238_9, f2238_10, f2238_11, f2238_12, f2238_13, f2238_14, f2238_15, f2238_16, f2238_17, rfl, c2238_2, c2238_3, c2238_4, c2238_12, t2238_1, t2238_8, t2238_9, c2238_sd, t2238_10, t2238_11, t2238_17⟩ := hk2238
      obtain ⟨rfl, rfl, rfl, rfl, rfl, rfl⟩ := hm.at hat2238 c2238_3 (by omega)
      have hm8 := hm.2.2.2.2.2.2.2
      have hP : va_P D vwCl [(w, .inr (9, [.int f2238_0, .ref bu, .int (nI ((κ w).2.2.1)), .int (nI tl), .int (nI p2233), .int er2234, .int f2238_6, .int f2238_7, .ref (κ w).2.2.2, .ref f2238_9, .ref dr, .ref f2238_11, .int (nI f2238_12), .int f2238_13, .int 5, .int f2238_15, .int f2238_16, .ref f2238_17])), (dr, .inl (cs 0, 1383, .inl f2067))] _ := va_P.cons hat2238 hP
      refine va_get (D := D) (ci := 9) (v := .int 5) (C := RX9) (T := TX9) (N := 18) hx hb hts iX9_factor_9 hown hN.1 hP 0 rfl rfl 14 (by decide) (hts _ mX9_factor_1) (fun _ h9 => h9) rfl dX9_factor_69 ?_
      refine lv_iconst (v := 1) hx hb dX9_factor_72 (by decide) ?_
      refine lv_isub hx hb dX9_factor_73 ?_
      refine tp_i 4 (by decide) ?_
      have hB : Bx B0 D _ [(w, .inr (9, [.int f2238_0, .ref bu, .int (nI ((κ w).2.2.1)), .int (nI tl), .int (nI p2233), .int er2234, .int f2238_6, .int f2238_7, .ref (κ w).2.2.2, .ref f2238_9, .ref dr, .ref f2238_11, .int (nI f2238_12), .int f2238_13, .int 5, .int f2238_15, .int f2238_16, .ref f2238_17])), (dr, .inl (cs 0, 1383, .inl f2067))] [] _ _ := Bx.of (fun a => (κ a).1) hL hP (fa_c hb2238 (fa_c hbd fa_n)) (by simp only [List.map_cons, List.map_nil, hw.1, hdT.1]; decide)
      refine b_put (D := D) (ci := 9) (v := .int 4) (ty := .int) (C := RX9) (T := TX9) (N := 18) hx hb hts iX9_factor_9 tyX9 tyX9_ok nmX9 hown hN hB 0 rfl rfl 14 (by decide) (hts _ mX9_factor_1) (fun _ h9 => h9) rfl (by decide +kernel) rfl rfl (Nat.le_of_ble_eq_true rfl) (.inl rfl) dX9_factor_74 (fun H locs hB => ?_)
      have hB : Bx B0 D _ [(w, .inr (9, [.int f2238_0, .ref bu, .int (nI ((κ w).2.2.1)), .int (nI tl), .int (nI p2233), .int er2234, .int f2238_6, .int f2238_7, .ref (κ w).2.2.2, .ref f2238_9, .ref dr, .ref f2238_11, .int (nI f2238_12), .int f2238_13, .int 4, .int f2238_15, .int f2238_16, .ref f2238_17])), (dr, .inl (cs 0, 1383, .inl f2067))] [w] _ _ := hB
      have hT : WT B0 D cs T κ _ := hT.close hB ⟨⟨0, _, rfl, ok_10 hw.1 ⟨_, _, _, _, _, _, _, _, _, _, _, _, _, _, _, _, rfl, (by omega), (by omega), (by omega), (by omega), hbT, t2238_8, t2238_9, c2238_sd, hdT, t2238_11, t2238_17⟩⟩, trivial⟩
      have hF : Fr B0 [12, 17] κ H0 _ := hF.close hB (fa_c (by simp [hw.2]) fa_n)
      have hL : OkL B0 _ := hB.2.2.2.2.2
      have hP : va_P D vwCl [(w, .inr (9, [.int f2238_0, .ref bu, .int (nI ((κ w).2.2.1)), .int (nI tl), .int (nI p2233), .int er2234, .int f2238_6, .int f2238_7, .ref (κ w).2.2.2, .ref f2238_9, .ref dr, .ref f2238_11, .int (nI f2238_12), .int f2238_13, .int 4, .int f2238_15, .int f2238_16, .ref f2238_17])), (dr, .inl (cs 0, 1383, .inl f2067))] _ := hB.1
      have hbu9 := (hm.2.2.2.2.2.2.1).kept (hB.2.2.2.1 _ hm.2.2.2.2.2.2.1.lt (by simp only [List.mem_cons, List.not_mem_nil, or_false, not_or]; exact ne_c hbT.1 hw.1 (by decide)))
      have hm : MF D cs w _ (p2233) (tl) (er2234) (4) dr bu g := ⟨⟨_, hP 0 _ rfl, rfl⟩, ⟨_, hP 0 _ rfl, rfl⟩, ⟨_, hP 0 _ rfl, rfl⟩, ⟨_, hP 0 _ rfl, rfl⟩, ⟨_, hP 0 _ rfl, rfl⟩, ⟨_, hP 0 _ rfl, rfl⟩, hbu9, (by omega), (by omega)⟩
      exact en_v hx hb hr hlocks hL (Nat.zero_le _) (Nat.zero_le _) dX9_factor_77 (⟨hT, hF, N, p2233, er2234, (by omega), (by omega), (fun e9 => (fun e9 => id ((fun e9 => absurd e9 z2228) e9)) (z2236 e9)), hm, _, hP 1 _ rfl, e2067, (by omega), (fun e9 => (fun e9 => absurd e9 z2228) (z2236 e9))⟩)
  · refine lv_if_ne (tgt := 8) hx hb dX9_factor_4 (by decide) (fun c9 => absurd (by decide) c9) (fun _ => ?_)
    exact en_v hx hb hr hlocks hL (Nat.zero_le _) (Nat.zero_le _) dX9_factor_7 (⟨hT, hF, N, pos, er, (by omega), (by omega), id, hm, f2067, hP 0 _ rfl, e2067, (by omega), (fun e9 => absurd e9 e2071)⟩)
theorem mX9_term_1 : (.fieldLink RX9 53 "OneBeatModel" "position" "I" : Cond) ∈ wsX9_term := List.mem_of_getElem? (i := 1) (by decide +kernel)
theorem iX9_term_9 : ∀ w ∈ wsX90, w ∈ wsX9_term := fun w h => List.mem_of_mem_drop (List.mem_of_mem_take ((show wsX90 = (wsX9_term.drop 112).take 18 by decide +kernel) ▸ h))
set_option maxHeartbeats 4000000 in
set_option maxRecDepth 100000 in
theorem c_X9_term_d4 {l : Launch} {D : va_G} {cs : Nat → ClassId} {B0 T : Nat} {κ : KM} {H0 : Heap} (hT : WT B0 D cs T κ H0) {w : Nat} (hw : T2 κ w 10 12) {pos tl : Nat} {er : Int32} {dr bu : Nat} {g : Nat → Int32} {N h : Nat} (hbT : T2 κ bu 23 14) (hdT : T2 κ dr 26 17) (hps : PS D cs w H0 pos tl er 4 dr bu g N h) : KC l yX9_term wsX9_term 6 130 0 0 D cs B0 H0 [.ref w] (Qv (fun H => WT B0 D cs T κ H ∧ Fr B0 [12, 17] κ H0 H ∧ ∃ N1 pos1 er1, N1 + 2 * pos ≤ N + 2 * pos1 ∧ pos ≤ pos1 ∧ (er1 = 0 → er = 0) ∧ PS D cs w H pos1 tl er1 4 dr bu g N1 (h + 1))) := by
  refine KC.of cX9_term 2 none (by decide) rfl (Nat.le_of_ble_eq_true rfl) ?_
  intro p e s m below meth c ls hx hb hr hml hown hts hlocks hin hN hE hH0 hl
  have hown : s.vm.findClass RX9 = some m.cls := hown
  have hl : lv_has ls 2 [(0, .ref w)] := hl
  have hL : OkL B0 [] := OkL.nil
  have hF : Fr B0 [12, 17] κ H0 H0 := Fr.rf
  obtain ⟨hm, f2239, hd2239, e2239, n2239, v2239⟩ := hps
  have hm8 := hm.2.2.2.2.2.2.2
  have hbd : B0 ≤ dr := (hT.o26 hdT.1).1
  have hDR := hT.dr hdT hd2239
  have hP : va_P D vwCl [(dr, .inl (cs 0, 1383, .inl f2239))] _ := va_P.cons hd2239 va_P.nil
  refine lv_aload_n hx hb dX9_term_0 rfl (lv_at hl 0 rfl) ?_
  have hps : PS D cs w _ (pos) (tl) (er) (4) dr bu g (N) (h) := ⟨hm, f2239, hP 0 _ rfl, e2239, by omega, v2239⟩
  refine cv_v (As := []) (rest := []) (b := w) ⟨hx, hb, hml, hown, hts⟩ (c_X9_factor_d4 hT (w := w) hw hbT hdT hps) (cwV 0 hts gX9_term_X9_factor rfl rfl rfl hdX9_factor_v ⟨Nat.le_of_ble_eq_true rfl, Nat.le_of_ble_eq_true rfl⟩) hN hE hL (rcv10 hN hT hw.1) rfl rfl hl.1 (Nat.le_of_ble_eq_true rfl) dX9_term_1 (Nat.zero_le _) (Nat.zero_le _) (fun H1 locs hL hqr2241 => ?_)
  obtain ⟨hT1, hF1, hqr2241⟩ := hqr2241
  have hF := hF.tr (hF1.mono (by simp))
  have hT := hT1
  obtain ⟨N2242, p2243, er2244, a2245, b2246, z2247, m2248, f2249, d2250, e2251, n2252, v2253⟩ := hqr2241
  have hm := m2248
  have hm8 := hm.2.2.2.2.2.2.2
  have hbd : B0 ≤ dr := (hT.o26 hdT.1).1
  have hDR := hT.dr hdT d2250
  have hP : va_P D vwCl [(dr, .inl (cs 0, 1383, .inl f2249))] _ := va_P.cons d2250 va_P.nil
  have hps : PS D cs w _ (p2243) (tl) (er2244) (4) dr bu g (N2242) ((h + 1)) := ⟨hm, f2249, hP 0 _ rfl, e2251, by omega, v2253⟩
  refine lp_m (α := Nat × Nat × Int32) (nL := 2) (fun a9 => 600 - a9.1) (fun a9 H9 l9 => (PS D cs w H9 a9.1 tl a9.2.2 4 dr bu g a9.2.1 (h + 1)) ∧ (a9.2.1 + 2 * pos ≤ N + 2 * a9.1) ∧ (pos ≤ a9.1) ∧ (a9.2.2 = 0 → er = 0) ∧ (WT B0 D cs T κ H9) ∧ (Fr B0 [12, 17] κ H0 H9) ∧ (OkL B0 l9)) (fun a9 => [(0, .ref w)]) ?_ (p2243, N2242, er2244) _ _ _ ⟨hps, (by show (N2242) + 2 * pos ≤ N + 2 * (p2243); omega), (by show pos ≤ (p2243); omega), (fun e9 => id (z2247 e9)), hT, hF, hL⟩ (lv_sub hl [0] rfl)
  rintro ⟨p, N1, er1⟩ H locs ls ih2255 ⟨hps, hb1, hb2, hz1, hT, hF, hL⟩ hl
  have hl : lv_has ls 2 [(0, .ref w)] := hl
  have hps : PS D cs w H p tl er1 4 dr bu g N1 (h + 1) := hps
  have hb1 : N1 + 2 * pos ≤ N + 2 * p := hb1
  have hb2 : pos ≤ p := hb2
  have hz1 : er1 = 0 → er = 0 := hz1
  obtain ⟨hm, f2256, hd2256, e2256, n2256, v2256⟩ := hps
  have hm8 := hm.2.2.2.2.2.2.2
  have hbd : B0 ≤ dr := (hT.o26 hdT.1).1
  have hDR := hT.dr hdT hd2256
  have hP : va_P D vwCl [(dr, .inl (cs 0, 1383, .inl f2256))] _ := va_P.cons hd2256 va_P.nil
  refine lv_aload_n hx hb dX9_term_4 rfl (lv_at hl 0 rfl) ?_
  refine cv_i (As := []) (rest := []) (b := w) ⟨hx, hb, hml, hown, hts⟩ (c_X9_isGood hT (w := w) hw hbT hdT hm) (cwV 0 hts gX9_term_X9_isGood rfl rfl rfl hdX9_isGood_v ⟨Nat.le_of_ble_eq_true rfl, Nat.le_of_ble_eq_true rfl⟩) hN hE hL (rcv10 hN hT hw.1) rfl rfl hl.1 (Nat.le_of_ble_eq_true rfl) dX9_term_5 (Nat.zero_le _) (Nat.zero_le _) (fun r2258 H1 locs hL hqr2258 => ?_)
  obtain ⟨h9, hqr2258⟩ := hqr2258; replace h9 := h9.symm; subst h9
  rcases hqr2258 with ⟨rfl, e2259⟩ | ⟨rfl, e2260⟩
  · refine lv_if_eq (tgt := 74) hx hb dX9_term_8 (by decide) (fun c9 => absurd c9 (by decide)) (fun _ => ?_)
    refine lv_aload_n hx hb dX9_term_11 rfl (lv_at hl 0 rfl) ?_
    refine cv_i (As := []) (rest := []) (b := w) ⟨hx, hb, hml, hown, hts⟩ (c_X9_ahead hT (w := w) hw hbT hdT hm) (cwV 0 hts gX9_term_X9_ahead rfl rfl rfl hdX9_ahead_v ⟨Nat.le_of_ble_eq_true rfl, Nat.le_of_ble_eq_true rfl⟩) hN hE hL (rcv10 hN hT hw.1) rfl rfl hl.1 (Nat.le_of_ble_eq_true rfl) dX9_term_12 (Nat.zero_le _) (Nat.zero_le _) (fun r2261 H1 locs hL hqr2261 => ?_)
    obtain ⟨hT1, hF1, hqr2261⟩ := hqr2261
    have hP : va_P D vwCl [(dr, .inl (cs 0, 1383, .inl f2256))] _ := hF1.hP (hP.sub [0] rfl) (fa_c ⟨by rw [hdT.1]; decide, by rw [hdT.2]; first | decide | (simp; done) | (simp [h15a, h15b, h15c]; done) | (simp; omega)⟩ fa_n)
    have hF := hF.tr (hF1.mono (by simp))
    have hT := hT1
    obtain ⟨p2262, h2263, m2264, n2265, s2266, rfl⟩ := hqr2261
    have hm := m2264
    have hm8 := hm.2.2.2.2.2.2.2
    refine lv_bipush (v := 42) hx hb dX9_term_15 (by decide) ?_
    refine lv_icmp_eq (tgt := 29) hx hb dX9_term_17 (by decide) (fun c2267 => ?_) (fun c2267 => ?_)
    · have hl9 := byF_c (c2267) (by decide)
      refine lv_aload_n hx hb dX9_term_29 rfl (lv_at hl 0 rfl) ?_
      refine cv_i (As := []) (rest := []) (b := w) ⟨hx, hb, hml, hown, hts⟩ (c_X9_ahead hT (w := w) hw hbT hdT hm) (cwV 0 hts gX9_term_X9_ahead rfl rfl rfl hdX9_ahead_v ⟨Nat.le_of_ble_eq_true rfl, Nat.le_of_ble_eq_true rfl⟩) hN hE hL (rcv10 hN hT hw.1) rfl rfl hl.1 (Nat.le_of_ble_eq_true rfl) dX9_term_30 (Nat.zero_le _) (Nat.zero_le _) (fun r2268 H1 locs hL hqr2268 => ?_)
      obtain ⟨hT1, hF1, hqr2268⟩ := hqr2268
      have hP : va_P D vwCl [(dr, .inl (cs 0, 1383, .inl f2256))] _ := hF1.hP (hP.sub [0] rfl) (fa_c ⟨by rw [hdT.1]; decide, by rw [hdT.2]; first | decide | (simp; done) | (simp [h15a, h15b, h15c]; done) | (simp; omega)⟩ fa_n)
      have hF := hF.tr (hF1.mono (by simp))
      have hT := hT1
      obtain ⟨p2269, h2270, m2271, n2272, s2273, rfl⟩ := hqr2268
      have hm := m2271
      have hpe := s2273 n2265
      rw [hpe] at hm
      refine tp_i (byF g tl p2262) (by rw [hpe]) ?_
      have hm8 := hm.2.2.2.2.2.2.2
      refine lv_bipush (v := 42) hx hb dX9_term_33 (by decide) ?_
      refine lv_icmp_ne (tgt := 42) hx hb dX9_term_35 (by decide) (fun c2274 => ?_) (fun c2274 => ?_)
      · refine lv_iconst (v := 0) hx hb dX9_term_42 (by decide) ?_
        refine lv_istore_n (lv' := [(1, .int 0), (0, .ref w)]) hx hb dX9_term_43 rfl hl (by decide) rfl (fun ls hl => ?_)
        refine lv_aload_n hx hb dX9_term_44 rfl (lv_at hl 1 rfl) ?_
        refine lv_dup hx hb dX9_term_45 rfl ?_
        obtain ⟨hb2275, e2275, hat2275, hk2275⟩ := hT.o10 hw.1
        obtain ⟨f2275_0, f2275_1, f2275_3, f2275_4, f2275_5, f2275_6, f2275_7, f2275_9, f2275_10, f2275_11, f2275_12, f2275_13, f2275_14, f2275_15, f2275_16, f2275_17, rfl, c2275_2, c2275_3, c2275_4, c2275_12, t2275_1, t2275_8, t2275_9, c2275_sd, t2275_10, t2275_11, t2275_17⟩ := hk2275
        obtain ⟨rfl, rfl, rfl, rfl, rfl, rfl⟩ := hm.at hat2275 c2275_3 (by omega)
        have hm8 := hm.2.2.2.2.2.2.2
        have hP : va_P D vwCl [(w, .inr (9, [.int f2275_0, .ref bu, .int (nI ((κ w).2.2.1)), .int (nI tl), .int (nI p2262), .int er1, .int f2275_6, .int f2275_7, .ref (κ w).2.2.2, .ref f2275_9, .ref dr, .ref f2275_11, .int (nI f2275_12), .int f2275_13, .int 4, .int f2275_15, .int f2275_16, .ref f2275_17])), (dr, .inl (cs 0, 1383, .inl f2256))] _ := va_P.cons hat2275 hP
        refine va_get (D := D) (ci := 9) (v := .int (nI p2262)) (C := RX9) (T := TX9) (N := 18) hx hb hts iX9_term_9 hown hN.1 hP 0 rfl rfl 4 (by decide) (hts _ mX9_term_1) (fun _ h9 => h9) rfl dX9_term_46 ?_
        refine lv_iconst (v := 1) hx hb dX9_term_49 (by decide) ?_
        refine lv_iadd hx hb dX9_term_50 ?_
        refine tp_i (nI (p2262 + 1)) (nI_add p2262 1) ?_
        have hB : Bx B0 D _ [(w, .inr (9, [.int f2275_0, .ref bu, .int (nI ((κ w).2.2.1)), .int (nI tl), .int (nI p2262), .int er1, .int f2275_6, .int f2275_7, .ref (κ w).2.2.2, .ref f2275_9, .ref dr, .ref f2275_11, .int (nI f2275_12), .int f2275_13, .int 4, .int f2275_15, .int f2275_16, .ref f2275_17])), (dr, .inl (cs 0, 1383, .inl f2256))] [] _ _ := Bx.of (fun a => (κ a).1) hL hP (fa_c hb2275 (fa_c hbd fa_n)) (by simp only [List.map_cons, List.map_nil, hw.1, hdT.1]; decide)
        refine b_put (D := D) (ci := 9) (v := .int (nI (p2262 + 1))) (ty := .int) (C := RX9) (T := TX9) (N := 18) hx hb hts iX9_term_9 tyX9 tyX9_ok nmX9 hown hN hB 0 rfl rfl 4 (by decide) (hts _ mX9_term_1) (fun _ h9 => h9) rfl (by decide +kernel) rfl rfl (Nat.le_of_ble_eq_true rfl) (.inl rfl) dX9_term_51 (fun H locs hB => ?_)
        have hB : Bx B0 D _ [(w, .inr (9, [.int f2275_0, .ref bu, .int (nI ((κ w).2.2.1)), .int (nI tl), .int (nI (p2262 + 1)), .int er1, .int f2275_6, .int f2275_7, .ref (κ w).2.2.2, .ref f2275_9, .ref dr, .ref f2275_11, .int (nI f2275_12), .int f2275_13, .int 4, .int f2275_15, .int f2275_16, .ref f2275_17])), (dr, .inl (cs 0, 1383, .inl f2256))] [w] _ _ := hB
        refine lv_aload_n hx hb dX9_term_54 rfl (lv_at hl 1 rfl) ?_
        have hT : WT B0 D cs T κ _ := hT.close hB ⟨⟨0, _, rfl, ok_10 hw.1 ⟨_, _, _, _, _, _, _, _, _, _, _, _, _, _, _, _, rfl, (by omega), (by omega), (by omega), (by omega), hbT, t2275_8, t2275_9, c2275_sd, hdT, t2275_11, t2275_17⟩⟩, trivial⟩
        have hF : Fr B0 [12, 17] κ H0 _ := hF.close hB (fa_c (by simp [hw.2]) fa_n)
        have hL : OkL B0 _ := hB.2.2.2.2.2
        have hP : va_P D vwCl [(w, .inr (9, [.int f2275_0, .ref bu, .int (nI ((κ w).2.2.1)), .int (nI tl), .int (nI (p2262 + 1)), .int er1, .int f2275_6, .int f2275_7, .ref (κ w).2.2.2, .ref f2275_9, .ref dr, .ref f2275_11, .int (nI f2275_12), .int f2275_13, .int 4, .int f2275_15, .int f2275_16, .ref f2275_17])), (dr, .inl (cs 0, 1383, .inl f2256))] _ := hB.1
        have hbu9 := (hm.2.2.2.2.2.2.1).kept (hB.2.2.2.1 _ hm.2.2.2.2.2.2.1.lt (by simp only [List.mem_cons, List.not_mem_nil, or_false, not_or]; exact ne_c hbT.1 hw.1 (by decide)))
        have hm : MF D cs w _ ((p2262 + 1)) (tl) (er1) (4) dr bu g := ⟨⟨_, hP 0 _ rfl, rfl⟩, ⟨_, hP 0 _ rfl, rfl⟩, ⟨_, hP 0 _ rfl, rfl⟩, ⟨_, hP 0 _ rfl, rfl⟩, ⟨_, hP 0 _ rfl, rfl⟩, ⟨_, hP 0 _ rfl, rfl⟩, hbu9, (by omega), (by omega)⟩
        have hps : PS D cs w _ ((p2262 + 1)) (tl) (er1) (4) dr bu g (N1) ((h + 1)) := ⟨hm, f2256, hP 1 _ rfl, e2256, by omega, v2256⟩
        refine cv_v (As := []) (rest := []) (b := w) ⟨hx, hb, hml, hown, hts⟩ (c_X9_factor_d4 hT (w := w) hw hbT hdT hps) (cwV 0 hts gX9_term_X9_factor rfl rfl rfl hdX9_factor_v ⟨Nat.le_of_ble_eq_true rfl, Nat.le_of_ble_eq_true rfl⟩) hN hE hL (rcv10 hN hT hw.1) rfl rfl hl.1 (Nat.le_of_ble_eq_true rfl) dX9_term_55 (Nat.zero_le _) (Nat.zero_le _) (fun H1 locs hL hqr2276 => ?_)
        obtain ⟨hT1, hF1, hqr2276⟩ := hqr2276
        have hF := hF.tr (hF1.mono (by simp))
        have hT := hT1
        obtain ⟨N2277, p2278, er2279, a2280, b2281, z2282, m2283, f2284, d2285, e2286, n2287, v2288⟩ := hqr2276
        have hm := m2283
        have hm8 := hm.2.2.2.2.2.2.2
        have hbd : B0 ≤ dr := (hT.o26 hdT.1).1
        have hDR := hT.dr hdT d2285
        have hP : va_P D vwCl [(dr, .inl (cs 0, 1383, .inl f2284))] _ := va_P.cons d2285 va_P.nil
        refine lv_aload_n hx hb dX9_term_58 rfl (lv_at hl 1 rfl) ?_
        refine lv_iload_n hx hb dX9_term_59 rfl (lv_at hl 0 rfl) ?_
        refine lv_if_eq (tgt := 67) hx hb dX9_term_60 (by decide) (fun _ => ?_) (fun c9 => absurd (by decide) c9)
        refine lv_iconst (v := 5) hx hb dX9_term_67 (by decide) ?_
        refine cv_v (As := [.int 5]) (rest := []) (b := w) ⟨hx, hb, hml, hown, hts⟩ (c_X9_emit hT (w := w) hw (x := 5) hbT hdT hm (hP 0 _ rfl) e2286 (fun _ => by omega)) (cwV 1 hts gX9_term_X9_emit rfl rfl rfl hdX9_emit_v ⟨Nat.le_of_ble_eq_true rfl, Nat.le_of_ble_eq_true rfl⟩) hN hE hL (rcv10 hN hT hw.1) rfl rfl hl.1 (Nat.le_of_ble_eq_true rfl) dX9_term_68 (Nat.zero_le _) (Nat.zero_le _) (fun H1 locs hL hqr2290 => ?_)
        obtain ⟨hT1, hF1, hqr2290⟩ := hqr2290
        have hF := hF.tr (hF1.mono (by simp))
        have hT := hT1
        obtain ⟨f2291, N2292, d2293, e2294, x2295, m2296⟩ := hqr2290
        have hm := m2296
        have hm8 := hm.2.2.2.2.2.2.2
        have nx2295 := x2295.n
        have ox2295 := nx2295.1
        have hbd : B0 ≤ dr := (hT.o26 hdT.1).1
        have hDR := hT.dr hdT d2293
        have hP : va_P D vwCl [(dr, .inl (cs 0, 1383, .inl f2291))] _ := va_P.cons d2293 va_P.nil
        refine lv_goto (tgt := 4) hx hb dX9_term_71 (by decide) ?_
        have hps : PS D cs w _ (p2278) (tl) (er2279) (4) dr bu g (N2292) ((h + 1)) := ⟨hm, f2291, hP 0 _ rfl, e2294, by omega, (EM.op x2295 (by decide) v2288)⟩
        exact ih2255 (p2278, N2292, er2279) _ _ _ (by show 600 - (p2278) < 600 - p; omega) ⟨hps, (by show (N2292) + 2 * pos ≤ N + 2 * (p2278); omega), (by show pos ≤ (p2278); omega), (fun e9 => hz1 (z2282 e9)), hT, hF, hL⟩ (lv_sub hl [1] rfl)
      · refine lv_iconst (v := 1) hx hb dX9_term_38 (by decide) ?_
        refine lv_goto (tgt := 43) hx hb dX9_term_39 (by decide) ?_
        refine lv_istore_n (lv' := [(1, .int 1), (0, .ref w)]) hx hb dX9_term_43 rfl hl (by decide) rfl (fun ls hl => ?_)
        refine lv_aload_n hx hb dX9_term_44 rfl (lv_at hl 1 rfl) ?_
        refine lv_dup hx hb dX9_term_45 rfl ?_
        obtain ⟨hb2298, e2298, hat2298, hk2298⟩ := hT.o10 hw.1
        obtain ⟨f2298_0, f2298_1, f2298_3, f2298_4, f2298_5, f2298_6, f2298_7, f2298_9, f2298_10, f2298_11, f2298_12, f2298_13, f2298_14, f2298_15, f2298_16, f2298_17, rfl, c2298_2, c2298_3, c2298_4, c2298_12, t2298_1, t2298_8, t2298_9, c2298_sd, t2298_10, t2298_11, t2298_17⟩ := hk2298
        obtain ⟨rfl, rfl, rfl, rfl, rfl, rfl⟩ := hm.at hat2298 c2298_3 (by omega)
        have hm8 := hm.2.2.2.2.2.2.2
        have hP : va_P D vwCl [(w, .inr (9, [.int f2298_0, .ref bu, .int (nI ((κ w).2.2.1)), .int (nI tl), .int (nI p2262), .int er1, .int f2298_6, .int f2298_7, .ref (κ w).2.2.2, .ref f2298_9, .ref dr, .ref f2298_11, .int (nI f2298_12), .int f2298_13, .int 4, .int f2298_15, .int f2298_16, .ref f2298_17])), (dr, .inl (cs 0, 1383, .inl f2256))] _ := va_P.cons hat2298 hP
        refine va_get (D := D) (ci := 9) (v := .int (nI p2262)) (C := RX9) (T := TX9) (N := 18) hx hb hts iX9_term_9 hown hN.1 hP 0 rfl rfl 4 (by decide) (hts _ mX9_term_1) (fun _ h9 => h9) rfl dX9_term_46 ?_
        refine lv_iconst (v := 1) hx hb dX9_term_49 (by decide) ?_
        refine lv_iadd hx hb dX9_term_50 ?_
        refine tp_i (nI (p2262 + 1)) (nI_add p2262 1) ?_
        have hB : Bx B0 D _ [(w, .inr (9, [.int f2298_0, .ref bu, .int (nI ((κ w).2.2.1)), .int (nI tl), .int (nI p2262), .int er1, .int f2298_6, .int f2298_7, .ref (κ w).2.2.2, .ref f2298_9, .ref dr, .ref f2298_11, .int (nI f2298_12), .int f2298_13, .int 4, .int f2298_15, .int f2298_16, .ref f2298_17])), (dr, .inl (cs 0, 1383, .inl f2256))] [] _ _ := Bx.of (fun a => (κ a).1) hL hP (fa_c hb2298 (fa_c hbd fa_n)) (by simp only [List.map_cons, List.map_nil, hw.1, hdT.1]; decide)
        refine b_put (D := D) (ci := 9) (v := .int (nI (p2262 + 1))) (ty := .int) (C := RX9) (T := TX9) (N := 18) hx hb hts iX9_term_9 tyX9 tyX9_ok nmX9 hown hN hB 0 rfl rfl 4 (by decide) (hts _ mX9_term_1) (fun _ h9 => h9) rfl (by decide +kernel) rfl rfl (Nat.le_of_ble_eq_true rfl) (.inl rfl) dX9_term_51 (fun H locs hB => ?_)
        have hB : Bx B0 D _ [(w, .inr (9, [.int f2298_0, .ref bu, .int (nI ((κ w).2.2.1)), .int (nI tl), .int (nI (p2262 + 1)), .int er1, .int f2298_6, .int f2298_7, .ref (κ w).2.2.2, .ref f2298_9, .ref dr, .ref f2298_11, .int (nI f2298_12), .int f2298_13, .int 4, .int f2298_15, .int f2298_16, .ref f2298_17])), (dr, .inl (cs 0, 1383, .inl f2256))] [w] _ _ := hB
        refine lv_aload_n hx hb dX9_term_54 rfl (lv_at hl 1 rfl) ?_
        have hT : WT B0 D cs T κ _ := hT.close hB ⟨⟨0, _, rfl, ok_10 hw.1 ⟨_, _, _, _, _, _, _, _, _, _, _, _, _, _, _, _, rfl, (by omega), (by omega), (by omega), (by omega), hbT, t2298_8, t2298_9, c2298_sd, hdT, t2298_11, t2298_17⟩⟩, trivial⟩
        have hF : Fr B0 [12, 17] κ H0 _ := hF.close hB (fa_c (by simp [hw.2]) fa_n)
        have hL : OkL B0 _ := hB.2.2.2.2.2
        have hP : va_P D vwCl [(w, .inr (9, [.int f2298_0, .ref bu, .int (nI ((κ w).2.2.1)), .int (nI tl), .int (nI (p2262 + 1)), .int er1, .int f2298_6, .int f2298_7, .ref (κ w).2.2.2, .ref f2298_9, .ref dr, .ref f2298_11, .int (nI f2298_12), .int f2298_13, .int 4, .int f2298_15, .int f2298_16, .ref f2298_17])), (dr, .inl (cs 0, 1383, .inl f2256))] _ := hB.1
        have hbu9 := (hm.2.2.2.2.2.2.1).kept (hB.2.2.2.1 _ hm.2.2.2.2.2.2.1.lt (by simp only [List.mem_cons, List.not_mem_nil, or_false, not_or]; exact ne_c hbT.1 hw.1 (by decide)))
        have hm : MF D cs w _ ((p2262 + 1)) (tl) (er1) (4) dr bu g := ⟨⟨_, hP 0 _ rfl, rfl⟩, ⟨_, hP 0 _ rfl, rfl⟩, ⟨_, hP 0 _ rfl, rfl⟩, ⟨_, hP 0 _ rfl, rfl⟩, ⟨_, hP 0 _ rfl, rfl⟩, ⟨_, hP 0 _ rfl, rfl⟩, hbu9, (by omega), (by omega)⟩
        have hps : PS D cs w _ ((p2262 + 1)) (tl) (er1) (4) dr bu g (N1) ((h + 1)) := ⟨hm, f2256, hP 1 _ rfl, e2256, by omega, v2256⟩
        refine cv_v (As := []) (rest := []) (b := w) ⟨hx, hb, hml, hown, hts⟩ (c_X9_factor_d4 hT (w := w) hw hbT hdT hps) (cwV 0 hts gX9_term_X9_factor rfl rfl rfl hdX9_factor_v ⟨Nat.le_of_ble_eq_true rfl, Nat.le_of_ble_eq_true rfl⟩) hN hE hL (rcv10 hN hT hw.1) rfl rfl hl.1 (Nat.le_of_ble_eq_true rfl) dX9_term_55 (Nat.zero_le _) (Nat.zero_le _) (fun H1 locs hL hqr2299 => ?_)
        obtain ⟨hT1, hF1, hqr2299⟩ := hqr2299
        have hF := hF.tr (hF1.mono (by simp))
        have hT := hT1
        obtain ⟨N2300, p2301, er2302, a2303, b2304, z2305, m2306, f2307, d2308, e2309, n2310, v2311⟩ := hqr2299
        have hm := m2306
        have hm8 := hm.2.2.2.2.2.2.2
        have hbd : B0 ≤ dr := (hT.o26 hdT.1).1
        have hDR := hT.dr hdT d2308
        have hP : va_P D vwCl [(dr, .inl (cs 0, 1383, .inl f2307))] _ := va_P.cons d2308 va_P.nil
        refine lv_aload_n hx hb dX9_term_58 rfl (lv_at hl 1 rfl) ?_
        refine lv_iload_n hx hb dX9_term_59 rfl (lv_at hl 0 rfl) ?_
        refine lv_if_eq (tgt := 67) hx hb dX9_term_60 (by decide) (fun c9 => absurd c9 (by decide)) (fun _ => ?_)
        refine lv_iconst (v := 4) hx hb dX9_term_63 (by decide) ?_
        refine lv_goto (tgt := 68) hx hb dX9_term_64 (by decide) ?_
        refine cv_v (As := [.int 4]) (rest := []) (b := w) ⟨hx, hb, hml, hown, hts⟩ (c_X9_emit hT (w := w) hw (x := 4) hbT hdT hm (hP 0 _ rfl) e2309 (fun _ => by omega)) (cwV 1 hts gX9_term_X9_emit rfl rfl rfl hdX9_emit_v ⟨Nat.le_of_ble_eq_true rfl, Nat.le_of_ble_eq_true rfl⟩) hN hE hL (rcv10 hN hT hw.1) rfl rfl hl.1 (Nat.le_of_ble_eq_true rfl) dX9_term_68 (Nat.zero_le _) (Nat.zero_le _) (fun H1 locs hL hqr2313 => ?_)
        obtain ⟨hT1, hF1, hqr2313⟩ := hqr2313
        have hF := hF.tr (hF1.mono (by simp))
        have hT := hT1
        obtain ⟨f2314, N2315, d2316, e2317, x2318, m2319⟩ := hqr2313
        have hm := m2319
        have hm8 := hm.2.2.2.2.2.2.2
        have nx2318 := x2318.n
        have ox2318 := nx2318.1
        have hbd : B0 ≤ dr := (hT.o26 hdT.1).1
        have hDR := hT.dr hdT d2316
        have hP : va_P D vwCl [(dr, .inl (cs 0, 1383, .inl f2314))] _ := va_P.cons d2316 va_P.nil
        refine lv_goto (tgt := 4) hx hb dX9_term_71 (by decide) ?_
        have hps : PS D cs w _ (p2301) (tl) (er2302) (4) dr bu g (N2315) ((h + 1)) := ⟨hm, f2314, hP 0 _ rfl, e2317, by omega, (EM.op x2318 (by decide) v2311)⟩
        exact ih2255 (p2301, N2315, er2302) _ _ _ (by show 600 - (p2301) < 600 - p; omega) ⟨hps, (by show (N2315) + 2 * pos ≤ N + 2 * (p2301); omega), (by show pos ≤ (p2301); omega), (fun e9 => hz1 (z2305 e9)), hT, hF, hL⟩ (lv_sub hl [1] rfl)
    · refine lv_aload_n hx hb dX9_term_20 rfl (lv_at hl 0 rfl) ?_
      refine cv_i (As := []) (rest := []) (b := w) ⟨hx, hb, hml, hown, hts⟩ (c_X9_ahead hT (w := w) hw hbT hdT hm) (cwV 0 hts gX9_term_X9_ahead rfl rfl rfl hdX9_ahead_v ⟨Nat.le_of_ble_eq_true rfl, Nat.le_of_ble_eq_true rfl⟩) hN hE hL (rcv10 hN hT hw.1) rfl rfl hl.1 (Nat.le_of_ble_eq_true rfl) dX9_term_21 (Nat.zero_le _) (Nat.zero_le _) (fun r2321 H1 locs hL hqr2321 => ?_)
      obtain ⟨hT1, hF1, hqr2321⟩ := hqr2321
      have hP : va_P D vwCl [(dr, .inl (cs 0, 1383, .inl f2256))] _ := hF1.hP (hP.sub [0] rfl) (fa_c ⟨by rw [hdT.1]; decide, by rw [hdT.2]; first | decide | (simp; done) | (simp [h15a, h15b, h15c]; done) | (simp; omega)⟩ fa_n)
      have hF := hF.tr (hF1.mono (by simp))
      have hT := hT1
      obtain ⟨p2322, h2323, m2324, n2325, s2326, rfl⟩ := hqr2321
      have hm := m2324
      have hpe := s2326 n2265
      rw [hpe] at hm
      refine tp_i (byF g tl p2262) (by rw [hpe]) ?_
      have hm8 := hm.2.2.2.2.2.2.2
      refine lv_bipush (v := 47) hx hb dX9_term_24 (by decide) ?_
      refine lv_icmp_ne (tgt := 74) hx hb dX9_term_26 (by decide) (fun c2327 => ?_) (fun c2327 => ?_)
      · have hps : PS D cs w _ (p2262) (tl) (er1) (4) dr bu g (N1) ((h + 1)) := ⟨hm, f2256, hP 0 _ rfl, e2256, by omega, v2256⟩
        exact en_v hx hb hr hlocks hL (Nat.zero_le _) (Nat.zero_le _) dX9_term_74 (⟨hT, hF, N1, p2262, er1, (by omega), (by omega), hz1, hps⟩)
      · have hl9 := byF_c (c2327) (by decide)
        refine lv_aload_n hx hb dX9_term_29 rfl (lv_at hl 0 rfl) ?_
        refine cv_i (As := []) (rest := []) (b := w) ⟨hx, hb, hml, hown, hts⟩ (c_X9_ahead hT (w := w) hw hbT hdT hm) (cwV 0 hts gX9_term_X9_ahead rfl rfl rfl hdX9_ahead_v ⟨Nat.le_of_ble_eq_true rfl, Nat.le_of_ble_eq_true rfl⟩) hN hE hL (rcv10 hN hT hw.1) rfl rfl hl.1 (Nat.le_of_ble_eq_true rfl) dX9_term_30 (Nat.zero_le _) (Nat.zero_le _) (fun r2328 H1 locs hL hqr2328 => ?_)
        obtain ⟨hT1, hF1, hqr2328⟩ := hqr2328
        have hP : va_P D vwCl [(dr, .inl (cs 0, 1383, .inl f2256))] _ := hF1.hP (hP.sub [0] rfl) (fa_c ⟨by rw [hdT.1]; decide, by rw [hdT.2]; first | decide | (simp; done) | (simp [h15a, h15b, h15c]; done) | (simp; omega)⟩ fa_n)
        have hF := hF.tr (hF1.mono (by simp))
        have hT := hT1
        obtain ⟨p2329, h2330, m2331, n2332, s2333, rfl⟩ := hqr2328
        have hm := m2331
        have hpe := s2333 n2265
        rw [hpe] at hm
        refine tp_i (byF g tl p2262) (by rw [hpe]) ?_
        have hm8 := hm.2.2.2.2.2.2.2
        refine lv_bipush (v := 42) hx hb dX9_term_33 (by decide) ?_
        refine lv_icmp_ne (tgt := 42) hx hb dX9_term_35 (by decide) (fun c2334 => ?_) (fun c2334 => ?_)
        · refine lv_iconst (v := 0) hx hb dX9_term_42 (by decide) ?_
          refine lv_istore_n (lv' := [(1, .int 0), (0, .ref w)]) hx hb dX9_term_43 rfl hl (by decide) rfl (fun ls hl => ?_)
          refine lv_aload_n hx hb dX9_term_44 rfl (lv_at hl 1 rfl) ?_
          refine lv_dup hx hb dX9_term_45 rfl ?_
          obtain ⟨hb2335, e2335, hat2335, hk2335⟩ := hT.o10 hw.1
          obtain ⟨f2335_0, f2335_1, f2335_3, f2335_4, f2335_5, f2335_6, f2335_7, f2335_9, f2335_10, f2335_11, f2335_12, f2335_13, f2335_14, f2335_15, f2335_16, f2335_17, rfl, c2335_2, c2335_3, c2335_4, c2335_12, t2335_1, t2335_8, t2335_9, c2335_sd, t2335_10, t2335_11, t2335_17⟩ := hk2335
          obtain ⟨rfl, rfl, rfl, rfl, rfl, rfl⟩ := hm.at hat2335 c2335_3 (by omega)
          have hm8 := hm.2.2.2.2.2.2.2
          have hP : va_P D vwCl [(w, .inr (9, [.int f2335_0, .ref bu, .int (nI ((κ w).2.2.1)), .int (nI tl), .int (nI p2262), .int er1, .int f2335_6, .int f2335_7, .ref (κ w).2.2.2, .ref f2335_9, .ref dr, .ref f2335_11, .int (nI f2335_12), .int f2335_13, .int 4, .int f2335_15, .int f2335_16, .ref f2335_17])), (dr, .inl (cs 0, 1383, .inl f2256))] _ := va_P.cons hat2335 hP
          refine va_get (D := D) (ci := 9) (v := .int (nI p2262)) (C := RX9) (T := TX9) (N := 18) hx hb hts iX9_term_9 hown hN.1 hP 0 rfl rfl 4 (by decide) (hts _ mX9_term_1) (fun _ h9 => h9) rfl dX9_term_46 ?_
          refine lv_iconst (v := 1) hx hb dX9_term_49 (by decide) ?_
          refine lv_iadd hx hb dX9_term_50 ?_
          refine tp_i (nI (p2262 + 1)) (nI_add p2262 1) ?_
          have hB : Bx B0 D _ [(w, .inr (9, [.int f2335_0, .ref bu, .int (nI ((κ w).2.2.1)), .int (nI tl), .int (nI p2262), .int er1, .int f2335_6, .int f2335_7, .ref (κ w).2.2.2, .ref f2335_9, .ref dr, .ref f2335_11, .int (nI f2335_12), .int f2335_13, .int 4, .int f2335_15, .int f2335_16, .ref f2335_17])), (dr, .inl (cs 0, 1383, .inl f2256))] [] _ _ := Bx.of (fun a => (κ a).1) hL hP (fa_c hb2335 (fa_c hbd fa_n)) (by simp only [List.map_cons, List.map_nil, hw.1, hdT.1]; decide)
          refine b_put (D := D) (ci := 9) (v := .int (nI (p2262 + 1))) (ty := .int) (C := RX9) (T := TX9) (N := 18) hx hb hts iX9_term_9 tyX9 tyX9_ok nmX9 hown hN hB 0 rfl rfl 4 (by decide) (hts _ mX9_term_1) (fun _ h9 => h9) rfl (by decide +kernel) rfl rfl (Nat.le_of_ble_eq_true rfl) (.inl rfl) dX9_term_51 (fun H locs hB => ?_)
          have hB : Bx B0 D _ [(w, .inr (9, [.int f2335_0, .ref bu, .int (nI ((κ w).2.2.1)), .int (nI tl), .int (nI (p2262 + 1)), .int er1, .int f2335_6, .int f2335_7, .ref (κ w).2.2.2, .ref f2335_9, .ref dr, .ref f2335_11, .int (nI f2335_12), .int f2335_13, .int 4, .int f2335_15, .int f2335_16, .ref f2335_17])), (dr, .inl (cs 0, 1383, .inl f2256))] [w] _ _ := hB
          refine lv_aload_n hx hb dX9_term_54 rfl (lv_at hl 1 rfl) ?_
          have hT : WT B0 D cs T κ _ := hT.close hB ⟨⟨0, _, rfl, ok_10 hw.1 ⟨_, _, _, _, _, _, _, _, _, _, _, _, _, _, _, _, rfl, (by omega), (by omega), (by omega), (by omega), hbT, t2335_8, t2335_9, c2335_sd, hdT, t2335_11, t2335_17⟩⟩, trivial⟩
          have hF : Fr B0 [12, 17] κ H0 _ := hF.close hB (fa_c (by simp [hw.2]) fa_n)
          have hL : OkL B0 _ := hB.2.2.2.2.2
          have hP : va_P D vwCl [(w, .inr (9, [.int f2335_0, .ref bu, .int (nI ((κ w).2.2.1)), .int (nI tl), .int (nI (p2262 + 1)), .int er1, .int f2335_6, .int f2335_7, .ref (κ w).2.2.2, .ref f2335_9, .ref dr, .ref f2335_11, .int (nI f2335_12), .int f2335_13, .int 4, .int f2335_15, .int f2335_16, .ref f2335_17])), (dr, .inl (cs 0, 1383, .inl f2256))] _ := hB.1
          have hbu9 := (hm.2.2.2.2.2.2.1).kept (hB.2.2.2.1 _ hm.2.2.2.2.2.2.1.lt (by simp only [List.mem_cons, List.not_mem_nil, or_false, not_or]; exact ne_c hbT.1 hw.1 (by decide)))
          have hm : MF D cs w _ ((p2262 + 1)) (tl) (er1) (4) dr bu g := ⟨⟨_, hP 0 _ rfl, rfl⟩, ⟨_, hP 0 _ rfl, rfl⟩, ⟨_, hP 0 _ rfl, rfl⟩, ⟨_, hP 0 _ rfl, rfl⟩, ⟨_, hP 0 _ rfl, rfl⟩, ⟨_, hP 0 _ rfl, rfl⟩, hbu9, (by omega), (by omega)⟩
          have hps : PS D cs w _ ((p2262 + 1)) (tl) (er1) (4) dr bu g (N1) ((h + 1)) := ⟨hm, f2256, hP 1 _ rfl, e2256, by omega, v2256⟩
          refine cv_v (As := []) (rest := []) (b := w) ⟨hx, hb, hml, hown, hts⟩ (c_X9_factor_d4 hT (w := w) hw hbT hdT hps) (cwV 0 hts gX9_term_X9_factor rfl rfl rfl hdX9_factor_v ⟨Nat.le_of_ble_eq_true rfl, Nat.le_of_ble_eq_true rfl⟩) hN hE hL (rcv10 hN hT hw.1) rfl rfl hl.1 (Nat.le_of_ble_eq_true rfl) dX9_term_55 (Nat.zero_le _) (Nat.zero_le _) (fun H1 locs hL hqr2336 => ?_)
          obtain ⟨hT1, hF1, hqr2336⟩ := hqr2336
          have hF := hF.tr (hF1.mono (by simp))
          have hT := hT1
          obtain ⟨N2337, p2338, er2339, a2340, b2341, z2342, m2343, f2344, d2345, e2346, n2347, v2348⟩ := hqr2336
          have hm := m2343
          have hm8 := hm.2.2.2.2.2.2.2
          have hbd : B0 ≤ dr := (hT.o26 hdT.1).1
          have hDR := hT.dr hdT d2345
          have hP : va_P D vwCl [(dr, .inl (cs 0, 1383, .inl f2344))] _ := va_P.cons d2345 va_P.nil
          refine lv_aload_n hx hb dX9_term_58 rfl (lv_at hl 1 rfl) ?_
          refine lv_iload_n hx hb dX9_term_59 rfl (lv_at hl 0 rfl) ?_
          refine lv_if_eq (tgt := 67) hx hb dX9_term_60 (by decide) (fun _ => ?_) (fun c9 => absurd (by decide) c9)
          refine lv_iconst (v := 5) hx hb dX9_term_67 (by decide) ?_
          refine cv_v (As := [.int 5]) (rest := []) (b := w) ⟨hx, hb, hml, hown, hts⟩ (c_X9_emit hT (w := w) hw (x := 5) hbT hdT hm (hP 0 _ rfl) e2346 (fun _ => by omega)) (cwV 1 hts gX9_term_X9_emit rfl rfl rfl hdX9_emit_v ⟨Nat.le_of_ble_eq_true rfl, Nat.le_of_ble_eq_true rfl⟩) hN hE hL (rcv10 hN hT hw.1) rfl rfl hl.1 (Nat.le_of_ble_eq_true rfl) dX9_term_68 (Nat.zero_le _) (Nat.zero_le _) (fun H1 locs hL hqr2350 => ?_)
          obtain ⟨hT1, hF1, hqr2350⟩ := hqr2350
          have hF := hF.tr (hF1.mono (by simp))
          have hT := hT1
          obtain ⟨f2351, N2352, d2353, e2354, x2355, m2356⟩ := hqr2350
          have hm := m2356
          have hm8 := hm.2.2.2.2.2.2.2
          have nx2355 := x2355.n
          have ox2355 := nx2355.1
          have hbd : B0 ≤ dr := (hT.o26 hdT.1).1
          have hDR := hT.dr hdT d2353
          have hP : va_P D vwCl [(dr, .inl (cs 0, 1383, .inl f2351))] _ := va_P.cons d2353 va_P.nil
          refine lv_goto (tgt := 4) hx hb dX9_term_71 (by decide) ?_
          have hps : PS D cs w _ (p2338) (tl) (er2339) (4) dr bu g (N2352) ((h + 1)) := ⟨hm, f2351, hP 0 _ rfl, e2354, by omega, (EM.op x2355 (by decide) v2348)⟩
          exact ih2255 (p2338, N2352, er2339) _ _ _ (by show 600 - (p2338) < 600 - p; omega) ⟨hps, (by show (N2352) + 2 * pos ≤ N + 2 * (p2338); omega), (by show pos ≤ (p2338); omega), (fun e9 => hz1 (z2342 e9)), hT, hF, hL⟩ (lv_sub hl [1] rfl)
        · refine lv_iconst (v := 1) hx hb dX9_term_38 (by decide) ?_
          refine lv_goto (tgt := 43) hx hb dX9_term_39 (by decide) ?_
          refine lv_istore_n (lv' := [(1, .int 1), (0, .ref w)]) hx hb dX9_term_43 rfl hl (by decide) rfl (fun ls hl => ?_)
          refine lv_aload_n hx hb dX9_term_44 rfl (lv_at hl 1 rfl) ?_
          refine lv_dup hx hb dX9_term_45 rfl ?_
          obtain ⟨hb2358, e2358, hat2358, hk2358⟩ := hT.o10 hw.1
          obtain ⟨f2358_0, f2358_1, f2358_3, f2358_4, f2358_5, f2358_6, f2358_7, f2358_9, f2358_10, f2358_11, f2358_12, f2358_13, f2358_14, f2358_15, f2358_16, f2358_17, rfl, c2358_2, c2358_3, c2358_4, c2358_12, t2358_1, t2358_8, t2358_9, c2358_sd, t2358_10, t2358_11, t2358_17⟩ := hk2358
          obtain ⟨rfl, rfl, rfl, rfl, rfl, rfl⟩ := hm.at hat2358 c2358_3 (by omega)
          have hm8 := hm.2.2.2.2.2.2.2
          have hP : va_P D vwCl [(w, .inr (9, [.int f2358_0, .ref bu, .int (nI ((κ w).2.2.1)), .int (nI tl), .int (nI p2262), .int er1, .int f2358_6, .int f2358_7, .ref (κ w).2.2.2, .ref f2358_9, .ref dr, .ref f2358_11, .int (nI f2358_12), .int f2358_13, .int 4, .int f2358_15, .int f2358_16, .ref f2358_17])), (dr, .inl (cs 0, 1383, .inl f2256))] _ := va_P.cons hat2358 hP
          refine va_get (D := D) (ci := 9) (v := .int (nI p2262)) (C := RX9) (T := TX9) (N := 18) hx hb hts iX9_term_9 hown hN.1 hP 0 rfl rfl 4 (by decide) (hts _ mX9_term_1) (fun _ h9 => h9) rfl dX9_term_46 ?_
          refine lv_iconst (v := 1) hx hb dX9_term_49 (by decide) ?_
          refine lv_iadd hx hb dX9_term_50 ?_
          refine tp_i (nI (p2262 + 1)) (nI_add p2262 1) ?_
          have hB : Bx B0 D _ [(w, .inr (9, [.int f2358_0, .ref bu, .int (nI ((κ w).2.2.1)), .int (nI tl), .int (nI p2262), .int er1, .int f2358_6, .int f2358_7, .ref (κ w).2.2.2, .ref f2358_9, .ref dr, .ref f2358_11, .int (nI f2358_12), .int f2358_13, .int 4, .int f2358_15, .int f2358_16, .ref f2358_17])), (dr, .inl (cs 0, 1383, .inl f2256))] [] _ _ := Bx.of (fun a => (κ a).1) hL hP (fa_c hb2358 (fa_c hbd fa_n)) (by simp only [List.map_cons, List.map_nil, hw.1, hdT.1]; decide)
          refine b_put (D := D) (ci := 9) (v := .int (nI (p2262 + 1))) (ty := .int) (C := RX9) (T := TX9) (N := 18) hx hb hts iX9_term_9 tyX9 tyX9_ok nmX9 hown hN hB 0 rfl rfl 4 (by decide) (hts _ mX9_term_1) (fun _ h9 => h9) rfl (by decide +kernel) rfl rfl (Nat.le_of_ble_eq_true rfl) (.inl rfl) dX9_term_51 (fun H locs hB => ?_)
          have hB : Bx B0 D _ [(w, .inr (9, [.int f2358_0, .ref bu, .int (nI ((κ w).2.2.1)), .int (nI tl), .int (nI (p2262 + 1)), .int er1, .int f2358_6, .int f2358_7, .ref (κ w).2.2.2, .ref f2358_9, .ref dr, .ref f2358_11, .int (nI f2358_12), .int f2358_13, .int 4, .int f2358_15, .int f2358_16, .ref f2358_17])), (dr, .inl (cs 0, 1383, .inl f2256))] [w] _ _ := hB
          refine lv_aload_n hx hb dX9_term_54 rfl (lv_at hl 1 rfl) ?_
          have hT : WT B0 D cs T κ _ := hT.close hB ⟨⟨0, _, rfl, ok_10 hw.1 ⟨_, _, _, _, _, _, _, _, _, _, _, _, _, _, _, _, rfl, (by omega), (by omega), (by omega), (by omega), hbT, t2358_8, t2358_9, c2358_sd, hdT, t2358_11, t2358_17⟩⟩, trivial⟩
          have hF : Fr B0 [12, 17] κ H0 _ := hF.close hB (fa_c (by simp [hw.2]) fa_n)
          have hL : OkL B0 _ := hB.2.2.2.2.2
          have hP : va_P D vwCl [(w, .inr (9, [.int f2358_0, .ref bu, .int (nI ((κ w).2.2.1)), .int (nI tl), .int (nI (p2262 + 1)), .int er1, .int f2358_6, .int f2358_7, .ref (κ w).2.2.2, .ref f2358_9, .ref dr, .ref f2358_11, .int (nI f2358_12), .int f2358_13, .int 4, .int f2358_15, .int f2358_16, .ref f2358_17])), (dr, .inl (cs 0, 1383, .inl f2256))] _ := hB.1
          have hbu9 := (hm.2.2.2.2.2.2.1).kept (hB.2.2.2.1 _ hm.2.2.2.2.2.2.1.lt (by simp only [List.mem_cons, List.not_mem_nil, or_false, not_or]; exact ne_c hbT.1 hw.1 (by decide)))
          have hm : MF D cs w _ ((p2262 + 1)) (tl) (er1) (4) dr bu g := ⟨⟨_, hP 0 _ rfl, rfl⟩, ⟨_, hP 0 _ rfl, rfl⟩, ⟨_, hP 0 _ rfl, rfl⟩, ⟨_, hP 0 _ rfl, rfl⟩, ⟨_, hP 0 _ rfl, rfl⟩, ⟨_, hP 0 _ rfl, rfl⟩, hbu9, (by omega), (by omega)⟩
          have hps : PS D cs w _ ((p2262 + 1)) (tl) (er1) (4) dr bu g (N1) ((h + 1)) := ⟨hm, f2256, hP 1 _ rfl, e2256, by omega, v2256⟩
          refine cv_v (As := []) (rest := []) (b := w) ⟨hx, hb, hml, hown, hts⟩ (c_X9_factor_d4 hT (w := w) hw hbT hdT hps) (cwV 0 hts gX9_term_X9_factor rfl rfl rfl hdX9_factor_v ⟨Nat.le_of_ble_eq_true rfl, Nat.le_of_ble_eq_true rfl⟩) hN hE hL (rcv10 hN hT hw.1) rfl rfl hl.1 (Nat.le_of_ble_eq_true rfl) dX9_term_55 (Nat.zero_le _) (Nat.zero_le _) (fun H1 locs hL hqr2359 => ?_)
          obtain ⟨hT1, hF1, hqr2359⟩ := hqr2359
          have hF := hF.tr (hF1.mono (by simp))
          have hT := hT1
          obtain ⟨N2360, p2361, er2362, a2363, b2364, z2365, m2366, f2367, d2368, e2369, n2370, v2371⟩ := hqr2359
          have hm := m2366
          have hm8 := hm.2.2.2.2.2.2.2
          have hbd : B0 ≤ dr := (hT.o26 hdT.1).1
          have hDR := hT.dr hdT d2368
          have hP : va_P D vwCl [(dr, .inl (cs 0, 1383, .inl f2367))] _ := va_P.cons d2368 va_P.nil
          refine lv_aload_n hx hb dX9_term_58 rfl (lv_at hl 1 rfl) ?_
          refine lv_iload_n hx hb dX9_term_59 rfl (lv_at hl 0 rfl) ?_
          refine lv_if_eq (tgt := 67) hx hb dX9_term_60 (by decide) (fun c9 => absurd c9 (by decide)) (fun _ => ?_)
          refine lv_iconst (v := 4) hx hb dX9_term_63 (by decide) ?_
          refine lv_goto (tgt := 68) hx hb dX9_term_64 (by decide) ?_
          refine cv_v (As := [.int 4]) (rest := []) (b := w) ⟨hx, hb, hml, hown, hts⟩ (c_X9_emit hT (w := w) hw (x := 4) hbT hdT hm (hP 0 _ rfl) e2369 (fun _ => by omega)) (cwV 1 hts gX9_term_X9_emit rfl rfl rfl hdX9_emit_v ⟨Nat.le_of_ble_eq_true rfl, Nat.le_of_ble_eq_true rfl⟩) hN hE hL (rcv10 hN hT hw.1) rfl rfl hl.1 (Nat.le_of_ble_eq_true rfl) dX9_term_68 (Nat.zero_le _) (Nat.zero_le _) (fun H1 locs hL hqr2373 => ?_)
          obtain ⟨hT1, hF1, hqr2373⟩ := hqr2373
          have hF := hF.tr (hF1.mono (by simp))
          have hT := hT1
          obtain ⟨f2374, N2375, d2376, e2377, x2378, m2379⟩ := hqr2373
          have hm := m2379
          have hm8 := hm.2.2.2.2.2.2.2
          have nx2378 := x2378.n
          have ox2378 := nx2378.1
          have hbd : B0 ≤ dr := (hT.o26 hdT.1).1
          have hDR := hT.dr hdT d2376
          have hP : va_P D vwCl [(dr, .inl (cs 0, 1383, .inl f2374))] _ := va_P.cons d2376 va_P.nil
          refine lv_goto (tgt := 4) hx hb dX9_term_71 (by decide) ?_
          have hps : PS D cs w _ (p2361) (tl) (er2362) (4) dr bu g (N2375) ((h + 1)) := ⟨hm, f2374, hP 0 _ rfl, e2377, by omega, (EM.op x2378 (by decide) v2371)⟩
          exact ih2255 (p2361, N2375, er2362) _ _ _ (by show 600 - (p2361) < 600 - p; omega) ⟨hps, (by show (N2375) + 2 * pos ≤ N + 2 * (p2361); omega), (by show pos ≤ (p2361); omega), (fun e9 => hz1 (z2365 e9)), hT, hF, hL⟩ (lv_sub hl [1] rfl)
  · refine lv_if_eq (tgt := 74) hx hb dX9_term_8 (by decide) (fun _ => ?_) (fun c9 => absurd (by decide) c9)
    have hps : PS D cs w _ (p) (tl) (er1) (4) dr bu g (N1) ((h + 1)) := ⟨hm, f2256, hP 0 _ rfl, e2256, by omega, v2256⟩
    exact en_v hx hb hr hlocks hL (Nat.zero_le _) (Nat.zero_le _) dX9_term_74 (⟨hT, hF, N1, p, er1, (by omega), (by omega), hz1, hps⟩)
theorem mX9_readSum_1 : (.fieldLink RX9 53 "OneBeatModel" "position" "I" : Cond) ∈ wsX9_readSum := List.mem_of_getElem? (i := 1) (by decide +kernel)
theorem iX9_readSum_9 : ∀ w ∈ wsX90, w ∈ wsX9_readSum := fun w h => List.mem_of_mem_drop (List.mem_of_mem_take ((show wsX90 = (wsX9_readSum.drop 112).take 18 by decide +kernel) ▸ h))
set_option maxHeartbeats 4000000 in
set_option maxRecDepth 100000 in
theorem c_X9_readSum_d4 {l : Launch} {D : va_G} {cs : Nat → ClassId} {B0 T : Nat} {κ : KM} {H0 : Heap} (hT : WT B0 D cs T κ H0) {w : Nat} (hw : T2 κ w 10 12) {pos tl : Nat} {er : Int32} {dr bu : Nat} {g : Nat → Int32} {N h : Nat} (hbT : T2 κ bu 23 14) (hdT : T2 κ dr 26 17) (hps : PS D cs w H0 pos tl er 4 dr bu g N h) : KC l yX9_readSum wsX9_readSum 7 151 0 0 D cs B0 H0 [.ref w] (Qv (fun H => WT B0 D cs T κ H ∧ Fr B0 [12, 17] κ H0 H ∧ ∃ N1 pos1 er1, N1 + 2 * pos ≤ N + 2 * pos1 ∧ pos ≤ pos1 ∧ (er1 = 0 → er = 0) ∧ PS D cs w H pos1 tl er1 4 dr bu g N1 (h + 1))) := by
  refine KC.of cX9_readSum 2 none (by decide) rfl (Nat.le_of_ble_eq_true rfl) ?_
  intro p e s m below meth c ls hx hb hr hml hown hts hlocks hin hN hE hH0 hl
  have hown : s.vm.findClass RX9 = some m.cls := hown
  have hl : lv_has ls 2 [(0, .ref w)] := hl
  have hL : OkL B0 [] := OkL.nil
  have hF : Fr B0 [12, 17] κ H0 H0 := Fr.rf
  obtain ⟨hm, f2381, hd2381, e2381, n2381, v2381⟩ := hps
  have hm8 := hm.2.2.2.2.2.2.2
  have hbd : B0 ≤ dr := (hT.o26 hdT.1).1
  have hDR := hT.dr hdT hd2381
  have hP : va_P D vwCl [(dr, .inl (cs 0, 1383, .inl f2381))] _ := va_P.cons hd2381 va_P.nil
  refine lv_aload_n hx hb dX9_readSum_0 rfl (lv_at hl 0 rfl) ?_
  have hps : PS D cs w _ (pos) (tl) (er) (4) dr bu g (N) (h) := ⟨hm, f2381, hP 0 _ rfl, e2381, by omega, v2381⟩
  refine cv_v (As := []) (rest := []) (b := w) ⟨hx, hb, hml, hown, hts⟩ (c_X9_term_d4 hT (w := w) hw hbT hdT hps) (cwV 0 hts gX9_readSum_X9_term rfl rfl rfl hdX9_term_v ⟨Nat.le_of_ble_eq_true rfl, Nat.le_of_ble_eq_true rfl⟩) hN hE hL (rcv10 hN hT hw.1) rfl rfl hl.1 (Nat.le_of_ble_eq_true rfl) dX9_readSum_1 (Nat.zero_le _) (Nat.zero_le _) (fun H1 locs hL hqr2383 => ?_)
  obtain ⟨hT1, hF1, hqr2383⟩ := hqr2383
  have hF := hF.tr (hF1.mono (by simp))
  have hT := hT1
  obtain ⟨N2384, p2385, er2386, a2387, b2388, z2389, m2390, f2391, d2392, e2393, n2394, v2395⟩ := hqr2383
  have hm := m2390
  have hm8 := hm.2.2.2.2.2.2.2
  have hbd : B0 ≤ dr := (hT.o26 hdT.1).1
  have hDR := hT.dr hdT d2392
  have hP : va_P D vwCl [(dr, .inl (cs 0, 1383, .inl f2391))] _ := va_P.cons d2392 va_P.nil
  have hps : PS D cs w _ (p2385) (tl) (er2386) (4) dr bu g (N2384) ((h + 1)) := ⟨hm, f2391, hP 0 _ rfl, e2393, by omega, v2395⟩
  refine lp_m (α := Nat × Nat × Int32) (nL := 2) (fun a9 => 600 - a9.1) (fun a9 H9 l9 => (PS D cs w H9 a9.1 tl a9.2.2 4 dr bu g a9.2.1 (h + 1)) ∧ (a9.2.1 + 2 * pos ≤ N + 2 * a9.1) ∧ (pos ≤ a9.1) ∧ (a9.2.2 = 0 → er = 0) ∧ (WT B0 D cs T κ H9) ∧ (Fr B0 [12, 17] κ H0 H9) ∧ (OkL B0 l9)) (fun a9 => [(0, .ref w)]) ?_ (p2385, N2384, er2386) _ _ _ ⟨hps, (by show (N2384) + 2 * pos ≤ N + 2 * (p2385); omega), (by show pos ≤ (p2385); omega), (fun e9 => id (z2389 e9)), hT, hF, hL⟩ (lv_sub hl [0] rfl)
  rintro ⟨p, N1, er1⟩ H locs ls ih2397 ⟨hps, hb1, hb2, hz1, hT, hF, hL⟩ hl
  have hl : lv_has ls 2 [(0, .ref w)] := hl
  have hps : PS D cs w H p tl er1 4 dr bu g N1 (h + 1) := hps
  have hb1 : N1 + 2 * pos ≤ N + 2 * p := hb1
  have hb2 : pos ≤ p := hb2
  have hz1 : er1 = 0 → er = 0 := hz1
  obtain ⟨hm, f2398, hd2398, e2398, n2398, v2398⟩ := hps
  have hm8 := hm.2.2.2.2.2.2.2
  have hbd : B0 ≤ dr := (hT.o26 hdT.1).1
  have hDR := hT.dr hdT hd2398
  have hP : va_P D vwCl [(dr, .inl (cs 0, 1383, .inl f2398))] _ := va_P.cons hd2398 va_P.nil
  refine lv_aload_n hx hb dX9_readSum_4 rfl (lv_at hl 0 rfl) ?_
  refine cv_i (As := []) (rest := []) (b := w) ⟨hx, hb, hml, hown, hts⟩ (c_X9_isGood hT (w := w) hw hbT hdT hm) (cwV 0 hts gX9_readSum_X9_isGood rfl rfl rfl hdX9_isGood_v ⟨Nat.le_of_ble_eq_true rfl, Nat.le_of_ble_eq_true rfl⟩) hN hE hL (rcv10 hN hT hw.1) rfl rfl hl.1 (Nat.le_of_ble_eq_true rfl) dX9_readSum_5 (Nat.zero_le _) (Nat.zero_le _) (fun r2400 H1 locs hL hqr2400 => ?_)
  obtain ⟨h9, hqr2400⟩ := hqr2400; replace h9 := h9.symm; subst h9
  rcases hqr2400 with ⟨rfl, e2401⟩ | ⟨rfl, e2402⟩
  · refine lv_if_eq (tgt := 74) hx hb dX9_readSum_8 (by decide) (fun c9 => absurd c9 (by decide)) (fun _ => ?_)
    refine lv_aload_n hx hb dX9_readSum_11 rfl (lv_at hl 0 rfl) ?_
    refine cv_i (As := []) (rest := []) (b := w) ⟨hx, hb, hml, hown, hts⟩ (c_X9_ahead hT (w := w) hw hbT hdT hm) (cwV 0 hts gX9_readSum_X9_ahead rfl rfl rfl hdX9_ahead_v ⟨Nat.le_of_ble_eq_true rfl, Nat.le_of_ble_eq_true rfl⟩) hN hE hL (rcv10 hN hT hw.1) rfl rfl hl.1 (Nat.le_of_ble_eq_true rfl) dX9_readSum_12 (Nat.zero_le _) (Nat.zero_le _) (fun r2403 H1 locs hL hqr2403 => ?_)
    obtain ⟨hT1, hF1, hqr2403⟩ := hqr2403
    have hP : va_P D vwCl [(dr, .inl (cs 0, 1383, .inl f2398))] _ := hF1.hP (hP.sub [0] rfl) (fa_c ⟨by rw [hdT.1]; decide, by rw [hdT.2]; first | decide | (simp; done) | (simp [h15a, h15b, h15c]; done) | (simp; omega)⟩ fa_n)
    have hF := hF.tr (hF1.mono (by simp))
    have hT := hT1
    obtain ⟨p2404, h2405, m2406, n2407, s2408, rfl⟩ := hqr2403
    have hm := m2406
    have hm8 := hm.2.2.2.2.2.2.2
    refine lv_bipush (v := 43) hx hb dX9_readSum_15 (by decide) ?_
    refine lv_icmp_eq (tgt := 29) hx hb dX9_readSum_17 (by decide) (fun c2409 => ?_) (fun c2409 => ?_)
    · have hl9 := byF_c (c2409) (by decide)
      refine lv_aload_n hx hb dX9_readSum_29 rfl (lv_at hl 0 rfl) ?_
      refine cv_i (As := []) (rest := []) (b := w) ⟨hx, hb, hml, hown, hts⟩ (c_X9_ahead hT (w := w) hw hbT hdT hm) (cwV 0 hts gX9_readSum_X9_ahead rfl rfl rfl hdX9_ahead_v ⟨Nat.le_of_ble_eq_true rfl, Nat.le_of_ble_eq_true rfl⟩) hN hE hL (rcv10 hN hT hw.1) rfl rfl hl.1 (Nat.le_of_ble_eq_true rfl) dX9_readSum_30 (Nat.zero_le _) (Nat.zero_le _) (fun r2410 H1 locs hL hqr2410 => ?_)
      obtain ⟨hT1, hF1, hqr2410⟩ := hqr2410
      have hP : va_P D vwCl [(dr, .inl (cs 0, 1383, .inl f2398))] _ := hF1.hP (hP.sub [0] rfl) (fa_c ⟨by rw [hdT.1]; decide, by rw [hdT.2]; first | decide | (simp; done) | (simp [h15a, h15b, h15c]; done) | (simp; omega)⟩ fa_n)
      have hF := hF.tr (hF1.mono (by simp))
      have hT := hT1
      obtain ⟨p2411, h2412, m2413, n2414, s2415, rfl⟩ := hqr2410
      have hm := m2413
      have hpe := s2415 n2407
      rw [hpe] at hm
      refine tp_i (byF g tl p2404) (by rw [hpe]) ?_
      have hm8 := hm.2.2.2.2.2.2.2
      refine lv_bipush (v := 43) hx hb dX9_readSum_33 (by decide) ?_
      refine lv_icmp_ne (tgt := 42) hx hb dX9_readSum_35 (by decide) (fun c2416 => ?_) (fun c2416 => ?_)
      · refine lv_iconst (v := 0) hx hb dX9_readSum_42 (by decide) ?_
        refine lv_istore_n (lv' := [(1, .int 0), (0, .ref w)]) hx hb dX9_readSum_43 rfl hl (by decide) rfl (fun ls hl => ?_)
        refine lv_aload_n hx hb dX9_readSum_44 rfl (lv_at hl 1 rfl) ?_
        refine lv_dup hx hb dX9_readSum_45 rfl ?_
        obtain ⟨hb2417, e2417, hat2417, hk2417⟩ := hT.o10 hw.1
        obtain ⟨f2417_0, f2417_1, f2417_3, f2417_4, f2417_5, f2417_6, f2417_7, f2417_9, f2417_10, f2417_11, f2417_12, f2417_13, f2417_14, f2417_15, f2417_16, f2417_17, rfl, c2417_2, c2417_3, c2417_4, c2417_12, t2417_1, t2417_8, t2417_9, c2417_sd, t2417_10, t2417_11, t2417_17⟩ := hk2417
        obtain ⟨rfl, rfl, rfl, rfl, rfl, rfl⟩ := hm.at hat2417 c2417_3 (by omega)
        have hm8 := hm.2.2.2.2.2.2.2
        have hP : va_P D vwCl [(w, .inr (9, [.int f2417_0, .ref bu, .int (nI ((κ w).2.2.1)), .int (nI tl), .int (nI p2404), .int er1, .int f2417_6, .int f2417_7, .ref (κ w).2.2.2, .ref f2417_9, .ref dr, .ref f2417_11, .int (nI f2417_12), .int f2417_13, .int 4, .int f2417_15, .int f2417_16, .ref f2417_17])), (dr, .inl (cs 0, 1383, .inl f2398))] _ := va_P.cons hat2417 hP
        refine va_get (D := D) (ci := 9) (v := .int (nI p2404)) (C := RX9) (T := TX9) (N := 18) hx hb hts iX9_readSum_9 hown hN.1 hP 0 rfl rfl 4 (by decide) (hts _ mX9_readSum_1) (fun _ h9 => h9) rfl dX9_readSum_46 ?_
        refine lv_iconst (v := 1) hx hb dX9_readSum_49 (by decide) ?_
        refine lv_iadd hx hb dX9_readSum_50 ?_
        refine tp_i (nI (p2404 + 1)) (nI_add p2404 1) ?_
        have hB : Bx B0 D _ [(w, .inr (9, [.int f2417_0, .ref bu, .int (nI ((κ w).2.2.1)), .int (nI tl), .int (nI p2404), .int er1, .int f2417_6, .int f2417_7, .ref (κ w).2.2.2, .ref f2417_9, .ref dr, .ref f2417_11, .int (nI f2417_12), .int f2417_13, .int 4, .int f2417_15, .int f2417_16, .ref f2417_17])), (dr, .inl (cs 0, 1383, .inl f2398))] [] _ _ := Bx.of (fun a => (κ a).1) hL hP (fa_c hb2417 (fa_c hbd fa_n)) (by simp only [List.map_cons, List.map_nil, hw.1, hdT.1]; decide)
        refine b_put (D := D) (ci := 9) (v := .int (nI (p2404 + 1))) (ty := .int) (C := RX9) (T := TX9) (N := 18) hx hb hts iX9_readSum_9 tyX9 tyX9_ok nmX9 hown hN hB 0 rfl rfl 4 (by decide) (hts _ mX9_readSum_1) (fun _ h9 => h9) rfl (by decide +kernel) rfl rfl (Nat.le_of_ble_eq_true rfl) (.inl rfl) dX9_readSum_51 (fun H locs hB => ?_)
        have hB : Bx B0 D _ [(w, .inr (9, [.int f2417_0, .ref bu, .int (nI ((κ w).2.2.1)), .int (nI tl), .int (nI (p2404 + 1)), .int er1, .int f2417_6, .int f2417_7, .ref (κ w).2.2.2, .ref f2417_9, .ref dr, .ref f2417_11, .int (nI f2417_12), .int f2417_13, .int 4, .int f2417_15, .int f2417_16, .ref f2417_17])), (dr, .inl (cs 0, 1383, .inl f2398))] [w] _ _ := hB
        refine lv_aload_n hx hb dX9_readSum_54 rfl (lv_at hl 1 rfl) ?_
        have hT : WT B0 D cs T κ _ := hT.close hB ⟨⟨0, _, rfl, ok_10 hw.1 ⟨_, _, _, _, _, _, _, _, _, _, _, _, _, _, _, _, rfl, (by omega), (by omega), (by omega), (by omega), hbT, t2417_8, t2417_9, c2417_sd, hdT, t2417_11, t2417_17⟩⟩, trivial⟩
        have hF : Fr B0 [12, 17] κ H0 _ := hF.close hB (fa_c (by simp [hw.2]) fa_n)
        have hL : OkL B0 _ := hB.2.2.2.2.2
        have hP : va_P D vwCl [(w, .inr (9, [.int f2417_0, .ref bu, .int (nI ((κ w).2.2.1)), .int (nI tl), .int (nI (p2404 + 1)), .int er1, .int f2417_6, .int f2417_7, .ref (κ w).2.2.2, .ref f2417_9, .ref dr, .ref f2417_11, .int (nI f2417_12), .int f2417_13, .int 4, .int f2417_15, .int f2417_16, .ref f2417_17])), (dr, .inl (cs 0, 1383, .inl f2398))] _ := hB.1
        have hbu9 := (hm.2.2.2.2.2.2.1).kept (hB.2.2.2.1 _ hm.2.2.2.2.2.2.1.lt (by simp only [List.mem_cons, List.not_mem_nil, or_false, not_or]; exact ne_c hbT.1 hw.1 (by decide)))
        have hm : MF D cs w _ ((p2404 + 1)) (tl) (er1) (4) dr bu g := ⟨⟨_, hP 0 _ rfl, rfl⟩, ⟨_, hP 0 _ rfl, rfl⟩, ⟨_, hP 0 _ rfl, rfl⟩, ⟨_, hP 0 _ rfl, rfl⟩, ⟨_, hP 0 _ rfl, rfl⟩, ⟨_, hP 0 _ rfl, rfl⟩, hbu9, (by omega), (by omega)⟩
        have hps : PS D cs w _ ((p2404 + 1)) (tl) (er1) (4) dr bu g (N1) ((h + 1)) := ⟨hm, f2398, hP 1 _ rfl, e2398, by omega, v2398⟩
        refine cv_v (As := []) (rest := []) (b := w) ⟨hx, hb, hml, hown, hts⟩ (c_X9_term_d4 hT (w := w) hw hbT hdT hps) (cwV 0 hts gX9_readSum_X9_term rfl rfl rfl hdX9_term_v ⟨Nat.le_of_ble_eq_true rfl, Nat.le_of_ble_eq_true rfl⟩) hN hE hL (rcv10 hN hT hw.1) rfl rfl hl.1 (Nat.le_of_ble_eq_true rfl) dX9_readSum_55 (Nat.zero_le _) (Nat.zero_le _) (fun H1 locs hL hqr2418 => ?_)
        obtain ⟨hT1, hF1, hqr2418⟩ := hqr2418
        have hF := hF.tr (hF1.mono (by simp))
        have hT := hT1
        obtain ⟨N2419, p2420, er2421, a2422, b2423, z2424, m2425, f2426, d2427, e2428, n2429, v2430⟩ := hqr2418
        have hm := m2425
        have hm8 := hm.2.2.2.2.2.2.2
        have hbd : B0 ≤ dr := (hT.o26 hdT.1).1
        have hDR := hT.dr hdT d2427
        have hP : va_P D vwCl [(dr, .inl (cs 0, 1383, .inl f2426))] _ := va_P.cons d2427 va_P.nil
        refine lv_aload_n hx hb dX9_readSum_58 rfl (lv_at hl 1 rfl) ?_
        refine lv_iload_n hx hb dX9_readSum_59 rfl (lv_at hl 0 rfl) ?_
        refine lv_if_eq (tgt := 67) hx hb dX9_readSum_60 (by decide) (fun _ => ?_) (fun c9 => absurd (by decide) c9)
        refine lv_iconst (v := 3) hx hb dX9_readSum_67 (by decide) ?_
        refine cv_v (As := [.int 3]) (rest := []) (b := w) ⟨hx, hb, hml, hown, hts⟩ (c_X9_emit hT (w := w) hw (x := 3) hbT hdT hm (hP 0 _ rfl) e2428 (fun _ => by omega)) (cwV 1 hts gX9_readSum_X9_emit rfl rfl rfl hdX9_emit_v ⟨Nat.le_of_ble_eq_true rfl, Nat.le_of_ble_eq_true rfl⟩) hN hE hL (rcv10 hN hT hw.1) rfl rfl hl.1 (Nat.le_of_ble_eq_true rfl) dX9_readSum_68 (Nat.zero_le _) (Nat.zero_le _) (fun H1 locs hL hqr2432 => ?_)
        obtain ⟨hT1, hF1, hqr2432⟩ := hqr2432
        have hF := hF.tr (hF1.mono (by simp))
        have hT := hT1
        obtain ⟨f2433, N2434, d2435, e2436, x2437, m2438⟩ := hqr2432
        have hm := m2438
        have hm8 := hm.2.2.2.2.2.2.2
        have nx2437 := x2437.n
        have ox2437 := nx2437.1
        have hbd : B0 ≤ dr := (hT.o26 hdT.1).1
        have hDR := hT.dr hdT d2435
        have hP : va_P D vwCl [(dr, .inl (cs 0, 1383, .inl f2433))] _ := va_P.cons d2435 va_P.nil
        refine lv_goto (tgt := 4) hx hb dX9_readSum_71 (by decide) ?_
        have hps : PS D cs w _ (p2420) (tl) (er2421) (4) dr bu g (N2434) ((h + 1)) := ⟨hm, f2433, hP 0 _ rfl, e2436, by omega, (EM.op x2437 (by decide) v2430)⟩
        exact ih2397 (p2420, N2434, er2421) _ _ _ (by show 600 - (p2420) < 600 - p; omega) ⟨hps, (by show (N2434) + 2 * pos ≤ N + 2 * (p2420); omega), (by show pos ≤ (p2420); omega), (fun e9 => hz1 (z2424 e9)), hT, hF, hL⟩ (lv_sub hl [1] rfl)
      · refine lv_iconst (v := 1) hx hb dX9_readSum_38 (by decide) ?_
        refine lv_goto (tgt := 43) hx hb dX9_readSum_39 (by decide) ?_
        refine lv_istore_n (lv' := [(1, .int 1), (0, .ref w)]) hx hb dX9_readSum_43 rfl hl (by decide) rfl (fun ls hl => ?_)
        refine lv_aload_n hx hb dX9_readSum_44 rfl (lv_at hl 1 rfl) ?_
        refine lv_dup hx hb dX9_readSum_45 rfl ?_
        obtain ⟨hb2440, e2440, hat2440, hk2440⟩ := hT.o10 hw.1
        obtain ⟨f2440_0, f2440_1, f2440_3, f2440_4, f2440_5, f2440_6, f2440_7, f2440_9, f2440_10, f2440_11, f2440_12, f2440_13, f2440_14, f2440_15, f2440_16, f2440_17, rfl, c2440_2, c2440_3, c2440_4, c2440_12, t2440_1, t2440_8, t2440_9, c2440_sd, t2440_10, t2440_11, t2440_17⟩ := hk2440
        obtain ⟨rfl, rfl, rfl, rfl, rfl, rfl⟩ := hm.at hat2440 c2440_3 (by omega)
        have hm8 := hm.2.2.2.2.2.2.2
        have hP : va_P D vwCl [(w, .inr (9, [.int f2440_0, .ref bu, .int (nI ((κ w).2.2.1)), .int (nI tl), .int (nI p2404), .int er1, .int f2440_6, .int f2440_7, .ref (κ w).2.2.2, .ref f2440_9, .ref dr, .ref f2440_11, .int (nI f2440_12), .int f2440_13, .int 4, .int f2440_15, .int f2440_16, .ref f2440_17])), (dr, .inl (cs 0, 1383, .inl f2398))] _ := va_P.cons hat2440 hP
        refine va_get (D := D) (ci := 9) (v := .int (nI p2404)) (C := RX9) (T := TX9) (N := 18) hx hb hts iX9_readSum_9 hown hN.1 hP 0 rfl rfl 4 (by decide) (hts _ mX9_readSum_1) (fun _ h9 => h9) rfl dX9_readSum_46 ?_
        refine lv_iconst (v := 1) hx hb dX9_readSum_49 (by decide) ?_
        refine lv_iadd hx hb dX9_readSum_50 ?_
        refine tp_i (nI (p2404 + 1)) (nI_add p2404 1) ?_
        have hB : Bx B0 D _ [(w, .inr (9, [.int f2440_0, .ref bu, .int (nI ((κ w).2.2.1)), .int (nI tl), .int (nI p2404), .int er1, .int f2440_6, .int f2440_7, .ref (κ w).2.2.2, .ref f2440_9, .ref dr, .ref f2440_11, .int (nI f2440_12), .int f2440_13, .int 4, .int f2440_15, .int f2440_16, .ref f2440_17])), (dr, .inl (cs 0, 1383, .inl f2398))] [] _ _ := Bx.of (fun a => (κ a).1) hL hP (fa_c hb2440 (fa_c hbd fa_n)) (by simp only [List.map_cons, List.map_nil, hw.1, hdT.1]; decide)
        refine b_put (D := D) (ci := 9) (v := .int (nI (p2404 + 1))) (ty := .int) (C := RX9) (T := TX9) (N := 18) hx hb hts iX9_readSum_9 tyX9 tyX9_ok nmX9 hown hN hB 0 rfl rfl 4 (by decide) (hts _ mX9_readSum_1) (fun _ h9 => h9) rfl (by decide +kernel) rfl rfl (Nat.le_of_ble_eq_true rfl) (.inl rfl) dX9_readSum_51 (fun H locs hB => ?_)
        have hB : Bx B0 D _ [(w, .inr (9, [.int f2440_0, .ref bu, .int (nI ((κ w).2.2.1)), .int (nI tl), .int (nI (p2404 + 1)), .int er1, .int f2440_6, .int f2440_7, .ref (κ w).2.2.2, .ref f2440_9, .ref dr, .ref f2440_11, .int (nI f2440_12), .int f2440_13, .int 4, .int f2440_15, .int f2440_16, .ref f2440_17])), (dr, .inl (cs 0, 1383, .inl f2398))] [w] _ _ := hB
        refine lv_aload_n hx hb dX9_readSum_54 rfl (lv_at hl 1 rfl) ?_
        have hT : WT B0 D cs T κ _ := hT.close hB ⟨⟨0, _, rfl, ok_10 hw.1 ⟨_, _, _, _, _, _, _, _, _, _, _, _, _, _, _, _, rfl, (by omega), (by omega), (by omega), (by omega), hbT, t2440_8, t2440_9, c2440_sd, hdT, t2440_11, t2440_17⟩⟩, trivial⟩
        have hF : Fr B0 [12, 17] κ H0 _ := hF.close hB (fa_c (by simp [hw.2]) fa_n)
        have hL : OkL B0 _ := hB.2.2.2.2.2
        have hP : va_P D vwCl [(w, .inr (9, [.int f2440_0, .ref bu, .int (nI ((κ w).2.2.1)), .int (nI tl), .int (nI (p2404 + 1)), .int er1, .int f2440_6, .int f2440_7, .ref (κ w).2.2.2, .ref f2440_9, .ref dr, .ref f2440_11, .int (nI f2440_12), .int f2440_13, .int 4, .int f2440_15, .int f2440_16, .ref f2440_17])), (dr, .inl (cs 0, 1383, .inl f2398))] _ := hB.1
        have hbu9 := (hm.2.2.2.2.2.2.1).kept (hB.2.2.2.1 _ hm.2.2.2.2.2.2.1.lt (by simp only [List.mem_cons, List.not_mem_nil, or_false, not_or]; exact ne_c hbT.1 hw.1 (by decide)))
        have hm : MF D cs w _ ((p2404 + 1)) (tl) (er1) (4) dr bu g := ⟨⟨_, hP 0 _ rfl, rfl⟩, ⟨_, hP 0 _ rfl, rfl⟩, ⟨_, hP 0 _ rfl, rfl⟩, ⟨_, hP 0 _ rfl, rfl⟩, ⟨_, hP 0 _ rfl, rfl⟩, ⟨_, hP 0 _ rfl, rfl⟩, hbu9, (by omega), (by omega)⟩
        have hps : PS D cs w _ ((p2404 + 1)) (tl) (er1) (4) dr bu g (N1) ((h + 1)) := ⟨hm, f2398, hP 1 _ rfl, e2398, by omega, v2398⟩
        refine cv_v (As := []) (rest := []) (b := w) ⟨hx, hb, hml, hown, hts⟩ (c_X9_term_d4 hT (w := w) hw hbT hdT hps) (cwV 0 hts gX9_readSum_X9_term rfl rfl rfl hdX9_term_v ⟨Nat.le_of_ble_eq_true rfl, Nat.le_of_ble_eq_true rfl⟩) hN hE hL (rcv10 hN hT hw.1) rfl rfl hl.1 (Nat.le_of_ble_eq_true rfl) dX9_readSum_55 (Nat.zero_le _) (Nat.zero_le _) (fun H1 locs hL hqr2441 => ?_)
        obtain ⟨hT1, hF1, hqr2441⟩ := hqr2441
        have hF := hF.tr (hF1.mono (by simp))
        have hT := hT1
        obtain ⟨N2442, p2443, er2444, a2445, b2446, z2447, m2448, f2449, d2450, e2451, n2452, v2453⟩ := hqr2441
        have hm := m2448
        have hm8 := hm.2.2.2.2.2.2.2
        have hbd : B0 ≤ dr := (hT.o26 hdT.1).1
        have hDR := hT.dr hdT d2450
        have hP : va_P D vwCl [(dr, .inl (cs 0, 1383, .inl f2449))] _ := va_P.cons d2450 va_P.nil
        refine lv_aload_n hx hb dX9_readSum_58 rfl (lv_at hl 1 rfl) ?_
        refine lv_iload_n hx hb dX9_readSum_59 rfl (lv_at hl 0 rfl) ?_
        refine lv_if_eq (tgt := 67) hx hb dX9_readSum_60 (by decide) (fun c9 => absurd c9 (by decide)) (fun _ => ?_)
        refine lv_iconst (v := 2) hx hb dX9_readSum_63 (by decide) ?_
        refine lv_goto (tgt := 68) hx hb dX9_readSum_64 (by decide) ?_
        refine cv_v (As := [.int 2]) (rest := []) (b := w) ⟨hx, hb, hml, hown, hts⟩ (c_X9_emit hT (w := w) hw (x := 2) hbT hdT hm (hP 0 _ rfl) e2451 (fun _ => by omega)) (cwV 1 hts gX9_readSum_X9_emit rfl rfl rfl hdX9_emit_v ⟨Nat.le_of_ble_eq_true rfl, Nat.le_of_ble_eq_true rfl⟩) hN hE hL (rcv10 hN hT hw.1) rfl rfl hl.1 (Nat.le_of_ble_eq_true rfl) dX9_readSum_68 (Nat.zero_le _) (Nat.zero_le _) (fun H1 locs hL hqr2455 => ?_)
        obtain ⟨hT1, hF1, hqr2455⟩ := hqr2455
        have hF := hF.tr (hF1.mono (by simp))
        have hT := hT1
        obtain ⟨f2456, N2457, d2458, e2459, x2460, m2461⟩ := hqr2455
        have hm := m2461
        have hm8 := hm.2.2.2.2.2.2.2
        have nx2460 := x2460.n
        have ox2460 := nx2460.1
        have hbd : B0 ≤ dr := (hT.o26 hdT.1).1
        have hDR := hT.dr hdT d2458
        have hP : va_P D vwCl [(dr, .inl (cs 0, 1383, .inl f2456))] _ := va_P.cons d2458 va_P.nil
        refine lv_goto (tgt := 4) hx hb dX9_readSum_71 (by decide) ?_
        have hps : PS D cs w _ (p2443) (tl) (er2444) (4) dr bu g (N2457) ((h + 1)) := ⟨hm, f2456, hP 0 _ rfl, e2459, by omega, (EM.op x2460 (by decide) v2453)⟩
        exact ih2397 (p2443, N2457, er2444) _ _ _ (by show 600 - (p2443) < 600 - p; omega) ⟨hps, (by show (N2457) + 2 * pos ≤ N + 2 * (p2443); omega), (by show pos ≤ (p2443); omega), (fun e9 => hz1 (z2447 e9)), hT, hF, hL⟩ (lv_sub hl [1] rfl)
    · refine lv_aload_n hx hb dX9_readSum_20 rfl (lv_at hl 0 rfl) ?_
      refine cv_i (As := []) (rest := []) (b := w) ⟨hx, hb, hml, hown, hts⟩ (c_X9_ahead hT (w := w) hw hbT hdT hm) (cwV 0 hts gX9_readSum_X9_ahead rfl rfl rfl hdX9_ahead_v ⟨Nat.le_of_ble_eq_true rfl, Nat.le_of_ble_eq_true rfl⟩) hN hE hL (rcv10 hN hT hw.1) rfl rfl hl.1 (Nat.le_of_ble_eq_true rfl) dX9_readSum_21 (Nat.zero_le _) (Nat.zero_le _) (fun r2463 H1 locs hL hqr2463 => ?_)
      obtain ⟨hT1, hF1, hqr2463⟩ := hqr2463
      have hP : va_P D vwCl [(dr, .inl (cs 0, 1383, .inl f2398))] _ := hF1.hP (hP.sub [0] rfl) (fa_c ⟨by rw [hdT.1]; decide, by rw [hdT.2]; first | decide | (simp; done) | (simp [h15a, h15b, h15c]; done) | (simp; omega)⟩ fa_n)
      have hF := hF.tr (hF1.mono (by simp))
      have hT := hT1
      obtain ⟨p2464, h2465, m2466, n2467, s2468, rfl⟩ := hqr2463
      have hm := m2466
      have hpe := s2468 n2407
      rw [hpe] at hm
      refine tp_i (byF g tl p2404) (by rw [hpe]) ?_
      have hm8 := hm.2.2.2.2.2.2.2
      refine lv_bipush (v := 45) hx hb dX9_readSum_24 (by decide) ?_
      refine lv_icmp_ne (tgt := 74) hx hb dX9_readSum_26 (by decide) (fun c2469 => ?_) (fun c2469 => ?_)
      · have hps : PS D cs w _ (p2404) (tl) (er1) (4) dr bu g (N1) ((h + 1)) := ⟨hm, f2398, hP 0 _ rfl, e2398, by omega, v2398⟩
        exact en_v hx hb hr hlocks hL (Nat.zero_le _) (Nat.zero_le _) dX9_readSum_74 (⟨hT, hF, N1, p2404, er1, (by omega), (by omega), hz1, hps⟩)
      · have hl9 := byF_c (c2469) (by decide)
        refine lv_aload_n hx hb dX9_readSum_29 rfl (lv_at hl 0 rfl) ?_
        refine cv_i (As := []) (rest := []) (b := w) ⟨hx, hb, hml, hown, hts⟩ (c_X9_ahead hT (w := w) hw hbT hdT hm) (cwV 0 hts gX9_readSum_X9_ahead rfl rfl rfl hdX9_ahead_v ⟨Nat.le_of_ble_eq_true rfl, Nat.le_of_ble_eq_true rfl⟩) hN hE hL (rcv10 hN hT hw.1) rfl rfl hl.1 (Nat.le_of_ble_eq_true rfl) dX9_readSum_30 (Nat.zero_le _) (Nat.zero_le _) (fun r2470 H1 locs hL hqr2470 => ?_)
        obtain ⟨hT1, hF1, hqr2470⟩ := hqr2470
        have hP : va_P D vwCl [(dr, .inl (cs 0, 1383, .inl f2398))] _ := hF1.hP (hP.sub [0] rfl) (fa_c ⟨by rw [hdT.1]; decide, by rw [hdT.2]; first | decide | (simp; done) | (simp [h15a, h15b, h15c]; done) | (simp; omega)⟩ fa_n)
        have hF := hF.tr (hF1.mono (by simp))
        have hT := hT1
        obtain ⟨p2471, h2472, m2473, n2474, s2475, rfl⟩ := hqr2470
        have hm := m2473
        have hpe := s2475 n2407
        rw [hpe] at hm
        refine tp_i (byF g tl p2404) (by rw [hpe]) ?_
        have hm8 := hm.2.2.2.2.2.2.2
        refine lv_bipush (v := 43) hx hb dX9_readSum_33 (by decide) ?_
        refine lv_icmp_ne (tgt := 42) hx hb dX9_readSum_35 (by decide) (fun c2476 => ?_) (fun c2476 => ?_)
        · refine lv_iconst (v := 0) hx hb dX9_readSum_42 (by decide) ?_
          refine lv_istore_n (lv' := [(1, .int 0), (0, .ref w)]) hx hb dX9_readSum_43 rfl hl (by decide) rfl (fun ls hl => ?_)
          refine lv_aload_n hx hb dX9_readSum_44 rfl (lv_at hl 1 rfl) ?_
          refine lv_dup hx hb dX9_readSum_45 rfl ?_
          obtain ⟨hb2477, e2477, hat2477, hk2477⟩ := hT.o10 hw.1
          obtain ⟨f2477_0, f2477_1, f2477_3, f2477_4, f2477_5, f2477_6, f2477_7, f2477_9, f2477_10, f2477_11, f2477_12, f2477_13, f2477_14, f2477_15, f2477_16, f2477_17, rfl, c2477_2, c2477_3, c2477_4, c2477_12, t2477_1, t2477_8, t2477_9, c2477_sd, t2477_10, t2477_11, t2477_17⟩ := hk2477
          obtain ⟨rfl, rfl, rfl, rfl, rfl, rfl⟩ := hm.at hat2477 c2477_3 (by omega)
          have hm8 := hm.2.2.2.2.2.2.2
          have hP : va_P D vwCl [(w, .inr (9, [.int f2477_0, .ref bu, .int (nI ((κ w).2.2.1)), .int (nI tl), .int (nI p2404), .int er1, .int f2477_6, .int f2477_7, .ref (κ w).2.2.2, .ref f2477_9, .ref dr, .ref f2477_11, .int (nI f2477_12), .int f2477_13, .int 4, .int f2477_15, .int f2477_16, .ref f2477_17])), (dr, .inl (cs 0, 1383, .inl f2398))] _ := va_P.cons hat2477 hP
          refine va_get (D := D) (ci := 9) (v := .int (nI p2404)) (C := RX9) (T := TX9) (N := 18) hx hb hts iX9_readSum_9 hown hN.1 hP 0 rfl rfl 4 (by decide) (hts _ mX9_readSum_1) (fun _ h9 => h9) rfl dX9_readSum_46 ?_
          refine lv_iconst (v := 1) hx hb dX9_readSum_49 (by decide) ?_
          refine lv_iadd hx hb dX9_readSum_50 ?_
          refine tp_i (nI (p2404 + 1)) (nI_add p2404 1) ?_
          have hB : Bx B0 D _ [(w, .inr (9, [.int f2477_0, .ref bu, .int (nI ((κ w).2.2.1)), .int (nI tl), .int (nI p2404), .int er1, .int f2477_6, .int f2477_7, .ref (κ w).2.2.2, .ref f2477_9, .ref dr, .ref f2477_11, .int (nI f2477_12), .int f2477_13, .int 4, .int f2477_15, .int f2477_16, .ref f2477_17])), (dr, .inl (cs 0, 1383, .inl f2398))] [] _ _ := Bx.of (fun a => (κ a).1) hL hP (fa_c hb2477 (fa_c hbd fa_n)) (by simp only [List.map_cons, List.map_nil, hw.1, hdT.1]; decide)
          refine b_put (D := D) (ci := 9) (v := .int (nI (p2404 + 1))) (ty := .int) (C := RX9) (T := TX9) (N := 18) hx hb hts iX9_readSum_9 tyX9 tyX9_ok nmX9 hown hN hB 0 rfl rfl 4 (by decide) (hts _ mX9_readSum_1) (fun _ h9 => h9) rfl (by decide +kernel) rfl rfl (Nat.le_of_ble_eq_true rfl) (.inl rfl) dX9_readSum_51 (fun H locs hB => ?_)
          have hB : Bx B0 D _ [(w, .inr (9, [.int f2477_0, .ref bu, .int (nI ((κ w).2.2.1)), .int (nI tl), .int (nI (p2404 + 1)), .int er1, .int f2477_6, .int f2477_7, .ref (κ w).2.2.2, .ref f2477_9, .ref dr, .ref f2477_11, .int (nI f2477_12), .int f2477_13, .int 4, .int f2477_15, .int f2477_16, .ref f2477_17])), (dr, .inl (cs 0, 1383, .inl f2398))] [w] _ _ := hB
          refine lv_aload_n hx hb dX9_readSum_54 rfl (lv_at hl 1 rfl) ?_
          have hT : WT B0 D cs T κ _ := hT.close hB ⟨⟨0, _, rfl, ok_10 hw.1 ⟨_, _, _, _, _, _, _, _, _, _, _, _, _, _, _, _, rfl, (by omega), (by omega), (by omega), (by omega), hbT, t2477_8, t2477_9, c2477_sd, hdT, t2477_11, t2477_17⟩⟩, trivial⟩
          have hF : Fr B0 [12, 17] κ H0 _ := hF.close hB (fa_c (by simp [hw.2]) fa_n)
          have hL : OkL B0 _ := hB.2.2.2.2.2
          have hP : va_P D vwCl [(w, .inr (9, [.int f2477_0, .ref bu, .int (nI ((κ w).2.2.1)), .int (nI tl), .int (nI (p2404 + 1)), .int er1, .int f2477_6, .int f2477_7, .ref (κ w).2.2.2, .ref f2477_9, .ref dr, .ref f2477_11, .int (nI f2477_12), .int f2477_13, .int 4, .int f2477_15, .int f2477_16, .ref f2477_17])), (dr, .inl (cs 0, 1383, .inl f2398))] _ := hB.1
          have hbu9 := (hm.2.2.2.2.2.2.1).kept (hB.2.2.2.1 _ hm.2.2.2.2.2.2.1.lt (by simp only [List.mem_cons, List.not_mem_nil, or_false, not_or]; exact ne_c hbT.1 hw.1 (by decide)))
          have hm : MF D cs w _ ((p2404 + 1)) (tl) (er1) (4) dr bu g := ⟨⟨_, hP 0 _ rfl, rfl⟩, ⟨_, hP 0 _ rfl, rfl⟩, ⟨_, hP 0 _ rfl, rfl⟩, ⟨_, hP 0 _ rfl, rfl⟩, ⟨_, hP 0 _ rfl, rfl⟩, ⟨_, hP 0 _ rfl, rfl⟩, hbu9, (by omega), (by omega)⟩
          have hps : PS D cs w _ ((p2404 + 1)) (tl) (er1) (4) dr bu g (N1) ((h + 1)) := ⟨hm, f2398, hP 1 _ rfl, e2398, by omega, v2398⟩
          refine cv_v (As := []) (rest := []) (b := w) ⟨hx, hb, hml, hown, hts⟩ (c_X9_term_d4 hT (w := w) hw hbT hdT hps) (cwV 0 hts gX9_readSum_X9_term rfl rfl rfl hdX9_term_v ⟨Nat.le_of_ble_eq_true rfl, Nat.le_of_ble_eq_true rfl⟩) hN hE hL (rcv10 hN hT hw.1) rfl rfl hl.1 (Nat.le_of_ble_eq_true rfl) dX9_readSum_55 (Nat.zero_le _) (Nat.zero_le _) (fun H1 locs hL hqr2478 => ?_)
          obtain ⟨hT1, hF1, hqr2478⟩ := hqr2478
          have hF := hF.tr (hF1.mono (by simp))
          have hT := hT1
          obtain ⟨N2479, p2480, er2481, a2482, b2483, z2484, m2485, f2486, d2487, e2488, n2489, v2490⟩ := hqr2478
          have hm := m2485
          have hm8 := hm.2.2.2.2.2.2.2
          have hbd : B0 ≤ dr := (hT.o26 hdT.1).1
          have hDR := hT.dr hdT d2487
          have hP : va_P D vwCl [(dr, .inl (cs 0, 1383, .inl f2486))] _ := va_P.cons d2487 va_P.nil
          refine lv_aload_n hx hb dX9_readSum_58 rfl (lv_at hl 1 rfl) ?_
          refine lv_iload_n hx hb dX9_readSum_59 rfl (lv_at hl 0 rfl) ?_
          refine lv_if_eq (tgt := 67) hx hb dX9_readSum_60 (by decide) (fun _ => ?_) (fun c9 => absurd (by decide) c9)
          refine lv_iconst (v := 3) hx hb dX9_readSum_67 (by decide) ?_
          refine cv_v (As := [.int 3]) (rest := []) (b := w) ⟨hx, hb, hml, hown, hts⟩ (c_X9_emit hT (w := w) hw (x := 3) hbT hdT hm (hP 0 _ rfl) e2488 (fun _ => by omega)) (cwV 1 hts gX9_readSum_X9_emit rfl rfl rfl hdX9_emit_v ⟨Nat.le_of_ble_eq_true rfl, Nat.le_of_ble_eq_true rfl⟩) hN hE hL (rcv10 hN hT hw.1) rfl rfl hl.1 (Nat.le_of_ble_eq_true rfl) dX9_readSum_68 (Nat.zero_le _) (Nat.zero_le _) (fun H1 locs hL hqr2492 => ?_)
          obtain ⟨hT1, hF1, hqr2492⟩ := hqr2492
          have hF := hF.tr (hF1.mono (by simp))
          have hT := hT1
          obtain ⟨f2493, N2494, d2495, e2496, x2497, m2498⟩ := hqr2492
          have hm := m2498
          have hm8 := hm.2.2.2.2.2.2.2
          have nx2497 := x2497.n
          have ox2497 := nx2497.1
          have hbd : B0 ≤ dr := (hT.o26 hdT.1).1
          have hDR := hT.dr hdT d2495
          have hP : va_P D vwCl [(dr, .inl (cs 0, 1383, .inl f2493))] _ := va_P.cons d2495 va_P.nil
          refine lv_goto (tgt := 4) hx hb dX9_readSum_71 (by decide) ?_
          have hps : PS D cs w _ (p2480) (tl) (er2481) (4) dr bu g (N2494) ((h + 1)) := ⟨hm, f2493, hP 0 _ rfl, e2496, by omega, (EM.op x2497 (by decide) v2490)⟩
          exact ih2397 (p2480, N2494, er2481) _ _ _ (by show 600 - (p2480) < 600 - p; omega) ⟨hps, (by show (N2494) + 2 * pos ≤ N + 2 * (p2480); omega), (by show pos ≤ (p2480); omega), (fun e9 => hz1 (z2484 e9)), hT, hF, hL⟩ (lv_sub hl [1] rfl)
        · refine lv_iconst (v := 1) hx hb dX9_readSum_38 (by decide) ?_
          refine lv_goto (tgt := 43) hx hb dX9_readSum_39 (by decide) ?_
          refine lv_istore_n (lv' := [(1, .int 1), (0, .ref w)]) hx hb dX9_readSum_43 rfl hl (by decide) rfl (fun ls hl => ?_)
          refine lv_aload_n hx hb dX9_readSum_44 rfl (lv_at hl 1 rfl) ?_
          refine lv_dup hx hb dX9_readSum_45 rfl ?_
          obtain ⟨hb2500, e2500, hat2500, hk2500⟩ := hT.o10 hw.1
          obtain ⟨f2500_0, f2500_1, f2500_3, f2500_4, f2500_5, f2500_6, f2500_7, f2500_9, f2500_10, f2500_11, f2500_12, f2500_13, f2500_14, f2500_15, f2500_16, f2500_17, rfl, c2500_2, c2500_3, c2500_4, c2500_12, t2500_1, t2500_8, t2500_9, c2500_sd, t2500_10, t2500_11, t2500_17⟩ := hk2500
          obtain ⟨rfl, rfl, rfl, rfl, rfl, rfl⟩ := hm.at hat2500 c2500_3 (by omega)
          have hm8 := hm.2.2.2.2.2.2.2
          have hP : va_P D vwCl [(w, .inr (9, [.int f2500_0, .ref bu, .int (nI ((κ w).2.2.1)), .int (nI tl), .int (nI p2404), .int er1, .int f2500_6, .int f2500_7, .ref (κ w).2.2.2, .ref f2500_9, .ref dr, .ref f2500_11, .int (nI f2500_12), .int f2500_13, .int 4, .int f2500_15, .int f2500_16, .ref f2500_17])), (dr, .inl (cs 0, 1383, .inl f2398))] _ := va_P.cons hat2500 hP
          refine va_get (D := D) (ci := 9) (v := .int (nI p2404)) (C := RX9) (T := TX9) (N := 18) hx hb hts iX9_readSum_9 hown hN.1 hP 0 rfl rfl 4 (by decide) (hts _ mX9_readSum_1) (fun _ h9 => h9) rfl dX9_readSum_46 ?_
          refine lv_iconst (v := 1) hx hb dX9_readSum_49 (by decide) ?_
          refine lv_iadd hx hb dX9_readSum_50 ?_
          refine tp_i (nI (p2404 + 1)) (nI_add p2404 1) ?_
          have hB : Bx B0 D _ [(w, .inr (9, [.int f2500_0, .ref bu, .int (nI ((κ w).2.2.1)), .int (nI tl), .int (nI p2404), .int er1, .int f2500_6, .int f2500_7, .ref (κ w).2.2.2, .ref f2500_9, .ref dr, .ref f2500_11, .int (nI f2500_12), .int f2500_13, .int 4, .int f2500_15, .int f2500_16, .ref f2500_17])), (dr, .inl (cs 0, 1383, .inl f2398))] [] _ _ := Bx.of (fun a => (κ a).1) hL hP (fa_c hb2500 (fa_c hbd fa_n)) (by simp only [List.map_cons, List.map_nil, hw.1, hdT.1]; decide)
          refine b_put (D := D) (ci := 9) (v := .int (nI (p2404 + 1))) (ty := .int) (C := RX9) (T := TX9) (N := 18) hx hb hts iX9_readSum_9 tyX9 tyX9_ok nmX9 hown hN hB 0 rfl rfl 4 (by decide) (hts _ mX9_readSum_1) (fun _ h9 => h9) rfl (by decide +kernel) rfl rfl (Nat.le_of_ble_eq_true rfl) (.inl rfl) dX9_readSum_51 (fun H locs hB => ?_)
          have hB : Bx B0 D _ [(w, .inr (9, [.int f2500_0, .ref bu, .int (nI ((κ w).2.2.1)), .int (nI tl), .int (nI (p2404 + 1)), .int er1, .int f2500_6, .int f2500_7, .ref (κ w).2.2.2, .ref f2500_9, .ref dr, .ref f2500_11, .int (nI f2500_12), .int f2500_13, .int 4, .int f2500_15, .int f2500_16, .ref f2500_17])), (dr, .inl (cs 0, 1383, .inl f2398))] [w] _ _ := hB
          refine lv_aload_n hx hb dX9_readSum_54 rfl (lv_at hl 1 rfl) ?_
          have hT : WT B0 D cs T κ _ := hT.close hB ⟨⟨0, _, rfl, ok_10 hw.1 ⟨_, _, _, _, _, _, _, _, _, _, _, _, _, _, _, _, rfl, (by omega), (by omega), (by omega), (by omega), hbT, t2500_8, t2500_9, c2500_sd, hdT, t2500_11, t2500_17⟩⟩, trivial⟩
          have hF : Fr B0 [12, 17] κ H0 _ := hF.close hB (fa_c (by simp [hw.2]) fa_n)
          have hL : OkL B0 _ := hB.2.2.2.2.2
          have hP : va_P D vwCl [(w, .inr (9, [.int f2500_0, .ref bu, .int (nI ((κ w).2.2.1)), .int (nI tl), .int (nI (p2404 + 1)), .int er1, .int f2500_6, .int f2500_7, .ref (κ w).2.2.2, .ref f2500_9, .ref dr, .ref f2500_11, .int (nI f2500_12), .int f2500_13, .int 4, .int f2500_15, .int f2500_16, .ref f2500_17])), (dr, .inl (cs 0, 1383, .inl f2398))] _ := hB.1
          have hbu9 := (hm.2.2.2.2.2.2.1).kept (hB.2.2.2.1 _ hm.2.2.2.2.2.2.1.lt (by simp only [List.mem_cons, List.not_mem_nil, or_false, not_or]; exact ne_c hbT.1 hw.1 (by decide)))
          have hm : MF D cs w _ ((p2404 + 1)) (tl) (er1) (4) dr bu g := ⟨⟨_, hP 0 _ rfl, rfl⟩, ⟨_, hP 0 _ rfl, rfl⟩, ⟨_, hP 0 _ rfl, rfl⟩, ⟨_, hP 0 _ rfl, rfl⟩, ⟨_, hP 0 _ rfl, rfl⟩, ⟨_, hP 0 _ rfl, rfl⟩, hbu9, (by omega), (by omega)⟩
          have hps : PS D cs w _ ((p2404 + 1)) (tl) (er1) (4) dr bu g (N1) ((h + 1)) := ⟨hm, f2398, hP 1 _ rfl, e2398, by omega, v2398⟩
          refine cv_v (As := []) (rest := []) (b := w) ⟨hx, hb, hml, hown, hts⟩ (c_X9_term_d4 hT (w := w) hw hbT hdT hps) (cwV 0 hts gX9_readSum_X9_term rfl rfl rfl hdX9_term_v ⟨Nat.le_of_ble_eq_true rfl, Nat.le_of_ble_eq_true rfl⟩) hN hE hL (rcv10 hN hT hw.1) rfl rfl hl.1 (Nat.le_of_ble_eq_true rfl) dX9_readSum_55 (Nat.zero_le _) (Nat.zero_le _) (fun H1 locs hL hqr2501 => ?_)
          obtain ⟨hT1, hF1, hqr2501⟩ := hqr2501
          have hF := hF.tr (hF1.mono (by simp))
          have hT := hT1
          obtain ⟨N2502, p2503, er2504, a2505, b2506, z2507, m2508, f2509, d2510, e2511, n2512, v2513⟩ := hqr2501
          have hm := m2508
          have hm8 := hm.2.2.2.2.2.2.2
          have hbd : B0 ≤ dr := (hT.o26 hdT.1).1
          have hDR := hT.dr hdT d2510
          have hP : va_P D vwCl [(dr, .inl (cs 0, 1383, .inl f2509))] _ := va_P.cons d2510 va_P.nil
          refine lv_aload_n hx hb dX9_readSum_58 rfl (lv_at hl 1 rfl) ?_
          refine lv_iload_n hx hb dX9_readSum_59 rfl (lv_at hl 0 rfl) ?_
          refine lv_if_eq (tgt := 67) hx hb dX9_readSum_60 (by decide) (fun c9 => absurd c9 (by decide)) (fun _ => ?_)
          refine lv_iconst (v := 2) hx hb dX9_readSum_63 (by decide) ?_
          refine lv_goto (tgt := 68) hx hb dX9_readSum_64 (by decide) ?_
          refine cv_v (As := [.int 2]) (rest := []) (b := w) ⟨hx, hb, hml, hown, hts⟩ (c_X9_emit hT (w := w) hw (x := 2) hbT hdT hm (hP 0 _ rfl) e2511 (fun _ => by omega)) (cwV 1 hts gX9_readSum_X9_emit rfl rfl rfl hdX9_emit_v ⟨Nat.le_of_ble_eq_true rfl, Nat.le_of_ble_eq_true rfl⟩) hN hE hL (rcv10 hN hT hw.1) rfl rfl hl.1 (Nat.le_of_ble_eq_true rfl) dX9_readSum_68 (Nat.zero_le _) (Nat.zero_le _) (fun H1 locs hL hqr2515 => ?_)
          obtain ⟨hT1, hF1, hqr2515⟩ := hqr2515
          have hF := hF.tr (hF1.mono (by simp))
          have hT := hT1
          obtain ⟨f2516, N2517, d2518, e2519, x2520, m2521⟩ := hqr2515
          have hm := m2521
          have hm8 := hm.2.2.2.2.2.2.2
          have nx2520 := x2520.n
          have ox2520 := nx2520.1
          have hbd : B0 ≤ dr := (hT.o26 hdT.1).1
          have hDR := hT.dr hdT d2518
          have hP : va_P D vwCl [(dr, .inl (cs 0, 1383, .inl f2516))] _ := va_P.cons d2518 va_P.nil
          refine lv_goto (tgt := 4) hx hb dX9_readSum_71 (by decide) ?_
          have hps : PS D cs w _ (p2503) (tl) (er2504) (4) dr bu g (N2517) ((h + 1)) := ⟨hm, f2516, hP 0 _ rfl, e2519, by omega, (EM.op x2520 (by decide) v2513)⟩
          exact ih2397 (p2503, N2517, er2504) _ _ _ (by show 600 - (p2503) < 600 - p; omega) ⟨hps, (by show (N2517) + 2 * pos ≤ N + 2 * (p2503); omega), (by show pos ≤ (p2503); omega), (fun e9 => hz1 (z2507 e9)), hT, hF, hL⟩ (lv_sub hl [1] rfl)
  · refine lv_if_eq (tgt := 74) hx hb dX9_readSum_8 (by decide) (fun _ => ?_) (fun c9 => absurd (by decide) c9)
    have hps : PS D cs w _ (p) (tl) (er1) (4) dr bu g (N1) ((h + 1)) := ⟨hm, f2398, hP 0 _ rfl, e2398, by omega, v2398⟩
    exact en_v hx hb hr hlocks hL (Nat.zero_le _) (Nat.zero_le _) dX9_readSum_74 (⟨hT, hF, N1, p, er1, (by omega), (by omega), hz1, hps⟩)
set_option maxHeartbeats 4000000 in
set_option maxRecDepth 100000 in
theorem c_X9_factor_d3 {l : Launch} {D : va_G} {cs : Nat → ClassId} {B0 T : Nat} {κ : KM} {H0 : Heap} (hT : WT B0 D cs T κ H0) {w : Nat} (hw : T2 κ w 10 12) {pos tl : Nat} {er : Int32} {dr bu : Nat} {g : Nat → Int32} {N h : Nat} (hbT : T2 κ bu 23 14) (hdT : T2 κ dr 26 17) (hps : PS D cs w H0 pos tl er 3 dr bu g N h) : KC l yX9_factor wsX9_factor 8 172 0 0 D cs B0 H0 [.ref w] (Qv (fun H => WT B0 D cs T κ H ∧ Fr B0 [12, 17] κ H0 H ∧ ∃ N1 pos1 er1, N1 + 2 * pos ≤ N + 2 * pos1 ∧ pos ≤ pos1 ∧ (er1 = 0 → er = 0) ∧ PS D cs w H pos1 tl er1 3 dr bu g N1 (h + 1))) := by
  refine KC.of cX9_factor 4 none (by decide) rfl (Nat.le_of_ble_eq_true rfl) ?_
  intro p e s m below meth c ls hx hb hr hml hown hts hlocks hin hN hE hH0 hl
  have hown : s.vm.findClass RX9 = some m.cls := hown
  have hl : lv_has ls 4 [(0, .ref w)] := hl
  have hL : OkL B0 [] := OkL.nil
  have hF : Fr B0 [12, 17] κ H0 H0 := Fr.rf
  obtain ⟨hm, f2523, hd2523, e2523, n2523, v2523⟩ := hps
  have hm8 := hm.2.2.2.2.2.2.2
  have hbd : B0 ≤ dr := (hT.o26 hdT.1).1
  have hDR := hT.dr hdT hd2523
  have hP : va_P D vwCl [(dr, .inl (cs 0, 1383, .inl f2523))] _ := va_P.cons hd2523 va_P.nil
  refine lv_aload_n hx hb dX9_factor_0 rfl (lv_at hl 0 rfl) ?_
  refine cv_i (As := []) (rest := []) (b := w) ⟨hx, hb, hml, hown, hts⟩ (c_X9_isGood hT (w := w) hw hbT hdT hm) (cwV 0 hts gX9_factor_X9_isGood rfl rfl rfl hdX9_isGood_v ⟨Nat.le_of_ble_eq_true rfl, Nat.le_of_ble_eq_true rfl⟩) hN hE hL (rcv10 hN hT hw.1) rfl rfl hl.1 (Nat.le_of_ble_eq_true rfl) dX9_factor_1 (Nat.zero_le _) (Nat.zero_le _) (fun r2525 H1 locs hL hqr2525 => ?_)
  obtain ⟨h9, hqr2525⟩ := hqr2525; replace h9 := h9.symm; subst h9
  rcases hqr2525 with ⟨rfl, e2526⟩ | ⟨rfl, e2527⟩
  · refine lv_if_ne (tgt := 8) hx hb dX9_factor_4 (by decide) (fun _ => ?_) (fun c9 => absurd c9 (by decide))
    refine lv_aload_n hx hb dX9_factor_8 rfl (lv_at hl 0 rfl) ?_
    refine cv_i (As := []) (rest := []) (b := w) ⟨hx, hb, hml, hown, hts⟩ (c_X9_ahead hT (w := w) hw hbT hdT hm) (cwV 0 hts gX9_factor_X9_ahead rfl rfl rfl hdX9_ahead_v ⟨Nat.le_of_ble_eq_true rfl, Nat.le_of_ble_eq_true rfl⟩) hN hE hL (rcv10 hN hT hw.1) rfl rfl hl.1 (Nat.le_of_ble_eq_true rfl) dX9_factor_9 (Nat.zero_le _) (Nat.zero_le _) (fun r2528 H1 locs hL hqr2528 => ?_)
    obtain ⟨hT1, hF1, hqr2528⟩ := hqr2528
    have hP : va_P D vwCl [(dr, .inl (cs 0, 1383, .inl f2523))] _ := hF1.hP (hP.sub [0] rfl) (fa_c ⟨by rw [hdT.1]; decide, by rw [hdT.2]; first | decide | (simp; done) | (simp [h15a, h15b, h15c]; done) | (simp; omega)⟩ fa_n)
    have hF := hF.tr (hF1.mono (by simp))
    have hT := hT1
    obtain ⟨p2529, h2530, m2531, n2532, s2533, rfl⟩ := hqr2528
    have hm := m2531
    have hm8 := hm.2.2.2.2.2.2.2
    refine lv_istore_n (lv' := [(1, .int (byF g tl p2529)), (0, .ref w)]) hx hb dX9_factor_12 rfl hl (by decide) rfl (fun ls hl => ?_)
    refine lv_iload_n hx hb dX9_factor_13 rfl (lv_at hl 0 rfl) ?_
    refine lv_bipush (v := 40) hx hb dX9_factor_14 (by decide) ?_
    refine lv_icmp_ne (tgt := 78) hx hb dX9_factor_16 (by decide) (fun c2534 => ?_) (fun c2534 => ?_)
    · refine lv_iload_n hx hb dX9_factor_78 rfl (lv_at hl 0 rfl) ?_
      refine cs_i (As := [.int (byF g tl p2529)]) (rest := []) ⟨hx, hb, hml, hown, hts⟩ (c_X9_isDigit hT (x := (byF g tl p2529))) (va_cwS 1 hts gX9_factor_X9_isDigit rfl rfl rfl hdX9_isDigit_o ⟨Nat.le_of_ble_eq_true rfl, Nat.le_of_ble_eq_true rfl⟩) hN hE hL rfl rfl hl.1 (Nat.le_of_ble_eq_true rfl) dX9_factor_79 (Nat.zero_le _) (Nat.zero_le _) (fun r2535 H1 locs hL hqr2535 => ?_)
      obtain ⟨h9, hqr2535⟩ := hqr2535; replace h9 := h9.symm; subst h9
      rcases hqr2535 with ⟨rfl, o2536⟩ | ⟨rfl, l2537, g2538⟩
      · refine lv_if_eq (tgt := 89) hx hb dX9_factor_82 (by decide) (fun _ => ?_) (fun c9 => absurd (by decide) c9)
        refine lv_aload_n hx hb dX9_factor_89 rfl (lv_at hl 1 rfl) ?_
        refine va_ldcS hx hb hown (hN.s 19 rfl) dX9_factor_90 ?_
        refine cv_i (As := [.ref (cs 119)]) (rest := []) (b := w) ⟨hx, hb, hml, hown, hts⟩ (c_X9_takeWord hT (w := w) hw (i := 19) (by decide) hbT hdT hm) (cwV 1 hts gX9_factor_X9_takeWord rfl rfl rfl hdX9_takeWord_v ⟨Nat.le_of_ble_eq_true rfl, Nat.le_of_ble_eq_true rfl⟩) hN hE hL (rcv10 hN hT hw.1) rfl rfl hl.1 (Nat.le_of_ble_eq_true rfl) dX9_factor_92 (Nat.zero_le _) (Nat.zero_le _) (fun r2539 H1 locs hL hqr2539 => ?_)
        obtain ⟨hT1, hF1, hqr2539⟩ := hqr2539
        have hP : va_P D vwCl [(dr, .inl (cs 0, 1383, .inl f2523))] _ := hF1.hP (hP.sub [0] rfl) (fa_c ⟨by rw [hdT.1]; decide, by rw [hdT.2]; first | decide | (simp; done) | (simp [h15a, h15b, h15c]; done) | (simp; omega)⟩ fa_n)
        have hF := hF.tr (hF1.mono (by simp))
        have hT := hT1
        rcases hqr2539 with ⟨rfl, p2540, h2541, m2542⟩ | ⟨rfl, p2543, q2544, e2545, m2546⟩
        · have hm := m2542
          have hm8 := hm.2.2.2.2.2.2.2
          refine lv_if_eq (tgt := 102) hx hb dX9_factor_95 (by decide) (fun _ => ?_) (fun c9 => absurd (by decide) c9)
          refine lv_aload_n hx hb dX9_factor_102 rfl (lv_at hl 1 rfl) ?_
          refine va_ldcS hx hb hown (hN.s 25 rfl) dX9_factor_103 ?_
          refine cv_i (As := [.ref (cs 125)]) (rest := []) (b := w) ⟨hx, hb, hml, hown, hts⟩ (c_X9_takeWord hT (w := w) hw (i := 25) (by decide) hbT hdT hm) (cwV 1 hts gX9_factor_X9_takeWord rfl rfl rfl hdX9_takeWord_v ⟨Nat.le_of_ble_eq_true rfl, Nat.le_of_ble_eq_true rfl⟩) hN hE hL (rcv10 hN hT hw.1) rfl rfl hl.1 (Nat.le_of_ble_eq_true rfl) dX9_factor_105 (Nat.zero_le _) (Nat.zero_le _) (fun r2547 H1 locs hL hqr2547 => ?_)
          obtain ⟨hT1, hF1, hqr2547⟩ := hqr2547
          have hP : va_P D vwCl [(dr, .inl (cs 0, 1383, .inl f2523))] _ := hF1.hP (hP.sub [0] rfl) (fa_c ⟨by rw [hdT.1]; decide, by rw [hdT.2]; first | decide | (simp; done) | (simp [h15a, h15b, h15c]; done) | (simp; omega)⟩ fa_n)
          have hF := hF.tr (hF1.mono (by simp))
          have hT := hT1
          rcases hqr2547 with ⟨rfl, p2548, h2549, m2550⟩ | ⟨rfl, p2551, q2552, e2553, m2554⟩
          · have hm := m2550
            have hm8 := hm.2.2.2.2.2.2.2
            refine lv_if_eq (tgt := 115) hx hb dX9_factor_108 (by decide) (fun _ => ?_) (fun c9 => absurd (by decide) c9)
            refine lv_aload_n hx hb dX9_factor_115 rfl (lv_at hl 1 rfl) ?_
            refine va_ldcS hx hb hown (hN.s 26 rfl) dX9_factor_116 ?_
            refine cv_i (As := [.ref (cs 126)]) (rest := []) (b := w) ⟨hx, hb, hml, hown, hts⟩ (c_X9_takeWord hT (w := w) hw (i := 26) (by decide) hbT hdT hm) (cwV 1 hts gX9_factor_X9_takeWord rfl rfl rfl hdX9_takeWord_v ⟨Nat.le_of_ble_eq_true rfl, Nat.le_of_ble_eq_true rfl⟩) hN hE hL (rcv10 hN hT hw.1) rfl rfl hl.1 (Nat.le_of_ble_eq_true rfl) dX9_factor_118 (Nat.zero_le _) (Nat.zero_le _) (fun r2555 H1 locs hL hqr2555 => ?_)
            obtain ⟨hT1, hF1, hqr2555⟩ := hqr2555
            have hP : va_P D vwCl [(dr, .inl (cs 0, 1383, .inl f2523))] _ := hF1.hP (hP.sub [0] rfl) (fa_c ⟨by rw [hdT.1]; decide, by rw [hdT.2]; first | decide | (simp; done) | (simp [h15a, h15b, h15c]; done) | (simp; omega)⟩ fa_n)
            have hF := hF.tr (hF1.mono (by simp))
            have hT := hT1
            rcases hqr2555 with ⟨rfl, p2556, h2557, m2558⟩ | ⟨rfl, p2559, q2560, e2561, m2562⟩
            · have hm := m2558
              have hm8 := hm.2.2.2.2.2.2.2
              refine lv_if_eq (tgt := 128) hx hb dX9_factor_121 (by decide) (fun _ => ?_) (fun c9 => absurd (by decide) c9)
              refine lv_aload_n hx hb dX9_factor_128 rfl (lv_at hl 1 rfl) ?_
              refine va_ldcS hx hb hown (hN.s 27 rfl) dX9_factor_129 ?_
              refine cv_i (As := [.ref (cs 127)]) (rest := []) (b := w) ⟨hx, hb, hml, hown, hts⟩ (c_X9_takeWord hT (w := w) hw (i := 27) (by decide) hbT hdT hm) (cwV 1 hts gX9_factor_X9_takeWord rfl rfl rfl hdX9_takeWord_v ⟨Nat.le_of_ble_eq_true rfl, Nat.le_of_ble_eq_true rfl⟩) hN hE hL (rcv10 hN hT hw.1) rfl rfl hl.1 (Nat.le_of_ble_eq_true rfl) dX9_factor_131 (Nat.zero_le _) (Nat.zero_le _) (fun r2563 H1 locs hL hqr2563 => ?_)
              obtain ⟨hT1, hF1, hqr2563⟩ := hqr2563
              have hP : va_P D vwCl [(dr, .inl (cs 0, 1383, .inl f2523))] _ := hF1.hP (hP.sub [0] rfl) (fa_c ⟨by rw [hdT.1]; decide, by rw [hdT.2]; first | decide | (simp; done) | (simp [h15a, h15b, h15c]; done) | (simp; omega)⟩ fa_n)
              have hF := hF.tr (hF1.mono (by simp))
              have hT := hT1
              rcases hqr2563 with ⟨rfl, p2564, h2565, m2566⟩ | ⟨rfl, p2567, q2568, e2569, m2570⟩
              · have hm := m2566
                have hm8 := hm.2.2.2.2.2.2.2
                refine lv_if_eq (tgt := 141) hx hb dX9_factor_134 (by decide) (fun _ => ?_) (fun c9 => absurd (by decide) c9)
                refine lv_iconst (v := (-1)) hx hb dX9_factor_141 (by decide) ?_
                refine lv_istore_n (lv' := [(2, .int (-1)), (1, .int (byF g tl p2529)), (0, .ref w)]) hx hb dX9_factor_142 rfl hl (by decide) rfl (fun ls hl => ?_)
                refine lv_iload_n hx hb dX9_factor_143 rfl (lv_at hl 0 rfl) ?_
                refine lv_if_ge (tgt := 158) hx hb dX9_factor_144 (by decide) (fun c9 => absurd c9 (by decide)) (fun _ => ?_)
                refine lv_aload_n hx hb dX9_factor_147 rfl (lv_at hl 2 rfl) ?_
                refine lv_iconst (v := 0) hx hb dX9_factor_148 (by decide) ?_
                refine lv_sipush (v := 9999) hx hb dX9_factor_149 (by decide) ?_
                refine cv_i (As := [.int 0, .int 9999]) (rest := []) (b := w) ⟨hx, hb, hml, hown, hts⟩ (c_X9_number hT (w := w) hw (x := 0) (y := 9999) hbT hdT hm) (cwV 2 hts gX9_factor_X9_number rfl rfl rfl hdX9_number_v ⟨Nat.le_of_ble_eq_true rfl, Nat.le_of_ble_eq_true rfl⟩) hN hE hL (rcv10 hN hT hw.1) rfl rfl hl.1 (Nat.le_of_ble_eq_true rfl) dX9_factor_152 (Nat.zero_le _) (Nat.zero_le _) (fun r2571 H1 locs hL hqr2571 => ?_)
                obtain ⟨hT1, hF1, hqr2571⟩ := hqr2571
                have hP : va_P D vwCl [(dr, .inl (cs 0, 1383, .inl f2523))] _ := hF1.hP (hP.sub [0] rfl) (fa_c ⟨by rw [hdT.1]; decide, by rw [hdT.2]; first | decide | (simp; done) | (simp [h15a, h15b, h15c]; done) | (simp; omega)⟩ fa_n)
                have hF := hF.tr (hF1.mono (by simp))
                have hT := hT1
                obtain ⟨p2572, er2573, a2574, z2575, m2576, q2577⟩ := hqr2571
                have hm := m2576
                have hm8 := hm.2.2.2.2.2.2.2
                refine lv_goto (tgt := 159) hx hb dX9_factor_155 (by decide) ?_
                refine lv_istore_n (lv' := [(3, .int r2571), (2, .int (-1)), (1, .int (byF g tl p2529)), (0, .ref w)]) hx hb dX9_factor_159 rfl hl (by decide) rfl (fun ls hl => ?_)
                refine lv_aload_n hx hb dX9_factor_160 rfl (lv_at hl 3 rfl) ?_
                refine lv_iload_n hx hb dX9_factor_161 rfl (lv_at hl 1 rfl) ?_
                refine lv_if_ge (tgt := 169) hx hb dX9_factor_162 (by decide) (fun c9 => absurd c9 (by decide)) (fun _ => ?_)
                refine lv_iconst (v := 0) hx hb dX9_factor_165 (by decide) ?_
                refine lv_goto (tgt := 170) hx hb dX9_factor_166 (by decide) ?_
                refine cv_v (As := [.int 0]) (rest := []) (b := w) ⟨hx, hb, hml, hown, hts⟩ (c_X9_emit hT (w := w) hw (x := 0) hbT hdT hm (hP 0 _ rfl) e2523 (fun e9 => by have q9 := (z2575 e9).2; omega)) (cwV 1 hts gX9_factor_X9_emit rfl rfl rfl hdX9_emit_v ⟨Nat.le_of_ble_eq_true rfl, Nat.le_of_ble_eq_true rfl⟩) hN hE hL (rcv10 hN hT hw.1) rfl rfl hl.1 (Nat.le_of_ble_eq_true rfl) dX9_factor_170 (Nat.zero_le _) (Nat.zero_le _) (fun H1 locs hL hqr2578 => ?_)
                obtain ⟨hT1, hF1, hqr2578⟩ := hqr2578
                have hF := hF.tr (hF1.mono (by simp))
                have hT := hT1
                obtain ⟨f2579, N2580, d2581, e2582, x2583, m2584⟩ := hqr2578
                have hm := m2584
                have hm8 := hm.2.2.2.2.2.2.2
                have nx2583 := x2583.n
                have ox2583 := nx2583.1
                have hbd : B0 ≤ dr := (hT.o26 hdT.1).1
                have hDR := hT.dr hdT d2581
                have hP : va_P D vwCl [(dr, .inl (cs 0, 1383, .inl f2579))] _ := va_P.cons d2581 va_P.nil
                refine lv_aload_n hx hb dX9_factor_173 rfl (lv_at hl 3 rfl) ?_
                refine lv_iload_n hx hb dX9_factor_174 rfl (lv_at hl 0 rfl) ?_
                refine cv_v (As := [.int r2571]) (rest := []) (b := w) ⟨hx, hb, hml, hown, hts⟩ (c_X9_emit hT (w := w) hw (x := r2571) hbT hdT hm (hP 0 _ rfl) e2582 (fun e9 => by have q9 := (z2575 e9).2; omega)) (cwV 1 hts gX9_factor_X9_emit rfl rfl rfl hdX9_emit_v ⟨Nat.le_of_ble_eq_true rfl, Nat.le_of_ble_eq_true rfl⟩) hN hE hL (rcv10 hN hT hw.1) rfl rfl hl.1 (Nat.le_of_ble_eq_true rfl) dX9_factor_175 (Nat.zero_le _) (Nat.zero_le _) (fun H1 locs hL hqr2586 => ?_)
                obtain ⟨hT1, hF1, hqr2586⟩ := hqr2586
                have hF := hF.tr (hF1.mono (by simp))
                have hT := hT1
                obtain ⟨f2587, N2588, d2589, e2590, x2591, m2592⟩ := hqr2586
                have hm := m2592
                have hm8 := hm.2.2.2.2.2.2.2
                have nx2591 := x2591.n
                have ox2591 := nx2591.1
                have hbd : B0 ≤ dr := (hT.o26 hdT.1).1
                have hDR := hT.dr hdT d2589
                have hP : va_P D vwCl [(dr, .inl (cs 0, 1383, .inl f2587))] _ := va_P.cons d2589 va_P.nil
                have bx2583 := nx2583.2.1
                have bx2591 := nx2591.2.1
                have hbn : N2588 + 2 * pos ≤ N + 2 * p2572 ∧ N2588 ≤ 2 * p2572 := by
                  by_cases e9 : er2573 = 0
                  · have q9 := (z2575 e9).2; omega
                  · have q9 := bx2583 e9; have q8 := bx2591 e9; omega
                exact en_v hx hb hr hlocks hL (Nat.zero_le _) (Nat.zero_le _) dX9_factor_178 (⟨hT, hF, _, p2572, er2573, hbn.1, (by omega), (fun e9 => id ((fun e9 => (z2575 e9).1) e9)), hm, _, hP 0 _ rfl, e2590, hbn.2, (EM.lit x2583 x2591 (by decide) (fun e9 => v2523 ((fun e9 => (z2575 e9).1) e9)))⟩)
              · have hm := m2570
                have hm8 := hm.2.2.2.2.2.2.2
                refine lv_if_eq (tgt := 141) hx hb dX9_factor_134 (by decide) (fun c9 => absurd c9 (by decide)) (fun _ => ?_)
                refine lv_iconst (v := 3) hx hb dX9_factor_137 (by decide) ?_
                refine lv_goto (tgt := 142) hx hb dX9_factor_138 (by decide) ?_
                refine lv_istore_n (lv' := [(2, .int 3), (1, .int (byF g tl p2529)), (0, .ref w)]) hx hb dX9_factor_142 rfl hl (by decide) rfl (fun ls hl => ?_)
                refine lv_iload_n hx hb dX9_factor_143 rfl (lv_at hl 0 rfl) ?_
                refine lv_if_ge (tgt := 158) hx hb dX9_factor_144 (by decide) (fun _ => ?_) (fun c9 => absurd (by decide) c9)
                refine lv_iload_n hx hb dX9_factor_158 rfl (lv_at hl 0 rfl) ?_
                refine lv_istore_n (lv' := [(3, .int 3), (2, .int 3), (1, .int (byF g tl p2529)), (0, .ref w)]) hx hb dX9_factor_159 rfl hl (by decide) rfl (fun ls hl => ?_)
                refine lv_aload_n hx hb dX9_factor_160 rfl (lv_at hl 3 rfl) ?_
                refine lv_iload_n hx hb dX9_factor_161 rfl (lv_at hl 1 rfl) ?_
                refine lv_if_ge (tgt := 169) hx hb dX9_factor_162 (by decide) (fun _ => ?_) (fun c9 => absurd (by decide) c9)
                refine lv_iconst (v := 1) hx hb dX9_factor_169 (by decide) ?_
                refine cv_v (As := [.int 1]) (rest := []) (b := w) ⟨hx, hb, hml, hown, hts⟩ (c_X9_emit hT (w := w) hw (x := 1) hbT hdT hm (hP 0 _ rfl) e2523 (fun e9 => by omega)) (cwV 1 hts gX9_factor_X9_emit rfl rfl rfl hdX9_emit_v ⟨Nat.le_of_ble_eq_true rfl, Nat.le_of_ble_eq_true rfl⟩) hN hE hL (rcv10 hN hT hw.1) rfl rfl hl.1 (Nat.le_of_ble_eq_true rfl) dX9_factor_170 (Nat.zero_le _) (Nat.zero_le _) (fun H1 locs hL hqr2594 => ?_)
                obtain ⟨hT1, hF1, hqr2594⟩ := hqr2594
                have hF := hF.tr (hF1.mono (by simp))
                have hT := hT1
                obtain ⟨f2595, N2596, d2597, e2598, x2599, m2600⟩ := hqr2594
                have hm := m2600
                have hm8 := hm.2.2.2.2.2.2.2
                have nx2599 := x2599.n
                have ox2599 := nx2599.1
                have hbd : B0 ≤ dr := (hT.o26 hdT.1).1
                have hDR := hT.dr hdT d2597
                have hP : va_P D vwCl [(dr, .inl (cs 0, 1383, .inl f2595))] _ := va_P.cons d2597 va_P.nil
                refine lv_aload_n hx hb dX9_factor_173 rfl (lv_at hl 3 rfl) ?_
                refine lv_iload_n hx hb dX9_factor_174 rfl (lv_at hl 0 rfl) ?_
                refine cv_v (As := [.int 3]) (rest := []) (b := w) ⟨hx, hb, hml, hown, hts⟩ (c_X9_emit hT (w := w) hw (x := 3) hbT hdT hm (hP 0 _ rfl) e2598 (fun e9 => by omega)) (cwV 1 hts gX9_factor_X9_emit rfl rfl rfl hdX9_emit_v ⟨Nat.le_of_ble_eq_true rfl, Nat.le_of_ble_eq_true rfl⟩) hN hE hL (rcv10 hN hT hw.1) rfl rfl hl.1 (Nat.le_of_ble_eq_true rfl) dX9_factor_175 (Nat.zero_le _) (Nat.zero_le _) (fun H1 locs hL hqr2602 => ?_)
                obtain ⟨hT1, hF1, hqr2602⟩ := hqr2602
                have hF := hF.tr (hF1.mono (by simp))
                have hT := hT1
                obtain ⟨f2603, N2604, d2605, e2606, x2607, m2608⟩ := hqr2602
                have hm := m2608
                have hm8 := hm.2.2.2.2.2.2.2
                have nx2607 := x2607.n
                have ox2607 := nx2607.1
                have hbd : B0 ≤ dr := (hT.o26 hdT.1).1
                have hDR := hT.dr hdT d2605
                have hP : va_P D vwCl [(dr, .inl (cs 0, 1383, .inl f2603))] _ := va_P.cons d2605 va_P.nil
                have bx2599 := nx2599.2.1
                have bx2607 := nx2607.2.1
                have hbn : N2604 + 2 * pos ≤ N + 2 * p2567 ∧ N2604 ≤ 2 * p2567 := by
                  by_cases e9 : er = 0
                  · omega
                  · have q9 := bx2599 e9; have q8 := bx2607 e9; omega
                exact en_v hx hb hr hlocks hL (Nat.zero_le _) (Nat.zero_le _) dX9_factor_178 (⟨hT, hF, _, p2567, er, hbn.1, (by omega), id, hm, _, hP 0 _ rfl, e2606, hbn.2, (EM.lit x2599 x2607 (by decide) v2523)⟩)
            · have hm := m2562
              have hm8 := hm.2.2.2.2.2.2.2
              refine lv_if_eq (tgt := 128) hx hb dX9_factor_121 (by decide) (fun c9 => absurd c9 (by decide)) (fun _ => ?_)
              refine lv_iconst (v := 2) hx hb dX9_factor_124 (by decide) ?_
              refine lv_goto (tgt := 142) hx hb dX9_factor_125 (by decide) ?_
              refine lv_istore_n (lv' := [(2, .int 2), (1, .int (byF g tl p2529)), (0, .ref w)]) hx hb dX9_factor_142 rfl hl (by decide) rfl (fun ls hl => ?_)
              refine lv_iload_n hx hb dX9_factor_143 rfl (lv_at hl 0 rfl) ?_
              refine lv_if_ge (tgt := 158) hx hb dX9_factor_144 (by decide) (fun _ => ?_) (fun c9 => absurd (by decide) c9)
              refine lv_iload_n hx hb dX9_factor_158 rfl (lv_at hl 0 rfl) ?_
              refine lv_istore_n (lv' := [(3, .int 2), (2, .int 2), (1, .int (byF g tl p2529)), (0, .ref w)]) hx hb dX9_factor_159 rfl hl (by decide) rfl (fun ls hl => ?_)
              refine lv_aload_n hx hb dX9_factor_160 rfl (lv_at hl 3 rfl) ?_
              refine lv_iload_n hx hb dX9_factor_161 rfl (lv_at hl 1 rfl) ?_
              refine lv_if_ge (tgt := 169) hx hb dX9_factor_162 (by decide) (fun _ => ?_) (fun c9 => absurd (by decide) c9)
              refine lv_iconst (v := 1) hx hb dX9_factor_169 (by decide) ?_
              refine cv_v (As := [.int 1]) (rest := []) (b := w) ⟨hx, hb, hml, hown, hts⟩ (c_X9_emit hT (w := w) hw (x := 1) hbT hdT hm (hP 0 _ rfl) e2523 (fun e9 => by omega)) (cwV 1 hts gX9_factor_X9_emit rfl rfl rfl hdX9_emit_v ⟨Nat.le_of_ble_eq_true rfl, Nat.le_of_ble_eq_true rfl⟩) hN hE hL (rcv10 hN hT hw.1) rfl rfl hl.1 (Nat.le_of_ble_eq_true rfl) dX9_factor_170 (Nat.zero_le _) (Nat.zero_le _) (fun H1 locs hL hqr2610 => ?_)
              obtain ⟨hT1, hF1, hqr2610⟩ := hqr2610
              have hF := hF.tr (hF1.mono (by simp))
              have hT := hT1
              obtain ⟨f2611, N2612, d2613, e2614, x2615, m2616⟩ := hqr2610
              have hm := m2616
              have hm8 := hm.2.2.2.2.2.2.2
              have nx2615 := x2615.n
              have ox2615 := nx2615.1
              have hbd : B0 ≤ dr := (hT.o26 hdT.1).1
              have hDR := hT.dr hdT d2613
              have hP : va_P D vwCl [(dr, .inl (cs 0, 1383, .inl f2611))] _ := va_P.cons d2613 va_P.nil
              refine lv_aload_n hx hb dX9_factor_173 rfl (lv_at hl 3 rfl) ?_
              refine lv_iload_n hx hb dX9_factor_174 rfl (lv_at hl 0 rfl) ?_
              refine cv_v (As := [.int 2]) (rest := []) (b := w) ⟨hx, hb, hml, hown, hts⟩ (c_X9_emit hT (w := w) hw (x := 2) hbT hdT hm (hP 0 _ rfl) e2614 (fun e9 => by omega)) (cwV 1 hts gX9_factor_X9_emit rfl rfl rfl hdX9_emit_v ⟨Nat.le_of_ble_eq_true rfl, Nat.le_of_ble_eq_true rfl⟩) hN hE hL (rcv10 hN hT hw.1) rfl rfl hl.1 (Nat.le_of_ble_eq_true rfl) dX9_factor_175 (Nat.zero_le _) (Nat.zero_le _) (fun H1 locs hL hqr2618 => ?_)
              obtain ⟨hT1, hF1, hqr2618⟩ := hqr2618
              have hF := hF.tr (hF1.mono (by simp))
              have hT := hT1
              obtain ⟨f2619, N2620, d2621, e2622, x2623, m2624⟩ := hqr2618
              have hm := m2624
              have hm8 := hm.2.2.2.2.2.2.2
              have nx2623 := x2623.n
              have ox2623 := nx2623.1
              have hbd : B0 ≤ dr := (hT.o26 hdT.1).1
              have hDR := hT.dr hdT d2621
              have hP : va_P D vwCl [(dr, .inl (cs 0, 1383, .inl f2619))] _ := va_P.cons d2621 va_P.nil
              have bx2615 := nx2615.2.1
              have bx2623 := nx2623.2.1
              have hbn : N2620 + 2 * pos ≤ N + 2 * p2559 ∧ N2620 ≤ 2 * p2559 := by
                by_cases e9 : er = 0
                · omega
                · have q9 := bx2615 e9; have q8 := bx2623 e9; omega
              exact en_v hx hb hr hlocks hL (Nat.zero_le _) (Nat.zero_le _) dX9_factor_178 (⟨hT, hF, _, p2559, er, hbn.1, (by omega), id, hm, _, hP 0 _ rfl, e2622, hbn.2, (EM.lit x2615 x2623 (by decide) v2523)⟩)
          · have hm := m2554
            have hm8 := hm.2.2.2.2.2.2.2
            refine lv_if_eq (tgt := 115) hx hb dX9_factor_108 (by decide) (fun c9 => absurd c9 (by decide)) (fun _ => ?_)
            refine lv_iconst (v := 1) hx hb dX9_factor_111 (by decide) ?_
            refine lv_goto (tgt := 142) hx hb dX9_factor_112 (by decide) ?_
            refine lv_istore_n (lv' := [(2, .int 1), (1, .int (byF g tl p2529)), (0, .ref w)]) hx hb dX9_factor_142 rfl hl (by decide) rfl (fun ls hl => ?_)
            refine lv_iload_n hx hb dX9_factor_143 rfl (lv_at hl 0 rfl) ?_
            refine lv_if_ge (tgt := 158) hx hb dX9_factor_144 (by decide) (fun _ => ?_) (fun c9 => absurd (by decide) c9)
            refine lv_iload_n hx hb dX9_factor_158 rfl (lv_at hl 0 rfl) ?_
            refine lv_istore_n (lv' := [(3, .int 1), (2, .int 1), (1, .int (byF g tl p2529)), (0, .ref w)]) hx hb dX9_factor_159 rfl hl (by decide) rfl (fun ls hl => ?_)
            refine lv_aload_n hx hb dX9_factor_160 rfl (lv_at hl 3 rfl) ?_
            refine lv_iload_n hx hb dX9_factor_161 rfl (lv_at hl 1 rfl) ?_
            refine lv_if_ge (tgt := 169) hx hb dX9_factor_162 (by decide) (fun _ => ?_) (fun c9 => absurd (by decide) c9)
            refine lv_iconst (v := 1) hx hb dX9_factor_169 (by decide) ?_
            refine cv_v (As := [.int 1]) (rest := []) (b := w) ⟨hx, hb, hml, hown, hts⟩ (c_X9_emit hT (w := w) hw (x := 1) hbT hdT hm (hP 0 _ rfl) e2523 (fun e9 => by omega)) (cwV 1 hts gX9_factor_X9_emit rfl rfl rfl hdX9_emit_v ⟨Nat.le_of_ble_eq_true rfl, Nat.le_of_ble_eq_true rfl⟩) hN hE hL (rcv10 hN hT hw.1) rfl rfl hl.1 (Nat.le_of_ble_eq_true rfl) dX9_factor_170 (Nat.zero_le _) (Nat.zero_le _) (fun H1 locs hL hqr2626 => ?_)
            obtain ⟨hT1, hF1, hqr2626⟩ := hqr2626
            have hF := hF.tr (hF1.mono (by simp))
            have hT := hT1
            obtain ⟨f2627, N2628, d2629, e2630, x2631, m2632⟩ := hqr2626
            have hm := m2632
            have hm8 := hm.2.2.2.2.2.2.2
            have nx2631 := x2631.n
            have ox2631 := nx2631.1
            have hbd : B0 ≤ dr := (hT.o26 hdT.1).1
            have hDR := hT.dr hdT d2629
            have hP : va_P D vwCl [(dr, .inl (cs 0, 1383, .inl f2627))] _ := va_P.cons d2629 va_P.nil
            refine lv_aload_n hx hb dX9_factor_173 rfl (lv_at hl 3 rfl) ?_
            refine lv_iload_n hx hb dX9_factor_174 rfl (lv_at hl 0 rfl) ?_
            refine cv_v (As := [.int 1]) (rest := []) (b := w) ⟨hx, hb, hml, hown, hts⟩ (c_X9_emit hT (w := w) hw (x := 1) hbT hdT hm (hP 0 _ rfl) e2630 (fun e9 => by omega)) (cwV 1 hts gX9_factor_X9_emit rfl rfl rfl hdX9_emit_v ⟨Nat.le_of_ble_eq_true rfl, Nat.le_of_ble_eq_true rfl⟩) hN hE hL (rcv10 hN hT hw.1) rfl rfl hl.1 (Nat.le_of_ble_eq_true rfl) dX9_factor_175 (Nat.zero_le _) (Nat.zero_le _) (fun H1 locs hL hqr2634 => ?_)
            obtain ⟨hT1, hF1, hqr2634⟩ := hqr2634
            have hF := hF.tr (hF1.mono (by simp))
            have hT := hT1
            obtain ⟨f2635, N2636, d2637, e2638, x2639, m2640⟩ := hqr2634
            have hm := m2640
            have hm8 := hm.2.2.2.2.2.2.2
            have nx2639 := x2639.n
            have ox2639 := nx2639.1
            have hbd : B0 ≤ dr := (hT.o26 hdT.1).1
            have hDR := hT.dr hdT d2637
            have hP : va_P D vwCl [(dr, .inl (cs 0, 1383, .inl f2635))] _ := va_P.cons d2637 va_P.nil
            have bx2631 := nx2631.2.1
            have bx2639 := nx2639.2.1
            have hbn : N2636 + 2 * pos ≤ N + 2 * p2551 ∧ N2636 ≤ 2 * p2551 := by
              by_cases e9 : er = 0
              · omega
              · have q9 := bx2631 e9; have q8 := bx2639 e9; omega
            exact en_v hx hb hr hlocks hL (Nat.zero_le _) (Nat.zero_le _) dX9_factor_178 (⟨hT, hF, _, p2551, er, hbn.1, (by omega), id, hm, _, hP 0 _ rfl, e2638, hbn.2, (EM.lit x2631 x2639 (by decide) v2523)⟩)
        · have hm := m2546
          have hm8 := hm.2.2.2.2.2.2.2
          refine lv_if_eq (tgt := 102) hx hb dX9_factor_95 (by decide) (fun c9 => absurd c9 (by decide)) (fun _ => ?_)
          refine lv_iconst (v := 0) hx hb dX9_factor_98 (by decide) ?_
          refine lv_goto (tgt := 142) hx hb dX9_factor_99 (by decide) ?_
          refine lv_istore_n (lv' := [(2, .int 0), (1, .int (byF g tl p2529)), (0, .ref w)]) hx hb dX9_factor_142 rfl hl (by decide) rfl (fun ls hl => ?_)
          refine lv_iload_n hx hb dX9_factor_143 rfl (lv_at hl 0 rfl) ?_
          refine lv_if_ge (tgt := 158) hx hb dX9_factor_144 (by decide) (fun _ => ?_) (fun c9 => absurd (by decide) c9)
          refine lv_iload_n hx hb dX9_factor_158 rfl (lv_at hl 0 rfl) ?_
          refine lv_istore_n (lv' := [(3, .int 0), (2, .int 0), (1, .int (byF g tl p2529)), (0, .ref w)]) hx hb dX9_factor_159 rfl hl (by decide) rfl (fun ls hl => ?_)
          refine lv_aload_n hx hb dX9_factor_160 rfl (lv_at hl 3 rfl) ?_
          refine lv_iload_n hx hb dX9_factor_161 rfl (lv_at hl 1 rfl) ?_
          refine lv_if_ge (tgt := 169) hx hb dX9_factor_162 (by decide) (fun _ => ?_) (fun c9 => absurd (by decide) c9)
          refine lv_iconst (v := 1) hx hb dX9_factor_169 (by decide) ?_
          refine cv_v (As := [.int 1]) (rest := []) (b := w) ⟨hx, hb, hml, hown, hts⟩ (c_X9_emit hT (w := w) hw (x := 1) hbT hdT hm (hP 0 _ rfl) e2523 (fun e9 => by omega)) (cwV 1 hts gX9_factor_X9_emit rfl rfl rfl hdX9_emit_v ⟨Nat.le_of_ble_eq_true rfl, Nat.le_of_ble_eq_true rfl⟩) hN hE hL (rcv10 hN hT hw.1) rfl rfl hl.1 (Nat.le_of_ble_eq_true rfl) dX9_factor_170 (Nat.zero_le _) (Nat.zero_le _) (fun H1 locs hL hqr2642 => ?_)
          obtain ⟨hT1, hF1, hqr2642⟩ := hqr2642
          have hF := hF.tr (hF1.mono (by simp))
          have hT := hT1
          obtain ⟨f2643, N2644, d2645, e2646, x2647, m2648⟩ := hqr2642
          have hm := m2648
          have hm8 := hm.2.2.2.2.2.2.2
          have nx2647 := x2647.n
          have ox2647 := nx2647.1
          have hbd : B0 ≤ dr := (hT.o26 hdT.1).1
          have hDR := hT.dr hdT d2645
          have hP : va_P D vwCl [(dr, .inl (cs 0, 1383, .inl f2643))] _ := va_P.cons d2645 va_P.nil
          refine lv_aload_n hx hb dX9_factor_173 rfl (lv_at hl 3 rfl) ?_
          refine lv_iload_n hx hb dX9_factor_174 rfl (lv_at hl 0 rfl) ?_
          refine cv_v (As := [.int 0]) (rest := []) (b := w) ⟨hx, hb, hml, hown, hts⟩ (c_X9_emit hT (w := w) hw (x := 0) hbT hdT hm (hP 0 _ rfl) e2646 (fun e9 => by omega)) (cwV 1 hts gX9_factor_X9_emit rfl rfl rfl hdX9_emit_v ⟨Nat.le_of_ble_eq_true rfl, Nat.le_of_ble_eq_true rfl⟩) hN hE hL (rcv10 hN hT hw.1) rfl rfl hl.1 (Nat.le_of_ble_eq_true rfl) dX9_factor_175 (Nat.zero_le _) (Nat.zero_le _) (fun H1 locs hL hqr2650 => ?_)
          obtain ⟨hT1, hF1, hqr2650⟩ := hqr2650
          have hF := hF.tr (hF1.mono (by simp))
          have hT := hT1
          obtain ⟨f2651, N2652, d2653, e2654, x2655, m2656⟩ := hqr2650
          have hm := m2656
          have hm8 := hm.2.2.2.2.2.2.2
          have nx2655 := x2655.n
          have ox2655 := nx2655.1
          have hbd : B0 ≤ dr := (hT.o26 hdT.1).1
          have hDR := hT.dr hdT d2653
          have hP : va_P D vwCl [(dr, .inl (cs 0, 1383, .inl f2651))] _ := va_P.cons d2653 va_P.nil
          have bx2647 := nx2647.2.1
          have bx2655 := nx2655.2.1
          have hbn : N2652 + 2 * pos ≤ N + 2 * p2543 ∧ N2652 ≤ 2 * p2543 := by
            by_cases e9 : er = 0
            · omega
            · have q9 := bx2647 e9; have q8 := bx2655 e9; omega
          exact en_v hx hb hr hlocks hL (Nat.zero_le _) (Nat.zero_le _) dX9_factor_178 (⟨hT, hF, _, p2543, er, hbn.1, (by omega), id, hm, _, hP 0 _ rfl, e2654, hbn.2, (EM.lit x2647 x2655 (by decide) v2523)⟩)
      · refine lv_if_eq (tgt := 89) hx hb dX9_factor_82 (by decide) (fun c9 => absurd c9 (by decide)) (fun _ => ?_)
        refine lv_iconst (v := (-1)) hx hb dX9_factor_85 (by decide) ?_
        refine lv_goto (tgt := 142) hx hb dX9_factor_86 (by decide) ?_
        refine lv_istore_n (lv' := [(2, .int (-1)), (1, .int (byF g tl p2529)), (0, .ref w)]) hx hb dX9_factor_142 rfl hl (by decide) rfl (fun ls hl => ?_)
        refine lv_iload_n hx hb dX9_factor_143 rfl (lv_at hl 0 rfl) ?_
        refine lv_if_ge (tgt := 158) hx hb dX9_factor_144 (by decide) (fun c9 => absurd c9 (by decide)) (fun _ => ?_)
        refine lv_aload_n hx hb dX9_factor_147 rfl (lv_at hl 2 rfl) ?_
        refine lv_iconst (v := 0) hx hb dX9_factor_148 (by decide) ?_
        refine lv_sipush (v := 9999) hx hb dX9_factor_149 (by decide) ?_
        refine cv_i (As := [.int 0, .int 9999]) (rest := []) (b := w) ⟨hx, hb, hml, hown, hts⟩ (c_X9_number hT (w := w) hw (x := 0) (y := 9999) hbT hdT hm) (cwV 2 hts gX9_factor_X9_number rfl rfl rfl hdX9_number_v ⟨Nat.le_of_ble_eq_true rfl, Nat.le_of_ble_eq_true rfl⟩) hN hE hL (rcv10 hN hT hw.1) rfl rfl hl.1 (Nat.le_of_ble_eq_true rfl) dX9_factor_152 (Nat.zero_le _) (Nat.zero_le _) (fun r2658 H1 locs hL hqr2658 => ?_)
        obtain ⟨hT1, hF1, hqr2658⟩ := hqr2658
        have hP : va_P D vwCl [(dr, .inl (cs 0, 1383, .inl f2523))] _ := hF1.hP (hP.sub [0] rfl) (fa_c ⟨by rw [hdT.1]; decide, by rw [hdT.2]; first | decide | (simp; done) | (simp [h15a, h15b, h15c]; done) | (simp; omega)⟩ fa_n)
        have hF := hF.tr (hF1.mono (by simp))
        have hT := hT1
        obtain ⟨p2659, er2660, a2661, z2662, m2663, q2664⟩ := hqr2658
        have hm := m2663
        have hm8 := hm.2.2.2.2.2.2.2
        refine lv_goto (tgt := 159) hx hb dX9_factor_155 (by decide) ?_
        refine lv_istore_n (lv' := [(3, .int r2658), (2, .int (-1)), (1, .int (byF g tl p2529)), (0, .ref w)]) hx hb dX9_factor_159 rfl hl (by decide) rfl (fun ls hl => ?_)
        refine lv_aload_n hx hb dX9_factor_160 rfl (lv_at hl 3 rfl) ?_
        refine lv_iload_n hx hb dX9_factor_161 rfl (lv_at hl 1 rfl) ?_
        refine lv_if_ge (tgt := 169) hx hb dX9_factor_162 (by decide) (fun c9 => absurd c9 (by decide)) (fun _ => ?_)
        refine lv_iconst (v := 0) hx hb dX9_factor_165 (by decide) ?_
        refine lv_goto (tgt := 170) hx hb dX9_factor_166 (by decide) ?_
        refine cv_v (As := [.int 0]) (rest := []) (b := w) ⟨hx, hb, hml, hown, hts⟩ (c_X9_emit hT (w := w) hw (x := 0) hbT hdT hm (hP 0 _ rfl) e2523 (fun e9 => by have q9 := (z2662 e9).2; omega)) (cwV 1 hts gX9_factor_X9_emit rfl rfl rfl hdX9_emit_v ⟨Nat.le_of_ble_eq_true rfl, Nat.le_of_ble_eq_true rfl⟩) hN hE hL (rcv10 hN hT hw.1) rfl rfl hl.1 (Nat.le_of_ble_eq_true rfl) dX9_factor_170 (Nat.zero_le _) (Nat.zero_le _) (fun H1 locs hL hqr2665 => ?_)
        obtain ⟨hT1, hF1, hqr2665⟩ := hqr2665
        have hF := hF.tr (hF1.mono (by simp))
        have hT := hT1
        obtain ⟨f2666, N2667, d2668, e2669, x2670, m2671⟩ := hqr2665
        have hm := m2671
        have hm8 := hm.2.2.2.2.2.2.2
        have nx2670 := x2670.n
        have ox2670 := nx2670.1
        have hbd : B0 ≤ dr := (hT.o26 hdT.1).1
        have hDR := hT.dr hdT d2668
        have hP : va_P D vwCl [(dr, .inl (cs 0, 1383, .inl f2666))] _ := va_P.cons d2668 va_P.nil
        refine lv_aload_n hx hb dX9_factor_173 rfl (lv_at hl 3 rfl) ?_
        refine lv_iload_n hx hb dX9_factor_174 rfl (lv_at hl 0 rfl) ?_
        refine cv_v (As := [.int r2658]) (rest := []) (b := w) ⟨hx, hb, hml, hown, hts⟩ (c_X9_emit hT (w := w) hw (x := r2658) hbT hdT hm (hP 0 _ rfl) e2669 (fun e9 => by have q9 := (z2662 e9).2; omega)) (cwV 1 hts gX9_factor_X9_emit rfl rfl rfl hdX9_emit_v ⟨Nat.le_of_ble_eq_true rfl, Nat.le_of_ble_eq_true rfl⟩) hN hE hL (rcv10 hN hT hw.1) rfl rfl hl.1 (Nat.le_of_ble_eq_true rfl) dX9_factor_175 (Nat.zero_le _) (Nat.zero_le _) (fun H1 locs hL hqr2673 => ?_)
        obtain ⟨hT1, hF1, hqr2673⟩ := hqr2673
        have hF := hF.tr (hF1.mono (by simp))
        have hT := hT1
        obtain ⟨f2674, N2675, d2676, e2677, x2678, m2679⟩ := hqr2673
        have hm := m2679
        have hm8 := hm.2.2.2.2.2.2.2
        have nx2678 := x2678.n
        have ox2678 := nx2678.1
        have hbd : B0 ≤ dr := (hT.o26 hdT.1).1
        have hDR := hT.dr hdT d2676
        have hP : va_P D vwCl [(dr, .inl (cs 0, 1383, .inl f2674))] _ := va_P.cons d2676 va_P.nil
        have bx2670 := nx2670.2.1
        have bx2678 := nx2678.2.1
        have hbn : N2675 + 2 * pos ≤ N + 2 * p2659 ∧ N2675 ≤ 2 * p2659 := by
          by_cases e9 : er2660 = 0
          · have q9 := (z2662 e9).2; omega
          · have q9 := bx2670 e9; have q8 := bx2678 e9; omega
        exact en_v hx hb hr hlocks hL (Nat.zero_le _) (Nat.zero_le _) dX9_factor_178 (⟨hT, hF, _, p2659, er2660, hbn.1, (by omega), (fun e9 => id ((fun e9 => (z2662 e9).1) e9)), hm, _, hP 0 _ rfl, e2677, hbn.2, (EM.lit x2670 x2678 (by decide) (fun e9 => v2523 ((fun e9 => (z2662 e9).1) e9)))⟩)
    · have hl9 := byF_c (c2534) (by decide)
      refine lv_aload_n hx hb dX9_factor_19 rfl (lv_at hl 1 rfl) ?_
      obtain ⟨hb2681, e2681, hat2681, hk2681⟩ := hT.o10 hw.1
      obtain ⟨f2681_0, f2681_1, f2681_3, f2681_4, f2681_5, f2681_6, f2681_7, f2681_9, f2681_10, f2681_11, f2681_12, f2681_13, f2681_14, f2681_15, f2681_16, f2681_17, rfl, c2681_2, c2681_3, c2681_4, c2681_12, t2681_1, t2681_8, t2681_9, c2681_sd, t2681_10, t2681_11, t2681_17⟩ := hk2681
      obtain ⟨rfl, rfl, rfl, rfl, rfl, rfl⟩ := hm.at hat2681 c2681_3 (by omega)
      have hm8 := hm.2.2.2.2.2.2.2
      have hP : va_P D vwCl [(w, .inr (9, [.int f2681_0, .ref bu, .int (nI ((κ w).2.2.1)), .int (nI tl), .int (nI p2529), .int er, .int f2681_6, .int f2681_7, .ref (κ w).2.2.2, .ref f2681_9, .ref dr, .ref f2681_11, .int (nI f2681_12), .int f2681_13, .int 3, .int f2681_15, .int f2681_16, .ref f2681_17])), (dr, .inl (cs 0, 1383, .inl f2523))] _ := va_P.cons hat2681 hP
      refine va_get (D := D) (ci := 9) (v := .int 3) (C := RX9) (T := TX9) (N := 18) hx hb hts iX9_factor_9 hown hN.1 hP 0 rfl rfl 14 (by decide) (hts _ mX9_factor_1) (fun _ h9 => h9) rfl dX9_factor_20 ?_
      refine lv_iconst (v := 4) hx hb dX9_factor_23 (by decide) ?_
      refine lv_icmp_ne (tgt := 37) hx hb dX9_factor_24 (by decide) (fun _ => ?_) (fun c9 => absurd c9 (by decide))
      refine lv_aload_n hx hb dX9_factor_37 rfl (lv_at hl 1 rfl) ?_
      refine lv_dup hx hb dX9_factor_38 rfl ?_
      refine va_get (D := D) (ci := 9) (v := .int (nI p2529)) (C := RX9) (T := TX9) (N := 18) hx hb hts iX9_factor_9 hown hN.1 hP 0 rfl rfl 4 (by decide) (hts _ mX9_factor_2) (fun _ h9 => h9) rfl dX9_factor_39 ?_
      refine lv_iconst (v := 1) hx hb dX9_factor_42 (by decide) ?_
      refine lv_iadd hx hb dX9_factor_43 ?_
      refine tp_i (nI (p2529 + 1)) (nI_add p2529 1) ?_
      have hB : Bx B0 D _ [(w, .inr (9, [.int f2681_0, .ref bu, .int (nI ((κ w).2.2.1)), .int (nI tl), .int (nI p2529), .int er, .int f2681_6, .int f2681_7, .ref (κ w).2.2.2, .ref f2681_9, .ref dr, .ref f2681_11, .int (nI f2681_12), .int f2681_13, .int 3, .int f2681_15, .int f2681_16, .ref f2681_17])), (dr, .inl (cs 0, 1383, .inl f2523))] [] _ _ := Bx.of (fun a => (κ a).1) hL hP (fa_c hb2681 (fa_c hbd fa_n)) (by simp only [List.map_cons, List.map_nil, hw.1, hdT.1]; decide)
      refine b_put (D := D) (ci := 9) (v := .int (nI (p2529 + 1))) (ty := .int) (C := RX9) (T := TX9) (N := 18) hx hb hts iX9_factor_9 tyX9 tyX9_ok nmX9 hown hN hB 0 rfl rfl 4 (by decide) (hts _ mX9_factor_2) (fun _ h9 => h9) rfl (by decide +kernel) rfl rfl (Nat.le_of_ble_eq_true rfl) (.inl rfl) dX9_factor_44 (fun H locs hB => ?_)
      have hB : Bx B0 D _ [(w, .inr (9, [.int f2681_0, .ref bu, .int (nI ((κ w).2.2.1)), .int (nI tl), .int (nI (p2529 + 1)), .int er, .int f2681_6, .int f2681_7, .ref (κ w).2.2.2, .ref f2681_9, .ref dr, .ref f2681_11, .int (nI f2681_12), .int f2681_13, .int 3, .int f2681_15, .int f2681_16, .ref f2681_17])), (dr, .inl (cs 0, 1383, .inl f2523))] [w] _ _ := hB
      refine lv_aload_n hx hb dX9_factor_47 rfl (lv_at hl 1 rfl) ?_
      refine lv_dup hx hb dX9_factor_48 rfl ?_
      refine va_get (D := D) (ci := 9) (v := .int 3) (C := RX9) (T := TX9) (N := 18) hx hb hts iX9_factor_9 hown hN.1 hB.1 0 rfl rfl 14 (by decide) (hts _ mX9_factor_1) (fun _ h9 => h9) rfl dX9_factor_49 ?_
      refine lv_iconst (v := 1) hx hb dX9_factor_52 (by decide) ?_
      refine lv_iadd hx hb dX9_factor_53 ?_
      refine tp_i 4 (by decide) ?_
      refine b_put (D := D) (ci := 9) (v := .int 4) (ty := .int) (C := RX9) (T := TX9) (N := 18) hx hb hts iX9_factor_9 tyX9 tyX9_ok nmX9 hown hN hB 0 rfl rfl 14 (by decide) (hts _ mX9_factor_1) (fun _ h9 => h9) rfl (by decide +kernel) rfl rfl (Nat.le_of_ble_eq_true rfl) (.inr ⟨rfl, List.mem_of_getElem? (i := 0) rfl⟩) dX9_factor_54 (fun H locs hB => ?_)
      have hB : Bx B0 D _ [(w, .inr (9, [.int f2681_0, .ref bu, .int (nI ((κ w).2.2.1)), .int (nI tl), .int (nI (p2529 + 1)), .int er, .int f2681_6, .int f2681_7, .ref (κ w).2.2.2, .ref f2681_9, .ref dr, .ref f2681_11, .int (nI f2681_12), .int f2681_13, .int 4, .int f2681_15, .int f2681_16, .ref f2681_17])), (dr, .inl (cs 0, 1383, .inl f2523))] [w] _ _ := hB
      refine lv_aload_n hx hb dX9_factor_57 rfl (lv_at hl 1 rfl) ?_
      have hT : WT B0 D cs T κ _ := hT.close hB ⟨⟨0, _, rfl, ok_10 hw.1 ⟨_, _, _, _, _, _, _, _, _, _, _, _, _, _, _, _, rfl, (by omega), (by omega), (by omega), (by omega), hbT, t2681_8, t2681_9, c2681_sd, hdT, t2681_11, t2681_17⟩⟩, trivial⟩
      have hF : Fr B0 [12, 17] κ H0 _ := hF.close hB (fa_c (by simp [hw.2]) fa_n)
      have hL : OkL B0 _ := hB.2.2.2.2.2
      have hP : va_P D vwCl [(w, .inr (9, [.int f2681_0, .ref bu, .int (nI ((κ w).2.2.1)), .int (nI tl), .int (nI (p2529 + 1)), .int er, .int f2681_6, .int f2681_7, .ref (κ w).2.2.2, .ref f2681_9, .ref dr, .ref f2681_11, .int (nI f2681_12), .int f2681_13, .int 4, .int f2681_15, .int f2681_16, .ref f2681_17])), (dr, .inl (cs 0, 1383, .inl f2523))] _ := hB.1
      have hbu9 := (hm.2.2.2.2.2.2.1).kept (hB.2.2.2.1 _ hm.2.2.2.2.2.2.1.lt (by simp only [List.mem_cons, List.not_mem_nil, or_false, not_or]; exact ne_c hbT.1 hw.1 (by decide)))
      have hm : MF D cs w _ ((p2529 + 1)) (tl) (er) (4) dr bu g := ⟨⟨_, hP 0 _ rfl, rfl⟩, ⟨_, hP 0 _ rfl, rfl⟩, ⟨_, hP 0 _ rfl, rfl⟩, ⟨_, hP 0 _ rfl, rfl⟩, ⟨_, hP 0 _ rfl, rfl⟩, ⟨_, hP 0 _ rfl, rfl⟩, hbu9, (by omega), (by omega)⟩
      have hps : PS D cs w _ ((p2529 + 1)) (tl) (er) (4) dr bu g (N) (h) := ⟨hm, f2523, hP 1 _ rfl, e2523, by omega, v2523⟩
      refine cv_v (As := []) (rest := []) (b := w) ⟨hx, hb, hml, hown, hts⟩ (c_X9_readSum_d4 hT (w := w) hw hbT hdT hps) (cwV 0 hts gX9_factor_X9_readSum rfl rfl rfl hdX9_readSum_v ⟨Nat.le_of_ble_eq_true rfl, Nat.le_of_ble_eq_true rfl⟩) hN hE hL (rcv10 hN hT hw.1) rfl rfl hl.1 (Nat.le_of_ble_eq_true rfl) dX9_factor_58 (Nat.zero_le _) (Nat.zero_le _) (fun H1 locs hL hqr2682 => ?_)
      obtain ⟨hT1, hF1, hqr2682⟩ := hqr2682
      have hF := hF.tr (hF1.mono (by simp))
      have hT := hT1
      obtain ⟨N2683, p2684, er2685, a2686, b2687, z2688, m2689, f2690, d2691, e2692, n2693, v2694⟩ := hqr2682
      have hm := m2689
      have hm8 := hm.2.2.2.2.2.2.2
      have hbd : B0 ≤ dr := (hT.o26 hdT.1).1
      have hDR := hT.dr hdT d2691
      have hP : va_P D vwCl [(dr, .inl (cs 0, 1383, .inl f2690))] _ := va_P.cons d2691 va_P.nil
      refine lv_aload_n hx hb dX9_factor_61 rfl (lv_at hl 1 rfl) ?_
      refine lv_bipush (v := 41) hx hb dX9_factor_62 (by decide) ?_
      refine cv_v (As := [.int 41]) (rest := []) (b := w) ⟨hx, hb, hml, hown, hts⟩ (c_X9_expect hT (w := w) hw (x := 41) hbT hdT hm ((by decide))) (cwV 1 hts gX9_factor_X9_expect rfl rfl rfl hdX9_expect_v ⟨Nat.le_of_ble_eq_true rfl, Nat.le_of_ble_eq_true rfl⟩) hN hE hL (rcv10 hN hT hw.1) rfl rfl hl.1 (Nat.le_of_ble_eq_true rfl) dX9_factor_64 (Nat.zero_le _) (Nat.zero_le _) (fun H1 locs hL hqr2696 => ?_)
      obtain ⟨hT1, hF1, hqr2696⟩ := hqr2696
      have hP : va_P D vwCl [(dr, .inl (cs 0, 1383, .inl f2690))] _ := hF1.hP (hP.sub [0] rfl) (fa_c ⟨by rw [hdT.1]; decide, by rw [hdT.2]; first | decide | (simp; done) | (simp [h15a, h15b, h15c]; done) | (simp; omega)⟩ fa_n)
      have hF := hF.tr (hF1.mono (by simp))
      have hT := hT1
      obtain ⟨p2697, er2698, a2699, z2700, m2701⟩ := hqr2696
      have hm := m2701
      have hm8 := hm.2.2.2.2.2.2.2
      refine lv_aload_n hx hb dX9_factor_67 rfl (lv_at hl 1 rfl) ?_
      refine lv_dup hx hb dX9_factor_68 rfl ?_
      obtain ⟨hb2702, e2702, hat2702, hk2702⟩ := hT.o10 hw.1
      obtain ⟨f2702_0, f2702_1, f2702_3, f2702_4, f2702_5, f2702_6, f2702_7, f2702_9, f2702_10, f2702_11, f2702_12, f2702_13, f2702_14, f2702_15, f2702_16, f2702_17, rfl, c2702_2, c2702_3, c2702_4, c2702_12, t2702_1, t2702_8, t2702_9, c2702_sd, t2702_10, t2702_11, t2702_17⟩ := hk2702
      obtain ⟨rfl, rfl, rfl, rfl, rfl, rfl⟩ := hm.at hat2702 c2702_3 (by omega)
      have hm8 := hm.2.2.2.2.2.2.2
      have hP : va_P D vwCl [(w, .inr (9, [.int f2702_0, .ref bu, .int (nI ((κ w).2.2.1)), .int (nI tl), .int (nI p2697), .int er2698, .int f2702_6, .int f2702_7, .ref (κ w).2.2.2, .ref f2702_9, .ref dr, .ref f2702_11, .int (nI f2702_12), .int f2702_13, .int 4, .int f2702_15, .int f2702_16, .ref f2702_17])), (dr, .inl (cs 0, 1383, .inl f2690))] _ := va_P.cons hat2702 hP
      refine va_get (D := D) (ci := 9) (v := .int 4) (C := RX9) (T := TX9) (N := 18) hx hb hts iX9_factor_9 hown hN.1 hP 0 rfl rfl 14 (by decide) (hts _ mX9_factor_1) (fun _ h9 => h9) rfl dX9_factor_69 ?_
      refine lv_iconst (v := 1) hx hb dX9_factor_72 (by decide) ?_
      refine lv_isub hx hb dX9_factor_73 ?_
      refine tp_i 3 (by decide) ?_
      have hB : Bx B0 D _ [(w, .inr (9, [.int f2702_0, .ref bu, .int (nI ((κ w).2.2.1)), .int (nI tl), .int (nI p2697), .int er2698, .int f2702_6, .int f2702_7, .ref (κ w).2.2.2, .ref f2702_9, .ref dr, .ref f2702_11, .int (nI f2702_12), .int f2702_13, .int 4, .int f2702_15, .int f2702_16, .ref f2702_17])), (dr, .inl (cs 0, 1383, .inl f2690))] [] _ _ := Bx.of (fun a => (κ a).1) hL hP (fa_c hb2702 (fa_c hbd fa_n)) (by simp only [List.map_cons, List.map_nil, hw.1, hdT.1]; decide)
      refine b_put (D := D) (ci := 9) (v := .int 3) (ty := .int) (C := RX9) (T := TX9) (N := 18) hx hb hts iX9_factor_9 tyX9 tyX9_ok nmX9 hown hN hB 0 rfl rfl 14 (by decide) (hts _ mX9_factor_1) (fun _ h9 => h9) rfl (by decide +kernel) rfl rfl (Nat.le_of_ble_eq_true rfl) (.inl rfl) dX9_factor_74 (fun H locs hB => ?_)
      have hB : Bx B0 D _ [(w, .inr (9, [.int f2702_0, .ref bu, .int (nI ((κ w).2.2.1)), .int (nI tl), .int (nI p2697), .int er2698, .int f2702_6, .int f2702_7, .ref (κ w).2.2.2, .ref f2702_9, .ref dr, .ref f2702_11, .int (nI f2702_12), .int f2702_13, .int 3, .int f2702_15, .int f2702_16, .ref f2702_17])), (dr, .inl (cs 0, 1383, .inl f2690))] [w] _ _ := hB
      have hT : WT B0 D cs T κ _ := hT.close hB ⟨⟨0, _, rfl, ok_10 hw.1 ⟨_, _, _, _, _, _, _, _, _, _, _, _, _, _, _, _, rfl, (by omega), (by omega), (by omega), (by omega), hbT, t2702_8, t2702_9, c2702_sd, hdT, t2702_11, t2702_17⟩⟩, trivial⟩
      have hF : Fr B0 [12, 17] κ H0 _ := hF.close hB (fa_c (by simp [hw.2]) fa_n)
      have hL : OkL B0 _ := hB.2.2.2.2.2
      have hP : va_P D vwCl [(w, .inr (9, [.int f2702_0, .ref bu, .int (nI ((κ w).2.2.1)), .int (nI tl), .int (nI p2697), .int er2698, .int f2702_6, .int f2702_7, .ref (κ w).2.2.2, .ref f2702_9, .ref dr, .ref f2702_11, .int (nI f2702_12), .int f2702_13, .int 3, .int f2702_15, .int f2702_16, .ref f2702_17])), (dr, .inl (cs 0, 1383, .inl f2690))] _ := hB.1
      have hbu9 := (hm.2.2.2.2.2.2.1).kept (hB.2.2.2.1 _ hm.2.2.2.2.2.2.1.lt (by simp only [List.mem_cons, List.not_mem_nil, or_false, not_or]; exact ne_c hbT.1 hw.1 (by decide)))
      have hm : MF D cs w _ (p2697) (tl) (er2698) (3) dr bu g := ⟨⟨_, hP 0 _ rfl, rfl⟩, ⟨_, hP 0 _ rfl, rfl⟩, ⟨_, hP 0 _ rfl, rfl⟩, ⟨_, hP 0 _ rfl, rfl⟩, ⟨_, hP 0 _ rfl, rfl⟩, ⟨_, hP 0 _ rfl, rfl⟩, hbu9, (by omega), (by omega)⟩
      exact en_v hx hb hr hlocks hL (Nat.zero_le _) (Nat.zero_le _) dX9_factor_77 (⟨hT, hF, N2683, p2697, er2698, (by omega), (by omega), (fun e9 => (fun e9 => id (z2688 e9)) (z2700 e9)), hm, _, hP 1 _ rfl, e2692, (by omega), (fun e9 => v2694 (z2700 e9))⟩)
  · refine lv_if_ne (tgt := 8) hx hb dX9_factor_4 (by decide) (fun c9 => absurd (by decide) c9) (fun _ => ?_)
    exact en_v hx hb hr hlocks hL (Nat.zero_le _) (Nat.zero_le _) dX9_factor_7 (⟨hT, hF, N, pos, er, (by omega), (by omega), id, hm, f2523, hP 0 _ rfl, e2523, (by omega), (fun e9 => absurd e9 e2527)⟩)
set_option maxHeartbeats 4000000 in
set_option maxRecDepth 100000 in
theorem c_X9_term_d3 {l : Launch} {D : va_G} {cs : Nat → ClassId} {B0 T : Nat} {κ : KM} {H0 : Heap} (hT : WT B0 D cs T κ H0) {w : Nat} (hw : T2 κ w 10 12) {pos tl : Nat} {er : Int32} {dr bu : Nat} {g : Nat → Int32} {N h : Nat} (hbT : T2 κ bu 23 14) (hdT : T2 κ dr 26 17) (hps : PS D cs w H0 pos tl er 3 dr bu g N h) : KC l yX9_term wsX9_term 9 195 0 0 D cs B0 H0 [.ref w] (Qv (fun H => WT B0 D cs T κ H ∧ Fr B0 [12, 17] κ H0 H ∧ ∃ N1 pos1 er1, N1 + 2 * pos ≤ N + 2 * pos1 ∧ pos ≤ pos1 ∧ (er1 = 0 → er = 0) ∧ PS D cs w H pos1 tl er1 3 dr bu g N1 (h + 1))) := by
  refine KC.of cX9_term 2 none (by decide) rfl (Nat.le_of_ble_eq_true rfl) ?_
  intro p e s m below meth c ls hx hb hr hml hown hts hlocks hin hN hE hH0 hl
  have hown : s.vm.findClass RX9 = some m.cls := hown
  have hl : lv_has ls 2 [(0, .ref w)] := hl
  have hL : OkL B0 [] := OkL.nil
  have hF : Fr B0 [12, 17] κ H0 H0 := Fr.rf
  obtain ⟨hm, f2703, hd2703, e2703, n2703, v2703⟩ := hps
  have hm8 := hm.2.2.2.2.2.2.2
  have hbd : B0 ≤ dr := (hT.o26 hdT.1).1
  have hDR := hT.dr hdT hd2703
  have hP : va_P D vwCl [(dr, .inl (cs 0, 1383, .inl f2703))] _ := va_P.cons hd2703 va_P.nil
  refine lv_aload_n hx hb dX9_term_0 rfl (lv_at hl 0 rfl) ?_
  have hps : PS D cs w _ (pos) (tl) (er) (3) dr bu g (N) (h) := ⟨hm, f2703, hP 0 _ rfl, e2703, by omega, v2703⟩
  refine cv_v (As := []) (rest := []) (b := w) ⟨hx, hb, hml, hown, hts⟩ (c_X9_factor_d3 hT (w := w) hw hbT hdT hps) (cwV 0 hts gX9_term_X9_factor rfl rfl rfl hdX9_factor_v ⟨Nat.le_of_ble_eq_true rfl, Nat.le_of_ble_eq_true rfl⟩) hN hE hL (rcv10 hN hT hw.1) rfl rfl hl.1 (Nat.le_of_ble_eq_true rfl) dX9_term_1 (Nat.zero_le _) (Nat.zero_le _) (fun H1 locs hL hqr2705 => ?_)
  obtain ⟨hT1, hF1, hqr2705⟩ := hqr2705
  have hF := hF.tr (hF1.mono (by simp))
  have hT := hT1
  obtain ⟨N2706, p2707, er2708, a2709, b2710, z2711, m2712, f2713, d2714, e2715, n2716, v2717⟩ := hqr2705
  have hm := m2712
  have hm8 := hm.2.2.2.2.2.2.2
  have hbd : B0 ≤ dr := (hT.o26 hdT.1).1
  have hDR := hT.dr hdT d2714
  have hP : va_P D vwCl [(dr, .inl (cs 0, 1383, .inl f2713))] _ := va_P.cons d2714 va_P.nil
  have hps : PS D cs w _ (p2707) (tl) (er2708) (3) dr bu g (N2706) ((h + 1)) := ⟨hm, f2713, hP 0 _ rfl, e2715, by omega, v2717⟩
  refine lp_m (α := Nat × Nat × Int32) (nL := 2) (fun a9 => 600 - a9.1) (fun a9 H9 l9 => (PS D cs w H9 a9.1 tl a9.2.2 3 dr bu g a9.2.1 (h + 1)) ∧ (a9.2.1 + 2 * pos ≤ N + 2 * a9.1) ∧ (pos ≤ a9.1) ∧ (a9.2.2 = 0 → er = 0) ∧ (WT B0 D cs T κ H9) ∧ (Fr B0 [12, 17] κ H0 H9) ∧ (OkL B0 l9)) (fun a9 => [(0, .ref w)]) ?_ (p2707, N2706, er2708) _ _ _ ⟨hps, (by show (N2706) + 2 * pos ≤ N + 2 * (p2707); omega), (by show pos ≤ (p2707); omega), (fun e9 => id (z2711 e9)), hT, hF, hL⟩ (lv_sub hl [0] rfl)
  rintro ⟨p, N1, er1⟩ H locs ls ih2719 ⟨hps, hb1, hb2, hz1, hT, hF, hL⟩ hl
  have hl : lv_has ls 2 [(0, .ref w)] := hl
  have hps : PS D cs w H p tl er1 3 dr bu g N1 (h + 1) := hps
  have hb1 : N1 + 2 * pos ≤ N + 2 * p := hb1
  have hb2 : pos ≤ p := hb2
  have hz1 : er1 = 0 → er = 0 := hz1
  obtain ⟨hm, f2720, hd2720, e2720, n2720, v2720⟩ := hps
  have hm8 := hm.2.2.2.2.2.2.2
  have hbd : B0 ≤ dr := (hT.o26 hdT.1).1
  have hDR := hT.dr hdT hd2720
  have hP : va_P D vwCl [(dr, .inl (cs 0, 1383, .inl f2720))] _ := va_P.cons hd2720 va_P.nil
  refine lv_aload_n hx hb dX9_term_4 rfl (lv_at hl 0 rfl) ?_
  refine cv_i (As := []) (rest := []) (b := w) ⟨hx, hb, hml, hown, hts⟩ (c_X9_isGood hT (w := w) hw hbT hdT hm) (cwV 0 hts gX9_term_X9_isGood rfl rfl rfl hdX9_isGood_v ⟨Nat.le_of_ble_eq_true rfl, Nat.le_of_ble_eq_true rfl⟩) hN hE hL (rcv10 hN hT hw.1) rfl rfl hl.1 (Nat.le_of_ble_eq_true rfl) dX9_term_5 (Nat.zero_le _) (Nat.zero_le _) (fun r2722 H1 locs hL hqr2722 => ?_)
  obtain ⟨h9, hqr2722⟩ := hqr2722; replace h9 := h9.symm; subst h9
  rcases hqr2722 with ⟨rfl, e2723⟩ | ⟨rfl, e2724⟩
  · refine lv_if_eq (tgt := 74) hx hb dX9_term_8 (by decide) (fun c9 => absurd c9 (by decide)) (fun _ => ?_)
    refine lv_aload_n hx hb dX9_term_11 rfl (lv_at hl 0 rfl) ?_
    refine cv_i (As := []) (rest := []) (b := w) ⟨hx, hb, hml, hown, hts⟩ (c_X9_ahead hT (w := w) hw hbT hdT hm) (cwV 0 hts gX9_term_X9_ahead rfl rfl rfl hdX9_ahead_v ⟨Nat.le_of_ble_eq_true rfl, Nat.le_of_ble_eq_true rfl⟩) hN hE hL (rcv10 hN hT hw.1) rfl rfl hl.1 (Nat.le_of_ble_eq_true rfl) dX9_term_12 (Nat.zero_le _) (Nat.zero_le _) (fun r2725 H1 locs hL hqr2725 => ?_)
    obtain ⟨hT1, hF1, hqr2725⟩ := hqr2725
    have hP : va_P D vwCl [(dr, .inl (cs 0, 1383, .inl f2720))] _ := hF1.hP (hP.sub [0] rfl) (fa_c ⟨by rw [hdT.1]; decide, by rw [hdT.2]; first | decide | (simp; done) | (simp [h15a, h15b, h15c]; done) | (simp; omega)⟩ fa_n)
    have hF := hF.tr (hF1.mono (by simp))
    have hT := hT1
    obtain ⟨p2726, h2727, m2728, n2729, s2730, rfl⟩ := hqr2725
    have hm := m2728
    have hm8 := hm.2.2.2.2.2.2.2
    refine lv_bipush (v := 42) hx hb dX9_term_15 (by decide) ?_
    refine lv_icmp_eq (tgt := 29) hx hb dX9_term_17 (by decide) (fun c2731 => ?_) (fun c2731 => ?_)
    · have hl9 := byF_c (c2731) (by decide)
      refine lv_aload_n hx hb dX9_term_29 rfl (lv_at hl 0 rfl) ?_
      refine cv_i (As := []) (rest := []) (b := w) ⟨hx, hb, hml, hown, hts⟩ (c_X9_ahead hT (w := w) hw hbT hdT hm) (cwV 0 hts gX9_term_X9_ahead rfl rfl rfl hdX9_ahead_v ⟨Nat.le_of_ble_eq_true rfl, Nat.le_of_ble_eq_true rfl⟩) hN hE hL (rcv10 hN hT hw.1) rfl rfl hl.1 (Nat.le_of_ble_eq_true rfl) dX9_term_30 (Nat.zero_le _) (Nat.zero_le _) (fun r2732 H1 locs hL hqr2732 => ?_)
      obtain ⟨hT1, hF1, hqr2732⟩ := hqr2732
      have hP : va_P D vwCl [(dr, .inl (cs 0, 1383, .inl f2720))] _ := hF1.hP (hP.sub [0] rfl) (fa_c ⟨by rw [hdT.1]; decide, by rw [hdT.2]; first | decide | (simp; done) | (simp [h15a, h15b, h15c]; done) | (simp; omega)⟩ fa_n)
      have hF := hF.tr (hF1.mono (by simp))
      have hT := hT1
      obtain ⟨p2733, h2734, m2735, n2736, s2737, rfl⟩ := hqr2732
      have hm := m2735
      have hpe := s2737 n2729
      rw [hpe] at hm
      refine tp_i (byF g tl p2726) (by rw [hpe]) ?_
      have hm8 := hm.2.2.2.2.2.2.2
      refine lv_bipush (v := 42) hx hb dX9_term_33 (by decide) ?_
      refine lv_icmp_ne (tgt := 42) hx hb dX9_term_35 (by decide) (fun c2738 => ?_) (fun c2738 => ?_)
      · refine lv_iconst (v := 0) hx hb dX9_term_42 (by decide) ?_
        refine lv_istore_n (lv' := [(1, .int 0), (0, .ref w)]) hx hb dX9_term_43 rfl hl (by decide) rfl (fun ls hl => ?_)
        refine lv_aload_n hx hb dX9_term_44 rfl (lv_at hl 1 rfl) ?_
        refine lv_dup hx hb dX9_term_45 rfl ?_
        obtain ⟨hb2739, e2739, hat2739, hk2739⟩ := hT.o10 hw.1
        obtain ⟨f2739_0, f2739_1, f2739_3, f2739_4, f2739_5, f2739_6, f2739_7, f2739_9, f2739_10, f2739_11, f2739_12, f2739_13, f2739_14, f2739_15, f2739_16, f2739_17, rfl, c2739_2, c2739_3, c2739_4, c2739_12, t2739_1, t2739_8, t2739_9, c2739_sd, t2739_10, t2739_11, t2739_17⟩ := hk2739
        obtain ⟨rfl, rfl, rfl, rfl, rfl, rfl⟩ := hm.at hat2739 c2739_3 (by omega)
        have hm8 := hm.2.2.2.2.2.2.2
        have hP : va_P D vwCl [(w, .inr (9, [.int f2739_0, .ref bu, .int (nI ((κ w).2.2.1)), .int (nI tl), .int (nI p2726), .int er1, .int f2739_6, .int f2739_7, .ref (κ w).2.2.2, .ref f2739_9, .ref dr, .ref f2739_11, .int (nI f2739_12), .int f2739_13, .int 3, .int f2739_15, .int f2739_16, .ref f2739_17])), (dr, .inl (cs 0, 1383, .inl f2720))] _ := va_P.cons hat2739 hP
        refine va_get (D := D) (ci := 9) (v := .int (nI p2726)) (C := RX9) (T := TX9) (N := 18) hx hb hts iX9_term_9 hown hN.1 hP 0 rfl rfl 4 (by decide) (hts _ mX9_term_1) (fun _ h9 => h9) rfl dX9_term_46 ?_
        refine lv_iconst (v := 1) hx hb dX9_term_49 (by decide) ?_
        refine lv_iadd hx hb dX9_term_50 ?_
        refine tp_i (nI (p2726 + 1)) (nI_add p2726 1) ?_
        have hB : Bx B0 D _ [(w, .inr (9, [.int f2739_0, .ref bu, .int (nI ((κ w).2.2.1)), .int (nI tl), .int (nI p2726), .int er1, .int f2739_6, .int f2739_7, .ref (κ w).2.2.2, .ref f2739_9, .ref dr, .ref f2739_11, .int (nI f2739_12), .int f2739_13, .int 3, .int f2739_15, .int f2739_16, .ref f2739_17])), (dr, .inl (cs 0, 1383, .inl f2720))] [] _ _ := Bx.of (fun a => (κ a).1) hL hP (fa_c hb2739 (fa_c hbd fa_n)) (by simp only [List.map_cons, List.map_nil, hw.1, hdT.1]; decide)
        refine b_put (D := D) (ci := 9) (v := .int (nI (p2726 + 1))) (ty := .int) (C := RX9) (T := TX9) (N := 18) hx hb hts iX9_term_9 tyX9 tyX9_ok nmX9 hown hN hB 0 rfl rfl 4 (by decide) (hts _ mX9_term_1) (fun _ h9 => h9) rfl (by decide +kernel) rfl rfl (Nat.le_of_ble_eq_true rfl) (.inl rfl) dX9_term_51 (fun H locs hB => ?_)
        have hB : Bx B0 D _ [(w, .inr (9, [.int f2739_0, .ref bu, .int (nI ((κ w).2.2.1)), .int (nI tl), .int (nI (p2726 + 1)), .int er1, .int f2739_6, .int f2739_7, .ref (κ w).2.2.2, .ref f2739_9, .ref dr, .ref f2739_11, .int (nI f2739_12), .int f2739_13, .int 3, .int f2739_15, .int f2739_16, .ref f2739_17])), (dr, .inl (cs 0, 1383, .inl f2720))] [w] _ _ := hB
        refine lv_aload_n hx hb dX9_term_54 rfl (lv_at hl 1 rfl) ?_
        have hT : WT B0 D cs T κ _ := hT.close hB ⟨⟨0, _, rfl, ok_10 hw.1 ⟨_, _, _, _, _, _, _, _, _, _, _, _, _, _, _, _, rfl, (by omega), (by omega), (by omega), (by omega), hbT, t2739_8, t2739_9, c2739_sd, hdT, t2739_11, t2739_17⟩⟩, trivial⟩
        have hF : Fr B0 [12, 17] κ H0 _ := hF.close hB (fa_c (by simp [hw.2]) fa_n)
        have hL : OkL B0 _ := hB.2.2.2.2.2
        have hP : va_P D vwCl [(w, .inr (9, [.int f2739_0, .ref bu, .int (nI ((κ w).2.2.1)), .int (nI tl), .int (nI (p2726 + 1)), .int er1, .int f2739_6, .int f2739_7, .ref (κ w).2.2.2, .ref f2739_9, .ref dr, .ref f2739_11, .int (nI f2739_12), .int f2739_13, .int 3, .int f2739_15, .int f2739_16, .ref f2739_17])), (dr, .inl (cs 0, 1383, .inl f2720))] _ := hB.1
        have hbu9 := (hm.2.2.2.2.2.2.1).kept (hB.2.2.2.1 _ hm.2.2.2.2.2.2.1.lt (by simp only [List.mem_cons, List.not_mem_nil, or_false, not_or]; exact ne_c hbT.1 hw.1 (by decide)))
        have hm : MF D cs w _ ((p2726 + 1)) (tl) (er1) (3) dr bu g := ⟨⟨_, hP 0 _ rfl, rfl⟩, ⟨_, hP 0 _ rfl, rfl⟩, ⟨_, hP 0 _ rfl, rfl⟩, ⟨_, hP 0 _ rfl, rfl⟩, ⟨_, hP 0 _ rfl, rfl⟩, ⟨_, hP 0 _ rfl, rfl⟩, hbu9, (by omega), (by omega)⟩
        have hps : PS D cs w _ ((p2726 + 1)) (tl) (er1) (3) dr bu g (N1) ((h + 1)) := ⟨hm, f2720, hP 1 _ rfl, e2720, by omega, v2720⟩
        refine cv_v (As := []) (rest := []) (b := w) ⟨hx, hb, hml, hown, hts⟩ (c_X9_factor_d3 hT (w := w) hw hbT hdT hps) (cwV 0 hts gX9_term_X9_factor rfl rfl rfl hdX9_factor_v ⟨Nat.le_of_ble_eq_true rfl, Nat.le_of_ble_eq_true rfl⟩) hN hE hL (rcv10 hN hT hw.1) rfl rfl hl.1 (Nat.le_of_ble_eq_true rfl) dX9_term_55 (Nat.zero_le _) (Nat.zero_le _) (fun H1 locs hL hqr2740 => ?_)
        obtain ⟨hT1, hF1, hqr2740⟩ := hqr2740
        have hF := hF.tr (hF1.mono (by simp))
        have hT := hT1
        obtain ⟨N2741, p2742, er2743, a2744, b2745, z2746, m2747, f2748, d2749, e2750, n2751, v2752⟩ := hqr2740
        have hm := m2747
        have hm8 := hm.2.2.2.2.2.2.2
        have hbd : B0 ≤ dr := (hT.o26 hdT.1).1
        have hDR := hT.dr hdT d2749
        have hP : va_P D vwCl [(dr, .inl (cs 0, 1383, .inl f2748))] _ := va_P.cons d2749 va_P.nil
        refine lv_aload_n hx hb dX9_term_58 rfl (lv_at hl 1 rfl) ?_
        refine lv_iload_n hx hb dX9_term_59 rfl (lv_at hl 0 rfl) ?_
        refine lv_if_eq (tgt := 67) hx hb dX9_term_60 (by decide) (fun _ => ?_) (fun c9 => absurd (by decide) c9)
        refine lv_iconst (v := 5) hx hb dX9_term_67 (by decide) ?_
        refine cv_v (As := [.int 5]) (rest := []) (b := w) ⟨hx, hb, hml, hown, hts⟩ (c_X9_emit hT (w := w) hw (x := 5) hbT hdT hm (hP 0 _ rfl) e2750 (fun _ => by omega)) (cwV 1 hts gX9_term_X9_emit rfl rfl rfl hdX9_emit_v ⟨Nat.le_of_ble_eq_true rfl, Nat.le_of_ble_eq_true rfl⟩) hN hE hL (rcv10 hN hT hw.1) rfl rfl hl.1 (Nat.le_of_ble_eq_true rfl) dX9_term_68 (Nat.zero_le _) (Nat.zero_le _) (fun H1 locs hL hqr2754 => ?_)
        obtain ⟨hT1, hF1, hqr2754⟩ := hqr2754
        have hF := hF.tr (hF1.mono (by simp))
        have hT := hT1
        obtain ⟨f2755, N2756, d2757, e2758, x2759, m2760⟩ := hqr2754
        have hm := m2760
        have hm8 := hm.2.2.2.2.2.2.2
        have nx2759 := x2759.n
        have ox2759 := nx2759.1
        have hbd : B0 ≤ dr := (hT.o26 hdT.1).1
        have hDR := hT.dr hdT d2757
        have hP : va_P D vwCl [(dr, .inl (cs 0, 1383, .inl f2755))] _ := va_P.cons d2757 va_P.nil
        refine lv_goto (tgt := 4) hx hb dX9_term_71 (by decide) ?_
        have hps : PS D cs w _ (p2742) (tl) (er2743) (3) dr bu g (N2756) ((h + 1)) := ⟨hm, f2755, hP 0 _ rfl, e2758, by omega, (EM.op x2759 (by decide) v2752)⟩
        exact ih2719 (p2742, N2756, er2743) _ _ _ (by show 600 - (p2742) < 600 - p; omega) ⟨hps, (by show (N2756) + 2 * pos ≤ N + 2 * (p2742); omega), (by show pos ≤ (p2742); omega), (fun e9 => hz1 (z2746 e9)), hT, hF, hL⟩ (lv_sub hl [1] rfl)
      · refine lv_iconst (v := 1) hx hb dX9_term_38 (by decide) ?_
        refine lv_goto (tgt := 43) hx hb dX9_term_39 (by decide) ?_
        refine lv_istore_n (lv' := [(1, .int 1), (0, .ref w)]) hx hb dX9_term_43 rfl hl (by decide) rfl (fun ls hl => ?_)
        refine lv_aload_n hx hb dX9_term_44 rfl (lv_at hl 1 rfl) ?_
        refine lv_dup hx hb dX9_term_45 rfl ?_
        obtain ⟨hb2762, e2762, hat2762, hk2762⟩ := hT.o10 hw.1
        obtain ⟨f2762_0, f2762_1, f2762_3, f2762_4, f2762_5, f2762_6, f2762_7, f2762_9, f2762_10, f2762_11, f2762_12, f2762_13, f2762_14, f2762_15, f2762_16, f2762_17, rfl, c2762_2, c2762_3, c2762_4, c2762_12, t2762_1, t2762_8, t2762_9, c2762_sd, t2762_10, t2762_11, t2762_17⟩ := hk2762
        obtain ⟨rfl, rfl, rfl, rfl, rfl, rfl⟩ := hm.at hat2762 c2762_3 (by omega)
        have hm8 := hm.2.2.2.2.2.2.2
        have hP : va_P D vwCl [(w, .inr (9, [.int f2762_0, .ref bu, .int (nI ((κ w).2.2.1)), .int (nI tl), .int (nI p2726), .int er1, .int f2762_6, .int f2762_7, .ref (κ w).2.2.2, .ref f2762_9, .ref dr, .ref f2762_11, .int (nI f2762_12), .int f2762_13, .int 3, .int f2762_15, .int f2762_16, .ref f2762_17])), (dr, .inl (cs 0, 1383, .inl f2720))] _ := va_P.cons hat2762 hP
        refine va_get (D := D) (ci := 9) (v := .int (nI p2726)) (C := RX9) (T := TX9) (N := 18) hx hb hts iX9_term_9 hown hN.1 hP 0 rfl rfl 4 (by decide) (hts _ mX9_term_1) (fun _ h9 => h9) rfl dX9_term_46 ?_
        refine lv_iconst (v := 1) hx hb dX9_term_49 (by decide) ?_
        refine lv_iadd hx hb dX9_term_50 ?_
        refine tp_i (nI (p2726 + 1)) (nI_add p2726 1) ?_
        have hB : Bx B0 D _ [(w, .inr (9, [.int f2762_0, .ref bu, .int (nI ((κ w).2.2.1)), .int (nI tl), .int (nI p2726), .int er1, .int f2762_6, .int f2762_7, .ref (κ w).2.2.2, .ref f2762_9, .ref dr, .ref f2762_11, .int (nI f2762_12), .int f2762_13, .int 3, .int f2762_15, .int f2762_16, .ref f2762_17])), (dr, .inl (cs 0, 1383, .inl f2720))] [] _ _ := Bx.of (fun a => (κ a).1) hL hP (fa_c hb2762 (fa_c hbd fa_n)) (by simp only [List.map_cons, List.map_nil, hw.1, hdT.1]; decide)
        refine b_put (D := D) (ci := 9) (v := .int (nI (p2726 + 1))) (ty := .int) (C := RX9) (T := TX9) (N := 18) hx hb hts iX9_term_9 tyX9 tyX9_ok nmX9 hown hN hB 0 rfl rfl 4 (by decide) (hts _ mX9_term_1) (fun _ h9 => h9) rfl (by decide +kernel) rfl rfl (Nat.le_of_ble_eq_true rfl) (.inl rfl) dX9_term_51 (fun H locs hB => ?_)
        have hB : Bx B0 D _ [(w, .inr (9, [.int f2762_0, .ref bu, .int (nI ((κ w).2.2.1)), .int (nI tl), .int (nI (p2726 + 1)), .int er1, .int f2762_6, .int f2762_7, .ref (κ w).2.2.2, .ref f2762_9, .ref dr, .ref f2762_11, .int (nI f2762_12), .int f2762_13, .int 3, .int f2762_15, .int f2762_16, .ref f2762_17])), (dr, .inl (cs 0, 1383, .inl f2720))] [w] _ _ := hB
        refine lv_aload_n hx hb dX9_term_54 rfl (lv_at hl 1 rfl) ?_
        have hT : WT B0 D cs T κ _ := hT.close hB ⟨⟨0, _, rfl, ok_10 hw.1 ⟨_, _, _, _, _, _, _, _, _, _, _, _, _, _, _, _, rfl, (by omega), (by omega), (by omega), (by omega), hbT, t2762_8, t2762_9, c2762_sd, hdT, t2762_11, t2762_17⟩⟩, trivial⟩
        have hF : Fr B0 [12, 17] κ H0 _ := hF.close hB (fa_c (by simp [hw.2]) fa_n)
        have hL : OkL B0 _ := hB.2.2.2.2.2
        have hP : va_P D vwCl [(w, .inr (9, [.int f2762_0, .ref bu, .int (nI ((κ w).2.2.1)), .int (nI tl), .int (nI (p2726 + 1)), .int er1, .int f2762_6, .int f2762_7, .ref (κ w).2.2.2, .ref f2762_9, .ref dr, .ref f2762_11, .int (nI f2762_12), .int f2762_13, .int 3, .int f2762_15, .int f2762_16, .ref f2762_17])), (dr, .inl (cs 0, 1383, .inl f2720))] _ := hB.1
        have hbu9 := (hm.2.2.2.2.2.2.1).kept (hB.2.2.2.1 _ hm.2.2.2.2.2.2.1.lt (by simp only [List.mem_cons, List.not_mem_nil, or_false, not_or]; exact ne_c hbT.1 hw.1 (by decide)))
        have hm : MF D cs w _ ((p2726 + 1)) (tl) (er1) (3) dr bu g := ⟨⟨_, hP 0 _ rfl, rfl⟩, ⟨_, hP 0 _ rfl, rfl⟩, ⟨_, hP 0 _ rfl, rfl⟩, ⟨_, hP 0 _ rfl, rfl⟩, ⟨_, hP 0 _ rfl, rfl⟩, ⟨_, hP 0 _ rfl, rfl⟩, hbu9, (by omega), (by omega)⟩
        have hps : PS D cs w _ ((p2726 + 1)) (tl) (er1) (3) dr bu g (N1) ((h + 1)) := ⟨hm, f2720, hP 1 _ rfl, e2720, by omega, v2720⟩
        refine cv_v (As := []) (rest := []) (b := w) ⟨hx, hb, hml, hown, hts⟩ (c_X9_factor_d3 hT (w := w) hw hbT hdT hps) (cwV 0 hts gX9_term_X9_factor rfl rfl rfl hdX9_factor_v ⟨Nat.le_of_ble_eq_true rfl, Nat.le_of_ble_eq_true rfl⟩) hN hE hL (rcv10 hN hT hw.1) rfl rfl hl.1 (Nat.le_of_ble_eq_true rfl) dX9_term_55 (Nat.zero_le _) (Nat.zero_le _) (fun H1 locs hL hqr2763 => ?_)
        obtain ⟨hT1, hF1, hqr2763⟩ := hqr2763
        have hF := hF.tr (hF1.mono (by simp))
        have hT := hT1
        obtain ⟨N2764, p2765, er2766, a2767, b2768, z2769, m2770, f2771, d2772, e2773, n2774, v2775⟩ := hqr2763
        have hm := m2770
        have hm8 := hm.2.2.2.2.2.2.2
        have hbd : B0 ≤ dr := (hT.o26 hdT.1).1
        have hDR := hT.dr hdT d2772
        have hP : va_P D vwCl [(dr, .inl (cs 0, 1383, .inl f2771))] _ := va_P.cons d2772 va_P.nil
        refine lv_aload_n hx hb dX9_term_58 rfl (lv_at hl 1 rfl) ?_
        refine lv_iload_n hx hb dX9_term_59 rfl (lv_at hl 0 rfl) ?_
        refine lv_if_eq (tgt := 67) hx hb dX9_term_60 (by decide) (fun c9 => absurd c9 (by decide)) (fun _ => ?_)
        refine lv_iconst (v := 4) hx hb dX9_term_63 (by decide) ?_
        refine lv_goto (tgt := 68) hx hb dX9_term_64 (by decide) ?_
        refine cv_v (As := [.int 4]) (rest := []) (b := w) ⟨hx, hb, hml, hown, hts⟩ (c_X9_emit hT (w := w) hw (x := 4) hbT hdT hm (hP 0 _ rfl) e2773 (fun _ => by omega)) (cwV 1 hts gX9_term_X9_emit rfl rfl rfl hdX9_emit_v ⟨Nat.le_of_ble_eq_true rfl, Nat.le_of_ble_eq_true rfl⟩) hN hE hL (rcv10 hN hT hw.1) rfl rfl hl.1 (Nat.le_of_ble_eq_true rfl) dX9_term_68 (Nat.zero_le _) (Nat.zero_le _) (fun H1 locs hL hqr2777 => ?_)
        obtain ⟨hT1, hF1, hqr2777⟩ := hqr2777
        have hF := hF.tr (hF1.mono (by simp))
        have hT := hT1
        obtain ⟨f2778, N2779, d2780, e2781, x2782, m2783⟩ := hqr2777
        have hm := m2783
        have hm8 := hm.2.2.2.2.2.2.2
        have nx2782 := x2782.n
        have ox2782 := nx2782.1
        have hbd : B0 ≤ dr := (hT.o26 hdT.1).1
        have hDR := hT.dr hdT d2780
        have hP : va_P D vwCl [(dr, .inl (cs 0, 1383, .inl f2778))] _ := va_P.cons d2780 va_P.nil
        refine lv_goto (tgt := 4) hx hb dX9_term_71 (by decide) ?_
        have hps : PS D cs w _ (p2765) (tl) (er2766) (3) dr bu g (N2779) ((h + 1)) := ⟨hm, f2778, hP 0 _ rfl, e2781, by omega, (EM.op x2782 (by decide) v2775)⟩
        exact ih2719 (p2765, N2779, er2766) _ _ _ (by show 600 - (p2765) < 600 - p; omega) ⟨hps, (by show (N2779) + 2 * pos ≤ N + 2 * (p2765); omega), (by show pos ≤ (p2765); omega), (fun e9 => hz1 (z2769 e9)), hT, hF, hL⟩ (lv_sub hl [1] rfl)
    · refine lv_aload_n hx hb dX9_term_20 rfl (lv_at hl 0 rfl) ?_
      refine cv_i (As := []) (rest := []) (b := w) ⟨hx, hb, hml, hown, hts⟩ (c_X9_ahead hT (w := w) hw hbT hdT hm) (cwV 0 hts gX9_term_X9_ahead rfl rfl rfl hdX9_ahead_v ⟨Nat.le_of_ble_eq_true rfl, Nat.le_of_ble_eq_true rfl⟩) hN hE hL (rcv10 hN hT hw.1) rfl rfl hl.1 (Nat.le_of_ble_eq_true rfl) dX9_term_21 (Nat.zero_le _) (Nat.zero_le _) (fun r2785 H1 locs hL hqr2785 => ?_)
      obtain ⟨hT1, hF1, hqr2785⟩ := hqr2785
      have hP : va_P D vwCl [(dr, .inl (cs 0, 1383, .inl f2720))] _ := hF1.hP (hP.sub [0] rfl) (fa_c ⟨by rw [hdT.1]; decide, by rw [hdT.2]; first | decide | (simp; done) | (simp [h15a, h15b, h15c]; done) | (simp; omega)⟩ fa_n)
      have hF := hF.tr (hF1.mono (by simp))
      have hT := hT1
      obtain ⟨p2786, h2787, m2788, n2789, s2790, rfl⟩ := hqr2785
      have hm := m2788
      have hpe := s2790 n2729
      rw [hpe] at hm
      refine tp_i (byF g tl p2726) (by rw [hpe]) ?_
      have hm8 := hm.2.2.2.2.2.2.2
      refine lv_bipush (v := 47) hx hb dX9_term_24 (by decide) ?_
      refine lv_icmp_ne (tgt := 74) hx hb dX9_term_26 (by decide) (fun c2791 => ?_) (fun c2791 => ?_)
      · have hps : PS D cs w _ (p2726) (tl) (er1) (3) dr bu g (N1) ((h + 1)) := ⟨hm, f2720, hP 0 _ rfl, e2720, by omega, v2720⟩
        exact en_v hx hb hr hlocks hL (Nat.zero_le _) (Nat.zero_le _) dX9_term_74 (⟨hT, hF, N1, p2726, er1, (by omega), (by omega), hz1, hps⟩)
      · have hl9 := byF_c (c2791) (by decide)
        refine lv_aload_n hx hb dX9_term_29 rfl (lv_at hl 0 rfl) ?_
        refine cv_i (As := []) (rest := []) (b := w) ⟨hx, hb, hml, hown, hts⟩ (c_X9_ahead hT (w := w) hw hbT hdT hm) (cwV 0 hts gX9_term_X9_ahead rfl rfl rfl hdX9_ahead_v ⟨Nat.le_of_ble_eq_true rfl, Nat.le_of_ble_eq_true rfl⟩) hN hE hL (rcv10 hN hT hw.1) rfl rfl hl.1 (Nat.le_of_ble_eq_true rfl) dX9_term_30 (Nat.zero_le _) (Nat.zero_le _) (fun r2792 H1 locs hL hqr2792 => ?_)
        obtain ⟨hT1, hF1, hqr2792⟩ := hqr2792
        have hP : va_P D vwCl [(dr, .inl (cs 0, 1383, .inl f2720))] _ := hF1.hP (hP.sub [0] rfl) (fa_c ⟨by rw [hdT.1]; decide, by rw [hdT.2]; first | decide | (simp; done) | (simp [h15a, h15b, h15c]; done) | (simp; omega)⟩ fa_n)
        have hF := hF.tr (hF1.mono (by simp))
        have hT := hT1
        obtain ⟨p2793, h2794, m2795, n2796, s2797, rfl⟩ := hqr2792
        have hm := m2795
        have hpe := s2797 n2729
        rw [hpe] at hm
        refine tp_i (byF g tl p2726) (by rw [hpe]) ?_
        have hm8 := hm.2.2.2.2.2.2.2
        refine lv_bipush (v := 42) hx hb dX9_term_33 (by decide) ?_
        refine lv_icmp_ne (tgt := 42) hx hb dX9_term_35 (by decide) (fun c2798 => ?_) (fun c2798 => ?_)
        · refine lv_iconst (v := 0) hx hb dX9_term_42 (by decide) ?_
          refine lv_istore_n (lv' := [(1, .int 0), (0, .ref w)]) hx hb dX9_term_43 rfl hl (by decide) rfl (fun ls hl => ?_)
          refine lv_aload_n hx hb dX9_term_44 rfl (lv_at hl 1 rfl) ?_
          refine lv_dup hx hb dX9_term_45 rfl ?_
          obtain ⟨hb2799, e2799, hat2799, hk2799⟩ := hT.o10 hw.1
          obtain ⟨f2799_0, f2799_1, f2799_3, f2799_4, f2799_5, f2799_6, f2799_7, f2799_9, f2799_10, f2799_11, f2799_12, f2799_13, f2799_14, f2799_15, f2799_16, f2799_17, rfl, c2799_2, c2799_3, c2799_4, c2799_12, t2799_1, t2799_8, t2799_9, c2799_sd, t2799_10, t2799_11, t2799_17⟩ := hk2799
          obtain ⟨rfl, rfl, rfl, rfl, rfl, rfl⟩ := hm.at hat2799 c2799_3 (by omega)
          have hm8 := hm.2.2.2.2.2.2.2
          have hP : va_P D vwCl [(w, .inr (9, [.int f2799_0, .ref bu, .int (nI ((κ w).2.2.1)), .int (nI tl), .int (nI p2726), .int er1, .int f2799_6, .int f2799_7, .ref (κ w).2.2.2, .ref f2799_9, .ref dr, .ref f2799_11, .int (nI f2799_12), .int f2799_13, .int 3, .int f2799_15, .int f2799_16, .ref f2799_17])), (dr, .inl (cs 0, 1383, .inl f2720))] _ := va_P.cons hat2799 hP
          refine va_get (D := D) (ci := 9) (v := .int (nI p2726)) (C := RX9) (T := TX9) (N := 18) hx hb hts iX9_term_9 hown hN.1 hP 0 rfl rfl 4 (by decide) (hts _ mX9_term_1) (fun _ h9 => h9) rfl dX9_term_46 ?_
          refine lv_iconst (v := 1) hx hb dX9_term_49 (by decide) ?_
          refine lv_iadd hx hb dX9_term_50 ?_
          refine tp_i (nI (p2726 + 1)) (nI_add p2726 1) ?_
          have hB : Bx B0 D _ [(w, .inr (9, [.int f2799_0, .ref bu, .int (nI ((κ w).2.2.1)), .int (nI tl), .int (nI p2726), .int er1, .int f2799_6, .int f2799_7, .ref (κ w).2.2.2, .ref f2799_9, .ref dr, .ref f2799_11, .int (nI f2799_12), .int f2799_13, .int 3, .int f2799_15, .int f2799_16, .ref f2799_17])), (dr, .inl (cs 0, 1383, .inl f2720))] [] _ _ := Bx.of (fun a => (κ a).1) hL hP (fa_c hb2799 (fa_c hbd fa_n)) (by simp only [List.map_cons, List.map_nil, hw.1, hdT.1]; decide)
          refine b_put (D := D) (ci := 9) (v := .int (nI (p2726 + 1))) (ty := .int) (C := RX9) (T := TX9) (N := 18) hx hb hts iX9_term_9 tyX9 tyX9_ok nmX9 hown hN hB 0 rfl rfl 4 (by decide) (hts _ mX9_term_1) (fun _ h9 => h9) rfl (by decide +kernel) rfl rfl (Nat.le_of_ble_eq_true rfl) (.inl rfl) dX9_term_51 (fun H locs hB => ?_)
          have hB : Bx B0 D _ [(w, .inr (9, [.int f2799_0, .ref bu, .int (nI ((κ w).2.2.1)), .int (nI tl), .int (nI (p2726 + 1)), .int er1, .int f2799_6, .int f2799_7, .ref (κ w).2.2.2, .ref f2799_9, .ref dr, .ref f2799_11, .int (nI f2799_12), .int f2799_13, .int 3, .int f2799_15, .int f2799_16, .ref f2799_17])), (dr, .inl (cs 0, 1383, .inl f2720))] [w] _ _ := hB
          refine lv_aload_n hx hb dX9_term_54 rfl (lv_at hl 1 rfl) ?_
          have hT : WT B0 D cs T κ _ := hT.close hB ⟨⟨0, _, rfl, ok_10 hw.1 ⟨_, _, _, _, _, _, _, _, _, _, _, _, _, _, _, _, rfl, (by omega), (by omega), (by omega), (by omega), hbT, t2799_8, t2799_9, c2799_sd, hdT, t2799_11, t2799_17⟩⟩, trivial⟩
          have hF : Fr B0 [12, 17] κ H0 _ := hF.close hB (fa_c (by simp [hw.2]) fa_n)
          have hL : OkL B0 _ := hB.2.2.2.2.2
          have hP : va_P D vwCl [(w, .inr (9, [.int f2799_0, .ref bu, .int (nI ((κ w).2.2.1)), .int (nI tl), .int (nI (p2726 + 1)), .int er1, .int f2799_6, .int f2799_7, .ref (κ w).2.2.2, .ref f2799_9, .ref dr, .ref f2799_11, .int (nI f2799_12), .int f2799_13, .int 3, .int f2799_15, .int f2799_16, .ref f2799_17])), (dr, .inl (cs 0, 1383, .inl f2720))] _ := hB.1
          have hbu9 := (hm.2.2.2.2.2.2.1).kept (hB.2.2.2.1 _ hm.2.2.2.2.2.2.1.lt (by simp only [List.mem_cons, List.not_mem_nil, or_false, not_or]; exact ne_c hbT.1 hw.1 (by decide)))
          have hm : MF D cs w _ ((p2726 + 1)) (tl) (er1) (3) dr bu g := ⟨⟨_, hP 0 _ rfl, rfl⟩, ⟨_, hP 0 _ rfl, rfl⟩, ⟨_, hP 0 _ rfl, rfl⟩, ⟨_, hP 0 _ rfl, rfl⟩, ⟨_, hP 0 _ rfl, rfl⟩, ⟨_, hP 0 _ rfl, rfl⟩, hbu9, (by omega), (by omega)⟩
          have hps : PS D cs w _ ((p2726 + 1)) (tl) (er1) (3) dr bu g (N1) ((h + 1)) := ⟨hm, f2720, hP 1 _ rfl, e2720, by omega, v2720⟩
          refine cv_v (As := []) (rest := []) (b := w) ⟨hx, hb, hml, hown, hts⟩ (c_X9_factor_d3 hT (w := w) hw hbT hdT hps) (cwV 0 hts gX9_term_X9_factor rfl rfl rfl hdX9_factor_v ⟨Nat.le_of_ble_eq_true rfl, Nat.le_of_ble_eq_true rfl⟩) hN hE hL (rcv10 hN hT hw.1) rfl rfl hl.1 (Nat.le_of_ble_eq_true rfl) dX9_term_55 (Nat.zero_le _) (Nat.zero_le _) (fun H1 locs hL hqr2800 => ?_)
          obtain ⟨hT1, hF1, hqr2800⟩ := hqr2800
          have hF := hF.tr (hF1.mono (by simp))
          have hT := hT1
          obtain ⟨N2801, p2802, er2803, a2804, b2805, z2806, m2807, f2808, d2809, e2810, n2811, v2812⟩ := hqr2800
          have hm := m2807
          have hm8 := hm.2.2.2.2.2.2.2
          have hbd : B0 ≤ dr := (hT.o26 hdT.1).1
          have hDR := hT.dr hdT d2809
          have hP : va_P D vwCl [(dr, .inl (cs 0, 1383, .inl f2808))] _ := va_P.cons d2809 va_P.nil
          refine lv_aload_n hx hb dX9_term_58 rfl (lv_at hl 1 rfl) ?_
          refine lv_iload_n hx hb dX9_term_59 rfl (lv_at hl 0 rfl) ?_
          refine lv_if_eq (tgt := 67) hx hb dX9_term_60 (by decide) (fun _ => ?_) (fun c9 => absurd (by decide) c9)
          refine lv_iconst (v := 5) hx hb dX9_term_67 (by decide) ?_
          refine cv_v (As := [.int 5]) (rest := []) (b := w) ⟨hx, hb, hml, hown, hts⟩ (c_X9_emit hT (w := w) hw (x := 5) hbT hdT hm (hP 0 _ rfl) e2810 (fun _ => by omega)) (cwV 1 hts gX9_term_X9_emit rfl rfl rfl hdX9_emit_v ⟨Nat.le_of_ble_eq_true rfl, Nat.le_of_ble_eq_true rfl⟩) hN hE hL (rcv10 hN hT hw.1) rfl rfl hl.1 (Nat.le_of_ble_eq_true rfl) dX9_term_68 (Nat.zero_le _) (Nat.zero_le _) (fun H1 locs hL hqr2814 => ?_)
          obtain ⟨hT1, hF1, hqr2814⟩ := hqr2814
          have hF := hF.tr (hF1.mono (by simp))
          have hT := hT1
          obtain ⟨f2815, N2816, d2817, e2818, x2819, m2820⟩ := hqr2814
          have hm := m2820
          have hm8 := hm.2.2.2.2.2.2.2
          have nx2819 := x2819.n
          have ox2819 := nx2819.1
          have hbd : B0 ≤ dr := (hT.o26 hdT.1).1
          have hDR := hT.dr hdT d2817
          have hP : va_P D vwCl [(dr, .inl (cs 0, 1383, .inl f2815))] _ := va_P.cons d2817 va_P.nil
          refine lv_goto (tgt := 4) hx hb dX9_term_71 (by decide) ?_
          have hps : PS D cs w _ (p2802) (tl) (er2803) (3) dr bu g (N2816) ((h + 1)) := ⟨hm, f2815, hP 0 _ rfl, e2818, by omega, (EM.op x2819 (by decide) v2812)⟩
          exact ih2719 (p2802, N2816, er2803) _ _ _ (by show 600 - (p2802) < 600 - p; omega) ⟨hps, (by show (N2816) + 2 * pos ≤ N + 2 * (p2802); omega), (by show pos ≤ (p2802); omega), (fun e9 => hz1 (z2806 e9)), hT, hF, hL⟩ (lv_sub hl [1] rfl)
        · refine lv_iconst (v := 1) hx hb dX9_term_38 (by decide) ?_
          refine lv_goto (tgt := 43) hx hb dX9_term_39 (by decide) ?_
          refine lv_istore_n (lv' := [(1, .int 1), (0, .ref w)]) hx hb dX9_term_43 rfl hl (by decide) rfl (fun ls hl => ?_)
          refine lv_aload_n hx hb dX9_term_44 rfl (lv_at hl 1 rfl) ?_
          refine lv_dup hx hb dX9_term_45 rfl ?_
          obtain ⟨hb2822, e2822, hat2822, hk2822⟩ := hT.o10 hw.1
          obtain ⟨f2822_0, f2822_1, f2822_3, f2822_4, f2822_5, f2822_6, f2822_7, f2822_9, f2822_10, f2822_11, f2822_12, f2822_13, f2822_14, f2822_15, f2822_16, f2822_17, rfl, c2822_2, c2822_3, c2822_4, c2822_12, t2822_1, t2822_8, t2822_9, c2822_sd, t2822_10, t2822_11, t2822_17⟩ := hk2822
          obtain ⟨rfl, rfl, rfl, rfl, rfl, rfl⟩ := hm.at hat2822 c2822_3 (by omega)
          have hm8 := hm.2.2.2.2.2.2.2
          have hP : va_P D vwCl [(w, .inr (9, [.int f2822_0, .ref bu, .int (nI ((κ w).2.2.1)), .int (nI tl), .int (nI p2726), .int er1, .int f2822_6, .int f2822_7, .ref (κ w).2.2.2, .ref f2822_9, .ref dr, .ref f2822_11, .int (nI f2822_12), .int f2822_13, .int 3, .int f2822_15, .int f2822_16, .ref f2822_17])), (dr, .inl (cs 0, 1383, .inl f2720))] _ := va_P.cons hat2822 hP
          refine va_get (D := D) (ci := 9) (v := .int (nI p2726)) (C := RX9) (T := TX9) (N := 18) hx hb hts iX9_term_9 hown hN.1 hP 0 rfl rfl 4 (by decide) (hts _ mX9_term_1) (fun _ h9 => h9) rfl dX9_term_46 ?_
          refine lv_iconst (v := 1) hx hb dX9_term_49 (by decide) ?_
          refine lv_iadd hx hb dX9_term_50 ?_
          refine tp_i (nI (p2726 + 1)) (nI_add p2726 1) ?_
          have hB : Bx B0 D _ [(w, .inr (9, [.int f2822_0, .ref bu, .int (nI ((κ w).2.2.1)), .int (nI tl), .int (nI p2726), .int er1, .int f2822_6, .int f2822_7, .ref (κ w).2.2.2, .ref f2822_9, .ref dr, .ref f2822_11, .int (nI f2822_12), .int f2822_13, .int 3, .int f2822_15, .int f2822_16, .ref f2822_17])), (dr, .inl (cs 0, 1383, .inl f2720))] [] _ _ := Bx.of (fun a => (κ a).1) hL hP (fa_c hb2822 (fa_c hbd fa_n)) (by simp only [List.map_cons, List.map_nil, hw.1, hdT.1]; decide)
          refine b_put (D := D) (ci := 9) (v := .int (nI (p2726 + 1))) (ty := .int) (C := RX9) (T := TX9) (N := 18) hx hb hts iX9_term_9 tyX9 tyX9_ok nmX9 hown hN hB 0 rfl rfl 4 (by decide) (hts _ mX9_term_1) (fun _ h9 => h9) rfl (by decide +kernel) rfl rfl (Nat.le_of_ble_eq_true rfl) (.inl rfl) dX9_term_51 (fun H locs hB => ?_)
          have hB : Bx B0 D _ [(w, .inr (9, [.int f2822_0, .ref bu, .int (nI ((κ w).2.2.1)), .int (nI tl), .int (nI (p2726 + 1)), .int er1, .int f2822_6, .int f2822_7, .ref (κ w).2.2.2, .ref f2822_9, .ref dr, .ref f2822_11, .int (nI f2822_12), .int f2822_13, .int 3, .int f2822_15, .int f2822_16, .ref f2822_17])), (dr, .inl (cs 0, 1383, .inl f2720))] [w] _ _ := hB
          refine lv_aload_n hx hb dX9_term_54 rfl (lv_at hl 1 rfl) ?_
          have hT : WT B0 D cs T κ _ := hT.close hB ⟨⟨0, _, rfl, ok_10 hw.1 ⟨_, _, _, _, _, _, _, _, _, _, _, _, _, _, _, _, rfl, (by omega), (by omega), (by omega), (by omega), hbT, t2822_8, t2822_9, c2822_sd, hdT, t2822_11, t2822_17⟩⟩, trivial⟩
          have hF : Fr B0 [12, 17] κ H0 _ := hF.close hB (fa_c (by simp [hw.2]) fa_n)
          have hL : OkL B0 _ := hB.2.2.2.2.2
          have hP : va_P D vwCl [(w, .inr (9, [.int f2822_0, .ref bu, .int (nI ((κ w).2.2.1)), .int (nI tl), .int (nI (p2726 + 1)), .int er1, .int f2822_6, .int f2822_7, .ref (κ w).2.2.2, .ref f2822_9, .ref dr, .ref f2822_11, .int (nI f2822_12), .int f2822_13, .int 3, .int f2822_15, .int f2822_16, .ref f2822_17])), (dr, .inl (cs 0, 1383, .inl f2720))] _ := hB.1
          have hbu9 := (hm.2.2.2.2.2.2.1).kept (hB.2.2.2.1 _ hm.2.2.2.2.2.2.1.lt (by simp only [List.mem_cons, List.not_mem_nil, or_false, not_or]; exact ne_c hbT.1 hw.1 (by decide)))
          have hm : MF D cs w _ ((p2726 + 1)) (tl) (er1) (3) dr bu g := ⟨⟨_, hP 0 _ rfl, rfl⟩, ⟨_, hP 0 _ rfl, rfl⟩, ⟨_, hP 0 _ rfl, rfl⟩, ⟨_, hP 0 _ rfl, rfl⟩, ⟨_, hP 0 _ rfl, rfl⟩, ⟨_, hP 0 _ rfl, rfl⟩, hbu9, (by omega), (by omega)⟩
          have hps : PS D cs w _ ((p2726 + 1)) (tl) (er1) (3) dr bu g (N1) ((h + 1)) := ⟨hm, f2720, hP 1 _ rfl, e2720, by omega, v2720⟩
          refine cv_v (As := []) (rest := []) (b := w) ⟨hx, hb, hml, hown, hts⟩ (c_X9_factor_d3 hT (w := w) hw hbT hdT hps) (cwV 0 hts gX9_term_X9_factor rfl rfl rfl hdX9_factor_v ⟨Nat.le_of_ble_eq_true rfl, Nat.le_of_ble_eq_true rfl⟩) hN hE hL (rcv10 hN hT hw.1) rfl rfl hl.1 (Nat.le_of_ble_eq_true rfl) dX9_term_55 (Nat.zero_le _) (Nat.zero_le _) (fun H1 locs hL hqr2823 => ?_)
          obtain ⟨hT1, hF1, hqr2823⟩ := hqr2823
          have hF := hF.tr (hF1.mono (by simp))
          have hT := hT1
          obtain ⟨N2824, p2825, er2826, a2827, b2828, z2829, m2830, f2831, d2832, e2833, n2834, v2835⟩ := hqr2823
          have hm := m2830
          have hm8 := hm.2.2.2.2.2.2.2
          have hbd : B0 ≤ dr := (hT.o26 hdT.1).1
          have hDR := hT.dr hdT d2832
          have hP : va_P D vwCl [(dr, .inl (cs 0, 1383, .inl f2831))] _ := va_P.cons d2832 va_P.nil
          refine lv_aload_n hx hb dX9_term_58 rfl (lv_at hl 1 rfl) ?_
          refine lv_iload_n hx hb dX9_term_59 rfl (lv_at hl 0 rfl) ?_
          refine lv_if_eq (tgt := 67) hx hb dX9_term_60 (by decide) (fun c9 => absurd c9 (by decide)) (fun _ => ?_)
          refine lv_iconst (v := 4) hx hb dX9_term_63 (by decide) ?_
          refine lv_goto (tgt := 68) hx hb dX9_term_64 (by decide) ?_
          refine cv_v (As := [.int 4]) (rest := []) (b := w) ⟨hx, hb, hml, hown, hts⟩ (c_X9_emit hT (w := w) hw (x := 4) hbT hdT hm (hP 0 _ rfl) e2833 (fun _ => by omega)) (cwV 1 hts gX9_term_X9_emit rfl rfl rfl hdX9_emit_v ⟨Nat.le_of_ble_eq_true rfl, Nat.le_of_ble_eq_true rfl⟩) hN hE hL (rcv10 hN hT hw.1) rfl rfl hl.1 (Nat.le_of_ble_eq_true rfl) dX9_term_68 (Nat.zero_le _) (Nat.zero_le _) (fun H1 locs hL hqr2837 => ?_)
          obtain ⟨hT1, hF1, hqr2837⟩ := hqr2837
          have hF := hF.tr (hF1.mono (by simp))
          have hT := hT1
          obtain ⟨f2838, N2839, d2840, e2841, x2842, m2843⟩ := hqr2837
          have hm := m2843
          have hm8 := hm.2.2.2.2.2.2.2
          have nx2842 := x2842.n
          have ox2842 := nx2842.1
          have hbd : B0 ≤ dr := (hT.o26 hdT.1).1
          have hDR := hT.dr hdT d2840
          have hP : va_P D vwCl [(dr, .inl (cs 0, 1383, .inl f2838))] _ := va_P.cons d2840 va_P.nil
          refine lv_goto (tgt := 4) hx hb dX9_term_71 (by decide) ?_
          have hps : PS D cs w _ (p2825) (tl) (er2826) (3) dr bu g (N2839) ((h + 1)) := ⟨hm, f2838, hP 0 _ rfl, e2841, by omega, (EM.op x2842 (by decide) v2835)⟩
          exact ih2719 (p2825, N2839, er2826) _ _ _ (by show 600 - (p2825) < 600 - p; omega) ⟨hps, (by show (N2839) + 2 * pos ≤ N + 2 * (p2825); omega), (by show pos ≤ (p2825); omega), (fun e9 => hz1 (z2829 e9)), hT, hF, hL⟩ (lv_sub hl [1] rfl)
  · refine lv_if_eq (tgt := 74) hx hb dX9_term_8 (by decide) (fun _ => ?_) (fun c9 => absurd (by decide) c9)
    have hps : PS D cs w _ (p) (tl) (er1) (3) dr bu g (N1) ((h + 1)) := ⟨hm, f2720, hP 0 _ rfl, e2720, by omega, v2720⟩
    exact en_v hx hb hr hlocks hL (Nat.zero_le _) (Nat.zero_le _) dX9_term_74 (⟨hT, hF, N1, p, er1, (by omega), (by omega), hz1, hps⟩)
