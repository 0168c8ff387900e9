set_option maxHeartbeats 4000000 in
set_option maxRecDepth 100000 in
theorem c_X9_factor_db {l : Launch} {D : va_G} {cs : Nat → ClassId} {B0 T : Nat} {κ : KM} {H0 : Heap} (hT : WT B0 D cs T κ H0) {w : Nat} (hw : T2 κ w 10 12) {pos tl : Nat} {er ns : Int32} {dr bu : Nat} {g : Nat → Int32} (hbT : T2 κ bu 23 14) (hdT : T2 κ dr 26 17) (hm : MF D cs w H0 pos tl er ns dr bu g) (hbad : er ≠ 0) : KC l yX9_factor wsX9_factor 1 20 0 0 D cs B0 H0 [.ref w] (Qv (fun H => H = H0 ∧ True)) := by
  refine KC.of cX9_factor 4 none (by decide) rfl (Nat.le_of_ble_eq_true rfl) ?_
  intro p e s m below meth c ls hx hb hr hml hown hts hlocks hin hN hE hH0 hl
  have hown : s.vm.findClass RX9 = some m.cls := hown
  have hl : lv_has ls 4 [(0, .ref w)] := hl
  have hL : OkL B0 [] := OkL.nil
  have hm8 := hm.2.2.2.2.2.2.2
  refine lv_aload_n hx hb dX9_factor_0 rfl (lv_at hl 0 rfl) ?_
  refine cv_i (As := []) (rest := []) (b := w) ⟨hx, hb, hml, hown, hts⟩ (c_X9_isGood hT (w := w) hw hbT hdT hm) (cwV 0 hts gX9_factor_X9_isGood rfl rfl rfl hdX9_isGood_v ⟨Nat.le_of_ble_eq_true rfl, Nat.le_of_ble_eq_true rfl⟩) hN hE hL (rcv10 hN hT hw.1) rfl rfl hl.1 (Nat.le_of_ble_eq_true rfl) dX9_factor_1 (Nat.zero_le _) (Nat.zero_le _) (fun r2058 H1 locs hL hqr2058 => ?_)
  obtain ⟨h9, hqr2058⟩ := hqr2058; replace h9 := h9.symm; subst h9
  rcases hqr2058 with ⟨rfl, e2059⟩ | ⟨rfl, e2060⟩
  · exact absurd e2059 hbad
  · refine lv_if_ne (tgt := 8) hx hb dX9_factor_4 (by decide) (fun c9 => absurd (by decide) c9) (fun _ => ?_)
    exact en_v hx hb hr hlocks hL (Nat.zero_le _) (Nat.zero_le _) dX9_factor_7 (⟨rfl, trivial⟩)
theorem hdX9_factor_v : yX9_factor.cls = RX9 ∧ yX9_factor.cls ≠ "java/lang/invoke/MethodHandle" ∧ yX9_factor.cls ≠ "java/lang/invoke/VarHandle" ∧ (parseMethodDescriptor yX9_factor.desc).map (fun d => d.parameters.length) = some 0 := by decide +kernel
set_option maxHeartbeats 4000000 in
set_option maxRecDepth 100000 in
theorem c_X9_term_db {l : Launch} {D : va_G} {cs : Nat → ClassId} {B0 T : Nat} {κ : KM} {H0 : Heap} (hT : WT B0 D cs T κ H0) {w : Nat} (hw : T2 κ w 10 12) {pos tl : Nat} {er ns : Int32} {dr bu : Nat} {g : Nat → Int32} (hbT : T2 κ bu 23 14) (hdT : T2 κ dr 26 17) (hm : MF D cs w H0 pos tl er ns dr bu g) (hbad : er ≠ 0) : KC l yX9_term wsX9_term 2 43 0 0 D cs B0 H0 [.ref w] (Qv (fun H => H = H0 ∧ True)) := by
  refine KC.of cX9_term 2 none (by decide) rfl (Nat.le_of_ble_eq_true rfl) ?_
  intro p e s m below meth c ls hx hb hr hml hown hts hlocks hin hN hE hH0 hl
  have hown : s.vm.findClass RX9 = some m.cls := hown
  have hl : lv_has ls 2 [(0, .ref w)] := hl
  have hL : OkL B0 [] := OkL.nil
  have hm8 := hm.2.2.2.2.2.2.2
  refine lv_aload_n hx hb dX9_term_0 rfl (lv_at hl 0 rfl) ?_
  refine cv_v (As := []) (rest := []) (b := w) ⟨hx, hb, hml, hown, hts⟩ (c_X9_factor_db hT (w := w) hw hbT hdT hm (by first | omega | decide | assumption)) (cwV 0 hts gX9_term_X9_factor rfl rfl rfl hdX9_factor_v ⟨Nat.le_of_ble_eq_true rfl, Nat.le_of_ble_eq_true rfl⟩) hN hE hL (rcv10 hN hT hw.1) rfl rfl hl.1 (Nat.le_of_ble_eq_true rfl) dX9_term_1 (Nat.zero_le _) (Nat.zero_le _) (fun H1 locs hL hqr2061 => ?_)
  obtain ⟨h9, hqr2061⟩ := hqr2061; replace h9 := h9.symm; subst h9
  refine lv_aload_n hx hb dX9_term_4 rfl (lv_at hl 0 rfl) ?_
  refine cv_i (As := []) (rest := []) (b := w) ⟨hx, hb, hml, hown, hts⟩ (c_X9_isGood hT (w := w) hw hbT hdT hm) (cwV 0 hts gX9_term_X9_isGood rfl rfl rfl hdX9_isGood_v ⟨Nat.le_of_ble_eq_true rfl, Nat.le_of_ble_eq_true rfl⟩) hN hE hL (rcv10 hN hT hw.1) rfl rfl hl.1 (Nat.le_of_ble_eq_true rfl) dX9_term_5 (Nat.zero_le _) (Nat.zero_le _) (fun r2062 H1 locs hL hqr2062 => ?_)
  obtain ⟨h9, hqr2062⟩ := hqr2062; replace h9 := h9.symm; subst h9
  rcases hqr2062 with ⟨rfl, e2063⟩ | ⟨rfl, e2064⟩
  · exact absurd e2063 hbad
  · refine lv_if_eq (tgt := 74) hx hb dX9_term_8 (by decide) (fun _ => ?_) (fun c9 => absurd (by decide) c9)
    exact en_v hx hb hr hlocks hL (Nat.zero_le _) (Nat.zero_le _) dX9_term_74 (⟨rfl, trivial⟩)
theorem hdX9_term_v : yX9_term.cls = RX9 ∧ yX9_term.cls ≠ "java/lang/invoke/MethodHandle" ∧ yX9_term.cls ≠ "java/lang/invoke/VarHandle" ∧ (parseMethodDescriptor yX9_term.desc).map (fun d => d.parameters.length) = some 0 := by decide +kernel
set_option maxHeartbeats 4000000 in
set_option maxRecDepth 100000 in
theorem c_X9_readSum_db {l : Launch} {D : va_G} {cs : Nat → ClassId} {B0 T : Nat} {κ : KM} {H0 : Heap} (hT : WT B0 D cs T κ H0) {w : Nat} (hw : T2 κ w 10 12) {pos tl : Nat} {er ns : Int32} {dr bu : Nat} {g : Nat → Int32} (hbT : T2 κ bu 23 14) (hdT : T2 κ dr 26 17) (hm : MF D cs w H0 pos tl er ns dr bu g) (hbad : er ≠ 0) : KC l yX9_readSum wsX9_readSum 3 64 0 0 D cs B0 H0 [.ref w] (Qv (fun H => H = H0 ∧ True)) := by
  refine KC.of cX9_readSum 2 none (by decide) rfl (Nat.le_of_ble_eq_true rfl) ?_
  intro p e s m below meth c ls hx hb hr hml hown hts hlocks hin hN hE hH0 hl
  have hown : s.vm.findClass RX9 = some m.cls := hown
  have hl : lv_has ls 2 [(0, .ref w)] := hl
  have hL : OkL B0 [] := OkL.nil
  have hm8 := hm.2.2.2.2.2.2.2
  refine lv_aload_n hx hb dX9_readSum_0 rfl (lv_at hl 0 rfl) ?_
  refine cv_v (As := []) (rest := []) (b := w) ⟨hx, hb, hml, hown, hts⟩ (c_X9_term_db hT (w := w) hw hbT hdT hm (by first | omega | decide | assumption)) (cwV 0 hts gX9_readSum_X9_term rfl rfl rfl hdX9_term_v ⟨Nat.le_of_ble_eq_true rfl, Nat.le_of_ble_eq_true rfl⟩) hN hE hL (rcv10 hN hT hw.1) rfl rfl hl.1 (Nat.le_of_ble_eq_true rfl) dX9_readSum_1 (Nat.zero_le _) (Nat.zero_le _) (fun H1 locs hL hqr2065 => ?_)
  obtain ⟨h9, hqr2065⟩ := hqr2065; replace h9 := h9.symm; subst h9
  refine lv_aload_n hx hb dX9_readSum_4 rfl (lv_at hl 0 rfl) ?_
  refine cv_i (As := []) (rest := []) (b := w) ⟨hx, hb, hml, hown, hts⟩ (c_X9_isGood hT (w := w) hw hbT hdT hm) (cwV 0 hts gX9_readSum_X9_isGood rfl rfl rfl hdX9_isGood_v ⟨Nat.le_of_ble_eq_true rfl, Nat.le_of_ble_eq_true rfl⟩) hN hE hL (rcv10 hN hT hw.1) rfl rfl hl.1 (Nat.le_of_ble_eq_true rfl) dX9_readSum_5 (Nat.zero_le _) (Nat.zero_le _) (fun r2066 H1 locs hL hqr2066 => ?_)
  obtain ⟨h9, hqr2066⟩ := hqr2066; replace h9 := h9.symm; subst h9
  rcases hqr2066 with ⟨rfl, e2067⟩ | ⟨rfl, e2068⟩
  · exact absurd e2067 hbad
  · refine lv_if_eq (tgt := 74) hx hb dX9_readSum_8 (by decide) (fun _ => ?_) (fun c9 => absurd (by decide) c9)
    exact en_v hx hb hr hlocks hL (Nat.zero_le _) (Nat.zero_le _) dX9_readSum_74 (⟨rfl, trivial⟩)
theorem hdX9_takeWord_v : yX9_takeWord.cls = RX9 ∧ yX9_takeWord.cls ≠ "java/lang/invoke/MethodHandle" ∧ yX9_takeWord.cls ≠ "java/lang/invoke/VarHandle" ∧ (parseMethodDescriptor yX9_takeWord.desc).map (fun d => d.parameters.length) = some 1 := by decide +kernel
theorem hdX9_number_v : yX9_number.cls = RX9 ∧ yX9_number.cls ≠ "java/lang/invoke/MethodHandle" ∧ yX9_number.cls ≠ "java/lang/invoke/VarHandle" ∧ (parseMethodDescriptor yX9_number.desc).map (fun d => d.parameters.length) = some 2 := by decide +kernel
theorem hdX9_emit_v : yX9_emit.cls = RX9 ∧ yX9_emit.cls ≠ "java/lang/invoke/MethodHandle" ∧ yX9_emit.cls ≠ "java/lang/invoke/VarHandle" ∧ (parseMethodDescriptor yX9_emit.desc).map (fun d => d.parameters.length) = some 1 := by decide +kernel
theorem mX9_factor_1 : (.fieldLink RX9 102 "OneBeatModel" "nesting" "I" : Cond) ∈ wsX9_factor := List.mem_of_getElem? (i := 1) (by decide +kernel)
theorem iX9_factor_9 : ∀ w ∈ wsX90, w ∈ wsX9_factor := fun w h => List.mem_of_mem_drop (List.mem_of_mem_take ((show wsX90 = (wsX9_factor.drop 112).take 18 by decide +kernel) ▸ h))
theorem mX9_factor_2 : (.fieldLink RX9 53 "OneBeatModel" "position" "I" : Cond) ∈ wsX9_factor := List.mem_of_getElem? (i := 2) (by decide +kernel)
theorem hdX9_readSum_v : yX9_readSum.cls = RX9 ∧ yX9_readSum.cls ≠ "java/lang/invoke/MethodHandle" ∧ yX9_readSum.cls ≠ "java/lang/invoke/VarHandle" ∧ (parseMethodDescriptor yX9_readSum.desc).map (fun d => d.parameters.length) = some 0 := by decide +kernel
theorem hdX9_expect_v : yX9_expect.cls = RX9 ∧ yX9_expect.cls ≠ "java/lang/invoke/MethodHandle" ∧ yX9_expect.cls ≠ "java/lang/invoke/VarHandle" ∧ (parseMethodDescriptor yX9_expect.desc).map (fun d => d.parameters.length) = some 1 := by decide +kernel
set_option maxHeartbeats 4000000 in
set_option maxRecDepth 100000 in
theorem c_X9_factor_d4 {l : Launch} {D : va_G} {cs : Nat → ClassId} {B0 T : Nat} {κ : KM} {H0 : Heap} (hT : WT B0 D cs T κ H0) {w : Nat} (hw : T2 κ w 10 12) {pos tl : Nat} {er : Int32} {dr bu : Nat} {g : Nat → Int32} {N h : Nat} (hbT : T2 κ bu 23 14) (hdT : T2 κ dr 26 17) (hps : PS D cs w H0 pos tl er 4 dr bu g N h) : KC l yX9_factor wsX9_factor 5 107 0 0 D cs B0 H0 [.ref w] (Qv (fun H => WT B0 D cs T κ H ∧ Fr B0 [12, 17] κ H0 H ∧ ∃ N1 pos1 er1, N1 + 2 * pos ≤ N + 2 * pos1 ∧ pos ≤ pos1 ∧ (er1 = 0 → er = 0) ∧ PS D cs w H pos1 tl er1 4 dr bu g N1 (h + 1))) := by
  refine KC.of cX9_factor 4 none (by decide) rfl (Nat.le_of_ble_eq_true rfl) ?_
  intro p e s m below meth c ls hx hb hr hml hown hts hlocks hin hN hE hH0 hl
  have hown : s.vm.findClass RX9 = some m.cls := hown
  have hl : lv_has ls 4 [(0, .ref w)] := hl
  have hL : OkL B0 [] := OkL.nil
  have hF : Fr B0 [12, 17] κ H0 H0 := Fr.rf
  obtain ⟨hm, f2069, hd2069, e2069, n2069, v2069⟩ := hps
  have hm8 := hm.2.2.2.2.2.2.2
  have hbd : B0 ≤ dr := (hT.o26 hdT.1).1
  have hDR := hT.dr hdT hd2069
  have hP : va_P D vwCl [(dr, .inl (cs 0, 1383, .inl f2069))] _ := va_P.cons hd2069 va_P.nil
  refine lv_aload_n hx hb dX9_factor_0 rfl (lv_at hl 0 rfl) ?_
  refine cv_i (As := []) (rest := []) (b := w) ⟨hx, hb, hml, hown, hts⟩ (c_X9_isGood hT (w := w) hw hbT hdT hm) (cwV 0 hts gX9_factor_X9_isGood rfl rfl rfl hdX9_isGood_v ⟨Nat.le_of_ble_eq_true rfl, Nat.le_of_ble_eq_true rfl⟩) hN hE hL (rcv10 hN hT hw.1) rfl rfl hl.1 (Nat.le_of_ble_eq_true rfl) dX9_factor_1 (Nat.zero_le _) (Nat.zero_le _) (fun r2071 H1 locs hL hqr2071 => ?_)
  obtain ⟨h9, hqr2071⟩ := hqr2071; replace h9 := h9.symm; subst h9
  rcases hqr2071 with ⟨rfl, e2072⟩ | ⟨rfl, e2073⟩
  · refine lv_if_ne (tgt := 8) hx hb dX9_factor_4 (by decide) (fun _ => ?_) (fun c9 => absurd c9 (by decide))
    refine lv_aload_n hx hb dX9_factor_8 rfl (lv_at hl 0 rfl) ?_
    refine cv_i (As := []) (rest := []) (b := w) ⟨hx, hb, hml, hown, hts⟩ (c_X9_ahead hT (w := w) hw hbT hdT hm) (cwV 0 hts gX9_factor_X9_ahead rfl rfl rfl hdX9_ahead_v ⟨Nat.le_of_ble_eq_true rfl, Nat.le_of_ble_eq_true rfl⟩) hN hE hL (rcv10 hN hT hw.1) rfl rfl hl.1 (Nat.le_of_ble_eq_true rfl) dX9_factor_9 (Nat.zero_le _) (Nat.zero_le _) (fun r2074 H1 locs hL hqr2074 => ?_)
    obtain ⟨hT1, hF1, hqr2074⟩ := hqr2074
    have hP : va_P D vwCl [(dr, .inl (cs 0, 1383, .inl f2069))] _ := hF1.hP (hP.sub [0] rfl) (fa_c ⟨by rw [hdT.1]; decide, by rw [hdT.2]; first | decide | (simp; done) | (simp; omega)⟩ fa_n)
    have hF := hF.tr (hF1.mono (by simp))
    have hT := hT1
    obtain ⟨p2075, h2076, m2077, n2078, s2079, rfl⟩ := hqr2074
    have hm := m2077
    have hm8 := hm.2.2.2.2.2.2.2
    refine lv_istore_n (lv' := [(1, .int (byF g tl p2075)), (0, .ref w)]) hx hb dX9_factor_12 rfl hl (by decide) rfl (fun ls hl => ?_)
    refine lv_iload_n hx hb dX9_factor_13 rfl (lv_at hl 0 rfl) ?_
    refine lv_bipush (v := 40) hx hb dX9_factor_14 (by decide) ?_
    refine lv_icmp_ne (tgt := 78) hx hb dX9_factor_16 (by decide) (fun c2080 => ?_) (fun c2080 => ?_)
    · refine lv_iload_n hx hb dX9_factor_78 rfl (lv_at hl 0 rfl) ?_
      refine cs_i (As := [.int (byF g tl p2075)]) (rest := []) ⟨hx, hb, hml, hown, hts⟩ (c_X9_isDigit hT (x := (byF g tl p2075))) (va_cwS 1 hts gX9_factor_X9_isDigit rfl rfl rfl hdX9_isDigit_o ⟨Nat.le_of_ble_eq_true rfl, Nat.le_of_ble_eq_true rfl⟩) hN hE hL rfl rfl hl.1 (Nat.le_of_ble_eq_true rfl) dX9_factor_79 (Nat.zero_le _) (Nat.zero_le _) (fun r2081 H1 locs hL hqr2081 => ?_)
      obtain ⟨h9, hqr2081⟩ := hqr2081; replace h9 := h9.symm; subst h9
      rcases hqr2081 with ⟨rfl, o2082⟩ | ⟨rfl, l2083, g2084⟩
      · refine lv_if_eq (tgt := 89) hx hb dX9_factor_82 (by decide) (fun _ => ?_) (fun c9 => absurd (by decide) c9)
        refine lv_aload_n hx hb dX9_factor_89 rfl (lv_at hl 1 rfl) ?_
        refine va_ldcS hx hb hown (hN.s 19 rfl) dX9_factor_90 ?_
        refine cv_i (As := [.ref (cs 119)]) (rest := []) (b := w) ⟨hx, hb, hml, hown, hts⟩ (c_X9_takeWord hT (w := w) hw (i := 19) (by decide) hbT hdT hm) (cwV 1 hts gX9_factor_X9_takeWord rfl rfl rfl hdX9_takeWord_v ⟨Nat.le_of_ble_eq_true rfl, Nat.le_of_ble_eq_true rfl⟩) hN hE hL (rcv10 hN hT hw.1) rfl rfl hl.1 (Nat.le_of_ble_eq_true rfl) dX9_factor_92 (Nat.zero_le _) (Nat.zero_le _) (fun r2085 H1 locs hL hqr2085 => ?_)
        obtain ⟨hT1, hF1, hqr2085⟩ := hqr2085
        have hP : va_P D vwCl [(dr, .inl (cs 0, 1383, .inl f2069))] _ := hF1.hP (hP.sub [0] rfl) (fa_c ⟨by rw [hdT.1]; decide, by rw [hdT.2]; first | decide | (simp; done) | (simp; omega)⟩ fa_n)
        have hF := hF.tr (hF1.mono (by simp))
        have hT := hT1
        rcases hqr2085 with ⟨rfl, p2086, h2087, m2088⟩ | ⟨rfl, p2089, q2090, e2091, m2092⟩
        · have hm := m2088
          have hm8 := hm.2.2.2.2.2.2.2
          refine lv_if_eq (tgt := 102) hx hb dX9_factor_95 (by decide) (fun _ => ?_) (fun c9 => absurd (by decide) c9)
          refine lv_aload_n hx hb dX9_factor_102 rfl (lv_at hl 1 rfl) ?_
          refine va_ldcS hx hb hown (hN.s 25 rfl) dX9_factor_103 ?_
          refine cv_i (As := [.ref (cs 125)]) (rest := []) (b := w) ⟨hx, hb, hml, hown, hts⟩ (c_X9_takeWord hT (w := w) hw (i := 25) (by decide) hbT hdT hm) (cwV 1 hts gX9_factor_X9_takeWord rfl rfl rfl hdX9_takeWord_v ⟨Nat.le_of_ble_eq_true rfl, Nat.le_of_ble_eq_true rfl⟩) hN hE hL (rcv10 hN hT hw.1) rfl rfl hl.1 (Nat.le_of_ble_eq_true rfl) dX9_factor_105 (Nat.zero_le _) (Nat.zero_le _) (fun r2093 H1 locs hL hqr2093 => ?_)
          obtain ⟨hT1, hF1, hqr2093⟩ := hqr2093
          have hP : va_P D vwCl [(dr, .inl (cs 0, 1383, .inl f2069))] _ := hF1.hP (hP.sub [0] rfl) (fa_c ⟨by rw [hdT.1]; decide, by rw [hdT.2]; first | decide | (simp; done) | (simp; omega)⟩ fa_n)
          have hF := hF.tr (hF1.mono (by simp))
          have hT := hT1
          rcases hqr2093 with ⟨rfl, p2094, h2095, m2096⟩ | ⟨rfl, p2097, q2098, e2099, m2100⟩
          · have hm := m2096
            have hm8 := hm.2.2.2.2.2.2.2
            refine lv_if_eq (tgt := 115) hx hb dX9_factor_108 (by decide) (fun _ => ?_) (fun c9 => absurd (by decide) c9)
            refine lv_aload_n hx hb dX9_factor_115 rfl (lv_at hl 1 rfl) ?_
            refine va_ldcS hx hb hown (hN.s 26 rfl) dX9_factor_116 ?_
            refine cv_i (As := [.ref (cs 126)]) (rest := []) (b := w) ⟨hx, hb, hml, hown, hts⟩ (c_X9_takeWord hT (w := w) hw (i := 26) (by decide) hbT hdT hm) (cwV 1 hts gX9_factor_X9_takeWord rfl rfl rfl hdX9_takeWord_v ⟨Nat.le_of_ble_eq_true rfl, Nat.le_of_ble_eq_true rfl⟩) hN hE hL (rcv10 hN hT hw.1) rfl rfl hl.1 (Nat.le_of_ble_eq_true rfl) dX9_factor_118 (Nat.zero_le _) (Nat.zero_le _) (fun r2101 H1 locs hL hqr2101 => ?_)
            obtain ⟨hT1, hF1, hqr2101⟩ := hqr2101
            have hP : va_P D vwCl [(dr, .inl (cs 0, 1383, .inl f2069))] _ := hF1.hP (hP.sub [0] rfl) (fa_c ⟨by rw [hdT.1]; decide, by rw [hdT.2]; first | decide | (simp; done) | (simp; omega)⟩ fa_n)
            have hF := hF.tr (hF1.mono (by simp))
            have hT := hT1
            rcases hqr2101 with ⟨rfl, p2102, h2103, m2104⟩ | ⟨rfl, p2105, q2106, e2107, m2108⟩
            · have hm := m2104
              have hm8 := hm.2.2.2.2.2.2.2
              refine lv_if_eq (tgt := 128) hx hb dX9_factor_121 (by decide) (fun _ => ?_) (fun c9 => absurd (by decide) c9)
              refine lv_aload_n hx hb dX9_factor_128 rfl (lv_at hl 1 rfl) ?_
              refine va_ldcS hx hb hown (hN.s 27 rfl) dX9_factor_129 ?_
              refine cv_i (As := [.ref (cs 127)]) (rest := []) (b := w) ⟨hx, hb, hml, hown, hts⟩ (c_X9_takeWord hT (w := w) hw (i := 27) (by decide) hbT hdT hm) (cwV 1 hts gX9_factor_X9_takeWord rfl rfl rfl hdX9_takeWord_v ⟨Nat.le_of_ble_eq_true rfl, Nat.le_of_ble_eq_true rfl⟩) hN hE hL (rcv10 hN hT hw.1) rfl rfl hl.1 (Nat.le_of_ble_eq_true rfl) dX9_factor_131 (Nat.zero_le _) (Nat.zero_le _) (fun r2109 H1 locs hL hqr2109 => ?_)
              obtain ⟨hT1, hF1, hqr2109⟩ := hqr2109
              have hP : va_P D vwCl [(dr, .inl (cs 0, 1383, .inl f2069))] _ := hF1.hP (hP.sub [0] rfl) (fa_c ⟨by rw [hdT.1]; decide, by rw [hdT.2]; first | decide | (simp; done) | (simp; omega)⟩ fa_n)
              have hF := hF.tr (hF1.mono (by simp))
              have hT := hT1
              rcases hqr2109 with ⟨rfl, p2110, h2111, m2112⟩ | ⟨rfl, p2113, q2114, e2115, m2116⟩
              · have hm := m2112
                have hm8 := hm.2.2.2.2.2.2.2
                refine lv_if_eq (tgt := 141) hx hb dX9_factor_134 (by decide) (fun _ => ?_) (fun c9 => absurd (by decide) c9)
                refine lv_iconst (v := (-1)) hx hb dX9_factor_141 (by decide) ?_
                refine lv_istore_n (lv' := [(2, .int (-1)), (1, .int (byF g tl p2075)), (0, .ref w)]) hx hb dX9_factor_142 rfl hl (by decide) rfl (fun ls hl => ?_)
                refine lv_iload_n hx hb dX9_factor_143 rfl (lv_at hl 0 rfl) ?_
                refine lv_if_ge (tgt := 158) hx hb dX9_factor_144 (by decide) (fun c9 => absurd c9 (by decide)) (fun _ => ?_)
                refine lv_aload_n hx hb dX9_factor_147 rfl (lv_at hl 2 rfl) ?_
                refine lv_iconst (v := 0) hx hb dX9_factor_148 (by decide) ?_
                refine lv_sipush (v := 9999) hx hb dX9_factor_149 (by decide) ?_
                refine cv_i (As := [.int 0, .int 9999]) (rest := []) (b := w) ⟨hx, hb, hml, hown, hts⟩ (c_X9_number hT (w := w) hw (x := 0) (y := 9999) hbT hdT hm) (cwV 2 hts gX9_factor_X9_number rfl rfl rfl hdX9_number_v ⟨Nat.le_of_ble_eq_true rfl, Nat.le_of_ble_eq_true rfl⟩) hN hE hL (rcv10 hN hT hw.1) rfl rfl hl.1 (Nat.le_of_ble_eq_true rfl) dX9_factor_152 (Nat.zero_le _) (Nat.zero_le _) (fun r2117 H1 locs hL hqr2117 => ?_)
                obtain ⟨hT1, hF1, hqr2117⟩ := hqr2117
                have hP : va_P D vwCl [(dr, .inl (cs 0, 1383, .inl f2069))] _ := hF1.hP (hP.sub [0] rfl) (fa_c ⟨by rw [hdT.1]; decide, by rw [hdT.2]; first | decide | (simp; done) | (simp; omega)⟩ fa_n)
                have hF := hF.tr (hF1.mono (by simp))
                have hT := hT1
                obtain ⟨p2118, er2119, a2120, z2121, m2122, q2123⟩ := hqr2117
                have hm := m2122
                have hm8 := hm.2.2.2.2.2.2.2
                refine lv_goto (tgt := 159) hx hb dX9_factor_155 (by decide) ?_
                refine lv_istore_n (lv' := [(3, .int r2117), (2, .int (-1)), (1, .int (byF g tl p2075)), (0, .ref w)]) hx hb dX9_factor_159 rfl hl (by decide) rfl (fun ls hl => ?_)
                refine lv_aload_n hx hb dX9_factor_160 rfl (lv_at hl 3 rfl) ?_
                refine lv_iload_n hx hb dX9_factor_161 rfl (lv_at hl 1 rfl) ?_
                refine lv_if_ge (tgt := 169) hx hb dX9_factor_162 (by decide) (fun c9 => absurd c9 (by decide)) (fun _ => ?_)
                refine lv_iconst (v := 0) hx hb dX9_factor_165 (by decide) ?_
                refine lv_goto (tgt := 170) hx hb dX9_factor_166 (by decide) ?_
                refine cv_v (As := [.int 0]) (rest := []) (b := w) ⟨hx, hb, hml, hown, hts⟩ (c_X9_emit hT (w := w) hw (x := 0) hbT hdT hm (hP 0 _ rfl) e2069 (fun e9 => by have q9 := (z2121 e9).2; omega)) (cwV 1 hts gX9_factor_X9_emit rfl rfl rfl hdX9_emit_v ⟨Nat.le_of_ble_eq_true rfl, Nat.le_of_ble_eq_true rfl⟩) hN hE hL (rcv10 hN hT hw.1) rfl rfl hl.1 (Nat.le_of_ble_eq_true rfl) dX9_factor_170 (Nat.zero_le _) (Nat.zero_le _) (fun H1 locs hL hqr2124 => ?_)
                obtain ⟨hT1, hF1, hqr2124⟩ := hqr2124
                have hF := hF.tr (hF1.mono (by simp))
                have hT := hT1
                obtain ⟨f2125, N2126, d2127, e2128, x2129, m2130⟩ := hqr2124
                have hm := m2130
                have hm8 := hm.2.2.2.2.2.2.2
                have nx2129 := x2129.n
                have ox2129 := nx2129.1
                have hbd : B0 ≤ dr := (hT.o26 hdT.1).1
                have hDR := hT.dr hdT d2127
                have hP : va_P D vwCl [(dr, .inl (cs 0, 1383, .inl f2125))] _ := va_P.cons d2127 va_P.nil
                refine lv_aload_n hx hb dX9_factor_173 rfl (lv_at hl 3 rfl) ?_
                refine lv_iload_n hx hb dX9_factor_174 rfl (lv_at hl 0 rfl) ?_
                refine cv_v (As := [.int r2117]) (rest := []) (b := w) ⟨hx, hb, hml, hown, hts⟩ (c_X9_emit hT (w := w) hw (x := r2117) hbT hdT hm (hP 0 _ rfl) e2128 (fun e9 => by have q9 := (z2121 e9).2; omega)) (cwV 1 hts gX9_factor_X9_emit rfl rfl rfl hdX9_emit_v ⟨Nat.le_of_ble_eq_true rfl, Nat.le_of_ble_eq_true rfl⟩) hN hE hL (rcv10 hN hT hw.1) rfl rfl hl.1 (Nat.le_of_ble_eq_true rfl) dX9_factor_175 (Nat.zero_le _) (Nat.zero_le _) (fun H1 locs hL hqr2132 => ?_)
                obtain ⟨hT1, hF1, hqr2132⟩ := hqr2132
                have hF := hF.tr (hF1.mono (by simp))
                have hT := hT1
                obtain ⟨f2133, N2134, d2135, e2136, x2137, m2138⟩ := hqr2132
                have hm := m2138
                have hm8 := hm.2.2.2.2.2.2.2
                have nx2137 := x2137.n
                have ox2137 := nx2137.1
                have hbd : B0 ≤ dr := (hT.o26 hdT.1).1
                have hDR := hT.dr hdT d2135
                have hP : va_P D vwCl [(dr, .inl (cs 0, 1383, .inl f2133))] _ := va_P.cons d2135 va_P.nil
                have bx2129 := nx2129.2.1
                have bx2137 := nx2137.2.1
                have hbn : N2134 + 2 * pos ≤ N + 2 * p2118 ∧ N2134 ≤ 2 * p2118 := by
                  by_cases e9 : er2119 = 0
                  · have q9 := (z2121 e9).2; omega
                  · have q9 := bx2129 e9; have q8 := bx2137 e9; omega
                exact en_v hx hb hr hlocks hL (Nat.zero_le _) (Nat.zero_le _) dX9_factor_178 (⟨hT, hF, _, p2118, er2119, hbn.1, (by omega), (fun e9 => id ((fun e9 => (z2121 e9).1) e9)), hm, _, hP 0 _ rfl, e2136, hbn.2, (EM.lit x2129 x2137 (by decide) (fun e9 => v2069 ((fun e9 => (z2121 e9).1) e9)))⟩)
              · have hm := m2116
                have hm8 := hm.2.2.2.2.2.2.2
                refine lv_if_eq (tgt := 141) hx hb dX9_factor_134 (by decide) (fun c9 => absurd c9 (by decide)) (fun _ => ?_)
                refine lv_iconst (v := 3) hx hb dX9_factor_137 (by decide) ?_
                refine lv_goto (tgt := 142) hx hb dX9_factor_138 (by decide) ?_
                refine lv_istore_n (lv' := [(2, .int 3), (1, .int (byF g tl p2075)), (0, .ref w)]) hx hb dX9_factor_142 rfl hl (by decide) rfl (fun ls hl => ?_)
                refine lv_iload_n hx hb dX9_factor_143 rfl (lv_at hl 0 rfl) ?_
                refine lv_if_ge (tgt := 158) hx hb dX9_factor_144 (by decide) (fun _ => ?_) (fun c9 => absurd (by decide) c9)
                refine lv_iload_n hx hb dX9_factor_158 rfl (lv_at hl 0 rfl) ?_
                refine lv_istore_n (lv' := [(3, .int 3), (2, .int 3), (1, .int (byF g tl p2075)), (0, .ref w)]) hx hb dX9_factor_159 rfl hl (by decide) rfl (fun ls hl => ?_)
                refine lv_aload_n hx hb dX9_factor_160 rfl (lv_at hl 3 rfl) ?_
                refine lv_iload_n hx hb dX9_factor_161 rfl (lv_at hl 1 rfl) ?_
                refine lv_if_ge (tgt := 169) hx hb dX9_factor_162 (by decide) (fun _ => ?_) (fun c9 => absurd (by decide) c9)
                refine lv_iconst (v := 1) hx hb dX9_factor_169 (by decide) ?_
                refine cv_v (As := [.int 1]) (rest := []) (b := w) ⟨hx, hb, hml, hown, hts⟩ (c_X9_emit hT (w := w) hw (x := 1) hbT hdT hm (hP 0 _ rfl) e2069 (fun e9 => by omega)) (cwV 1 hts gX9_factor_X9_emit rfl rfl rfl hdX9_emit_v ⟨Nat.le_of_ble_eq_true rfl, Nat.le_of_ble_eq_true rfl⟩) hN hE hL (rcv10 hN hT hw.1) rfl rfl hl.1 (Nat.le_of_ble_eq_true rfl) dX9_factor_170 (Nat.zero_le _) (Nat.zero_le _) (fun H1 locs hL hqr2140 => ?_)
                obtain ⟨hT1, hF1, hqr2140⟩ := hqr2140
                have hF := hF.tr (hF1.mono (by simp))
                have hT := hT1
                obtain ⟨f2141, N2142, d2143, e2144, x2145, m2146⟩ := hqr2140
                have hm := m2146
                have hm8 := hm.2.2.2.2.2.2.2
                have nx2145 := x2145.n
                have ox2145 := nx2145.1
                have hbd : B0 ≤ dr := (hT.o26 hdT.1).1
                have hDR := hT.dr hdT d2143
                have hP : va_P D vwCl [(dr, .inl (cs 0, 1383, .inl f2141))] _ := va_P.cons d2143 va_P.nil
                refine lv_aload_n hx hb dX9_factor_173 rfl (lv_at hl 3 rfl) ?_
                refine lv_iload_n hx hb dX9_factor_174 rfl (lv_at hl 0 rfl) ?_
                refine cv_v (As := [.int 3]) (rest := []) (b := w) ⟨hx, hb, hml, hown, hts⟩ (c_X9_emit hT (w := w) hw (x := 3) hbT hdT hm (hP 0 _ rfl) e2144 (fun e9 => by omega)) (cwV 1 hts gX9_factor_X9_emit rfl rfl rfl hdX9_emit_v ⟨Nat.le_of_ble_eq_true rfl, Nat.le_of_ble_eq_true rfl⟩) hN hE hL (rcv10 hN hT hw.1) rfl rfl hl.1 (Nat.le_of_ble_eq_true rfl) dX9_factor_175 (Nat.zero_le _) (Nat.zero_le _) (fun H1 locs hL hqr2148 => ?_)
                obtain ⟨hT1, hF1, hqr2148⟩ := hqr2148
                have hF := hF.tr (hF1.mono (by simp))
                have hT := hT1
                obtain ⟨f2149, N2150, d2151, e2152, x2153, m2154⟩ := hqr2148
                have hm := m2154
                have hm8 := hm.2.2.2.2.2.2.2
                have nx2153 := x2153.n
                have ox2153 := nx2153.1
                have hbd : B0 ≤ dr := (hT.o26 hdT.1).1
                have hDR := hT.dr hdT d2151
                have hP : va_P D vwCl [(dr, .inl (cs 0, 1383, .inl f2149))] _ := va_P.cons d2151 va_P.nil
                have bx2145 := nx2145.2.1
                have bx2153 := nx2153.2.1
                have hbn : N2150 + 2 * pos ≤ N + 2 * p2113 ∧ N2150 ≤ 2 * p2113 := by
                  by_cases e9 : er = 0
                  · omega
                  · have q9 := bx2145 e9; have q8 := bx2153 e9; omega
                exact en_v hx hb hr hlocks hL (Nat.zero_le _) (Nat.zero_le _) dX9_factor_178 (⟨hT, hF, _, p2113, er, hbn.1, (by omega), id, hm, _, hP 0 _ rfl, e2152, hbn.2, (EM.lit x2145 x2153 (by decide) v2069)⟩)
            · have hm := m2108
              have hm8 := hm.2.2.2.2.2.2.2
              refine lv_if_eq (tgt := 128) hx hb dX9_factor_121 (by decide) (fun c9 => absurd c9 (by decide)) (fun _ => ?_)
              refine lv_iconst (v := 2) hx hb dX9_factor_124 (by decide) ?_
              refine lv_goto (tgt := 142) hx hb dX9_factor_125 (by decide) ?_
              refine lv_istore_n (lv' := [(2, .int 2), (1, .int (byF g tl p2075)), (0, .ref w)]) hx hb dX9_factor_142 rfl hl (by decide) rfl (fun ls hl => ?_)
              refine lv_iload_n hx hb dX9_factor_143 rfl (lv_at hl 0 rfl) ?_
              refine lv_if_ge (tgt := 158) hx hb dX9_factor_144 (by decide) (fun _ => ?_) (fun c9 => absurd (by decide) c9)
              refine lv_iload_n hx hb dX9_factor_158 rfl (lv_at hl 0 rfl) ?_
              refine lv_istore_n (lv' := [(3, .int 2), (2, .int 2), (1, .int (byF g tl p2075)), (0, .ref w)]) hx hb dX9_factor_159 rfl hl (by decide) rfl (fun ls hl => ?_)
              refine lv_aload_n hx hb dX9_factor_160 rfl (lv_at hl 3 rfl) ?_
              refine lv_iload_n hx hb dX9_factor_161 rfl (lv_at hl 1 rfl) ?_
              refine lv_if_ge (tgt := 169) hx hb dX9_factor_162 (by decide) (fun _ => ?_) (fun c9 => absurd (by decide) c9)
              refine lv_iconst (v := 1) hx hb dX9_factor_169 (by decide) ?_
              refine cv_v (As := [.int 1]) (rest := []) (b := w) ⟨hx, hb, hml, hown, hts⟩ (c_X9_emit hT (w := w) hw (x := 1) hbT hdT hm (hP 0 _ rfl) e2069 (fun e9 => by omega)) (cwV 1 hts gX9_factor_X9_emit rfl rfl rfl hdX9_emit_v ⟨Nat.le_of_ble_eq_true rfl, Nat.le_of_ble_eq_true rfl⟩) hN hE hL (rcv10 hN hT hw.1) rfl rfl hl.1 (Nat.le_of_ble_eq_true rfl) dX9_factor_170 (Nat.zero_le _) (Nat.zero_le _) (fun H1 locs hL hqr2156 => ?_)
              obtain ⟨hT1, hF1, hqr2156⟩ := hqr2156
              have hF := hF.tr (hF1.mono (by simp))
              have hT := hT1
              obtain ⟨f2157, N2158, d2159, e2160, x2161, m2162⟩ := hqr2156
              have hm := m2162
              have hm8 := hm.2.2.2.2.2.2.2
              have nx2161 := x2161.n
              have ox2161 := nx2161.1
              have hbd : B0 ≤ dr := (hT.o26 hdT.1).1
              have hDR := hT.dr hdT d2159
              have hP : va_P D vwCl [(dr, .inl (cs 0, 1383, .inl f2157))] _ := va_P.cons d2159 va_P.nil
              refine lv_aload_n hx hb dX9_factor_173 rfl (lv_at hl 3 rfl) ?_
              refine lv_iload_n hx hb dX9_factor_174 rfl (lv_at hl 0 rfl) ?_
              refine cv_v (As := [.int 2]) (rest := []) (b := w) ⟨hx, hb, hml, hown, hts⟩ (c_X9_emit hT (w := w) hw (x := 2) hbT hdT hm (hP 0 _ rfl) e2160 (fun e9 => by omega)) (cwV 1 hts gX9_factor_X9_emit rfl rfl rfl hdX9_emit_v ⟨Nat.le_of_ble_eq_true rfl, Nat.le_of_ble_eq_true rfl⟩) hN hE hL (rcv10 hN hT hw.1) rfl rfl hl.1 (Nat.le_of_ble_eq_true rfl) dX9_factor_175 (Nat.zero_le _) (Nat.zero_le _) (fun H1 locs hL hqr2164 => ?_)
              obtain ⟨hT1, hF1, hqr2164⟩ := hqr2164
              have hF := hF.tr (hF1.mono (by simp))
              have hT := hT1
              obtain ⟨f2165, N2166, d2167, e2168, x2169, m2170⟩ := hqr2164
              have hm := m2170
              have hm8 := hm.2.2.2.2.2.2.2
              have nx2169 := x2169.n
              have ox2169 := nx2169.1
              have hbd : B0 ≤ dr := (hT.o26 hdT.1).1
              have hDR := hT.dr hdT d2167
              have hP : va_P D vwCl [(dr, .inl (cs 0, 1383, .inl f2165))] _ := va_P.cons d2167 va_P.nil
              have bx2161 := nx2161.2.1
              have bx2169 := nx2169.2.1
              have hbn : N2166 + 2 * pos ≤ N + 2 * p2105 ∧ N2166 ≤ 2 * p2105 := by
                by_cases e9 : er = 0
                · omega
                · have q9 := bx2161 e9; have q8 := bx2169 e9; omega
              exact en_v hx hb hr hlocks hL (Nat.zero_le _) (Nat.zero_le _) dX9_factor_178 (⟨hT, hF, _, p2105, er, hbn.1, (by omega), id, hm, _, hP 0 _ rfl, e2168, hbn.2, (EM.lit x2161 x2169 (by decide) v2069)⟩)
          · have hm := m2100
            have hm8 := hm.2.2.2.2.2.2.2
            refine lv_if_eq (tgt := 115) hx hb dX9_factor_108 (by decide) (fun c9 => absurd c9 (by decide)) (fun _ => ?_)
            refine lv_iconst (v := 1) hx hb dX9_factor_111 (by decide) ?_
            refine lv_goto (tgt := 142) hx hb dX9_factor_112 (by decide) ?_
            refine lv_istore_n (lv' := [(2, .int 1), (1, .int (byF g tl p2075)), (0, .ref w)]) hx hb dX9_factor_142 rfl hl (by decide) rfl (fun ls hl => ?_)
            refine lv_iload_n hx hb dX9_factor_143 rfl (lv_at hl 0 rfl) ?_
            refine lv_if_ge (tgt := 158) hx hb dX9_factor_144 (by decide) (fun _ => ?_) (fun c9 => absurd (by decide) c9)
            refine lv_iload_n hx hb dX9_factor_158 rfl (lv_at hl 0 rfl) ?_
            refine lv_istore_n (lv' := [(3, .int 1), (2, .int 1), (1, .int (byF g tl p2075)), (0, .ref w)]) hx hb dX9_factor_159 rfl hl (by decide) rfl (fun ls hl => ?_)
            refine lv_aload_n hx hb dX9_factor_160 rfl (lv_at hl 3 rfl) ?_
            refine lv_iload_n hx hb dX9_factor_161 rfl (lv_at hl 1 rfl) ?_
            refine lv_if_ge (tgt := 169) hx hb dX9_factor_162 (by decide) (fun _ => ?_) (fun c9 => absurd (by decide) c9)
            refine lv_iconst (v := 1) hx hb dX9_factor_169 (by decide) ?_
            refine cv_v (As := [.int 1]) (rest := []) (b := w) ⟨hx, hb, hml, hown, hts⟩ (c_X9_emit hT (w := w) hw (x := 1) hbT hdT hm (hP 0 _ rfl) e2069 (fun e9 => by omega)) (cwV 1 hts gX9_factor_X9_emit rfl rfl rfl hdX9_emit_v ⟨Nat.le_of_ble_eq_true rfl, Nat.le_of_ble_eq_true rfl⟩) hN hE hL (rcv10 hN hT hw.1) rfl rfl hl.1 (Nat.le_of_ble_eq_true rfl) dX9_factor_170 (Nat.zero_le _) (Nat.zero_le _) (fun H1 locs hL hqr2172 => ?_)
            obtain ⟨hT1, hF1, hqr2172⟩ := hqr2172
            have hF := hF.tr (hF1.mono (by simp))
            have hT := hT1
            obtain ⟨f2173, N2174, d2175, e2176, x2177, m2178⟩ := hqr2172
            have hm := m2178
            have hm8 := hm.2.2.2.2.2.2.2
            have nx2177 := x2177.n
            have ox2177 := nx2177.1
            have hbd : B0 ≤ dr := (hT.o26 hdT.1).1
            have hDR := hT.dr hdT d2175
            have hP : va_P D vwCl [(dr, .inl (cs 0, 1383, .inl f2173))] _ := va_P.cons d2175 va_P.nil
            refine lv_aload_n hx hb dX9_factor_173 rfl (lv_at hl 3 rfl) ?_
            refine lv_iload_n hx hb dX9_factor_174 rfl (lv_at hl 0 rfl) ?_
            refine cv_v (As := [.int 1]) (rest := []) (b := w) ⟨hx, hb, hml, hown, hts⟩ (c_X9_emit hT (w := w) hw (x := 1) hbT hdT hm (hP 0 _ rfl) e2176 (fun e9 => by omega)) (cwV 1 hts gX9_factor_X9_emit rfl rfl rfl hdX9_emit_v ⟨Nat.le_of_ble_eq_true rfl, Nat.le_of_ble_eq_true rfl⟩) hN hE hL (rcv10 hN hT hw.1) rfl rfl hl.1 (Nat.le_of_ble_eq_true rfl) dX9_factor_175 (Nat.zero_le _) (Nat.zero_le _) (fun H1 locs hL hqr2180 => ?_)
            obtain ⟨hT1, hF1, hqr2180⟩ := hqr2180
            have hF := hF.tr (hF1.mono (by simp))
            have hT := hT1
            obtain ⟨f2181, N2182, d2183, e2184, x2185, m2186⟩ := hqr2180
            have hm := m2186
            have hm8 := hm.2.2.2.2.2.2.2
            have nx2185 := x2185.n
            have ox2185 := nx2185.1
            have hbd : B0 ≤ dr := (hT.o26 hdT.1).1
            have hDR := hT.dr hdT d2183
            have hP : va_P D vwCl [(dr, .inl (cs 0, 1383, .inl f2181))] _ := va_P.cons d2183 va_P.nil
            have bx2177 := nx2177.2.1
            have bx2185 := nx2185.2.1
            have hbn : N2182 + 2 * pos ≤ N + 2 * p2097 ∧ N2182 ≤ 2 * p2097 := by
              by_cases e9 : er = 0
              · omega
              · have q9 := bx2177 e9; have q8 := bx2185 e9; omega
            exact en_v hx hb hr hlocks hL (Nat.zero_le _) (Nat.zero_le _) dX9_factor_178 (⟨hT, hF, _, p2097, er, hbn.1, (by omega), id, hm, _, hP 0 _ rfl, e2184, hbn.2, (EM.lit x2177 x2185 (by decide) v2069)⟩)
        · have hm := m2092
          have hm8 := hm.2.2.2.2.2.2.2
          refine lv_if_eq (tgt := 102) hx hb dX9_factor_95 (by decide) (fun c9 => absurd c9 (by decide)) (fun _ => ?_)
          refine lv_iconst (v := 0) hx hb dX9_factor_98 (by decide) ?_
          refine lv_goto (tgt := 142) hx hb dX9_factor_99 (by decide) ?_
          refine lv_istore_n (lv' := [(2, .int 0), (1, .int (byF g tl p2075)), (0, .ref w)]) hx hb dX9_factor_142 rfl hl (by decide) rfl (fun ls hl => ?_)
          refine lv_iload_n hx hb dX9_factor_143 rfl (lv_at hl 0 rfl) ?_
          refine lv_if_ge (tgt := 158) hx hb dX9_factor_144 (by decide) (fun _ => ?_) (fun c9 => absurd (by decide) c9)
          refine lv_iload_n hx hb dX9_factor_158 rfl (lv_at hl 0 rfl) ?_
          refine lv_istore_n (lv' := [(3, .int 0), (2, .int 0), (1, .int (byF g tl p2075)), (0, .ref w)]) hx hb dX9_factor_159 rfl hl (by decide) rfl (fun ls hl => ?_)
          refine lv_aload_n hx hb dX9_factor_160 rfl (lv_at hl 3 rfl) ?_
          refine lv_iload_n hx hb dX9_factor_161 rfl (lv_at hl 1 rfl) ?_
          refine lv_if_ge (tgt := 169) hx hb dX9_factor_162 (by decide) (fun _ => ?_) (fun c9 => absurd (by decide) c9)
          refine lv_iconst (v := 1) hx hb dX9_factor_169 (by decide) ?_
          refine cv_v (As := [.int 1]) (rest := []) (b := w) ⟨hx, hb, hml, hown, hts⟩ (c_X9_emit hT (w := w) hw (x := 1) hbT hdT hm (hP 0 _ rfl) e2069 (fun e9 => by omega)) (cwV 1 hts gX9_factor_X9_emit rfl rfl rfl hdX9_emit_v ⟨Nat.le_of_ble_eq_true rfl, Nat.le_of_ble_eq_true rfl⟩) hN hE hL (rcv10 hN hT hw.1) rfl rfl hl.1 (Nat.le_of_ble_eq_true rfl) dX9_factor_170 (Nat.zero_le _) (Nat.zero_le _) (fun H1 locs hL hqr2188 => ?_)
          obtain ⟨hT1, hF1, hqr2188⟩ := hqr2188
          have hF := hF.tr (hF1.mono (by simp))
          have hT := hT1
          obtain ⟨f2189, N2190, d2191, e2192, x2193, m2194⟩ := hqr2188
          have hm := m2194
          have hm8 := hm.2.2.2.2.2.2.2
          have nx2193 := x2193.n
          have ox2193 := nx2193.1
          have hbd : B0 ≤ dr := (hT.o26 hdT.1).1
          have hDR := hT.dr hdT d2191
          have hP : va_P D vwCl [(dr, .inl (cs 0, 1383, .inl f2189))] _ := va_P.cons d2191 va_P.nil
          refine lv_aload_n hx hb dX9_factor_173 rfl (lv_at hl 3 rfl) ?_
          refine lv_iload_n hx hb dX9_factor_174 rfl (lv_at hl 0 rfl) ?_
          refine cv_v (As := [.int 0]) (rest := []) (b := w) ⟨hx, hb, hml, hown, hts⟩ (c_X9_emit hT (w := w) hw (x := 0) hbT hdT hm (hP 0 _ rfl) e2192 (fun e9 => by omega)) (cwV 1 hts gX9_factor_X9_emit rfl rfl rfl hdX9_emit_v ⟨Nat.le_of_ble_eq_true rfl, Nat.le_of_ble_eq_true rfl⟩) hN hE hL (rcv10 hN hT hw.1) rfl rfl hl.1 (Nat.le_of_ble_eq_true rfl) dX9_factor_175 (Nat.zero_le _) (Nat.zero_le _) (fun H1 locs hL hqr2196 => ?_)
          obtain ⟨hT1, hF1, hqr2196⟩ := hqr2196
          have hF := hF.tr (hF1.mono (by simp))
          have hT := hT1
          obtain ⟨f2197, N2198, d2199, e2200, x2201, m2202⟩ := hqr2196
          have hm := m2202
          have hm8 := hm.2.2.2.2.2.2.2
          have nx2201 := x2201.n
          have ox2201 := nx2201.1
          have hbd : B0 ≤ dr := (hT.o26 hdT.1).1
          have hDR := hT.dr hdT d2199
          have hP : va_P D vwCl [(dr, .inl (cs 0, 1383, .inl f2197))] _ := va_P.cons d2199 va_P.nil
          have bx2193 := nx2193.2.1
          have bx2201 := nx2201.2.1
          have hbn : N2198 + 2 * pos ≤ N + 2 * p2089 ∧ N2198 ≤ 2 * p2089 := by
            by_cases e9 : er = 0
            · omega
            · have q9 := bx2193 e9; have q8 := bx2201 e9; omega
          exact en_v hx hb hr hlocks hL (Nat.zero_le _) (Nat.zero_le _) dX9_factor_178 (⟨hT, hF, _, p2089, er, hbn.1, (by omega), id, hm, _, hP 0 _ rfl, e2200, hbn.2, (EM.lit x2193 x2201 (by decide) v2069)⟩)
      · refine lv_if_eq (tgt := 89) hx hb dX9_factor_82 (by decide) (fun c9 => absurd c9 (by decide)) (fun _ => ?_)
        refine lv_iconst (v := (-1)) hx hb dX9_factor_85 (by decide) ?_
        refine lv_goto (tgt := 142) hx hb dX9_factor_86 (by decide) ?_
        refine lv_istore_n (lv' := [(2, .int (-1)), (1, .int (byF g tl p2075)), (0, .ref w)]) hx hb dX9_factor_142 rfl hl (by decide) rfl (fun ls hl => ?_)
        refine lv_iload_n hx hb dX9_factor_143 rfl (lv_at hl 0 rfl) ?_
        refine lv_if_ge (tgt := 158) hx hb dX9_factor_144 (by decide) (fun c9 => absurd c9 (by decide)) (fun _ => ?_)
        refine lv_aload_n hx hb dX9_factor_147 rfl (lv_at hl 2 rfl) ?_
        refine lv_iconst (v := 0) hx hb dX9_factor_148 (by decide) ?_
        refine lv_sipush (v := 9999) hx hb dX9_factor_149 (by decide) ?_
        refine cv_i (As := [.int 0, .int 9999]) (rest := []) (b := w) ⟨hx, hb, hml, hown, hts⟩ (c_X9_number hT (w := w) hw (x := 0) (y := 9999) hbT hdT hm) (cwV 2 hts gX9_factor_X9_number rfl rfl rfl hdX9_number_v ⟨Nat.le_of_ble_eq_true rfl, Nat.le_of_ble_eq_true rfl⟩) hN hE hL (rcv10 hN hT hw.1) rfl rfl hl.1 (Nat.le_of_ble_eq_true rfl) dX9_factor_152 (Nat.zero_le _) (Nat.zero_le _) (fun r2204 H1 locs hL hqr2204 => ?_)
        obtain ⟨hT1, hF1, hqr2204⟩ := hqr2204
        have hP : va_P D vwCl [(dr, .inl (cs 0, 1383, .inl f2069))] _ := hF1.hP (hP.sub [0] rfl) (fa_c ⟨by rw [hdT.1]; decide, by rw [hdT.2]; first | decide | (simp; done) | (simp; omega)⟩ fa_n)
        have hF := hF.tr (hF1.mono (by simp))
        have hT := hT1
        obtain ⟨p2205, er2206, a2207, z2208, m2209, q2210⟩ := hqr2204
        have hm := m2209
        have hm8 := hm.2.2.2.2.2.2.2
        refine lv_goto (tgt := 159) hx hb dX9_factor_155 (by decide) ?_
        refine lv_istore_n (lv' := [(3, .int r2204), (2, .int (-1)), (1, .int (byF g tl p2075)), (0, .ref w)]) hx hb dX9_factor_159 rfl hl (by decide) rfl (fun ls hl => ?_)
        refine lv_aload_n hx hb dX9_factor_160 rfl (lv_at hl 3 rfl) ?_
        refine lv_iload_n hx hb dX9_factor_161 rfl (lv_at hl 1 rfl) ?_
        refine lv_if_ge (tgt := 169) hx hb dX9_factor_162 (by decide) (fun c9 => absurd c9 (by decide)) (fun _ => ?_)
        refine lv_iconst (v := 0) hx hb dX9_factor_165 (by decide) ?_
        refine lv_goto (tgt := 170) hx hb dX9_factor_166 (by decide) ?_
        refine cv_v (As := [.int 0]) (rest := []) (b := w) ⟨hx, hb, hml, hown, hts⟩ (c_X9_emit hT (w := w) hw (x := 0) hbT hdT hm (hP 0 _ rfl) e2069 (fun e9 => by have q9 := (z2208 e9).2; omega)) (cwV 1 hts gX9_factor_X9_emit rfl rfl rfl hdX9_emit_v ⟨Nat.le_of_ble_eq_true rfl, Nat.le_of_ble_eq_true rfl⟩) hN hE hL (rcv10 hN hT hw.1) rfl rfl hl.1 (Nat.le_of_ble_eq_true rfl) dX9_factor_170 (Nat.zero_le _) (Nat.zero_le _) (fun H1 locs hL hqr2211 => ?_)
        obtain ⟨hT1, hF1, hqr2211⟩ := hqr2211
        have hF := hF.tr (hF1.mono (by simp))
        have hT := hT1
        obtain ⟨f2212, N2213, d2214, e2215, x2216, m2217⟩ := hqr2211
        have hm := m2217
        have hm8 := hm.2.2.2.2.2.2.2
        have nx2216 := x2216.n
        have ox2216 := nx2216.1
        have hbd : B0 ≤ dr := (hT.o26 hdT.1).1
        have hDR := hT.dr hdT d2214
        have hP : va_P D vwCl [(dr, .inl (cs 0, 1383, .inl f2212))] _ := va_P.cons d2214 va_P.nil
        refine lv_aload_n hx hb dX9_factor_173 rfl (lv_at hl 3 rfl) ?_
        refine lv_iload_n hx hb dX9_factor_174 rfl (lv_at hl 0 rfl) ?_
        refine cv_v (As := [.int r2204]) (rest := []) (b := w) ⟨hx, hb, hml, hown, hts⟩ (c_X9_emit hT (w := w) hw (x := r2204) hbT hdT hm (hP 0 _ rfl) e2215 (fun e9 => by have q9 := (z2208 e9).2; omega)) (cwV 1 hts gX9_factor_X9_emit rfl rfl rfl hdX9_emit_v ⟨Nat.le_of_ble_eq_true rfl, Nat.le_of_ble_eq_true rfl⟩) hN hE hL (rcv10 hN hT hw.1) rfl rfl hl.1 (Nat.le_of_ble_eq_true rfl) dX9_factor_175 (Nat.zero_le _) (Nat.zero_le _) (fun H1 locs hL hqr2219 => ?_)
        obtain ⟨hT1, hF1, hqr2219⟩ := hqr2219
        have hF := hF.tr (hF1.mono (by simp))
        have hT := hT1
        obtain ⟨f2220, N2221, d2222, e2223, x2224, m2225⟩ := hqr2219
        have hm := m2225
        have hm8 := hm.2.2.2.2.2.2.2
        have nx2224 := x2224.n
        have ox2224 := nx2224.1
        have hbd : B0 ≤ dr := (hT.o26 hdT.1).1
        have hDR := hT.dr hdT d2222
        have hP : va_P D vwCl [(dr, .inl (cs 0, 1383, .inl f2220))] _ := va_P.cons d2222 va_P.nil
        have bx2216 := nx2216.2.1
        have bx2224 := nx2224.2.1
        have hbn : N2221 + 2 * pos ≤ N + 2 * p2205 ∧ N2221 ≤ 2 * p2205 := by
          by_cases e9 : er2206 = 0
          · have q9 := (z2208 e9).2; omega
          · have q9 := bx2216 e9; have q8 := bx2224 e9; omega
        exact en_v hx hb hr hlocks hL (Nat.zero_le _) (Nat.zero_le _) dX9_factor_178 (⟨hT, hF, _, p2205, er2206, hbn.1, (by omega), (fun e9 => id ((fun e9 => (z2208 e9).1) e9)), hm, _, hP 0 _ rfl, e2223, hbn.2, (EM.lit x2216 x2224 (by decide) (fun e9 => v2069 ((fun e9 => (z2208 e9).1) e9)))⟩)
    · have hl9 := byF_c (c2080) (by decide)
      refine lv_aload_n hx hb dX9_factor_19 rfl (lv_at hl 1 rfl) ?_
      obtain ⟨hb2227, e2227, hat2227, hk2227⟩ := hT.o10 hw.1
      obtain ⟨f2227_0, f2227_1, f2227_3, f2227_4, f2227_5, f2227_6, f2227_7, f2227_9, f2227_10, f2227_11, f2227_12, f2227_13, f2227_14, f2227_15, f2227_16, f2227_17, rfl, c2227_2, c2227_3, c2227_4, c2227_12, t2227_1, t2227_8, t2227_9, c2227_sd, t2227_10, t2227_11, t2227_17⟩ := hk2227
      obtain ⟨rfl, rfl, rfl, rfl, rfl, rfl⟩ := hm.at hat2227 c2227_3 (by omega)
      have hm8 := hm.2.2.2.2.2.2.2
      have hP : va_P D vwCl [(w, .inr (9, [.int f2227_0, .ref bu, .int (nI ((κ w).2.2.1)), .int (nI tl), .int (nI p2075), .int er, .int f2227_6, .int f2227_7, .ref (κ w).2.2.2, .ref f2227_9, .ref dr, .ref f2227_11, .int (nI f2227_12), .int f2227_13, .int 4, .int f2227_15, .int f2227_16, .ref f2227_17])), (dr, .inl (cs 0, 1383, .inl f2069))] _ := va_P.cons hat2227 hP
      refine va_get (D := D) (ci := 9) (v := .int 4) (C := RX9) (T := TX9) (N := 18) hx hb hts iX9_factor_9 hown hN.1 hP 0 rfl rfl 14 (by decide) (hts _ mX9_factor_1) (fun _ h9 => h9) rfl dX9_factor_20 ?_
      refine lv_iconst (v := 4) hx hb dX9_factor_23 (by decide) ?_
      refine lv_icmp_ne (tgt := 37) hx hb dX9_factor_24 (by decide) (fun c9 => absurd (by decide) c9) (fun _ => ?_)
      refine lv_aload_n hx hb dX9_factor_27 rfl (lv_at hl 1 rfl) ?_
      refine lv_bipush (v := (-5)) hx hb dX9_factor_28 (by decide) ?_
      refine lv_aload_n hx hb dX9_factor_30 rfl (lv_at hl 1 rfl) ?_
      refine va_get (D := D) (ci := 9) (v := .int (nI p2075)) (C := RX9) (T := TX9) (N := 18) hx hb hts iX9_factor_9 hown hN.1 hP 0 rfl rfl 4 (by decide) (hts _ mX9_factor_2) (fun _ h9 => h9) rfl dX9_factor_31 ?_
      refine cv_v (As := [.int (-5), .int (nI p2075)]) (rest := []) (b := w) ⟨hx, hb, hml, hown, hts⟩ (c_X9_report hT (w := w) hw (x := (-5)) (y := (nI p2075)) hbT hdT hm ((by decide))) (cwV 2 hts gX9_factor_X9_report rfl rfl rfl hdX9_report_v ⟨Nat.le_of_ble_eq_true rfl, Nat.le_of_ble_eq_true rfl⟩) hN hE hL (rcv10 hN hT hw.1) rfl rfl hl.1 (Nat.le_of_ble_eq_true rfl) dX9_factor_34 (Nat.zero_le _) (Nat.zero_le _) (fun H1 locs hL hqr2228 => ?_)
      obtain ⟨hT1, hF1, hqr2228⟩ := hqr2228
      have hP : va_P D vwCl [(dr, .inl (cs 0, 1383, .inl f2069))] _ := hF1.hP (hP.sub [1] rfl) (fa_c ⟨by rw [hdT.1]; decide, by rw [hdT.2]; first | decide | (simp; done) | (simp; omega)⟩ fa_n)
      have hF := hF.tr (hF1.mono (by simp))
      have hT := hT1
      obtain ⟨er2229, z2230, m2231⟩ := hqr2228
      have hm := m2231
      have hm8 := hm.2.2.2.2.2.2.2
      refine lv_aload_n hx hb dX9_factor_37 rfl (lv_at hl 1 rfl) ?_
      refine lv_dup hx hb dX9_factor_38 rfl ?_
      obtain ⟨hb2232, e2232, hat2232, hk2232⟩ := hT.o10 hw.1
      obtain ⟨f2232_0, f2232_1, f2232_3, f2232_4, f2232_5, f2232_6, f2232_7, f2232_9, f2232_10, f2232_11, f2232_12, f2232_13, f2232_14, f2232_15, f2232_16, f2232_17, rfl, c2232_2, c2232_3, c2232_4, c2232_12, t2232_1, t2232_8, t2232_9, c2232_sd, t2232_10, t2232_11, t2232_17⟩ := hk2232
      obtain ⟨rfl, rfl, rfl, rfl, rfl, rfl⟩ := hm.at hat2232 c2232_3 (by omega)
      have hm8 := hm.2.2.2.2.2.2.2
      have hP : va_P D vwCl [(w, .inr (9, [.int f2232_0, .ref bu, .int (nI ((κ w).2.2.1)), .int (nI tl), .int (nI p2075), .int er2229, .int f2232_6, .int f2232_7, .ref (κ w).2.2.2, .ref f2232_9, .ref dr, .ref f2232_11, .int (nI f2232_12), .int f2232_13, .int 4, .int f2232_15, .int f2232_16, .ref f2232_17])), (dr, .inl (cs 0, 1383, .inl f2069))] _ := va_P.cons hat2232 hP
      refine va_get (D := D) (ci := 9) (v := .int (nI p2075)) (C := RX9) (T := TX9) (N := 18) hx hb hts iX9_factor_9 hown hN.1 hP 0 rfl rfl 4 (by decide) (hts _ mX9_factor_2) (fun _ h9 => h9) rfl dX9_factor_39 ?_
      refine lv_iconst (v := 1) hx hb dX9_factor_42 (by decide) ?_
      refine lv_iadd hx hb dX9_factor_43 ?_
      refine tp_i (nI (p2075 + 1)) (nI_add p2075 1) ?_
      have hB : Bx B0 D _ [(w, .inr (9, [.int f2232_0, .ref bu, .int (nI ((κ w).2.2.1)), .int (nI tl), .int (nI p2075), .int er2229, .int f2232_6, .int f2232_7, .ref (κ w).2.2.2, .ref f2232_9, .ref dr, .ref f2232_11, .int (nI f2232_12), .int f2232_13, .int 4, .int f2232_15, .int f2232_16, .ref f2232_17])), (dr, .inl (cs 0, 1383, .inl f2069))] [] _ _ := Bx.of (fun a => (κ a).1) hL hP (fa_c hb2232 (fa_c hbd fa_n)) (by simp only [List.map_cons, List.map_nil, hw.1, hdT.1]; decide)
      refine b_put (D := D) (ci := 9) (v := .int (nI (p2075 + 1))) (ty := .int) (C := RX9) (T := TX9) (N := 18) hx hb hts iX9_factor_9 tyX9 tyX9_ok nmX9 hown hN hB 0 rfl rfl 4 (by decide) (hts _ mX9_factor_2) (fun _ h9 => h9) rfl (by decide +kernel) rfl rfl (Nat.le_of_ble_eq_true rfl) (.inl rfl) dX9_factor_44 (fun H locs hB => ?_)
      have hB : Bx B0 D _ [(w, .inr (9, [.int f2232_0, .ref bu, .int (nI ((κ w).2.2.1)), .int (nI tl), .int (nI (p2075 + 1)), .int er2229, .int f2232_6, .int f2232_7, .ref (κ w).2.2.2, .ref f2232_9, .ref dr, .ref f2232_11, .int (nI f2232_12), .int f2232_13, .int 4, .int f2232_15, .int f2232_16, .ref f2232_17])), (dr, .inl (cs 0, 1383, .inl f2069))] [w] _ _ := hB
      refine lv_aload_n hx hb dX9_factor_47 rfl (lv_at hl 1 rfl) ?_
      refine lv_dup hx hb dX9_factor_48 rfl ?_
      refine va_get (D := D) (ci := 9) (v := .int 4) (C := RX9) (T := TX9) (N := 18) hx hb hts iX9_factor_9 hown hN.1 hB.1 0 rfl rfl 14 (by decide) (hts _ mX9_factor_1) (fun _ h9 => h9) rfl dX9_factor_49 ?_
      refine lv_iconst (v := 1) hx hb dX9_factor_52 (by decide) ?_
      refine lv_iadd hx hb dX9_factor_53 ?_
      refine tp_i 5 (by decide) ?_
      refine b_put (D := D) (ci := 9) (v := .int 5) (ty := .int) (C := RX9) (T := TX9) (N := 18) hx hb hts iX9_factor_9 tyX9 tyX9_ok nmX9 hown hN hB 0 rfl rfl 14 (by decide) (hts _ mX9_factor_1) (fun _ h9 => h9) rfl (by decide +kernel) rfl rfl (Nat.le_of_ble_eq_true rfl) (.inr ⟨rfl, List.mem_of_getElem? (i := 0) rfl⟩) dX9_factor_54 (fun H locs hB => ?_)
      have hB : Bx B0 D _ [(w, .inr (9, [.int f2232_0, .ref bu, .int (nI ((κ w).2.2.1)), .int (nI tl), .int (nI (p2075 + 1)), .int er2229, .int f2232_6, .int f2232_7, .ref (κ w).2.2.2, .ref f2232_9, .ref dr, .ref f2232_11, .int (nI f2232_12), .int f2232_13, .int 5, .int f2232_15, .int f2232_16, .ref f2232_17])), (dr, .inl (cs 0, 1383, .inl f2069))] [w] _ _ := hB
      refine lv_aload_n hx hb dX9_factor_57 rfl (lv_at hl 1 rfl) ?_
      have hT : WT B0 D cs T κ _ := hT.close hB ⟨⟨0, _, rfl, ok_10 hw.1 ⟨_, _, _, _, _, _, _, _, _, _, _, _, _, _, _, _, rfl, (by omega), (by omega), (by omega), (by omega), hbT, t2232_8, t2232_9, c2232_sd, hdT, t2232_11, t2232_17⟩⟩, trivial⟩
      have hF : Fr B0 [12, 17] κ H0 _ := hF.close hB (fa_c (by simp [hw.2]) fa_n)
      have hL : OkL B0 _ := hB.2.2.2.2.2
      have hP : va_P D vwCl [(w, .inr (9, [.int f2232_0, .ref bu, .int (nI ((κ w).2.2.1)), .int (nI tl), .int (nI (p2075 + 1)), .int er2229, .int f2232_6, .int f2232_7, .ref (κ w).2.2.2, .ref f2232_9, .ref dr, .ref f2232_11, .int (nI f2232_12), .int f2232_13, .int 5, .int f2232_15, .int f2232_16, .ref f2232_17])), (dr, .inl (cs 0, 1383, .inl f2069))] _ := hB.1
      have hbu9 := (hm.2.2.2.2.2.2.1).kept (hB.2.2.2.1 _ hm.2.2.2.2.2.2.1.lt (by simp only [List.mem_cons, List.not_mem_nil, or_false, not_or]; exact ne_c hbT.1 hw.1 (by decide)))
      have hm : MF D cs w _ ((p2075 + 1)) (tl) (er2229) (5) dr bu g := ⟨⟨_, hP 0 _ rfl, rfl⟩, ⟨_, hP 0 _ rfl, rfl⟩, ⟨_, hP 0 _ rfl, rfl⟩, ⟨_, hP 0 _ rfl, rfl⟩, ⟨_, hP 0 _ rfl, rfl⟩, ⟨_, hP 0 _ rfl, rfl⟩, hbu9, (by omega), (by omega)⟩
      refine cv_v (As := []) (rest := []) (b := w) ⟨hx, hb, hml, hown, hts⟩ (c_X9_readSum_db hT (w := w) hw hbT hdT hm (z2230)) (cwV 0 hts gX9_factor_X9_readSum rfl rfl rfl hdX9_readSum_v ⟨Nat.le_of_ble_eq_true rfl, Nat.le_of_ble_eq_true rfl⟩) hN hE hL (rcv10 hN hT hw.1) rfl rfl hl.1 (Nat.le_of_ble_eq_true rfl) dX9_factor_58 (Nat.zero_le _) (Nat.zero_le _) (fun H1 locs hL hqr2233 => ?_)
      obtain ⟨h9, hqr2233⟩ := hqr2233; replace h9 := h9.symm; subst h9
      refine lv_aload_n hx hb dX9_factor_61 rfl (lv_at hl 1 rfl) ?_
      refine lv_bipush (v := 41) hx hb dX9_factor_62 (by decide) ?_
      refine cv_v (As := [.int 41]) (rest := []) (b := w) ⟨hx, hb, hml, hown, hts⟩ (c_X9_expect hT (w := w) hw (x := 41) hbT hdT hm ((by decide))) (cwV 1 hts gX9_factor_X9_expect rfl rfl rfl hdX9_expect_v ⟨Nat.le_of_ble_eq_true rfl, Nat.le_of_ble_eq_true rfl⟩) hN hE hL (rcv10 hN hT hw.1) rfl rfl hl.1 (Nat.le_of_ble_eq_true rfl) dX9_factor_64 (Nat.zero_le _) (Nat.zero_le _) (fun H1 locs hL hqr2234 => ?_)
      obtain ⟨hT1, hF1, hqr2234⟩ := hqr2234
      have hP : va_P D vwCl [(dr, .inl (cs 0, 1383, .inl f2069))] _ := hF1.hP (hP.sub [1] rfl) (fa_c ⟨by rw [hdT.1]; decide, by rw [hdT.2]; first | decide | (simp; done) | (simp; omega)⟩ fa_n)
      have hF := hF.tr (hF1.mono (by simp))
      have hT := hT1
      obtain ⟨p2235, er2236, a2237, z2238, m2239⟩ := hqr2234
      have hm := m2239
      have hm8 := hm.2.2.2.2.2.2.2
      refine lv_aload_n hx hb dX9_factor_67 rfl (lv_at hl 1 rfl) ?_
      refine lv_dup hx hb dX9_factor_68 rfl ?_
      obtain ⟨hb2240, e2240, hat2240, hk2240⟩ := hT.o10 hw.1
      obtain ⟨f2240_0, f2240_1, f2240_3, f2240_4, f2240_5, f2240_6, f2240_7, f2240_9, f2240_10, f2240_11, f2240_12, f2240_13, f2240_14, f2240_15, f2240_16, f2240_17, rfl, c2240_2, c2240_3, c2240_4, c2240_12, t2240_1, t2240_8, t2240_9, c2240_sd, t2240_10, t2240_11, t2240_17⟩ := hk2240
      obtain ⟨rfl, rfl, rfl, rfl, rfl, rfl⟩ := hm.at hat2240 c2240_3 (by omega)
      have hm8 := hm.2.2.2.2.2.2.2
      have hP : va_P D vwCl [(w, .inr (9, [.int f2240_0, .ref bu, .int (nI ((κ w).2.2.1)), .int (nI tl), .int (nI p2235), .int er2236, .int f2240_6, .int f2240_7, .ref (κ w).2.2.2, .ref f2240_9, .ref dr, .ref f2240_11, .int (nI f2240_12), .int f2240_13, .int 5, .int f2240_15, .int f2240_16, .ref f2240_17])), (dr, .inl (cs 0, 1383, .inl f2069))] _ := va_P.cons hat2240 hP
      refine va_get (D := D) (ci := 9) (v := .int 5) (C := RX9) (T := TX9) (N := 18) hx hb hts iX9_factor_9 hown hN.1 hP 0 rfl rfl 14 (by decide) (hts _ mX9_factor_1) (fun _ h9 => h9) rfl dX9_factor_69 ?_
      refine lv_iconst (v := 1) hx hb dX9_factor_72 (by decide) ?_
      refine lv_isub hx hb dX9_factor_73 ?_
      refine tp_i 4 (by decide) ?_
      have hB : Bx B0 D _ [(w, .inr (9, [.int f2240_0, .ref bu, .int (nI ((κ w).2.2.1)), .int (nI tl), .int (nI p2235), .int er2236, .int f2240_6, .int f2240_7, .ref (κ w).2.2.2, .ref f2240_9, .ref dr, .ref f2240_11, .int (nI f2240_12), .int f2240_13, .int 5, .int f2240_15, .int f2240_16, .ref f2240_17])), (dr, .inl (cs 0, 1383, .inl f2069))] [] _ _ := Bx.of (fun a => (κ a).1) hL hP (fa_c hb2240 (fa_c hbd fa_n)) (by simp only [List.map_cons, List.map_nil, hw.1, hdT.1]; decide)
      refine b_put (D := D) (ci := 9) (v := .int 4) (ty := .int) (C := RX9) (T := TX9) (N := 18) hx hb hts iX9_factor_9 tyX9 tyX9_ok nmX9 hown hN hB 0 rfl rfl 14 (by decide) (hts _ mX9_factor_1) (fun _ h9 => h9) rfl (by decide +kernel) rfl rfl (Nat.le_of_ble_eq_true rfl) (.inl rfl) dX9_factor_74 (fun H locs hB => ?_)
      have hB : Bx B0 D _ [(w, .inr (9, [.int f2240_0, .ref bu, .int (nI ((κ w).2.2.1)), .int (nI tl), .int (nI p2235), .int er2236, .int f2240_6, .int f2240_7, .ref (κ w).2.2.2, .ref f2240_9, .ref dr, .ref f2240_11, .int (nI f2240_12), .int f2240_13, .int 4, .int f2240_15, .int f2240_16, .ref f2240_17])), (dr, .inl (cs 0, 1383, .inl f2069))] [w] _ _ := hB
      have hT : WT B0 D cs T κ _ := hT.close hB ⟨⟨0, _, rfl, ok_10 hw.1 ⟨_, _, _, _, _, _, _, _, _, _, _, _, _, _, _, _, rfl, (by omega), (by omega), (by omega), (by omega), hbT, t2240_8, t2240_9, c2240_sd, hdT, t2240_11, t2240_17⟩⟩, trivial⟩
      have hF : Fr B0 [12, 17] κ H0 _ := hF.close hB (fa_c (by simp [hw.2]) fa_n)
      have hL : OkL B0 _ := hB.2.2.2.2.2
      have hP : va_P D vwCl [(w, .inr (9, [.int f2240_0, .ref bu, .int (nI ((κ w).2.2.1)), .int (nI tl), .int (nI p2235), .int er2236, .int f2240_6, .int f2240_7, .ref (κ w).2.2.2, .ref f2240_9, .ref dr, .ref f2240_11, .int (nI f2240_12), .int f2240_13, .int 4, .int f2240_15, .int f2240_16, .ref f2240_17])), (dr, .inl (cs 0, 1383, .inl f2069))] _ := hB.1
      have hbu9 := (hm.2.2.2.2.2.2.1).kept (hB.2.2.2.1 _ hm.2.2.2.2.2.2.1.lt (by simp only [List.mem_cons, List.not_mem_nil, or_false, not_or]; exact ne_c hbT.1 hw.1 (by decide)))
      have hm : MF D cs w _ (p2235) (tl) (er2236) (4) dr bu g := ⟨⟨_, hP 0 _ rfl, rfl⟩, ⟨_, hP 0 _ rfl, rfl⟩, ⟨_, hP 0 _ rfl, rfl⟩, ⟨_, hP 0 _ rfl, rfl⟩, ⟨_, hP 0 _ rfl, rfl⟩, ⟨_, hP 0 _ rfl, rfl⟩, hbu9, (by omega), (by omega)⟩
      exact en_v hx hb hr hlocks hL (Nat.zero_le _) (Nat.zero_le _) dX9_factor_77 (⟨hT, hF, N, p2235, er2236, (by omega), (by omega), (fun e9 => (fun e9 => id ((fun e9 => absurd e9 z2230) e9)) (z2238 e9)), hm, _, hP 1 _ rfl, e2069, (by omega), (fun e9 => (fun e9 => absurd e9 z2230) (z2238 e9))⟩)
  · refine lv_if_ne (tgt := 8) hx hb dX9_factor_4 (by decide) (fun c9 => absurd (by decide) c9) (fun _ => ?_)
    exact en_v hx hb hr hlocks hL (Nat.zero_le _) (Nat.zero_le _) dX9_factor_7 (⟨hT, hF, N, pos, er, (by omega), (by omega), id, hm, f2069, hP 0 _ rfl, e2069, (by omega), (fun e9 => absurd e9 e2073)⟩)
theorem mX9_term_1 : (.fieldLink RX9 53 "OneBeatModel" "position" "I" : Cond) ∈ wsX9_term := List.mem_of_getElem? (i := 1) (by decide +kernel)
theorem iX9_term_9 : ∀ w ∈ wsX90, w ∈ wsX9_term := fun w h => List.mem_of_mem_drop (List.mem_of_mem_take ((show wsX90 = (wsX9_term.drop 112).take 18 by decide +kernel) ▸ h))
set_option maxHeartbeats 4000000 in
set_option maxRecDepth 100000 in
theorem c_X9_term_d4 {l : Launch} {D : va_G} {cs : Nat → ClassId} {B0 T : Nat} {κ : KM} {H0 : Heap} (hT : WT B0 D cs T κ H0) {w : Nat} (hw : T2 κ w 10 12) {pos tl : Nat} {er : Int32} {dr bu : Nat} {g : Nat → Int32} {N h : Nat} (hbT : T2 κ bu 23 14) (hdT : T2 κ dr 26 17) (hps : PS D cs w H0 pos tl er 4 dr bu g N h) : KC l yX9_term wsX9_term 6 130 0 0 D cs B0 H0 [.ref w] (Qv (fun H => WT B0 D cs T κ H ∧ Fr B0 [12, 17] κ H0 H ∧ ∃ N1 pos1 er1, N1 + 2 * pos ≤ N + 2 * pos1 ∧ pos ≤ pos1 ∧ (er1 = 0 → er = 0) ∧ PS D cs w H pos1 tl er1 4 dr bu g N1 (h + 1))) := by
  refine KC.of cX9_term 2 none (by decide) rfl (Nat.le_of_ble_eq_true rfl) ?_
  intro p e s m below meth c ls hx hb hr hml hown hts hlocks hin hN hE hH0 hl
  have hown : s.vm.findClass RX9 = some m.cls := hown
  have hl : lv_has ls 2 [(0, .ref w)] := hl
  have hL : OkL B0 [] := OkL.nil
  have hF : Fr B0 [12, 17] κ H0 H0 := Fr.rf
  obtain ⟨hm, f2241, hd2241, e2241, n2241, v2241⟩ := hps
  have hm8 := hm.2.2.2.2.2.2.2
  have hbd : B0 ≤ dr := (hT.o26 hdT.1).1
  have hDR := hT.dr hdT hd2241
  have hP : va_P D vwCl [(dr, .inl (cs 0, 1383, .inl f2241))] _ := va_P.cons hd2241 va_P.nil
  refine lv_aload_n hx hb dX9_term_0 rfl (lv_at hl 0 rfl) ?_
  have hps : PS D cs w _ (pos) (tl) (er) (4) dr bu g (N) (h) := ⟨hm, f2241, hP 0 _ rfl, e2241, by omega, v2241⟩
  refine cv_v (As := []) (rest := []) (b := w) ⟨hx, hb, hml, hown, hts⟩ (c_X9_factor_d4 hT (w := w) hw hbT hdT hps) (cwV 0 hts gX9_term_X9_factor rfl rfl rfl hdX9_factor_v ⟨Nat.le_of_ble_eq_true rfl, Nat.le_of_ble_eq_true rfl⟩) hN hE hL (rcv10 hN hT hw.1) rfl rfl hl.1 (Nat.le_of_ble_eq_true rfl) dX9_term_1 (Nat.zero_le _) (Nat.zero_le _) (fun H1 locs hL hqr2243 => ?_)
  obtain ⟨hT1, hF1, hqr2243⟩ := hqr2243
  have hF := hF.tr (hF1.mono (by simp))
  have hT := hT1
  obtain ⟨N2244, p2245, er2246, a2247, b2248, z2249, m2250, f2251, d2252, e2253, n2254, v2255⟩ := hqr2243
  have hm := m2250
  have hm8 := hm.2.2.2.2.2.2.2
  have hbd : B0 ≤ dr := (hT.o26 hdT.1).1
  have hDR := hT.dr hdT d2252
  have hP : va_P D vwCl [(dr, .inl (cs 0, 1383, .inl f2251))] _ := va_P.cons d2252 va_P.nil
  have hps : PS D cs w _ (p2245) (tl) (er2246) (4) dr bu g (N2244) ((h + 1)) := ⟨hm, f2251, hP 0 _ rfl, e2253, by omega, v2255⟩
  refine lp_m (α := Nat × Nat × Int32) (nL := 2) (fun a9 => 600 - a9.1) (fun a9 H9 l9 => (PS D cs w H9 a9.1 tl a9.2.2 4 dr bu g a9.2.1 (h + 1)) ∧ (a9.2.1 + 2 * pos ≤ N + 2 * a9.1) ∧ (pos ≤ a9.1) ∧ (a9.2.2 = 0 → er = 0) ∧ (WT B0 D cs T κ H9) ∧ (Fr B0 [12, 17] κ H0 H9) ∧ (OkL B0 l9)) (fun a9 => [(0, .ref w)]) ?_ (p2245, N2244, er2246) _ _ _ ⟨hps, (by show (N2244) + 2 * pos ≤ N + 2 * (p2245); omega), (by show pos ≤ (p2245); omega), (fun e9 => id (z2249 e9)), hT, hF, hL⟩ (lv_sub hl [0] rfl)
  rintro ⟨p, N1, er1⟩ H locs ls ih2257 ⟨hps, hb1, hb2, hz1, hT, hF, hL⟩ hl
  have hl : lv_has ls 2 [(0, .ref w)] := hl
  have hps : PS D cs w H p tl er1 4 dr bu g N1 (h + 1) := hps
  have hb1 : N1 + 2 * pos ≤ N + 2 * p := hb1
  have hb2 : pos ≤ p := hb2
  have hz1 : er1 = 0 → er = 0 := hz1
  obtain ⟨hm, f2258, hd2258, e2258, n2258, v2258⟩ := hps
  have hm8 := hm.2.2.2.2.2.2.2
  have hbd : B0 ≤ dr := (hT.o26 hdT.1).1
  have hDR := hT.dr hdT hd2258
  have hP : va_P D vwCl [(dr, .inl (cs 0, 1383, .inl f2258))] _ := va_P.cons hd2258 va_P.nil
  refine lv_aload_n hx hb dX9_term_4 rfl (lv_at hl 0 rfl) ?_
  refine cv_i (As := []) (rest := []) (b := w) ⟨hx, hb, hml, hown, hts⟩ (c_X9_isGood hT (w := w) hw hbT hdT hm) (cwV 0 hts gX9_term_X9_isGood rfl rfl rfl hdX9_isGood_v ⟨Nat.le_of_ble_eq_true rfl, Nat.le_of_ble_eq_true rfl⟩) hN hE hL (rcv10 hN hT hw.1) rfl rfl hl.1 (Nat.le_of_ble_eq_true rfl) dX9_term_5 (Nat.zero_le _) (Nat.zero_le _) (fun r2260 H1 locs hL hqr2260 => ?_)
  obtain ⟨h9, hqr2260⟩ := hqr2260; replace h9 := h9.symm; subst h9
  rcases hqr2260 with ⟨rfl, e2261⟩ | ⟨rfl, e2262⟩
  · refine lv_if_eq (tgt := 74) hx hb dX9_term_8 (by decide) (fun c9 => absurd c9 (by decide)) (fun _ => ?_)
    refine lv_aload_n hx hb dX9_term_11 rfl (lv_at hl 0 rfl) ?_
    refine cv_i (As := []) (rest := []) (b := w) ⟨hx, hb, hml, hown, hts⟩ (c_X9_ahead hT (w := w) hw hbT hdT hm) (cwV 0 hts gX9_term_X9_ahead rfl rfl rfl hdX9_ahead_v ⟨Nat.le_of_ble_eq_true rfl, Nat.le_of_ble_eq_true rfl⟩) hN hE hL (rcv10 hN hT hw.1) rfl rfl hl.1 (Nat.le_of_ble_eq_true rfl) dX9_term_12 (Nat.zero_le _) (Nat.zero_le _) (fun r2263 H1 locs hL hqr2263 => ?_)
    obtain ⟨hT1, hF1, hqr2263⟩ := hqr2263
    have hP : va_P D vwCl [(dr, .inl (cs 0, 1383, .inl f2258))] _ := hF1.hP (hP.sub [0] rfl) (fa_c ⟨by rw [hdT.1]; decide, by rw [hdT.2]; first | decide | (simp; done) | (simp; omega)⟩ fa_n)
    have hF := hF.tr (hF1.mono (by simp))
    have hT := hT1
    obtain ⟨p2264, h2265, m2266, n2267, s2268, rfl⟩ := hqr2263
    have hm := m2266
    have hm8 := hm.2.2.2.2.2.2.2
    refine lv_bipush (v := 42) hx hb dX9_term_15 (by decide) ?_
    refine lv_icmp_eq (tgt := 29) hx hb dX9_term_17 (by decide) (fun c2269 => ?_) (fun c2269 => ?_)
    · have hl9 := byF_c (c2269) (by decide)
      refine lv_aload_n hx hb dX9_term_29 rfl (lv_at hl 0 rfl) ?_
      refine cv_i (As := []) (rest := []) (b := w) ⟨hx, hb, hml, hown, hts⟩ (c_X9_ahead hT (w := w) hw hbT hdT hm) (cwV 0 hts gX9_term_X9_ahead rfl rfl rfl hdX9_ahead_v ⟨Nat.le_of_ble_eq_true rfl, Nat.le_of_ble_eq_true rfl⟩) hN hE hL (rcv10 hN hT hw.1) rfl rfl hl.1 (Nat.le_of_ble_eq_true rfl) dX9_term_30 (Nat.zero_le _) (Nat.zero_le _) (fun r2270 H1 locs hL hqr2270 => ?_)
      obtain ⟨hT1, hF1, hqr2270⟩ := hqr2270
      have hP : va_P D vwCl [(dr, .inl (cs 0, 1383, .inl f2258))] _ := hF1.hP (hP.sub [0] rfl) (fa_c ⟨by rw [hdT.1]; decide, by rw [hdT.2]; first | decide | (simp; done) | (simp; omega)⟩ fa_n)
      have hF := hF.tr (hF1.mono (by simp))
      have hT := hT1
      obtain ⟨p2271, h2272, m2273, n2274, s2275, rfl⟩ := hqr2270
      have hm := m2273
      have hpe := s2275 n2267
      rw [hpe] at hm
      refine tp_i (byF g tl p2264) (by rw [hpe]) ?_
      have hm8 := hm.2.2.2.2.2.2.2
      refine lv_bipush (v := 42) hx hb dX9_term_33 (by decide) ?_
      refine lv_icmp_ne (tgt := 42) hx hb dX9_term_35 (by decide) (fun c2276 => ?_) (fun c2276 => ?_)
      · refine lv_iconst (v := 0) hx hb dX9_term_42 (by decide) ?_
        refine lv_istore_n (lv' := [(1, .int 0), (0, .ref w)]) hx hb dX9_term_43 rfl hl (by decide) rfl (fun ls hl => ?_)
        refine lv_aload_n hx hb dX9_term_44 rfl (lv_at hl 1 rfl) ?_
        refine lv_dup hx hb dX9_term_45 rfl ?_
        obtain ⟨hb2277, e2277, hat2277, hk2277⟩ := hT.o10 hw.1
        obtain ⟨f2277_0, f2277_1, f2277_3, f2277_4, f2277_5, f2277_6, f2277_7, f2277_9, f2277_10, f2277_11, f2277_12, f2277_13, f2277_14, f2277_15, f2277_16, f2277_17, rfl, c2277_2, c2277_3, c2277_4, c2277_12, t2277_1, t2277_8, t2277_9, c2277_sd, t2277_10, t2277_11, t2277_17⟩ := hk2277
        obtain ⟨rfl, rfl, rfl, rfl, rfl, rfl⟩ := hm.at hat2277 c2277_3 (by omega)
        have hm8 := hm.2.2.2.2.2.2.2
        have hP : va_P D vwCl [(w, .inr (9, [.int f2277_0, .ref bu, .int (nI ((κ w).2.2.1)), .int (nI tl), .int (nI p2264), .int er1, .int f2277_6, .int f2277_7, .ref (κ w).2.2.2, .ref f2277_9, .ref dr, .ref f2277_11, .int (nI f2277_12), .int f2277_13, .int 4, .int f2277_15, .int f2277_16, .ref f2277_17])), (dr, .inl (cs 0, 1383, .inl f2258))] _ := va_P.cons hat2277 hP
        refine va_get (D := D) (ci := 9) (v := .int (nI p2264)) (C := RX9) (T := TX9) (N := 18) hx hb hts iX9_term_9 hown hN.1 hP 0 rfl rfl 4 (by decide) (hts _ mX9_term_1) (fun _ h9 => h9) rfl dX9_term_46 ?_
        refine lv_iconst (v := 1) hx hb dX9_term_49 (by decide) ?_
        refine lv_iadd hx hb dX9_term_50 ?_
        refine tp_i (nI (p2264 + 1)) (nI_add p2264 1) ?_
        have hB : Bx B0 D _ [(w, .inr (9, [.int f2277_0, .ref bu, .int (nI ((κ w).2.2.1)), .int (nI tl), .int (nI p2264), .int er1, .int f2277_6, .int f2277_7, .ref (κ w).2.2.2, .ref f2277_9, .ref dr, .ref f2277_11, .int (nI f2277_12), .int f2277_13, .int 4, .int f2277_15, .int f2277_16, .ref f2277_17])), (dr, .inl (cs 0, 1383, .inl f2258))] [] _ _ := Bx.of (fun a => (κ a).1) hL hP (fa_c hb2277 (fa_c hbd fa_n)) (by simp only [List.map_cons, List.map_nil, hw.1, hdT.1]; decide)
        refine b_put (D := D) (ci := 9) (v := .int (nI (p2264 + 1))) (ty := .int) (C := RX9) (T := TX9) (N := 18) hx hb hts iX9_term_9 tyX9 tyX9_ok nmX9 hown hN hB 0 rfl rfl 4 (by decide) (hts _ mX9_term_1) (fun _ h9 => h9) rfl (by decide +kernel) rfl rfl (Nat.le_of_ble_eq_true rfl) (.inl rfl) dX9_term_51 (fun H locs hB => ?_)
        have hB : Bx B0 D _ [(w, .inr (9, [.int f2277_0, .ref bu, .int (nI ((κ w).2.2.1)), .int (nI tl), .int (nI (p2264 + 1)), .int er1, .int f2277_6, .int f2277_7, .ref (κ w).2.2.2, .ref f2277_9, .ref dr, .ref f2277_11, .int (nI f2277_12), .int f2277_13, .int 4, .int f2277_15, .int f2277_16, .ref f2277_17])), (dr, .inl (cs 0, 1383, .inl f2258))] [w] _ _ := hB
        refine lv_aload_n hx hb dX9_term_54 rfl (lv_at hl 1 rfl) ?_
        have hT : WT B0 D cs T κ _ := hT.close hB ⟨⟨0, _, rfl, ok_10 hw.1 ⟨_, _, _, _, _, _, _, _, _, _, _, _, _, _, _, _, rfl, (by omega), (by omega), (by omega), (by omega), hbT, t2277_8, t2277_9, c2277_sd, hdT, t2277_11, t2277_17⟩⟩, trivial⟩
        have hF : Fr B0 [12, 17] κ H0 _ := hF.close hB (fa_c (by simp [hw.2]) fa_n)
        have hL : OkL B0 _ := hB.2.2.2.2.2
        have hP : va_P D vwCl [(w, .inr (9, [.int f2277_0, .ref bu, .int (nI ((κ w).2.2.1)), .int (nI tl), .int (nI (p2264 + 1)), .int er1, .int f2277_6, .int f2277_7, .ref (κ w).2.2.2, .ref f2277_9, .ref dr, .ref f2277_11, .int (nI f2277_12), .int f2277_13, .int 4, .int f2277_15, .int f2277_16, .ref f2277_17])), (dr, .inl (cs 0, 1383, .inl f2258))] _ := hB.1
        have hbu9 := (hm.2.2.2.2.2.2.1).kept (hB.2.2.2.1 _ hm.2.2.2.2.2.2.1.lt (by simp only [List.mem_cons, List.not_mem_nil, or_false, not_or]; exact ne_c hbT.1 hw.1 (by decide)))
        have hm : MF D cs w _ ((p2264 + 1)) (tl) (er1) (4) dr bu g := ⟨⟨_, hP 0 _ rfl, rfl⟩, ⟨_, hP 0 _ rfl, rfl⟩, ⟨_, hP 0 _ rfl, rfl⟩, ⟨_, hP 0 _ rfl, rfl⟩, ⟨_, hP 0 _ rfl, rfl⟩, ⟨_, hP 0 _ rfl, rfl⟩, hbu9, (by omega), (by omega)⟩
        have hps : PS D cs w _ ((p2264 + 1)) (tl) (er1) (4) dr bu g (N1) ((h + 1)) := ⟨hm, f2258, hP 1 _ rfl, e2258, by omega, v2258⟩
        refine cv_v (As := []) (rest := []) (b := w) ⟨hx, hb, hml, hown, hts⟩ (c_X9_factor_d4 hT (w := w) hw hbT hdT hps) (cwV 0 hts gX9_term_X9_factor rfl rfl rfl hdX9_factor_v ⟨Nat.le_of_ble_eq_true rfl, Nat.le_of_ble_eq_true rfl⟩) hN hE hL (rcv10 hN hT hw.1) rfl rfl hl.1 (Nat.le_of_ble_eq_true rfl) dX9_term_55 (Nat.zero_le _) (Nat.zero_le _) (fun H1 locs hL hqr2278 => ?_)
        obtain ⟨hT1, hF1, hqr2278⟩ := hqr2278
        have hF := hF.tr (hF1.mono (by simp))
        have hT := hT1
        obtain ⟨N2279, p2280, er2281, a2282, b2283, z2284, m2285, f2286, d2287, e2288, n2289, v2290⟩ := hqr2278
        have hm := m2285
        have hm8 := hm.2.2.2.2.2.2.2
        have hbd : B0 ≤ dr := (hT.o26 hdT.1).1
        have hDR := hT.dr hdT d2287
        have hP : va_P D vwCl [(dr, .inl (cs 0, 1383, .inl f2286))] _ := va_P.cons d2287 va_P.nil
        refine lv_aload_n hx hb dX9_term_58 rfl (lv_at hl 1 rfl) ?_
        refine lv_iload_n hx hb dX9_term_59 rfl (lv_at hl 0 rfl) ?_
        refine lv_if_eq (tgt := 67) hx hb dX9_term_60 (by decide) (fun _ => ?_) (fun c9 => absurd (by decide) c9)
        refine lv_iconst (v := 5) hx hb dX9_term_67 (by decide) ?_
        refine cv_v (As := [.int 5]) (rest := []) (b := w) ⟨hx, hb, hml, hown, hts⟩ (c_X9_emit hT (w := w) hw (x := 5) hbT hdT hm (hP 0 _ rfl) e2288 (fun _ => by omega)) (cwV 1 hts gX9_term_X9_emit rfl rfl rfl hdX9_emit_v ⟨Nat.le_of_ble_eq_true rfl, Nat.le_of_ble_eq_true rfl⟩) hN hE hL (rcv10 hN hT hw.1) rfl rfl hl.1 (Nat.le_of_ble_eq_true rfl) dX9_term_68 (Nat.zero_le _) (Nat.zero_le _) (fun H1 locs hL hqr2292 => ?_)
        obtain ⟨hT1, hF1, hqr2292⟩ := hqr2292
        have hF := hF.tr (hF1.mono (by simp))
        have hT := hT1
        obtain ⟨f2293, N2294, d2295, e2296, x2297, m2298⟩ := hqr2292
        have hm := m2298
        have hm8 := hm.2.2.2.2.2.2.2
        have nx2297 := x2297.n
        have ox2297 := nx2297.1
        have hbd : B0 ≤ dr := (hT.o26 hdT.1).1
        have hDR := hT.dr hdT d2295
        have hP : va_P D vwCl [(dr, .inl (cs 0, 1383, .inl f2293))] _ := va_P.cons d2295 va_P.nil
        refine lv_goto (tgt := 4) hx hb dX9_term_71 (by decide) ?_
        have hps : PS D cs w _ (p2280) (tl) (er2281) (4) dr bu g (N2294) ((h + 1)) := ⟨hm, f2293, hP 0 _ rfl, e2296, by omega, (EM.op x2297 (by decide) v2290)⟩
        exact ih2257 (p2280, N2294, er2281) _ _ _ (by show 600 - (p2280) < 600 - p; omega) ⟨hps, (by show (N2294) + 2 * pos ≤ N + 2 * (p2280); omega), (by show pos ≤ (p2280); omega), (fun e9 => hz1 (z2284 e9)), hT, hF, hL⟩ (lv_sub hl [1] rfl)
      · refine lv_iconst (v := 1) hx hb dX9_term_38 (by decide) ?_
        refine lv_goto (tgt := 43) hx hb dX9_term_39 (by decide) ?_
        refine lv_istore_n (lv' := [(1, .int 1), (0, .ref w)]) hx hb dX9_term_43 rfl hl (by decide) rfl (fun ls hl => ?_)
        refine lv_aload_n hx hb dX9_term_44 rfl (lv_at hl 1 rfl) ?_
        refine lv_dup hx hb dX9_term_45 rfl ?_
        obtain ⟨hb2300, e2300, hat2300, hk2300⟩ := hT.o10 hw.1
        obtain ⟨f2300_0, f2300_1, f2300_3, f2300_4, f2300_5, f2300_6, f2300_7, f2300_9, f2300_10, f2300_11, f2300_12, f2300_13, f2300_14, f2300_15, f2300_16, f2300_17, rfl, c2300_2, c2300_3, c2300_4, c2300_12, t2300_1, t2300_8, t2300_9, c2300_sd, t2300_10, t2300_11, t2300_17⟩ := hk2300
        obtain ⟨rfl, rfl, rfl, rfl, rfl, rfl⟩ := hm.at hat2300 c2300_3 (by omega)
        have hm8 := hm.2.2.2.2.2.2.2
        have hP : va_P D vwCl [(w, .inr (9, [.int f2300_0, .ref bu, .int (nI ((κ w).2.2.1)), .int (nI tl), .int (nI p2264), .int er1, .int f2300_6, .int f2300_7, .ref (κ w).2.2.2, .ref f2300_9, .ref dr, .ref f2300_11, .int (nI f2300_12), .int f2300_13, .int 4, .int f2300_15, .int f2300_16, .ref f2300_17])), (dr, .inl (cs 0, 1383, .inl f2258))] _ := va_P.cons hat2300 hP
        refine va_get (D := D) (ci := 9) (v := .int (nI p2264)) (C := RX9) (T := TX9) (N := 18) hx hb hts iX9_term_9 hown hN.1 hP 0 rfl rfl 4 (by decide) (hts _ mX9_term_1) (fun _ h9 => h9) rfl dX9_term_46 ?_
        refine lv_iconst (v := 1) hx hb dX9_term_49 (by decide) ?_
        refine lv_iadd hx hb dX9_term_50 ?_
        refine tp_i (nI (p2264 + 1)) (nI_add p2264 1) ?_
        have hB : Bx B0 D _ [(w, .inr (9, [.int f2300_0, .ref bu, .int (nI ((κ w).2.2.1)), .int (nI tl), .int (nI p2264), .int er1, .int f2300_6, .int f2300_7, .ref (κ w).2.2.2, .ref f2300_9, .ref dr, .ref f2300_11, .int (nI f2300_12), .int f2300_13, .int 4, .int f2300_15, .int f2300_16, .ref f2300_17])), (dr, .inl (cs 0, 1383, .inl f2258))] [] _ _ := Bx.of (fun a => (κ a).1) hL hP (fa_c hb2300 (fa_c hbd fa_n)) (by simp only [List.map_cons, List.map_nil, hw.1, hdT.1]; decide)
        refine b_put (D := D) (ci := 9) (v := .int (nI (p2264 + 1))) (ty := .int) (C := RX9) (T := TX9) (N := 18) hx hb hts iX9_term_9 tyX9 tyX9_ok nmX9 hown hN hB 0 rfl rfl 4 (by decide) (hts _ mX9_term_1) (fun _ h9 => h9) rfl (by decide +kernel) rfl rfl (Nat.le_of_ble_eq_true rfl) (.inl rfl) dX9_term_51 (fun H locs hB => ?_)
        have hB : Bx B0 D _ [(w, .inr (9, [.int f2300_0, .ref bu, .int (nI ((κ w).2.2.1)), .int (nI tl), .int (nI (p2264 + 1)), .int er1, .int f2300_6, .int f2300_7, .ref (κ w).2.2.2, .ref f2300_9, .ref dr, .ref f2300_11, .int (nI f2300_12), .int f2300_13, .int 4, .int f2300_15, .int f2300_16, .ref f2300_17])), (dr, .inl (cs 0, 1383, .inl f2258))] [w] _ _ := hB
        refine lv_aload_n hx hb dX9_term_54 rfl (lv_at hl 1 rfl) ?_
        have hT : WT B0 D cs T κ _ := hT.close hB ⟨⟨0, _, rfl, ok_10 hw.1 ⟨_, _, _, _, _, _, _, _, _, _, _, _, _, _, _, _, rfl, (by omega), (by omega), (by omega), (by omega), hbT, t2300_8, t2300_9, c2300_sd, hdT, t2300_11, t2300_17⟩⟩, trivial⟩
        have hF : Fr B0 [12, 17] κ H0 _ := hF.close hB (fa_c (by simp [hw.2]) fa_n)
        have hL : OkL B0 _ := hB.2.2.2.2.2
        have hP : va_P D vwCl [(w, .inr (9, [.int f2300_0, .ref bu, .int (nI ((κ w).2.2.1)), .int (nI tl), .int (nI (p2264 + 1)), .int er1, .int f2300_6, .int f2300_7, .ref (κ w).2.2.2, .ref f2300_9, .ref dr, .ref f2300_11, .int (nI f2300_12), .int f2300_13, .int 4, .int f2300_15, .int f2300_16, .ref f2300_17])), (dr, .inl (cs 0, 1383, .inl f2258))] _ := hB.1
        have hbu9 := (hm.2.2.2.2.2.2.1).kept (hB.2.2.2.1 _ hm.2.2.2.2.2.2.1.lt (by simp only [List.mem_cons, List.not_mem_nil, or_false, not_or]; exact ne_c hbT.1 hw.1 (by decide)))
        have hm : MF D cs w _ ((p2264 + 1)) (tl) (er1) (4) dr bu g := ⟨⟨_, hP 0 _ rfl, rfl⟩, ⟨_, hP 0 _ rfl, rfl⟩, ⟨_, hP 0 _ rfl, rfl⟩, ⟨_, hP 0 _ rfl, rfl⟩, ⟨_, hP 0 _ rfl, rfl⟩, ⟨_, hP 0 _ rfl, rfl⟩, hbu9, (by omega), (by omega)⟩
        have hps : PS D cs w _ ((p2264 + 1)) (tl) (er1) (4) dr bu g (N1) ((h + 1)) := ⟨hm, f2258, hP 1 _ rfl, e2258, by omega, v2258⟩
        refine cv_v (As := []) (rest := []) (b := w) ⟨hx, hb, hml, hown, hts⟩ (c_X9_factor_d4 hT (w := w) hw hbT hdT hps) (cwV 0 hts gX9_term_X9_factor rfl rfl rfl hdX9_factor_v ⟨Nat.le_of_ble_eq_true rfl, Nat.le_of_ble_eq_true rfl⟩) hN hE hL (rcv10 hN hT hw.1) rfl rfl hl.1 (Nat.le_of_ble_eq_true rfl) dX9_term_55 (Nat.zero_le _) (Nat.zero_le _) (fun H1 locs hL hqr2301 => ?_)
        obtain ⟨hT1, hF1, hqr2301⟩ := hqr2301
        have hF := hF.tr (hF1.mono (by simp))
        have hT := hT1
        obtain ⟨N2302, p2303, er2304, a2305, b2306, z2307, m2308, f2309, d2310, e2311, n2312, v2313⟩ := hqr2301
        have hm := m2308
        have hm8 := hm.2.2.2.2.2.2.2
        have hbd : B0 ≤ dr := (hT.o26 hdT.1).1
        have hDR := hT.dr hdT d2310
        have hP : va_P D vwCl [(dr, .inl (cs 0, 1383, .inl f2309))] _ := va_P.cons d2310 va_P.nil
        refine lv_aload_n hx hb dX9_term_58 rfl (lv_at hl 1 rfl) ?_
        refine lv_iload_n hx hb dX9_term_59 rfl (lv_at hl 0 rfl) ?_
        refine lv_if_eq (tgt := 67) hx hb dX9_term_60 (by decide) (fun c9 => absurd c9 (by decide)) (fun _ => ?_)
        refine lv_iconst (v := 4) hx hb dX9_term_63 (by decide) ?_
        refine lv_goto (tgt := 68) hx hb dX9_term_64 (by decide) ?_
        refine cv_v (As := [.int 4]) (rest := []) (b := w) ⟨hx, hb, hml, hown, hts⟩ (c_X9_emit hT (w := w) hw (x := 4) hbT hdT hm (hP 0 _ rfl) e2311 (fun _ => by omega)) (cwV 1 hts gX9_term_X9_emit rfl rfl rfl hdX9_emit_v ⟨Nat.le_of_ble_eq_true rfl, Nat.le_of_ble_eq_true rfl⟩) hN hE hL (rcv10 hN hT hw.1) rfl rfl hl.1 (Nat.le_of_ble_eq_true rfl) dX9_term_68 (Nat.zero_le _) (Nat.zero_le _) (fun H1 locs hL hqr2315 => ?_)
        obtain ⟨hT1, hF1, hqr2315⟩ := hqr2315
        have hF := hF.tr (hF1.mono (by simp))
        have hT := hT1
        obtain ⟨f2316, N2317, d2318, e2319, x2320, m2321⟩ := hqr2315
        have hm := m2321
        have hm8 := hm.2.2.2.2.2.2.2
        have nx2320 := x2320.n
        have ox2320 := nx2320.1
        have hbd : B0 ≤ dr := (hT.o26 hdT.1).1
        have hDR := hT.dr hdT d2318
        have hP : va_P D vwCl [(dr, .inl (cs 0, 1383, .inl f2316))] _ := va_P.cons d2318 va_P.nil
        refine lv_goto (tgt := 4) hx hb dX9_term_71 (by decide) ?_
        have hps : PS D cs w _ (p2303) (tl) (er2304) (4) dr bu g (N2317) ((h + 1)) := ⟨hm, f2316, hP 0 _ rfl, e2319, by omega, (EM.op x2320 (by decide) v2313)⟩
        exact ih2257 (p2303, N2317, er2304) _ _ _ (by show 600 - (p2303) < 600 - p; omega) ⟨hps, (by show (N2317) + 2 * pos ≤ N + 2 * (p2303); omega), (by show pos ≤ (p2303); omega), (fun e9 => hz1 (z2307 e9)), hT, hF, hL⟩ (lv_sub hl [1] rfl)
    · refine lv_aload_n hx hb dX9_term_20 rfl (lv_at hl 0 rfl) ?_
      refine cv_i (As := []) (rest := []) (b := w) ⟨hx, hb, hml, hown, hts⟩ (c_X9_ahead hT (w := w) hw hbT hdT hm) (cwV 0 hts gX9_term_X9_ahead rfl rfl rfl hdX9_ahead_v ⟨Nat.le_of_ble_eq_true rfl, Nat.le_of_ble_eq_true rfl⟩) hN hE hL (rcv10 hN hT hw.1) rfl rfl hl.1 (Nat.le_of_ble_eq_true rfl) dX9_term_21 (Nat.zero_le _) (Nat.zero_le _) (fun r2323 H1 locs hL hqr2323 => ?_)
      obtain ⟨hT1, hF1, hqr2323⟩ := hqr2323
      have hP : va_P D vwCl [(dr, .inl (cs 0, 1383, .inl f2258))] _ := hF1.hP (hP.sub [0] rfl) (fa_c ⟨by rw [hdT.1]; decide, by rw [hdT.2]; first | decide | (simp; done) | (simp; omega)⟩ fa_n)
      have hF := hF.tr (hF1.mono (by simp))
      have hT := hT1
      obtain ⟨p2324, h2325, m2326, n2327, s2328, rfl⟩ := hqr2323
      have hm := m2326
      have hpe := s2328 n2267
      rw [hpe] at hm
      refine tp_i (byF g tl p2264) (by rw [hpe]) ?_
      have hm8 := hm.2.2.2.2.2.2.2
      refine lv_bipush (v := 47) hx hb dX9_term_24 (by decide) ?_
      refine lv_icmp_ne (tgt := 74) hx hb dX9_term_26 (by decide) (fun c2329 => ?_) (fun c2329 => ?_)
      · have hps : PS D cs w _ (p2264) (tl) (er1) (4) dr bu g (N1) ((h + 1)) := ⟨hm, f2258, hP 0 _ rfl, e2258, by omega, v2258⟩
        exact en_v hx hb hr hlocks hL (Nat.zero_le _) (Nat.zero_le _) dX9_term_74 (⟨hT, hF, N1, p2264, er1, (by omega), (by omega), hz1, hps⟩)
      · have hl9 := byF_c (c2329) (by decide)
        refine lv_aload_n hx hb dX9_term_29 rfl (lv_at hl 0 rfl) ?_
        refine cv_i (As := []) (rest := []) (b := w) ⟨hx, hb, hml, hown, hts⟩ (c_X9_ahead hT (w := w) hw hbT hdT hm) (cwV 0 hts gX9_term_X9_ahead rfl rfl rfl hdX9_ahead_v ⟨Nat.le_of_ble_eq_true rfl, Nat.le_of_ble_eq_true rfl⟩) hN hE hL (rcv10 hN hT hw.1) rfl rfl hl.1 (Nat.le_of_ble_eq_true rfl) dX9_term_30 (Nat.zero_le _) (Nat.zero_le _) (fun r2330 H1 locs hL hqr2330 => ?_)
        obtain ⟨hT1, hF1, hqr2330⟩ := hqr2330
        have hP : va_P D vwCl [(dr, .inl (cs 0, 1383, .inl f2258))] _ := hF1.hP (hP.sub [0] rfl) (fa_c ⟨by rw [hdT.1]; decide, by rw [hdT.2]; first | decide | (simp; done) | (simp; omega)⟩ fa_n)
        have hF := hF.tr (hF1.mono (by simp))
        have hT := hT1
        obtain ⟨p2331, h2332, m2333, n2334, s2335, rfl⟩ := hqr2330
        have hm := m2333
        have hpe := s2335 n2267
        rw [hpe] at hm
        refine tp_i (byF g tl p2264) (by rw [hpe]) ?_
        have hm8 := hm.2.2.2.2.2.2.2
        refine lv_bipush (v := 42) hx hb dX9_term_33 (by decide) ?_
        refine lv_icmp_ne (tgt := 42) hx hb dX9_term_35 (by decide) (fun c2336 => ?_) (fun c2336 => ?_)
        · refine lv_iconst (v := 0) hx hb dX9_term_42 (by decide) ?_
          refine lv_istore_n (lv' := [(1, .int 0), (0, .ref w)]) hx hb dX9_term_43 rfl hl (by decide) rfl (fun ls hl => ?_)
          refine lv_aload_n hx hb dX9_term_44 rfl (lv_at hl 1 rfl) ?_
          refine lv_dup hx hb dX9_term_45 rfl ?_
          obtain ⟨hb2337, e2337, hat2337, hk2337⟩ := hT.o10 hw.1
          obtain ⟨f2337_0, f2337_1, f2337_3, f2337_4, f2337_5, f2337_6, f2337_7, f2337_9, f2337_10, f2337_11, f2337_12, f2337_13, f2337_14, f2337_15, f2337_16, f2337_17, rfl, c2337_2, c2337_3, c2337_4, c2337_12, t2337_1, t2337_8, t2337_9, c2337_sd, t2337_10, t2337_11, t2337_17⟩ := hk2337
          obtain ⟨rfl, rfl, rfl, rfl, rfl, rfl⟩ := hm.at hat2337 c2337_3 (by omega)
          have hm8 := hm.2.2.2.2.2.2.2
          have hP : va_P D vwCl [(w, .inr (9, [.int f2337_0, .ref bu, .int (nI ((κ w).2.2.1)), .int (nI tl), .int (nI p2264), .int er1, .int f2337_6, .int f2337_7, .ref (κ w).2.2.2, .ref f2337_9, .ref dr, .ref f2337_11, .int (nI f2337_12), .int f2337_13, .int 4, .int f2337_15, .int f2337_16, .ref f2337_17])), (dr, .inl (cs 0, 1383, .inl f2258))] _ := va_P.cons hat2337 hP
          refine va_get (D := D) (ci := 9) (v := .int (nI p2264)) (C := RX9) (T := TX9) (N := 18) hx hb hts iX9_term_9 hown hN.1 hP 0 rfl rfl 4 (by decide) (hts _ mX9_term_1) (fun _ h9 => h9) rfl dX9_term_46 ?_
          refine lv_iconst (v := 1) hx hb dX9_term_49 (by decide) ?_
          refine lv_iadd hx hb dX9_term_50 ?_
          refine tp_i (nI (p2264 + 1)) (nI_add p2264 1) ?_
          have hB : Bx B0 D _ [(w, .inr (9, [.int f2337_0, .ref bu, .int (nI ((κ w).2.2.1)), .int (nI tl), .int (nI p2264), .int er1, .int f2337_6, .int f2337_7, .ref (κ w).2.2.2, .ref f2337_9, .ref dr, .ref f2337_11, .int (nI f2337_12), .int f2337_13, .int 4, .int f2337_15, .int f2337_16, .ref f2337_17])), (dr, .inl (cs 0, 1383, .inl f2258))] [] _ _ := Bx.of (fun a => (κ a).1) hL hP (fa_c hb2337 (fa_c hbd fa_n)) (by simp only [List.map_cons, List.map_nil, hw.1, hdT.1]; decide)
          refine b_put (D := D) (ci := 9) (v := .int (nI (p2264 + 1))) (ty := .int) (C := RX9) (T := TX9) (N := 18) hx hb hts iX9_term_9 tyX9 tyX9_ok nmX9 hown hN hB 0 rfl rfl 4 (by decide) (hts _ mX9_term_1) (fun _ h9 => h9) rfl (by decide +kernel) rfl rfl (Nat.le_of_ble_eq_true rfl) (.inl rfl) dX9_term_51 (fun H locs hB => ?_)
          have hB : Bx B0 D _ [(w, .inr (9, [.int f2337_0, .ref bu, .int (nI ((κ w).2.2.1)), .int (nI tl), .int (nI (p2264 + 1)), .int er1, .int f2337_6, .int f2337_7, .ref (κ w).2.2.2, .ref f2337_9, .ref dr, .ref f2337_11, .int (nI f2337_12), .int f2337_13, .int 4, .int f2337_15, .int f2337_16, .ref f2337_17])), (dr, .inl (cs 0, 1383, .inl f2258))] [w] _ _ := hB
          refine lv_aload_n hx hb dX9_term_54 rfl (lv_at hl 1 rfl) ?_
          have hT : WT B0 D cs T κ _ := hT.close hB ⟨⟨0, _, rfl, ok_10 hw.1 ⟨_, _, _, _, _, _, _, _, _, _, _, _, _, _, _, _, rfl, (by omega), (by omega), (by omega), (by omega), hbT, t2337_8, t2337_9, c2337_sd, hdT, t2337_11, t2337_17⟩⟩, trivial⟩
          have hF : Fr B0 [12, 17] κ H0 _ := hF.close hB (fa_c (by simp [hw.2]) fa_n)
          have hL : OkL B0 _ := hB.2.2.2.2.2
          have hP : va_P D vwCl [(w, .inr (9, [.int f2337_0, .ref bu, .int (nI ((κ w).2.2.1)), .int (nI tl), .int (nI (p2264 + 1)), .int er1, .int f2337_6, .int f2337_7, .ref (κ w).2.2.2, .ref f2337_9, .ref dr, .ref f2337_11, .int (nI f2337_12), .int f2337_13, .int 4, .int f2337_15, .int f2337_16, .ref f2337_17])), (dr, .inl (cs 0, 1383, .inl f2258))] _ := hB.1
          have hbu9 := (hm.2.2.2.2.2.2.1).kept (hB.2.2.2.1 _ hm.2.2.2.2.2.2.1.lt (by simp only [List.mem_cons, List.not_mem_nil, or_false, not_or]; exact ne_c hbT.1 hw.1 (by decide)))
          have hm : MF D cs w _ ((p2264 + 1)) (tl) (er1) (4) dr bu g := ⟨⟨_, hP 0 _ rfl, rfl⟩, ⟨_, hP 0 _ rfl, rfl⟩, ⟨_, hP 0 _ rfl, rfl⟩, ⟨_, hP 0 _ rfl, rfl⟩, ⟨_, hP 0 _ rfl, rfl⟩, ⟨_, hP 0 _ rfl, rfl⟩, hbu9, (by omega), (by omega)⟩
          have hps : PS D cs w _ ((p2264 + 1)) (tl) (er1) (4) dr bu g (N1) ((h + 1)) := ⟨hm, f2258, hP 1 _ rfl, e2258, by omega, v2258⟩
          refine cv_v (As := []) (rest := []) (b := w) ⟨hx, hb, hml, hown, hts⟩ (c_X9_factor_d4 hT (w := w) hw hbT hdT hps) (cwV 0 hts gX9_term_X9_factor rfl rfl rfl hdX9_factor_v ⟨Nat.le_of_ble_eq_true rfl, Nat.le_of_ble_eq_true rfl⟩) hN hE hL (rcv10 hN hT hw.1) rfl rfl hl.1 (Nat.le_of_ble_eq_true rfl) dX9_term_55 (Nat.zero_le _) (Nat.zero_le _) (fun H1 locs hL hqr2338 => ?_)
          obtain ⟨hT1, hF1, hqr2338⟩ := hqr2338
          have hF := hF.tr (hF1.mono (by simp))
          have hT := hT1
          obtain ⟨N2339, p2340, er2341, a2342, b2343, z2344, m2345, f2346, d2347, e2348, n2349, v2350⟩ := hqr2338
          have hm := m2345
          have hm8 := hm.2.2.2.2.2.2.2
          have hbd : B0 ≤ dr := (hT.o26 hdT.1).1
          have hDR := hT.dr hdT d2347
          have hP : va_P D vwCl [(dr, .inl (cs 0, 1383, .inl f2346))] _ := va_P.cons d2347 va_P.nil
          refine lv_aload_n hx hb dX9_term_58 rfl (lv_at hl 1 rfl) ?_
          refine lv_iload_n hx hb dX9_term_59 rfl (lv_at hl 0 rfl) ?_
          refine lv_if_eq (tgt := 67) hx hb dX9_term_60 (by decide) (fun _ => ?_) (fun c9 => absurd (by decide) c9)
          refine lv_iconst (v := 5) hx hb dX9_term_67 (by decide) ?_
          refine cv_v (As := [.int 5]) (rest := []) (b := w) ⟨hx, hb, hml, hown, hts⟩ (c_X9_emit hT (w := w) hw (x := 5) hbT hdT hm (hP 0 _ rfl) e2348 (fun _ => by omega)) (cwV 1 hts gX9_term_X9_emit rfl rfl rfl hdX9_emit_v ⟨Nat.le_of_ble_eq_true rfl, Nat.le_of_ble_eq_true rfl⟩) hN hE hL (rcv10 hN hT hw.1) rfl rfl hl.1 (Nat.le_of_ble_eq_true rfl) dX9_term_68 (Nat.zero_le _) (Nat.zero_le _) (fun H1 locs hL hqr2352 => ?_)
          obtain ⟨hT1, hF1, hqr2352⟩ := hqr2352
          have hF := hF.tr (hF1.mono (by simp))
          have hT := hT1
          obtain ⟨f2353, N2354, d2355, e2356, x2357, m2358⟩ := hqr2352
          have hm := m2358
          have hm8 := hm.2.2.2.2.2.2.2
          have nx2357 := x2357.n
          have ox2357 := nx2357.1
          have hbd : B0 ≤ dr := (hT.o26 hdT.1).1
          have hDR := hT.dr hdT d2355
          have hP : va_P D vwCl [(dr, .inl (cs 0, 1383, .inl f2353))] _ := va_P.cons d2355 va_P.nil
          refine lv_goto (tgt := 4) hx hb dX9_term_71 (by decide) ?_
          have hps : PS D cs w _ (p2340) (tl) (er2341) (4) dr bu g (N2354) ((h + 1)) := ⟨hm, f2353, hP 0 _ rfl, e2356, by omega, (EM.op x2357 (by decide) v2350)⟩
          exact ih2257 (p2340, N2354, er2341) _ _ _ (by show 600 - (p2340) < 600 - p; omega) ⟨hps, (by show (N2354) + 2 * pos ≤ N + 2 * (p2340); omega), (by show pos ≤ (p2340); omega), (fun e9 => hz1 (z2344 e9)), hT, hF, hL⟩ (lv_sub hl [1] rfl)
        · refine lv_iconst (v := 1) hx hb dX9_term_38 (by decide) ?_
          refine lv_goto (tgt := 43) hx hb dX9_term_39 (by decide) ?_
          refine lv_istore_n (lv' := [(1, .int 1), (0, .ref w)]) hx hb dX9_term_43 rfl hl (by decide) rfl (fun ls hl => ?_)
          refine lv_aload_n hx hb dX9_term_44 rfl (lv_at hl 1 rfl) ?_
          refine lv_dup hx hb dX9_term_45 rfl ?_
          obtain ⟨hb2360, e2360, hat2360, hk2360⟩ := hT.o10 hw.1
          obtain ⟨f2360_0, f2360_1, f2360_3, f2360_4, f2360_5, f2360_6, f2360_7, f2360_9, f2360_10, f2360_11, f2360_12, f2360_13, f2360_14, f2360_15, f2360_16, f2360_17, rfl, c2360_2, c2360_3, c2360_4, c2360_12, t2360_1, t2360_8, t2360_9, c2360_sd, t2360_10, t2360_11, t2360_17⟩ := hk2360
          obtain ⟨rfl, rfl, rfl, rfl, rfl, rfl⟩ := hm.at hat2360 c2360_3 (by omega)
          have hm8 := hm.2.2.2.2.2.2.2
          have hP : va_P D vwCl [(w, .inr (9, [.int f2360_0, .ref bu, .int (nI ((κ w).2.2.1)), .int (nI tl), .int (nI p2264), .int er1, .int f2360_6, .int f2360_7, .ref (κ w).2.2.2, .ref f2360_9, .ref dr, .ref f2360_11, .int (nI f2360_12), .int f2360_13, .int 4, .int f2360_15, .int f2360_16, .ref f2360_17])), (dr, .inl (cs 0, 1383, .inl f2258))] _ := va_P.cons hat2360 hP
          refine va_get (D := D) (ci := 9) (v := .int (nI p2264)) (C := RX9) (T := TX9) (N := 18) hx hb hts iX9_term_9 hown hN.1 hP 0 rfl rfl 4 (by decide) (hts _ mX9_term_1) (fun _ h9 => h9) rfl dX9_term_46 ?_
          refine lv_iconst (v := 1) hx hb dX9_term_49 (by decide) ?_
          refine lv_iadd hx hb dX9_term_50 ?_
          refine tp_i (nI (p2264 + 1)) (nI_add p2264 1) ?_
          have hB : Bx B0 D _ [(w, .inr (9, [.int f2360_0, .ref bu, .int (nI ((κ w).2.2.1)), .int (nI tl), .int (nI p2264), .int er1, .int f2360_6, .int f2360_7, .ref (κ w).2.2.2, .ref f2360_9, .ref dr, .ref f2360_11, .int (nI f2360_12), .int f2360_13, .int 4, .int f2360_15, .int f2360_16, .ref f2360_17])), (dr, .inl (cs 0, 1383, .inl f2258))] [] _ _ := Bx.of (fun a => (κ a).1) hL hP (fa_c hb2360 (fa_c hbd fa_n)) (by simp only [List.map_cons, List.map_nil, hw.1, hdT.1]; decide)
          refine b_put (D := D) (ci := 9) (v := .int (nI (p2264 + 1))) (ty := .int) (C := RX9) (T := TX9) (N := 18) hx hb hts iX9_term_9 tyX9 tyX9_ok nmX9 hown hN hB 0 rfl rfl 4 (by decide) (hts _ mX9_term_1) (fun _ h9 => h9) rfl (by decide +kernel) rfl rfl (Nat.le_of_ble_eq_true rfl) (.inl rfl) dX9_term_51 (fun H locs hB => ?_)
          have hB : Bx B0 D _ [(w, .inr (9, [.int f2360_0, .ref bu, .int (nI ((κ w).2.2.1)), .int (nI tl), .int (nI (p2264 + 1)), .int er1, .int f2360_6, .int f2360_7, .ref (κ w).2.2.2, .ref f2360_9, .ref dr, .ref f2360_11, .int (nI f2360_12), .int f2360_13, .int 4, .int f2360_15, .int f2360_16, .ref f2360_17])), (dr, .inl (cs 0, 1383, .inl f2258))] [w] _ _ := hB
          refine lv_aload_n hx hb dX9_term_54 rfl (lv_at hl 1 rfl) ?_
          have hT : WT B0 D cs T κ _ := hT.close hB ⟨⟨0, _, rfl, ok_10 hw.1 ⟨_, _, _, _, _, _, _, _, _, _, _, _, _, _, _, _, rfl, (by omega), (by omega), (by omega), (by omega), hbT, t2360_8, t2360_9, c2360_sd, hdT, t2360_11, t2360_17⟩⟩, trivial⟩
          have hF : Fr B0 [12, 17] κ H0 _ := hF.close hB (fa_c (by simp [hw.2]) fa_n)
          have hL : OkL B0 _ := hB.2.2.2.2.2
          have hP : va_P D vwCl [(w, .inr (9, [.int f2360_0, .ref bu, .int (nI ((κ w).2.2.1)), .int (nI tl), .int (nI (p2264 + 1)), .int er1, .int f2360_6, .int f2360_7, .ref (κ w).2.2.2, .ref f2360_9, .ref dr, .ref f2360_11, .int (nI f2360_12), .int f2360_13, .int 4, .int f2360_15, .int f2360_16, .ref f2360_17])), (dr, .inl (cs 0, 1383, .inl f2258))] _ := hB.1
          have hbu9 := (hm.2.2.2.2.2.2.1).kept (hB.2.2.2.1 _ hm.2.2.2.2.2.2.1.lt (by simp only [List.mem_cons, List.not_mem_nil, or_false, not_or]; exact ne_c hbT.1 hw.1 (by decide)))
          have hm : MF D cs w _ ((p2264 + 1)) (tl) (er1) (4) dr bu g := ⟨⟨_, hP 0 _ rfl, rfl⟩, ⟨_, hP 0 _ rfl, rfl⟩, ⟨_, hP 0 _ rfl, rfl⟩, ⟨_, hP 0 _ rfl, rfl⟩, ⟨_, hP 0 _ rfl, rfl⟩, ⟨_, hP 0 _ rfl, rfl⟩, hbu9, (by omega), (by omega)⟩
          have hps : PS D cs w _ ((p2264 + 1)) (tl) (er1) (4) dr bu g (N1) ((h + 1)) := ⟨hm, f2258, hP 1 _ rfl, e2258, by omega, v2258⟩
          refine cv_v (As := []) (rest := []) (b := w) ⟨hx, hb, hml, hown, hts⟩ (c_X9_factor_d4 hT (w := w) hw hbT hdT hps) (cwV 0 hts gX9_term_X9_factor rfl rfl rfl hdX9_factor_v ⟨Nat.le_of_ble_eq_true rfl, Nat.le_of_ble_eq_true rfl⟩) hN hE hL (rcv10 hN hT hw.1) rfl rfl hl.1 (Nat.le_of_ble_eq_true rfl) dX9_term_55 (Nat.zero_le _) (Nat.zero_le _) (fun H1 locs hL hqr2361 => ?_)
          obtain ⟨hT1, hF1, hqr2361⟩ := hqr2361
          have hF := hF.tr (hF1.mono (by simp))
          have hT := hT1
          obtain ⟨N2362, p2363, er2364, a2365, b2366, z2367, m2368, f2369, d2370, e2371, n2372, v2373⟩ := hqr2361
          have hm := m2368
          have hm8 := hm.2.2.2.2.2.2.2
          have hbd : B0 ≤ dr := (hT.o26 hdT.1).1
          have hDR := hT.dr hdT d2370
          have hP : va_P D vwCl [(dr, .inl (cs 0, 1383, .inl f2369))] _ := va_P.cons d2370 va_P.nil
          refine lv_aload_n hx hb dX9_term_58 rfl (lv_at hl 1 rfl) ?_
          refine lv_iload_n hx hb dX9_term_59 rfl (lv_at hl 0 rfl) ?_
          refine lv_if_eq (tgt := 67) hx hb dX9_term_60 (by decide) (fun c9 => absurd c9 (by decide)) (fun _ => ?_)
          refine lv_iconst (v := 4) hx hb dX9_term_63 (by decide) ?_
          refine lv_goto (tgt := 68) hx hb dX9_term_64 (by decide) ?_
          refine cv_v (As := [.int 4]) (rest := []) (b := w) ⟨hx, hb, hml, hown, hts⟩ (c_X9_emit hT (w := w) hw (x := 4) hbT hdT hm (hP 0 _ rfl) e2371 (fun _ => by omega)) (cwV 1 hts gX9_term_X9_emit rfl rfl rfl hdX9_emit_v ⟨Nat.le_of_ble_eq_true rfl, Nat.le_of_ble_eq_true rfl⟩) hN hE hL (rcv10 hN hT hw.1) rfl rfl hl.1 (Nat.le_of_ble_eq_true rfl) dX9_term_68 (Nat.zero_le _) (Nat.zero_le _) (fun H1 locs hL hqr2375 => ?_)
          obtain ⟨hT1, hF1, hqr2375⟩ := hqr2375
          have hF := hF.tr (hF1.mono (by simp))
          have hT := hT1
          obtain ⟨f2376, N2377, d2378, e2379, x2380, m2381⟩ := hqr2375
          have hm := m2381
          have hm8 := hm.2.2.2.2.2.2.2
          have nx2380 := x2380.n
          have ox2380 := nx2380.1
          have hbd : B0 ≤ dr := (hT.o26 hdT.1).1
          have hDR := hT.dr hdT d2378
          have hP : va_P D vwCl [(dr, .inl (cs 0, 1383, .inl f2376))] _ := va_P.cons d2378 va_P.nil
          refine lv_goto (tgt := 4) hx hb dX9_term_71 (by decide) ?_
          have hps : PS D cs w _ (p2363) (tl) (er2364) (4) dr bu g (N2377) ((h + 1)) := ⟨hm, f2376, hP 0 _ rfl, e2379, by omega, (EM.op x2380 (by decide) v2373)⟩
          exact ih2257 (p2363, N2377, er2364) _ _ _ (by show 600 - (p2363) < 600 - p; omega) ⟨hps, (by show (N2377) + 2 * pos ≤ N + 2 * (p2363); omega), (by show pos ≤ (p2363); omega), (fun e9 => hz1 (z2367 e9)), hT, hF, hL⟩ (lv_sub hl [1] rfl)
  · refine lv_if_eq (tgt := 74) hx hb dX9_term_8 (by decide) (fun _ => ?_) (fun c9 => absurd (by decide) c9)
    have hps : PS D cs w _ (p) (tl) (er1) (4) dr bu g (N1) ((h + 1)) := ⟨hm, f2258, hP 0 _ rfl, e2258, by omega, v2258⟩
    exact en_v hx hb hr hlocks hL (Nat.zero_le _) (Nat.zero_le _) dX9_term_74 (⟨hT, hF, N1, p, er1, (by omega), (by omega), hz1, hps⟩)
theorem mX9_readSum_1 : (.fieldLink RX9 53 "OneBeatModel" "position" "I" : Cond) ∈ wsX9_readSum := List.mem_of_getElem? (i := 1) (by decide +kernel)
theorem iX9_readSum_9 : ∀ w ∈ wsX90, w ∈ wsX9_readSum := fun w h => List.mem_of_mem_drop (List.mem_of_mem_take ((show wsX90 = (wsX9_readSum.drop 112).take 18 by decide +kernel) ▸ h))
set_option maxHeartbeats 4000000 in
set_option maxRecDepth 100000 in
theorem c_X9_readSum_d4 {l : Launch} {D : va_G} {cs : Nat → ClassId} {B0 T : Nat} {κ : KM} {H0 : Heap} (hT : WT B0 D cs T κ H0) {w : Nat} (hw : T2 κ w 10 12) {pos tl : Nat} {er : Int32} {dr bu : Nat} {g : Nat → Int32} {N h : Nat} (hbT : T2 κ bu 23 14) (hdT : T2 κ dr 26 17) (hps : PS D cs w H0 pos tl er 4 dr bu g N h) : KC l yX9_readSum wsX9_readSum 7 151 0 0 D cs B0 H0 [.ref w] (Qv (fun H => WT B0 D cs T κ H ∧ Fr B0 [12, 17] κ H0 H ∧ ∃ N1 pos1 er1, N1 + 2 * pos ≤ N + 2 * pos1 ∧ pos ≤ pos1 ∧ (er1 = 0 → er = 0) ∧ PS D cs w H pos1 tl er1 4 dr bu g N1 (h + 1))) := by
  refine KC.of cX9_readSum 2 none (by decide) rfl (Nat.le_of_ble_eq_true rfl) ?_
  intro p e s m below meth c ls hx hb hr hml hown hts hlocks hin hN hE hH0 hl
  have hown : s.vm.findClass RX9 = some m.cls := hown
  have hl : lv_has ls 2 [(0, .ref w)] := hl
  have hL : OkL B0 [] := OkL.nil
  have hF : Fr B0 [12, 17] κ H0 H0 := Fr.rf
  obtain ⟨hm, f2383, hd2383, e2383, n2383, v2383⟩ := hps
  have hm8 := hm.2.2.2.2.2.2.2
  have hbd : B0 ≤ dr := (hT.o26 hdT.1).1
  have hDR := hT.dr hdT hd2383
  have hP : va_P D vwCl [(dr, .inl (cs 0, 1383, .inl f2383))] _ := va_P.cons hd2383 va_P.nil
  refine lv_aload_n hx hb dX9_readSum_0 rfl (lv_at hl 0 rfl) ?_
  have hps : PS D cs w _ (pos) (tl) (er) (4) dr bu g (N) (h) := ⟨hm, f2383, hP 0 _ rfl, e2383, by omega, v2383⟩
  refine cv_v (As := []) (rest := []) (b := w) ⟨hx, hb, hml, hown, hts⟩ (c_X9_term_d4 hT (w := w) hw hbT hdT hps) (cwV 0 hts gX9_readSum_X9_term rfl rfl rfl hdX9_term_v ⟨Nat.le_of_ble_eq_true rfl, Nat.le_of_ble_eq_true rfl⟩) hN hE hL (rcv10 hN hT hw.1) rfl rfl hl.1 (Nat.le_of_ble_eq_true rfl) dX9_readSum_1 (Nat.zero_le _) (Nat.zero_le _) (fun H1 locs hL hqr2385 => ?_)
  obtain ⟨hT1, hF1, hqr2385⟩ := hqr2385
  have hF := hF.tr (hF1.mono (by simp))
  have hT := hT1
  obtain ⟨N2386, p2387, er2388, a2389, b2390, z2391, m2392, f2393, d2394, e2395, n2396, v2397⟩ := hqr2385
  have hm := m2392
  have hm8 := hm.2.2.2.2.2.2.2
  have hbd : B0 ≤ dr := (hT.o26 hdT.1).1
  have hDR := hT.dr hdT d2394
  have hP : va_P D vwCl [(dr, .inl (cs 0, 1383, .inl f2393))] _ := va_P.cons d2394 va_P.nil
  have hps : PS D cs w _ (p2387) (tl) (er2388) (4) dr bu g (N2386) ((h + 1)) := ⟨hm, f2393, hP 0 _ rfl, e2395, by omega, v2397⟩
  refine lp_m (α := Nat × Nat × Int32) (nL := 2) (fun a9 => 600 - a9.1) (fun a9 H9 l9 => (PS D cs w H9 a9.1 tl a9.2.2 4 dr bu g a9.2.1 (h + 1)) ∧ (a9.2.1 + 2 * pos ≤ N + 2 * a9.1) ∧ (pos ≤ a9.1) ∧ (a9.2.2 = 0 → er = 0) ∧ (WT B0 D cs T κ H9) ∧ (Fr B0 [12, 17] κ H0 H9) ∧ (OkL B0 l9)) (fun a9 => [(0, .ref w)]) ?_ (p2387, N2386, er2388) _ _ _ ⟨hps, (by show (N2386) + 2 * pos ≤ N + 2 * (p2387); omega), (by show pos ≤ (p2387); omega), (fun e9 => id (z2391 e9)), hT, hF, hL⟩ (lv_sub hl [0] rfl)
  rintro ⟨p, N1, er1⟩ H locs ls ih2399 ⟨hps, hb1, hb2, hz1, hT, hF, hL⟩ hl
  have hl : lv_has ls 2 [(0, .ref w)] := hl
  have hps : PS D cs w H p tl er1 4 dr bu g N1 (h + 1) := hps
  have hb1 : N1 + 2 * pos ≤ N + 2 * p := hb1
  have hb2 : pos ≤ p := hb2
  have hz1 : er1 = 0 → er = 0 := hz1
  obtain ⟨hm, f2400, hd2400, e2400, n2400, v2400⟩ := hps
  have hm8 := hm.2.2.2.2.2.2.2
  have hbd : B0 ≤ dr := (hT.o26 hdT.1).1
  have hDR := hT.dr hdT hd2400
  have hP : va_P D vwCl [(dr, .inl (cs 0, 1383, .inl f2400))] _ := va_P.cons hd2400 va_P.nil
  refine lv_aload_n hx hb dX9_readSum_4 rfl (lv_at hl 0 rfl) ?_
  refine cv_i (As := []) (rest := []) (b := w) ⟨hx, hb, hml, hown, hts⟩ (c_X9_isGood hT (w := w) hw hbT hdT hm) (cwV 0 hts gX9_readSum_X9_isGood rfl rfl rfl hdX9_isGood_v ⟨Nat.le_of_ble_eq_true rfl, Nat.le_of_ble_eq_true rfl⟩) hN hE hL (rcv10 hN hT hw.1) rfl rfl hl.1 (Nat.le_of_ble_eq_true rfl) dX9_readSum_5 (Nat.zero_le _) (Nat.zero_le _) (fun r2402 H1 locs hL hqr2402 => ?_)
  obtain ⟨h9, hqr2402⟩ := hqr2402; replace h9 := h9.symm; subst h9
  rcases hqr2402 with ⟨rfl, e2403⟩ | ⟨rfl, e2404⟩
  · refine lv_if_eq (tgt := 74) hx hb dX9_readSum_8 (by decide) (fun c9 => absurd c9 (by decide)) (fun _ => ?_)
    refine lv_aload_n hx hb dX9_readSum_11 rfl (lv_at hl 0 rfl) ?_
    refine cv_i (As := []) (rest := []) (b := w) ⟨hx, hb, hml, hown, hts⟩ (c_X9_ahead hT (w := w) hw hbT hdT hm) (cwV 0 hts gX9_readSum_X9_ahead rfl rfl rfl hdX9_ahead_v ⟨Nat.le_of_ble_eq_true rfl, Nat.le_of_ble_eq_true rfl⟩) hN hE hL (rcv10 hN hT hw.1) rfl rfl hl.1 (Nat.le_of_ble_eq_true rfl) dX9_readSum_12 (Nat.zero_le _) (Nat.zero_le _) (fun r2405 H1 locs hL hqr2405 => ?_)
    obtain ⟨hT1, hF1, hqr2405⟩ := hqr2405
    have hP : va_P D vwCl [(dr, .inl (cs 0, 1383, .inl f2400))] _ := hF1.hP (hP.sub [0] rfl) (fa_c ⟨by rw [hdT.1]; decide, by rw [hdT.2]; first | decide | (simp; done) | (simp; omega)⟩ fa_n)
    have hF := hF.tr (hF1.mono (by simp))
    have hT := hT1
    obtain ⟨p2406, h2407, m2408, n2409, s2410, rfl⟩ := hqr2405
    have hm := m2408
    have hm8 := hm.2.2.2.2.2.2.2
    refine lv_bipush (v := 43) hx hb dX9_readSum_15 (by decide) ?_
    refine lv_icmp_eq (tgt := 29) hx hb dX9_readSum_17 (by decide) (fun c2411 => ?_) (fun c2411 => ?_)
    · have hl9 := byF_c (c2411) (by decide)
      refine lv_aload_n hx hb dX9_readSum_29 rfl (lv_at hl 0 rfl) ?_
      refine cv_i (As := []) (rest := []) (b := w) ⟨hx, hb, hml, hown, hts⟩ (c_X9_ahead hT (w := w) hw hbT hdT hm) (cwV 0 hts gX9_readSum_X9_ahead rfl rfl rfl hdX9_ahead_v ⟨Nat.le_of_ble_eq_true rfl, Nat.le_of_ble_eq_true rfl⟩) hN hE hL (rcv10 hN hT hw.1) rfl rfl hl.1 (Nat.le_of_ble_eq_true rfl) dX9_readSum_30 (Nat.zero_le _) (Nat.zero_le _) (fun r2412 H1 locs hL hqr2412 => ?_)
      obtain ⟨hT1, hF1, hqr2412⟩ := hqr2412
      have hP : va_P D vwCl [(dr, .inl (cs 0, 1383, .inl f2400))] _ := hF1.hP (hP.sub [0] rfl) (fa_c ⟨by rw [hdT.1]; decide, by rw [hdT.2]; first | decide | (simp; done) | (simp; omega)⟩ fa_n)
      have hF := hF.tr (hF1.mono (by simp))
      have hT := hT1
      obtain ⟨p2413, h2414, m2415, n2416, s2417, rfl⟩ := hqr2412
      have hm := m2415
      have hpe := s2417 n2409
      rw [hpe] at hm
      refine tp_i (byF g tl p2406) (by rw [hpe]) ?_
      have hm8 := hm.2.2.2.2.2.2.2
      refine lv_bipush (v := 43) hx hb dX9_readSum_33 (by decide) ?_
      refine lv_icmp_ne (tgt := 42) hx hb dX9_readSum_35 (by decide) (fun c2418 => ?_) (fun c2418 => ?_)
      · refine lv_iconst (v := 0) hx hb dX9_readSum_42 (by decide) ?_
        refine lv_istore_n (lv' := [(1, .int 0), (0, .ref w)]) hx hb dX9_readSum_43 rfl hl (by decide) rfl (fun ls hl => ?_)
        refine lv_aload_n hx hb dX9_readSum_44 rfl (lv_at hl 1 rfl) ?_
        refine lv_dup hx hb dX9_readSum_45 rfl ?_
        obtain ⟨hb2419, e2419, hat2419, hk2419⟩ := hT.o10 hw.1
        obtain ⟨f2419_0, f2419_1, f2419_3, f2419_4, f2419_5, f2419_6, f2419_7, f2419_9, f2419_10, f2419_11, f2419_12, f2419_13, f2419_14, f2419_15, f2419_16, f2419_17, rfl, c2419_2, c2419_3, c2419_4, c2419_12, t2419_1, t2419_8, t2419_9, c2419_sd, t2419_10, t2419_11, t2419_17⟩ := hk2419
        obtain ⟨rfl, rfl, rfl, rfl, rfl, rfl⟩ := hm.at hat2419 c2419_3 (by omega)
        have hm8 := hm.2.2.2.2.2.2.2
        have hP : va_P D vwCl [(w, .inr (9, [.int f2419_0, .ref bu, .int (nI ((κ w).2.2.1)), .int (nI tl), .int (nI p2406), .int er1, .int f2419_6, .int f2419_7, .ref (κ w).2.2.2, .ref f2419_9, .ref dr, .ref f2419_11, .int (nI f2419_12), .int f2419_13, .int 4, .int f2419_15, .int f2419_16, .ref f2419_17])), (dr, .inl (cs 0, 1383, .inl f2400))] _ := va_P.cons hat2419 hP
        refine va_get (D := D) (ci := 9) (v := .int (nI p2406)) (C := RX9) (T := TX9) (N := 18) hx hb hts iX9_readSum_9 hown hN.1 hP 0 rfl rfl 4 (by decide) (hts _ mX9_readSum_1) (fun _ h9 => h9) rfl dX9_readSum_46 ?_
        refine lv_iconst (v := 1) hx hb dX9_readSum_49 (by decide) ?_
        refine lv_iadd hx hb dX9_readSum_50 ?_
        refine tp_i (nI (p2406 + 1)) (nI_add p2406 1) ?_
        have hB : Bx B0 D _ [(w, .inr (9, [.int f2419_0, .ref bu, .int (nI ((κ w).2.2.1)), .int (nI tl), .int (nI p2406), .int er1, .int f2419_6, .int f2419_7, .ref (κ w).2.2.2, .ref f2419_9, .ref dr, .ref f2419_11, .int (nI f2419_12), .int f2419_13, .int 4, .int f2419_15, .int f2419_16, .ref f2419_17])), (dr, .inl (cs 0, 1383, .inl f2400))] [] _ _ := Bx.of (fun a => (κ a).1) hL hP (fa_c hb2419 (fa_c hbd fa_n)) (by simp only [List.map_cons, List.map_nil, hw.1, hdT.1]; decide)
        refine b_put (D := D) (ci := 9) (v := .int (nI (p2406 + 1))) (ty := .int) (C := RX9) (T := TX9) (N := 18) hx hb hts iX9_readSum_9 tyX9 tyX9_ok nmX9 hown hN hB 0 rfl rfl 4 (by decide) (hts _ mX9_readSum_1) (fun _ h9 => h9) rfl (by decide +kernel) rfl rfl (Nat.le_of_ble_eq_true rfl) (.inl rfl) dX9_readSum_51 (fun H locs hB => ?_)
        have hB : Bx B0 D _ [(w, .inr (9, [.int f2419_0, .ref bu, .int (nI ((κ w).2.2.1)), .int (nI tl), .int (nI (p2406 + 1)), .int er1, .int f2419_6, .int f2419_7, .ref (κ w).2.2.2, .ref f2419_9, .ref dr, .ref f2419_11, .int (nI f2419_12), .int f2419_13, .int 4, .int f2419_15, .int f2419_16, .ref f2419_17])), (dr, .inl (cs 0, 1383, .inl f2400))] [w] _ _ := hB
        refine lv_aload_n hx hb dX9_readSum_54 rfl (lv_at hl 1 rfl) ?_
        have hT : WT B0 D cs T κ _ := hT.close hB ⟨⟨0, _, rfl, ok_10 hw.1 ⟨_, _, _, _, _, _, _, _, _, _, _, _, _, _, _, _, rfl, (by omega), (by omega), (by omega), (by omega), hbT, t2419_8, t2419_9, c2419_sd, hdT, t2419_11, t2419_17⟩⟩, trivial⟩
        have hF : Fr B0 [12, 17] κ H0 _ := hF.close hB (fa_c (by simp [hw.2]) fa_n)
        have hL : OkL B0 _ := hB.2.2.2.2.2
        have hP : va_P D vwCl [(w, .inr (9, [.int f2419_0, .ref bu, .int (nI ((κ w).2.2.1)), .int (nI tl), .int (nI (p2406 + 1)), .int er1, .int f2419_6, .int f2419_7, .ref (κ w).2.2.2, .ref f2419_9, .ref dr, .ref f2419_11, .int (nI f2419_12), .int f2419_13, .int 4, .int f2419_15, .int f2419_16, .ref f2419_17])), (dr, .inl (cs 0, 1383, .inl f2400))] _ := hB.1
        have hbu9 := (hm.2.2.2.2.2.2.1).kept (hB.2.2.2.1 _ hm.2.2.2.2.2.2.1.lt (by simp only [List.mem_cons, List.not_mem_nil, or_false, not_or]; exact ne_c hbT.1 hw.1 (by decide)))
        have hm : MF D cs w _ ((p2406 + 1)) (tl) (er1) (4) dr bu g := ⟨⟨_, hP 0 _ rfl, rfl⟩, ⟨_, hP 0 _ rfl, rfl⟩, ⟨_, hP 0 _ rfl, rfl⟩, ⟨_, hP 0 _ rfl, rfl⟩, ⟨_, hP 0 _ rfl, rfl⟩, ⟨_, hP 0 _ rfl, rfl⟩, hbu9, (by omega), (by omega)⟩
        have hps : PS D cs w _ ((p2406 + 1)) (tl) (er1) (4) dr bu g (N1) ((h + 1)) := ⟨hm, f2400, hP 1 _ rfl, e2400, by omega, v2400⟩
        refine cv_v (As := []) (rest := []) (b := w) ⟨hx, hb, hml, hown, hts⟩ (c_X9_term_d4 hT (w := w) hw hbT hdT hps) (cwV 0 hts gX9_readSum_X9_term rfl rfl rfl hdX9_term_v ⟨Nat.le_of_ble_eq_true rfl, Nat.le_of_ble_eq_true rfl⟩) hN hE hL (rcv10 hN hT hw.1) rfl rfl hl.1 (Nat.le_of_ble_eq_true rfl) dX9_readSum_55 (Nat.zero_le _) (Nat.zero_le _) (fun H1 locs hL hqr2420 => ?_)
        obtain ⟨hT1, hF1, hqr2420⟩ := hqr2420
        have hF := hF.tr (hF1.mono (by simp))
        have hT := hT1
        obtain ⟨N2421, p2422, er2423, a2424, b2425, z2426, m2427, f2428, d2429, e2430, n2431, v2432⟩ := hqr2420
        have hm := m2427
        have hm8 := hm.2.2.2.2.2.2.2
        have hbd : B0 ≤ dr := (hT.o26 hdT.1).1
        have hDR := hT.dr hdT d2429
        have hP : va_P D vwCl [(dr, .inl (cs 0, 1383, .inl f2428))] _ := va_P.cons d2429 va_P.nil
        refine lv_aload_n hx hb dX9_readSum_58 rfl (lv_at hl 1 rfl) ?_
        refine lv_iload_n hx hb dX9_readSum_59 rfl (lv_at hl 0 rfl) ?_
        refine lv_if_eq (tgt := 67) hx hb dX9_readSum_60 (by decide) (fun _ => ?_) (fun c9 => absurd (by decide) c9)
        refine lv_iconst (v := 3) hx hb dX9_readSum_67 (by decide) ?_
        refine cv_v (As := [.int 3]) (rest := []) (b := w) ⟨hx, hb, hml, hown, hts⟩ (c_X9_emit hT (w := w) hw (x := 3) hbT hdT hm (hP 0 _ rfl) e2430 (fun _ => by omega)) (cwV 1 hts gX9_readSum_X9_emit rfl rfl rfl hdX9_emit_v ⟨Nat.le_of_ble_eq_true rfl, Nat.le_of_ble_eq_true rfl⟩) hN hE hL (rcv10 hN hT hw.1) rfl rfl hl.1 (Nat.le_of_ble_eq_true rfl) dX9_readSum_68 (Nat.zero_le _) (Nat.zero_le _) (fun H1 locs hL hqr2434 => ?_)
        obtain ⟨hT1, hF1, hqr2434⟩ := hqr2434
        have hF := hF.tr (hF1.mono (by simp))
        have hT := hT1
        obtain ⟨f2435, N2436, d2437, e2438, x2439, m2440⟩ := hqr2434
        have hm := m2440
        have hm8 := hm.2.2.2.2.2.2.2
        have nx2439 := x2439.n
        have ox2439 := nx2439.1
        have hbd : B0 ≤ dr := (hT.o26 hdT.1).1
        have hDR := hT.dr hdT d2437
        have hP : va_P D vwCl [(dr, .inl (cs 0, 1383, .inl f2435))] _ := va_P.cons d2437 va_P.nil
        refine lv_goto (tgt := 4) hx hb dX9_readSum_71 (by decide) ?_
        have hps : PS D cs w _ (p2422) (tl) (er2423) (4) dr bu g (N2436) ((h + 1)) := ⟨hm, f2435, hP 0 _ rfl, e2438, by omega, (EM.op x2439 (by decide) v2432)⟩
        exact ih2399 (p2422, N2436, er2423) _ _ _ (by show 600 - (p2422) < 600 - p; omega) ⟨hps, (by show (N2436) + 2 * pos ≤ N + 2 * (p2422); omega), (by show pos ≤ (p2422); omega), (fun e9 => hz1 (z2426 e9)), hT, hF, hL⟩ (lv_sub hl [1] rfl)
      · refine lv_iconst (v := 1) hx hb dX9_readSum_38 (by decide) ?_
        refine lv_goto (tgt := 43) hx hb dX9_readSum_39 (by decide) ?_
        refine lv_istore_n (lv' := [(1, .int 1), (0, .ref w)]) hx hb dX9_readSum_43 rfl hl (by decide) rfl (fun ls hl => ?_)
        refine lv_aload_n hx hb dX9_readSum_44 rfl (lv_at hl 1 rfl) ?_
        refine lv_dup hx hb dX9_readSum_45 rfl ?_
        obtain ⟨hb2442, e2442, hat2442, hk2442⟩ := hT.o10 hw.1
        obtain ⟨f2442_0, f2442_1, f2442_3, f2442_4, f2442_5, f2442_6, f2442_7, f2442_9, f2442_10, f2442_11, f2442_12, f2442_13, f2442_14, f2442_15, f2442_16, f2442_17, rfl, c2442_2, c2442_3, c2442_4, c2442_12, t2442_1, t2442_8, t2442_9, c2442_sd, t2442_10, t2442_11, t2442_17⟩ := hk2442
        obtain ⟨rfl, rfl, rfl, rfl, rfl, rfl⟩ := hm.at hat2442 c2442_3 (by omega)
        have hm8 := hm.2.2.2.2.2.2.2
        have hP : va_P D vwCl [(w, .inr (9, [.int f2442_0, .ref bu, .int (nI ((κ w).2.2.1)), .int (nI tl), .int (nI p2406), .int er1, .int f2442_6, .int f2442_7, .ref (κ w).2.2.2, .ref f2442_9, .ref dr, .ref f2442_11, .int (nI f2442_12), .int f2442_13, .int 4, .int f2442_15, .int f2442_16, .ref f2442_17])), (dr, .inl (cs 0, 1383, .inl f2400))] _ := va_P.cons hat2442 hP
        refine va_get (D := D) (ci := 9) (v := .int (nI p2406)) (C := RX9) (T := TX9) (N := 18) hx hb hts iX9_readSum_9 hown hN.1 hP 0 rfl rfl 4 (by decide) (hts _ mX9_readSum_1) (fun _ h9 => h9) rfl dX9_readSum_46 ?_
        refine lv_iconst (v := 1) hx hb dX9_readSum_49 (by decide) ?_
        refine lv_iadd hx hb dX9_readSum_50 ?_
        refine tp_i (nI (p2406 + 1)) (nI_add p2406 1) ?_
        have hB : Bx B0 D _ [(w, .inr (9, [.int f2442_0, .ref bu, .int (nI ((κ w).2.2.1)), .int (nI tl), .int (nI p2406), .int er1, .int f2442_6, .int f2442_7, .ref (κ w).2.2.2, .ref f2442_9, .ref dr, .ref f2442_11, .int (nI f2442_12), .int f2442_13, .int 4, .int f2442_15, .int f2442_16, .ref f2442_17])), (dr, .inl (cs 0, 1383, .inl f2400))] [] _ _ := Bx.of (fun a => (κ a).1) hL hP (fa_c hb2442 (fa_c hbd fa_n)) (by simp only [List.map_cons, List.map_nil, hw.1, hdT.1]; decide)
        refine b_put (D := D) (ci := 9) (v := .int (nI (p2406 + 1))) (ty := .int) (C := RX9) (T := TX9) (N := 18) hx hb hts iX9_readSum_9 tyX9 tyX9_ok nmX9 hown hN hB 0 rfl rfl 4 (by decide) (hts _ mX9_readSum_1) (fun _ h9 => h9) rfl (by decide +kernel) rfl rfl (Nat.le_of_ble_eq_true rfl) (.inl rfl) dX9_readSum_51 (fun H locs hB => ?_)
        have hB : Bx B0 D _ [(w, .inr (9, [.int f2442_0, .ref bu, .int (nI ((κ w).2.2.1)), .int (nI tl), .int (nI (p2406 + 1)), .int er1, .int f2442_6, .int f2442_7, .ref (κ w).2.2.2, .ref f2442_9, .ref dr, .ref f2442_11, .int (nI f2442_12), .int f2442_13, .int 4, .int f2442_15, .int f2442_16, .ref f2442_17])), (dr, .inl (cs 0, 1383, .inl f2400))] [w] _ _ := hB
        refine lv_aload_n hx hb dX9_readSum_54 rfl (lv_at hl 1 rfl) ?_
        have hT : WT B0 D cs T κ _ := hT.close hB ⟨⟨0, _, rfl, ok_10 hw.1 ⟨_, _, _, _, _, _, _, _, _, _, _, _, _, _, _, _, rfl, (by omega), (by omega), (by omega), (by omega), hbT, t2442_8, t2442_9, c2442_sd, hdT, t2442_11, t2442_17⟩⟩, trivial⟩
        have hF : Fr B0 [12, 17] κ H0 _ := hF.close hB (fa_c (by simp [hw.2]) fa_n)
        have hL : OkL B0 _ := hB.2.2.2.2.2
        have hP : va_P D vwCl [(w, .inr (9, [.int f2442_0, .ref bu, .int (nI ((κ w).2.2.1)), .int (nI tl), .int (nI (p2406 + 1)), .int er1, .int f2442_6, .int f2442_7, .ref (κ w).2.2.2, .ref f2442_9, .ref dr, .ref f2442_11, .int (nI f2442_12), .int f2442_13, .int 4, .int f2442_15, .int f2442_16, .ref f2442_17])), (dr, .inl (cs 0, 1383, .inl f2400))] _ := hB.1
        have hbu9 := (hm.2.2.2.2.2.2.1).kept (hB.2.2.2.1 _ hm.2.2.2.2.2.2.1.lt (by simp only [List.mem_cons, List.not_mem_nil, or_false, not_or]; exact ne_c hbT.1 hw.1 (by decide)))
        have hm : MF D cs w _ ((p2406 + 1)) (tl) (er1) (4) dr bu g := ⟨⟨_, hP 0 _ rfl, rfl⟩, ⟨_, hP 0 _ rfl, rfl⟩, ⟨_, hP 0 _ rfl, rfl⟩, ⟨_, hP 0 _ rfl, rfl⟩, ⟨_, hP 0 _ rfl, rfl⟩, ⟨_, hP 0 _ rfl, rfl⟩, hbu9, (by omega), (by omega)⟩
        have hps : PS D cs w _ ((p2406 + 1)) (tl) (er1) (4) dr bu g (N1) ((h + 1)) := ⟨hm, f2400, hP 1 _ rfl, e2400, by omega, v2400⟩
        refine cv_v (As := []) (rest := []) (b := w) ⟨hx, hb, hml, hown, hts⟩ (c_X9_term_d4 hT (w := w) hw hbT hdT hps) (cwV 0 hts gX9_readSum_X9_term rfl rfl rfl hdX9_term_v ⟨Nat.le_of_ble_eq_true rfl, Nat.le_of_ble_eq_true rfl⟩) hN hE hL (rcv10 hN hT hw.1) rfl rfl hl.1 (Nat.le_of_ble_eq_true rfl) dX9_readSum_55 (Nat.zero_le _) (Nat.zero_le _) (fun H1 locs hL hqr2443 => ?_)
        obtain ⟨hT1, hF1, hqr2443⟩ := hqr2443
        have hF := hF.tr (hF1.mono (by simp))
        have hT := hT1
        obtain ⟨N2444, p2445, er2446, a2447, b2448, z2449, m2450, f2451, d2452, e2453, n2454, v2455⟩ := hqr2443
        have hm := m2450
        have hm8 := hm.2.2.2.2.2.2.2
        have hbd : B0 ≤ dr := (hT.o26 hdT.1).1
        have hDR := hT.dr hdT d2452
        have hP : va_P D vwCl [(dr, .inl (cs 0, 1383, .inl f2451))] _ := va_P.cons d2452 va_P.nil
        refine lv_aload_n hx hb dX9_readSum_58 rfl (lv_at hl 1 rfl) ?_
        refine lv_iload_n hx hb dX9_readSum_59 rfl (lv_at hl 0 rfl) ?_
        refine lv_if_eq (tgt := 67) hx hb dX9_readSum_60 (by decide) (fun c9 => absurd c9 (by decide)) (fun _ => ?_)
        refine lv_iconst (v := 2) hx hb dX9_readSum_63 (by decide) ?_
        refine lv_goto (tgt := 68) hx hb dX9_readSum_64 (by decide) ?_
        refine cv_v (As := [.int 2]) (rest := []) (b := w) ⟨hx, hb, hml, hown, hts⟩ (c_X9_emit hT (w := w) hw (x := 2) hbT hdT hm (hP 0 _ rfl) e2453 (fun _ => by omega)) (cwV 1 hts gX9_readSum_X9_emit rfl rfl rfl hdX9_emit_v ⟨Nat.le_of_ble_eq_true rfl, Nat.le_of_ble_eq_true rfl⟩) hN hE hL (rcv10 hN hT hw.1) rfl rfl hl.1 (Nat.le_of_ble_eq_true rfl) dX9_readSum_68 (Nat.zero_le _) (Nat.zero_le _) (fun H1 locs hL hqr2457 => ?_)
        obtain ⟨hT1, hF1, hqr2457⟩ := hqr2457
        have hF := hF.tr (hF1.mono (by simp))
        have hT := hT1
        obtain ⟨f2458, N2459, d2460, e2461, x2462, m2463⟩ := hqr2457
        have hm := m2463
        have hm8 := hm.2.2.2.2.2.2.2
        have nx2462 := x2462.n
        have ox2462 := nx2462.1
        have hbd : B0 ≤ dr := (hT.o26 hdT.1).1
        have hDR := hT.dr hdT d2460
        have hP : va_P D vwCl [(dr, .inl (cs 0, 1383, .inl f2458))] _ := va_P.cons d2460 va_P.nil
        refine lv_goto (tgt := 4) hx hb dX9_readSum_71 (by decide) ?_
        have hps : PS D cs w _ (p2445) (tl) (er2446) (4) dr bu g (N2459) ((h + 1)) := ⟨hm, f2458, hP 0 _ rfl, e2461, by omega, (EM.op x2462 (by decide) v2455)⟩
        exact ih2399 (p2445, N2459, er2446) _ _ _ (by show 600 - (p2445) < 600 - p; omega) ⟨hps, (by show (N2459) + 2 * pos ≤ N + 2 * (p2445); omega), (by show pos ≤ (p2445); omega), (fun e9 => hz1 (z2449 e9)), hT, hF, hL⟩ (lv_sub hl [1] rfl)
    · refine lv_aload_n hx hb dX9_readSum_20 rfl (lv_at hl 0 rfl) ?_
      refine cv_i (As := []) (rest := []) (b := w) ⟨hx, hb, hml, hown, hts⟩ (c_X9_ahead hT (w := w) hw hbT hdT hm) (cwV 0 hts gX9_readSum_X9_ahead rfl rfl rfl hdX9_ahead_v ⟨Nat.le_of_ble_eq_true rfl, Nat.le_of_ble_eq_true rfl⟩) hN hE hL (rcv10 hN hT hw.1) rfl rfl hl.1 (Nat.le_of_ble_eq_true rfl) dX9_readSum_21 (Nat.zero_le _) (Nat.zero_le _) (fun r2465 H1 locs hL hqr2465 => ?_)
      obtain ⟨hT1, hF1, hqr2465⟩ := hqr2465
      have hP : va_P D vwCl [(dr, .inl (cs 0, 1383, .inl f2400))] _ := hF1.hP (hP.sub [0] rfl) (fa_c ⟨by rw [hdT.1]; decide, by rw [hdT.2]; first | decide | (simp; done) | (simp; omega)⟩ fa_n)
      have hF := hF.tr (hF1.mono (by simp))
      have hT := hT1
      obtain ⟨p2466, h2467, m2468, n2469, s2470, rfl⟩ := hqr2465
      have hm := m2468
      have hpe := s2470 n2409
      rw [hpe] at hm
      refine tp_i (byF g tl p2406) (by rw [hpe]) ?_
      have hm8 := hm.2.2.2.2.2.2.2
      refine lv_bipush (v := 45) hx hb dX9_readSum_24 (by decide) ?_
      refine lv_icmp_ne (tgt := 74) hx hb dX9_readSum_26 (by decide) (fun c2471 => ?_) (fun c2471 => ?_)
      · have hps : PS D cs w _ (p2406) (tl) (er1) (4) dr bu g (N1) ((h + 1)) := ⟨hm, f2400, hP 0 _ rfl, e2400, by omega, v2400⟩
        exact en_v hx hb hr hlocks hL (Nat.zero_le _) (Nat.zero_le _) dX9_readSum_74 (⟨hT, hF, N1, p2406, er1, (by omega), (by omega), hz1, hps⟩)
      · have hl9 := byF_c (c2471) (by decide)
        refine lv_aload_n hx hb dX9_readSum_29 rfl (lv_at hl 0 rfl) ?_
        refine cv_i (As := []) (rest := []) (b := w) ⟨hx, hb, hml, hown, hts⟩ (c_X9_ahead hT (w := w) hw hbT hdT hm) (cwV 0 hts gX9_readSum_X9_ahead rfl rfl rfl hdX9_ahead_v ⟨Nat.le_of_ble_eq_true rfl, Nat.le_of_ble_eq_true rfl⟩) hN hE hL (rcv10 hN hT hw.1) rfl rfl hl.1 (Nat.le_of_ble_eq_true rfl) dX9_readSum_30 (Nat.zero_le _) (Nat.zero_le _) (fun r2472 H1 locs hL hqr2472 => ?_)
        obtain ⟨hT1, hF1, hqr2472⟩ := hqr2472
        have hP : va_P D vwCl [(dr, .inl (cs 0, 1383, .inl f2400))] _ := hF1.hP (hP.sub [0] rfl) (fa_c ⟨by rw [hdT.1]; decide, by rw [hdT.2]; first | decide | (simp; done) | (simp; omega)⟩ fa_n)
        have hF := hF.tr (hF1.mono (by simp))
        have hT := hT1
        obtain ⟨p2473, h2474, m2475, n2476, s2477, rfl⟩ := hqr2472
        have hm := m2475
        have hpe := s2477 n2409
        rw [hpe] at hm
        refine tp_i (byF g tl p2406) (by rw [hpe]) ?_
        have hm8 := hm.2.2.2.2.2.2.2
        refine lv_bipush (v := 43) hx hb dX9_readSum_33 (by decide) ?_
        refine lv_icmp_ne (tgt := 42) hx hb dX9_readSum_35 (by decide) (fun c2478 => ?_) (fun c2478 => ?_)
        · refine lv_iconst (v := 0) hx hb dX9_readSum_42 (by decide) ?_
          refine lv_istore_n (lv' := [(1, .int 0), (0, .ref w)]) hx hb dX9_readSum_43 rfl hl (by decide) rfl (fun ls hl => ?_)
          refine lv_aload_n hx hb dX9_readSum_44 rfl (lv_at hl 1 rfl) ?_
          refine lv_dup hx hb dX9_readSum_45 rfl ?_
          obtain ⟨hb2479, e2479, hat2479, hk2479⟩ := hT.o10 hw.1
          obtain ⟨f2479_0, f2479_1, f2479_3, f2479_4, f2479_5, f2479_6, f2479_7, f2479_9, f2479_10, f2479_11, f2479_12, f2479_13, f2479_14, f2479_15, f2479_16, f2479_17, rfl, c2479_2, c2479_3, c2479_4, c2479_12, t2479_1, t2479_8, t2479_9, c2479_sd, t2479_10, t2479_11, t2479_17⟩ := hk2479
          obtain ⟨rfl, rfl, rfl, rfl, rfl, rfl⟩ := hm.at hat2479 c2479_3 (by omega)
          have hm8 := hm.2.2.2.2.2.2.2
          have hP : va_P D vwCl [(w, .inr (9, [.int f2479_0, .ref bu, .int (nI ((κ w).2.2.1)), .int (nI tl), .int (nI p2406), .int er1, .int f2479_6, .int f2479_7, .ref (κ w).2.2.2, .ref f2479_9, .ref dr, .ref f2479_11, .int (nI f2479_12), .int f2479_13, .int 4, .int f2479_15, .int f2479_16, .ref f2479_17])), (dr, .inl (cs 0, 1383, .inl f2400))] _ := va_P.cons hat2479 hP
          refine va_get (D := D) (ci := 9) (v := .int (nI p2406)) (C := RX9) (T := TX9) (N := 18) hx hb hts iX9_readSum_9 hown hN.1 hP 0 rfl rfl 4 (by decide) (hts _ mX9_readSum_1) (fun _ h9 => h9) rfl dX9_readSum_46 ?_
          refine lv_iconst (v := 1) hx hb dX9_readSum_49 (by decide) ?_
          refine lv_iadd hx hb dX9_readSum_50 ?_
          refine tp_i (nI (p2406 + 1)) (nI_add p2406 1) ?_
          have hB : Bx B0 D _ [(w, .inr (9, [.int f2479_0, .ref bu, .int (nI ((κ w).2.2.1)), .int (nI tl), .int (nI p2406), .int er1, .int f2479_6, .int f2479_7, .ref (κ w).2.2.2, .ref f2479_9, .ref dr, .ref f2479_11, .int (nI f2479_12), .int f2479_13, .int 4, .int f2479_15, .int f2479_16, .ref f2479_17])), (dr, .inl (cs 0, 1383, .inl f2400))] [] _ _ := Bx.of (fun a => (κ a).1) hL hP (fa_c hb2479 (fa_c hbd fa_n)) (by simp only [List.map_cons, List.map_nil, hw.1, hdT.1]; decide)
          refine b_put (D := D) (ci := 9) (v := .int (nI (p2406 + 1))) (ty := .int) (C := RX9) (T := TX9) (N := 18) hx hb hts iX9_readSum_9 tyX9 tyX9_ok nmX9 hown hN hB 0 rfl rfl 4 (by decide) (hts _ mX9_readSum_1) (fun _ h9 => h9) rfl (by decide +kernel) rfl rfl (Nat.le_of_ble_eq_true rfl) (.inl rfl) dX9_readSum_51 (fun H locs hB => ?_)
          have hB : Bx B0 D _ [(w, .inr (9, [.int f2479_0, .ref bu, .int (nI ((κ w).2.2.1)), .int (nI tl), .int (nI (p2406 + 1)), .int er1, .int f2479_6, .int f2479_7, .ref (κ w).2.2.2, .ref f2479_9, .ref dr, .ref f2479_11, .int (nI f2479_12), .int f2479_13, .int 4, .int f2479_15, .int f2479_16, .ref f2479_17])), (dr, .inl (cs 0, 1383, .inl f2400))] [w] _ _ := hB
          refine lv_aload_n hx hb dX9_readSum_54 rfl (lv_at hl 1 rfl) ?_
          have hT : WT B0 D cs T κ _ := hT.close hB ⟨⟨0, _, rfl, ok_10 hw.1 ⟨_, _, _, _, _, _, _, _, _, _, _, _, _, _, _, _, rfl, (by omega), (by omega), (by omega), (by omega), hbT, t2479_8, t2479_9, c2479_sd, hdT, t2479_11, t2479_17⟩⟩, trivial⟩
          have hF : Fr B0 [12, 17] κ H0 _ := hF.close hB (fa_c (by simp [hw.2]) fa_n)
          have hL : OkL B0 _ := hB.2.2.2.2.2
          have hP : va_P D vwCl [(w, .inr (9, [.int f2479_0, .ref bu, .int (nI ((κ w).2.2.1)), .int (nI tl), .int (nI (p2406 + 1)), .int er1, .int f2479_6, .int f2479_7, .ref (κ w).2.2.2, .ref f2479_9, .ref dr, .ref f2479_11, .int (nI f2479_12), .int f2479_13, .int 4, .int f2479_15, .int f2479_16, .ref f2479_17])), (dr, .inl (cs 0, 1383, .inl f2400))] _ := hB.1
          have hbu9 := (hm.2.2.2.2.2.2.1).kept (hB.2.2.2.1 _ hm.2.2.2.2.2.2.1.lt (by simp only [List.mem_cons, List.not_mem_nil, or_false, not_or]; exact ne_c hbT.1 hw.1 (by decide)))
          have hm : MF D cs w _ ((p2406 + 1)) (tl) (er1) (4) dr bu g := ⟨⟨_, hP 0 _ rfl, rfl⟩, ⟨_, hP 0 _ rfl, rfl⟩, ⟨_, hP 0 _ rfl, rfl⟩, ⟨_, hP 0 _ rfl, rfl⟩, ⟨_, hP 0 _ rfl, rfl⟩, ⟨_, hP 0 _ rfl, rfl⟩, hbu9, (by omega), (by omega)⟩
          have hps : PS D cs w _ ((p2406 + 1)) (tl) (er1) (4) dr bu g (N1) ((h + 1)) := ⟨hm, f2400, hP 1 _ rfl, e2400, by omega, v2400⟩
          refine cv_v (As := []) (rest := []) (b := w) ⟨hx, hb, hml, hown, hts⟩ (c_X9_term_d4 hT (w := w) hw hbT hdT hps) (cwV 0 hts gX9_readSum_X9_term rfl rfl rfl hdX9_term_v ⟨Nat.le_of_ble_eq_true rfl, Nat.le_of_ble_eq_true rfl⟩) hN hE hL (rcv10 hN hT hw.1) rfl rfl hl.1 (Nat.le_of_ble_eq_true rfl) dX9_readSum_55 (Nat.zero_le _) (Nat.zero_le _) (fun H1 locs hL hqr2480 => ?_)
          obtain ⟨hT1, hF1, hqr2480⟩ := hqr2480
          have hF := hF.tr (hF1.mono (by simp))
          have hT := hT1
          obtain ⟨N2481, p2482, er2483, a2484, b2485, z2486, m2487, f2488, d2489, e2490, n2491, v2492⟩ := hqr2480
          have hm := m2487
          have hm8 := hm.2.2.2.2.2.2.2
          have hbd : B0 ≤ dr := (hT.o26 hdT.1).1
          have hDR := hT.dr hdT d2489
          have hP : va_P D vwCl [(dr, .inl (cs 0, 1383, .inl f2488))] _ := va_P.cons d2489 va_P.nil
          refine lv_aload_n hx hb dX9_readSum_58 rfl (lv_at hl 1 rfl) ?_
          refine lv_iload_n hx hb dX9_readSum_59 rfl (lv_at hl 0 rfl) ?_
          refine lv_if_eq (tgt := 67) hx hb dX9_readSum_60 (by decide) (fun _ => ?_) (fun c9 => absurd (by decide) c9)
          refine lv_iconst (v := 3) hx hb dX9_readSum_67 (by decide) ?_
          refine cv_v (As := [.int 3]) (rest := []) (b := w) ⟨hx, hb, hml, hown, hts⟩ (c_X9_emit hT (w := w) hw (x := 3) hbT hdT hm (hP 0 _ rfl) e2490 (fun _ => by omega)) (cwV 1 hts gX9_readSum_X9_emit rfl rfl rfl hdX9_emit_v ⟨Nat.le_of_ble_eq_true rfl, Nat.le_of_ble_eq_true rfl⟩) hN hE hL (rcv10 hN hT hw.1) rfl rfl hl.1 (Nat.le_of_ble_eq_true rfl) dX9_readSum_68 (Nat.zero_le _) (Nat.zero_le _) (fun H1 locs hL hqr2494 => ?_)
          obtain ⟨hT1, hF1, hqr2494⟩ := hqr2494
          have hF := hF.tr (hF1.mono (by simp))
          have hT := hT1
          obtain ⟨f2495, N2496, d2497, e2498, x2499, m2500⟩ := hqr2494
          have hm := m2500
          have hm8 := hm.2.2.2.2.2.2.2
          have nx2499 := x2499.n
          have ox2499 := nx2499.1
          have hbd : B0 ≤ dr := (hT.o26 hdT.1).1
          have hDR := hT.dr hdT d2497
          have hP : va_P D vwCl [(dr, .inl (cs 0, 1383, .inl f2495))] _ := va_P.cons d2497 va_P.nil
          refine lv_goto (tgt := 4) hx hb dX9_readSum_71 (by decide) ?_
          have hps : PS D cs w _ (p2482) (tl) (er2483) (4) dr bu g (N2496) ((h + 1)) := ⟨hm, f2495, hP 0 _ rfl, e2498, by omega, (EM.op x2499 (by decide) v2492)⟩
          exact ih2399 (p2482, N2496, er2483) _ _ _ (by show 600 - (p2482) < 600 - p; omega) ⟨hps, (by show (N2496) + 2 * pos ≤ N + 2 * (p2482); omega), (by show pos ≤ (p2482); omega), (fun e9 => hz1 (z2486 e9)), hT, hF, hL⟩ (lv_sub hl [1] rfl)
        · refine lv_iconst (v := 1) hx hb dX9_readSum_38 (by decide) ?_
          refine lv_goto (tgt := 43) hx hb dX9_readSum_39 (by decide) ?_
          refine lv_istore_n (lv' := [(1, .int 1), (0, .ref w)]) hx hb dX9_readSum_43 rfl hl (by decide) rfl (fun ls hl => ?_)
          refine lv_aload_n hx hb dX9_readSum_44 rfl (lv_at hl 1 rfl) ?_
          refine lv_dup hx hb dX9_readSum_45 rfl ?_
          obtain ⟨hb2502, e2502, hat2502, hk2502⟩ := hT.o10 hw.1
          obtain ⟨f2502_0, f2502_1, f2502_3, f2502_4, f2502_5, f2502_6, f2502_7, f2502_9, f2502_10, f2502_11, f2502_12, f2502_13, f2502_14, f2502_15, f2502_16, f2502_17, rfl, c2502_2, c2502_3, c2502_4, c2502_12, t2502_1, t2502_8, t2502_9, c2502_sd, t2502_10, t2502_11, t2502_17⟩ := hk2502
          obtain ⟨rfl, rfl, rfl, rfl, rfl, rfl⟩ := hm.at hat2502 c2502_3 (by omega)
          have hm8 := hm.2.2.2.2.2.2.2
          have hP : va_P D vwCl [(w, .inr (9, [.int f2502_0, .ref bu, .int (nI ((κ w).2.2.1)), .int (nI tl), .int (nI p2406), .int er1, .int f2502_6, .int f2502_7, .ref (κ w).2.2.2, .ref f2502_9, .ref dr, .ref f2502_11, .int (nI f2502_12), .int f2502_13, .int 4, .int f2502_15, .int f2502_16, .ref f2502_17])), (dr, .inl (cs 0, 1383, .inl f2400))] _ := va_P.cons hat2502 hP
          refine va_get (D := D) (ci := 9) (v := .int (nI p2406)) (C := RX9) (T := TX9) (N := 18) hx hb hts iX9_readSum_9 hown hN.1 hP 0 rfl rfl 4 (by decide) (hts _ mX9_readSum_1) (fun _ h9 => h9) rfl dX9_readSum_46 ?_
          refine lv_iconst (v := 1) hx hb dX9_readSum_49 (by decide) ?_
          refine lv_iadd hx hb dX9_readSum_50 ?_
          refine tp_i (nI (p2406 + 1)) (nI_add p2406 1) ?_
          have hB : Bx B0 D _ [(w, .inr (9, [.int f2502_0, .ref bu, .int (nI ((κ w).2.2.1)), .int (nI tl), .int (nI p2406), .int er1, .int f2502_6, .int f2502_7, .ref (κ w).2.2.2, .ref f2502_9, .ref dr, .ref f2502_11, .int (nI f2502_12), .int f2502_13, .int 4, .int f2502_15, .int f2502_16, .ref f2502_17])), (dr, .inl (cs 0, 1383, .inl f2400))] [] _ _ := Bx.of (fun a => (κ a).1) hL hP (fa_c hb2502 (fa_c hbd fa_n)) (by simp only [List.map_cons, List.map_nil, hw.1, hdT.1]; decide)
          refine b_put (D := D) (ci := 9) (v := .int (nI (p2406 + 1))) (ty := .int) (C := RX9) (T := TX9) (N := 18) hx hb hts iX9_readSum_9 tyX9 tyX9_ok nmX9 hown hN hB 0 rfl rfl 4 (by decide) (hts _ mX9_readSum_1) (fun _ h9 => h9) rfl (by decide +kernel) rfl rfl (Nat.le_of_ble_eq_true rfl) (.inl rfl) dX9_readSum_51 (fun H locs hB => ?_)
          have hB : Bx B0 D _ [(w, .inr (9, [.int f2502_0, .ref bu, .int (nI ((κ w).2.2.1)), .int (nI tl), .int (nI (p2406 + 1)), .int er1, .int f2502_6, .int f2502_7, .ref (κ w).2.2.2, .ref f2502_9, .ref dr, .ref f2502_11, .int (nI f2502_12), .int f2502_13, .int 4, .int f2502_15, .int f2502_16, .ref f2502_17])), (dr, .inl (cs 0, 1383, .inl f2400))] [w] _ _ := hB
          refine lv_aload_n hx hb dX9_readSum_54 rfl (lv_at hl 1 rfl) ?_
          have hT : WT B0 D cs T κ _ := hT.close hB ⟨⟨0, _, rfl, ok_10 hw.1 ⟨_, _, _, _, _, _, _, _, _, _, _, _, _, _, _, _, rfl, (by omega), (by omega), (by omega), (by omega), hbT, t2502_8, t2502_9, c2502_sd, hdT, t2502_11, t2502_17⟩⟩, trivial⟩
          have hF : Fr B0 [12, 17] κ H0 _ := hF.close hB (fa_c (by simp [hw.2]) fa_n)
          have hL : OkL B0 _ := hB.2.2.2.2.2
          have hP : va_P D vwCl [(w, .inr (9, [.int f2502_0, .ref bu, .int (nI ((κ w).2.2.1)), .int (nI tl), .int (nI (p2406 + 1)), .int er1, .int f2502_6, .int f2502_7, .ref (κ w).2.2.2, .ref f2502_9, .ref dr, .ref f2502_11, .int (nI f2502_12), .int f2502_13, .int 4, .int f2502_15, .int f2502_16, .ref f2502_17])), (dr, .inl (cs 0, 1383, .inl f2400))] _ := hB.1
          have hbu9 := (hm.2.2.2.2.2.2.1).kept (hB.2.2.2.1 _ hm.2.2.2.2.2.2.1.lt (by simp only [List.mem_cons, List.not_mem_nil, or_false, not_or]; exact ne_c hbT.1 hw.1 (by decide)))
          have hm : MF D cs w _ ((p2406 + 1)) (tl) (er1) (4) dr bu g := ⟨⟨_, hP 0 _ rfl, rfl⟩, ⟨_, hP 0 _ rfl, rfl⟩, ⟨_, hP 0 _ rfl, rfl⟩, ⟨_, hP 0 _ rfl, rfl⟩, ⟨_, hP 0 _ rfl, rfl⟩, ⟨_, hP 0 _ rfl, rfl⟩, hbu9, (by omega), (by omega)⟩
          have hps : PS D cs w _ ((p2406 + 1)) (tl) (er1) (4) dr bu g (N1) ((h + 1)) := ⟨hm, f2400, hP 1 _ rfl, e2400, by omega, v2400⟩
          refine cv_v (As := []) (rest := []) (b := w) ⟨hx, hb, hml, hown, hts⟩ (c_X9_term_d4 hT (w := w) hw hbT hdT hps) (cwV 0 hts gX9_readSum_X9_term rfl rfl rfl hdX9_term_v ⟨Nat.le_of_ble_eq_true rfl, Nat.le_of_ble_eq_true rfl⟩) hN hE hL (rcv10 hN hT hw.1) rfl rfl hl.1 (Nat.le_of_ble_eq_true rfl) dX9_readSum_55 (Nat.zero_le _) (Nat.zero_le _) (fun H1 locs hL hqr2503 => ?_)
          obtain ⟨hT1, hF1, hqr2503⟩ := hqr2503
          have hF := hF.tr (hF1.mono (by simp))
          have hT := hT1
          obtain ⟨N2504, p2505, er2506, a2507, b2508, z2509, m2510, f2511, d2512, e2513, n2514, v2515⟩ := hqr2503
          have hm := m2510
          have hm8 := hm.2.2.2.2.2.2.2
          have hbd : B0 ≤ dr := (hT.o26 hdT.1).1
          have hDR := hT.dr hdT d2512
          have hP : va_P D vwCl [(dr, .inl (cs 0, 1383, .inl f2511))] _ := va_P.cons d2512 va_P.nil
          refine lv_aload_n hx hb dX9_readSum_58 rfl (lv_at hl 1 rfl) ?_
          refine lv_iload_n hx hb dX9_readSum_59 rfl (lv_at hl 0 rfl) ?_
          refine lv_if_eq (tgt := 67) hx hb dX9_readSum_60 (by decide) (fun c9 => absurd c9 (by decide)) (fun _ => ?_)
          refine lv_iconst (v := 2) hx hb dX9_readSum_63 (by decide) ?_
          refine lv_goto (tgt := 68) hx hb dX9_readSum_64 (by decide) ?_
          refine cv_v (As := [.int 2]) (rest := []) (b := w) ⟨hx, hb, hml, hown, hts⟩ (c_X9_emit hT (w := w) hw (x := 2) hbT hdT hm (hP 0 _ rfl) e2513 (fun _ => by omega)) (cwV 1 hts gX9_readSum_X9_emit rfl rfl rfl hdX9_emit_v ⟨Nat.le_of_ble_eq_true rfl, Nat.le_of_ble_eq_true rfl⟩) hN hE hL (rcv10 hN hT hw.1) rfl rfl hl.1 (Nat.le_of_ble_eq_true rfl) dX9_readSum_68 (Nat.zero_le _) (Nat.zero_le _) (fun H1 locs hL hqr2517 => ?_)
          obtain ⟨hT1, hF1, hqr2517⟩ := hqr2517
          have hF := hF.tr (hF1.mono (by simp))
          have hT := hT1
          obtain ⟨f2518, N2519, d2520, e2521, x2522, m2523⟩ := hqr2517
          have hm := m2523
          have hm8 := hm.2.2.2.2.2.2.2
          have nx2522 := x2522.n
          have ox2522 := nx2522.1
          have hbd : B0 ≤ dr := (hT.o26 hdT.1).1
          have hDR := hT.dr hdT d2520
          have hP : va_P D vwCl [(dr, .inl (cs 0, 1383, .inl f2518))] _ := va_P.cons d2520 va_P.nil
          refine lv_goto (tgt := 4) hx hb dX9_readSum_71 (by decide) ?_
          have hps : PS D cs w _ (p2505) (tl) (er2506) (4) dr bu g (N2519) ((h + 1)) := ⟨hm, f2518, hP 0 _ rfl, e2521, by omega, (EM.op x2522 (by decide) v2515)⟩
          exact ih2399 (p2505, N2519, er2506) _ _ _ (by show 600 - (p2505) < 600 - p; omega) ⟨hps, (by show (N2519) + 2 * pos ≤ N + 2 * (p2505); omega), (by show pos ≤ (p2505); omega), (fun e9 => hz1 (z2509 e9)), hT, hF, hL⟩ (lv_sub hl [1] rfl)
  · refine lv_if_eq (tgt := 74) hx hb dX9_readSum_8 (by decide) (fun _ => ?_) (fun c9 => absurd (by decide) c9)
    have hps : PS D cs w _ (p) (tl) (er1) (4) dr bu g (N1) ((h + 1)) := ⟨hm, f2400, hP 0 _ rfl, e2400, by omega, v2400⟩
    exact en_v hx hb hr hlocks hL (Nat.zero_le _) (Nat.zero_le _) dX9_readSum_74 (⟨hT, hF, N1, p, er1, (by omega), (by omega), hz1, hps⟩)
set_option maxHeartbeats 4000000 in
set_option maxRecDepth 100000 in
theorem c_X9_factor_d3 {l : Launch} {D : va_G} {cs : Nat → ClassId} {B0 T : Nat} {κ : KM} {H0 : Heap} (hT : WT B0 D cs T κ H0) {w : Nat} (hw : T2 κ w 10 12) {pos tl : Nat} {er : Int32} {dr bu : Nat} {g : Nat → Int32} {N h : Nat} (hbT : T2 κ bu 23 14) (hdT : T2 κ dr 26 17) (hps : PS D cs w H0 pos tl er 3 dr bu g N h) : KC l yX9_factor wsX9_factor 8 172 0 0 D cs B0 H0 [.ref w] (Qv (fun H => WT B0 D cs T κ H ∧ Fr B0 [12, 17] κ H0 H ∧ ∃ N1 pos1 er1, N1 + 2 * pos ≤ N + 2 * pos1 ∧ pos ≤ pos1 ∧ (er1 = 0 → er = 0) ∧ PS D cs w H pos1 tl er1 3 dr bu g N1 (h + 1))) := by
  refine KC.of cX9_factor 4 none (by decide) rfl (Nat.le_of_ble_eq_true rfl) ?_
  intro p e s m below meth c ls hx hb hr hml hown hts hlocks hin hN hE hH0 hl
  have hown : s.vm.findClass RX9 = some m.cls := hown
  have hl : lv_has ls 4 [(0, .ref w)] := hl
  have hL : OkL B0 [] := OkL.nil
  have hF : Fr B0 [12, 17] κ H0 H0 := Fr.rf
  obtain ⟨hm, f2525, hd2525, e2525, n2525, v2525⟩ := hps
  have hm8 := hm.2.2.2.2.2.2.2
  have hbd : B0 ≤ dr := (hT.o26 hdT.1).1
  have hDR := hT.dr hdT hd2525
  have hP : va_P D vwCl [(dr, .inl (cs 0, 1383, .inl f2525))] _ := va_P.cons hd2525 va_P.nil
  refine lv_aload_n hx hb dX9_factor_0 rfl (lv_at hl 0 rfl) ?_
  refine cv_i (As := []) (rest := []) (b := w) ⟨hx, hb, hml, hown, hts⟩ (c_X9_isGood hT (w := w) hw hbT hdT hm) (cwV 0 hts gX9_factor_X9_isGood rfl rfl rfl hdX9_isGood_v ⟨Nat.le_of_ble_eq_true rfl, Nat.le_of_ble_eq_true rfl⟩) hN hE hL (rcv10 hN hT hw.1) rfl rfl hl.1 (Nat.le_of_ble_eq_true rfl) dX9_factor_1 (Nat.zero_le _) (Nat.zero_le _) (fun r2527 H1 locs hL hqr2527 => ?_)
  obtain ⟨h9, hqr2527⟩ := hqr2527; replace h9 := h9.symm; subst h9
  rcases hqr2527 with ⟨rfl, e2528⟩ | ⟨rfl, e2529⟩
  · refine lv_if_ne (tgt := 8) hx hb dX9_factor_4 (by decide) (fun _ => ?_) (fun c9 => absurd c9 (by decide))
    refine lv_aload_n hx hb dX9_factor_8 rfl (lv_at hl 0 rfl) ?_
    refine cv_i (As := []) (rest := []) (b := w) ⟨hx, hb, hml, hown, hts⟩ (c_X9_ahead hT (w := w) hw hbT hdT hm) (cwV 0 hts gX9_factor_X9_ahead rfl rfl rfl hdX9_ahead_v ⟨Nat.le_of_ble_eq_true rfl, Nat.le_of_ble_eq_true rfl⟩) hN hE hL (rcv10 hN hT hw.1) rfl rfl hl.1 (Nat.le_of_ble_eq_true rfl) dX9_factor_9 (Nat.zero_le _) (Nat.zero_le _) (fun r2530 H1 locs hL hqr2530 => ?_)
    obtain ⟨hT1, hF1, hqr2530⟩ := hqr2530
    have hP : va_P D vwCl [(dr, .inl (cs 0, 1383, .inl f2525))] _ := hF1.hP (hP.sub [0] rfl) (fa_c ⟨by rw [hdT.1]; decide, by rw [hdT.2]; first | decide | (simp; done) | (simp; omega)⟩ fa_n)
    have hF := hF.tr (hF1.mono (by simp))
    have hT := hT1
    obtain ⟨p2531, h2532, m2533, n2534, s2535, rfl⟩ := hqr2530
    have hm := m2533
    have hm8 := hm.2.2.2.2.2.2.2
    refine lv_istore_n (lv' := [(1, .int (byF g tl p2531)), (0, .ref w)]) hx hb dX9_factor_12 rfl hl (by decide) rfl (fun ls hl => ?_)
    refine lv_iload_n hx hb dX9_factor_13 rfl (lv_at hl 0 rfl) ?_
    refine lv_bipush (v := 40) hx hb dX9_factor_14 (by decide) ?_
    refine lv_icmp_ne (tgt := 78) hx hb dX9_factor_16 (by decide) (fun c2536 => ?_) (fun c2536 => ?_)
    · refine lv_iload_n hx hb dX9_factor_78 rfl (lv_at hl 0 rfl) ?_
      refine cs_i (As := [.int (byF g tl p2531)]) (rest := []) ⟨hx, hb, hml, hown, hts⟩ (c_X9_isDigit hT (x := (byF g tl p2531))) (va_cwS 1 hts gX9_factor_X9_isDigit rfl rfl rfl hdX9_isDigit_o ⟨Nat.le_of_ble_eq_true rfl, Nat.le_of_ble_eq_true rfl⟩) hN hE hL rfl rfl hl.1 (Nat.le_of_ble_eq_true rfl) dX9_factor_79 (Nat.zero_le _) (Nat.zero_le _) (fun r2537 H1 locs hL hqr2537 => ?_)
      obtain ⟨h9, hqr2537⟩ := hqr2537; replace h9 := h9.symm; subst h9
      rcases hqr2537 with ⟨rfl, o2538⟩ | ⟨rfl, l2539, g2540⟩
      · refine lv_if_eq (tgt := 89) hx hb dX9_factor_82 (by decide) (fun _ => ?_) (fun c9 => absurd (by decide) c9)
        refine lv_aload_n hx hb dX9_factor_89 rfl (lv_at hl 1 rfl) ?_
        refine va_ldcS hx hb hown (hN.s 19 rfl) dX9_factor_90 ?_
        refine cv_i (As := [.ref (cs 119)]) (rest := []) (b := w) ⟨hx, hb, hml, hown, hts⟩ (c_X9_takeWord hT (w := w) hw (i := 19) (by decide) hbT hdT hm) (cwV 1 hts gX9_factor_X9_takeWord rfl rfl rfl hdX9_takeWord_v ⟨Nat.le_of_ble_eq_true rfl, Nat.le_of_ble_eq_true rfl⟩) hN hE hL (rcv10 hN hT hw.1) rfl rfl hl.1 (Nat.le_of_ble_eq_true rfl) dX9_factor_92 (Nat.zero_le _) (Nat.zero_le _) (fun r2541 H1 locs hL hqr2541 => ?_)
        obtain ⟨hT1, hF1, hqr2541⟩ := hqr2541
        have hP : va_P D vwCl [(dr, .inl (cs 0, 1383, .inl f2525))] _ := hF1.hP (hP.sub [0] rfl) (fa_c ⟨by rw [hdT.1]; decide, by rw [hdT.2]; first | decide | (simp; done) | (simp; omega)⟩ fa_n)
        have hF := hF.tr (hF1.mono (by simp))
        have hT := hT1
        rcases hqr2541 with ⟨rfl, p2542, h2543, m2544⟩ | ⟨rfl, p2545, q2546, e2547, m2548⟩
        · have hm := m2544
          have hm8 := hm.2.2.2.2.2.2.2
          refine lv_if_eq (tgt := 102) hx hb dX9_factor_95 (by decide) (fun _ => ?_) (fun c9 => absurd (by decide) c9)
          refine lv_aload_n hx hb dX9_factor_102 rfl (lv_at hl 1 rfl) ?_
          refine va_ldcS hx hb hown (hN.s 25 rfl) dX9_factor_103 ?_
          refine cv_i (As := [.ref (cs 125)]) (rest := []) (b := w) ⟨hx, hb, hml, hown, hts⟩ (c_X9_takeWord hT (w := w) hw (i := 25) (by decide) hbT hdT hm) (cwV 1 hts gX9_factor_X9_takeWord rfl rfl rfl hdX9_takeWord_v ⟨Nat.le_of_ble_eq_true rfl, Nat.le_of_ble_eq_true rfl⟩) hN hE hL (rcv10 hN hT hw.1) rfl rfl hl.1 (Nat.le_of_ble_eq_true rfl) dX9_factor_105 (Nat.zero_le _) (Nat.zero_le _) (fun r2549 H1 locs hL hqr2549 => ?_)
          obtain ⟨hT1, hF1, hqr2549⟩ := hqr2549
          have hP : va_P D vwCl [(dr, .inl (cs 0, 1383, .inl f2525))] _ := hF1.hP (hP.sub [0] rfl) (fa_c ⟨by rw [hdT.1]; decide, by rw [hdT.2]; first | decide | (simp; done) | (simp; omega)⟩ fa_n)
          have hF := hF.tr (hF1.mono (by simp))
          have hT := hT1
          rcases hqr2549 with ⟨rfl, p2550, h2551, m2552⟩ | ⟨rfl, p2553, q2554, e2555, m2556⟩
          · have hm := m2552
            have hm8 := hm.2.2.2.2.2.2.2
            refine lv_if_eq (tgt := 115) hx hb dX9_factor_108 (by decide) (fun _ => ?_) (fun c9 => absurd (by decide) c9)
            refine lv_aload_n hx hb dX9_factor_115 rfl (lv_at hl 1 rfl) ?_
            refine va_ldcS hx hb hown (hN.s 26 rfl) dX9_factor_116 ?_
            refine cv_i (As := [.ref (cs 126)]) (rest := []) (b := w) ⟨hx, hb, hml, hown, hts⟩ (c_X9_takeWord hT (w := w) hw (i := 26) (by decide) hbT hdT hm) (cwV 1 hts gX9_factor_X9_takeWord rfl rfl rfl hdX9_takeWord_v ⟨Nat.le_of_ble_eq_true rfl, Nat.le_of_ble_eq_true rfl⟩) hN hE hL (rcv10 hN hT hw.1) rfl rfl hl.1 (Nat.le_of_ble_eq_true rfl) dX9_factor_118 (Nat.zero_le _) (Nat.zero_le _) (fun r2557 H1 locs hL hqr2557 => ?_)
            obtain ⟨hT1, hF1, hqr2557⟩ := hqr2557
            have hP : va_P D vwCl [(dr, .inl (cs 0, 1383, .inl f2525))] _ := hF1.hP (hP.sub [0] rfl) (fa_c ⟨by rw [hdT.1]; decide, by rw [hdT.2]; first | decide | (simp; done) | (simp; omega)⟩ fa_n)
            have hF := hF.tr (hF1.mono (by simp))
            have hT := hT1
            rcases hqr2557 with ⟨rfl, p2558, h2559, m2560⟩ | ⟨rfl, p2561, q2562, e2563, m2564⟩
            · have hm := m2560
              have hm8 := hm.2.2.2.2.2.2.2
              refine lv_if_eq (tgt := 128) hx hb dX9_factor_121 (by decide) (fun _ => ?_) (fun c9 => absurd (by decide) c9)
              refine lv_aload_n hx hb dX9_factor_128 rfl (lv_at hl 1 rfl) ?_
              refine va_ldcS hx hb hown (hN.s 27 rfl) dX9_factor_129 ?_
              refine cv_i (As := [.ref (cs 127)]) (rest := []) (b := w) ⟨hx, hb, hml, hown, hts⟩ (c_X9_takeWord hT (w := w) hw (i := 27) (by decide) hbT hdT hm) (cwV 1 hts gX9_factor_X9_takeWord rfl rfl rfl hdX9_takeWord_v ⟨Nat.le_of_ble_eq_true rfl, Nat.le_of_ble_eq_true rfl⟩) hN hE hL (rcv10 hN hT hw.1) rfl rfl hl.1 (Nat.le_of_ble_eq_true rfl) dX9_factor_131 (Nat.zero_le _) (Nat.zero_le _) (fun r2565 H1 locs hL hqr2565 => ?_)
              obtain ⟨hT1, hF1, hqr2565⟩ := hqr2565
              have hP : va_P D vwCl [(dr, .inl (cs 0, 1383, .inl f2525))] _ := hF1.hP (hP.sub [0] rfl) (fa_c ⟨by rw [hdT.1]; decide, by rw [hdT.2]; first | decide | (simp; done) | (simp; omega)⟩ fa_n)
              have hF := hF.tr (hF1.mono (by simp))
              have hT := hT1
              rcases hqr2565 with ⟨rfl, p2566, h2567, m2568⟩ | ⟨rfl, p2569, q2570, e2571, m2572⟩
              · have hm := m2568
                have hm8 := hm.2.2.2.2.2.2.2
                refine lv_if_eq (tgt := 141) hx hb dX9_factor_134 (by decide) (fun _ => ?_) (fun c9 => absurd (by decide) c9)
                refine lv_iconst (v := (-1)) hx hb dX9_factor_141 (by decide) ?_
                refine lv_istore_n (lv' := [(2, .int (-1)), (1, .int (byF g tl p2531)), (0, .ref w)]) hx hb dX9_factor_142 rfl hl (by decide) rfl (fun ls hl => ?_)
                refine lv_iload_n hx hb dX9_factor_143 rfl (lv_at hl 0 rfl) ?_
                refine lv_if_ge (tgt := 158) hx hb dX9_factor_144 (by decide) (fun c9 => absurd c9 (by decide)) (fun _ => ?_)
                refine lv_aload_n hx hb dX9_factor_147 rfl (lv_at hl 2 rfl) ?_
                refine lv_iconst (v := 0) hx hb dX9_factor_148 (by decide) ?_
                refine lv_sipush (v := 9999) hx hb dX9_factor_149 (by decide) ?_
                refine cv_i (As := [.int 0, .int 9999]) (rest := []) (b := w) ⟨hx, hb, hml, hown, hts⟩ (c_X9_number hT (w := w) hw (x := 0) (y := 9999) hbT hdT hm) (cwV 2 hts gX9_factor_X9_number rfl rfl rfl hdX9_number_v ⟨Nat.le_of_ble_eq_true rfl, Nat.le_of_ble_eq_true rfl⟩) hN hE hL (rcv10 hN hT hw.1) rfl rfl hl.1 (Nat.le_of_ble_eq_true rfl) dX9_factor_152 (Nat.zero_le _) (Nat.zero_le _) (fun r2573 H1 locs hL hqr2573 => ?_)
                obtain ⟨hT1, hF1, hqr2573⟩ := hqr2573
                have hP : va_P D vwCl [(dr, .inl (cs 0, 1383, .inl f2525))] _ := hF1.hP (hP.sub [0] rfl) (fa_c ⟨by rw [hdT.1]; decide, by rw [hdT.2]; first | decide | (simp; done) | (simp; omega)⟩ fa_n)
                have hF := hF.tr (hF1.mono (by simp))
                have hT := hT1
                obtain ⟨p2574, er2575, a2576, z2577, m2578, q2579⟩ := hqr2573
                have hm := m2578
                have hm8 := hm.2.2.2.2.2.2.2
                refine lv_goto (tgt := 159) hx hb dX9_factor_155 (by decide) ?_
                refine lv_istore_n (lv' := [(3, .int r2573), (2, .int (-1)), (1, .int (byF g tl p2531)), (0, .ref w)]) hx hb dX9_factor_159 rfl hl (by decide) rfl (fun ls hl => ?_)
                refine lv_aload_n hx hb dX9_factor_160 rfl (lv_at hl 3 rfl) ?_
                refine lv_iload_n hx hb dX9_factor_161 rfl (lv_at hl 1 rfl) ?_
                refine lv_if_ge (tgt := 169) hx hb dX9_factor_162 (by decide) (fun c9 => absurd c9 (by decide)) (fun _ => ?_)
                refine lv_iconst (v := 0) hx hb dX9_factor_165 (by decide) ?_
                refine lv_goto (tgt := 170) hx hb dX9_factor_166 (by decide) ?_
                refine cv_v (As := [.int 0]) (rest := []) (b := w) ⟨hx, hb, hml, hown, hts⟩ (c_X9_emit hT (w := w) hw (x := 0) hbT hdT hm (hP 0 _ rfl) e2525 (fun e9 => by have q9 := (z2577 e9).2; omega)) (cwV 1 hts gX9_factor_X9_emit rfl rfl rfl hdX9_emit_v ⟨Nat.le_of_ble_eq_true rfl, Nat.le_of_ble_eq_true rfl⟩) hN hE hL (rcv10 hN hT hw.1) rfl rfl hl.1 (Nat.le_of_ble_eq_true rfl) dX9_factor_170 (Nat.zero_le _) (Nat.zero_le _) (fun H1 locs hL hqr2580 => ?_)
                obtain ⟨hT1, hF1, hqr2580⟩ := hqr2580
                have hF := hF.tr (hF1.mono (by simp))
                have hT := hT1
                obtain ⟨f2581, N2582, d2583, e2584, x2585, m2586⟩ := hqr2580
                have hm := m2586
                have hm8 := hm.2.2.2.2.2.2.2
                have nx2585 := x2585.n
                have ox2585 := nx2585.1
                have hbd : B0 ≤ dr := (hT.o26 hdT.1).1
                have hDR := hT.dr hdT d2583
                have hP : va_P D vwCl [(dr, .inl (cs 0, 1383, .inl f2581))] _ := va_P.cons d2583 va_P.nil
                refine lv_aload_n hx hb dX9_factor_173 rfl (lv_at hl 3 rfl) ?_
                refine lv_iload_n hx hb dX9_factor_174 rfl (lv_at hl 0 rfl) ?_
                refine cv_v (As := [.int r2573]) (rest := []) (b := w) ⟨hx, hb, hml, hown, hts⟩ (c_X9_emit hT (w := w) hw (x := r2573) hbT hdT hm (hP 0 _ rfl) e2584 (fun e9 => by have q9 := (z2577 e9).2; omega)) (cwV 1 hts gX9_factor_X9_emit rfl rfl rfl hdX9_emit_v ⟨Nat.le_of_ble_eq_true rfl, Nat.le_of_ble_eq_true rfl⟩) hN hE hL (rcv10 hN hT hw.1) rfl rfl hl.1 (Nat.le_of_ble_eq_true rfl) dX9_factor_175 (Nat.zero_le _) (Nat.zero_le _) (fun H1 locs hL hqr2588 => ?_)
                obtain ⟨hT1, hF1, hqr2588⟩ := hqr2588
                have hF := hF.tr (hF1.mono (by simp))
                have hT := hT1
                obtain ⟨f2589, N2590, d2591, e2592, x2593, m2594⟩ := hqr2588
                have hm := m2594
                have hm8 := hm.2.2.2.2.2.2.2
                have nx2593 := x2593.n
                have ox2593 := nx2593.1
                have hbd : B0 ≤ dr := (hT.o26 hdT.1).1
                have hDR := hT.dr hdT d2591
                have hP : va_P D vwCl [(dr, .inl (cs 0, 1383, .inl f2589))] _ := va_P.cons d2591 va_P.nil
                have bx2585 := nx2585.2.1
                have bx2593 := nx2593.2.1
                have hbn : N2590 + 2 * pos ≤ N + 2 * p2574 ∧ N2590 ≤ 2 * p2574 := by
                  by_cases e9 : er2575 = 0
                  · have q9 := (z2577 e9).2; omega
                  · have q9 := bx2585 e9; have q8 := bx2593 e9; omega
                exact en_v hx hb hr hlocks hL (Nat.zero_le _) (Nat.zero_le _) dX9_factor_178 (⟨hT, hF, _, p2574, er2575, hbn.1, (by omega), (fun e9 => id ((fun e9 => (z2577 e9).1) e9)), hm, _, hP 0 _ rfl, e2592, hbn.2, (EM.lit x2585 x2593 (by decide) (fun e9 => v2525 ((fun e9 => (z2577 e9).1) e9)))⟩)
              · have hm := m2572
                have hm8 := hm.2.2.2.2.2.2.2
                refine lv_if_eq (tgt := 141) hx hb dX9_factor_134 (by decide) (fun c9 => absurd c9 (by decide)) (fun _ => ?_)
                refine lv_iconst (v := 3) hx hb dX9_factor_137 (by decide) ?_
                refine lv_goto (tgt := 142) hx hb dX9_factor_138 (by decide) ?_
                refine lv_istore_n (lv' := [(2, .int 3), (1, .int (byF g tl p2531)), (0, .ref w)]) hx hb dX9_factor_142 rfl hl (by decide) rfl (fun ls hl => ?_)
                refine lv_iload_n hx hb dX9_factor_143 rfl (lv_at hl 0 rfl) ?_
                refine lv_if_ge (tgt := 158) hx hb dX9_factor_144 (by decide) (fun _ => ?_) (fun c9 => absurd (by decide) c9)
                refine lv_iload_n hx hb dX9_factor_158 rfl (lv_at hl 0 rfl) ?_
                refine lv_istore_n (lv' := [(3, .int 3), (2, .int 3), (1, .int (byF g tl p2531)), (0, .ref w)]) hx hb dX9_factor_159 rfl hl (by decide) rfl (fun ls hl => ?_)
                refine lv_aload_n hx hb dX9_factor_160 rfl (lv_at hl 3 rfl) ?_
                refine lv_iload_n hx hb dX9_factor_161 rfl (lv_at hl 1 rfl) ?_
                refine lv_if_ge (tgt := 169) hx hb dX9_factor_162 (by decide) (fun _ => ?_) (fun c9 => absurd (by decide) c9)
                refine lv_iconst (v := 1) hx hb dX9_factor_169 (by decide) ?_
                refine cv_v (As := [.int 1]) (rest := []) (b := w) ⟨hx, hb, hml, hown, hts⟩ (c_X9_emit hT (w := w) hw (x := 1) hbT hdT hm (hP 0 _ rfl) e2525 (fun e9 => by omega)) (cwV 1 hts gX9_factor_X9_emit rfl rfl rfl hdX9_emit_v ⟨Nat.le_of_ble_eq_true rfl, Nat.le_of_ble_eq_true rfl⟩) hN hE hL (rcv10 hN hT hw.1) rfl rfl hl.1 (Nat.le_of_ble_eq_true rfl) dX9_factor_170 (Nat.zero_le _) (Nat.zero_le _) (fun H1 locs hL hqr2596 => ?_)
                obtain ⟨hT1, hF1, hqr2596⟩ := hqr2596
                have hF := hF.tr (hF1.mono (by simp))
                have hT := hT1
                obtain ⟨f2597, N2598, d2599, e2600, x2601, m2602⟩ := hqr2596
                have hm := m2602
                have hm8 := hm.2.2.2.2.2.2.2
                have nx2601 := x2601.n
                have ox2601 := nx2601.1
                have hbd : B0 ≤ dr := (hT.o26 hdT.1).1
                have hDR := hT.dr hdT d2599
                have hP : va_P D vwCl [(dr, .inl (cs 0, 1383, .inl f2597))] _ := va_P.cons d2599 va_P.nil
                refine lv_aload_n hx hb dX9_factor_173 rfl (lv_at hl 3 rfl) ?_
                refine lv_iload_n hx hb dX9_factor_174 rfl (lv_at hl 0 rfl) ?_
                refine cv_v (As := [.int 3]) (rest := []) (b := w) ⟨hx, hb, hml, hown, hts⟩ (c_X9_emit hT (w := w) hw (x := 3) hbT hdT hm (hP 0 _ rfl) e2600 (fun e9 => by omega)) (cwV 1 hts gX9_factor_X9_emit rfl rfl rfl hdX9_emit_v ⟨Nat.le_of_ble_eq_true rfl, Nat.le_of_ble_eq_true rfl⟩) hN hE hL (rcv10 hN hT hw.1) rfl rfl hl.1 (Nat.le_of_ble_eq_true rfl) dX9_factor_175 (Nat.zero_le _) (Nat.zero_le _) (fun H1 locs hL hqr2604 => ?_)
                obtain ⟨hT1, hF1, hqr2604⟩ := hqr2604
                have hF := hF.tr (hF1.mono (by simp))
                have hT := hT1
                obtain ⟨f2605, N2606, d2607, e2608, x2609, m2610⟩ := hqr2604
                have hm := m2610
                have hm8 := hm.2.2.2.2.2.2.2
                have nx2609 := x2609.n
                have ox2609 := nx2609.1
                have hbd : B0 ≤ dr := (hT.o26 hdT.1).1
                have hDR := hT.dr hdT d2607
                have hP : va_P D vwCl [(dr, .inl (cs 0, 1383, .inl f2605))] _ := va_P.cons d2607 va_P.nil
                have bx2601 := nx2601.2.1
                have bx2609 := nx2609.2.1
                have hbn : N2606 + 2 * pos ≤ N + 2 * p2569 ∧ N2606 ≤ 2 * p2569 := by
                  by_cases e9 : er = 0
                  · omega
                  · have q9 := bx2601 e9; have q8 := bx2609 e9; omega
                exact en_v hx hb hr hlocks hL (Nat.zero_le _) (Nat.zero_le _) dX9_factor_178 (⟨hT, hF, _, p2569, er, hbn.1, (by omega), id, hm, _, hP 0 _ rfl, e2608, hbn.2, (EM.lit x2601 x2609 (by decide) v2525)⟩)
            · have hm := m2564
              have hm8 := hm.2.2.2.2.2.2.2
              refine lv_if_eq (tgt := 128) hx hb dX9_factor_121 (by decide) (fun c9 => absurd c9 (by decide)) (fun _ => ?_)
              refine lv_iconst (v := 2) hx hb dX9_factor_124 (by decide) ?_
              refine lv_goto (tgt := 142) hx hb dX9_factor_125 (by decide) ?_
              refine lv_istore_n (lv' := [(2, .int 2), (1, .int (byF g tl p2531)), (0, .ref w)]) hx hb dX9_factor_142 rfl hl (by decide) rfl (fun ls hl => ?_)
              refine lv_iload_n hx hb dX9_factor_143 rfl (lv_at hl 0 rfl) ?_
              refine lv_if_ge (tgt := 158) hx hb dX9_factor_144 (by decide) (fun _ => ?_) (fun c9 => absurd (by decide) c9)
              refine lv_iload_n hx hb dX9_factor_158 rfl (lv_at hl 0 rfl) ?_
              refine lv_istore_n (lv' := [(3, .int 2), (2, .int 2), (1, .int (byF g tl p2531)), (0, .ref w)]) hx hb dX9_factor_159 rfl hl (by decide) rfl (fun ls hl => ?_)
              refine lv_aload_n hx hb dX9_factor_160 rfl (lv_at hl 3 rfl) ?_
              refine lv_iload_n hx hb dX9_factor_161 rfl (lv_at hl 1 rfl) ?_
              refine lv_if_ge (tgt := 169) hx hb dX9_factor_162 (by decide) (fun _ => ?_) (fun c9 => absurd (by decide) c9)
              refine lv_iconst (v := 1) hx hb dX9_factor_169 (by decide) ?_
              refine cv_v (As := [.int 1]) (rest := []) (b := w) ⟨hx, hb, hml, hown, hts⟩ (c_X9_emit hT (w := w) hw (x := 1) hbT hdT hm (hP 0 _ rfl) e2525 (fun e9 => by omega)) (cwV 1 hts gX9_factor_X9_emit rfl rfl rfl hdX9_emit_v ⟨Nat.le_of_ble_eq_true rfl, Nat.le_of_ble_eq_true rfl⟩) hN hE hL (rcv10 hN hT hw.1) rfl rfl hl.1 (Nat.le_of_ble_eq_true rfl) dX9_factor_170 (Nat.zero_le _) (Nat.zero_le _) (fun H1 locs hL hqr2612 => ?_)
              obtain ⟨hT1, hF1, hqr2612⟩ := hqr2612
              have hF := hF.tr (hF1.mono (by simp))
              have hT := hT1
              obtain ⟨f2613, N2614, d2615, e2616, x2617, m2618⟩ := hqr2612
              have hm := m2618
              have hm8 := hm.2.2.2.2.2.2.2
              have nx2617 := x2617.n
              have ox2617 := nx2617.1
              have hbd : B0 ≤ dr := (hT.o26 hdT.1).1
              have hDR := hT.dr hdT d2615
              have hP : va_P D vwCl [(dr, .inl (cs 0, 1383, .inl f2613))] _ := va_P.cons d2615 va_P.nil
              refine lv_aload_n hx hb dX9_factor_173 rfl (lv_at hl 3 rfl) ?_
              refine lv_iload_n hx hb dX9_factor_174 rfl (lv_at hl 0 rfl) ?_
              refine cv_v (As := [.int 2]) (rest := []) (b := w) ⟨hx, hb, hml, hown, hts⟩ (c_X9_emit hT (w := w) hw (x := 2) hbT hdT hm (hP 0 _ rfl) e2616 (fun e9 => by omega)) (cwV 1 hts gX9_factor_X9_emit rfl rfl rfl hdX9_emit_v ⟨Nat.le_of_ble_eq_true rfl, Nat.le_of_ble_eq_true rfl⟩) hN hE hL (rcv10 hN hT hw.1) rfl rfl hl.1 (Nat.le_of_ble_eq_true rfl) dX9_factor_175 (Nat.zero_le _) (Nat.zero_le _) (fun H1 locs hL hqr2620 => ?_)
              obtain ⟨hT1, hF1, hqr2620⟩ := hqr2620
              have hF := hF.tr (hF1.mono (by simp))
              have hT := hT1
              obtain ⟨f2621, N2622, d2623, e2624, x2625, m2626⟩ := hqr2620
              have hm := m2626
              have hm8 := hm.2.2.2.2.2.2.2
              have nx2625 := x2625.n
              have ox2625 := nx2625.1
              have hbd : B0 ≤ dr := (hT.o26 hdT.1).1
              have hDR := hT.dr hdT d2623
              have hP : va_P D vwCl [(dr, .inl (cs 0, 1383, .inl f2621))] _ := va_P.cons d2623 va_P.nil
              have bx2617 := nx2617.2.1
              have bx2625 := nx2625.2.1
              have hbn : N2622 + 2 * pos ≤ N + 2 * p2561 ∧ N2622 ≤ 2 * p2561 := by
                by_cases e9 : er = 0
                · omega
                · have q9 := bx2617 e9; have q8 := bx2625 e9; omega
              exact en_v hx hb hr hlocks hL (Nat.zero_le _) (Nat.zero_le _) dX9_factor_178 (⟨hT, hF, _, p2561, er, hbn.1, (by omega), id, hm, _, hP 0 _ rfl, e2624, hbn.2, (EM.lit x2617 x2625 (by decide) v2525)⟩)
          · have hm := m2556
            have hm8 := hm.2.2.2.2.2.2.2
            refine lv_if_eq (tgt := 115) hx hb dX9_factor_108 (by decide) (fun c9 => absurd c9 (by decide)) (fun _ => ?_)
            refine lv_iconst (v := 1) hx hb dX9_factor_111 (by decide) ?_
            refine lv_goto (tgt := 142) hx hb dX9_factor_112 (by decide) ?_
            refine lv_istore_n (lv' := [(2, .int 1), (1, .int (byF g tl p2531)), (0, .ref w)]) hx hb dX9_factor_142 rfl hl (by decide) rfl (fun ls hl => ?_)
            refine lv_iload_n hx hb dX9_factor_143 rfl (lv_at hl 0 rfl) ?_
            refine lv_if_ge (tgt := 158) hx hb dX9_factor_144 (by decide) (fun _ => ?_) (fun c9 => absurd (by decide) c9)
            refine lv_iload_n hx hb dX9_factor_158 rfl (lv_at hl 0 rfl) ?_
            refine lv_istore_n (lv' := [(3, .int 1), (2, .int 1), (1, .int (byF g tl p2531)), (0, .ref w)]) hx hb dX9_factor_159 rfl hl (by decide) rfl (fun ls hl => ?_)
            refine lv_aload_n hx hb dX9_factor_160 rfl (lv_at hl 3 rfl) ?_
            refine lv_iload_n hx hb dX9_factor_161 rfl (lv_at hl 1 rfl) ?_
            refine lv_if_ge (tgt := 169) hx hb dX9_factor_162 (by decide) (fun _ => ?_) (fun c9 => absurd (by decide) c9)
            refine lv_iconst (v := 1) hx hb dX9_factor_169 (by decide) ?_
            refine cv_v (As := [.int 1]) (rest := []) (b := w) ⟨hx, hb, hml, hown, hts⟩ (c_X9_emit hT (w := w) hw (x := 1) hbT hdT hm (hP 0 _ rfl) e2525 (fun e9 => by omega)) (cwV 1 hts gX9_factor_X9_emit rfl rfl rfl hdX9_emit_v ⟨Nat.le_of_ble_eq_true rfl, Nat.le_of_ble_eq_true rfl⟩) hN hE hL (rcv10 hN hT hw.1) rfl rfl hl.1 (Nat.le_of_ble_eq_true rfl) dX9_factor_170 (Nat.zero_le _) (Nat.zero_le _) (fun H1 locs hL hqr2628 => ?_)
            obtain ⟨hT1, hF1, hqr2628⟩ := hqr2628
            have hF := hF.tr (hF1.mono (by simp))
            have hT := hT1
            obtain ⟨f2629, N2630, d2631, e2632, x2633, m2634⟩ := hqr2628
            have hm := m2634
            have hm8 := hm.2.2.2.2.2.2.2
            have nx2633 := x2633.n
            have ox2633 := nx2633.1
            have hbd : B0 ≤ dr := (hT.o26 hdT.1).1
            have hDR := hT.dr hdT d2631
            have hP : va_P D vwCl [(dr, .inl (cs 0, 1383, .inl f2629))] _ := va_P.cons d2631 va_P.nil
            refine lv_aload_n hx hb dX9_factor_173 rfl (lv_at hl 3 rfl) ?_
            refine lv_iload_n hx hb dX9_factor_174 rfl (lv_at hl 0 rfl) ?_
            refine cv_v (As := [.int 1]) (rest := []) (b := w) ⟨hx, hb, hml, hown, hts⟩ (c_X9_emit hT (w := w) hw (x := 1) hbT hdT hm (hP 0 _ rfl) e2632 (fun e9 => by omega)) (cwV 1 hts gX9_factor_X9_emit rfl rfl rfl hdX9_emit_v ⟨Nat.le_of_ble_eq_true rfl, Nat.le_of_ble_eq_true rfl⟩) hN hE hL (rcv10 hN hT hw.1) rfl rfl hl.1 (Nat.le_of_ble_eq_true rfl) dX9_factor_175 (Nat.zero_le _) (Nat.zero_le _) (fun H1 locs hL hqr2636 => ?_)
            obtain ⟨hT1, hF1, hqr2636⟩ := hqr2636
            have hF := hF.tr (hF1.mono (by simp))
            have hT := hT1
            obtain ⟨f2637, N2638, d2639, e2640, x2641, m2642⟩ := hqr2636
            have hm := m2642
            have hm8 := hm.2.2.2.2.2.2.2
            have nx2641 := x2641.n
            have ox2641 := nx2641.1
            have hbd : B0 ≤ dr := (hT.o26 hdT.1).1
            have hDR := hT.dr hdT d2639
            have hP : va_P D vwCl [(dr, .inl (cs 0, 1383, .inl f2637))] _ := va_P.cons d2639 va_P.nil
            have bx2633 := nx2633.2.1
            have bx2641 := nx2641.2.1
            have hbn : N2638 + 2 * pos ≤ N + 2 * p2553 ∧ N2638 ≤ 2 * p2553 := by
              by_cases e9 : er = 0
              · omega
              · have q9 := bx2633 e9; have q8 := bx2641 e9; omega
            exact en_v hx hb hr hlocks hL (Nat.zero_le _) (Nat.zero_le _) dX9_factor_178 (⟨hT, hF, _, p2553, er, hbn.1, (by omega), id, hm, _, hP 0 _ rfl, e2640, hbn.2, (EM.lit x2633 x2641 (by decide) v2525)⟩)
        · have hm := m2548
          have hm8 := hm.2.2.2.2.2.2.2
          refine lv_if_eq (tgt := 102) hx hb dX9_factor_95 (by decide) (fun c9 => absurd c9 (by decide)) (fun _ => ?_)
          refine lv_iconst (v := 0) hx hb dX9_factor_98 (by decide) ?_
          refine lv_goto (tgt := 142) hx hb dX9_factor_99 (by decide) ?_
          refine lv_istore_n (lv' := [(2, .int 0), (1, .int (byF g tl p2531)), (0, .ref w)]) hx hb dX9_factor_142 rfl hl (by decide) rfl (fun ls hl => ?_)
          refine lv_iload_n hx hb dX9_factor_143 rfl (lv_at hl 0 rfl) ?_
          refine lv_if_ge (tgt := 158) hx hb dX9_factor_144 (by decide) (fun _ => ?_) (fun c9 => absurd (by decide) c9)
          refine lv_iload_n hx hb dX9_factor_158 rfl (lv_at hl 0 rfl) ?_
          refine lv_istore_n (lv' := [(3, .int 0), (2, .int 0), (1, .int (byF g tl p2531)), (0, .ref w)]) hx hb dX9_factor_159 rfl hl (by decide) rfl (fun ls hl => ?_)
          refine lv_aload_n hx hb dX9_factor_160 rfl (lv_at hl 3 rfl) ?_
          refine lv_iload_n hx hb dX9_factor_161 rfl (lv_at hl 1 rfl) ?_
          refine lv_if_ge (tgt := 169) hx hb dX9_factor_162 (by decide) (fun _ => ?_) (fun c9 => absurd (by decide) c9)
          refine lv_iconst (v := 1) hx hb dX9_factor_169 (by decide) ?_
          refine cv_v (As := [.int 1]) (rest := []) (b := w) ⟨hx, hb, hml, hown, hts⟩ (c_X9_emit hT (w := w) hw (x := 1) hbT hdT hm (hP 0 _ rfl) e2525 (fun e9 => by omega)) (cwV 1 hts gX9_factor_X9_emit rfl rfl rfl hdX9_emit_v ⟨Nat.le_of_ble_eq_true rfl, Nat.le_of_ble_eq_true rfl⟩) hN hE hL (rcv10 hN hT hw.1) rfl rfl hl.1 (Nat.le_of_ble_eq_true rfl) dX9_factor_170 (Nat.zero_le _) (Nat.zero_le _) (fun H1 locs hL hqr2644 => ?_)
          obtain ⟨hT1, hF1, hqr2644⟩ := hqr2644
          have hF := hF.tr (hF1.mono (by simp))
          have hT := hT1
          obtain ⟨f2645, N2646, d2647, e2648, x2649, m2650⟩ := hqr2644
          have hm := m2650
          have hm8 := hm.2.2.2.2.2.2.2
          have nx2649 := x2649.n
          have ox2649 := nx2649.1
          have hbd : B0 ≤ dr := (hT.o26 hdT.1).1
          have hDR := hT.dr hdT d2647
          have hP : va_P D vwCl [(dr, .inl (cs 0, 1383, .inl f2645))] _ := va_P.cons d2647 va_P.nil
          refine lv_aload_n hx hb dX9_factor_173 rfl (lv_at hl 3 rfl) ?_
          refine lv_iload_n hx hb dX9_factor_174 rfl (lv_at hl 0 rfl) ?_
          refine cv_v (As := [.int 0]) (rest := []) (b := w) ⟨hx, hb, hml, hown, hts⟩ (c_X9_emit hT (w := w) hw (x := 0) hbT hdT hm (hP 0 _ rfl) e2648 (fun e9 => by omega)) (cwV 1 hts gX9_factor_X9_emit rfl rfl rfl hdX9_emit_v ⟨Nat.le_of_ble_eq_true rfl, Nat.le_of_ble_eq_true rfl⟩) hN hE hL (rcv10 hN hT hw.1) rfl rfl hl.1 (Nat.le_of_ble_eq_true rfl) dX9_factor_175 (Nat.zero_le _) (Nat.zero_le _) (fun H1 locs hL hqr2652 => ?_)
          obtain ⟨hT1, hF1, hqr2652⟩ := hqr2652
          have hF := hF.tr (hF1.mono (by simp))
          have hT := hT1
          obtain ⟨f2653, N2654, d2655, e2656, x2657, m2658⟩ := hqr2652
          have hm := m2658
          have hm8 := hm.2.2.2.2.2.2.2
          have nx2657 := x2657.n
          have ox2657 := nx2657.1
          have hbd : B0 ≤ dr := (hT.o26 hdT.1).1
          have hDR := hT.dr hdT d2655
          have hP : va_P D vwCl [(dr, .inl (cs 0, 1383, .inl f2653))] _ := va_P.cons d2655 va_P.nil
          have bx2649 := nx2649.2.1
          have bx2657 := nx2657.2.1
          have hbn : N2654 + 2 * pos ≤ N + 2 * p2545 ∧ N2654 ≤ 2 * p2545 := by
            by_cases e9 : er = 0
            · omega
            · have q9 := bx2649 e9; have q8 := bx2657 e9; omega
          exact en_v hx hb hr hlocks hL (Nat.zero_le _) (Nat.zero_le _) dX9_factor_178 (⟨hT, hF, _, p2545, er, hbn.1, (by omega), id, hm, _, hP 0 _ rfl, e2656, hbn.2, (EM.lit x2649 x2657 (by decide) v2525)⟩)
      · refine lv_if_eq (tgt := 89) hx hb dX9_factor_82 (by decide) (fun c9 => absurd c9 (by decide)) (fun _ => ?_)
        refine lv_iconst (v := (-1)) hx hb dX9_factor_85 (by decide) ?_
        refine lv_goto (tgt := 142) hx hb dX9_factor_86 (by decide) ?_
        refine lv_istore_n (lv' := [(2, .int (-1)), (1, .int (byF g tl p2531)), (0, .ref w)]) hx hb dX9_factor_142 rfl hl (by decide) rfl (fun ls hl => ?_)
        refine lv_iload_n hx hb dX9_factor_143 rfl (lv_at hl 0 rfl) ?_
        refine lv_if_ge (tgt := 158) hx hb dX9_factor_144 (by decide) (fun c9 => absurd c9 (by decide)) (fun _ => ?_)
        refine lv_aload_n hx hb dX9_factor_147 rfl (lv_at hl 2 rfl) ?_
        refine lv_iconst (v := 0) hx hb dX9_factor_148 (by decide) ?_
        refine lv_sipush (v := 9999) hx hb dX9_factor_149 (by decide) ?_
        refine cv_i (As := [.int 0, .int 9999]) (rest := []) (b := w) ⟨hx, hb, hml, hown, hts⟩ (c_X9_number hT (w := w) hw (x := 0) (y := 9999) hbT hdT hm) (cwV 2 hts gX9_factor_X9_number rfl rfl rfl hdX9_number_v ⟨Nat.le_of_ble_eq_true rfl, Nat.le_of_ble_eq_true rfl⟩) hN hE hL (rcv10 hN hT hw.1) rfl rfl hl.1 (Nat.le_of_ble_eq_true rfl) dX9_factor_152 (Nat.zero_le _) (Nat.zero_le _) (fun r2660 H1 locs hL hqr2660 => ?_)
        obtain ⟨hT1, hF1, hqr2660⟩ := hqr2660
        have hP : va_P D vwCl [(dr, .inl (cs 0, 1383, .inl f2525))] _ := hF1.hP (hP.sub [0] rfl) (fa_c ⟨by rw [hdT.1]; decide, by rw [hdT.2]; first | decide | (simp; done) | (simp; omega)⟩ fa_n)
        have hF := hF.tr (hF1.mono (by simp))
        have hT := hT1
        obtain ⟨p2661, er2662, a2663, z2664, m2665, q2666⟩ := hqr2660
        have hm := m2665
        have hm8 := hm.2.2.2.2.2.2.2
        refine lv_goto (tgt := 159) hx hb dX9_factor_155 (by decide) ?_
        refine lv_istore_n (lv' := [(3, .int r2660), (2, .int (-1)), (1, .int (byF g tl p2531)), (0, .ref w)]) hx hb dX9_factor_159 rfl hl (by decide) rfl (fun ls hl => ?_)
        refine lv_aload_n hx hb dX9_factor_160 rfl (lv_at hl 3 rfl) ?_
        refine lv_iload_n hx hb dX9_factor_161 rfl (lv_at hl 1 rfl) ?_
        refine lv_if_ge (tgt := 169) hx hb dX9_factor_162 (by decide) (fun c9 => absurd c9 (by decide)) (fun _ => ?_)
        refine lv_iconst (v := 0) hx hb dX9_factor_165 (by decide) ?_
        refine lv_goto (tgt := 170) hx hb dX9_factor_166 (by decide) ?_
        refine cv_v (As := [.int 0]) (rest := []) (b := w) ⟨hx, hb, hml, hown, hts⟩ (c_X9_emit hT (w := w) hw (x := 0) hbT hdT hm (hP 0 _ rfl) e2525 (fun e9 => by have q9 := (z2664 e9).2; omega)) (cwV 1 hts gX9_factor_X9_emit rfl rfl rfl hdX9_emit_v ⟨Nat.le_of_ble_eq_true rfl, Nat.le_of_ble_eq_true rfl⟩) hN hE hL (rcv10 hN hT hw.1) rfl rfl hl.1 (Nat.le_of_ble_eq_true rfl) dX9_factor_170 (Nat.zero_le _) (Nat.zero_le _) (fun H1 locs hL hqr2667 => ?_)
        obtain ⟨hT1, hF1, hqr2667⟩ := hqr2667
        have hF := hF.tr (hF1.mono (by simp))
        have hT := hT1
        obtain ⟨f2668, N2669, d2670, e2671, x2672, m2673⟩ := hqr2667
        have hm := m2673
        have hm8 := hm.2.2.2.2.2.2.2
        have nx2672 := x2672.n
        have ox2672 := nx2672.1
        have hbd : B0 ≤ dr := (hT.o26 hdT.1).1
        have hDR := hT.dr hdT d2670
        have hP : va_P D vwCl [(dr, .inl (cs 0, 1383, .inl f2668))] _ := va_P.cons d2670 va_P.nil
        refine lv_aload_n hx hb dX9_factor_173 rfl (lv_at hl 3 rfl) ?_
        refine lv_iload_n hx hb dX9_factor_174 rfl (lv_at hl 0 rfl) ?_
        refine cv_v (As := [.int r2660]) (rest := []) (b := w) ⟨hx, hb, hml, hown, hts⟩ (c_X9_emit hT (w := w) hw (x := r2660) hbT hdT hm (hP 0 _ rfl) e2671 (fun e9 => by have q9 := (z2664 e9).2; omega)) (cwV 1 hts gX9_factor_X9_emit rfl rfl rfl hdX9_emit_v ⟨Nat.le_of_ble_eq_true rfl, Nat.le_of_ble_eq_true rfl⟩) hN hE hL (rcv10 hN hT hw.1) rfl rfl hl.1 (Nat.le_of_ble_eq_true rfl) dX9_factor_175 (Nat.zero_le _) (Nat.zero_le _) (fun H1 locs hL hqr2675 => ?_)
        obtain ⟨hT1, hF1, hqr2675⟩ := hqr2675
        have hF := hF.tr (hF1.mono (by simp))
        have hT := hT1
        obtain ⟨f2676, N2677, d2678, e2679, x2680, m2681⟩ := hqr2675
        have hm := m2681
        have hm8 := hm.2.2.2.2.2.2.2
        have nx2680 := x2680.n
        have ox2680 := nx2680.1
        have hbd : B0 ≤ dr := (hT.o26 hdT.1).1
        have hDR := hT.dr hdT d2678
        have hP : va_P D vwCl [(dr, .inl (cs 0, 1383, .inl f2676))] _ := va_P.cons d2678 va_P.nil
        have bx2672 := nx2672.2.1
        have bx2680 := nx2680.2.1
        have hbn : N2677 + 2 * pos ≤ N + 2 * p2661 ∧ N2677 ≤ 2 * p2661 := by
          by_cases e9 : er2662 = 0
          · have q9 := (z2664 e9).2; omega
          · have q9 := bx2672 e9; have q8 := bx2680 e9; omega
        exact en_v hx hb hr hlocks hL (Nat.zero_le _) (Nat.zero_le _) dX9_factor_178 (⟨hT, hF, _, p2661, er2662, hbn.1, (by omega), (fun e9 => id ((fun e9 => (z2664 e9).1) e9)), hm, _, hP 0 _ rfl, e2679, hbn.2, (EM.lit x2672 x2680 (by decide) (fun e9 => v2525 ((fun e9 => (z2664 e9).1) e9)))⟩)
    · have hl9 := byF_c (c2536) (by decide)
      refine lv_aload_n hx hb dX9_factor_19 rfl (lv_at hl 1 rfl) ?_
      obtain ⟨hb2683, e2683, hat2683, hk2683⟩ := hT.o10 hw.1
      obtain ⟨f2683_0, f2683_1, f2683_3, f2683_4, f2683_5, f2683_6, f2683_7, f2683_9, f2683_10, f2683_11, f2683_12, f2683_13, f2683_14, f2683_15, f2683_16, f2683_17, rfl, c2683_2, c2683_3, c2683_4, c2683_12, t2683_1, t2683_8, t2683_9, c2683_sd, t2683_10, t2683_11, t2683_17⟩ := hk2683
      obtain ⟨rfl, rfl, rfl, rfl, rfl, rfl⟩ := hm.at hat2683 c2683_3 (by omega)
      have hm8 := hm.2.2.2.2.2.2.2
      have hP : va_P D vwCl [(w, .inr (9, [.int f2683_0, .ref bu, .int (nI ((κ w).2.2.1)), .int (nI tl), .int (nI p2531), .int er, .int f2683_6, .int f2683_7, .ref (κ w).2.2.2, .ref f2683_9, .ref dr, .ref f2683_11, .int (nI f2683_12), .int f2683_13, .int 3, .int f2683_15, .int f2683_16, .ref f2683_17])), (dr, .inl (cs 0, 1383, .inl f2525))] _ := va_P.cons hat2683 hP
      refine va_get (D := D) (ci := 9) (v := .int 3) (C := RX9) (T := TX9) (N := 18) hx hb hts iX9_factor_9 hown hN.1 hP 0 rfl rfl 14 (by decide) (hts _ mX9_factor_1) (fun _ h9 => h9) rfl dX9_factor_20 ?_
      refine lv_iconst (v := 4) hx hb dX9_factor_23 (by decide) ?_
      refine lv_icmp_ne (tgt := 37) hx hb dX9_factor_24 (by decide) (fun _ => ?_) (fun c9 => absurd c9 (by decide))
      refine lv_aload_n hx hb dX9_factor_37 rfl (lv_at hl 1 rfl) ?_
      refine lv_dup hx hb dX9_factor_38 rfl ?_
      refine va_get (D := D) (ci := 9) (v := .int (nI p2531)) (C := RX9) (T := TX9) (N := 18) hx hb hts iX9_factor_9 hown hN.1 hP 0 rfl rfl 4 (by decide) (hts _ mX9_factor_2) (fun _ h9 => h9) rfl dX9_factor_39 ?_
      refine lv_iconst (v := 1) hx hb dX9_factor_42 (by decide) ?_
      refine lv_iadd hx hb dX9_factor_43 ?_
      refine tp_i (nI (p2531 + 1)) (nI_add p2531 1) ?_
      have hB : Bx B0 D _ [(w, .inr (9, [.int f2683_0, .ref bu, .int (nI ((κ w).2.2.1)), .int (nI tl), .int (nI p2531), .int er, .int f2683_6, .int f2683_7, .ref (κ w).2.2.2, .ref f2683_9, .ref dr, .ref f2683_11, .int (nI f2683_12), .int f2683_13, .int 3, .int f2683_15, .int f2683_16, .ref f2683_17])), (dr, .inl (cs 0, 1383, .inl f2525))] [] _ _ := Bx.of (fun a => (κ a).1) hL hP (fa_c hb2683 (fa_c hbd fa_n)) (by simp only [List.map_cons, List.map_nil, hw.1, hdT.1]; decide)
      refine b_put (D := D) (ci := 9) (v := .int (nI (p2531 + 1))) (ty := .int) (C := RX9) (T := TX9) (N := 18) hx hb hts iX9_factor_9 tyX9 tyX9_ok nmX9 hown hN hB 0 rfl rfl 4 (by decide) (hts _ mX9_factor_2) (fun _ h9 => h9) rfl (by decide +kernel) rfl rfl (Nat.le_of_ble_eq_true rfl) (.inl rfl) dX9_factor_44 (fun H locs hB => ?_)
      have hB : Bx B0 D _ [(w, .inr (9, [.int f2683_0, .ref bu, .int (nI ((κ w).2.2.1)), .int (nI tl), .int (nI (p2531 + 1)), .int er, .int f2683_6, .int f2683_7, .ref (κ w).2.2.2, .ref f2683_9, .ref dr, .ref f2683_11, .int (nI f2683_12), .int f2683_13, .int 3, .int f2683_15, .int f2683_16, .ref f2683_17])), (dr, .inl (cs 0, 1383, .inl f2525))] [w] _ _ := hB
      refine lv_aload_n hx hb dX9_factor_47 rfl (lv_at hl 1 rfl) ?_
      refine lv_dup hx hb dX9_factor_48 rfl ?_
      refine va_get (D := D) (ci := 9) (v := .int 3) (C := RX9) (T := TX9) (N := 18) hx hb hts iX9_factor_9 hown hN.1 hB.1 0 rfl rfl 14 (by decide) (hts _ mX9_factor_1) (fun _ h9 => h9) rfl dX9_factor_49 ?_
      refine lv_iconst (v := 1) hx hb dX9_factor_52 (by decide) ?_
      refine lv_iadd hx hb dX9_factor_53 ?_
      refine tp_i 4 (by decide) ?_
      refine b_put (D := D) (ci := 9) (v := .int 4) (ty := .int) (C := RX9) (T := TX9) (N := 18) hx hb hts iX9_factor_9 tyX9 tyX9_ok nmX9 hown hN hB 0 rfl rfl 14 (by decide) (hts _ mX9_factor_1) (fun _ h9 => h9) rfl (by decide +kernel) rfl rfl (Nat.le_of_ble_eq_true rfl) (.inr ⟨rfl, List.mem_of_getElem? (i := 0) rfl⟩) dX9_factor_54 (fun H locs hB => ?_)
      have hB : Bx B0 D _ [(w, .inr (9, [.int f2683_0, .ref bu, .int (nI ((κ w).2.2.1)), .int (nI tl), .int (nI (p2531 + 1)), .int er, .int f2683_6, .int f2683_7, .ref (κ w).2.2.2, .ref f2683_9, .ref dr, .ref f2683_11, .int (nI f2683_12), .int f2683_13, .int 4, .int f2683_15, .int f2683_16, .ref f2683_17])), (dr, .inl (cs 0, 1383, .inl f2525))] [w] _ _ := hB
      refine lv_aload_n hx hb dX9_factor_57 rfl (lv_at hl 1 rfl) ?_
      have hT : WT B0 D cs T κ _ := hT.close hB ⟨⟨0, _, rfl, ok_10 hw.1 ⟨_, _, _, _, _, _, _, _, _, _, _, _, _, _, _, _, rfl, (by omega), (by omega), (by omega), (by omega), hbT, t2683_8, t2683_9, c2683_sd, hdT, t2683_11, t2683_17⟩⟩, trivial⟩
      have hF : Fr B0 [12, 17] κ H0 _ := hF.close hB (fa_c (by simp [hw.2]) fa_n)
      have hL : OkL B0 _ := hB.2.2.2.2.2
      have hP : va_P D vwCl [(w, .inr (9, [.int f2683_0, .ref bu, .int (nI ((κ w).2.2.1)), .int (nI tl), .int (nI (p2531 + 1)), .int er, .int f2683_6, .int f2683_7, .ref (κ w).2.2.2, .ref f2683_9, .ref dr, .ref f2683_11, .int (nI f2683_12), .int f2683_13, .int 4, .int f2683_15, .int f2683_16, .ref f2683_17])), (dr, .inl (cs 0, 1383, .inl f2525))] _ := hB.1
      have hbu9 := (hm.2.2.2.2.2.2.1).kept (hB.2.2.2.1 _ hm.2.2.2.2.2.2.1.lt (by simp only [List.mem_cons, List.not_mem_nil, or_false, not_or]; exact ne_c hbT.1 hw.1 (by decide)))
      have hm : MF D cs w _ ((p2531 + 1)) (tl) (er) (4) dr bu g := ⟨⟨_, hP 0 _ rfl, rfl⟩, ⟨_, hP 0 _ rfl, rfl⟩, ⟨_, hP 0 _ rfl, rfl⟩, ⟨_, hP 0 _ rfl, rfl⟩, ⟨_, hP 0 _ rfl, rfl⟩, ⟨_, hP 0 _ rfl, rfl⟩, hbu9, (by omega), (by omega)⟩
      have hps : PS D cs w _ ((p2531 + 1)) (tl) (er) (4) dr bu g (N) (h) := ⟨hm, f2525, hP 1 _ rfl, e2525, by omega, v2525⟩
      refine cv_v (As := []) (rest := []) (b := w) ⟨hx, hb, hml, hown, hts⟩ (c_X9_readSum_d4 hT (w := w) hw hbT hdT hps) (cwV 0 hts gX9_factor_X9_readSum rfl rfl rfl hdX9_readSum_v ⟨Nat.le_of_ble_eq_true rfl, Nat.le_of_ble_eq_true rfl⟩) hN hE hL (rcv10 hN hT hw.1) rfl rfl hl.1 (Nat.le_of_ble_eq_true rfl) dX9_factor_58 (Nat.zero_le _) (Nat.zero_le _) (fun H1 locs hL hqr2684 => ?_)
      obtain ⟨hT1, hF1, hqr2684⟩ := hqr2684
      have hF := hF.tr (hF1.mono (by simp))
      have hT := hT1
      obtain ⟨N2685, p2686, er2687, a2688, b2689, z2690, m2691, f2692, d2693, e2694, n2695, v2696⟩ := hqr2684
      have hm := m2691
      have hm8 := hm.2.2.2.2.2.2.2
      have hbd : B0 ≤ dr := (hT.o26 hdT.1).1
      have hDR := hT.dr hdT d2693
      have hP : va_P D vwCl [(dr, .inl (cs 0, 1383, .inl f2692))] _ := va_P.cons d2693 va_P.nil
      refine lv_aload_n hx hb dX9_factor_61 rfl (lv_at hl 1 rfl) ?_
      refine lv_bipush (v := 41) hx hb dX9_factor_62 (by decide) ?_
      refine cv_v (As := [.int 41]) (rest := []) (b := w) ⟨hx, hb, hml, hown, hts⟩ (c_X9_expect hT (w := w) hw (x := 41) hbT hdT hm ((by decide))) (cwV 1 hts gX9_factor_X9_expect rfl rfl rfl hdX9_expect_v ⟨Nat.le_of_ble_eq_true rfl, Nat.le_of_ble_eq_true rfl⟩) hN hE hL (rcv10 hN hT hw.1) rfl rfl hl.1 (Nat.le_of_ble_eq_true rfl) dX9_factor_64 (Nat.zero_le _) (Nat.zero_le _) (fun H1 locs hL hqr2698 => ?_)
      obtain ⟨hT1, hF1, hqr2698⟩ := hqr2698
      have hP : va_P D vwCl [(dr, .inl (cs 0, 1383, .inl f2692))] _ := hF1.hP (hP.sub [0] rfl) (fa_c ⟨by rw [hdT.1]; decide, by rw [hdT.2]; first | decide | (simp; done) | (simp; omega)⟩ fa_n)
      have hF := hF.tr (hF1.mono (by simp))
      have hT := hT1
      obtain ⟨p2699, er2700, a2701, z2702, m2703⟩ := hqr2698
      have hm := m2703
      have hm8 := hm.2.2.2.2.2.2.2
      refine lv_aload_n hx hb dX9_factor_67 rfl (lv_at hl 1 rfl) ?_
      refine lv_dup hx hb dX9_factor_68 rfl ?_
      obtain ⟨hb2704, e2704, hat2704, hk2704⟩ := hT.o10 hw.1
      obtain ⟨f2704_0, f2704_1, f2704_3, f2704_4, f2704_5, f2704_6, f2704_7, f2704_9, f2704_10, f2704_11, f2704_12, f2704_13, f2704_14, f2704_15, f2704_16, f2704_17, rfl, c2704_2, c2704_3, c2704_4, c2704_12, t2704_1, t2704_8, t2704_9, c2704_sd, t2704_10, t2704_11, t2704_17⟩ := hk2704
      obtain ⟨rfl, rfl, rfl, rfl, rfl, rfl⟩ := hm.at hat2704 c2704_3 (by omega)
      have hm8 := hm.2.2.2.2.2.2.2
      have hP : va_P D vwCl [(w, .inr (9, [.int f2704_0, .ref bu, .int (nI ((κ w).2.2.1)), .int (nI tl), .int (nI p2699), .int er2700, .int f2704_6, .int f2704_7, .ref (κ w).2.2.2, .ref f2704_9, .ref dr, .ref f2704_11, .int (nI f2704_12), .int f2704_13, .int 4, .int f2704_15, .int f2704_16, .ref f2704_17])), (dr, .inl (cs 0, 1383, .inl f2692))] _ := va_P.cons hat2704 hP
      refine va_get (D := D) (ci := 9) (v := .int 4) (C := RX9) (T := TX9) (N := 18) hx hb hts iX9_factor_9 hown hN.1 hP 0 rfl rfl 14 (by decide) (hts _ mX9_factor_1) (fun _ h9 => h9) rfl dX9_factor_69 ?_
      refine lv_iconst (v := 1) hx hb dX9_factor_72 (by decide) ?_
      refine lv_isub hx hb dX9_factor_73 ?_
      refine tp_i 3 (by decide) ?_
      have hB : Bx B0 D _ [(w, .inr (9, [.int f2704_0, .ref bu, .int (nI ((κ w).2.2.1)), .int (nI tl), .int (nI p2699), .int er2700, .int f2704_6, .int f2704_7, .ref (κ w).2.2.2, .ref f2704_9, .ref dr, .ref f2704_11, .int (nI f2704_12), .int f2704_13, .int 4, .int f2704_15, .int f2704_16, .ref f2704_17])), (dr, .inl (cs 0, 1383, .inl f2692))] [] _ _ := Bx.of (fun a => (κ a).1) hL hP (fa_c hb2704 (fa_c hbd fa_n)) (by simp only [List.map_cons, List.map_nil, hw.1, hdT.1]; decide)
      refine b_put (D := D) (ci := 9) (v := .int 3) (ty := .int) (C := RX9) (T := TX9) (N := 18) hx hb hts iX9_factor_9 tyX9 tyX9_ok nmX9 hown hN hB 0 rfl rfl 14 (by decide) (hts _ mX9_factor_1) (fun _ h9 => h9) rfl (by decide +kernel) rfl rfl (Nat.le_of_ble_eq_true rfl) (.inl rfl) dX9_factor_74 (fun H locs hB => ?_)
      have hB : Bx B0 D _ [(w, .inr (9, [.int f2704_0, .ref bu, .int (nI ((κ w).2.2.1)), .int (nI tl), .int (nI p2699), .int er2700, .int f2704_6, .int f2704_7, .ref (κ w).2.2.2, .ref f2704_9, .ref dr, .ref f2704_11, .int (nI f2704_12), .int f2704_13, .int 3, .int f2704_15, .int f2704_16, .ref f2704_17])), (dr, .inl (cs 0, 1383, .inl f2692))] [w] _ _ := hB
      have hT : WT B0 D cs T κ _ := hT.close hB ⟨⟨0, _, rfl, ok_10 hw.1 ⟨_, _, _, _, _, _, _, _, _, _, _, _, _, _, _, _, rfl, (by omega), (by omega), (by omega), (by omega), hbT, t2704_8, t2704_9, c2704_sd, hdT, t2704_11, t2704_17⟩⟩, trivial⟩
      have hF : Fr B0 [12, 17] κ H0 _ := hF.close hB (fa_c (by simp [hw.2]) fa_n)
      have hL : OkL B0 _ := hB.2.2.2.2.2
      have hP : va_P D vwCl [(w, .inr (9, [.int f2704_0, .ref bu, .int (nI ((κ w).2.2.1)), .int (nI tl), .int (nI p2699), .int er2700, .int f2704_6, .int f2704_7, .ref (κ w).2.2.2, .ref f2704_9, .ref dr, .ref f2704_11, .int (nI f2704_12), .int f2704_13, .int 3, .int f2704_15, .int f2704_16, .ref f2704_17])), (dr, .inl (cs 0, 1383, .inl f2692))] _ := hB.1
      have hbu9 := (hm.2.2.2.2.2.2.1).kept (hB.2.2.2.1 _ hm.2.2.2.2.2.2.1.lt (by simp only [List.mem_cons, List.not_mem_nil, or_false, not_or]; exact ne_c hbT.1 hw.1 (by decide)))
      have hm : MF D cs w _ (p2699) (tl) (er2700) (3) dr bu g := ⟨⟨_, hP 0 _ rfl, rfl⟩, ⟨_, hP 0 _ rfl, rfl⟩, ⟨_, hP 0 _ rfl, rfl⟩, ⟨_, hP 0 _ rfl, rfl⟩, ⟨_, hP 0 _ rfl, rfl⟩, ⟨_, hP 0 _ rfl, rfl⟩, hbu9, (by omega), (by omega)⟩
      exact en_v hx hb hr hlocks hL (Nat.zero_le _) (Nat.zero_le _) dX9_factor_77 (⟨hT, hF, N2685, p2699, er2700, (by omega), (by omega), (fun e9 => (fun e9 => id (z2690 e9)) (z2702 e9)), hm, _, hP 1 _ rfl, e2694, (by omega), (fun e9 => v2696 (z2702 e9))⟩)
  · refine lv_if_ne (tgt := 8) hx hb dX9_factor_4 (by decide) (fun c9 => absurd (by decide) c9) (fun _ => ?_)
    exact en_v hx hb hr hlocks hL (Nat.zero_le _) (Nat.zero_le _) dX9_factor_7 (⟨hT, hF, N, pos, er, (by omega), (by omega), id, hm, f2525, hP 0 _ rfl, e2525, (by omega), (fun e9 => absurd e9 e2529)⟩)
set_option maxHeartbeats 4000000 in
set_option maxRecDepth 100000 in
theorem c_X9_term_d3 {l : Launch} {D : va_G} {cs : Nat → ClassId} {B0 T : Nat} {κ : KM} {H0 : Heap} (hT : WT B0 D cs T κ H0) {w : Nat} (hw : T2 κ w 10 12) {pos tl : Nat} {er : Int32} {dr bu : Nat} {g : Nat → Int32} {N h : Nat} (hbT : T2 κ bu 23 14) (hdT : T2 κ dr 26 17) (hps : PS D cs w H0 pos tl er 3 dr bu g N h) : KC l yX9_term wsX9_term 9 195 0 0 D cs B0 H0 [.ref w] (Qv (fun H => WT B0 D cs T κ H ∧ Fr B0 [12, 17] κ H0 H ∧ ∃ N1 pos1 er1, N1 + 2 * pos ≤ N + 2 * pos1 ∧ pos ≤ pos1 ∧ (er1 = 0 → er = 0) ∧ PS D cs w H pos1 tl er1 3 dr bu g N1 (h + 1))) := by
  refine KC.of cX9_term 2 none (by decide) rfl (Nat.le_of_ble_eq_true rfl) ?_
  intro p e s m below meth c ls hx hb hr hml hown hts hlocks hin hN hE hH0 hl
  have hown : s.vm.findClass RX9 = some m.cls := hown
  have hl : lv_has ls 2 [(0, .ref w)] := hl
  have hL : OkL B0 [] := OkL.nil
  have hF : Fr B0 [12, 17] κ H0 H0 := Fr.rf
  obtain ⟨hm, f2705, hd2705, e2705, n2705, v2705⟩ := hps
  have hm8 := hm.2.2.2.2.2.2.2
  have hbd : B0 ≤ dr := (hT.o26 hdT.1).1
  have hDR := hT.dr hdT hd2705
  have hP : va_P D vwCl [(dr, .inl (cs 0, 1383, .inl f2705))] _ := va_P.cons hd2705 va_P.nil
  refine lv_aload_n hx hb dX9_term_0 rfl (lv_at hl 0 rfl) ?_
  have hps : PS D cs w _ (pos) (tl) (er) (3) dr bu g (N) (h) := ⟨hm, f2705, hP 0 _ rfl, e2705, by omega, v2705⟩
  refine cv_v (As := []) (rest := []) (b := w) ⟨hx, hb, hml, hown, hts⟩ (c_X9_factor_d3 hT (w := w) hw hbT hdT hps) (cwV 0 hts gX9_term_X9_factor rfl rfl rfl hdX9_factor_v ⟨Nat.le_of_ble_eq_true rfl, Nat.le_of_ble_eq_true rfl⟩) hN hE hL (rcv10 hN hT hw.1) rfl rfl hl.1 (Nat.le_of_ble_eq_true rfl) dX9_term_1 (Nat.zero_le _) (Nat.zero_le _) (fun H1 locs hL hqr2707 => ?_)
  obtain ⟨hT1, hF1, hqr2707⟩ := hqr2707
  have hF := hF.tr (hF1.mono (by simp))
  have hT := hT1
  obtain ⟨N2708, p2709, er2710, a2711, b2712, z2713, m2714, f2715, d2716, e2717, n2718, v2719⟩ := hqr2707
  have hm := m2714
  have hm8 := hm.2.2.2.2.2.2.2
  have hbd : B0 ≤ dr := (hT.o26 hdT.1).1
  have hDR := hT.dr hdT d2716
  have hP : va_P D vwCl [(dr, .inl (cs 0, 1383, .inl f2715))] _ := va_P.cons d2716 va_P.nil
  have hps : PS D cs w _ (p2709) (tl) (er2710) (3) dr bu g (N2708) ((h + 1)) := ⟨hm, f2715, hP 0 _ rfl, e2717, by omega, v2719⟩
  refine lp_m (α := Nat × Nat × Int32) (nL := 2) (fun a9 => 600 - a9.1) (fun a9 H9 l9 => (PS D cs w H9 a9.1 tl a9.2.2 3 dr bu g a9.2.1 (h + 1)) ∧ (a9.2.1 + 2 * pos ≤ N + 2 * a9.1) ∧ (pos ≤ a9.1) ∧ (a9.2.2 = 0 → er = 0) ∧ (WT B0 D cs T κ H9) ∧ (Fr B0 [12, 17] κ H0 H9) ∧ (OkL B0 l9)) (fun a9 => [(0, .ref w)]) ?_ (p2709, N2708, er2710) _ _ _ ⟨hps, (by show (N2708) + 2 * pos ≤ N + 2 * (p2709); omega), (by show pos ≤ (p2709); omega), (fun e9 => id (z2713 e9)), hT, hF, hL⟩ (lv_sub hl [0] rfl)
  rintro ⟨p, N1, er1⟩ H locs ls ih2721 ⟨hps, hb1, hb2, hz1, hT, hF, hL⟩ hl
  have hl : lv_has ls 2 [(0, .ref w)] := hl
  have hps : PS D cs w H p tl er1 3 dr bu g N1 (h + 1) := hps
  have hb1 : N1 + 2 * pos ≤ N + 2 * p := hb1
  have hb2 : pos ≤ p := hb2
  have hz1 : er1 = 0 → er = 0 := hz1
  obtain ⟨hm, f2722, hd2722, e2722, n2722, v2722⟩ := hps
  have hm8 := hm.2.2.2.2.2.2.2
  have hbd : B0 ≤ dr := (hT.o26 hdT.1).1
  have hDR := hT.dr hdT hd2722
  have hP : va_P D vwCl [(dr, .inl (cs 0, 1383, .inl f2722))] _ := va_P.cons hd2722 va_P.nil
  refine lv_aload_n hx hb dX9_term_4 rfl (lv_at hl 0 rfl) ?_
  refine cv_i (As := []) (rest := []) (b := w) ⟨hx, hb, hml, hown, hts⟩ (c_X9_isGood hT (w := w) hw hbT hdT hm) (cwV 0 hts gX9_term_X9_isGood rfl rfl rfl hdX9_isGood_v ⟨Nat.le_of_ble_eq_true rfl, Nat.le_of_ble_eq_true rfl⟩) hN hE hL (rcv10 hN hT hw.1) rfl rfl hl.1 (Nat.le_of_ble_eq_true rfl) dX9_term_5 (Nat.zero_le _) (Nat.zero_le _) (fun r2724 H1 locs hL hqr2724 => ?_)
  obtain ⟨h9, hqr2724⟩ := hqr2724; replace h9 := h9.symm; subst h9
  rcases hqr2724 with ⟨rfl, e2725⟩ | ⟨rfl, e2726⟩
  · refine lv_if_eq (tgt := 74) hx hb dX9_term_8 (by decide) (fun c9 => absurd c9 (by decide)) (fun _ => ?_)
    refine lv_aload_n hx hb dX9_term_11 rfl (lv_at hl 0 rfl) ?_
    refine cv_i (As := []) (rest := []) (b := w) ⟨hx, hb, hml, hown, hts⟩ (c_X9_ahead hT (w := w) hw hbT hdT hm) (cwV 0 hts gX9_term_X9_ahead rfl rfl rfl hdX9_ahead_v ⟨Nat.le_of_ble_eq_true rfl, Nat.le_of_ble_eq_true rfl⟩) hN hE hL (rcv10 hN hT hw.1) rfl rfl hl.1 (Nat.le_of_ble_eq_true rfl) dX9_term_12 (Nat.zero_le _) (Nat.zero_le _) (fun r2727 H1 locs hL hqr2727 => ?_)
    obtain ⟨hT1, hF1, hqr2727⟩ := hqr2727
    have hP : va_P D vwCl [(dr, .inl (cs 0, 1383, .inl f2722))] _ := hF1.hP (hP.sub [0] rfl) (fa_c ⟨by rw [hdT.1]; decide, by rw [hdT.2]; first | decide | (simp; done) | (simp; omega)⟩ fa_n)
    have hF := hF.tr (hF1.mono (by simp))
    have hT := hT1
    obtain ⟨p2728, h2729, m2730, n2731, s2732, rfl⟩ := hqr2727
    have hm := m2730
    have hm8 := hm.2.2.2.2.2.2.2
    refine lv_bipush (v := 42) hx hb dX9_term_15 (by decide) ?_
    refine lv_icmp_eq (tgt := 29) hx hb dX9_term_17 (by decide) (fun c2733 => ?_) (fun c2733 => ?_)
    · have hl9 := byF_c (c2733) (by decide)
      refine lv_aload_n hx hb dX9_term_29 rfl (lv_at hl 0 rfl) ?_
      refine cv_i (As := []) (rest := []) (b := w) ⟨hx, hb, hml, hown, hts⟩ (c_X9_ahead hT (w := w) hw hbT hdT hm) (cwV 0 hts gX9_term_X9_ahead rfl rfl rfl hdX9_ahead_v ⟨Nat.le_of_ble_eq_true rfl, Nat.le_of_ble_eq_true rfl⟩) hN hE hL (rcv10 hN hT hw.1) rfl rfl hl.1 (Nat.le_of_ble_eq_true rfl) dX9_term_30 (Nat.zero_le _) (Nat.zero_le _) (fun r2734 H1 locs hL hqr2734 => ?_)
      obtain ⟨hT1, hF1, hqr2734⟩ := hqr2734
      have hP : va_P D vwCl [(dr, .inl (cs 0, 1383, .inl f2722))] _ := hF1.hP (hP.sub [0] rfl) (fa_c ⟨by rw [hdT.1]; decide, by rw [hdT.2]; first | decide | (simp; done) | (simp; omega)⟩ fa_n)
      have hF := hF.tr (hF1.mono (by simp))
      have hT := hT1
      obtain ⟨p2735, h2736, m2737, n2738, s2739, rfl⟩ := hqr2734
      have hm := m2737
      have hpe := s2739 n2731
      rw [hpe] at hm
      refine tp_i (byF g tl p2728) (by rw [hpe]) ?_
      have hm8 := hm.2.2.2.2.2.2.2
      refine lv_bipush (v := 42) hx hb dX9_term_33 (by decide) ?_
      refine lv_icmp_ne (tgt := 42) hx hb dX9_term_35 (by decide) (fun c2740 => ?_) (fun c2740 => ?_)
      · refine lv_iconst (v := 0) hx hb dX9_term_42 (by decide) ?_
        refine lv_istore_n (lv' := [(1, .int 0), (0, .ref w)]) hx hb dX9_term_43 rfl hl (by decide) rfl (fun ls hl => ?_)
        refine lv_aload_n hx hb dX9_term_44 rfl (lv_at hl 1 rfl) ?_
        refine lv_dup hx hb dX9_term_45 rfl ?_
        obtain ⟨hb2741, e2741, hat2741, hk2741⟩ := hT.o10 hw.1
        obtain ⟨f2741_0, f2741_1, f2741_3, f2741_4, f2741_5, f2741_6, f2741_7, f2741_9, f2741_10, f2741_11, f2741_12, f2741_13, f2741_14, f2741_15, f2741_16, f2741_17, rfl, c2741_2, c2741_3, c2741_4, c2741_12, t2741_1, t2741_8, t2741_9, c2741_sd, t2741_10, t2741_11, t2741_17⟩ := hk2741
        obtain ⟨rfl, rfl, rfl, rfl, rfl, rfl⟩ := hm.at hat2741 c2741_3 (by omega)
        have hm8 := hm.2.2.2.2.2.2.2
        have hP : va_P D vwCl [(w, .inr (9, [.int f2741_0, .ref bu, .int (nI ((κ w).2.2.1)), .int (nI tl), .int (nI p2728), .int er1, .int f2741_6, .int f2741_7, .ref (κ w).2.2.2, .ref f2741_9, .ref dr, .ref f2741_11, .int (nI f2741_12), .int f2741_13, .int 3, .int f2741_15, .int f2741_16, .ref f2741_17])), (dr, .inl (cs 0, 1383, .inl f2722))] _ := va_P.cons hat2741 hP
        refine va_get (D := D) (ci := 9) (v := .int (nI p2728)) (C := RX9) (T := TX9) (N := 18) hx hb hts iX9_term_9 hown hN.1 hP 0 rfl rfl 4 (by decide) (hts _ mX9_term_1) (fun _ h9 => h9) rfl dX9_term_46 ?_
        refine lv_iconst (v := 1) hx hb dX9_term_49 (by decide) ?_
        refine lv_iadd hx hb dX9_term_50 ?_
        refine tp_i (nI (p2728 + 1)) (nI_add p2728 1) ?_
        have hB : Bx B0 D _ [(w, .inr (9, [.int f2741_0, .ref bu, .int (nI ((κ w).2.2.1)), .int (nI tl), .int (nI p2728), .int er1, .int f2741_6, .int f2741_7, .ref (κ w).2.2.2, .ref f2741_9, .ref dr, .ref f2741_11, .int (nI f2741_12), .int f2741_13, .int 3, .int f2741_15, .int f2741_16, .ref f2741_17])), (dr, .inl (cs 0, 1383, .inl f2722))] [] _ _ := Bx.of (fun a => (κ a).1) hL hP (fa_c hb2741 (fa_c hbd fa_n)) (by simp only [List.map_cons, List.map_nil, hw.1, hdT.1]; decide)
        refine b_put (D := D) (ci := 9) (v := .int (nI (p2728 + 1))) (ty := .int) (C := RX9) (T := TX9) (N := 18) hx hb hts iX9_term_9 tyX9 tyX9_ok nmX9 hown hN hB 0 rfl rfl 4 (by decide) (hts _ mX9_term_1) (fun _ h9 => h9) rfl (by decide +kernel) rfl rfl (Nat.le_of_ble_eq_true rfl) (.inl rfl) dX9_term_51 (fun H locs hB => ?_)
        have hB : Bx B0 D _ [(w, .inr (9, [.int f2741_0, .ref bu, .int (nI ((κ w).2.2.1)), .int (nI tl), .int (nI (p2728 + 1)), .int er1, .int f2741_6, .int f2741_7, .ref (κ w).2.2.2, .ref f2741_9, .ref dr, .ref f2741_11, .int (nI f2741_12), .int f2741_13, .int 3, .int f2741_15, .int f2741_16, .ref f2741_17])), (dr, .inl (cs 0, 1383, .inl f2722))] [w] _ _ := hB
        refine lv_aload_n hx hb dX9_term_54 rfl (lv_at hl 1 rfl) ?_
        have hT : WT B0 D cs T κ _ := hT.close hB ⟨⟨0, _, rfl, ok_10 hw.1 ⟨_, _, _, _, _, _, _, _, _, _, _, _, _, _, _, _, rfl, (by omega), (by omega), (by omega), (by omega), hbT, t2741_8, t2741_9, c2741_sd, hdT, t2741_11, t2741_17⟩⟩, trivial⟩
        have hF : Fr B0 [12, 17] κ H0 _ := hF.close hB (fa_c (by simp [hw.2]) fa_n)
        have hL : OkL B0 _ := hB.2.2.2.2.2
        have hP : va_P D vwCl [(w, .inr (9, [.int f2741_0, .ref bu, .int (nI ((κ w).2.2.1)), .int (nI tl), .int (nI (p2728 + 1)), .int er1, .int f2741_6, .int f2741_7, .ref (κ w).2.2.2, .ref f2741_9, .ref dr, .ref f2741_11, .int (nI f2741_12), .int f2741_13, .int 3, .int f2741_15, .int f2741_16, .ref f2741_17])), (dr, .inl (cs 0, 1383, .inl f2722))] _ := hB.1
        have hbu9 := (hm.2.2.2.2.2.2.1).kept (hB.2.2.2.1 _ hm.2.2.2.2.2.2.1.lt (by simp only [List.mem_cons, List.not_mem_nil, or_false, not_or]; exact ne_c hbT.1 hw.1 (by decide)))
        have hm : MF D cs w _ ((p2728 + 1)) (tl) (er1) (3) dr bu g := ⟨⟨_, hP 0 _ rfl, rfl⟩, ⟨_, hP 0 _ rfl, rfl⟩, ⟨_, hP 0 _ rfl, rfl⟩, ⟨_, hP 0 _ rfl, rfl⟩, ⟨_, hP 0 _ rfl, rfl⟩, ⟨_, hP 0 _ rfl, rfl⟩, hbu9, (by omega), (by omega)⟩
        have hps : PS D cs w _ ((p2728 + 1)) (tl) (er1) (3) dr bu g (N1) ((h + 1)) := ⟨hm, f2722, hP 1 _ rfl, e2722, by omega, v2722⟩
        refine cv_v (As := []) (rest := []) (b := w) ⟨hx, hb, hml, hown, hts⟩ (c_X9_factor_d3 hT (w := w) hw hbT hdT hps) (cwV 0 hts gX9_term_X9_factor rfl rfl rfl hdX9_factor_v ⟨Nat.le_of_ble_eq_true rfl, Nat.le_of_ble_eq_true rfl⟩) hN hE hL (rcv10 hN hT hw.1) rfl rfl hl.1 (Nat.le_of_ble_eq_true rfl) dX9_term_55 (Nat.zero_le _) (Nat.zero_le _) (fun H1 locs hL hqr2742 => ?_)
        obtain ⟨hT1, hF1, hqr2742⟩ := hqr2742
        have hF := hF.tr (hF1.mono (by simp))
        have hT := hT1
        obtain ⟨N2743, p2744, er2745, a2746, b2747, z2748, m2749, f2750, d2751, e2752, n2753, v2754⟩ := hqr2742
        have hm := m2749
        have hm8 := hm.2.2.2.2.2.2.2
        have hbd : B0 ≤ dr := (hT.o26 hdT.1).1
        have hDR := hT.dr hdT d2751
        have hP : va_P D vwCl [(dr, .inl (cs 0, 1383, .inl f2750))] _ := va_P.cons d2751 va_P.nil
        refine lv_aload_n hx hb dX9_term_58 rfl (lv_at hl 1 rfl) ?_
        refine lv_iload_n hx hb dX9_term_59 rfl (lv_at hl 0 rfl) ?_
        refine lv_if_eq (tgt := 67) hx hb dX9_term_60 (by decide) (fun _ => ?_) (fun c9 => absurd (by decide) c9)
        refine lv_iconst (v := 5) hx hb dX9_term_67 (by decide) ?_
        refine cv_v (As := [.int 5]) (rest := []) (b := w) ⟨hx, hb, hml, hown, hts⟩ (c_X9_emit hT (w := w) hw (x := 5) hbT hdT hm (hP 0 _ rfl) e2752 (fun _ => by omega)) (cwV 1 hts gX9_term_X9_emit rfl rfl rfl hdX9_emit_v ⟨Nat.le_of_ble_eq_true rfl, Nat.le_of_ble_eq_true rfl⟩) hN hE hL (rcv10 hN hT hw.1) rfl rfl hl.1 (Nat.le_of_ble_eq_true rfl) dX9_term_68 (Nat.zero_le _) (Nat.zero_le _) (fun H1 locs hL hqr2756 => ?_)
        obtain ⟨hT1, hF1, hqr2756⟩ := hqr2756
        have hF := hF.tr (hF1.mono (by simp))
        have hT := hT1
        obtain ⟨f2757, N2758, d2759, e2760, x2761, m2762⟩ := hqr2756
        have hm := m2762
        have hm8 := hm.2.2.2.2.2.2.2
        have nx2761 := x2761.n
        have ox2761 := nx2761.1
        have hbd : B0 ≤ dr := (hT.o26 hdT.1).1
        have hDR := hT.dr hdT d2759
        have hP : va_P D vwCl [(dr, .inl (cs 0, 1383, .inl f2757))] _ := va_P.cons d2759 va_P.nil
        refine lv_goto (tgt := 4) hx hb dX9_term_71 (by decide) ?_
        have hps : PS D cs w _ (p2744) (tl) (er2745) (3) dr bu g (N2758) ((h + 1)) := ⟨hm, f2757, hP 0 _ rfl, e2760, by omega, (EM.op x2761 (by decide) v2754)⟩
        exact ih2721 (p2744, N2758, er2745) _ _ _ (by show 600 - (p2744) < 600 - p; omega) ⟨hps, (by show (N2758) + 2 * pos ≤ N + 2 * (p2744); omega), (by show pos ≤ (p2744); omega), (fun e9 => hz1 (z2748 e9)), hT, hF, hL⟩ (lv_sub hl [1] rfl)
      · refine lv_iconst (v := 1) hx hb dX9_term_38 (by decide) ?_
        refine lv_goto (tgt := 43) hx hb dX9_term_39 (by decide) ?_
        refine lv_istore_n (lv' := [(1, .int 1), (0, .ref w)]) hx hb dX9_term_43 rfl hl (by decide) rfl (fun ls hl => ?_)
        refine lv_aload_n hx hb dX9_term_44 rfl (lv_at hl 1 rfl) ?_
        refine lv_dup hx hb dX9_term_45 rfl ?_
        obtain ⟨hb2764, e2764, hat2764, hk2764⟩ := hT.o10 hw.1
        obtain ⟨f2764_0, f2764_1, f2764_3, f2764_4, f2764_5, f2764_6, f2764_7, f2764_9, f2764_10, f2764_11, f2764_12, f2764_13, f2764_14, f2764_15, f2764_16, f2764_17, rfl, c2764_2, c2764_3, c2764_4, c2764_12, t2764_1, t2764_8, t2764_9, c2764_sd, t2764_10, t2764_11, t2764_17⟩ := hk2764
        obtain ⟨rfl, rfl, rfl, rfl, rfl, rfl⟩ := hm.at hat2764 c2764_3 (by omega)
        have hm8 := hm.2.2.2.2.2.2.2
        have hP : va_P D vwCl [(w, .inr (9, [.int f2764_0, .ref bu, .int (nI ((κ w).2.2.1)), .int (nI tl), .int (nI p2728), .int er1, .int f2764_6, .int f2764_7, .ref (κ w).2.2.2, .ref f2764_9, .ref dr, .ref f2764_11, .int (nI f2764_12), .int f2764_13, .int 3, .int f2764_15, .int f2764_16, .ref f2764_17])), (dr, .inl (cs 0, 1383, .inl f2722))] _ := va_P.cons hat2764 hP
        refine va_get (D := D) (ci := 9) (v := .int (nI p2728)) (C := RX9) (T := TX9) (N := 18) hx hb hts iX9_term_9 hown hN.1 hP 0 rfl rfl 4 (by decide) (hts _ mX9_term_1) (fun _ h9 => h9) rfl dX9_term_46 ?_
        refine lv_iconst (v := 1) hx hb dX9_term_49 (by decide) ?_
        refine lv_iadd hx hb dX9_term_50 ?_
        refine tp_i (nI (p2728 + 1)) (nI_add p2728 1) ?_
        have hB : Bx B0 D _ [(w, .inr (9, [.int f2764_0, .ref bu, .int (nI ((κ w).2.2.1)), .int (nI tl), .int (nI p2728), .int er1, .int f2764_6, .int f2764_7, .ref (κ w).2.2.2, .ref f2764_9, .ref dr, .ref f2764_11, .int (nI f2764_12), .int f2764_13, .int 3, .int f2764_15, .int f2764_16, .ref f2764_17])), (dr, .inl (cs 0, 1383, .inl f2722))] [] _ _ := Bx.of (fun a => (κ a).1) hL hP (fa_c hb2764 (fa_c hbd fa_n)) (by simp only [List.map_cons, List.map_nil, hw.1, hdT.1]; decide)
        refine b_put (D := D) (ci := 9) (v := .int (nI (p2728 + 1))) (ty := .int) (C := RX9) (T := TX9) (N := 18) hx hb hts iX9_term_9 tyX9 tyX9_ok nmX9 hown hN hB 0 rfl rfl 4 (by decide) (hts _ mX9_term_1) (fun _ h9 => h9) rfl (by decide +kernel) rfl rfl (Nat.le_of_ble_eq_true rfl) (.inl rfl) dX9_term_51 (fun H locs hB => ?_)
        have hB : Bx B0 D _ [(w, .inr (9, [.int f2764_0, .ref bu, .int (nI ((κ w).2.2.1)), .int (nI tl), .int (nI (p2728 + 1)), .int er1, .int f2764_6, .int f2764_7, .ref (κ w).2.2.2, .ref f2764_9, .ref dr, .ref f2764_11, .int (nI f2764_12), .int f2764_13, .int 3, .int f2764_15, .int f2764_16, .ref f2764_17])), (dr, .inl (cs 0, 1383, .inl f2722))] [w] _ _ := hB
        refine lv_aload_n hx hb dX9_term_54 rfl (lv_at hl 1 rfl) ?_
        have hT : WT B0 D cs T κ _ := hT.close hB ⟨⟨0, _, rfl, ok_10 hw.1 ⟨_, _, _, _, _, _, _, _, _, _, _, _, _, _, _, _, rfl, (by omega), (by omega), (by omega), (by omega), hbT, t2764_8, t2764_9, c2764_sd, hdT, t2764_11, t2764_17⟩⟩, trivial⟩
        have hF : Fr B0 [12, 17] κ H0 _ := hF.close hB (fa_c (by simp [hw.2]) fa_n)
        have hL : OkL B0 _ := hB.2.2.2.2.2
        have hP : va_P D vwCl [(w, .inr (9, [.int f2764_0, .ref bu, .int (nI ((κ w).2.2.1)), .int (nI tl), .int (nI (p2728 + 1)), .int er1, .int f2764_6, .int f2764_7, .ref (κ w).2.2.2, .ref f2764_9, .ref dr, .ref f2764_11, .int (nI f2764_12), .int f2764_13, .int 3, .int f2764_15, .int f2764_16, .ref f2764_17])), (dr, .inl (cs 0, 1383, .inl f2722))] _ := hB.1
        have hbu9 := (hm.2.2.2.2.2.2.1).kept (hB.2.2.2.1 _ hm.2.2.2.2.2.2.1.lt (by simp only [List.mem_cons, List.not_mem_nil, or_false, not_or]; exact ne_c hbT.1 hw.1 (by decide)))
        have hm : MF D cs w _ ((p2728 + 1)) (tl) (er1) (3) dr bu g := ⟨⟨_, hP 0 _ rfl, rfl⟩, ⟨_, hP 0 _ rfl, rfl⟩, ⟨_, hP 0 _ rfl, rfl⟩, ⟨_, hP 0 _ rfl, rfl⟩, ⟨_, hP 0 _ rfl, rfl⟩, ⟨_, hP 0 _ rfl, rfl⟩, hbu9, (by omega), (by omega)⟩
        have hps : PS D cs w _ ((p2728 + 1)) (tl) (er1) (3) dr bu g (N1) ((h + 1)) := ⟨hm, f2722, hP 1 _ rfl, e2722, by omega, v2722⟩
        refine cv_v (As := []) (rest := []) (b := w) ⟨hx, hb, hml, hown, hts⟩ (c_X9_factor_d3 hT (w := w) hw hbT hdT hps) (cwV 0 hts gX9_term_X9_factor rfl rfl rfl hdX9_factor_v ⟨Nat.le_of_ble_eq_true rfl, Nat.le_of_ble_eq_true rfl⟩) hN hE hL (rcv10 hN hT hw.1) rfl rfl hl.1 (Nat.le_of_ble_eq_true rfl) dX9_term_55 (Nat.zero_le _) (Nat.zero_le _) (fun H1 locs hL hqr2765 => ?_)
        obtain ⟨hT1, hF1, hqr2765⟩ := hqr2765
        have hF := hF.tr (hF1.mono (by simp))
        have hT := hT1
        obtain ⟨N2766, p2767, er2768, a2769, b2770, z2771, m2772, f2773, d2774, e2775, n2776, v2777⟩ := hqr2765
        have hm := m2772
        have hm8 := hm.2.2.2.2.2.2.2
        have hbd : B0 ≤ dr := (hT.o26 hdT.1).1
        have hDR := hT.dr hdT d2774
        have hP : va_P D vwCl [(dr, .inl (cs 0, 1383, .inl f2773))] _ := va_P.cons d2774 va_P.nil
        refine lv_aload_n hx hb dX9_term_58 rfl (lv_at hl 1 rfl) ?_
        refine lv_iload_n hx hb dX9_term_59 rfl (lv_at hl 0 rfl) ?_
        refine lv_if_eq (tgt := 67) hx hb dX9_term_60 (by decide) (fun c9 => absurd c9 (by decide)) (fun _ => ?_)
        refine lv_iconst (v := 4) hx hb dX9_term_63 (by decide) ?_
        refine lv_goto (tgt := 68) hx hb dX9_term_64 (by decide) ?_
        refine cv_v (As := [.int 4]) (rest := []) (b := w) ⟨hx, hb, hml, hown, hts⟩ (c_X9_emit hT (w := w) hw (x := 4) hbT hdT hm (hP 0 _ rfl) e2775 (fun _ => by omega)) (cwV 1 hts gX9_term_X9_emit rfl rfl rfl hdX9_emit_v ⟨Nat.le_of_ble_eq_true rfl, Nat.le_of_ble_eq_true rfl⟩) hN hE hL (rcv10 hN hT hw.1) rfl rfl hl.1 (Nat.le_of_ble_eq_true rfl) dX9_term_68 (Nat.zero_le _) (Nat.zero_le _) (fun H1 locs hL hqr2779 => ?_)
        obtain ⟨hT1, hF1, hqr2779⟩ := hqr2779
        have hF := hF.tr (hF1.mono (by simp))
        have hT := hT1
        obtain ⟨f2780, N2781, d2782, e2783, x2784, m2785⟩ := hqr2779
        have hm := m2785
        have hm8 := hm.2.2.2.2.2.2.2
        have nx2784 := x2784.n
        have ox2784 := nx2784.1
        have hbd : B0 ≤ dr := (hT.o26 hdT.1).1
        have hDR := hT.dr hdT d2782
        have hP : va_P D vwCl [(dr, .inl (cs 0, 1383, .inl f2780))] _ := va_P.cons d2782 va_P.nil
        refine lv_goto (tgt := 4) hx hb dX9_term_71 (by decide) ?_
        have hps : PS D cs w _ (p2767) (tl) (er2768) (3) dr bu g (N2781) ((h + 1)) := ⟨hm, f2780, hP 0 _ rfl, e2783, by omega, (EM.op x2784 (by decide) v2777)⟩
        exact ih2721 (p2767, N2781, er2768) _ _ _ (by show 600 - (p2767) < 600 - p; omega) ⟨hps, (by show (N2781) + 2 * pos ≤ N + 2 * (p2767); omega), (by show pos ≤ (p2767); omega), (fun e9 => hz1 (z2771 e9)), hT, hF, hL⟩ (lv_sub hl [1] rfl)
    · refine lv_aload_n hx hb dX9_term_20 rfl (lv_at hl 0 rfl) ?_
      refine cv_i (As := []) (rest := []) (b := w) ⟨hx, hb, hml, hown, hts⟩ (c_X9_ahead hT (w := w) hw hbT hdT hm) (cwV 0 hts gX9_term_X9_ahead rfl rfl rfl hdX9_ahead_v ⟨Nat.le_of_ble_eq_true rfl, Nat.le_of_ble_eq_true rfl⟩) hN hE hL (rcv10 hN hT hw.1) rfl rfl hl.1 (Nat.le_of_ble_eq_true rfl) dX9_term_21 (Nat.zero_le _) (Nat.zero_le _) (fun r2787 H1 locs hL hqr2787 => ?_)
      obtain ⟨hT1, hF1, hqr2787⟩ := hqr2787
      have hP : va_P D vwCl [(dr, .inl (cs 0, 1383, .inl f2722))] _ := hF1.hP (hP.sub [0] rfl) (fa_c ⟨by rw [hdT.1]; decide, by rw [hdT.2]; first | decide | (simp; done) | (simp; omega)⟩ fa_n)
      have hF := hF.tr (hF1.mono (by simp))
      have hT := hT1
      obtain ⟨p2788, h2789, m2790, n2791, s2792, rfl⟩ := hqr2787
      have hm := m2790
      have hpe := s2792 n2731
      rw [hpe] at hm
      refine tp_i (byF g tl p2728) (by rw [hpe]) ?_
      have hm8 := hm.2.2.2.2.2.2.2
      refine lv_bipush (v := 47) hx hb dX9_term_24 (by decide) ?_
      refine lv_icmp_ne (tgt := 74) hx hb dX9_term_26 (by decide) (fun c2793 => ?_) (fun c2793 => ?_)
      · have hps : PS D cs w _ (p2728) (tl) (er1) (3) dr bu g (N1) ((h + 1)) := ⟨hm, f2722, hP 0 _ rfl, e2722, by omega, v2722⟩
        exact en_v hx hb hr hlocks hL (Nat.zero_le _) (Nat.zero_le _) dX9_term_74 (⟨hT, hF, N1, p2728, er1, (by omega), (by omega), hz1, hps⟩)
      · have hl9 := byF_c (c2793) (by decide)
        refine lv_aload_n hx hb dX9_term_29 rfl (lv_at hl 0 rfl) ?_
        refine cv_i (As := []) (rest := []) (b := w) ⟨hx, hb, hml, hown, hts⟩ (c_X9_ahead hT (w := w) hw hbT hdT hm) (cwV 0 hts gX9_term_X9_ahead rfl rfl rfl hdX9_ahead_v ⟨Nat.le_of_ble_eq_true rfl, Nat.le_of_ble_eq_true rfl⟩) hN hE hL (rcv10 hN hT hw.1) rfl rfl hl.1 (Nat.le_of_ble_eq_true rfl) dX9_term_30 (Nat.zero_le _) (Nat.zero_le _) (fun r2794 H1 locs hL hqr2794 => ?_)
        obtain ⟨hT1, hF1, hqr2794⟩ := hqr2794
        have hP : va_P D vwCl [(dr, .inl (cs 0, 1383, .inl f2722))] _ := hF1.hP (hP.sub [0] rfl) (fa_c ⟨by rw [hdT.1]; decide, by rw [hdT.2]; first | decide | (simp; done) | (simp; omega)⟩ fa_n)
        have hF := hF.tr (hF1.mono (by simp))
        have hT := hT1
        obtain ⟨p2795, h2796, m2797, n2798, s2799, rfl⟩ := hqr2794
        have hm := m2797
        have hpe := s2799 n2731
        rw [hpe] at hm
        refine tp_i (byF g tl p2728) (by rw [hpe]) ?_
        have hm8 := hm.2.2.2.2.2.2.2
        refine lv_bipush (v := 42) hx hb dX9_term_33 (by decide) ?_
        refine lv_icmp_ne (tgt := 42) hx hb dX9_term_35 (by decide) (fun c2800 => ?_) (fun c2800 => ?_)
        · refine lv_iconst (v := 0) hx hb dX9_term_42 (by decide) ?_
          refine lv_istore_n (lv' := [(1, .int 0), (0, .ref w)]) hx hb dX9_term_43 rfl hl (by decide) rfl (fun ls hl => ?_)
          refine lv_aload_n hx hb dX9_term_44 rfl (lv_at hl 1 rfl) ?_
          refine lv_dup hx hb dX9_term_45 rfl ?_
          obtain ⟨hb2801, e2801, hat2801, hk2801⟩ := hT.o10 hw.1
          obtain ⟨f2801_0, f2801_1, f2801_3, f2801_4, f2801_5, f2801_6, f2801_7, f2801_9, f2801_10, f2801_11, f2801_12, f2801_13, f2801_14, f2801_15, f2801_16, f2801_17, rfl, c2801_2, c2801_3, c2801_4, c2801_12, t2801_1, t2801_8, t2801_9, c2801_sd, t2801_10, t2801_11, t2801_17⟩ := hk2801
          obtain ⟨rfl, rfl, rfl, rfl, rfl, rfl⟩ := hm.at hat2801 c2801_3 (by omega)
          have hm8 := hm.2.2.2.2.2.2.2
          have hP : va_P D vwCl [(w, .inr (9, [.int f2801_0, .ref bu, .int (nI ((κ w).2.2.1)), .int (nI tl), .int (nI p2728), .int er1, .int f2801_6, .int f2801_7, .ref (κ w).2.2.2, .ref f2801_9, .ref dr, .ref f2801_11, .int (nI f2801_12), .int f2801_13, .int 3, .int f2801_15, .int f2801_16, .ref f2801_17])), (dr, .inl (cs 0, 1383, .inl f2722))] _ := va_P.cons hat2801 hP
          refine va_get (D := D) (ci := 9) (v := .int (nI p2728)) (C := RX9) (T := TX9) (N := 18) hx hb hts iX9_term_9 hown hN.1 hP 0 rfl rfl 4 (by decide) (hts _ mX9_term_1) (fun _ h9 => h9) rfl dX9_term_46 ?_
          refine lv_iconst (v := 1) hx hb dX9_term_49 (by decide) ?_
          refine lv_iadd hx hb dX9_term_50 ?_
          refine tp_i (nI (p2728 + 1)) (nI_add p2728 1) ?_
          have hB : Bx B0 D _ [(w, .inr (9, [.int f2801_0, .ref bu, .int (nI ((κ w).2.2.1)), .int (nI tl), .int (nI p2728), .int er1, .int f2801_6, .int f2801_7, .ref (κ w).2.2.2, .ref f2801_9, .ref dr, .ref f2801_11, .int (nI f2801_12), .int f2801_13, .int 3, .int f2801_15, .int f2801_16, .ref f2801_17])), (dr, .inl (cs 0, 1383, .inl f2722))] [] _ _ := Bx.of (fun a => (κ a).1) hL hP (fa_c hb2801 (fa_c hbd fa_n)) (by simp only [List.map_cons, List.map_nil, hw.1, hdT.1]; decide)
          refine b_put (D := D) (ci := 9) (v := .int (nI (p2728 + 1))) (ty := .int) (C := RX9) (T := TX9) (N := 18) hx hb hts iX9_term_9 tyX9 tyX9_ok nmX9 hown hN hB 0 rfl rfl 4 (by decide) (hts _ mX9_term_1) (fun _ h9 => h9) rfl (by decide +kernel) rfl rfl (Nat.le_of_ble_eq_true rfl) (.inl rfl) dX9_term_51 (fun H locs hB => ?_)
          have hB : Bx B0 D _ [(w, .inr (9, [.int f2801_0, .ref bu, .int (nI ((κ w).2.2.1)), .int (nI tl), .int (nI (p2728 + 1)), .int er1, .int f2801_6, .int f2801_7, .ref (κ w).2.2.2, .ref f2801_9, .ref dr, .ref f2801_11, .int (nI f2801_12), .int f2801_13, .int 3, .int f2801_15, .int f2801_16, .ref f2801_17])), (dr, .inl (cs 0, 1383, .inl f2722))] [w] _ _ := hB
          refine lv_aload_n hx hb dX9_term_54 rfl (lv_at hl 1 rfl) ?_
          have hT : WT B0 D cs T κ _ := hT.close hB ⟨⟨0, _, rfl, ok_10 hw.1 ⟨_, _, _, _, _, _, _, _, _, _, _, _, _, _, _, _, rfl, (by omega), (by omega), (by omega), (by omega), hbT, t2801_8, t2801_9, c2801_sd, hdT, t2801_11, t2801_17⟩⟩, trivial⟩
          have hF : Fr B0 [12, 17] κ H0 _ := hF.close hB (fa_c (by simp [hw.2]) fa_n)
          have hL : OkL B0 _ := hB.2.2.2.2.2
          have hP : va_P D vwCl [(w, .inr (9, [.int f2801_0, .ref bu, .int (nI ((κ w).2.2.1)), .int (nI tl), .int (nI (p2728 + 1)), .int er1, .int f2801_6, .int f2801_7, .ref (κ w).2.2.2, .ref f2801_9, .ref dr, .ref f2801_11, .int (nI f2801_12), .int f2801_13, .int 3, .int f2801_15, .int f2801_16, .ref f2801_17])), (dr, .inl (cs 0, 1383, .inl f2722))] _ := hB.1
          have hbu9 := (hm.2.2.2.2.2.2.1).kept (hB.2.2.2.1 _ hm.2.2.2.2.2.2.1.lt (by simp only [List.mem_cons, List.not_mem_nil, or_false, not_or]; exact ne_c hbT.1 hw.1 (by decide)))
          have hm : MF D cs w _ ((p2728 + 1)) (tl) (er1) (3) dr bu g := ⟨⟨_, hP 0 _ rfl, rfl⟩, ⟨_, hP 0 _ rfl, rfl⟩, ⟨_, hP 0 _ rfl, rfl⟩, ⟨_, hP 0 _ rfl, rfl⟩, ⟨_, hP 0 _ rfl, rfl⟩, ⟨_, hP 0 _ rfl, rfl⟩, hbu9, (by omega), (by omega)⟩
          have hps : PS D cs w _ ((p2728 + 1)) (tl) (er1) (3) dr bu g (N1) ((h + 1)) := ⟨hm, f2722, hP 1 _ rfl, e2722, by omega, v2722⟩
          refine cv_v (As := []) (rest := []) (b := w) ⟨hx, hb, hml, hown, hts⟩ (c_X9_factor_d3 hT (w := w) hw hbT hdT hps) (cwV 0 hts gX9_term_X9_factor rfl rfl rfl hdX9_factor_v ⟨Nat.le_of_ble_eq_true rfl, Nat.le_of_ble_eq_true rfl⟩) hN hE hL (rcv10 hN hT hw.1) rfl rfl hl.1 (Nat.le_of_ble_eq_true rfl) dX9_term_55 (Nat.zero_le _) (Nat.zero_le _) (fun H1 locs hL hqr2802 => ?_)
          obtain ⟨hT1, hF1, hqr2802⟩ := hqr2802
          have hF := hF.tr (hF1.mono (by simp))
          have hT := hT1
          obtain ⟨N2803, p2804, er2805, a2806, b2807, z2808, m2809, f2810, d2811, e2812, n2813, v2814⟩ := hqr2802
          have hm := m2809
          have hm8 := hm.2.2.2.2.2.2.2
          have hbd : B0 ≤ dr := (hT.o26 hdT.1).1
          have hDR := hT.dr hdT d2811
          have hP : va_P D vwCl [(dr, .inl (cs 0, 1383, .inl f2810))] _ := va_P.cons d2811 va_P.nil
          refine lv_aload_n hx hb dX9_term_58 rfl (lv_at hl 1 rfl) ?_
          refine lv_iload_n hx hb dX9_term_59 rfl (lv_at hl 0 rfl) ?_
          refine lv_if_eq (tgt := 67) hx hb dX9_term_60 (by decide) (fun _ => ?_) (fun c9 => absurd (by decide) c9)
          refine lv_iconst (v := 5) hx hb dX9_term_67 (by decide) ?_
          refine cv_v (As := [.int 5]) (rest := []) (b := w) ⟨hx, hb, hml, hown, hts⟩ (c_X9_emit hT (w := w) hw (x := 5) hbT hdT hm (hP 0 _ rfl) e2812 (fun _ => by omega)) (cwV 1 hts gX9_term_X9_emit rfl rfl rfl hdX9_emit_v ⟨Nat.le_of_ble_eq_true rfl, Nat.le_of_ble_eq_true rfl⟩) hN hE hL (rcv10 hN hT hw.1) rfl rfl hl.1 (Nat.le_of_ble_eq_true rfl) dX9_term_68 (Nat.zero_le _) (Nat.zero_le _) (fun H1 locs hL hqr2816 => ?_)
          obtain ⟨hT1, hF1, hqr2816⟩ := hqr2816
          have hF := hF.tr (hF1.mono (by simp))
          have hT := hT1
          obtain ⟨f2817, N2818, d2819, e2820, x2821, m2822⟩ := hqr2816
          have hm := m2822
          have hm8 := hm.2.2.2.2.2.2.2
          have nx2821 := x2821.n
          have ox2821 := nx2821.1
          have hbd : B0 ≤ dr := (hT.o26 hdT.1).1
          have hDR := hT.dr hdT d2819
          have hP : va_P D vwCl [(dr, .inl (cs 0, 1383, .inl f2817))] _ := va_P.cons d2819 va_P.nil
          refine lv_goto (tgt := 4) hx hb dX9_term_71 (by decide) ?_
          have hps : PS D cs w _ (p2804) (tl) (er2805) (3) dr bu g (N2818) ((h + 1)) := ⟨hm, f2817, hP 0 _ rfl, e2820, by omega, (EM.op x2821 (by decide) v2814)⟩
          exact ih2721 (p2804, N2818, er2805) _ _ _ (by show 600 - (p2804) < 600 - p; omega) ⟨hps, (by show (N2818) + 2 * pos ≤ N + 2 * (p2804); omega), (by show pos ≤ (p2804); omega), (fun e9 => hz1 (z2808 e9)), hT, hF, hL⟩ (lv_sub hl [1] rfl)
        · refine lv_iconst (v := 1) hx hb dX9_term_38 (by decide) ?_
          refine lv_goto (tgt := 43) hx hb dX9_term_39 (by decide) ?_
          refine lv_istore_n (lv' := [(1, .int 1), (0, .ref w)]) hx hb dX9_term_43 rfl hl (by decide) rfl (fun ls hl => ?_)
          refine lv_aload_n hx hb dX9_term_44 rfl (lv_at hl 1 rfl) ?_
          refine lv_dup hx hb dX9_term_45 rfl ?_
          obtain ⟨hb2824, e2824, hat2824, hk2824⟩ := hT.o10 hw.1
          obtain ⟨f2824_0, f2824_1, f2824_3, f2824_4, f2824_5, f2824_6, f2824_7, f2824_9, f2824_10, f2824_11, f2824_12, f2824_13, f2824_14, f2824_15, f2824_16, f2824_17, rfl, c2824_2, c2824_3, c2824_4, c2824_12, t2824_1, t2824_8, t2824_9, c2824_sd, t2824_10, t2824_11, t2824_17⟩ := hk2824
          obtain ⟨rfl, rfl, rfl, rfl, rfl, rfl⟩ := hm.at hat2824 c2824_3 (by omega)
          have hm8 := hm.2.2.2.2.2.2.2
          have hP : va_P D vwCl [(w, .inr (9, [.int f2824_0, .ref bu, .int (nI ((κ w).2.2.1)), .int (nI tl), .int (nI p2728), .int er1, .int f2824_6, .int f2824_7, .ref (κ w).2.2.2, .ref f2824_9, .ref dr, .ref f2824_11, .int (nI f2824_12), .int f2824_13, .int 3, .int f2824_15, .int f2824_16, .ref f2824_17])), (dr, .inl (cs 0, 1383, .inl f2722))] _ := va_P.cons hat2824 hP
          refine va_get (D := D) (ci := 9) (v := .int (nI p2728)) (C := RX9) (T := TX9) (N := 18) hx hb hts iX9_term_9 hown hN.1 hP 0 rfl rfl 4 (by decide) (hts _ mX9_term_1) (fun _ h9 => h9) rfl dX9_term_46 ?_
          refine lv_iconst (v := 1) hx hb dX9_term_49 (by decide) ?_
          refine lv_iadd hx hb dX9_term_50 ?_
          refine tp_i (nI (p2728 + 1)) (nI_add p2728 1) ?_
          have hB : Bx B0 D _ [(w, .inr (9, [.int f2824_0, .ref bu, .int (nI ((κ w).2.2.1)), .int (nI tl), .int (nI p2728), .int er1, .int f2824_6, .int f2824_7, .ref (κ w).2.2.2, .ref f2824_9, .ref dr, .ref f2824_11, .int (nI f2824_12), .int f2824_13, .int 3, .int f2824_15, .int f2824_16, .ref f2824_17])), (dr, .inl (cs 0, 1383, .inl f2722))] [] _ _ := Bx.of (fun a => (κ a).1) hL hP (fa_c hb2824 (fa_c hbd fa_n)) (by simp only [List.map_cons, List.map_nil, hw.1, hdT.1]; decide)
          refine b_put (D := D) (ci := 9) (v := .int (nI (p2728 + 1))) (ty := .int) (C := RX9) (T := TX9) (N := 18) hx hb hts iX9_term_9 tyX9 tyX9_ok nmX9 hown hN hB 0 rfl rfl 4 (by decide) (hts _ mX9_term_1) (fun _ h9 => h9) rfl (by decide +kernel) rfl rfl (Nat.le_of_ble_eq_true rfl) (.inl rfl) dX9_term_51 (fun H locs hB => ?_)
          have hB : Bx B0 D _ [(w, .inr (9, [.int f2824_0, .ref bu, .int (nI ((κ w).2.2.1)), .int (nI tl), .int (nI (p2728 + 1)), .int er1, .int f2824_6, .int f2824_7, .ref (κ w).2.2.2, .ref f2824_9, .ref dr, .ref f2824_11, .int (nI f2824_12), .int f2824_13, .int 3, .int f2824_15, .int f2824_16, .ref f2824_17])), (dr, .inl (cs 0, 1383, .inl f2722))] [w] _ _ := hB
          refine lv_aload_n hx hb dX9_term_54 rfl (lv_at hl 1 rfl) ?_
          have hT : WT B0 D cs T κ _ := hT.close hB ⟨⟨0, _, rfl, ok_10 hw.1 ⟨_, _, _, _, _, _, _, _, _, _, _, _, _, _, _, _, rfl, (by omega), (by omega), (by omega), (by omega), hbT, t2824_8, t2824_9, c2824_sd, hdT, t2824_11, t2824_17⟩⟩, trivial⟩
          have hF : Fr B0 [12, 17] κ H0 _ := hF.close hB (fa_c (by simp [hw.2]) fa_n)
          have hL : OkL B0 _ := hB.2.2.2.2.2
          have hP : va_P D vwCl [(w, .inr (9, [.int f2824_0, .ref bu, .int (nI ((κ w).2.2.1)), .int (nI tl), .int (nI (p2728 + 1)), .int er1, .int f2824_6, .int f2824_7, .ref (κ w).2.2.2, .ref f2824_9, .ref dr, .ref f2824_11, .int (nI f2824_12), .int f2824_13, .int 3, .int f2824_15, .int f2824_16, .ref f2824_17])), (dr, .inl (cs 0, 1383, .inl f2722))] _ := hB.1
          have hbu9 := (hm.2.2.2.2.2.2.1).kept (hB.2.2.2.1 _ hm.2.2.2.2.2.2.1.lt (by simp only [List.mem_cons, List.not_mem_nil, or_false, not_or]; exact ne_c hbT.1 hw.1 (by decide)))
          have hm : MF D cs w _ ((p2728 + 1)) (tl) (er1) (3) dr bu g := ⟨⟨_, hP 0 _ rfl, rfl⟩, ⟨_, hP 0 _ rfl, rfl⟩, ⟨_, hP 0 _ rfl, rfl⟩, ⟨_, hP 0 _ rfl, rfl⟩, ⟨_, hP 0 _ rfl, rfl⟩, ⟨_, hP 0 _ rfl, rfl⟩, hbu9, (by omega), (by omega)⟩
          have hps : PS D cs w _ ((p2728 + 1)) (tl) (er1) (3) dr bu g (N1) ((h + 1)) := ⟨hm, f2722, hP 1 _ rfl, e2722, by omega, v2722⟩
          refine cv_v (As := []) (rest := []) (b := w) ⟨hx, hb, hml, hown, hts⟩ (c_X9_factor_d3 hT (w := w) hw hbT hdT hps) (cwV 0 hts gX9_term_X9_factor rfl rfl rfl hdX9_factor_v ⟨Nat.le_of_ble_eq_true rfl, Nat.le_of_ble_eq_true rfl⟩) hN hE hL (rcv10 hN hT hw.1) rfl rfl hl.1 (Nat.le_of_ble_eq_true rfl) dX9_term_55 (Nat.zero_le _) (Nat.zero_le _) (fun H1 locs hL hqr2825 => ?_)
          obtain ⟨hT1, hF1, hqr2825⟩ := hqr2825
          have hF := hF.tr (hF1.mono (by simp))
          have hT := hT1
          obtain ⟨N2826, p2827, er2828, a2829, b2830, z2831, m2832, f2833, d2834, e2835, n2836, v2837⟩ := hqr2825
          have hm := m2832
          have hm8 := hm.2.2.2.2.2.2.2
          have hbd : B0 ≤ dr := (hT.o26 hdT.1).1
          have hDR := hT.dr hdT d2834
          have hP : va_P D vwCl [(dr, .inl (cs 0, 1383, .inl f2833))] _ := va_P.cons d2834 va_P.nil
          refine lv_aload_n hx hb dX9_term_58 rfl (lv_at hl 1 rfl) ?_
          refine lv_iload_n hx hb dX9_term_59 rfl (lv_at hl 0 rfl) ?_
          refine lv_if_eq (tgt := 67) hx hb dX9_term_60 (by decide) (fun c9 => absurd c9 (by decide)) (fun _ => ?_)
          refine lv_iconst (v := 4) hx hb dX9_term_63 (by decide) ?_
          refine lv_goto (tgt := 68) hx hb dX9_term_64 (by decide) ?_
          refine cv_v (As := [.int 4]) (rest := []) (b := w) ⟨hx, hb, hml, hown, hts⟩ (c_X9_emit hT (w := w) hw (x := 4) hbT hdT hm (hP 0 _ rfl) e2835 (fun _ => by omega)) (cwV 1 hts gX9_term_X9_emit rfl rfl rfl hdX9_emit_v ⟨Nat.le_of_ble_eq_true rfl, Nat.le_of_ble_eq_true rfl⟩) hN hE hL (rcv10 hN hT hw.1) rfl rfl hl.1 (Nat.le_of_ble_eq_true rfl) dX9_term_68 (Nat.zero_le _) (Nat.zero_le _) (fun H1 locs hL hqr2839 => ?_)
          obtain ⟨hT1, hF1, hqr2839⟩ := hqr2839
          have hF := hF.tr (hF1.mono (by simp))
          have hT := hT1
          obtain ⟨f2840, N2841, d2842, e2843, x2844, m2845⟩ := hqr2839
          have hm := m2845
          have hm8 := hm.2.2.2.2.2.2.2
          have nx2844 := x2844.n
          have ox2844 := nx2844.1
          have hbd : B0 ≤ dr := (hT.o26 hdT.1).1
          have hDR := hT.dr hdT d2842
          have hP : va_P D vwCl [(dr, .inl (cs 0, 1383, .inl f2840))] _ := va_P.cons d2842 va_P.nil
          refine lv_goto (tgt := 4) hx hb dX9_term_71 (by decide) ?_
          have hps : PS D cs w _ (p2827) (tl) (er2828) (3) dr bu g (N2841) ((h + 1)) := ⟨hm, f2840, hP 0 _ rfl, e2843, by omega, (EM.op x2844 (by decide) v2837)⟩
          exact ih2721 (p2827, N2841, er2828) _ _ _ (by show 600 - (p2827) < 600 - p; omega) ⟨hps, (by show (N2841) + 2 * pos ≤ N + 2 * (p2827); omega), (by show pos ≤ (p2827); omega), (fun e9 => hz1 (z2831 e9)), hT, hF, hL⟩ (lv_sub hl [1] rfl)
  · refine lv_if_eq (tgt := 74) hx hb dX9_term_8 (by decide) (fun _ => ?_) (fun c9 => absurd (by decide) c9)
    have hps : PS D cs w _ (p) (tl) (er1) (3) dr bu g (N1) ((h + 1)) := ⟨hm, f2722, hP 0 _ rfl, e2722, by omega, v2722⟩
    exact en_v hx hb hr hlocks hL (Nat.zero_le _) (Nat.zero_le _) dX9_term_74 (⟨hT, hF, N1, p, er1, (by omega), (by omega), hz1, hps⟩)
