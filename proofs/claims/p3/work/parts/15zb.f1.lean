set_option maxHeartbeats 4000000 in
set_option maxRecDepth 100000 in
theorem c_X5_readFactor_d1 {l : Launch} {D : va_G} {cs : Nat → ClassId} {B0 T : Nat} {κ : KM} {H0 : Heap} (hT : WT B0 D cs T κ H0) {w : Nat} (hw : T2 κ w 6 10) {tx co tn cc : Nat} {f cf B : Nat → Int32} {ta tk ec es : Int32} {su : Value} (hY : BY B tn) (hf : TXB f B tn) (hcc : cc ≤ 600) {z : Nat} (hz : z ≤ tn) (hrs : RS D cs w H0 tx f co cf (κ w).2.2.1 tn (tkE B z) (tkK B z) z (tkV B z) ta tk cc su ec es) (hcz : cc ≤ z) : KC l yX5_readFactor wsX5_readFactor 15 331 0 0 D cs B0 H0 [.ref w, .int 1] (Qi (fun r H => WT B0 D cs T κ H ∧ Fr B0 [10] κ H0 H ∧ ((r = 1 ∧ ∃ l1 q1 cf1 ta1 tk1, facD B 3 z = .inr (l1, q1) ∧ z < q1 ∧ q1 ≤ tn ∧ z + l1.length ≤ q1 ∧ CDS cf cf1 cc l1 ∧ RS D cs w H tx f co cf1 (κ w).2.2.1 tn (tkE B q1) (tkK B q1) q1 (tkV B q1) ta1 tk1 (cc + l1.length) su ec es) ∨ (r = 0 ∧ ∃ c9 o9, facD B 3 z = .inl (c9, o9) ∧ RE D cs w H tx f co (κ w).2.2.1 tn su c9 (nI o9))))) := by
  refine KC.of cX5_readFactor 3 (some .boolean) (by decide) rfl (Nat.le_of_ble_eq_true rfl) ?_
  intro p e s m below meth c ls hx hb hr hml hown hts hlocks hin hN hE hH0 hl
  have hown : s.vm.findClass RX5 = some m.cls := hown
  have hl : lv_has ls 3 [(0, .ref w), (1, .int 1)] := hl
  have hL : OkL B0 [] := OkL.nil
  have hF : Fr B0 [10] κ H0 H0 := Fr.rf
  obtain ⟨hkw, hktx, hkco⟩ := hrs
  have h6n := hY.1
  obtain ⟨htx, hco⟩ : T2 κ tx 16 10 ∧ T2 κ co 17 10 := RS.t2 hT hw hkw
  have hzE := tkE_le hY (s := z) (by omega)
  have hfd : ∀ z9, facD B 3 z9 = facB B (sumD B 2) false z9 := fun _ => rfl
  refine lv_aload_n hx hb dX5_readFactor_0 rfl (lv_at hl 0 rfl) ?_
  obtain ⟨hb2156, e2156, hat2156, hk2156⟩ := hT.o6 hw.1
  obtain ⟨f2156_0, f2156_2, f2156_3, f2156_4, f2156_5, f2156_6, f2156_7, f2156_8, f2156_9, f2156_10, f2156_11, f2156_12, f2156_13, rfl, c2156_1, c2156_2, c2156_3, c2156_5, c2156_10, t2156_0, t2156_9, c2156_11, c2156_p2⟩ := hk2156
  obtain ⟨rfl, rfl, rfl, rfl, rfl, rfl, rfl, rfl, rfl, rfl, rfl, rfl, rfl⟩ := eq6 hat2156 hkw (by omega)
  have hP : va_P D vwCl [(w, .inr (5, [.ref tx, .int (nI ((κ w).2.2.1)), .int (nI tn), .int (nI ((tkE B z))), .int (tkK B z), .int (nI z), .int (tkV B z), .int ta, .int tk, .ref co, .int (nI cc), su, .int ec, .int es]))] _ := va_P.cons hat2156 va_P.nil
  refine va_get (D := D) (ci := 5) (v := .int (tkK B z)) (C := RX5) (T := TX5) (N := 14) hx hb hts iX5_readFactor_5 hown hN.1 hP 0 rfl rfl 4 (by decide) (hts _ mX5_readFactor_1) (fun _ h9 => h9) rfl dX5_readFactor_1 ?_
  refine lv_iconst (v := 1) hx hb dX5_readFactor_4 (by decide) ?_
  refine lv_icmp_ne (tgt := 31) hx hb dX5_readFactor_5 (by decide) (fun c2157 => ?_) (fun c2157 => ?_)
  · have hnd : ¬ isd (B z) := fun g9 => c2157 (tkK_1.mpr g9)
    refine lv_aload_n hx hb dX5_readFactor_31 rfl (lv_at hl 0 rfl) ?_
    refine lv_bipush (v := 40) hx hb dX5_readFactor_32 (by decide) ?_
    refine cv_i (As := [.int 40]) (rest := []) (b := w) ⟨hx, hb, hml, hown, hts⟩ (c_X5_isMark hT (w := w) hw (ch := 40) (by first | omega | decide | assumption) (by first | omega | decide | assumption) (by first | omega | decide | assumption) (by first | omega | decide | assumption) ⟨hkw, hktx, hkco⟩ (by first | omega | decide | assumption)) (cwV 1 hts gX5_readFactor_X5_isMark rfl rfl rfl hdX5_isMark_v ⟨Nat.le_of_ble_eq_true rfl, Nat.le_of_ble_eq_true rfl⟩) hN hE hL (rcv6 hN hT hw.1) rfl rfl hl.1 (Nat.le_of_ble_eq_true rfl) dX5_readFactor_34 (Nat.zero_le _) (Nat.zero_le _) (fun r2158 H1 locs hL hqr2158 => ?_)
    obtain ⟨h9, hqr2158⟩ := hqr2158; replace h9 := h9.symm; subst h9
    rcases hqr2158 with ⟨rfl, e2159⟩ | ⟨rfl, e2160⟩
    · refine lv_if_eq (tgt := 85) hx hb dX5_readFactor_37 (by decide) (fun c9 => absurd c9 (by decide)) (fun _ => ?_)
      refine lv_iload_n hx hb dX5_readFactor_40 rfl (lv_at hl 1 rfl) ?_
      refine lv_iconst (v := 4) hx hb dX5_readFactor_41 (by decide) ?_
      refine lv_icmp_lt (tgt := 56) hx hb dX5_readFactor_42 (by decide) (fun _ => ?_) (fun c9 => absurd (by decide) c9)
      refine lv_aload_n hx hb dX5_readFactor_56 rfl (lv_at hl 0 rfl) ?_
      refine cv_v (As := []) (rest := []) (b := w) ⟨hx, hb, hml, hown, hts⟩ (c_X5_step hT (w := w) hw (by first | omega | decide | assumption) (by first | omega | decide | assumption) (by first | omega | decide | assumption) (by first | omega | decide | assumption) (by first | omega | decide | assumption) ⟨hkw, hktx, hkco⟩) (cwV 0 hts gX5_readFactor_X5_step rfl rfl rfl hdX5_step_v ⟨Nat.le_of_ble_eq_true rfl, Nat.le_of_ble_eq_true rfl⟩) hN hE hL (rcv6 hN hT hw.1) rfl rfl hl.1 (Nat.le_of_ble_eq_true rfl) dX5_readFactor_57 (Nat.zero_le _) (Nat.zero_le _) (fun H1 locs hL hqr2161 => ?_)
      obtain ⟨hT1, hF1, hqr2161⟩ := hqr2161
      have hF := hF.tr (hF1.mono (by simp))
      have hT := hT1
      have m2162 := hqr2161
      obtain ⟨z2163, hz2163⟩ : ∃ z9, z9 = skp B ((tkE B z)) := ⟨_, rfl⟩
      rw [← hz2163] at m2162
      have bz2163 : z2163 ≤ tn := by rw [hz2163]; exact run_ub hY (by decide) (by omega)
      have hzE := tkE_le hY (s := z2163) (by omega)
      obtain ⟨hkw, hktx, hkco⟩ := m2162
      have hz40 := mark_lt hY (by decide) e2159
      have hzz : z2163 = skp B (z + 1) := by rw [hz2163, tkE_m hY (by decide) e2159]
      have hzb := skp_b hY (z := z + 1) (by omega)
      refine lv_aload_n hx hb dX5_readFactor_60 rfl (lv_at hl 0 rfl) ?_
      refine lv_iload_n hx hb dX5_readFactor_61 rfl (lv_at hl 1 rfl) ?_
      refine lv_iconst (v := 1) hx hb dX5_readFactor_62 (by decide) ?_
      refine lv_iadd hx hb dX5_readFactor_63 ?_
      refine tp_i 2 (by decide) ?_
      refine cv_i (As := [.int 2]) (rest := []) (b := w) ⟨hx, hb, hml, hown, hts⟩ (c_X5_readSum_d2 hT (w := w) hw (by first | omega | decide | assumption) (by first | omega | decide | assumption) (by first | omega | decide | assumption) (by first | omega | decide | assumption) ⟨hkw, hktx, hkco⟩ (by first | omega | decide | assumption)) (cwV 1 hts gX5_readFactor_X5_readSum rfl rfl rfl hdX5_readSum_v ⟨Nat.le_of_ble_eq_true rfl, Nat.le_of_ble_eq_true rfl⟩) hN hE hL (rcv6 hN hT hw.1) rfl rfl hl.1 (Nat.le_of_ble_eq_true rfl) dX5_readFactor_64 (Nat.zero_le _) (Nat.zero_le _) (fun r2164 H1 locs hL hqr2164 => ?_)
      obtain ⟨hT1, hF1, hqr2164⟩ := hqr2164
      have hF := hF.tr (hF1.mono (by simp))
      have hT := hT1
      rcases hqr2164 with ⟨rfl, l2165, q2166, f2167, t2168, k2169, e2170, u2171, v2172, b2173, c2174, m2175⟩ | ⟨rfl, c2176, o2177, e2178, x2179⟩
      · obtain ⟨hkw, hktx, hkco⟩ := m2175
        have hzE := tkE_le hY (s := q2166) (by omega)
        refine lv_if_eq (tgt := 83) hx hb dX5_readFactor_67 (by decide) (fun c9 => absurd c9 (by decide)) (fun _ => ?_)
        refine lv_aload_n hx hb dX5_readFactor_70 rfl (lv_at hl 0 rfl) ?_
        refine lv_bipush (v := 41) hx hb dX5_readFactor_71 (by decide) ?_
        refine cv_i (As := [.int 41]) (rest := []) (b := w) ⟨hx, hb, hml, hown, hts⟩ (c_X5_takeMark hT (w := w) hw (ch := 41) (by first | omega | decide | assumption) (by first | omega | decide | assumption) (by first | omega | decide | assumption) (by first | omega | decide | assumption) ⟨hkw, hktx, hkco⟩ (by first | omega | decide | assumption)) (cwV 1 hts gX5_readFactor_X5_takeMark rfl rfl rfl hdX5_takeMark_v ⟨Nat.le_of_ble_eq_true rfl, Nat.le_of_ble_eq_true rfl⟩) hN hE hL (rcv6 hN hT hw.1) rfl rfl hl.1 (Nat.le_of_ble_eq_true rfl) dX5_readFactor_73 (Nat.zero_le _) (Nat.zero_le _) (fun r2180 H1 locs hL hqr2180 => ?_)
        obtain ⟨hT1, hF1, hqr2180⟩ := hqr2180
        have hF := hF.tr (hF1.mono (by simp))
        have hT := hT1
        rcases hqr2180 with ⟨rfl, e2181, m2182⟩ | ⟨rfl, e2183, m2184⟩
        · obtain ⟨z2185, hz2185⟩ : ∃ z9, z9 = skp B (q2166 + 1) := ⟨_, rfl⟩
          rw [← hz2185] at m2182
          have bz2185 : z2185 ≤ tn := by rw [hz2185]; exact (skp_b hY (Nat.succ_le_of_lt (mark_lt hY (by first | decide | exact hch.1) e2181))).2
          have hzE := tkE_le hY (s := z2185) (by omega)
          obtain ⟨hkw, hktx, hkco⟩ := m2182
          refine lv_if_eq (tgt := 83) hx hb dX5_readFactor_76 (by decide) (fun c9 => absurd c9 (by decide)) (fun _ => ?_)
          refine lv_iconst (v := 1) hx hb dX5_readFactor_79 (by decide) ?_
          refine lv_goto (tgt := 84) hx hb dX5_readFactor_80 (by decide) ?_
          have h41 := mark_lt hY (by decide) e2181
          have h41b := skp_b hY (z := q2166 + 1) (by omega)
          rw [← hz2185] at h41b
          exact en_i hx hb hr hlocks hL rfl (Nat.zero_le _) (Nat.zero_le _) dX5_readFactor_84 (⟨hT, hF, Or.inl ⟨rfl, l2165, z2185, _, _, _, (hfd z).trans ((fac_cl hnd e2159 (by rw [← hzz]; exact e2170) e2181).trans (by rw [hz2185])), (by omega), (by omega), (by omega), c2174, ⟨hkw, hktx, hkco⟩⟩⟩)
        · obtain ⟨hkw, hktx, hkco⟩ := m2184
          refine lv_if_eq (tgt := 83) hx hb dX5_readFactor_76 (by decide) (fun _ => ?_) (fun c9 => absurd (by decide) c9)
          refine lv_iconst (v := 0) hx hb dX5_readFactor_83 (by decide) ?_
          exact en_i hx hb hr hlocks hL rfl (Nat.zero_le _) (Nat.zero_le _) dX5_readFactor_84 (⟨hT, hF, Or.inr ⟨rfl, -2, q2166, (hfd z).trans (fac_op hnd e2159 (by rw [← hzz]; exact e2170) e2183), ⟨_, _, _, _, _, _, _, _, (by omega), (by omega), (by omega), hkw, hktx, hkco⟩⟩⟩)
      · refine lv_if_eq (tgt := 83) hx hb dX5_readFactor_67 (by decide) (fun _ => ?_) (fun c9 => absurd (by decide) c9)
        refine lv_iconst (v := 0) hx hb dX5_readFactor_83 (by decide) ?_
        exact en_i hx hb hr hlocks hL rfl (Nat.zero_le _) (Nat.zero_le _) dX5_readFactor_84 (⟨hT, hF, Or.inr ⟨rfl, _, _, (hfd z).trans (fac_er hnd e2159 (by rw [← hzz]; exact e2178)), x2179⟩⟩)
    · refine lv_if_eq (tgt := 85) hx hb dX5_readFactor_37 (by decide) (fun _ => ?_) (fun c9 => absurd (by decide) c9)
      refine lv_aload_n hx hb dX5_readFactor_85 rfl (lv_at hl 0 rfl) ?_
      refine cv_i (As := []) (rest := []) (b := w) ⟨hx, hb, hml, hown, hts⟩ (c_X5_codeOfWord hT (w := w) hw (by first | omega | decide | assumption) (by first | omega | decide | assumption) (by first | omega | decide | assumption) (by first | omega | decide | assumption) ⟨hkw, hktx, hkco⟩) (cwV 0 hts gX5_readFactor_X5_codeOfWord rfl rfl rfl hdX5_codeOfWord_v ⟨Nat.le_of_ble_eq_true rfl, Nat.le_of_ble_eq_true rfl⟩) hN hE hL (rcv6 hN hT hw.1) rfl rfl hl.1 (Nat.le_of_ble_eq_true rfl) dX5_readFactor_86 (Nat.zero_le _) (Nat.zero_le _) (fun r2186 H1 locs hL hqr2186 => ?_)
      obtain ⟨h9, hqr2186⟩ := hqr2186; replace h9 := h9.symm; subst h9
      rcases hqr2186 with ⟨rfl, a2187⟩ | ⟨rfl, a2188, b2189⟩ | ⟨rfl, a2190, b2191, c2192⟩ | ⟨rfl, a2193, b2194, c2195, d2196⟩ | ⟨rfl, a2197, b2198, c2199, d2200⟩
      · have hzl := hY.l (isW_le hY (i := 1) (by decide) a2187).1
        refine lv_istore_n (lv' := [(2, .int (-1)), (0, .ref w), (1, .int 1)]) hx hb dX5_readFactor_89 rfl hl (by decide) rfl (fun ls hl => ?_)
        refine lv_iload_n hx hb dX5_readFactor_90 rfl (lv_at hl 0 rfl) ?_
        refine lv_if_ne (tgt := 105) hx hb dX5_readFactor_91 (by decide) (fun _ => ?_) (fun c9 => absurd c9 (by decide))
        refine lv_aload_n hx hb dX5_readFactor_105 rfl (lv_at hl 1 rfl) ?_
        refine lv_iload_n hx hb dX5_readFactor_106 rfl (lv_at hl 0 rfl) ?_
        refine cv_v (As := [.int (-1)]) (rest := []) (b := w) ⟨hx, hb, hml, hown, hts⟩ (c_X5_putCode hT (w := w) hw (x := (-1)) (by first | omega | decide | assumption) (by first | omega | decide | assumption) (by first | omega | decide | assumption) (by first | omega | decide | assumption) ⟨hkw, hktx, hkco⟩ (by first | omega | decide | assumption)) (cwV 1 hts gX5_readFactor_X5_putCode rfl rfl rfl hdX5_putCode_v ⟨Nat.le_of_ble_eq_true rfl, Nat.le_of_ble_eq_true rfl⟩) hN hE hL (rcv6 hN hT hw.1) rfl rfl hl.1 (Nat.le_of_ble_eq_true rfl) dX5_readFactor_107 (Nat.zero_le _) (Nat.zero_le _) (fun H1 locs hL hqr2201 => ?_)
        obtain ⟨hT1, hF1, hqr2201⟩ := hqr2201
        have hF := hF.tr (hF1.mono (by simp))
        have hT := hT1
        have m2202 := hqr2201
        obtain ⟨hkw, hktx, hkco⟩ := m2202
        refine lv_aload_n hx hb dX5_readFactor_110 rfl (lv_at hl 1 rfl) ?_
        refine cv_v (As := []) (rest := []) (b := w) ⟨hx, hb, hml, hown, hts⟩ (c_X5_step hT (w := w) hw (by first | omega | decide | assumption) (by first | omega | decide | assumption) (by first | omega | decide | assumption) (by first | omega | decide | assumption) (by first | omega | decide | assumption) ⟨hkw, hktx, hkco⟩) (cwV 0 hts gX5_readFactor_X5_step rfl rfl rfl hdX5_step_v ⟨Nat.le_of_ble_eq_true rfl, Nat.le_of_ble_eq_true rfl⟩) hN hE hL (rcv6 hN hT hw.1) rfl rfl hl.1 (Nat.le_of_ble_eq_true rfl) dX5_readFactor_111 (Nat.zero_le _) (Nat.zero_le _) (fun H1 locs hL hqr2203 => ?_)
        obtain ⟨hT1, hF1, hqr2203⟩ := hqr2203
        have hF := hF.tr (hF1.mono (by simp))
        have hT := hT1
        have m2204 := hqr2203
        obtain ⟨z2205, hz2205⟩ : ∃ z9, z9 = skp B ((tkE B z)) := ⟨_, rfl⟩
        rw [← hz2205] at m2204
        have bz2205 : z2205 ≤ tn := by rw [hz2205]; exact run_ub hY (by decide) (by omega)
        have hzE := tkE_le hY (s := z2205) (by omega)
        obtain ⟨hkw, hktx, hkco⟩ := m2204
        refine lv_iconst (v := 1) hx hb dX5_readFactor_114 (by decide) ?_
        have hwl := isW_lt hY (i := 1) (by decide) a2187
        have hzw : z2205 = skp B (z + nT 1) := by rw [hz2205, tkE_w hY (i := 1) (by decide) a2187]
        rw [← hzw] at hwl
        exact en_i hx hb hr hlocks hL rfl (Nat.zero_le _) (Nat.zero_le _) dX5_readFactor_115 (⟨hT, hF, Or.inl ⟨rfl, [(-1)], z2205, _, _, _, ((hfd z).trans (fac_w1 hnd e2160 a2187)).trans (by rw [hzw]), hwl.1, hwl.2, (show z + 1 ≤ _ by omega), CDS.one, ⟨hkw, hktx, hkco⟩⟩⟩)
      · have hzl := hY.l (isW_le hY (i := 7) (by decide) b2189).1
        refine lv_istore_n (lv' := [(2, .int (-2)), (0, .ref w), (1, .int 1)]) hx hb dX5_readFactor_89 rfl hl (by decide) rfl (fun ls hl => ?_)
        refine lv_iload_n hx hb dX5_readFactor_90 rfl (lv_at hl 0 rfl) ?_
        refine lv_if_ne (tgt := 105) hx hb dX5_readFactor_91 (by decide) (fun _ => ?_) (fun c9 => absurd c9 (by decide))
        refine lv_aload_n hx hb dX5_readFactor_105 rfl (lv_at hl 1 rfl) ?_
        refine lv_iload_n hx hb dX5_readFactor_106 rfl (lv_at hl 0 rfl) ?_
        refine cv_v (As := [.int (-2)]) (rest := []) (b := w) ⟨hx, hb, hml, hown, hts⟩ (c_X5_putCode hT (w := w) hw (x := (-2)) (by first | omega | decide | assumption) (by first | omega | decide | assumption) (by first | omega | decide | assumption) (by first | omega | decide | assumption) ⟨hkw, hktx, hkco⟩ (by first | omega | decide | assumption)) (cwV 1 hts gX5_readFactor_X5_putCode rfl rfl rfl hdX5_putCode_v ⟨Nat.le_of_ble_eq_true rfl, Nat.le_of_ble_eq_true rfl⟩) hN hE hL (rcv6 hN hT hw.1) rfl rfl hl.1 (Nat.le_of_ble_eq_true rfl) dX5_readFactor_107 (Nat.zero_le _) (Nat.zero_le _) (fun H1 locs hL hqr2206 => ?_)
        obtain ⟨hT1, hF1, hqr2206⟩ := hqr2206
        have hF := hF.tr (hF1.mono (by simp))
        have hT := hT1
        have m2207 := hqr2206
        obtain ⟨hkw, hktx, hkco⟩ := m2207
        refine lv_aload_n hx hb dX5_readFactor_110 rfl (lv_at hl 1 rfl) ?_
        refine cv_v (As := []) (rest := []) (b := w) ⟨hx, hb, hml, hown, hts⟩ (c_X5_step hT (w := w) hw (by first | omega | decide | assumption) (by first | omega | decide | assumption) (by first | omega | decide | assumption) (by first | omega | decide | assumption) (by first | omega | decide | assumption) ⟨hkw, hktx, hkco⟩) (cwV 0 hts gX5_readFactor_X5_step rfl rfl rfl hdX5_step_v ⟨Nat.le_of_ble_eq_true rfl, Nat.le_of_ble_eq_true rfl⟩) hN hE hL (rcv6 hN hT hw.1) rfl rfl hl.1 (Nat.le_of_ble_eq_true rfl) dX5_readFactor_111 (Nat.zero_le _) (Nat.zero_le _) (fun H1 locs hL hqr2208 => ?_)
        obtain ⟨hT1, hF1, hqr2208⟩ := hqr2208
        have hF := hF.tr (hF1.mono (by simp))
        have hT := hT1
        have m2209 := hqr2208
        obtain ⟨z2210, hz2210⟩ : ∃ z9, z9 = skp B ((tkE B z)) := ⟨_, rfl⟩
        rw [← hz2210] at m2209
        have bz2210 : z2210 ≤ tn := by rw [hz2210]; exact run_ub hY (by decide) (by omega)
        have hzE := tkE_le hY (s := z2210) (by omega)
        obtain ⟨hkw, hktx, hkco⟩ := m2209
        refine lv_iconst (v := 1) hx hb dX5_readFactor_114 (by decide) ?_
        have hwl := isW_lt hY (i := 7) (by decide) b2189
        have hzw : z2210 = skp B (z + nT 7) := by rw [hz2210, tkE_w hY (i := 7) (by decide) b2189]
        rw [← hzw] at hwl
        exact en_i hx hb hr hlocks hL rfl (Nat.zero_le _) (Nat.zero_le _) dX5_readFactor_115 (⟨hT, hF, Or.inl ⟨rfl, [(-2)], z2210, _, _, _, ((hfd z).trans (fac_w2 hnd e2160 a2188 b2189)).trans (by rw [hzw]), hwl.1, hwl.2, (show z + 1 ≤ _ by omega), CDS.one, ⟨hkw, hktx, hkco⟩⟩⟩)
      · have hzl := hY.l (isW_le hY (i := 8) (by decide) c2192).1
        refine lv_istore_n (lv' := [(2, .int (-3)), (0, .ref w), (1, .int 1)]) hx hb dX5_readFactor_89 rfl hl (by decide) rfl (fun ls hl => ?_)
        refine lv_iload_n hx hb dX5_readFactor_90 rfl (lv_at hl 0 rfl) ?_
        refine lv_if_ne (tgt := 105) hx hb dX5_readFactor_91 (by decide) (fun _ => ?_) (fun c9 => absurd c9 (by decide))
        refine lv_aload_n hx hb dX5_readFactor_105 rfl (lv_at hl 1 rfl) ?_
        refine lv_iload_n hx hb dX5_readFactor_106 rfl (lv_at hl 0 rfl) ?_
        refine cv_v (As := [.int (-3)]) (rest := []) (b := w) ⟨hx, hb, hml, hown, hts⟩ (c_X5_putCode hT (w := w) hw (x := (-3)) (by first | omega | decide | assumption) (by first | omega | decide | assumption) (by first | omega | decide | assumption) (by first | omega | decide | assumption) ⟨hkw, hktx, hkco⟩ (by first | omega | decide | assumption)) (cwV 1 hts gX5_readFactor_X5_putCode rfl rfl rfl hdX5_putCode_v ⟨Nat.le_of_ble_eq_true rfl, Nat.le_of_ble_eq_true rfl⟩) hN hE hL (rcv6 hN hT hw.1) rfl rfl hl.1 (Nat.le_of_ble_eq_true rfl) dX5_readFactor_107 (Nat.zero_le _) (Nat.zero_le _) (fun H1 locs hL hqr2211 => ?_)
        obtain ⟨hT1, hF1, hqr2211⟩ := hqr2211
        have hF := hF.tr (hF1.mono (by simp))
        have hT := hT1
        have m2212 := hqr2211
        obtain ⟨hkw, hktx, hkco⟩ := m2212
        refine lv_aload_n hx hb dX5_readFactor_110 rfl (lv_at hl 1 rfl) ?_
        refine cv_v (As := []) (rest := []) (b := w) ⟨hx, hb, hml, hown, hts⟩ (c_X5_step hT (w := w) hw (by first | omega | decide | assumption) (by first | omega | decide | assumption) (by first | omega | decide | assumption) (by first | omega | decide | assumption) (by first | omega | decide | assumption) ⟨hkw, hktx, hkco⟩) (cwV 0 hts gX5_readFactor_X5_step rfl rfl rfl hdX5_step_v ⟨Nat.le_of_ble_eq_true rfl, Nat.le_of_ble_eq_true rfl⟩) hN hE hL (rcv6 hN hT hw.1) rfl rfl hl.1 (Nat.le_of_ble_eq_true rfl) dX5_readFactor_111 (Nat.zero_le _) (Nat.zero_le _) (fun H1 locs hL hqr2213 => ?_)
        obtain ⟨hT1, hF1, hqr2213⟩ := hqr2213
        have hF := hF.tr (hF1.mono (by simp))
        have hT := hT1
        have m2214 := hqr2213
        obtain ⟨z2215, hz2215⟩ : ∃ z9, z9 = skp B ((tkE B z)) := ⟨_, rfl⟩
        rw [← hz2215] at m2214
        have bz2215 : z2215 ≤ tn := by rw [hz2215]; exact run_ub hY (by decide) (by omega)
        have hzE := tkE_le hY (s := z2215) (by omega)
        obtain ⟨hkw, hktx, hkco⟩ := m2214
        refine lv_iconst (v := 1) hx hb dX5_readFactor_114 (by decide) ?_
        have hwl := isW_lt hY (i := 8) (by decide) c2192
        have hzw : z2215 = skp B (z + nT 8) := by rw [hz2215, tkE_w hY (i := 8) (by decide) c2192]
        rw [← hzw] at hwl
        exact en_i hx hb hr hlocks hL rfl (Nat.zero_le _) (Nat.zero_le _) dX5_readFactor_115 (⟨hT, hF, Or.inl ⟨rfl, [(-3)], z2215, _, _, _, ((hfd z).trans (fac_w3 hnd e2160 a2190 b2191 c2192)).trans (by rw [hzw]), hwl.1, hwl.2, (show z + 1 ≤ _ by omega), CDS.one, ⟨hkw, hktx, hkco⟩⟩⟩)
      · have hzl := hY.l (isW_le hY (i := 9) (by decide) d2196).1
        refine lv_istore_n (lv' := [(2, .int (-4)), (0, .ref w), (1, .int 1)]) hx hb dX5_readFactor_89 rfl hl (by decide) rfl (fun ls hl => ?_)
        refine lv_iload_n hx hb dX5_readFactor_90 rfl (lv_at hl 0 rfl) ?_
        refine lv_if_ne (tgt := 105) hx hb dX5_readFactor_91 (by decide) (fun _ => ?_) (fun c9 => absurd c9 (by decide))
        refine lv_aload_n hx hb dX5_readFactor_105 rfl (lv_at hl 1 rfl) ?_
        refine lv_iload_n hx hb dX5_readFactor_106 rfl (lv_at hl 0 rfl) ?_
        refine cv_v (As := [.int (-4)]) (rest := []) (b := w) ⟨hx, hb, hml, hown, hts⟩ (c_X5_putCode hT (w := w) hw (x := (-4)) (by first | omega | decide | assumption) (by first | omega | decide | assumption) (by first | omega | decide | assumption) (by first | omega | decide | assumption) ⟨hkw, hktx, hkco⟩ (by first | omega | decide | assumption)) (cwV 1 hts gX5_readFactor_X5_putCode rfl rfl rfl hdX5_putCode_v ⟨Nat.le_of_ble_eq_true rfl, Nat.le_of_ble_eq_true rfl⟩) hN hE hL (rcv6 hN hT hw.1) rfl rfl hl.1 (Nat.le_of_ble_eq_true rfl) dX5_readFactor_107 (Nat.zero_le _) (Nat.zero_le _) (fun H1 locs hL hqr2216 => ?_)
        obtain ⟨hT1, hF1, hqr2216⟩ := hqr2216
        have hF := hF.tr (hF1.mono (by simp))
        have hT := hT1
        have m2217 := hqr2216
        obtain ⟨hkw, hktx, hkco⟩ := m2217
        refine lv_aload_n hx hb dX5_readFactor_110 rfl (lv_at hl 1 rfl) ?_
        refine cv_v (As := []) (rest := []) (b := w) ⟨hx, hb, hml, hown, hts⟩ (c_X5_step hT (w := w) hw (by first | omega | decide | assumption) (by first | omega | decide | assumption) (by first | omega | decide | assumption) (by first | omega | decide | assumption) (by first | omega | decide | assumption) ⟨hkw, hktx, hkco⟩) (cwV 0 hts gX5_readFactor_X5_step rfl rfl rfl hdX5_step_v ⟨Nat.le_of_ble_eq_true rfl, Nat.le_of_ble_eq_true rfl⟩) hN hE hL (rcv6 hN hT hw.1) rfl rfl hl.1 (Nat.le_of_ble_eq_true rfl) dX5_readFactor_111 (Nat.zero_le _) (Nat.zero_le _) (fun H1 locs hL hqr2218 => ?_)
        obtain ⟨hT1, hF1, hqr2218⟩ := hqr2218
        have hF := hF.tr (hF1.mono (by simp))
        have hT := hT1
        have m2219 := hqr2218
        obtain ⟨z2220, hz2220⟩ : ∃ z9, z9 = skp B ((tkE B z)) := ⟨_, rfl⟩
        rw [← hz2220] at m2219
        have bz2220 : z2220 ≤ tn := by rw [hz2220]; exact run_ub hY (by decide) (by omega)
        have hzE := tkE_le hY (s := z2220) (by omega)
        obtain ⟨hkw, hktx, hkco⟩ := m2219
        refine lv_iconst (v := 1) hx hb dX5_readFactor_114 (by decide) ?_
        have hwl := isW_lt hY (i := 9) (by decide) d2196
        have hzw : z2220 = skp B (z + nT 9) := by rw [hz2220, tkE_w hY (i := 9) (by decide) d2196]
        rw [← hzw] at hwl
        exact en_i hx hb hr hlocks hL rfl (Nat.zero_le _) (Nat.zero_le _) dX5_readFactor_115 (⟨hT, hF, Or.inl ⟨rfl, [(-4)], z2220, _, _, _, ((hfd z).trans (fac_w4 hnd e2160 a2193 b2194 c2195 d2196)).trans (by rw [hzw]), hwl.1, hwl.2, (show z + 1 ≤ _ by omega), CDS.one, ⟨hkw, hktx, hkco⟩⟩⟩)
      · refine lv_istore_n (lv' := [(2, .int 0), (0, .ref w), (1, .int 1)]) hx hb dX5_readFactor_89 rfl hl (by decide) rfl (fun ls hl => ?_)
        refine lv_iload_n hx hb dX5_readFactor_90 rfl (lv_at hl 0 rfl) ?_
        refine lv_if_ne (tgt := 105) hx hb dX5_readFactor_91 (by decide) (fun c9 => absurd (by decide) c9) (fun _ => ?_)
        refine lv_aload_n hx hb dX5_readFactor_94 rfl (lv_at hl 1 rfl) ?_
        refine lv_bipush (v := (-2)) hx hb dX5_readFactor_95 (by decide) ?_
        refine lv_aload_n hx hb dX5_readFactor_97 rfl (lv_at hl 1 rfl) ?_
        refine va_get (D := D) (ci := 5) (v := .int (nI z)) (C := RX5) (T := TX5) (N := 14) hx hb hts iX5_readFactor_5 hown hN.1 hP 0 rfl rfl 5 (by decide) (hts _ mX5_readFactor_3) (fun _ h9 => h9) rfl dX5_readFactor_98 ?_
        refine cv_i (As := [.int (-2), .int (nI z)]) (rest := []) (b := w) ⟨hx, hb, hml, hown, hts⟩ (c_X5_fail hT (w := w) hw (x := (-2)) (y := (nI z)) (by first | omega | decide | assumption) (by first | omega | decide | assumption) (by first | omega | decide | assumption) (by first | omega | decide | assumption) (by first | omega | decide | assumption) ⟨hkw, hktx, hkco⟩) (cwV 2 hts gX5_readFactor_X5_fail rfl rfl rfl hdX5_fail_v ⟨Nat.le_of_ble_eq_true rfl, Nat.le_of_ble_eq_true rfl⟩) hN hE hL (rcv6 hN hT hw.1) rfl rfl hl.1 (Nat.le_of_ble_eq_true rfl) dX5_readFactor_101 (Nat.zero_le _) (Nat.zero_le _) (fun r2221 H1 locs hL hqr2221 => ?_)
        obtain ⟨hT1, hF1, hqr2221⟩ := hqr2221
        have hF := hF.tr (hF1.mono (by simp))
        have hT := hT1
        obtain ⟨rfl, m2222⟩ := hqr2221
        obtain ⟨hkw, hktx, hkco⟩ := m2222
        exact en_i hx hb hr hlocks hL rfl (Nat.zero_le _) (Nat.zero_le _) dX5_readFactor_104 (⟨hT, hF, Or.inr ⟨rfl, -2, z, (hfd z).trans (fac_w0 hnd e2160 a2197 b2198 c2199 d2200), ⟨_, _, _, _, _, _, _, _, (by omega), (by omega), (by omega), hkw, hktx, hkco⟩⟩⟩)
  · have hd := tkK_1.mp c2157
    have hzl := hY.d hd
    refine lv_aload_n hx hb dX5_readFactor_8 rfl (lv_at hl 0 rfl) ?_
    refine lv_iconst (v := 0) hx hb dX5_readFactor_9 (by decide) ?_
    refine lv_sipush (v := 9999) hx hb dX5_readFactor_10 (by decide) ?_
    refine cv_i (As := [.int 0, .int 9999]) (rest := []) (b := w) ⟨hx, hb, hml, hown, hts⟩ (c_X5_takeNumber hT (w := w) hw (aa := 0) (bb := 9999) (by first | omega | decide | assumption) (by first | omega | decide | assumption) (by first | omega | decide | assumption) (by first | omega | decide | assumption) ⟨hkw, hktx, hkco⟩ (by first | omega | decide | assumption) (by first | omega | decide | assumption)) (cwV 2 hts gX5_readFactor_X5_takeNumber rfl rfl rfl hdX5_takeNumber_v ⟨Nat.le_of_ble_eq_true rfl, Nat.le_of_ble_eq_true rfl⟩) hN hE hL (rcv6 hN hT hw.1) rfl rfl hl.1 (Nat.le_of_ble_eq_true rfl) dX5_readFactor_13 (Nat.zero_le _) (Nat.zero_le _) (fun r2223 H1 locs hL hqr2223 => ?_)
    obtain ⟨hT1, hF1, hqr2223⟩ := hqr2223
    have hF := hF.tr (hF1.mono (by simp))
    have hT := hT1
    rcases hqr2223 with ⟨rfl, d2224, l2225, g2226, m2227⟩ | ⟨rfl, d2228, m2229⟩ | ⟨rfl, d2230, g2231, m2232⟩
    · obtain ⟨z2233, hz2233⟩ : ∃ z9, z9 = skp B (dgE B z) := ⟨_, rfl⟩
      rw [← hz2233] at m2227
      have bz2233 : z2233 ≤ tn := by rw [hz2233]; exact (dgE_lt hY d2224).2
      have hzE := tkE_le hY (s := z2233) (by omega)
      obtain ⟨hkw, hktx, hkco⟩ := m2227
      refine lv_if_ne (tgt := 21) hx hb dX5_readFactor_16 (by decide) (fun _ => ?_) (fun c9 => absurd c9 (by decide))
      refine lv_aload_n hx hb dX5_readFactor_21 rfl (lv_at hl 0 rfl) ?_
      refine lv_aload_n hx hb dX5_readFactor_22 rfl (lv_at hl 0 rfl) ?_
      obtain ⟨hb2234, e2234, hat2234, hk2234⟩ := hT.o6 hw.1
      obtain ⟨f2234_0, f2234_2, f2234_3, f2234_4, f2234_5, f2234_6, f2234_7, f2234_8, f2234_9, f2234_10, f2234_11, f2234_12, f2234_13, rfl, c2234_1, c2234_2, c2234_3, c2234_5, c2234_10, t2234_0, t2234_9, c2234_11, c2234_p2⟩ := hk2234
      obtain ⟨rfl, rfl, rfl, rfl, rfl, rfl, rfl, rfl, rfl, rfl, rfl, rfl, rfl⟩ := eq6 hat2234 hkw (by omega)
      have hP : va_P D vwCl [(w, .inr (5, [.ref tx, .int (nI ((κ w).2.2.1)), .int (nI tn), .int (nI ((tkE B z2233))), .int (tkK B z2233), .int (nI z2233), .int (tkV B z2233), .int (nI ((nvl B z 0))), .int (nI z), .ref co, .int (nI cc), su, .int ec, .int es]))] _ := va_P.cons hat2234 va_P.nil
      refine va_get (D := D) (ci := 5) (v := .int (nI ((nvl B z 0)))) (C := RX5) (T := TX5) (N := 14) hx hb hts iX5_readFactor_5 hown hN.1 hP 0 rfl rfl 7 (by decide) (hts _ mX5_readFactor_2) (fun _ h9 => h9) rfl dX5_readFactor_23 ?_
      refine cv_v (As := [.int (nI ((nvl B z 0)))]) (rest := []) (b := w) ⟨hx, hb, hml, hown, hts⟩ (c_X5_putCode hT (w := w) hw (x := (nI ((nvl B z 0)))) (by first | omega | decide | assumption) (by first | omega | decide | assumption) (by first | omega | decide | assumption) (by first | omega | decide | assumption) ⟨hkw, hktx, hkco⟩ (by first | omega | decide | assumption)) (cwV 1 hts gX5_readFactor_X5_putCode rfl rfl rfl hdX5_putCode_v ⟨Nat.le_of_ble_eq_true rfl, Nat.le_of_ble_eq_true rfl⟩) hN hE hL (rcv6 hN hT hw.1) rfl rfl hl.1 (Nat.le_of_ble_eq_true rfl) dX5_readFactor_26 (Nat.zero_le _) (Nat.zero_le _) (fun H1 locs hL hqr2235 => ?_)
      obtain ⟨hT1, hF1, hqr2235⟩ := hqr2235
      have hF := hF.tr (hF1.mono (by simp))
      have hT := hT1
      have m2236 := hqr2235
      obtain ⟨hkw, hktx, hkco⟩ := m2236
      refine lv_iconst (v := 1) hx hb dX5_readFactor_29 (by decide) ?_
      exact en_i hx hb hr hlocks hL rfl (Nat.zero_le _) (Nat.zero_le _) dX5_readFactor_30 (⟨hT, hF, Or.inl ⟨rfl, [nI (nvl B z 0)], z2233, _, _, _, (hfd z).trans ((fac_num hd (by omega)).trans (by rw [hz2233])), (by rw [hz2233]; exact (dgE_lt hY hd).1), (by rw [hz2233]; exact (dgE_lt hY hd).2), (by have h9 := (dgE_lt hY hd).1; rw [← hz2233] at h9; show z + 1 ≤ _; omega), CDS.one, ⟨hkw, hktx, hkco⟩⟩⟩)
    · exact absurd hd d2228
    · obtain ⟨hkw, hktx, hkco⟩ := m2232
      refine lv_if_ne (tgt := 21) hx hb dX5_readFactor_16 (by decide) (fun c9 => absurd (by decide) c9) (fun _ => ?_)
      refine lv_iconst (v := 0) hx hb dX5_readFactor_19 (by decide) ?_
      exact en_i hx hb hr hlocks hL rfl (Nat.zero_le _) (Nat.zero_le _) dX5_readFactor_20 (⟨hT, hF, Or.inr ⟨rfl, -3, z, (hfd z).trans (fac_big hd (by omega)), ⟨_, _, _, _, _, _, _, _, (by omega), (by omega), (by omega), hkw, hktx, hkco⟩⟩⟩)
set_option maxHeartbeats 4000000 in
set_option maxRecDepth 100000 in
theorem c_X5_readTerm_d1 {l : Launch} {D : va_G} {cs : Nat → ClassId} {B0 T : Nat} {κ : KM} {H0 : Heap} (hT : WT B0 D cs T κ H0) {w : Nat} (hw : T2 κ w 6 10) {tx co tn cc : Nat} {f cf B : Nat → Int32} {ta tk ec es : Int32} {su : Value} (hY : BY B tn) (hf : TXB f B tn) (hcc : cc ≤ 600) {z : Nat} (hz : z ≤ tn) (hrs : RS D cs w H0 tx f co cf (κ w).2.2.1 tn (tkE B z) (tkK B z) z (tkV B z) ta tk cc su ec es) (hcz : cc ≤ z) : KC l yX5_readTerm wsX5_readTerm 16 353 0 0 D cs B0 H0 [.ref w, .int 1] (Qi (fun r H => WT B0 D cs T κ H ∧ Fr B0 [10] κ H0 H ∧ ((r = 1 ∧ ∃ l1 q1 cf1 ta1 tk1, trmD B 3 z = .inr (l1, q1) ∧ z < q1 ∧ q1 ≤ tn ∧ z + l1.length ≤ q1 ∧ CDS cf cf1 cc l1 ∧ RS D cs w H tx f co cf1 (κ w).2.2.1 tn (tkE B q1) (tkK B q1) q1 (tkV B q1) ta1 tk1 (cc + l1.length) su ec es) ∨ (r = 0 ∧ ∃ c9 o9, trmD B 3 z = .inl (c9, o9) ∧ RE D cs w H tx f co (κ w).2.2.1 tn su c9 (nI o9))))) := by
  refine KC.of cX5_readTerm 4 (some .boolean) (by decide) rfl (Nat.le_of_ble_eq_true rfl) ?_
  intro p e s m below meth c ls hx hb hr hml hown hts hlocks hin hN hE hH0 hl
  have hown : s.vm.findClass RX5 = some m.cls := hown
  have hl : lv_has ls 4 [(0, .ref w), (1, .int 1)] := hl
  have hL : OkL B0 [] := OkL.nil
  have hF : Fr B0 [10] κ H0 H0 := Fr.rf
  obtain ⟨hkw, hktx, hkco⟩ := hrs
  have h6n := hY.1
  obtain ⟨htx, hco⟩ : T2 κ tx 16 10 ∧ T2 κ co 17 10 := RS.t2 hT hw hkw
  have hzE := tkE_le hY (s := z) (by omega)
  have hfd : ∀ z9, trmD B 3 z9 = manyB B (facD B 3) 42 47 (-7) (-8) z9 := fun _ => rfl
  have hpg := facD_pg hY 3
  refine lv_aload_n hx hb dX5_readTerm_0 rfl (lv_at hl 0 rfl) ?_
  refine lv_iload_n hx hb dX5_readTerm_1 rfl (lv_at hl 1 rfl) ?_
  refine cv_i (As := [.int 1]) (rest := []) (b := w) ⟨hx, hb, hml, hown, hts⟩ (c_X5_readFactor_d1 hT (w := w) hw (by first | omega | decide | assumption) (by first | omega | decide | assumption) (by first | omega | decide | assumption) (by first | omega | decide | assumption) ⟨hkw, hktx, hkco⟩ (by first | omega | decide | assumption)) (cwV 1 hts gX5_readTerm_X5_readFactor rfl rfl rfl hdX5_readFactor_v ⟨Nat.le_of_ble_eq_true rfl, Nat.le_of_ble_eq_true rfl⟩) hN hE hL (rcv6 hN hT hw.1) rfl rfl hl.1 (Nat.le_of_ble_eq_true rfl) dX5_readTerm_2 (Nat.zero_le _) (Nat.zero_le _) (fun r2237 H1 locs hL hqr2237 => ?_)
  obtain ⟨hT1, hF1, hqr2237⟩ := hqr2237
  have hF := hF.tr (hF1.mono (by simp))
  have hT := hT1
  rcases hqr2237 with ⟨rfl, l2238, q2239, f2240, t2241, k2242, e2243, u2244, v2245, b2246, c2247, m2248⟩ | ⟨rfl, c2249, o2250, e2251, x2252⟩
  · obtain ⟨hkw, hktx, hkco⟩ := m2248
    have hzE := tkE_le hY (s := q2239) (by omega)
    refine lv_if_ne (tgt := 10) hx hb dX5_readTerm_5 (by decide) (fun _ => ?_) (fun c9 => absurd c9 (by decide))
    refine lv_iconst (v := 0) hx hb dX5_readTerm_10 (by decide) ?_
    refine lv_istore_n (lv' := [(2, .int 0), (0, .ref w), (1, .int 1)]) hx hb dX5_readTerm_11 rfl hl (by decide) rfl (fun ls hl => ?_)
    refine lp_m (α := Nat × Nat × List Int32 × (Nat → Int32) × Int32 × Int32) (nL := 4) (fun a9 => 600 - a9.1) (fun a9 H9 l9 => (a9.1 ≤ 600 ∧ a9.2.1 ≤ tn ∧ z + a9.1 < a9.2.1) ∧ (CDS cf a9.2.2.2.1 cc a9.2.2.1) ∧ (z + a9.2.2.1.length ≤ a9.2.1) ∧ (trmD B 3 z = LPB B (facD B 3) 42 47 (-7) (-8) a9.2.2.1 a9.2.1) ∧ (RS D cs w H9 tx f co a9.2.2.2.1 (κ w).2.2.1 tn (tkE B a9.2.1) (tkK B a9.2.1) a9.2.1 (tkV B a9.2.1) a9.2.2.2.2.1 a9.2.2.2.2.2 (cc + a9.2.2.1.length) su ec es) ∧ (WT B0 D cs T κ H9) ∧ (Fr B0 [10] κ H0 H9) ∧ (OkL B0 l9)) (fun a9 => [(2, .int (nI a9.1)), (0, .ref w), (1, .int 1)]) ?_ (0, q2239, l2238, f2240, t2241, k2242) _ _ _ ⟨(by show (0) ≤ 600 ∧ (q2239) ≤ tn ∧ z + (0) < (q2239); omega), c2247, (by show z + (l2238).length ≤ (q2239); omega), ((hfd z).trans (many_ok e2243)), ⟨hkw, hktx, hkco⟩, hT, hF, hL⟩ (lv_sub hl [0, 1, 2] rfl)
    rintro ⟨k, zc, l9, cf9, ta9, tk9⟩ H locs ls ih2253 ⟨hk, hcd, hcl, hlp, hks, hT, hF, hL⟩ hl
    have hl : lv_has ls 4 [(2, .int (nI k)), (0, .ref w), (1, .int 1)] := hl
    have hk : k ≤ 600 ∧ zc ≤ tn ∧ z + k < zc := hk
    have hcd : CDS cf cf9 cc l9 := hcd
    have hcl : z + l9.length ≤ zc := hcl
    have hlp : trmD B 3 z = LPB B (facD B 3) 42 47 (-7) (-8) l9 zc := hlp
    have hks : RS D cs w H tx f co cf9 (κ w).2.2.1 tn (tkE B zc) (tkK B zc) zc (tkV B zc) ta9 tk9 (cc + l9.length) su ec es := hks
    obtain ⟨hkw, hktx, hkco⟩ := hks
    have hzE := tkE_le hY (s := zc) (by omega)
    refine lv_iload_n hx hb dX5_readTerm_12 rfl (lv_at hl 0 rfl) ?_
    refine lv_sipush (v := 600) hx hb dX5_readTerm_13 (by decide) ?_
    refine lv_icmp_ge (tgt := 79) hx hb dX5_readTerm_16 (by decide) (fun c2254 => ?_) (fun c2254 => ?_)
    · have c2254 : 600 ≤ k := (nI_leI (a := 600) (b := k) (by omega) (by omega)).mp c2254
      exact absurd c2254 (by omega)
    · have c2254 : ¬ 600 ≤ k := fun h9 => c2254 ((nI_leI (a := 600) (b := k) (by omega) (by omega)).mpr h9)
      refine lv_aload_n hx hb dX5_readTerm_19 rfl (lv_at hl 1 rfl) ?_
      refine lv_bipush (v := 42) hx hb dX5_readTerm_20 (by decide) ?_
      refine cv_i (As := [.int 42]) (rest := []) (b := w) ⟨hx, hb, hml, hown, hts⟩ (c_X5_isMark hT (w := w) hw (ch := 42) (by first | omega | decide | assumption) (by first | omega | decide | assumption) (by first | omega | decide | assumption) (by first | omega | decide | assumption) ⟨hkw, hktx, hkco⟩ (by first | omega | decide | assumption)) (cwV 1 hts gX5_readTerm_X5_isMark rfl rfl rfl hdX5_isMark_v ⟨Nat.le_of_ble_eq_true rfl, Nat.le_of_ble_eq_true rfl⟩) hN hE hL (rcv6 hN hT hw.1) rfl rfl hl.1 (Nat.le_of_ble_eq_true rfl) dX5_readTerm_22 (Nat.zero_le _) (Nat.zero_le _) (fun r2255 H1 locs hL hqr2255 => ?_)
      obtain ⟨h9, hqr2255⟩ := hqr2255; replace h9 := h9.symm; subst h9
      rcases hqr2255 with ⟨rfl, e2256⟩ | ⟨rfl, e2257⟩
      · refine lv_if_ne (tgt := 37) hx hb dX5_readTerm_25 (by decide) (fun _ => ?_) (fun c9 => absurd c9 (by decide))
        refine lv_aload_n hx hb dX5_readTerm_37 rfl (lv_at hl 1 rfl) ?_
        refine lv_bipush (v := 42) hx hb dX5_readTerm_38 (by decide) ?_
        refine cv_i (As := [.int 42]) (rest := []) (b := w) ⟨hx, hb, hml, hown, hts⟩ (c_X5_isMark hT (w := w) hw (ch := 42) (by first | omega | decide | assumption) (by first | omega | decide | assumption) (by first | omega | decide | assumption) (by first | omega | decide | assumption) ⟨hkw, hktx, hkco⟩ (by first | omega | decide | assumption)) (cwV 1 hts gX5_readTerm_X5_isMark rfl rfl rfl hdX5_isMark_v ⟨Nat.le_of_ble_eq_true rfl, Nat.le_of_ble_eq_true rfl⟩) hN hE hL (rcv6 hN hT hw.1) rfl rfl hl.1 (Nat.le_of_ble_eq_true rfl) dX5_readTerm_40 (Nat.zero_le _) (Nat.zero_le _) (fun r2258 H1 locs hL hqr2258 => ?_)
        obtain ⟨h9, hqr2258⟩ := hqr2258; replace h9 := h9.symm; subst h9
        rcases hqr2258 with ⟨rfl, e2259⟩ | ⟨rfl, e2260⟩
        · refine lv_if_eq (tgt := 51) hx hb dX5_readTerm_43 (by decide) (fun c9 => absurd c9 (by decide)) (fun _ => ?_)
          refine lv_bipush (v := (-7)) hx hb dX5_readTerm_46 (by decide) ?_
          refine lv_goto (tgt := 53) hx hb dX5_readTerm_48 (by decide) ?_
          refine lv_istore_n (lv' := [(3, .int (-7)), (2, .int (nI k)), (0, .ref w), (1, .int 1)]) hx hb dX5_readTerm_53 rfl hl (by decide) rfl (fun ls hl => ?_)
          refine lv_aload_n hx hb dX5_readTerm_54 rfl (lv_at hl 2 rfl) ?_
          refine cv_v (As := []) (rest := []) (b := w) ⟨hx, hb, hml, hown, hts⟩ (c_X5_step hT (w := w) hw (by first | omega | decide | assumption) (by first | omega | decide | assumption) (by first | omega | decide | assumption) (by first | omega | decide | assumption) (by first | omega | decide | assumption) ⟨hkw, hktx, hkco⟩) (cwV 0 hts gX5_readTerm_X5_step rfl rfl rfl hdX5_step_v ⟨Nat.le_of_ble_eq_true rfl, Nat.le_of_ble_eq_true rfl⟩) hN hE hL (rcv6 hN hT hw.1) rfl rfl hl.1 (Nat.le_of_ble_eq_true rfl) dX5_readTerm_55 (Nat.zero_le _) (Nat.zero_le _) (fun H1 locs hL hqr2261 => ?_)
          obtain ⟨hT1, hF1, hqr2261⟩ := hqr2261
          have hF := hF.tr (hF1.mono (by simp))
          have hT := hT1
          have m2262 := hqr2261
          obtain ⟨z2263, hz2263⟩ : ∃ z9, z9 = skp B ((tkE B zc)) := ⟨_, rfl⟩
          rw [← hz2263] at m2262
          have bz2263 : z2263 ≤ tn := by rw [hz2263]; exact run_ub hY (by decide) (by omega)
          have hzE := tkE_le hY (s := z2263) (by omega)
          obtain ⟨hkw, hktx, hkco⟩ := m2262
          have hzl := mark_lt hY (by decide) e2259
          have hzz : z2263 = skp B (zc + 1) := by rw [hz2263, tkE_m hY (by decide) e2259]
          have hzb := skp_b hY (z := zc + 1) (by omega)
          rw [← hzz] at hzb
          refine lv_aload_n hx hb dX5_readTerm_58 rfl (lv_at hl 2 rfl) ?_
          refine lv_iload_n hx hb dX5_readTerm_59 rfl (lv_at hl 3 rfl) ?_
          refine cv_i (As := [.int 1]) (rest := []) (b := w) ⟨hx, hb, hml, hown, hts⟩ (c_X5_readFactor_d1 hT (w := w) hw (by first | omega | decide | assumption) (by first | omega | decide | assumption) (by first | omega | decide | assumption) (by first | omega | decide | assumption) ⟨hkw, hktx, hkco⟩ (by first | omega | decide | assumption)) (cwV 1 hts gX5_readTerm_X5_readFactor rfl rfl rfl hdX5_readFactor_v ⟨Nat.le_of_ble_eq_true rfl, Nat.le_of_ble_eq_true rfl⟩) hN hE hL (rcv6 hN hT hw.1) rfl rfl hl.1 (Nat.le_of_ble_eq_true rfl) dX5_readTerm_60 (Nat.zero_le _) (Nat.zero_le _) (fun r2264 H1 locs hL hqr2264 => ?_)
          obtain ⟨hT1, hF1, hqr2264⟩ := hqr2264
          have hF := hF.tr (hF1.mono (by simp))
          have hT := hT1
          rcases hqr2264 with ⟨rfl, l2265, q2266, f2267, t2268, k2269, e2270, u2271, v2272, b2273, c2274, m2275⟩ | ⟨rfl, c2276, o2277, e2278, x2279⟩
          · obtain ⟨hkw, hktx, hkco⟩ := m2275
            have hzE := tkE_le hY (s := q2266) (by omega)
            refine lv_if_ne (tgt := 68) hx hb dX5_readTerm_63 (by decide) (fun _ => ?_) (fun c9 => absurd c9 (by decide))
            refine lv_aload_n hx hb dX5_readTerm_68 rfl (lv_at hl 2 rfl) ?_
            refine lv_iload_n hx hb dX5_readTerm_69 rfl (lv_at hl 0 rfl) ?_
            refine cv_v (As := [.int (-7)]) (rest := []) (b := w) ⟨hx, hb, hml, hown, hts⟩ (c_X5_putCode hT (w := w) hw (x := (-7)) (by first | omega | decide | assumption) (by first | omega | decide | assumption) (by first | omega | decide | assumption) (by first | omega | decide | assumption) ⟨hkw, hktx, hkco⟩ (by first | omega | decide | assumption)) (cwV 1 hts gX5_readTerm_X5_putCode rfl rfl rfl hdX5_putCode_v ⟨Nat.le_of_ble_eq_true rfl, Nat.le_of_ble_eq_true rfl⟩) hN hE hL (rcv6 hN hT hw.1) rfl rfl hl.1 (Nat.le_of_ble_eq_true rfl) dX5_readTerm_70 (Nat.zero_le _) (Nat.zero_le _) (fun H1 locs hL hqr2280 => ?_)
            obtain ⟨hT1, hF1, hqr2280⟩ := hqr2280
            have hF := hF.tr (hF1.mono (by simp))
            have hT := hT1
            have m2281 := hqr2280
            obtain ⟨hkw, hktx, hkco⟩ := m2281
            refine lv_iinc (v := (nI (k + 1))) (lv' := [(2, .int (nI (k + 1))), (3, .int (-7)), (0, .ref w), (1, .int 1)]) hx hb dX5_readTerm_73 hl (k := 1) rfl (nI_add _ 1) (by decide) rfl (fun ls hl => ?_)
            refine lv_goto (tgt := 12) hx hb dX5_readTerm_76 (by decide) ?_
            exact ih2253 ((k + 1), q2266, (l9 ++ l2265 ++ [(-7)]), (upd f2267 ((cc + l9.length) + l2265.length) (-7)), t2268, k2269) _ _ _ (by show 600 - ((k + 1)) < 600 - k; omega) ⟨(by show ((k + 1)) ≤ 600 ∧ (q2266) ≤ tn ∧ z + ((k + 1)) < (q2266); omega), (by have e7 : cc + l9.length + l2265.length = cc + (l9 ++ l2265).length := (by rw [List.length_append, Nat.add_assoc]); rw [e7]; exact (hcd.tr c2274).app1), (by show z + (l9 ++ l2265 ++ [(-7 : Int32)]).length ≤ q2266; have e8 : (l9 ++ l2265 ++ [(-7 : Int32)]).length = l9.length + l2265.length + 1 := (by simp only [List.length_append, List.length_cons, List.length_nil]); rw [e8]; omega), (hlp.trans (LP_c1 hY (by decide) (by decide) hpg e2259 (by rw [← hzz]; exact e2270))), (by have e8 : (l9 ++ l2265 ++ [(-7 : Int32)]).length = l9.length + l2265.length + 1 := (by simp only [List.length_append, List.length_cons, List.length_nil]); rw [e8, show cc + (l9.length + l2265.length + 1) = cc + l9.length + l2265.length + 1 by omega]; exact ⟨hkw, hktx, hkco⟩), hT, hF, hL⟩ (lv_sub hl [0, 2, 3] rfl)
          · refine lv_if_ne (tgt := 68) hx hb dX5_readTerm_63 (by decide) (fun c9 => absurd (by decide) c9) (fun _ => ?_)
            refine lv_iconst (v := 0) hx hb dX5_readTerm_66 (by decide) ?_
            exact en_i hx hb hr hlocks hL rfl (Nat.zero_le _) (Nat.zero_le _) dX5_readTerm_67 (⟨hT, hF, Or.inr ⟨rfl, _, _, hlp.trans (LP_er (o := 0) hY (by omega) (Or.inl e2259) (by rw [← hzz]; exact e2278)), x2279⟩⟩)
        · exact absurd e2256 e2260
      · refine lv_if_ne (tgt := 37) hx hb dX5_readTerm_25 (by decide) (fun c9 => absurd (by decide) c9) (fun _ => ?_)
        refine lv_aload_n hx hb dX5_readTerm_28 rfl (lv_at hl 1 rfl) ?_
        refine lv_bipush (v := 47) hx hb dX5_readTerm_29 (by decide) ?_
        refine cv_i (As := [.int 47]) (rest := []) (b := w) ⟨hx, hb, hml, hown, hts⟩ (c_X5_isMark hT (w := w) hw (ch := 47) (by first | omega | decide | assumption) (by first | omega | decide | assumption) (by first | omega | decide | assumption) (by first | omega | decide | assumption) ⟨hkw, hktx, hkco⟩ (by first | omega | decide | assumption)) (cwV 1 hts gX5_readTerm_X5_isMark rfl rfl rfl hdX5_isMark_v ⟨Nat.le_of_ble_eq_true rfl, Nat.le_of_ble_eq_true rfl⟩) hN hE hL (rcv6 hN hT hw.1) rfl rfl hl.1 (Nat.le_of_ble_eq_true rfl) dX5_readTerm_31 (Nat.zero_le _) (Nat.zero_le _) (fun r2282 H1 locs hL hqr2282 => ?_)
        obtain ⟨h9, hqr2282⟩ := hqr2282; replace h9 := h9.symm; subst h9
        rcases hqr2282 with ⟨rfl, e2283⟩ | ⟨rfl, e2284⟩
        · refine lv_if_eq (tgt := 79) hx hb dX5_readTerm_34 (by decide) (fun c9 => absurd c9 (by decide)) (fun _ => ?_)
          refine lv_aload_n hx hb dX5_readTerm_37 rfl (lv_at hl 1 rfl) ?_
          refine lv_bipush (v := 42) hx hb dX5_readTerm_38 (by decide) ?_
          refine cv_i (As := [.int 42]) (rest := []) (b := w) ⟨hx, hb, hml, hown, hts⟩ (c_X5_isMark hT (w := w) hw (ch := 42) (by first | omega | decide | assumption) (by first | omega | decide | assumption) (by first | omega | decide | assumption) (by first | omega | decide | assumption) ⟨hkw, hktx, hkco⟩ (by first | omega | decide | assumption)) (cwV 1 hts gX5_readTerm_X5_isMark rfl rfl rfl hdX5_isMark_v ⟨Nat.le_of_ble_eq_true rfl, Nat.le_of_ble_eq_true rfl⟩) hN hE hL (rcv6 hN hT hw.1) rfl rfl hl.1 (Nat.le_of_ble_eq_true rfl) dX5_readTerm_40 (Nat.zero_le _) (Nat.zero_le _) (fun r2285 H1 locs hL hqr2285 => ?_)
          obtain ⟨h9, hqr2285⟩ := hqr2285; replace h9 := h9.symm; subst h9
          rcases hqr2285 with ⟨rfl, e2286⟩ | ⟨rfl, e2287⟩
          · exact absurd e2286 e2257
          · refine lv_if_eq (tgt := 51) hx hb dX5_readTerm_43 (by decide) (fun _ => ?_) (fun c9 => absurd (by decide) c9)
            refine lv_bipush (v := (-8)) hx hb dX5_readTerm_51 (by decide) ?_
            refine lv_istore_n (lv' := [(3, .int (-8)), (2, .int (nI k)), (0, .ref w), (1, .int 1)]) hx hb dX5_readTerm_53 rfl hl (by decide) rfl (fun ls hl => ?_)
            refine lv_aload_n hx hb dX5_readTerm_54 rfl (lv_at hl 2 rfl) ?_
            refine cv_v (As := []) (rest := []) (b := w) ⟨hx, hb, hml, hown, hts⟩ (c_X5_step hT (w := w) hw (by first | omega | decide | assumption) (by first | omega | decide | assumption) (by first | omega | decide | assumption) (by first | omega | decide | assumption) (by first | omega | decide | assumption) ⟨hkw, hktx, hkco⟩) (cwV 0 hts gX5_readTerm_X5_step rfl rfl rfl hdX5_step_v ⟨Nat.le_of_ble_eq_true rfl, Nat.le_of_ble_eq_true rfl⟩) hN hE hL (rcv6 hN hT hw.1) rfl rfl hl.1 (Nat.le_of_ble_eq_true rfl) dX5_readTerm_55 (Nat.zero_le _) (Nat.zero_le _) (fun H1 locs hL hqr2288 => ?_)
            obtain ⟨hT1, hF1, hqr2288⟩ := hqr2288
            have hF := hF.tr (hF1.mono (by simp))
            have hT := hT1
            have m2289 := hqr2288
            obtain ⟨z2290, hz2290⟩ : ∃ z9, z9 = skp B ((tkE B zc)) := ⟨_, rfl⟩
            rw [← hz2290] at m2289
            have bz2290 : z2290 ≤ tn := by rw [hz2290]; exact run_ub hY (by decide) (by omega)
            have hzE := tkE_le hY (s := z2290) (by omega)
            obtain ⟨hkw, hktx, hkco⟩ := m2289
            have hzl := mark_lt hY (by decide) e2283
            have hzz : z2290 = skp B (zc + 1) := by rw [hz2290, tkE_m hY (by decide) e2283]
            have hzb := skp_b hY (z := zc + 1) (by omega)
            rw [← hzz] at hzb
            refine lv_aload_n hx hb dX5_readTerm_58 rfl (lv_at hl 2 rfl) ?_
            refine lv_iload_n hx hb dX5_readTerm_59 rfl (lv_at hl 3 rfl) ?_
            refine cv_i (As := [.int 1]) (rest := []) (b := w) ⟨hx, hb, hml, hown, hts⟩ (c_X5_readFactor_d1 hT (w := w) hw (by first | omega | decide | assumption) (by first | omega | decide | assumption) (by first | omega | decide | assumption) (by first | omega | decide | assumption) ⟨hkw, hktx, hkco⟩ (by first | omega | decide | assumption)) (cwV 1 hts gX5_readTerm_X5_readFactor rfl rfl rfl hdX5_readFactor_v ⟨Nat.le_of_ble_eq_true rfl, Nat.le_of_ble_eq_true rfl⟩) hN hE hL (rcv6 hN hT hw.1) rfl rfl hl.1 (Nat.le_of_ble_eq_true rfl) dX5_readTerm_60 (Nat.zero_le _) (Nat.zero_le _) (fun r2291 H1 locs hL hqr2291 => ?_)
            obtain ⟨hT1, hF1, hqr2291⟩ := hqr2291
            have hF := hF.tr (hF1.mono (by simp))
            have hT := hT1
            rcases hqr2291 with ⟨rfl, l2292, q2293, f2294, t2295, k2296, e2297, u2298, v2299, b2300, c2301, m2302⟩ | ⟨rfl, c2303, o2304, e2305, x2306⟩
            · obtain ⟨hkw, hktx, hkco⟩ := m2302
              have hzE := tkE_le hY (s := q2293) (by omega)
              refine lv_if_ne (tgt := 68) hx hb dX5_readTerm_63 (by decide) (fun _ => ?_) (fun c9 => absurd c9 (by decide))
              refine lv_aload_n hx hb dX5_readTerm_68 rfl (lv_at hl 2 rfl) ?_
              refine lv_iload_n hx hb dX5_readTerm_69 rfl (lv_at hl 0 rfl) ?_
              refine cv_v (As := [.int (-8)]) (rest := []) (b := w) ⟨hx, hb, hml, hown, hts⟩ (c_X5_putCode hT (w := w) hw (x := (-8)) (by first | omega | decide | assumption) (by first | omega | decide | assumption) (by first | omega | decide | assumption) (by first | omega | decide | assumption) ⟨hkw, hktx, hkco⟩ (by first | omega | decide | assumption)) (cwV 1 hts gX5_readTerm_X5_putCode rfl rfl rfl hdX5_putCode_v ⟨Nat.le_of_ble_eq_true rfl, Nat.le_of_ble_eq_true rfl⟩) hN hE hL (rcv6 hN hT hw.1) rfl rfl hl.1 (Nat.le_of_ble_eq_true rfl) dX5_readTerm_70 (Nat.zero_le _) (Nat.zero_le _) (fun H1 locs hL hqr2307 => ?_)
              obtain ⟨hT1, hF1, hqr2307⟩ := hqr2307
              have hF := hF.tr (hF1.mono (by simp))
              have hT := hT1
              have m2308 := hqr2307
              obtain ⟨hkw, hktx, hkco⟩ := m2308
              refine lv_iinc (v := (nI (k + 1))) (lv' := [(2, .int (nI (k + 1))), (3, .int (-8)), (0, .ref w), (1, .int 1)]) hx hb dX5_readTerm_73 hl (k := 1) rfl (nI_add _ 1) (by decide) rfl (fun ls hl => ?_)
              refine lv_goto (tgt := 12) hx hb dX5_readTerm_76 (by decide) ?_
              exact ih2253 ((k + 1), q2293, (l9 ++ l2292 ++ [(-8)]), (upd f2294 ((cc + l9.length) + l2292.length) (-8)), t2295, k2296) _ _ _ (by show 600 - ((k + 1)) < 600 - k; omega) ⟨(by show ((k + 1)) ≤ 600 ∧ (q2293) ≤ tn ∧ z + ((k + 1)) < (q2293); omega), (by have e7 : cc + l9.length + l2292.length = cc + (l9 ++ l2292).length := (by rw [List.length_append, Nat.add_assoc]); rw [e7]; exact (hcd.tr c2301).app1), (by show z + (l9 ++ l2292 ++ [(-8 : Int32)]).length ≤ q2293; have e8 : (l9 ++ l2292 ++ [(-8 : Int32)]).length = l9.length + l2292.length + 1 := (by simp only [List.length_append, List.length_cons, List.length_nil]); rw [e8]; omega), (hlp.trans (LP_c2 hY (by decide) (by decide) hpg e2287 e2283 (by rw [← hzz]; exact e2297))), (by have e8 : (l9 ++ l2292 ++ [(-8 : Int32)]).length = l9.length + l2292.length + 1 := (by simp only [List.length_append, List.length_cons, List.length_nil]); rw [e8, show cc + (l9.length + l2292.length + 1) = cc + l9.length + l2292.length + 1 by omega]; exact ⟨hkw, hktx, hkco⟩), hT, hF, hL⟩ (lv_sub hl [0, 2, 3] rfl)
            · refine lv_if_ne (tgt := 68) hx hb dX5_readTerm_63 (by decide) (fun c9 => absurd (by decide) c9) (fun _ => ?_)
              refine lv_iconst (v := 0) hx hb dX5_readTerm_66 (by decide) ?_
              exact en_i hx hb hr hlocks hL rfl (Nat.zero_le _) (Nat.zero_le _) dX5_readTerm_67 (⟨hT, hF, Or.inr ⟨rfl, _, _, hlp.trans (LP_er (o := 0) hY (by omega) (Or.inr ⟨e2287, e2283⟩) (by rw [← hzz]; exact e2305)), x2306⟩⟩)
        · refine lv_if_eq (tgt := 79) hx hb dX5_readTerm_34 (by decide) (fun _ => ?_) (fun c9 => absurd (by decide) c9)
          refine lv_iconst (v := 1) hx hb dX5_readTerm_79 (by decide) ?_
          exact en_i hx hb hr hlocks hL rfl (Nat.zero_le _) (Nat.zero_le _) dX5_readTerm_80 (⟨hT, hF, Or.inl ⟨rfl, l9, zc, _, _, _, hlp.trans (LP_no e2257 e2284), (by omega), (by omega), (by omega), hcd, ⟨hkw, hktx, hkco⟩⟩⟩)
  · refine lv_if_ne (tgt := 10) hx hb dX5_readTerm_5 (by decide) (fun c9 => absurd (by decide) c9) (fun _ => ?_)
    refine lv_iconst (v := 0) hx hb dX5_readTerm_8 (by decide) ?_
    exact en_i hx hb hr hlocks hL rfl (Nat.zero_le _) (Nat.zero_le _) dX5_readTerm_9 (⟨hT, hF, Or.inr ⟨rfl, _, _, (hfd z).trans (many_er e2251), x2252⟩⟩)
set_option maxHeartbeats 4000000 in
set_option maxRecDepth 100000 in
theorem c_X5_readSum_d1 {l : Launch} {D : va_G} {cs : Nat → ClassId} {B0 T : Nat} {κ : KM} {H0 : Heap} (hT : WT B0 D cs T κ H0) {w : Nat} (hw : T2 κ w 6 10) {tx co tn cc : Nat} {f cf B : Nat → Int32} {ta tk ec es : Int32} {su : Value} (hY : BY B tn) (hf : TXB f B tn) (hcc : cc ≤ 600) {z : Nat} (hz : z ≤ tn) (hrs : RS D cs w H0 tx f co cf (κ w).2.2.1 tn (tkE B z) (tkK B z) z (tkV B z) ta tk cc su ec es) (hcz : cc ≤ z) : KC l yX5_readSum wsX5_readSum 17 376 0 0 D cs B0 H0 [.ref w, .int 1] (Qi (fun r H => WT B0 D cs T κ H ∧ Fr B0 [10] κ H0 H ∧ ((r = 1 ∧ ∃ l1 q1 cf1 ta1 tk1, sumD B 3 z = .inr (l1, q1) ∧ z < q1 ∧ q1 ≤ tn ∧ z + l1.length ≤ q1 ∧ CDS cf cf1 cc l1 ∧ RS D cs w H tx f co cf1 (κ w).2.2.1 tn (tkE B q1) (tkK B q1) q1 (tkV B q1) ta1 tk1 (cc + l1.length) su ec es) ∨ (r = 0 ∧ ∃ c9 o9, sumD B 3 z = .inl (c9, o9) ∧ RE D cs w H tx f co (κ w).2.2.1 tn su c9 (nI o9))))) := by
  refine KC.of cX5_readSum 4 (some .boolean) (by decide) rfl (Nat.le_of_ble_eq_true rfl) ?_
  intro p e s m below meth c ls hx hb hr hml hown hts hlocks hin hN hE hH0 hl
  have hown : s.vm.findClass RX5 = some m.cls := hown
  have hl : lv_has ls 4 [(0, .ref w), (1, .int 1)] := hl
  have hL : OkL B0 [] := OkL.nil
  have hF : Fr B0 [10] κ H0 H0 := Fr.rf
  obtain ⟨hkw, hktx, hkco⟩ := hrs
  have h6n := hY.1
  obtain ⟨htx, hco⟩ : T2 κ tx 16 10 ∧ T2 κ co 17 10 := RS.t2 hT hw hkw
  have hzE := tkE_le hY (s := z) (by omega)
  have hfd : ∀ z9, sumD B 3 z9 = manyB B (trmD B 3) 43 45 (-5) (-6) z9 := fun _ => rfl
  have hpg := trmD_pg hY 3
  refine lv_aload_n hx hb dX5_readSum_0 rfl (lv_at hl 0 rfl) ?_
  refine lv_iload_n hx hb dX5_readSum_1 rfl (lv_at hl 1 rfl) ?_
  refine cv_i (As := [.int 1]) (rest := []) (b := w) ⟨hx, hb, hml, hown, hts⟩ (c_X5_readTerm_d1 hT (w := w) hw (by first | omega | decide | assumption) (by first | omega | decide | assumption) (by first | omega | decide | assumption) (by first | omega | decide | assumption) ⟨hkw, hktx, hkco⟩ (by first | omega | decide | assumption)) (cwV 1 hts gX5_readSum_X5_readTerm rfl rfl rfl hdX5_readTerm_v ⟨Nat.le_of_ble_eq_true rfl, Nat.le_of_ble_eq_true rfl⟩) hN hE hL (rcv6 hN hT hw.1) rfl rfl hl.1 (Nat.le_of_ble_eq_true rfl) dX5_readSum_2 (Nat.zero_le _) (Nat.zero_le _) (fun r2309 H1 locs hL hqr2309 => ?_)
  obtain ⟨hT1, hF1, hqr2309⟩ := hqr2309
  have hF := hF.tr (hF1.mono (by simp))
  have hT := hT1
  rcases hqr2309 with ⟨rfl, l2310, q2311, f2312, t2313, k2314, e2315, u2316, v2317, b2318, c2319, m2320⟩ | ⟨rfl, c2321, o2322, e2323, x2324⟩
  · obtain ⟨hkw, hktx, hkco⟩ := m2320
    have hzE := tkE_le hY (s := q2311) (by omega)
    refine lv_if_ne (tgt := 10) hx hb dX5_readSum_5 (by decide) (fun _ => ?_) (fun c9 => absurd c9 (by decide))
    refine lv_iconst (v := 0) hx hb dX5_readSum_10 (by decide) ?_
    refine lv_istore_n (lv' := [(2, .int 0), (0, .ref w), (1, .int 1)]) hx hb dX5_readSum_11 rfl hl (by decide) rfl (fun ls hl => ?_)
    refine lp_m (α := Nat × Nat × List Int32 × (Nat → Int32) × Int32 × Int32) (nL := 4) (fun a9 => 600 - a9.1) (fun a9 H9 l9 => (a9.1 ≤ 600 ∧ a9.2.1 ≤ tn ∧ z + a9.1 < a9.2.1) ∧ (CDS cf a9.2.2.2.1 cc a9.2.2.1) ∧ (z + a9.2.2.1.length ≤ a9.2.1) ∧ (sumD B 3 z = LPB B (trmD B 3) 43 45 (-5) (-6) a9.2.2.1 a9.2.1) ∧ (RS D cs w H9 tx f co a9.2.2.2.1 (κ w).2.2.1 tn (tkE B a9.2.1) (tkK B a9.2.1) a9.2.1 (tkV B a9.2.1) a9.2.2.2.2.1 a9.2.2.2.2.2 (cc + a9.2.2.1.length) su ec es) ∧ (WT B0 D cs T κ H9) ∧ (Fr B0 [10] κ H0 H9) ∧ (OkL B0 l9)) (fun a9 => [(2, .int (nI a9.1)), (0, .ref w), (1, .int 1)]) ?_ (0, q2311, l2310, f2312, t2313, k2314) _ _ _ ⟨(by show (0) ≤ 600 ∧ (q2311) ≤ tn ∧ z + (0) < (q2311); omega), c2319, (by show z + (l2310).length ≤ (q2311); omega), ((hfd z).trans (many_ok e2315)), ⟨hkw, hktx, hkco⟩, hT, hF, hL⟩ (lv_sub hl [0, 1, 2] rfl)
    rintro ⟨k, zc, l9, cf9, ta9, tk9⟩ H locs ls ih2325 ⟨hk, hcd, hcl, hlp, hks, hT, hF, hL⟩ hl
    have hl : lv_has ls 4 [(2, .int (nI k)), (0, .ref w), (1, .int 1)] := hl
    have hk : k ≤ 600 ∧ zc ≤ tn ∧ z + k < zc := hk
    have hcd : CDS cf cf9 cc l9 := hcd
    have hcl : z + l9.length ≤ zc := hcl
    have hlp : sumD B 3 z = LPB B (trmD B 3) 43 45 (-5) (-6) l9 zc := hlp
    have hks : RS D cs w H tx f co cf9 (κ w).2.2.1 tn (tkE B zc) (tkK B zc) zc (tkV B zc) ta9 tk9 (cc + l9.length) su ec es := hks
    obtain ⟨hkw, hktx, hkco⟩ := hks
    have hzE := tkE_le hY (s := zc) (by omega)
    refine lv_iload_n hx hb dX5_readSum_12 rfl (lv_at hl 0 rfl) ?_
    refine lv_sipush (v := 600) hx hb dX5_readSum_13 (by decide) ?_
    refine lv_icmp_ge (tgt := 79) hx hb dX5_readSum_16 (by decide) (fun c2326 => ?_) (fun c2326 => ?_)
    · have c2326 : 600 ≤ k := (nI_leI (a := 600) (b := k) (by omega) (by omega)).mp c2326
      exact absurd c2326 (by omega)
    · have c2326 : ¬ 600 ≤ k := fun h9 => c2326 ((nI_leI (a := 600) (b := k) (by omega) (by omega)).mpr h9)
      refine lv_aload_n hx hb dX5_readSum_19 rfl (lv_at hl 1 rfl) ?_
      refine lv_bipush (v := 43) hx hb dX5_readSum_20 (by decide) ?_
      refine cv_i (As := [.int 43]) (rest := []) (b := w) ⟨hx, hb, hml, hown, hts⟩ (c_X5_isMark hT (w := w) hw (ch := 43) (by first | omega | decide | assumption) (by first | omega | decide | assumption) (by first | omega | decide | assumption) (by first | omega | decide | assumption) ⟨hkw, hktx, hkco⟩ (by first | omega | decide | assumption)) (cwV 1 hts gX5_readSum_X5_isMark rfl rfl rfl hdX5_isMark_v ⟨Nat.le_of_ble_eq_true rfl, Nat.le_of_ble_eq_true rfl⟩) hN hE hL (rcv6 hN hT hw.1) rfl rfl hl.1 (Nat.le_of_ble_eq_true rfl) dX5_readSum_22 (Nat.zero_le _) (Nat.zero_le _) (fun r2327 H1 locs hL hqr2327 => ?_)
      obtain ⟨h9, hqr2327⟩ := hqr2327; replace h9 := h9.symm; subst h9
      rcases hqr2327 with ⟨rfl, e2328⟩ | ⟨rfl, e2329⟩
      · refine lv_if_ne (tgt := 37) hx hb dX5_readSum_25 (by decide) (fun _ => ?_) (fun c9 => absurd c9 (by decide))
        refine lv_aload_n hx hb dX5_readSum_37 rfl (lv_at hl 1 rfl) ?_
        refine lv_bipush (v := 43) hx hb dX5_readSum_38 (by decide) ?_
        refine cv_i (As := [.int 43]) (rest := []) (b := w) ⟨hx, hb, hml, hown, hts⟩ (c_X5_isMark hT (w := w) hw (ch := 43) (by first | omega | decide | assumption) (by first | omega | decide | assumption) (by first | omega | decide | assumption) (by first | omega | decide | assumption) ⟨hkw, hktx, hkco⟩ (by first | omega | decide | assumption)) (cwV 1 hts gX5_readSum_X5_isMark rfl rfl rfl hdX5_isMark_v ⟨Nat.le_of_ble_eq_true rfl, Nat.le_of_ble_eq_true rfl⟩) hN hE hL (rcv6 hN hT hw.1) rfl rfl hl.1 (Nat.le_of_ble_eq_true rfl) dX5_readSum_40 (Nat.zero_le _) (Nat.zero_le _) (fun r2330 H1 locs hL hqr2330 => ?_)
        obtain ⟨h9, hqr2330⟩ := hqr2330; replace h9 := h9.symm; subst h9
        rcases hqr2330 with ⟨rfl, e2331⟩ | ⟨rfl, e2332⟩
        · refine lv_if_eq (tgt := 51) hx hb dX5_readSum_43 (by decide) (fun c9 => absurd c9 (by decide)) (fun _ => ?_)
          refine lv_bipush (v := (-5)) hx hb dX5_readSum_46 (by decide) ?_
          refine lv_goto (tgt := 53) hx hb dX5_readSum_48 (by decide) ?_
          refine lv_istore_n (lv' := [(3, .int (-5)), (2, .int (nI k)), (0, .ref w), (1, .int 1)]) hx hb dX5_readSum_53 rfl hl (by decide) rfl (fun ls hl => ?_)
          refine lv_aload_n hx hb dX5_readSum_54 rfl (lv_at hl 2 rfl) ?_
          refine cv_v (As := []) (rest := []) (b := w) ⟨hx, hb, hml, hown, hts⟩ (c_X5_step hT (w := w) hw (by first | omega | decide | assumption) (by first | omega | decide | assumption) (by first | omega | decide | assumption) (by first | omega | decide | assumption) (by first | omega | decide | assumption) ⟨hkw, hktx, hkco⟩) (cwV 0 hts gX5_readSum_X5_step rfl rfl rfl hdX5_step_v ⟨Nat.le_of_ble_eq_true rfl, Nat.le_of_ble_eq_true rfl⟩) hN hE hL (rcv6 hN hT hw.1) rfl rfl hl.1 (Nat.le_of_ble_eq_true rfl) dX5_readSum_55 (Nat.zero_le _) (Nat.zero_le _) (fun H1 locs hL hqr2333 => ?_)
          obtain ⟨hT1, hF1, hqr2333⟩ := hqr2333
          have hF := hF.tr (hF1.mono (by simp))
          have hT := hT1
          have m2334 := hqr2333
          obtain ⟨z2335, hz2335⟩ : ∃ z9, z9 = skp B ((tkE B zc)) := ⟨_, rfl⟩
          rw [← hz2335] at m2334
          have bz2335 : z2335 ≤ tn := by rw [hz2335]; exact run_ub hY (by decide) (by omega)
          have hzE := tkE_le hY (s := z2335) (by omega)
          obtain ⟨hkw, hktx, hkco⟩ := m2334
          have hzl := mark_lt hY (by decide) e2331
          have hzz : z2335 = skp B (zc + 1) := by rw [hz2335, tkE_m hY (by decide) e2331]
          have hzb := skp_b hY (z := zc + 1) (by omega)
          rw [← hzz] at hzb
          refine lv_aload_n hx hb dX5_readSum_58 rfl (lv_at hl 2 rfl) ?_
          refine lv_iload_n hx hb dX5_readSum_59 rfl (lv_at hl 3 rfl) ?_
          refine cv_i (As := [.int 1]) (rest := []) (b := w) ⟨hx, hb, hml, hown, hts⟩ (c_X5_readTerm_d1 hT (w := w) hw (by first | omega | decide | assumption) (by first | omega | decide | assumption) (by first | omega | decide | assumption) (by first | omega | decide | assumption) ⟨hkw, hktx, hkco⟩ (by first | omega | decide | assumption)) (cwV 1 hts gX5_readSum_X5_readTerm rfl rfl rfl hdX5_readTerm_v ⟨Nat.le_of_ble_eq_true rfl, Nat.le_of_ble_eq_true rfl⟩) hN hE hL (rcv6 hN hT hw.1) rfl rfl hl.1 (Nat.le_of_ble_eq_true rfl) dX5_readSum_60 (Nat.zero_le _) (Nat.zero_le _) (fun r2336 H1 locs hL hqr2336 => ?_)
          obtain ⟨hT1, hF1, hqr2336⟩ := hqr2336
          have hF := hF.tr (hF1.mono (by simp))
          have hT := hT1
          rcases hqr2336 with ⟨rfl, l2337, q2338, f2339, t2340, k2341, e2342, u2343, v2344, b2345, c2346, m2347⟩ | ⟨rfl, c2348, o2349, e2350, x2351⟩
          · obtain ⟨hkw, hktx, hkco⟩ := m2347
            have hzE := tkE_le hY (s := q2338) (by omega)
            refine lv_if_ne (tgt := 68) hx hb dX5_readSum_63 (by decide) (fun _ => ?_) (fun c9 => absurd c9 (by decide))
            refine lv_aload_n hx hb dX5_readSum_68 rfl (lv_at hl 2 rfl) ?_
            refine lv_iload_n hx hb dX5_readSum_69 rfl (lv_at hl 0 rfl) ?_
            refine cv_v (As := [.int (-5)]) (rest := []) (b := w) ⟨hx, hb, hml, hown, hts⟩ (c_X5_putCode hT (w := w) hw (x := (-5)) (by first | omega | decide | assumption) (by first | omega | decide | assumption) (by first | omega | decide | assumption) (by first | omega | decide | assumption) ⟨hkw, hktx, hkco⟩ (by first | omega | decide | assumption)) (cwV 1 hts gX5_readSum_X5_putCode rfl rfl rfl hdX5_putCode_v ⟨Nat.le_of_ble_eq_true rfl, Nat.le_of_ble_eq_true rfl⟩) hN hE hL (rcv6 hN hT hw.1) rfl rfl hl.1 (Nat.le_of_ble_eq_true rfl) dX5_readSum_70 (Nat.zero_le _) (Nat.zero_le _) (fun H1 locs hL hqr2352 => ?_)
            obtain ⟨hT1, hF1, hqr2352⟩ := hqr2352
            have hF := hF.tr (hF1.mono (by simp))
            have hT := hT1
            have m2353 := hqr2352
            obtain ⟨hkw, hktx, hkco⟩ := m2353
            refine lv_iinc (v := (nI (k + 1))) (lv' := [(2, .int (nI (k + 1))), (3, .int (-5)), (0, .ref w), (1, .int 1)]) hx hb dX5_readSum_73 hl (k := 1) rfl (nI_add _ 1) (by decide) rfl (fun ls hl => ?_)
            refine lv_goto (tgt := 12) hx hb dX5_readSum_76 (by decide) ?_
            exact ih2325 ((k + 1), q2338, (l9 ++ l2337 ++ [(-5)]), (upd f2339 ((cc + l9.length) + l2337.length) (-5)), t2340, k2341) _ _ _ (by show 600 - ((k + 1)) < 600 - k; omega) ⟨(by show ((k + 1)) ≤ 600 ∧ (q2338) ≤ tn ∧ z + ((k + 1)) < (q2338); omega), (by have e7 : cc + l9.length + l2337.length = cc + (l9 ++ l2337).length := (by rw [List.length_append, Nat.add_assoc]); rw [e7]; exact (hcd.tr c2346).app1), (by show z + (l9 ++ l2337 ++ [(-5 : Int32)]).length ≤ q2338; have e8 : (l9 ++ l2337 ++ [(-5 : Int32)]).length = l9.length + l2337.length + 1 := (by simp only [List.length_append, List.length_cons, List.length_nil]); rw [e8]; omega), (hlp.trans (LP_c1 hY (by decide) (by decide) hpg e2331 (by rw [← hzz]; exact e2342))), (by have e8 : (l9 ++ l2337 ++ [(-5 : Int32)]).length = l9.length + l2337.length + 1 := (by simp only [List.length_append, List.length_cons, List.length_nil]); rw [e8, show cc + (l9.length + l2337.length + 1) = cc + l9.length + l2337.length + 1 by omega]; exact ⟨hkw, hktx, hkco⟩), hT, hF, hL⟩ (lv_sub hl [0, 2, 3] rfl)
          · refine lv_if_ne (tgt := 68) hx hb dX5_readSum_63 (by decide) (fun c9 => absurd (by decide) c9) (fun _ => ?_)
            refine lv_iconst (v := 0) hx hb dX5_readSum_66 (by decide) ?_
            exact en_i hx hb hr hlocks hL rfl (Nat.zero_le _) (Nat.zero_le _) dX5_readSum_67 (⟨hT, hF, Or.inr ⟨rfl, _, _, hlp.trans (LP_er (o := 0) hY (by omega) (Or.inl e2331) (by rw [← hzz]; exact e2350)), x2351⟩⟩)
        · exact absurd e2328 e2332
      · refine lv_if_ne (tgt := 37) hx hb dX5_readSum_25 (by decide) (fun c9 => absurd (by decide) c9) (fun _ => ?_)
        refine lv_aload_n hx hb dX5_readSum_28 rfl (lv_at hl 1 rfl) ?_
        refine lv_bipush (v := 45) hx hb dX5_readSum_29 (by decide) ?_
        refine cv_i (As := [.int 45]) (rest := []) (b := w) ⟨hx, hb, hml, hown, hts⟩ (c_X5_isMark hT (w := w) hw (ch := 45) (by first | omega | decide | assumption) (by first | omega | decide | assumption) (by first | omega | decide | assumption) (by first | omega | decide | assumption) ⟨hkw, hktx, hkco⟩ (by first | omega | decide | assumption)) (cwV 1 hts gX5_readSum_X5_isMark rfl rfl rfl hdX5_isMark_v ⟨Nat.le_of_ble_eq_true rfl, Nat.le_of_ble_eq_true rfl⟩) hN hE hL (rcv6 hN hT hw.1) rfl rfl hl.1 (Nat.le_of_ble_eq_true rfl) dX5_readSum_31 (Nat.zero_le _) (Nat.zero_le _) (fun r2354 H1 locs hL hqr2354 => ?_)
        obtain ⟨h9, hqr2354⟩ := hqr2354; replace h9 := h9.symm; subst h9
        rcases hqr2354 with ⟨rfl, e2355⟩ | ⟨rfl, e2356⟩
        · refine lv_if_eq (tgt := 79) hx hb dX5_readSum_34 (by decide) (fun c9 => absurd c9 (by decide)) (fun _ => ?_)
          refine lv_aload_n hx hb dX5_readSum_37 rfl (lv_at hl 1 rfl) ?_
          refine lv_bipush (v := 43) hx hb dX5_readSum_38 (by decide) ?_
          refine cv_i (As := [.int 43]) (rest := []) (b := w) ⟨hx, hb, hml, hown, hts⟩ (c_X5_isMark hT (w := w) hw (ch := 43) (by first | omega | decide | assumption) (by first | omega | decide | assumption) (by first | omega | decide | assumption) (by first | omega | decide | assumption) ⟨hkw, hktx, hkco⟩ (by first | omega | decide | assumption)) (cwV 1 hts gX5_readSum_X5_isMark rfl rfl rfl hdX5_isMark_v ⟨Nat.le_of_ble_eq_true rfl, Nat.le_of_ble_eq_true rfl⟩) hN hE hL (rcv6 hN hT hw.1) rfl rfl hl.1 (Nat.le_of_ble_eq_true rfl) dX5_readSum_40 (Nat.zero_le _) (Nat.zero_le _) (fun r2357 H1 locs hL hqr2357 => ?_)
          obtain ⟨h9, hqr2357⟩ := hqr2357; replace h9 := h9.symm; subst h9
          rcases hqr2357 with ⟨rfl, e2358⟩ | ⟨rfl, e2359⟩
          · exact absurd e2358 e2329
          · refine lv_if_eq (tgt := 51) hx hb dX5_readSum_43 (by decide) (fun _ => ?_) (fun c9 => absurd (by decide) c9)
            refine lv_bipush (v := (-6)) hx hb dX5_readSum_51 (by decide) ?_
            refine lv_istore_n (lv' := [(3, .int (-6)), (2, .int (nI k)), (0, .ref w), (1, .int 1)]) hx hb dX5_readSum_53 rfl hl (by decide) rfl (fun ls hl => ?_)
            refine lv_aload_n hx hb dX5_readSum_54 rfl (lv_at hl 2 rfl) ?_
            refine cv_v (As := []) (rest := []) (b := w) ⟨hx, hb, hml, hown, hts⟩ (c_X5_step hT (w := w) hw (by first | omega | decide | assumption) (by first | omega | decide | assumption) (by first | omega | decide | assumption) (by first | omega | decide | assumption) (by first | omega | decide | assumption) ⟨hkw, hktx, hkco⟩) (cwV 0 hts gX5_readSum_X5_step rfl rfl rfl hdX5_step_v ⟨Nat.le_of_ble_eq_true rfl, Nat.le_of_ble_eq_true rfl⟩) hN hE hL (rcv6 hN hT hw.1) rfl rfl hl.1 (Nat.le_of_ble_eq_true rfl) dX5_readSum_55 (Nat.zero_le _) (Nat.zero_le _) (fun H1 locs hL hqr2360 => ?_)
            obtain ⟨hT1, hF1, hqr2360⟩ := hqr2360
            have hF := hF.tr (hF1.mono (by simp))
            have hT := hT1
            have m2361 := hqr2360
            obtain ⟨z2362, hz2362⟩ : ∃ z9, z9 = skp B ((tkE B zc)) := ⟨_, rfl⟩
            rw [← hz2362] at m2361
            have bz2362 : z2362 ≤ tn := by rw [hz2362]; exact run_ub hY (by decide) (by omega)
            have hzE := tkE_le hY (s := z2362) (by omega)
            obtain ⟨hkw, hktx, hkco⟩ := m2361
            have hzl := mark_lt hY (by decide) e2355
            have hzz : z2362 = skp B (zc + 1) := by rw [hz2362, tkE_m hY (by decide) e2355]
            have hzb := skp_b hY (z := zc + 1) (by omega)
            rw [← hzz] at hzb
            refine lv_aload_n hx hb dX5_readSum_58 rfl (lv_at hl 2 rfl) ?_
            refine lv_iload_n hx hb dX5_readSum_59 rfl (lv_at hl 3 rfl) ?_
            refine cv_i (As := [.int 1]) (rest := []) (b := w) ⟨hx, hb, hml, hown, hts⟩ (c_X5_readTerm_d1 hT (w := w) hw (by first | omega | decide | assumption) (by first | omega | decide | assumption) (by first | omega | decide | assumption) (by first | omega | decide | assumption) ⟨hkw, hktx, hkco⟩ (by first | omega | decide | assumption)) (cwV 1 hts gX5_readSum_X5_readTerm rfl rfl rfl hdX5_readTerm_v ⟨Nat.le_of_ble_eq_true rfl, Nat.le_of_ble_eq_true rfl⟩) hN hE hL (rcv6 hN hT hw.1) rfl rfl hl.1 (Nat.le_of_ble_eq_true rfl) dX5_readSum_60 (Nat.zero_le _) (Nat.zero_le _) (fun r2363 H1 locs hL hqr2363 => ?_)
            obtain ⟨hT1, hF1, hqr2363⟩ := hqr2363
            have hF := hF.tr (hF1.mono (by simp))
            have hT := hT1
            rcases hqr2363 with ⟨rfl, l2364, q2365, f2366, t2367, k2368, e2369, u2370, v2371, b2372, c2373, m2374⟩ | ⟨rfl, c2375, o2376, e2377, x2378⟩
            · obtain ⟨hkw, hktx, hkco⟩ := m2374
              have hzE := tkE_le hY (s := q2365) (by omega)
              refine lv_if_ne (tgt := 68) hx hb dX5_readSum_63 (by decide) (fun _ => ?_) (fun c9 => absurd c9 (by decide))
              refine lv_aload_n hx hb dX5_readSum_68 rfl (lv_at hl 2 rfl) ?_
              refine lv_iload_n hx hb dX5_readSum_69 rfl (lv_at hl 0 rfl) ?_
              refine cv_v (As := [.int (-6)]) (rest := []) (b := w) ⟨hx, hb, hml, hown, hts⟩ (c_X5_putCode hT (w := w) hw (x := (-6)) (by first | omega | decide | assumption) (by first | omega | decide | assumption) (by first | omega | decide | assumption) (by first | omega | decide | assumption) ⟨hkw, hktx, hkco⟩ (by first | omega | decide | assumption)) (cwV 1 hts gX5_readSum_X5_putCode rfl rfl rfl hdX5_putCode_v ⟨Nat.le_of_ble_eq_true rfl, Nat.le_of_ble_eq_true rfl⟩) hN hE hL (rcv6 hN hT hw.1) rfl rfl hl.1 (Nat.le_of_ble_eq_true rfl) dX5_readSum_70 (Nat.zero_le _) (Nat.zero_le _) (fun H1 locs hL hqr2379 => ?_)
              obtain ⟨hT1, hF1, hqr2379⟩ := hqr2379
              have hF := hF.tr (hF1.mono (by simp))
              have hT := hT1
              have m2380 := hqr2379
              obtain ⟨hkw, hktx, hkco⟩ := m2380
              refine lv_iinc (v := (nI (k + 1))) (lv' := [(2, .int (nI (k + 1))), (3, .int (-6)), (0, .ref w), (1, .int 1)]) hx hb dX5_readSum_73 hl (k := 1) rfl (nI_add _ 1) (by decide) rfl (fun ls hl => ?_)
              refine lv_goto (tgt := 12) hx hb dX5_readSum_76 (by decide) ?_
              exact ih2325 ((k + 1), q2365, (l9 ++ l2364 ++ [(-6)]), (upd f2366 ((cc + l9.length) + l2364.length) (-6)), t2367, k2368) _ _ _ (by show 600 - ((k + 1)) < 600 - k; omega) ⟨(by show ((k + 1)) ≤ 600 ∧ (q2365) ≤ tn ∧ z + ((k + 1)) < (q2365); omega), (by have e7 : cc + l9.length + l2364.length = cc + (l9 ++ l2364).length := (by rw [List.length_append, Nat.add_assoc]); rw [e7]; exact (hcd.tr c2373).app1), (by show z + (l9 ++ l2364 ++ [(-6 : Int32)]).length ≤ q2365; have e8 : (l9 ++ l2364 ++ [(-6 : Int32)]).length = l9.length + l2364.length + 1 := (by simp only [List.length_append, List.length_cons, List.length_nil]); rw [e8]; omega), (hlp.trans (LP_c2 hY (by decide) (by decide) hpg e2359 e2355 (by rw [← hzz]; exact e2369))), (by have e8 : (l9 ++ l2364 ++ [(-6 : Int32)]).length = l9.length + l2364.length + 1 := (by simp only [List.length_append, List.length_cons, List.length_nil]); rw [e8, show cc + (l9.length + l2364.length + 1) = cc + l9.length + l2364.length + 1 by omega]; exact ⟨hkw, hktx, hkco⟩), hT, hF, hL⟩ (lv_sub hl [0, 2, 3] rfl)
            · refine lv_if_ne (tgt := 68) hx hb dX5_readSum_63 (by decide) (fun c9 => absurd (by decide) c9) (fun _ => ?_)
              refine lv_iconst (v := 0) hx hb dX5_readSum_66 (by decide) ?_
              exact en_i hx hb hr hlocks hL rfl (Nat.zero_le _) (Nat.zero_le _) dX5_readSum_67 (⟨hT, hF, Or.inr ⟨rfl, _, _, hlp.trans (LP_er (o := 0) hY (by omega) (Or.inr ⟨e2359, e2355⟩) (by rw [← hzz]; exact e2377)), x2378⟩⟩)
        · refine lv_if_eq (tgt := 79) hx hb dX5_readSum_34 (by decide) (fun _ => ?_) (fun c9 => absurd (by decide) c9)
          refine lv_iconst (v := 1) hx hb dX5_readSum_79 (by decide) ?_
          exact en_i hx hb hr hlocks hL rfl (Nat.zero_le _) (Nat.zero_le _) dX5_readSum_80 (⟨hT, hF, Or.inl ⟨rfl, l9, zc, _, _, _, hlp.trans (LP_no e2329 e2356), (by omega), (by omega), (by omega), hcd, ⟨hkw, hktx, hkco⟩⟩⟩)
  · refine lv_if_ne (tgt := 10) hx hb dX5_readSum_5 (by decide) (fun c9 => absurd (by decide) c9) (fun _ => ?_)
    refine lv_iconst (v := 0) hx hb dX5_readSum_8 (by decide) ?_
    exact en_i hx hb hr hlocks hL rfl (Nat.zero_le _) (Nat.zero_le _) dX5_readSum_9 (⟨hT, hF, Or.inr ⟨rfl, _, _, (hfd z).trans (many_er e2323), x2324⟩⟩)
set_option maxHeartbeats 4000000 in
set_option maxRecDepth 100000 in
theorem c_X5_readFactor_d0 {l : Launch} {D : va_G} {cs : Nat → ClassId} {B0 T : Nat} {κ : KM} {H0 : Heap} (hT : WT B0 D cs T κ H0) {w : Nat} (hw : T2 κ w 6 10) {tx co tn cc : Nat} {f cf B : Nat → Int32} {ta tk ec es : Int32} {su : Value} (hY : BY B tn) (hf : TXB f B tn) (hcc : cc ≤ 600) {z : Nat} (hz : z ≤ tn) (hrs : RS D cs w H0 tx f co cf (κ w).2.2.1 tn (tkE B z) (tkK B z) z (tkV B z) ta tk cc su ec es) (hcz : cc ≤ z) : KC l yX5_readFactor wsX5_readFactor 18 399 0 0 D cs B0 H0 [.ref w, .int 0] (Qi (fun r H => WT B0 D cs T κ H ∧ Fr B0 [10] κ H0 H ∧ ((r = 1 ∧ ∃ l1 q1 cf1 ta1 tk1, facD B 4 z = .inr (l1, q1) ∧ z < q1 ∧ q1 ≤ tn ∧ z + l1.length ≤ q1 ∧ CDS cf cf1 cc l1 ∧ RS D cs w H tx f co cf1 (κ w).2.2.1 tn (tkE B q1) (tkK B q1) q1 (tkV B q1) ta1 tk1 (cc + l1.length) su ec es) ∨ (r = 0 ∧ ∃ c9 o9, facD B 4 z = .inl (c9, o9) ∧ RE D cs w H tx f co (κ w).2.2.1 tn su c9 (nI o9))))) := by
  refine KC.of cX5_readFactor 3 (some .boolean) (by decide) rfl (Nat.le_of_ble_eq_true rfl) ?_
  intro p e s m below meth c ls hx hb hr hml hown hts hlocks hin hN hE hH0 hl
  have hown : s.vm.findClass RX5 = some m.cls := hown
  have hl : lv_has ls 3 [(0, .ref w), (1, .int 0)] := hl
  have hL : OkL B0 [] := OkL.nil
  have hF : Fr B0 [10] κ H0 H0 := Fr.rf
  obtain ⟨hkw, hktx, hkco⟩ := hrs
  have h6n := hY.1
  obtain ⟨htx, hco⟩ : T2 κ tx 16 10 ∧ T2 κ co 17 10 := RS.t2 hT hw hkw
  have hzE := tkE_le hY (s := z) (by omega)
  have hfd : ∀ z9, facD B 4 z9 = facB B (sumD B 3) false z9 := fun _ => rfl
  refine lv_aload_n hx hb dX5_readFactor_0 rfl (lv_at hl 0 rfl) ?_
  obtain ⟨hb2381, e2381, hat2381, hk2381⟩ := hT.o6 hw.1
  obtain ⟨f2381_0, f2381_2, f2381_3, f2381_4, f2381_5, f2381_6, f2381_7, f2381_8, f2381_9, f2381_10, f2381_11, f2381_12, f2381_13, rfl, c2381_1, c2381_2, c2381_3, c2381_5, c2381_10, t2381_0, t2381_9, c2381_11, c2381_p2⟩ := hk2381
  obtain ⟨rfl, rfl, rfl, rfl, rfl, rfl, rfl, rfl, rfl, rfl, rfl, rfl, rfl⟩ := eq6 hat2381 hkw (by omega)
  have hP : va_P D vwCl [(w, .inr (5, [.ref tx, .int (nI ((κ w).2.2.1)), .int (nI tn), .int (nI ((tkE B z))), .int (tkK B z), .int (nI z), .int (tkV B z), .int ta, .int tk, .ref co, .int (nI cc), su, .int ec, .int es]))] _ := va_P.cons hat2381 va_P.nil
  refine va_get (D := D) (ci := 5) (v := .int (tkK B z)) (C := RX5) (T := TX5) (N := 14) hx hb hts iX5_readFactor_5 hown hN.1 hP 0 rfl rfl 4 (by decide) (hts _ mX5_readFactor_1) (fun _ h9 => h9) rfl dX5_readFactor_1 ?_
  refine lv_iconst (v := 1) hx hb dX5_readFactor_4 (by decide) ?_
  refine lv_icmp_ne (tgt := 31) hx hb dX5_readFactor_5 (by decide) (fun c2382 => ?_) (fun c2382 => ?_)
  · have hnd : ¬ isd (B z) := fun g9 => c2382 (tkK_1.mpr g9)
    refine lv_aload_n hx hb dX5_readFactor_31 rfl (lv_at hl 0 rfl) ?_
    refine lv_bipush (v := 40) hx hb dX5_readFactor_32 (by decide) ?_
    refine cv_i (As := [.int 40]) (rest := []) (b := w) ⟨hx, hb, hml, hown, hts⟩ (c_X5_isMark hT (w := w) hw (ch := 40) (by first | omega | decide | assumption) (by first | omega | decide | assumption) (by first | omega | decide | assumption) (by first | omega | decide | assumption) ⟨hkw, hktx, hkco⟩ (by first | omega | decide | assumption)) (cwV 1 hts gX5_readFactor_X5_isMark rfl rfl rfl hdX5_isMark_v ⟨Nat.le_of_ble_eq_true rfl, Nat.le_of_ble_eq_true rfl⟩) hN hE hL (rcv6 hN hT hw.1) rfl rfl hl.1 (Nat.le_of_ble_eq_true rfl) dX5_readFactor_34 (Nat.zero_le _) (Nat.zero_le _) (fun r2383 H1 locs hL hqr2383 => ?_)
    obtain ⟨h9, hqr2383⟩ := hqr2383; replace h9 := h9.symm; subst h9
    rcases hqr2383 with ⟨rfl, e2384⟩ | ⟨rfl, e2385⟩
    · refine lv_if_eq (tgt := 85) hx hb dX5_readFactor_37 (by decide) (fun c9 => absurd c9 (by decide)) (fun _ => ?_)
      refine lv_iload_n hx hb dX5_readFactor_40 rfl (lv_at hl 1 rfl) ?_
      refine lv_iconst (v := 4) hx hb dX5_readFactor_41 (by decide) ?_
      refine lv_icmp_lt (tgt := 56) hx hb dX5_readFactor_42 (by decide) (fun _ => ?_) (fun c9 => absurd (by decide) c9)
      refine lv_aload_n hx hb dX5_readFactor_56 rfl (lv_at hl 0 rfl) ?_
      refine cv_v (As := []) (rest := []) (b := w) ⟨hx, hb, hml, hown, hts⟩ (c_X5_step hT (w := w) hw (by first | omega | decide | assumption) (by first | omega | decide | assumption) (by first | omega | decide | assumption) (by first | omega | decide | assumption) (by first | omega | decide | assumption) ⟨hkw, hktx, hkco⟩) (cwV 0 hts gX5_readFactor_X5_step rfl rfl rfl hdX5_step_v ⟨Nat.le_of_ble_eq_true rfl, Nat.le_of_ble_eq_true rfl⟩) hN hE hL (rcv6 hN hT hw.1) rfl rfl hl.1 (Nat.le_of_ble_eq_true rfl) dX5_readFactor_57 (Nat.zero_le _) (Nat.zero_le _) (fun H1 locs hL hqr2386 => ?_)
      obtain ⟨hT1, hF1, hqr2386⟩ := hqr2386
      have hF := hF.tr (hF1.mono (by simp))
      have hT := hT1
      have m2387 := hqr2386
      obtain ⟨z2388, hz2388⟩ : ∃ z9, z9 = skp B ((tkE B z)) := ⟨_, rfl⟩
      rw [← hz2388] at m2387
      have bz2388 : z2388 ≤ tn := by rw [hz2388]; exact run_ub hY (by decide) (by omega)
      have hzE := tkE_le hY (s := z2388) (by omega)
      obtain ⟨hkw, hktx, hkco⟩ := m2387
      have hz40 := mark_lt hY (by decide) e2384
      have hzz : z2388 = skp B (z + 1) := by rw [hz2388, tkE_m hY (by decide) e2384]
      have hzb := skp_b hY (z := z + 1) (by omega)
      refine lv_aload_n hx hb dX5_readFactor_60 rfl (lv_at hl 0 rfl) ?_
      refine lv_iload_n hx hb dX5_readFactor_61 rfl (lv_at hl 1 rfl) ?_
      refine lv_iconst (v := 1) hx hb dX5_readFactor_62 (by decide) ?_
      refine lv_iadd hx hb dX5_readFactor_63 ?_
      refine tp_i 1 (by decide) ?_
      refine cv_i (As := [.int 1]) (rest := []) (b := w) ⟨hx, hb, hml, hown, hts⟩ (c_X5_readSum_d1 hT (w := w) hw (by first | omega | decide | assumption) (by first | omega | decide | assumption) (by first | omega | decide | assumption) (by first | omega | decide | assumption) ⟨hkw, hktx, hkco⟩ (by first | omega | decide | assumption)) (cwV 1 hts gX5_readFactor_X5_readSum rfl rfl rfl hdX5_readSum_v ⟨Nat.le_of_ble_eq_true rfl, Nat.le_of_ble_eq_true rfl⟩) hN hE hL (rcv6 hN hT hw.1) rfl rfl hl.1 (Nat.le_of_ble_eq_true rfl) dX5_readFactor_64 (Nat.zero_le _) (Nat.zero_le _) (fun r2389 H1 locs hL hqr2389 => ?_)
      obtain ⟨hT1, hF1, hqr2389⟩ := hqr2389
      have hF := hF.tr (hF1.mono (by simp))
      have hT := hT1
      rcases hqr2389 with ⟨rfl, l2390, q2391, f2392, t2393, k2394, e2395, u2396, v2397, b2398, c2399, m2400⟩ | ⟨rfl, c2401, o2402, e2403, x2404⟩
      · obtain ⟨hkw, hktx, hkco⟩ := m2400
        have hzE := tkE_le hY (s := q2391) (by omega)
        refine lv_if_eq (tgt := 83) hx hb dX5_readFactor_67 (by decide) (fun c9 => absurd c9 (by decide)) (fun _ => ?_)
        refine lv_aload_n hx hb dX5_readFactor_70 rfl (lv_at hl 0 rfl) ?_
        refine lv_bipush (v := 41) hx hb dX5_readFactor_71 (by decide) ?_
        refine cv_i (As := [.int 41]) (rest := []) (b := w) ⟨hx, hb, hml, hown, hts⟩ (c_X5_takeMark hT (w := w) hw (ch := 41) (by first | omega | decide | assumption) (by first | omega | decide | assumption) (by first | omega | decide | assumption) (by first | omega | decide | assumption) ⟨hkw, hktx, hkco⟩ (by first | omega | decide | assumption)) (cwV 1 hts gX5_readFactor_X5_takeMark rfl rfl rfl hdX5_takeMark_v ⟨Nat.le_of_ble_eq_true rfl, Nat.le_of_ble_eq_true rfl⟩) hN hE hL (rcv6 hN hT hw.1) rfl rfl hl.1 (Nat.le_of_ble_eq_true rfl) dX5_readFactor_73 (Nat.zero_le _) (Nat.zero_le _) (fun r2405 H1 locs hL hqr2405 => ?_)
        obtain ⟨hT1, hF1, hqr2405⟩ := hqr2405
        have hF := hF.tr (hF1.mono (by simp))
        have hT := hT1
        rcases hqr2405 with ⟨rfl, e2406, m2407⟩ | ⟨rfl, e2408, m2409⟩
        · obtain ⟨z2410, hz2410⟩ : ∃ z9, z9 = skp B (q2391 + 1) := ⟨_, rfl⟩
          rw [← hz2410] at m2407
          have bz2410 : z2410 ≤ tn := by rw [hz2410]; exact (skp_b hY (Nat.succ_le_of_lt (mark_lt hY (by first | decide | exact hch.1) e2406))).2
          have hzE := tkE_le hY (s := z2410) (by omega)
          obtain ⟨hkw, hktx, hkco⟩ := m2407
          refine lv_if_eq (tgt := 83) hx hb dX5_readFactor_76 (by decide) (fun c9 => absurd c9 (by decide)) (fun _ => ?_)
          refine lv_iconst (v := 1) hx hb dX5_readFactor_79 (by decide) ?_
          refine lv_goto (tgt := 84) hx hb dX5_readFactor_80 (by decide) ?_
          have h41 := mark_lt hY (by decide) e2406
          have h41b := skp_b hY (z := q2391 + 1) (by omega)
          rw [← hz2410] at h41b
          exact en_i hx hb hr hlocks hL rfl (Nat.zero_le _) (Nat.zero_le _) dX5_readFactor_84 (⟨hT, hF, Or.inl ⟨rfl, l2390, z2410, _, _, _, (hfd z).trans ((fac_cl hnd e2384 (by rw [← hzz]; exact e2395) e2406).trans (by rw [hz2410])), (by omega), (by omega), (by omega), c2399, ⟨hkw, hktx, hkco⟩⟩⟩)
        · obtain ⟨hkw, hktx, hkco⟩ := m2409
          refine lv_if_eq (tgt := 83) hx hb dX5_readFactor_76 (by decide) (fun _ => ?_) (fun c9 => absurd (by decide) c9)
          refine lv_iconst (v := 0) hx hb dX5_readFactor_83 (by decide) ?_
          exact en_i hx hb hr hlocks hL rfl (Nat.zero_le _) (Nat.zero_le _) dX5_readFactor_84 (⟨hT, hF, Or.inr ⟨rfl, -2, q2391, (hfd z).trans (fac_op hnd e2384 (by rw [← hzz]; exact e2395) e2408), ⟨_, _, _, _, _, _, _, _, (by omega), (by omega), (by omega), hkw, hktx, hkco⟩⟩⟩)
      · refine lv_if_eq (tgt := 83) hx hb dX5_readFactor_67 (by decide) (fun _ => ?_) (fun c9 => absurd (by decide) c9)
        refine lv_iconst (v := 0) hx hb dX5_readFactor_83 (by decide) ?_
        exact en_i hx hb hr hlocks hL rfl (Nat.zero_le _) (Nat.zero_le _) dX5_readFactor_84 (⟨hT, hF, Or.inr ⟨rfl, _, _, (hfd z).trans (fac_er hnd e2384 (by rw [← hzz]; exact e2403)), x2404⟩⟩)
    · refine lv_if_eq (tgt := 85) hx hb dX5_readFactor_37 (by decide) (fun _ => ?_) (fun c9 => absurd (by decide) c9)
      refine lv_aload_n hx hb dX5_readFactor_85 rfl (lv_at hl 0 rfl) ?_
      refine cv_i (As := []) (rest := []) (b := w) ⟨hx, hb, hml, hown, hts⟩ (c_X5_codeOfWord hT (w := w) hw (by first | omega | decide | assumption) (by first | omega | decide | assumption) (by first | omega | decide | assumption) (by first | omega | decide | assumption) ⟨hkw, hktx, hkco⟩) (cwV 0 hts gX5_readFactor_X5_codeOfWord rfl rfl rfl hdX5_codeOfWord_v ⟨Nat.le_of_ble_eq_true rfl, Nat.le_of_ble_eq_true rfl⟩) hN hE hL (rcv6 hN hT hw.1) rfl rfl hl.1 (Nat.le_of_ble_eq_true rfl) dX5_readFactor_86 (Nat.zero_le _) (Nat.zero_le _) (fun r2411 H1 locs hL hqr2411 => ?_)
      obtain ⟨h9, hqr2411⟩ := hqr2411; replace h9 := h9.symm; subst h9
      rcases hqr2411 with ⟨rfl, a2412⟩ | ⟨rfl, a2413, b2414⟩ | ⟨rfl, a2415, b2416, c2417⟩ | ⟨rfl, a2418, b2419, c2420, d2421⟩ | ⟨rfl, a2422, b2423, c2424, d2425⟩
      · have hzl := hY.l (isW_le hY (i := 1) (by decide) a2412).1
        refine lv_istore_n (lv' := [(2, .int (-1)), (0, .ref w), (1, .int 0)]) hx hb dX5_readFactor_89 rfl hl (by decide) rfl (fun ls hl => ?_)
        refine lv_iload_n hx hb dX5_readFactor_90 rfl (lv_at hl 0 rfl) ?_
        refine lv_if_ne (tgt := 105) hx hb dX5_readFactor_91 (by decide) (fun _ => ?_) (fun c9 => absurd c9 (by decide))
        refine lv_aload_n hx hb dX5_readFactor_105 rfl (lv_at hl 1 rfl) ?_
        refine lv_iload_n hx hb dX5_readFactor_106 rfl (lv_at hl 0 rfl) ?_
        refine cv_v (As := [.int (-1)]) (rest := []) (b := w) ⟨hx, hb, hml, hown, hts⟩ (c_X5_putCode hT (w := w) hw (x := (-1)) (by first | omega | decide | assumption) (by first | omega | decide | assumption) (by first | omega | decide | assumption) (by first | omega | decide | assumption) ⟨hkw, hktx, hkco⟩ (by first | omega | decide | assumption)) (cwV 1 hts gX5_readFactor_X5_putCode rfl rfl rfl hdX5_putCode_v ⟨Nat.le_of_ble_eq_true rfl, Nat.le_of_ble_eq_true rfl⟩) hN hE hL (rcv6 hN hT hw.1) rfl rfl hl.1 (Nat.le_of_ble_eq_true rfl) dX5_readFactor_107 (Nat.zero_le _) (Nat.zero_le _) (fun H1 locs hL hqr2426 => ?_)
        obtain ⟨hT1, hF1, hqr2426⟩ := hqr2426
        have hF := hF.tr (hF1.mono (by simp))
        have hT := hT1
        have m2427 := hqr2426
        obtain ⟨hkw, hktx, hkco⟩ := m2427
        refine lv_aload_n hx hb dX5_readFactor_110 rfl (lv_at hl 1 rfl) ?_
        refine cv_v (As := []) (rest := []) (b := w) ⟨hx, hb, hml, hown, hts⟩ (c_X5_step hT (w := w) hw (by first | omega | decide | assumption) (by first | omega | decide | assumption) (by first | omega | decide | assumption) (by first | omega | decide | assumption) (by first | omega | decide | assumption) ⟨hkw, hktx, hkco⟩) (cwV 0 hts gX5_readFactor_X5_step rfl rfl rfl hdX5_step_v ⟨Nat.le_of_ble_eq_true rfl, Nat.le_of_ble_eq_true rfl⟩) hN hE hL (rcv6 hN hT hw.1) rfl rfl hl.1 (Nat.le_of_ble_eq_true rfl) dX5_readFactor_111 (Nat.zero_le _) (Nat.zero_le _) (fun H1 locs hL hqr2428 => ?_)
        obtain ⟨hT1, hF1, hqr2428⟩ := hqr2428
        have hF := hF.tr (hF1.mono (by simp))
        have hT := hT1
        have m2429 := hqr2428
        obtain ⟨z2430, hz2430⟩ : ∃ z9, z9 = skp B ((tkE B z)) := ⟨_, rfl⟩
        rw [← hz2430] at m2429
        have bz2430 : z2430 ≤ tn := by rw [hz2430]; exact run_ub hY (by decide) (by omega)
        have hzE := tkE_le hY (s := z2430) (by omega)
        obtain ⟨hkw, hktx, hkco⟩ := m2429
        refine lv_iconst (v := 1) hx hb dX5_readFactor_114 (by decide) ?_
        have hwl := isW_lt hY (i := 1) (by decide) a2412
        have hzw : z2430 = skp B (z + nT 1) := by rw [hz2430, tkE_w hY (i := 1) (by decide) a2412]
        rw [← hzw] at hwl
        exact en_i hx hb hr hlocks hL rfl (Nat.zero_le _) (Nat.zero_le _) dX5_readFactor_115 (⟨hT, hF, Or.inl ⟨rfl, [(-1)], z2430, _, _, _, ((hfd z).trans (fac_w1 hnd e2385 a2412)).trans (by rw [hzw]), hwl.1, hwl.2, (show z + 1 ≤ _ by omega), CDS.one, ⟨hkw, hktx, hkco⟩⟩⟩)
      · have hzl := hY.l (isW_le hY (i := 7) (by decide) b2414).1
        refine lv_istore_n (lv' := [(2, .int (-2)), (0, .ref w), (1, .int 0)]) hx hb dX5_readFactor_89 rfl hl (by decide) rfl (fun ls hl => ?_)
        refine lv_iload_n hx hb dX5_readFactor_90 rfl (lv_at hl 0 rfl) ?_
        refine lv_if_ne (tgt := 105) hx hb dX5_readFactor_91 (by decide) (fun _ => ?_) (fun c9 => absurd c9 (by decide))
        refine lv_aload_n hx hb dX5_readFactor_105 rfl (lv_at hl 1 rfl) ?_
        refine lv_iload_n hx hb dX5_readFactor_106 rfl (lv_at hl 0 rfl) ?_
        refine cv_v (As := [.int (-2)]) (rest := []) (b := w) ⟨hx, hb, hml, hown, hts⟩ (c_X5_putCode hT (w := w) hw (x := (-2)) (by first | omega | decide | assumption) (by first | omega | decide | assumption) (by first | omega | decide | assumption) (by first | omega | decide | assumption) ⟨hkw, hktx, hkco⟩ (by first | omega | decide | assumption)) (cwV 1 hts gX5_readFactor_X5_putCode rfl rfl rfl hdX5_putCode_v ⟨Nat.le_of_ble_eq_true rfl, Nat.le_of_ble_eq_true rfl⟩) hN hE hL (rcv6 hN hT hw.1) rfl rfl hl.1 (Nat.le_of_ble_eq_true rfl) dX5_readFactor_107 (Nat.zero_le _) (Nat.zero_le _) (fun H1 locs hL hqr2431 => ?_)
        obtain ⟨hT1, hF1, hqr2431⟩ := hqr2431
        have hF := hF.tr (hF1.mono (by simp))
        have hT := hT1
        have m2432 := hqr2431
        obtain ⟨hkw, hktx, hkco⟩ := m2432
        refine lv_aload_n hx hb dX5_readFactor_110 rfl (lv_at hl 1 rfl) ?_
        refine cv_v (As := []) (rest := []) (b := w) ⟨hx, hb, hml, hown, hts⟩ (c_X5_step hT (w := w) hw (by first | omega | decide | assumption) (by first | omega | decide | assumption) (by first | omega | decide | assumption) (by first | omega | decide | assumption) (by first | omega | decide | assumption) ⟨hkw, hktx, hkco⟩) (cwV 0 hts gX5_readFactor_X5_step rfl rfl rfl hdX5_step_v ⟨Nat.le_of_ble_eq_true rfl, Nat.le_of_ble_eq_true rfl⟩) hN hE hL (rcv6 hN hT hw.1) rfl rfl hl.1 (Nat.le_of_ble_eq_true rfl) dX5_readFactor_111 (Nat.zero_le _) (Nat.zero_le _) (fun H1 locs hL hqr2433 => ?_)
        obtain ⟨hT1, hF1, hqr2433⟩ := hqr2433
        have hF := hF.tr (hF1.mono (by simp))
        have hT := hT1
        have m2434 := hqr2433
        obtain ⟨z2435, hz2435⟩ : ∃ z9, z9 = skp B ((tkE B z)) := ⟨_, rfl⟩
        rw [← hz2435] at m2434
        have bz2435 : z2435 ≤ tn := by rw [hz2435]; exact run_ub hY (by decide) (by omega)
        have hzE := tkE_le hY (s := z2435) (by omega)
        obtain ⟨hkw, hktx, hkco⟩ := m2434
        refine lv_iconst (v := 1) hx hb dX5_readFactor_114 (by decide) ?_
        have hwl := isW_lt hY (i := 7) (by decide) b2414
        have hzw : z2435 = skp B (z + nT 7) := by rw [hz2435, tkE_w hY (i := 7) (by decide) b2414]
        rw [← hzw] at hwl
        exact en_i hx hb hr hlocks hL rfl (Nat.zero_le _) (Nat.zero_le _) dX5_readFactor_115 (⟨hT, hF, Or.inl ⟨rfl, [(-2)], z2435, _, _, _, ((hfd z).trans (fac_w2 hnd e2385 a2413 b2414)).trans (by rw [hzw]), hwl.1, hwl.2, (show z + 1 ≤ _ by omega), CDS.one, ⟨hkw, hktx, hkco⟩⟩⟩)
      · have hzl := hY.l (isW_le hY (i := 8) (by decide) c2417).1
        refine lv_istore_n (lv' := [(2, .int (-3)), (0, .ref w), (1, .int 0)]) hx hb dX5_readFactor_89 rfl hl (by decide) rfl (fun ls hl => ?_)
        refine lv_iload_n hx hb dX5_readFactor_90 rfl (lv_at hl 0 rfl) ?_
        refine lv_if_ne (tgt := 105) hx hb dX5_readFactor_91 (by decide) (fun _ => ?_) (fun c9 => absurd c9 (by decide))
        refine lv_aload_n hx hb dX5_readFactor_105 rfl (lv_at hl 1 rfl) ?_
        refine lv_iload_n hx hb dX5_readFactor_106 rfl (lv_at hl 0 rfl) ?_
        refine cv_v (As := [.int (-3)]) (rest := []) (b := w) ⟨hx, hb, hml, hown, hts⟩ (c_X5_putCode hT (w := w) hw (x := (-3)) (by first | omega | decide | assumption) (by first | omega | decide | assumption) (by first | omega | decide | assumption) (by first | omega | decide | assumption) ⟨hkw, hktx, hkco⟩ (by first | omega | decide | assumption)) (cwV 1 hts gX5_readFactor_X5_putCode rfl rfl rfl hdX5_putCode_v ⟨Nat.le_of_ble_eq_true rfl, Nat.le_of_ble_eq_true rfl⟩) hN hE hL (rcv6 hN hT hw.1) rfl rfl hl.1 (Nat.le_of_ble_eq_true rfl) dX5_readFactor_107 (Nat.zero_le _) (Nat.zero_le _) (fun H1 locs hL hqr2436 => ?_)
        obtain ⟨hT1, hF1, hqr2436⟩ := hqr2436
        have hF := hF.tr (hF1.mono (by simp))
        have hT := hT1
        have m2437 := hqr2436
        obtain ⟨hkw, hktx, hkco⟩ := m2437
        refine lv_aload_n hx hb dX5_readFactor_110 rfl (lv_at hl 1 rfl) ?_
        refine cv_v (As := []) (rest := []) (b := w) ⟨hx, hb, hml, hown, hts⟩ (c_X5_step hT (w := w) hw (by first | omega | decide | assumption) (by first | omega | decide | assumption) (by first | omega | decide | assumption) (by first | omega | decide | assumption) (by first | omega | decide | assumption) ⟨hkw, hktx, hkco⟩) (cwV 0 hts gX5_readFactor_X5_step rfl rfl rfl hdX5_step_v ⟨Nat.le_of_ble_eq_true rfl, Nat.le_of_ble_eq_true rfl⟩) hN hE hL (rcv6 hN hT hw.1) rfl rfl hl.1 (Nat.le_of_ble_eq_true rfl) dX5_readFactor_111 (Nat.zero_le _) (Nat.zero_le _) (fun H1 locs hL hqr2438 => ?_)
        obtain ⟨hT1, hF1, hqr2438⟩ := hqr2438
        have hF := hF.tr (hF1.mono (by simp))
        have hT := hT1
        have m2439 := hqr2438
        obtain ⟨z2440, hz2440⟩ : ∃ z9, z9 = skp B ((tkE B z)) := ⟨_, rfl⟩
        rw [← hz2440] at m2439
        have bz2440 : z2440 ≤ tn := by rw [hz2440]; exact run_ub hY (by decide) (by omega)
        have hzE := tkE_le hY (s := z2440) (by omega)
        obtain ⟨hkw, hktx, hkco⟩ := m2439
        refine lv_iconst (v := 1) hx hb dX5_readFactor_114 (by decide) ?_
        have hwl := isW_lt hY (i := 8) (by decide) c2417
        have hzw : z2440 = skp B (z + nT 8) := by rw [hz2440, tkE_w hY (i := 8) (by decide) c2417]
        rw [← hzw] at hwl
        exact en_i hx hb hr hlocks hL rfl (Nat.zero_le _) (Nat.zero_le _) dX5_readFactor_115 (⟨hT, hF, Or.inl ⟨rfl, [(-3)], z2440, _, _, _, ((hfd z).trans (fac_w3 hnd e2385 a2415 b2416 c2417)).trans (by rw [hzw]), hwl.1, hwl.2, (show z + 1 ≤ _ by omega), CDS.one, ⟨hkw, hktx, hkco⟩⟩⟩)
      · have hzl := hY.l (isW_le hY (i := 9) (by decide) d2421).1
        refine lv_istore_n (lv' := [(2, .int (-4)), (0, .ref w), (1, .int 0)]) hx hb dX5_readFactor_89 rfl hl (by decide) rfl (fun ls hl => ?_)
        refine lv_iload_n hx hb dX5_readFactor_90 rfl (lv_at hl 0 rfl) ?_
        refine lv_if_ne (tgt := 105) hx hb dX5_readFactor_91 (by decide) (fun _ => ?_) (fun c9 => absurd c9 (by decide))
        refine lv_aload_n hx hb dX5_readFactor_105 rfl (lv_at hl 1 rfl) ?_
        refine lv_iload_n hx hb dX5_readFactor_106 rfl (lv_at hl 0 rfl) ?_
        refine cv_v (As := [.int (-4)]) (rest := []) (b := w) ⟨hx, hb, hml, hown, hts⟩ (c_X5_putCode hT (w := w) hw (x := (-4)) (by first | omega | decide | assumption) (by first | omega | decide | assumption) (by first | omega | decide | assumption) (by first | omega | decide | assumption) ⟨hkw, hktx, hkco⟩ (by first | omega | decide | assumption)) (cwV 1 hts gX5_readFactor_X5_putCode rfl rfl rfl hdX5_putCode_v ⟨Nat.le_of_ble_eq_true rfl, Nat.le_of_ble_eq_true rfl⟩) hN hE hL (rcv6 hN hT hw.1) rfl rfl hl.1 (Nat.le_of_ble_eq_true rfl) dX5_readFactor_107 (Nat.zero_le _) (Nat.zero_le _) (fun H1 locs hL hqr2441 => ?_)
        obtain ⟨hT1, hF1, hqr2441⟩ := hqr2441
        have hF := hF.tr (hF1.mono (by simp))
        have hT := hT1
        have m2442 := hqr2441
        obtain ⟨hkw, hktx, hkco⟩ := m2442
        refine lv_aload_n hx hb dX5_readFactor_110 rfl (lv_at hl 1 rfl) ?_
        refine cv_v (As := []) (rest := []) (b := w) ⟨hx, hb, hml, hown, hts⟩ (c_X5_step hT (w := w) hw (by first | omega | decide | assumption) (by first | omega | decide | assumption) (by first | omega | decide | assumption) (by first | omega | decide | assumption) (by first | omega | decide | assumption) ⟨hkw, hktx, hkco⟩) (cwV 0 hts gX5_readFactor_X5_step rfl rfl rfl hdX5_step_v ⟨Nat.le_of_ble_eq_true rfl, Nat.le_of_ble_eq_true rfl⟩) hN hE hL (rcv6 hN hT hw.1) rfl rfl hl.1 (Nat.le_of_ble_eq_true rfl) dX5_readFactor_111 (Nat.zero_le _) (Nat.zero_le _) (fun H1 locs hL hqr2443 => ?_)
        obtain ⟨hT1, hF1, hqr2443⟩ := hqr2443
        have hF := hF.tr (hF1.mono (by simp))
        have hT := hT1
        have m2444 := hqr2443
        obtain ⟨z2445, hz2445⟩ : ∃ z9, z9 = skp B ((tkE B z)) := ⟨_, rfl⟩
        rw [← hz2445] at m2444
        have bz2445 : z2445 ≤ tn := by rw [hz2445]; exact run_ub hY (by decide) (by omega)
        have hzE := tkE_le hY (s := z2445) (by omega)
        obtain ⟨hkw, hktx, hkco⟩ := m2444
        refine lv_iconst (v := 1) hx hb dX5_readFactor_114 (by decide) ?_
        have hwl := isW_lt hY (i := 9) (by decide) d2421
        have hzw : z2445 = skp B (z + nT 9) := by rw [hz2445, tkE_w hY (i := 9) (by decide) d2421]
        rw [← hzw] at hwl
        exact en_i hx hb hr hlocks hL rfl (Nat.zero_le _) (Nat.zero_le _) dX5_readFactor_115 (⟨hT, hF, Or.inl ⟨rfl, [(-4)], z2445, _, _, _, ((hfd z).trans (fac_w4 hnd e2385 a2418 b2419 c2420 d2421)).trans (by rw [hzw]), hwl.1, hwl.2, (show z + 1 ≤ _ by omega), CDS.one, ⟨hkw, hktx, hkco⟩⟩⟩)
      · refine lv_istore_n (lv' := [(2, .int 0), (0, .ref w), (1, .int 0)]) hx hb dX5_readFactor_89 rfl hl (by decide) rfl (fun ls hl => ?_)
        refine lv_iload_n hx hb dX5_readFactor_90 rfl (lv_at hl 0 rfl) ?_
        refine lv_if_ne (tgt := 105) hx hb dX5_readFactor_91 (by decide) (fun c9 => absurd (by decide) c9) (fun _ => ?_)
        refine lv_aload_n hx hb dX5_readFactor_94 rfl (lv_at hl 1 rfl) ?_
        refine lv_bipush (v := (-2)) hx hb dX5_readFactor_95 (by decide) ?_
        refine lv_aload_n hx hb dX5_readFactor_97 rfl (lv_at hl 1 rfl) ?_
        refine va_get (D := D) (ci := 5) (v := .int (nI z)) (C := RX5) (T := TX5) (N := 14) hx hb hts iX5_readFactor_5 hown hN.1 hP 0 rfl rfl 5 (by decide) (hts _ mX5_readFactor_3) (fun _ h9 => h9) rfl dX5_readFactor_98 ?_
        refine cv_i (As := [.int (-2), .int (nI z)]) (rest := []) (b := w) ⟨hx, hb, hml, hown, hts⟩ (c_X5_fail hT (w := w) hw (x := (-2)) (y := (nI z)) (by first | omega | decide | assumption) (by first | omega | decide | assumption) (by first | omega | decide | assumption) (by first | omega | decide | assumption) (by first | omega | decide | assumption) ⟨hkw, hktx, hkco⟩) (cwV 2 hts gX5_readFactor_X5_fail rfl rfl rfl hdX5_fail_v ⟨Nat.le_of_ble_eq_true rfl, Nat.le_of_ble_eq_true rfl⟩) hN hE hL (rcv6 hN hT hw.1) rfl rfl hl.1 (Nat.le_of_ble_eq_true rfl) dX5_readFactor_101 (Nat.zero_le _) (Nat.zero_le _) (fun r2446 H1 locs hL hqr2446 => ?_)
        obtain ⟨hT1, hF1, hqr2446⟩ := hqr2446
        have hF := hF.tr (hF1.mono (by simp))
        have hT := hT1
        obtain ⟨rfl, m2447⟩ := hqr2446
        obtain ⟨hkw, hktx, hkco⟩ := m2447
        exact en_i hx hb hr hlocks hL rfl (Nat.zero_le _) (Nat.zero_le _) dX5_readFactor_104 (⟨hT, hF, Or.inr ⟨rfl, -2, z, (hfd z).trans (fac_w0 hnd e2385 a2422 b2423 c2424 d2425), ⟨_, _, _, _, _, _, _, _, (by omega), (by omega), (by omega), hkw, hktx, hkco⟩⟩⟩)
  · have hd := tkK_1.mp c2382
    have hzl := hY.d hd
    refine lv_aload_n hx hb dX5_readFactor_8 rfl (lv_at hl 0 rfl) ?_
    refine lv_iconst (v := 0) hx hb dX5_readFactor_9 (by decide) ?_
    refine lv_sipush (v := 9999) hx hb dX5_readFactor_10 (by decide) ?_
    refine cv_i (As := [.int 0, .int 9999]) (rest := []) (b := w) ⟨hx, hb, hml, hown, hts⟩ (c_X5_takeNumber hT (w := w) hw (aa := 0) (bb := 9999) (by first | omega | decide | assumption) (by first | omega | decide | assumption) (by first | omega | decide | assumption) (by first | omega | decide | assumption) ⟨hkw, hktx, hkco⟩ (by first | omega | decide | assumption) (by first | omega | decide | assumption)) (cwV 2 hts gX5_readFactor_X5_takeNumber rfl rfl rfl hdX5_takeNumber_v ⟨Nat.le_of_ble_eq_true rfl, Nat.le_of_ble_eq_true rfl⟩) hN hE hL (rcv6 hN hT hw.1) rfl rfl hl.1 (Nat.le_of_ble_eq_true rfl) dX5_readFactor_13 (Nat.zero_le _) (Nat.zero_le _) (fun r2448 H1 locs hL hqr2448 => ?_)
    obtain ⟨hT1, hF1, hqr2448⟩ := hqr2448
    have hF := hF.tr (hF1.mono (by simp))
    have hT := hT1
    rcases hqr2448 with ⟨rfl, d2449, l2450, g2451, m2452⟩ | ⟨rfl, d2453, m2454⟩ | ⟨rfl, d2455, g2456, m2457⟩
    · obtain ⟨z2458, hz2458⟩ : ∃ z9, z9 = skp B (dgE B z) := ⟨_, rfl⟩
      rw [← hz2458] at m2452
      have bz2458 : z2458 ≤ tn := by rw [hz2458]; exact (dgE_lt hY d2449).2
      have hzE := tkE_le hY (s := z2458) (by omega)
      obtain ⟨hkw, hktx, hkco⟩ := m2452
      refine lv_if_ne (tgt := 21) hx hb dX5_readFactor_16 (by decide) (fun _ => ?_) (fun c9 => absurd c9 (by decide))
      refine lv_aload_n hx hb dX5_readFactor_21 rfl (lv_at hl 0 rfl) ?_
      refine lv_aload_n hx hb dX5_readFactor_22 rfl (lv_at hl 0 rfl) ?_
      obtain ⟨hb2459, e2459, hat2459, hk2459⟩ := hT.o6 hw.1
      obtain ⟨f2459_0, f2459_2, f2459_3, f2459_4, f2459_5, f2459_6, f2459_7, f2459_8, f2459_9, f2459_10, f2459_11, f2459_12, f2459_13, rfl, c2459_1, c2459_2, c2459_3, c2459_5, c2459_10, t2459_0, t2459_9, c2459_11, c2459_p2⟩ := hk2459
      obtain ⟨rfl, rfl, rfl, rfl, rfl, rfl, rfl, rfl, rfl, rfl, rfl, rfl, rfl⟩ := eq6 hat2459 hkw (by omega)
      have hP : va_P D vwCl [(w, .inr (5, [.ref tx, .int (nI ((κ w).2.2.1)), .int (nI tn), .int (nI ((tkE B z2458))), .int (tkK B z2458), .int (nI z2458), .int (tkV B z2458), .int (nI ((nvl B z 0))), .int (nI z), .ref co, .int (nI cc), su, .int ec, .int es]))] _ := va_P.cons hat2459 va_P.nil
      refine va_get (D := D) (ci := 5) (v := .int (nI ((nvl B z 0)))) (C := RX5) (T := TX5) (N := 14) hx hb hts iX5_readFactor_5 hown hN.1 hP 0 rfl rfl 7 (by decide) (hts _ mX5_readFactor_2) (fun _ h9 => h9) rfl dX5_readFactor_23 ?_
      refine cv_v (As := [.int (nI ((nvl B z 0)))]) (rest := []) (b := w) ⟨hx, hb, hml, hown, hts⟩ (c_X5_putCode hT (w := w) hw (x := (nI ((nvl B z 0)))) (by first | omega | decide | assumption) (by first | omega | decide | assumption) (by first | omega | decide | assumption) (by first | omega | decide | assumption) ⟨hkw, hktx, hkco⟩ (by first | omega | decide | assumption)) (cwV 1 hts gX5_readFactor_X5_putCode rfl rfl rfl hdX5_putCode_v ⟨Nat.le_of_ble_eq_true rfl, Nat.le_of_ble_eq_true rfl⟩) hN hE hL (rcv6 hN hT hw.1) rfl rfl hl.1 (Nat.le_of_ble_eq_true rfl) dX5_readFactor_26 (Nat.zero_le _) (Nat.zero_le _) (fun H1 locs hL hqr2460 => ?_)
      obtain ⟨hT1, hF1, hqr2460⟩ := hqr2460
      have hF := hF.tr (hF1.mono (by simp))
      have hT := hT1
      have m2461 := hqr2460
      obtain ⟨hkw, hktx, hkco⟩ := m2461
      refine lv_iconst (v := 1) hx hb dX5_readFactor_29 (by decide) ?_
      exact en_i hx hb hr hlocks hL rfl (Nat.zero_le _) (Nat.zero_le _) dX5_readFactor_30 (⟨hT, hF, Or.inl ⟨rfl, [nI (nvl B z 0)], z2458, _, _, _, (hfd z).trans ((fac_num hd (by omega)).trans (by rw [hz2458])), (by rw [hz2458]; exact (dgE_lt hY hd).1), (by rw [hz2458]; exact (dgE_lt hY hd).2), (by have h9 := (dgE_lt hY hd).1; rw [← hz2458] at h9; show z + 1 ≤ _; omega), CDS.one, ⟨hkw, hktx, hkco⟩⟩⟩)
    · exact absurd hd d2453
    · obtain ⟨hkw, hktx, hkco⟩ := m2457
      refine lv_if_ne (tgt := 21) hx hb dX5_readFactor_16 (by decide) (fun c9 => absurd (by decide) c9) (fun _ => ?_)
      refine lv_iconst (v := 0) hx hb dX5_readFactor_19 (by decide) ?_
      exact en_i hx hb hr hlocks hL rfl (Nat.zero_le _) (Nat.zero_le _) dX5_readFactor_20 (⟨hT, hF, Or.inr ⟨rfl, -3, z, (hfd z).trans (fac_big hd (by omega)), ⟨_, _, _, _, _, _, _, _, (by omega), (by omega), (by omega), hkw, hktx, hkco⟩⟩⟩)
set_option maxHeartbeats 4000000 in
set_option maxRecDepth 100000 in
theorem c_X5_readTerm_d0 {l : Launch} {D : va_G} {cs : Nat → ClassId} {B0 T : Nat} {κ : KM} {H0 : Heap} (hT : WT B0 D cs T κ H0) {w : Nat} (hw : T2 κ w 6 10) {tx co tn cc : Nat} {f cf B : Nat → Int32} {ta tk ec es : Int32} {su : Value} (hY : BY B tn) (hf : TXB f B tn) (hcc : cc ≤ 600) {z : Nat} (hz : z ≤ tn) (hrs : RS D cs w H0 tx f co cf (κ w).2.2.1 tn (tkE B z) (tkK B z) z (tkV B z) ta tk cc su ec es) (hcz : cc ≤ z) : KC l yX5_readTerm wsX5_readTerm 19 421 0 0 D cs B0 H0 [.ref w, .int 0] (Qi (fun r H => WT B0 D cs T κ H ∧ Fr B0 [10] κ H0 H ∧ ((r = 1 ∧ ∃ l1 q1 cf1 ta1 tk1, trmD B 4 z = .inr (l1, q1) ∧ z < q1 ∧ q1 ≤ tn ∧ z + l1.length ≤ q1 ∧ CDS cf cf1 cc l1 ∧ RS D cs w H tx f co cf1 (κ w).2.2.1 tn (tkE B q1) (tkK B q1) q1 (tkV B q1) ta1 tk1 (cc + l1.length) su ec es) ∨ (r = 0 ∧ ∃ c9 o9, trmD B 4 z = .inl (c9, o9) ∧ RE D cs w H tx f co (κ w).2.2.1 tn su c9 (nI o9))))) := by
  refine KC.of cX5_readTerm 4 (some .boolean) (by decide) rfl (Nat.le_of_ble_eq_true rfl) ?_
  intro p e s m below meth c ls hx hb hr hml hown hts hlocks hin hN hE hH0 hl
  have hown : s.vm.findClass RX5 = some m.cls := hown
  have hl : lv_has ls 4 [(0, .ref w), (1, .int 0)] := hl
  have hL : OkL B0 [] := OkL.nil
  have hF : Fr B0 [10] κ H0 H0 := Fr.rf
  obtain ⟨hkw, hktx, hkco⟩ := hrs
  have h6n := hY.1
  obtain ⟨htx, hco⟩ : T2 κ tx 16 10 ∧ T2 κ co 17 10 := RS.t2 hT hw hkw
  have hzE := tkE_le hY (s := z) (by omega)
  have hfd : ∀ z9, trmD B 4 z9 = manyB B (facD B 4) 42 47 (-7) (-8) z9 := fun _ => rfl
  have hpg := facD_pg hY 4
  refine lv_aload_n hx hb dX5_readTerm_0 rfl (lv_at hl 0 rfl) ?_
  refine lv_iload_n hx hb dX5_readTerm_1 rfl (lv_at hl 1 rfl) ?_
  refine cv_i (As := [.int 0]) (rest := []) (b := w) ⟨hx, hb, hml, hown, hts⟩ (c_X5_readFactor_d0 hT (w := w) hw (by first | omega | decide | assumption) (by first | omega | decide | assumption) (by first | omega | decide | assumption) (by first | omega | decide | assumption) ⟨hkw, hktx, hkco⟩ (by first | omega | decide | assumption)) (cwV 1 hts gX5_readTerm_X5_readFactor rfl rfl rfl hdX5_readFactor_v ⟨Nat.le_of_ble_eq_true rfl, Nat.le_of_ble_eq_true rfl⟩) hN hE hL (rcv6 hN hT hw.1) rfl rfl hl.1 (Nat.le_of_ble_eq_true rfl) dX5_readTerm_2 (Nat.zero_le _) (Nat.zero_le _) (fun r2462 H1 locs hL hqr2462 => ?_)
  obtain ⟨hT1, hF1, hqr2462⟩ := hqr2462
  have hF := hF.tr (hF1.mono (by simp))
  have hT := hT1
  rcases hqr2462 with ⟨rfl, l2463, q2464, f2465, t2466, k2467, e2468, u2469, v2470, b2471, c2472, m2473⟩ | ⟨rfl, c2474, o2475, e2476, x2477⟩
  · obtain ⟨hkw, hktx, hkco⟩ := m2473
    have hzE := tkE_le hY (s := q2464) (by omega)
    refine lv_if_ne (tgt := 10) hx hb dX5_readTerm_5 (by decide) (fun _ => ?_) (fun c9 => absurd c9 (by decide))
    refine lv_iconst (v := 0) hx hb dX5_readTerm_10 (by decide) ?_
    refine lv_istore_n (lv' := [(2, .int 0), (0, .ref w), (1, .int 0)]) hx hb dX5_readTerm_11 rfl hl (by decide) rfl (fun ls hl => ?_)
    refine lp_m (α := Nat × Nat × List Int32 × (Nat → Int32) × Int32 × Int32) (nL := 4) (fun a9 => 600 - a9.1) (fun a9 H9 l9 => (a9.1 ≤ 600 ∧ a9.2.1 ≤ tn ∧ z + a9.1 < a9.2.1) ∧ (CDS cf a9.2.2.2.1 cc a9.2.2.1) ∧ (z + a9.2.2.1.length ≤ a9.2.1) ∧ (trmD B 4 z = LPB B (facD B 4) 42 47 (-7) (-8) a9.2.2.1 a9.2.1) ∧ (RS D cs w H9 tx f co a9.2.2.2.1 (κ w).2.2.1 tn (tkE B a9.2.1) (tkK B a9.2.1) a9.2.1 (tkV B a9.2.1) a9.2.2.2.2.1 a9.2.2.2.2.2 (cc + a9.2.2.1.length) su ec es) ∧ (WT B0 D cs T κ H9) ∧ (Fr B0 [10] κ H0 H9) ∧ (OkL B0 l9)) (fun a9 => [(2, .int (nI a9.1)), (0, .ref w), (1, .int 0)]) ?_ (0, q2464, l2463, f2465, t2466, k2467) _ _ _ ⟨(by show (0) ≤ 600 ∧ (q2464) ≤ tn ∧ z + (0) < (q2464); omega), c2472, (by show z + (l2463).length ≤ (q2464); omega), ((hfd z).trans (many_ok e2468)), ⟨hkw, hktx, hkco⟩, hT, hF, hL⟩ (lv_sub hl [0, 1, 2] rfl)
    rintro ⟨k, zc, l9, cf9, ta9, tk9⟩ H locs ls ih2478 ⟨hk, hcd, hcl, hlp, hks, hT, hF, hL⟩ hl
    have hl : lv_has ls 4 [(2, .int (nI k)), (0, .ref w), (1, .int 0)] := hl
    have hk : k ≤ 600 ∧ zc ≤ tn ∧ z + k < zc := hk
    have hcd : CDS cf cf9 cc l9 := hcd
    have hcl : z + l9.length ≤ zc := hcl
    have hlp : trmD B 4 z = LPB B (facD B 4) 42 47 (-7) (-8) l9 zc := hlp
    have hks : RS D cs w H tx f co cf9 (κ w).2.2.1 tn (tkE B zc) (tkK B zc) zc (tkV B zc) ta9 tk9 (cc + l9.length) su ec es := hks
    obtain ⟨hkw, hktx, hkco⟩ := hks
    have hzE := tkE_le hY (s := zc) (by omega)
    refine lv_iload_n hx hb dX5_readTerm_12 rfl (lv_at hl 0 rfl) ?_
    refine lv_sipush (v := 600) hx hb dX5_readTerm_13 (by decide) ?_
    refine lv_icmp_ge (tgt := 79) hx hb dX5_readTerm_16 (by decide) (fun c2479 => ?_) (fun c2479 => ?_)
    · have c2479 : 600 ≤ k := (nI_leI (a := 600) (b := k) (by omega) (by omega)).mp c2479
      exact absurd c2479 (by omega)
    · have c2479 : ¬ 600 ≤ k := fun h9 => c2479 ((nI_leI (a := 600) (b := k) (by omega) (by omega)).mpr h9)
      refine lv_aload_n hx hb dX5_readTerm_19 rfl (lv_at hl 1 rfl) ?_
      refine lv_bipush (v := 42) hx hb dX5_readTerm_20 (by decide) ?_
      refine cv_i (As := [.int 42]) (rest := []) (b := w) ⟨hx, hb, hml, hown, hts⟩ (c_X5_isMark hT (w := w) hw (ch := 42) (by first | omega | decide | assumption) (by first | omega | decide | assumption) (by first | omega | decide | assumption) (by first | omega | decide | assumption) ⟨hkw, hktx, hkco⟩ (by first | omega | decide | assumption)) (cwV 1 hts gX5_readTerm_X5_isMark rfl rfl rfl hdX5_isMark_v ⟨Nat.le_of_ble_eq_true rfl, Nat.le_of_ble_eq_true rfl⟩) hN hE hL (rcv6 hN hT hw.1) rfl rfl hl.1 (Nat.le_of_ble_eq_true rfl) dX5_readTerm_22 (Nat.zero_le _) (Nat.zero_le _) (fun r2480 H1 locs hL hqr2480 => ?_)
      obtain ⟨h9, hqr2480⟩ := hqr2480; replace h9 := h9.symm; subst h9
      rcases hqr2480 with ⟨rfl, e2481⟩ | ⟨rfl, e2482⟩
      · refine lv_if_ne (tgt := 37) hx hb dX5_readTerm_25 (by decide) (fun _ => ?_) (fun c9 => absurd c9 (by decide))
        refine lv_aload_n hx hb dX5_readTerm_37 rfl (lv_at hl 1 rfl) ?_
        refine lv_bipush (v := 42) hx hb dX5_readTerm_38 (by decide) ?_
        refine cv_i (As := [.int 42]) (rest := []) (b := w) ⟨hx, hb, hml, hown, hts⟩ (c_X5_isMark hT (w := w) hw (ch := 42) (by first | omega | decide | assumption) (by first | omega | decide | assumption) (by first | omega | decide | assumption) (by first | omega | decide | assumption) ⟨hkw, hktx, hkco⟩ (by first | omega | decide | assumption)) (cwV 1 hts gX5_readTerm_X5_isMark rfl rfl rfl hdX5_isMark_v ⟨Nat.le_of_ble_eq_true rfl, Nat.le_of_ble_eq_true rfl⟩) hN hE hL (rcv6 hN hT hw.1) rfl rfl hl.1 (Nat.le_of_ble_eq_true rfl) dX5_readTerm_40 (Nat.zero_le _) (Nat.zero_le _) (fun r2483 H1 locs hL hqr2483 => ?_)
        obtain ⟨h9, hqr2483⟩ := hqr2483; replace h9 := h9.symm; subst h9
        rcases hqr2483 with ⟨rfl, e2484⟩ | ⟨rfl, e2485⟩
        · refine lv_if_eq (tgt := 51) hx hb dX5_readTerm_43 (by decide) (fun c9 => absurd c9 (by decide)) (fun _ => ?_)
          refine lv_bipush (v := (-7)) hx hb dX5_readTerm_46 (by decide) ?_
          refine lv_goto (tgt := 53) hx hb dX5_readTerm_48 (by decide) ?_
          refine lv_istore_n (lv' := [(3, .int (-7)), (2, .int (nI k)), (0, .ref w), (1, .int 0)]) hx hb dX5_readTerm_53 rfl hl (by decide) rfl (fun ls hl => ?_)
          refine lv_aload_n hx hb dX5_readTerm_54 rfl (lv_at hl 2 rfl) ?_
          refine cv_v (As := []) (rest := []) (b := w) ⟨hx, hb, hml, hown, hts⟩ (c_X5_step hT (w := w) hw (by first | omega | decide | assumption) (by first | omega | decide | assumption) (by first | omega | decide | assumption) (by first | omega | decide | assumption) (by first | omega | decide | assumption) ⟨hkw, hktx, hkco⟩) (cwV 0 hts gX5_readTerm_X5_step rfl rfl rfl hdX5_step_v ⟨Nat.le_of_ble_eq_true rfl, Nat.le_of_ble_eq_true rfl⟩) hN hE hL (rcv6 hN hT hw.1) rfl rfl hl.1 (Nat.le_of_ble_eq_true rfl) dX5_readTerm_55 (Nat.zero_le _) (Nat.zero_le _) (fun H1 locs hL hqr2486 => ?_)
          obtain ⟨hT1, hF1, hqr2486⟩ := hqr2486
          have hF := hF.tr (hF1.mono (by simp))
          have hT := hT1
          have m2487 := hqr2486
          obtain ⟨z2488, hz2488⟩ : ∃ z9, z9 = skp B ((tkE B zc)) := ⟨_, rfl⟩
          rw [← hz2488] at m2487
          have bz2488 : z2488 ≤ tn := by rw [hz2488]; exact run_ub hY (by decide) (by omega)
          have hzE := tkE_le hY (s := z2488) (by omega)
          obtain ⟨hkw, hktx, hkco⟩ := m2487
          have hzl := mark_lt hY (by decide) e2484
          have hzz : z2488 = skp B (zc + 1) := by rw [hz2488, tkE_m hY (by decide) e2484]
          have hzb := skp_b hY (z := zc + 1) (by omega)
          rw [← hzz] at hzb
          refine lv_aload_n hx hb dX5_readTerm_58 rfl (lv_at hl 2 rfl) ?_
          refine lv_iload_n hx hb dX5_readTerm_59 rfl (lv_at hl 3 rfl) ?_
          refine cv_i (As := [.int 0]) (rest := []) (b := w) ⟨hx, hb, hml, hown, hts⟩ (c_X5_readFactor_d0 hT (w := w) hw (by first | omega | decide | assumption) (by first | omega | decide | assumption) (by first | omega | decide | assumption) (by first | omega | decide | assumption) ⟨hkw, hktx, hkco⟩ (by first | omega | decide | assumption)) (cwV 1 hts gX5_readTerm_X5_readFactor rfl rfl rfl hdX5_readFactor_v ⟨Nat.le_of_ble_eq_true rfl, Nat.le_of_ble_eq_true rfl⟩) hN hE hL (rcv6 hN hT hw.1) rfl rfl hl.1 (Nat.le_of_ble_eq_true rfl) dX5_readTerm_60 (Nat.zero_le _) (Nat.zero_le _) (fun r2489 H1 locs hL hqr2489 => ?_)
          obtain ⟨hT1, hF1, hqr2489⟩ := hqr2489
          have hF := hF.tr (hF1.mono (by simp))
          have hT := hT1
          rcases hqr2489 with ⟨rfl, l2490, q2491, f2492, t2493, k2494, e2495, u2496, v2497, b2498, c2499, m2500⟩ | ⟨rfl, c2501, o2502, e2503, x2504⟩
          · obtain ⟨hkw, hktx, hkco⟩ := m2500
            have hzE := tkE_le hY (s := q2491) (by omega)
            refine lv_if_ne (tgt := 68) hx hb dX5_readTerm_63 (by decide) (fun _ => ?_) (fun c9 => absurd c9 (by decide))
            refine lv_aload_n hx hb dX5_readTerm_68 rfl (lv_at hl 2 rfl) ?_
            refine lv_iload_n hx hb dX5_readTerm_69 rfl (lv_at hl 0 rfl) ?_
            refine cv_v (As := [.int (-7)]) (rest := []) (b := w) ⟨hx, hb, hml, hown, hts⟩ (c_X5_putCode hT (w := w) hw (x := (-7)) (by first | omega | decide | assumption) (by first | omega | decide | assumption) (by first | omega | decide | assumption) (by first | omega | decide | assumption) ⟨hkw, hktx, hkco⟩ (by first | omega | decide | assumption)) (cwV 1 hts gX5_readTerm_X5_putCode rfl rfl rfl hdX5_putCode_v ⟨Nat.le_of_ble_eq_true rfl, Nat.le_of_ble_eq_true rfl⟩) hN hE hL (rcv6 hN hT hw.1) rfl rfl hl.1 (Nat.le_of_ble_eq_true rfl) dX5_readTerm_70 (Nat.zero_le _) (Nat.zero_le _) (fun H1 locs hL hqr2505 => ?_)
            obtain ⟨hT1, hF1, hqr2505⟩ := hqr2505
            have hF := hF.tr (hF1.mono (by simp))
            have hT := hT1
            have m2506 := hqr2505
            obtain ⟨hkw, hktx, hkco⟩ := m2506
            refine lv_iinc (v := (nI (k + 1))) (lv' := [(2, .int (nI (k + 1))), (3, .int (-7)), (0, .ref w), (1, .int 0)]) hx hb dX5_readTerm_73 hl (k := 1) rfl (nI_add _ 1) (by decide) rfl (fun ls hl => ?_)
            refine lv_goto (tgt := 12) hx hb dX5_readTerm_76 (by decide) ?_
            exact ih2478 ((k + 1), q2491, (l9 ++ l2490 ++ [(-7)]), (upd f2492 ((cc + l9.length) + l2490.length) (-7)), t2493, k2494) _ _ _ (by show 600 - ((k + 1)) < 600 - k; omega) ⟨(by show ((k + 1)) ≤ 600 ∧ (q2491) ≤ tn ∧ z + ((k + 1)) < (q2491); omega), (by have e7 : cc + l9.length + l2490.length = cc + (l9 ++ l2490).length := (by rw [List.length_append, Nat.add_assoc]); rw [e7]; exact (hcd.tr c2499).app1), (by show z + (l9 ++ l2490 ++ [(-7 : Int32)]).length ≤ q2491; have e8 : (l9 ++ l2490 ++ [(-7 : Int32)]).length = l9.length + l2490.length + 1 := (by simp only [List.length_append, List.length_cons, List.length_nil]); rw [e8]; omega), (hlp.trans (LP_c1 hY (by decide) (by decide) hpg e2484 (by rw [← hzz]; exact e2495))), (by have e8 : (l9 ++ l2490 ++ [(-7 : Int32)]).length = l9.length + l2490.length + 1 := (by simp only [List.length_append, List.length_cons, List.length_nil]); rw [e8, show cc + (l9.length + l2490.length + 1) = cc + l9.length + l2490.length + 1 by omega]; exact ⟨hkw, hktx, hkco⟩), hT, hF, hL⟩ (lv_sub hl [0, 2, 3] rfl)
          · refine lv_if_ne (tgt := 68) hx hb dX5_readTerm_63 (by decide) (fun c9 => absurd (by decide) c9) (fun _ => ?_)
            refine lv_iconst (v := 0) hx hb dX5_readTerm_66 (by decide) ?_
            exact en_i hx hb hr hlocks hL rfl (Nat.zero_le _) (Nat.zero_le _) dX5_readTerm_67 (⟨hT, hF, Or.inr ⟨rfl, _, _, hlp.trans (LP_er (o := 0) hY (by omega) (Or.inl e2484) (by rw [← hzz]; exact e2503)), x2504⟩⟩)
        · exact absurd e2481 e2485
      · refine lv_if_ne (tgt := 37) hx hb dX5_readTerm_25 (by decide) (fun c9 => absurd (by decide) c9) (fun _ => ?_)
        refine lv_aload_n hx hb dX5_readTerm_28 rfl (lv_at hl 1 rfl) ?_
        refine lv_bipush (v := 47) hx hb dX5_readTerm_29 (by decide) ?_
        refine cv_i (As := [.int 47]) (rest := []) (b := w) ⟨hx, hb, hml, hown, hts⟩ (c_X5_isMark hT (w := w) hw (ch := 47) (by first | omega | decide | assumption) (by first | omega | decide | assumption) (by first | omega | decide | assumption) (by first | omega | decide | assumption) ⟨hkw, hktx, hkco⟩ (by first | omega | decide | assumption)) (cwV 1 hts gX5_readTerm_X5_isMark rfl rfl rfl hdX5_isMark_v ⟨Nat.le_of_ble_eq_true rfl, Nat.le_of_ble_eq_true rfl⟩) hN hE hL (rcv6 hN hT hw.1) rfl rfl hl.1 (Nat.le_of_ble_eq_true rfl) dX5_readTerm_31 (Nat.zero_le _) (Nat.zero_le _) (fun r2507 H1 locs hL hqr2507 => ?_)
        obtain ⟨h9, hqr2507⟩ := hqr2507; replace h9 := h9.symm; subst h9
        rcases hqr2507 with ⟨rfl, e2508⟩ | ⟨rfl, e2509⟩
        · refine lv_if_eq (tgt := 79) hx hb dX5_readTerm_34 (by decide) (fun c9 => absurd c9 (by decide)) (fun _ => ?_)
          refine lv_aload_n hx hb dX5_readTerm_37 rfl (lv_at hl 1 rfl) ?_
          refine lv_bipush (v := 42) hx hb dX5_readTerm_38 (by decide) ?_
          refine cv_i (As := [.int 42]) (rest := []) (b := w) ⟨hx, hb, hml, hown, hts⟩ (c_X5_isMark hT (w := w) hw (ch := 42) (by first | omega | decide | assumption) (by first | omega | decide | assumption) (by first | omega | decide | assumption) (by first | omega | decide | assumption) ⟨hkw, hktx, hkco⟩ (by first | omega | decide | assumption)) (cwV 1 hts gX5_readTerm_X5_isMark rfl rfl rfl hdX5_isMark_v ⟨Nat.le_of_ble_eq_true rfl, Nat.le_of_ble_eq_true rfl⟩) hN hE hL (rcv6 hN hT hw.1) rfl rfl hl.1 (Nat.le_of_ble_eq_true rfl) dX5_readTerm_40 (Nat.zero_le _) (Nat.zero_le _) (fun r2510 H1 locs hL hqr2510 => ?_)
          obtain ⟨h9, hqr2510⟩ := hqr2510; replace h9 := h9.symm; subst h9
          rcases hqr2510 with ⟨rfl, e2511⟩ | ⟨rfl, e2512⟩
          · exact absurd e2511 e2482
          · refine lv_if_eq (tgt := 51) hx hb dX5_readTerm_43 (by decide) (fun _ => ?_) (fun c9 => absurd (by decide) c9)
            refine lv_bipush (v := (-8)) hx hb dX5_readTerm_51 (by decide) ?_
            refine lv_istore_n (lv' := [(3, .int (-8)), (2, .int (nI k)), (0, .ref w), (1, .int 0)]) hx hb dX5_readTerm_53 rfl hl (by decide) rfl (fun ls hl => ?_)
            refine lv_aload_n hx hb dX5_readTerm_54 rfl (lv_at hl 2 rfl) ?_
            refine cv_v (As := []) (rest := []) (b := w) ⟨hx, hb, hml, hown, hts⟩ (c_X5_step hT (w := w) hw (by first | omega | decide | assumption) (by first | omega | decide | assumption) (by first | omega | decide | assumption) (by first | omega | decide | assumption) (by first | omega | decide | assumption) ⟨hkw, hktx, hkco⟩) (cwV 0 hts gX5_readTerm_X5_step rfl rfl rfl hdX5_step_v ⟨Nat.le_of_ble_eq_true rfl, Nat.le_of_ble_eq_true rfl⟩) hN hE hL (rcv6 hN hT hw.1) rfl rfl hl.1 (Nat.le_of_ble_eq_true rfl) dX5_readTerm_55 (Nat.zero_le _) (Nat.zero_le _) (fun H1 locs hL hqr2513 => ?_)
            obtain ⟨hT1, hF1, hqr2513⟩ := hqr2513
            have hF := hF.tr (hF1.mono (by simp))
            have hT := hT1
            have m2514 := hqr2513
            obtain ⟨z2515, hz2515⟩ : ∃ z9, z9 = skp B ((tkE B zc)) := ⟨_, rfl⟩
            rw [← hz2515] at m2514
            have bz2515 : z2515 ≤ tn := by rw [hz2515]; exact run_ub hY (by decide) (by omega)
            have hzE := tkE_le hY (s := z2515) (by omega)
            obtain ⟨hkw, hktx, hkco⟩ := m2514
            have hzl := mark_lt hY (by decide) e2508
            have hzz : z2515 = skp B (zc + 1) := by rw [hz2515, tkE_m hY (by decide) e2508]
            have hzb := skp_b hY (z := zc + 1) (by omega)
            rw [← hzz] at hzb
            refine lv_aload_n hx hb dX5_readTerm_58 rfl (lv_at hl 2 rfl) ?_
            refine lv_iload_n hx hb dX5_readTerm_59 rfl (lv_at hl 3 rfl) ?_
            refine cv_i (As := [.int 0]) (rest := []) (b := w) ⟨hx, hb, hml, hown, hts⟩ (c_X5_readFactor_d0 hT (w := w) hw (by first | omega | decide | assumption) (by first | omega | decide | assumption) (by first | omega | decide | assumption) (by first | omega | decide | assumption) ⟨hkw, hktx, hkco⟩ (by first | omega | decide | assumption)) (cwV 1 hts gX5_readTerm_X5_readFactor rfl rfl rfl hdX5_readFactor_v ⟨Nat.le_of_ble_eq_true rfl, Nat.le_of_ble_eq_true rfl⟩) hN hE hL (rcv6 hN hT hw.1) rfl rfl hl.1 (Nat.le_of_ble_eq_true rfl) dX5_readTerm_60 (Nat.zero_le _) (Nat.zero_le _) (fun r2516 H1 locs hL hqr2516 => ?_)
            obtain ⟨hT1, hF1, hqr2516⟩ := hqr2516
            have hF := hF.tr (hF1.mono (by simp))
            have hT := hT1
            rcases hqr2516 with ⟨rfl, l2517, q2518, f2519, t2520, k2521, e2522, u2523, v2524, b2525, c2526, m2527⟩ | ⟨rfl, c2528, o2529, e2530, x2531⟩
            · obtain ⟨hkw, hktx, hkco⟩ := m2527
              have hzE := tkE_le hY (s := q2518) (by omega)
              refine lv_if_ne (tgt := 68) hx hb dX5_readTerm_63 (by decide) (fun _ => ?_) (fun c9 => absurd c9 (by decide))
              refine lv_aload_n hx hb dX5_readTerm_68 rfl (lv_at hl 2 rfl) ?_
              refine lv_iload_n hx hb dX5_readTerm_69 rfl (lv_at hl 0 rfl) ?_
              refine cv_v (As := [.int (-8)]) (rest := []) (b := w) ⟨hx, hb, hml, hown, hts⟩ (c_X5_putCode hT (w := w) hw (x := (-8)) (by first | omega | decide | assumption) (by first | omega | decide | assumption) (by first | omega | decide | assumption) (by first | omega | decide | assumption) ⟨hkw, hktx, hkco⟩ (by first | omega | decide | assumption)) (cwV 1 hts gX5_readTerm_X5_putCode rfl rfl rfl hdX5_putCode_v ⟨Nat.le_of_ble_eq_true rfl, Nat.le_of_ble_eq_true rfl⟩) hN hE hL (rcv6 hN hT hw.1) rfl rfl hl.1 (Nat.le_of_ble_eq_true rfl) dX5_readTerm_70 (Nat.zero_le _) (Nat.zero_le _) (fun H1 locs hL hqr2532 => ?_)
              obtain ⟨hT1, hF1, hqr2532⟩ := hqr2532
              have hF := hF.tr (hF1.mono (by simp))
              have hT := hT1
              have m2533 := hqr2532
              obtain ⟨hkw, hktx, hkco⟩ := m2533
              refine lv_iinc (v := (nI (k + 1))) (lv' := [(2, .int (nI (k + 1))), (3, .int (-8)), (0, .ref w), (1, .int 0)]) hx hb dX5_readTerm_73 hl (k := 1) rfl (nI_add _ 1) (by decide) rfl (fun ls hl => ?_)
              refine lv_goto (tgt := 12) hx hb dX5_readTerm_76 (by decide) ?_
              exact ih2478 ((k + 1), q2518, (l9 ++ l2517 ++ [(-8)]), (upd f2519 ((cc + l9.length) + l2517.length) (-8)), t2520, k2521) _ _ _ (by show 600 - ((k + 1)) < 600 - k; omega) ⟨(by show ((k + 1)) ≤ 600 ∧ (q2518) ≤ tn ∧ z + ((k + 1)) < (q2518); omega), (by have e7 : cc + l9.length + l2517.length = cc + (l9 ++ l2517).length := (by rw [List.length_append, Nat.add_assoc]); rw [e7]; exact (hcd.tr c2526).app1), (by show z + (l9 ++ l2517 ++ [(-8 : Int32)]).length ≤ q2518; have e8 : (l9 ++ l2517 ++ [(-8 : Int32)]).length = l9.length + l2517.length + 1 := (by simp only [List.length_append, List.length_cons, List.length_nil]); rw [e8]; omega), (hlp.trans (LP_c2 hY (by decide) (by decide) hpg e2512 e2508 (by rw [← hzz]; exact e2522))), (by have e8 : (l9 ++ l2517 ++ [(-8 : Int32)]).length = l9.length + l2517.length + 1 := (by simp only [List.length_append, List.length_cons, List.length_nil]); rw [e8, show cc + (l9.length + l2517.length + 1) = cc + l9.length + l2517.length + 1 by omega]; exact ⟨hkw, hktx, hkco⟩), hT, hF, hL⟩ (lv_sub hl [0, 2, 3] rfl)
            · refine lv_if_ne (tgt := 68) hx hb dX5_readTerm_63 (by decide) (fun c9 => absurd (by decide) c9) (fun _ => ?_)
              refine lv_iconst (v := 0) hx hb dX5_readTerm_66 (by decide) ?_
              exact en_i hx hb hr hlocks hL rfl (Nat.zero_le _) (Nat.zero_le _) dX5_readTerm_67 (⟨hT, hF, Or.inr ⟨rfl, _, _, hlp.trans (LP_er (o := 0) hY (by omega) (Or.inr ⟨e2512, e2508⟩) (by rw [← hzz]; exact e2530)), x2531⟩⟩)
        · refine lv_if_eq (tgt := 79) hx hb dX5_readTerm_34 (by decide) (fun _ => ?_) (fun c9 => absurd (by decide) c9)
          refine lv_iconst (v := 1) hx hb dX5_readTerm_79 (by decide) ?_
          exact en_i hx hb hr hlocks hL rfl (Nat.zero_le _) (Nat.zero_le _) dX5_readTerm_80 (⟨hT, hF, Or.inl ⟨rfl, l9, zc, _, _, _, hlp.trans (LP_no e2482 e2509), (by omega), (by omega), (by omega), hcd, ⟨hkw, hktx, hkco⟩⟩⟩)
  · refine lv_if_ne (tgt := 10) hx hb dX5_readTerm_5 (by decide) (fun c9 => absurd (by decide) c9) (fun _ => ?_)
    refine lv_iconst (v := 0) hx hb dX5_readTerm_8 (by decide) ?_
    exact en_i hx hb hr hlocks hL rfl (Nat.zero_le _) (Nat.zero_le _) dX5_readTerm_9 (⟨hT, hF, Or.inr ⟨rfl, _, _, (hfd z).trans (many_er e2476), x2477⟩⟩)
set_option maxHeartbeats 4000000 in
set_option maxRecDepth 100000 in
theorem c_X5_readSum_d0 {l : Launch} {D : va_G} {cs : Nat → ClassId} {B0 T : Nat} {κ : KM} {H0 : Heap} (hT : WT B0 D cs T κ H0) {w : Nat} (hw : T2 κ w 6 10) {tx co tn cc : Nat} {f cf B : Nat → Int32} {ta tk ec es : Int32} {su : Value} (hY : BY B tn) (hf : TXB f B tn) (hcc : cc ≤ 600) {z : Nat} (hz : z ≤ tn) (hrs : RS D cs w H0 tx f co cf (κ w).2.2.1 tn (tkE B z) (tkK B z) z (tkV B z) ta tk cc su ec es) (hcz : cc ≤ z) : KC l yX5_readSum wsX5_readSum 20 444 0 0 D cs B0 H0 [.ref w, .int 0] (Qi (fun r H => WT B0 D cs T κ H ∧ Fr B0 [10] κ H0 H ∧ ((r = 1 ∧ ∃ l1 q1 cf1 ta1 tk1, sumD B 4 z = .inr (l1, q1) ∧ z < q1 ∧ q1 ≤ tn ∧ z + l1.length ≤ q1 ∧ CDS cf cf1 cc l1 ∧ RS D cs w H tx f co cf1 (κ w).2.2.1 tn (tkE B q1) (tkK B q1) q1 (tkV B q1) ta1 tk1 (cc + l1.length) su ec es) ∨ (r = 0 ∧ ∃ c9 o9, sumD B 4 z = .inl (c9, o9) ∧ RE D cs w H tx f co (κ w).2.2.1 tn su c9 (nI o9))))) := by
  refine KC.of cX5_readSum 4 (some .boolean) (by decide) rfl (Nat.le_of_ble_eq_true rfl) ?_
  intro p e s m below meth c ls hx hb hr hml hown hts hlocks hin hN hE hH0 hl
  have hown : s.vm.findClass RX5 = some m.cls := hown
  have hl : lv_has ls 4 [(0, .ref w), (1, .int 0)] := hl
  have hL : OkL B0 [] := OkL.nil
  have hF : Fr B0 [10] κ H0 H0 := Fr.rf
  obtain ⟨hkw, hktx, hkco⟩ := hrs
  have h6n := hY.1
  obtain ⟨htx, hco⟩ : T2 κ tx 16 10 ∧ T2 κ co 17 10 := RS.t2 hT hw hkw
  have hzE := tkE_le hY (s := z) (by omega)
  have hfd : ∀ z9, sumD B 4 z9 = manyB B (trmD B 4) 43 45 (-5) (-6) z9 := fun _ => rfl
  have hpg := trmD_pg hY 4
  refine lv_aload_n hx hb dX5_readSum_0 rfl (lv_at hl 0 rfl) ?_
  refine lv_iload_n hx hb dX5_readSum_1 rfl (lv_at hl 1 rfl) ?_
  refine cv_i (As := [.int 0]) (rest := []) (b := w) ⟨hx, hb, hml, hown, hts⟩ (c_X5_readTerm_d0 hT (w := w) hw (by first | omega | decide | assumption) (by first | omega | decide | assumption) (by first | omega | decide | assumption) (by first | omega | decide | assumption) ⟨hkw, hktx, hkco⟩ (by first | omega | decide | assumption)) (cwV 1 hts gX5_readSum_X5_readTerm rfl rfl rfl hdX5_readTerm_v ⟨Nat.le_of_ble_eq_true rfl, Nat.le_of_ble_eq_true rfl⟩) hN hE hL (rcv6 hN hT hw.1) rfl rfl hl.1 (Nat.le_of_ble_eq_true rfl) dX5_readSum_2 (Nat.zero_le _) (Nat.zero_le _) (fun r2534 H1 locs hL hqr2534 => ?_)
  obtain ⟨hT1, hF1, hqr2534⟩ := hqr2534
  have hF := hF.tr (hF1.mono (by simp))
  have hT := hT1
  rcases hqr2534 with ⟨rfl, l2535, q2536, f2537, t2538, k2539, e2540, u2541, v2542, b2543, c2544, m2545⟩ | ⟨rfl, c2546, o2547, e2548, x2549⟩
  · obtain ⟨hkw, hktx, hkco⟩ := m2545
    have hzE := tkE_le hY (s := q2536) (by omega)
    refine lv_if_ne (tgt := 10) hx hb dX5_readSum_5 (by decide) (fun _ => ?_) (fun c9 => absurd c9 (by decide))
    refine lv_iconst (v := 0) hx hb dX5_readSum_10 (by decide) ?_
    refine lv_istore_n (lv' := [(2, .int 0), (0, .ref w), (1, .int 0)]) hx hb dX5_readSum_11 rfl hl (by decide) rfl (fun ls hl => ?_)
    refine lp_m (α := Nat × Nat × List Int32 × (Nat → Int32) × Int32 × Int32) (nL := 4) (fun a9 => 600 - a9.1) (fun a9 H9 l9 => (a9.1 ≤ 600 ∧ a9.2.1 ≤ tn ∧ z + a9.1 < a9.2.1) ∧ (CDS cf a9.2.2.2.1 cc a9.2.2.1) ∧ (z + a9.2.2.1.length ≤ a9.2.1) ∧ (sumD B 4 z = LPB B (trmD B 4) 43 45 (-5) (-6) a9.2.2.1 a9.2.1) ∧ (RS D cs w H9 tx f co a9.2.2.2.1 (κ w).2.2.1 tn (tkE B a9.2.1) (tkK B a9.2.1) a9.2.1 (tkV B a9.2.1) a9.2.2.2.2.1 a9.2.2.2.2.2 (cc + a9.2.2.1.length) su ec es) ∧ (WT B0 D cs T κ H9) ∧ (Fr B0 [10] κ H0 H9) ∧ (OkL B0 l9)) (fun a9 => [(2, .int (nI a9.1)), (0, .ref w), (1, .int 0)]) ?_ (0, q2536, l2535, f2537, t2538, k2539) _ _ _ ⟨(by show (0) ≤ 600 ∧ (q2536) ≤ tn ∧ z + (0) < (q2536); omega), c2544, (by show z + (l2535).length ≤ (q2536); omega), ((hfd z).trans (many_ok e2540)), ⟨hkw, hktx, hkco⟩, hT, hF, hL⟩ (lv_sub hl [0, 1, 2] rfl)
    rintro ⟨k, zc, l9, cf9, ta9, tk9⟩ H locs ls ih2550 ⟨hk, hcd, hcl, hlp, hks, hT, hF, hL⟩ hl
    have hl : lv_has ls 4 [(2, .int (nI k)), (0, .ref w), (1, .int 0)] := hl
    have hk : k ≤ 600 ∧ zc ≤ tn ∧ z + k < zc := hk
    have hcd : CDS cf cf9 cc l9 := hcd
    have hcl : z + l9.length ≤ zc := hcl
    have hlp : sumD B 4 z = LPB B (trmD B 4) 43 45 (-5) (-6) l9 zc := hlp
    have hks : RS D cs w H tx f co cf9 (κ w).2.2.1 tn (tkE B zc) (tkK B zc) zc (tkV B zc) ta9 tk9 (cc + l9.length) su ec es := hks
    obtain ⟨hkw, hktx, hkco⟩ := hks
    have hzE := tkE_le hY (s := zc) (by omega)
    refine lv_iload_n hx hb dX5_readSum_12 rfl (lv_at hl 0 rfl) ?_
    refine lv_sipush (v := 600) hx hb dX5_readSum_13 (by decide) ?_
    refine lv_icmp_ge (tgt := 79) hx hb dX5_readSum_16 (by decide) (fun c2551 => ?_) (fun c2551 => ?_)
    · have c2551 : 600 ≤ k := (nI_leI (a := 600) (b := k) (by omega) (by omega)).mp c2551
      exact absurd c2551 (by omega)
    · have c2551 : ¬ 600 ≤ k := fun h9 => c2551 ((nI_leI (a := 600) (b := k) (by omega) (by omega)).mpr h9)
      refine lv_aload_n hx hb dX5_readSum_19 rfl (lv_at hl 1 rfl) ?_
      refine lv_bipush (v := 43) hx hb dX5_readSum_20 (by decide) ?_
      refine cv_i (As := [.int 43]) (rest := []) (b := w) ⟨hx, hb, hml, hown, hts⟩ (c_X5_isMark hT (w := w) hw (ch := 43) (by first | omega | decide | assumption) (by first | omega | decide | assumption) (by first | omega | decide | assumption) (by first | omega | decide | assumption) ⟨hkw, hktx, hkco⟩ (by first | omega | decide | assumption)) (cwV 1 hts gX5_readSum_X5_isMark rfl rfl rfl hdX5_isMark_v ⟨Nat.le_of_ble_eq_true rfl, Nat.le_of_ble_eq_true rfl⟩) hN hE hL (rcv6 hN hT hw.1) rfl rfl hl.1 (Nat.le_of_ble_eq_true rfl) dX5_readSum_22 (Nat.zero_le _) (Nat.zero_le _) (fun r2552 H1 locs hL hqr2552 => ?_)
      obtain ⟨h9, hqr2552⟩ := hqr2552; replace h9 := h9.symm; subst h9
      rcases hqr2552 with ⟨rfl, e2553⟩ | ⟨rfl, e2554⟩
      · refine lv_if_ne (tgt := 37) hx hb dX5_readSum_25 (by decide) (fun _ => ?_) (fun c9 => absurd c9 (by decide))
        refine lv_aload_n hx hb dX5_readSum_37 rfl (lv_at hl 1 rfl) ?_
        refine lv_bipush (v := 43) hx hb dX5_readSum_38 (by decide) ?_
        refine cv_i (As := [.int 43]) (rest := []) (b := w) ⟨hx, hb, hml, hown, hts⟩ (c_X5_isMark hT (w := w) hw (ch := 43) (by first | omega | decide | assumption) (by first | omega | decide | assumption) (by first | omega | decide | assumption) (by first | omega | decide | assumption) ⟨hkw, hktx, hkco⟩ (by first | omega | decide | assumption)) (cwV 1 hts gX5_readSum_X5_isMark rfl rfl rfl hdX5_isMark_v ⟨Nat.le_of_ble_eq_true rfl, Nat.le_of_ble_eq_true rfl⟩) hN hE hL (rcv6 hN hT hw.1) rfl rfl hl.1 (Nat.le_of_ble_eq_true rfl) dX5_readSum_40 (Nat.zero_le _) (Nat.zero_le _) (fun r2555 H1 locs hL hqr2555 => ?_)
        obtain ⟨h9, hqr2555⟩ := hqr2555; replace h9 := h9.symm; subst h9
        rcases hqr2555 with ⟨rfl, e2556⟩ | ⟨rfl, e2557⟩
        · refine lv_if_eq (tgt := 51) hx hb dX5_readSum_43 (by decide) (fun c9 => absurd c9 (by decide)) (fun _ => ?_)
          refine lv_bipush (v := (-5)) hx hb dX5_readSum_46 (by decide) ?_
          refine lv_goto (tgt := 53) hx hb dX5_readSum_48 (by decide) ?_
          refine lv_istore_n (lv' := [(3, .int (-5)), (2, .int (nI k)), (0, .ref w), (1, .int 0)]) hx hb dX5_readSum_53 rfl hl (by decide) rfl (fun ls hl => ?_)
          refine lv_aload_n hx hb dX5_readSum_54 rfl (lv_at hl 2 rfl) ?_
          refine cv_v (As := []) (rest := []) (b := w) ⟨hx, hb, hml, hown, hts⟩ (c_X5_step hT (w := w) hw (by first | omega | decide | assumption) (by first | omega | decide | assumption) (by first | omega | decide | assumption) (by first | omega | decide | assumption) (by first | omega | decide | assumption) ⟨hkw, hktx, hkco⟩) (cwV 0 hts gX5_readSum_X5_step rfl rfl rfl hdX5_step_v ⟨Nat.le_of_ble_eq_true rfl, Nat.le_of_ble_eq_true rfl⟩) hN hE hL (rcv6 hN hT hw.1) rfl rfl hl.1 (Nat.le_of_ble_eq_true rfl) dX5_readSum_55 (Nat.zero_le _) (Nat.zero_le _) (fun H1 locs hL hqr2558 => ?_)
          obtain ⟨hT1, hF1, hqr2558⟩ := hqr2558
          have hF := hF.tr (hF1.mono (by simp))
          have hT := hT1
          have m2559 := hqr2558
          obtain ⟨z2560, hz2560⟩ : ∃ z9, z9 = skp B ((tkE B zc)) := ⟨_, rfl⟩
          rw [← hz2560] at m2559
          have bz2560 : z2560 ≤ tn := by rw [hz2560]; exact run_ub hY (by decide) (by omega)
          have hzE := tkE_le hY (s := z2560) (by omega)
          obtain ⟨hkw, hktx, hkco⟩ := m2559
          have hzl := mark_lt hY (by decide) e2556
          have hzz : z2560 = skp B (zc + 1) := by rw [hz2560, tkE_m hY (by decide) e2556]
          have hzb := skp_b hY (z := zc + 1) (by omega)
          rw [← hzz] at hzb
          refine lv_aload_n hx hb dX5_readSum_58 rfl (lv_at hl 2 rfl) ?_
          refine lv_iload_n hx hb dX5_readSum_59 rfl (lv_at hl 3 rfl) ?_
          refine cv_i (As := [.int 0]) (rest := []) (b := w) ⟨hx, hb, hml, hown, hts⟩ (c_X5_readTerm_d0 hT (w := w) hw (by first | omega | decide | assumption) (by first | omega | decide | assumption) (by first | omega | decide | assumption) (by first | omega | decide | assumption) ⟨hkw, hktx, hkco⟩ (by first | omega | decide | assumption)) (cwV 1 hts gX5_readSum_X5_readTerm rfl rfl rfl hdX5_readTerm_v ⟨Nat.le_of_ble_eq_true rfl, Nat.le_of_ble_eq_true rfl⟩) hN hE hL (rcv6 hN hT hw.1) rfl rfl hl.1 (Nat.le_of_ble_eq_true rfl) dX5_readSum_60 (Nat.zero_le _) (Nat.zero_le _) (fun r2561 H1 locs hL hqr2561 => ?_)
          obtain ⟨hT1, hF1, hqr2561⟩ := hqr2561
          have hF := hF.tr (hF1.mono (by simp))
          have hT := hT1
          rcases hqr2561 with ⟨rfl, l2562, q2563, f2564, t2565, k2566, e2567, u2568, v2569, b2570, c2571, m2572⟩ | ⟨rfl, c2573, o2574, e2575, x2576⟩
          · obtain ⟨hkw, hktx, hkco⟩ := m2572
            have hzE := tkE_le hY (s := q2563) (by omega)
            refine lv_if_ne (tgt := 68) hx hb dX5_readSum_63 (by decide) (fun _ => ?_) (fun c9 => absurd c9 (by decide))
            refine lv_aload_n hx hb dX5_readSum_68 rfl (lv_at hl 2 rfl) ?_
            refine lv_iload_n hx hb dX5_readSum_69 rfl (lv_at hl 0 rfl) ?_
            refine cv_v (As := [.int (-5)]) (rest := []) (b := w) ⟨hx, hb, hml, hown, hts⟩ (c_X5_putCode hT (w := w) hw (x := (-5)) (by first | omega | decide | assumption) (by first | omega | decide | assumption) (by first | omega | decide | assumption) (by first | omega | decide | assumption) ⟨hkw, hktx, hkco⟩ (by first | omega | decide | assumption)) (cwV 1 hts gX5_readSum_X5_putCode rfl rfl rfl hdX5_putCode_v ⟨Nat.le_of_ble_eq_true rfl, Nat.le_of_ble_eq_true rfl⟩) hN hE hL (rcv6 hN hT hw.1) rfl rfl hl.1 (Nat.le_of_ble_eq_true rfl) dX5_readSum_70 (Nat.zero_le _) (Nat.zero_le _) (fun H1 locs hL hqr2577 => ?_)
            obtain ⟨hT1, hF1, hqr2577⟩ := hqr2577
            have hF := hF.tr (hF1.mono (by simp))
            have hT := hT1
            have m2578 := hqr2577
            obtain ⟨hkw, hktx, hkco⟩ := m2578
            refine lv_iinc (v := (nI (k + 1))) (lv' := [(2, .int (nI (k + 1))), (3, .int (-5)), (0, .ref w), (1, .int 0)]) hx hb dX5_readSum_73 hl (k := 1) rfl (nI_add _ 1) (by decide) rfl (fun ls hl => ?_)
            refine lv_goto (tgt := 12) hx hb dX5_readSum_76 (by decide) ?_
            exact ih2550 ((k + 1), q2563, (l9 ++ l2562 ++ [(-5)]), (upd f2564 ((cc + l9.length) + l2562.length) (-5)), t2565, k2566) _ _ _ (by show 600 - ((k + 1)) < 600 - k; omega) ⟨(by show ((k + 1)) ≤ 600 ∧ (q2563) ≤ tn ∧ z + ((k + 1)) < (q2563); omega), (by have e7 : cc + l9.length + l2562.length = cc + (l9 ++ l2562).length := (by rw [List.length_append, Nat.add_assoc]); rw [e7]; exact (hcd.tr c2571).app1), (by show z + (l9 ++ l2562 ++ [(-5 : Int32)]).length ≤ q2563; have e8 : (l9 ++ l2562 ++ [(-5 : Int32)]).length = l9.length + l2562.length + 1 := (by simp only [List.length_append, List.length_cons, List.length_nil]); rw [e8]; omega), (hlp.trans (LP_c1 hY (by decide) (by decide) hpg e2556 (by rw [← hzz]; exact e2567))), (by have e8 : (l9 ++ l2562 ++ [(-5 : Int32)]).length = l9.length + l2562.length + 1 := (by simp only [List.length_append, List.length_cons, List.length_nil]); rw [e8, show cc + (l9.length + l2562.length + 1) = cc + l9.length + l2562.length + 1 by omega]; exact ⟨hkw, hktx, hkco⟩), hT, hF, hL⟩ (lv_sub hl [0, 2, 3] rfl)
          · refine lv_if_ne (tgt := 68) hx hb dX5_readSum_63 (by decide) (fun c9 => absurd (by decide) c9) (fun _ => ?_)
            refine lv_iconst (v := 0) hx hb dX5_readSum_66 (by decide) ?_
            exact en_i hx hb hr hlocks hL rfl (Nat.zero_le _) (Nat.zero_le _) dX5_readSum_67 (⟨hT, hF, Or.inr ⟨rfl, _, _, hlp.trans (LP_er (o := 0) hY (by omega) (Or.inl e2556) (by rw [← hzz]; exact e2575)), x2576⟩⟩)
        · exact absurd e2553 e2557
      · refine lv_if_ne (tgt := 37) hx hb dX5_readSum_25 (by decide) (fun c9 => absurd (by decide) c9) (fun _ => ?_)
        refine lv_aload_n hx hb dX5_readSum_28 rfl (lv_at hl 1 rfl) ?_
        refine lv_bipush (v := 45) hx hb dX5_readSum_29 (by decide) ?_
        refine cv_i (As := [.int 45]) (rest := []) (b := w) ⟨hx, hb, hml, hown, hts⟩ (c_X5_isMark hT (w := w) hw (ch := 45) (by first | omega | decide | assumption) (by first | omega | decide | assumption) (by first | omega | decide | assumption) (by first | omega | decide | assumption) ⟨hkw, hktx, hkco⟩ (by first | omega | decide | assumption)) (cwV 1 hts gX5_readSum_X5_isMark rfl rfl rfl hdX5_isMark_v ⟨Nat.le_of_ble_eq_true rfl, Nat.le_of_ble_eq_true rfl⟩) hN hE hL (rcv6 hN hT hw.1) rfl rfl hl.1 (Nat.le_of_ble_eq_true rfl) dX5_readSum_31 (Nat.zero_le _) (Nat.zero_le _) (fun r2579 H1 locs hL hqr2579 => ?_)
        obtain ⟨h9, hqr2579⟩ := hqr2579; replace h9 := h9.symm; subst h9
        rcases hqr2579 with ⟨rfl, e2580⟩ | ⟨rfl, e2581⟩
        · refine lv_if_eq (tgt := 79) hx hb dX5_readSum_34 (by decide) (fun c9 => absurd c9 (by decide)) (fun _ => ?_)
          refine lv_aload_n hx hb dX5_readSum_37 rfl (lv_at hl 1 rfl) ?_
          refine lv_bipush (v := 43) hx hb dX5_readSum_38 (by decide) ?_
          refine cv_i (As := [.int 43]) (rest := []) (b := w) ⟨hx, hb, hml, hown, hts⟩ (c_X5_isMark hT (w := w) hw (ch := 43) (by first | omega | decide | assumption) (by first | omega | decide | assumption) (by first | omega | decide | assumption) (by first | omega | decide | assumption) ⟨hkw, hktx, hkco⟩ (by first | omega | decide | assumption)) (cwV 1 hts gX5_readSum_X5_isMark rfl rfl rfl hdX5_isMark_v ⟨Nat.le_of_ble_eq_true rfl, Nat.le_of_ble_eq_true rfl⟩) hN hE hL (rcv6 hN hT hw.1) rfl rfl hl.1 (Nat.le_of_ble_eq_true rfl) dX5_readSum_40 (Nat.zero_le _) (Nat.zero_le _) (fun r2582 H1 locs hL hqr2582 => ?_)
          obtain ⟨h9, hqr2582⟩ := hqr2582; replace h9 := h9.symm; subst h9
          rcases hqr2582 with ⟨rfl, e2583⟩ | ⟨rfl, e2584⟩
          · exact absurd e2583 e2554
          · refine lv_if_eq (tgt := 51) hx hb dX5_readSum_43 (by decide) (fun _ => ?_) (fun c9 => absurd (by decide) c9)
            refine lv_bipush (v := (-6)) hx hb dX5_readSum_51 (by decide) ?_
            refine lv_istore_n (lv' := [(3, .int (-6)), (2, .int (nI k)), (0, .ref w), (1, .int 0)]) hx hb dX5_readSum_53 rfl hl (by decide) rfl (fun ls hl => ?_)
            refine lv_aload_n hx hb dX5_readSum_54 rfl (lv_at hl 2 rfl) ?_
            refine cv_v (As := []) (rest := []) (b := w) ⟨hx, hb, hml, hown, hts⟩ (c_X5_step hT (w := w) hw (by first | omega | decide | assumption) (by first | omega | decide | assumption) (by first | omega | decide | assumption) (by first | omega | decide | assumption) (by first | omega | decide | assumption) ⟨hkw, hktx, hkco⟩) (cwV 0 hts gX5_readSum_X5_step rfl rfl rfl hdX5_step_v ⟨Nat.le_of_ble_eq_true rfl, Nat.le_of_ble_eq_true rfl⟩) hN hE hL (rcv6 hN hT hw.1) rfl rfl hl.1 (Nat.le_of_ble_eq_true rfl) dX5_readSum_55 (Nat.zero_le _) (Nat.zero_le _) (fun H1 locs hL hqr2585 => ?_)
            obtain ⟨hT1, hF1, hqr2585⟩ := hqr2585
            have hF := hF.tr (hF1.mono (by simp))
            have hT := hT1
            have m2586 := hqr2585
            obtain ⟨z2587, hz2587⟩ : ∃ z9, z9 = skp B ((tkE B zc)) := ⟨_, rfl⟩
            rw [← hz2587] at m2586
            have bz2587 : z2587 ≤ tn := by rw [hz2587]; exact run_ub hY (by decide) (by omega)
            have hzE := tkE_le hY (s := z2587) (by omega)
            obtain ⟨hkw, hktx, hkco⟩ := m2586
            have hzl := mark_lt hY (by decide) e2580
            have hzz : z2587 = skp B (zc + 1) := by rw [hz2587, tkE_m hY (by decide) e2580]
            have hzb := skp_b hY (z := zc + 1) (by omega)
            rw [← hzz] at hzb
            refine lv_aload_n hx hb dX5_readSum_58 rfl (lv_at hl 2 rfl) ?_
            refine lv_iload_n hx hb dX5_readSum_59 rfl (lv_at hl 3 rfl) ?_
            refine cv_i (As := [.int 0]) (rest := []) (b := w) ⟨hx, hb, hml, hown, hts⟩ (c_X5_readTerm_d0 hT (w := w) hw (by first | omega | decide | assumption) (by first | omega | decide | assumption) (by first | omega | decide | assumption) (by first | omega | decide | assumption) ⟨hkw, hktx, hkco⟩ (by first | omega | decide | assumption)) (cwV 1 hts gX5_readSum_X5_readTerm rfl rfl rfl hdX5_readTerm_v ⟨Nat.le_of_ble_eq_true rfl, Nat.le_of_ble_eq_true rfl⟩) hN hE hL (rcv6 hN hT hw.1) rfl rfl hl.1 (Nat.le_of_ble_eq_true rfl) dX5_readSum_60 (Nat.zero_le _) (Nat.zero_le _) (fun r2588 H1 locs hL hqr2588 => ?_)
            obtain ⟨hT1, hF1, hqr2588⟩ := hqr2588
            have hF := hF.tr (hF1.mono (by simp))
            have hT := hT1
            rcases hqr2588 with ⟨rfl, l2589, q2590, f2591, t2592, k2593, e2594, u2595, v2596, b2597, c2598, m2599⟩ | ⟨rfl, c2600, o2601, e2602, x2603⟩
            · obtain ⟨hkw, hktx, hkco⟩ := m2599
              have hzE := tkE_le hY (s := q2590) (by omega)
              refine lv_if_ne (tgt := 68) hx hb dX5_readSum_63 (by decide) (fun _ => ?_) (fun c9 => absurd c9 (by decide))
              refine lv_aload_n hx hb dX5_readSum_68 rfl (lv_at hl 2 rfl) ?_
              refine lv_iload_n hx hb dX5_readSum_69 rfl (lv_at hl 0 rfl) ?_
              refine cv_v (As := [.int (-6)]) (rest := []) (b := w) ⟨hx, hb, hml, hown, hts⟩ (c_X5_putCode hT (w := w) hw (x := (-6)) (by first | omega | decide | assumption) (by first | omega | decide | assumption) (by first | omega | decide | assumption) (by first | omega | decide | assumption) ⟨hkw, hktx, hkco⟩ (by first | omega | decide | assumption)) (cwV 1 hts gX5_readSum_X5_putCode rfl rfl rfl hdX5_putCode_v ⟨Nat.le_of_ble_eq_true rfl, Nat.le_of_ble_eq_true rfl⟩) hN hE hL (rcv6 hN hT hw.1) rfl rfl hl.1 (Nat.le_of_ble_eq_true rfl) dX5_readSum_70 (Nat.zero_le _) (Nat.zero_le _) (fun H1 locs hL hqr2604 => ?_)
              obtain ⟨hT1, hF1, hqr2604⟩ := hqr2604
              have hF := hF.tr (hF1.mono (by simp))
              have hT := hT1
              have m2605 := hqr2604
              obtain ⟨hkw, hktx, hkco⟩ := m2605
              refine lv_iinc (v := (nI (k + 1))) (lv' := [(2, .int (nI (k + 1))), (3, .int (-6)), (0, .ref w), (1, .int 0)]) hx hb dX5_readSum_73 hl (k := 1) rfl (nI_add _ 1) (by decide) rfl (fun ls hl => ?_)
              refine lv_goto (tgt := 12) hx hb dX5_readSum_76 (by decide) ?_
              exact ih2550 ((k + 1), q2590, (l9 ++ l2589 ++ [(-6)]), (upd f2591 ((cc + l9.length) + l2589.length) (-6)), t2592, k2593) _ _ _ (by show 600 - ((k + 1)) < 600 - k; omega) ⟨(by show ((k + 1)) ≤ 600 ∧ (q2590) ≤ tn ∧ z + ((k + 1)) < (q2590); omega), (by have e7 : cc + l9.length + l2589.length = cc + (l9 ++ l2589).length := (by rw [List.length_append, Nat.add_assoc]); rw [e7]; exact (hcd.tr c2598).app1), (by show z + (l9 ++ l2589 ++ [(-6 : Int32)]).length ≤ q2590; have e8 : (l9 ++ l2589 ++ [(-6 : Int32)]).length = l9.length + l2589.length + 1 := (by simp only [List.length_append, List.length_cons, List.length_nil]); rw [e8]; omega), (hlp.trans (LP_c2 hY (by decide) (by decide) hpg e2584 e2580 (by rw [← hzz]; exact e2594))), (by have e8 : (l9 ++ l2589 ++ [(-6 : Int32)]).length = l9.length + l2589.length + 1 := (by simp only [List.length_append, List.length_cons, List.length_nil]); rw [e8, show cc + (l9.length + l2589.length + 1) = cc + l9.length + l2589.length + 1 by omega]; exact ⟨hkw, hktx, hkco⟩), hT, hF, hL⟩ (lv_sub hl [0, 2, 3] rfl)
            · refine lv_if_ne (tgt := 68) hx hb dX5_readSum_63 (by decide) (fun c9 => absurd (by decide) c9) (fun _ => ?_)
              refine lv_iconst (v := 0) hx hb dX5_readSum_66 (by decide) ?_
              exact en_i hx hb hr hlocks hL rfl (Nat.zero_le _) (Nat.zero_le _) dX5_readSum_67 (⟨hT, hF, Or.inr ⟨rfl, _, _, hlp.trans (LP_er (o := 0) hY (by omega) (Or.inr ⟨e2584, e2580⟩) (by rw [← hzz]; exact e2602)), x2603⟩⟩)
        · refine lv_if_eq (tgt := 79) hx hb dX5_readSum_34 (by decide) (fun _ => ?_) (fun c9 => absurd (by decide) c9)
          refine lv_iconst (v := 1) hx hb dX5_readSum_79 (by decide) ?_
          exact en_i hx hb hr hlocks hL rfl (Nat.zero_le _) (Nat.zero_le _) dX5_readSum_80 (⟨hT, hF, Or.inl ⟨rfl, l9, zc, _, _, _, hlp.trans (LP_no e2554 e2581), (by omega), (by omega), (by omega), hcd, ⟨hkw, hktx, hkco⟩⟩⟩)
  · refine lv_if_ne (tgt := 10) hx hb dX5_readSum_5 (by decide) (fun c9 => absurd (by decide) c9) (fun _ => ?_)
    refine lv_iconst (v := 0) hx hb dX5_readSum_8 (by decide) ?_
    exact en_i hx hb hr hlocks hL rfl (Nat.zero_le _) (Nat.zero_le _) dX5_readSum_9 (⟨hT, hF, Or.inr ⟨rfl, _, _, (hfd z).trans (many_er e2548), x2549⟩⟩)
