
theorem WT.rd {B0 : Nat} {D : va_G} {cs : Nat → ClassId} {T : Nat} {κ : KM} {H : Heap} {w : Nat} (hT : WT B0 D cs T κ H) (hw : T2 κ w 9 13) : T2 κ (cs 450) 6 10 := by
  obtain ⟨-, e0, hat0, rd0, nw0, tr0, pa0, a0, b0, c0, rfl, hrd0, -, -, -, -, -, hrd9⟩ := hT.o9 hw.1
  rw [← hrd9]; exact hrd0

theorem hdX8_state_v : yX8_state.cls = RX8 ∧ yX8_state.cls ≠ "java/lang/invoke/MethodHandle" ∧ yX8_state.cls ≠ "java/lang/invoke/VarHandle" ∧ (parseMethodDescriptor yX8_state.desc).map (fun d => d.parameters.length) = some 1 := by decide +kernel
theorem mL_state_1 : (.classLink RL 13 "java/lang/IllegalArgumentException" : Cond) ∈ wsL_state := List.mem_of_getElem? (i := 1) (by decide +kernel)
set_option maxHeartbeats 4000000 in
set_option maxRecDepth 100000 in
theorem c_L_state {l : Launch} (hlt : l.stackTraces = false) {D : va_G} {cs : Nat → ClassId} {B0 T : Nat} {κ : KM} {H0 : Heap} (hT : WT B0 D cs T κ H0) {w o : Nat} (hw : T2 κ w 9 13) (ho : T2 κ o 29 13) {C : Nat → Nat} {LN : Nat → Nat → Nat} (hR : RQ D cs κ H0 C LN er) (hC : sumN C 16 + 24 ≤ 12400) {x : Int32} : KC l yL_state wsL_state 8 157 ((336 * sumN C 16 + 145000 - PotN LN) / 35) (336 * sumN C 16 + 145000 - PotN LN) D cs B0 H0 [.ref w, .int x, .ref o] (Qi (fun _ H => ∃ κ1, KZ κ κ1 ∧ WT B0 D cs T κ1 H ∧ T2 κ1 (cs 450) 6 10 ∧ ((κ1 (cs 450)).2.2.1 = (κ (cs 450)).2.2.1) ∧ ∃ C1 LN1 k n, sumN C1 16 ≤ sumN C 16 + 24 ∧ RQ D cs κ1 H C1 LN1 er ∧ Gr H0 H k n ∧ 35 * k ≤ n + 35 ∧ n + PotN LN ≤ PotN LN1 + 714)) := by
  refine KC.ofH (hh := [(0, 9, 12, 13)]) cL_state 4 (some .int) (by decide) rfl (Nat.le_of_ble_eq_true rfl) ?_
  intro p e s m below meth c ls hx hb hr hml hown hts hlocks htab hN hE hH0 hl
  have hown : s.vm.findClass RL = some m.cls := hown
  have hl : lv_has ls 4 [(0, .ref w), (1, .int x), (2, .ref o)] := hl
  have hL : OkL B0 [] := OkL.nil
  have hGN : 35 * 0 ≤ 0 ∧ 0 + PotN LN ≤ PotN LN := ⟨Nat.le_refl _, by omega⟩
  have hs0 := hR.pot
  have hrd0 := hT.rd hw
  have hR0 := hR
  refine lv_aload_n hx hb dL_state_0 rfl (lv_at hl 2 rfl) ?_
  refine lv_iconst (v := 0) hx hb dL_state_1 (by decide) ?_
  refine lv_aload_n hx hb dL_state_2 rfl (lv_at hl 0 rfl) ?_
  refine lv_iload_n hx hb dL_state_3 rfl (lv_at hl 1 rfl) ?_
  refine ct_V (As := [.int x]) (rest := [.int 0, .ref o]) (b := w) ⟨hx, hb, hml, hown, hts⟩ (c_X8_state hlt hT (w := w) hw (x := x) hR) (cwV 1 hts gL_state_X8_state rfl rfl rfl hdX8_state_v ⟨Nat.le_of_ble_eq_true rfl, Nat.le_of_ble_eq_true rfl⟩) hN hE hL (rcv9 hN hT hw.1) rfl rfl hl.1 (Nat.le_of_ble_eq_true rfl) dL_state_4 (show 0 + ((336 * sumN C 16 + 137000 - PotN LN) / 35) ≤ ((336 * sumN C 16 + 145000 - PotN LN) / 35) by omega) (show 0 + (336 * sumN C 16 + 137000 - PotN LN) ≤ (336 * sumN C 16 + 145000 - PotN LN) by omega) (fun E9 q9 ce9 H1 locs hL hq h1 h2 h3 => ?_) (fun v9 H1 locs hL hqr5925 => ?_)
  · have hTQ := hq
    obtain rfl : E9 = "java/lang/IllegalArgumentException" := by simpa using hTQ.1
    refine vx_catch hown [] ⟨0, 9, 12, 13⟩ [] htab (fun z h => nomatch h) rfl (by decide) (hts _ mL_state_1) (va_Nw.use rfl (hN.2.2.2.2.2.2.2.1 "java/lang/IllegalArgumentException" (List.mem_of_getElem? (i := 0) rfl))) h1 h2 h3 ?_
    refine W.eq (g2 := F0 m 12 ls [.ref q9]) rfl ?_
    refine W.tight (k := 1) (n := 6) (by rw [hH0]; exact hTQ.2.2.2) ?_
    have hR := hR.fr hT trivial hTQ.fr (by decide)
    have hT := hTQ.wt hT
    refine lv_astore_n (lv' := [(3, .ref q9), (0, .ref w), (1, .int x), (2, .ref o)]) hx hb dL_state_12 rfl hl (by decide) rfl (fun ls hl => ?_)
    refine lv_iconst (v := 1) hx hb dL_state_13 (by decide) ?_
    refine W.know (fun hg => ?_)
    rw [hH0] at hg
    exact en_i hx hb hr hlocks hL rfl (show 1 ≤ ((336 * sumN C 16 + 145000 - PotN LN) / 35) by omega) (show 6 ≤ (336 * sumN C 16 + 145000 - PotN LN) by omega) dL_state_14 (⟨κ, KZ.rf, hT, hrd0, rfl, C, LN, 1, 6, Nat.le_add_right _ _, hR, hg, by decide, by omega⟩)
  · have htr9 : True := trivial
    obtain ⟨r5925, rfl, hqr5925⟩ := hqr5925
    refine W.eq (g2 := F0 m 7 ls [.int r5925, .int 0, .ref o]) rfl ?_
    obtain ⟨κr5925, hxr5925, hT1, hqr5925⟩ := hqr5925
    have hxfr5925 := hxr5925.1
    have hT := hT1
    have hKF : KF κ κr5925 := hxfr5925
    have hKW : KW κ κr5925 := hxr5925
    have hw := (KF.t2 hxfr5925 hw (by decide))
    have ho := (KF.t2 hxfr5925 ho (by decide))
    obtain ⟨C5926, L5927, k5928, n5929, h5930, r5931, g5932⟩ := hqr5925
    have hR := r5931
    have hCs := h5930
    obtain ⟨k5933, n5934, hGP, hgk, hgn⟩ : ∃ k9 n9, Gr H0 _ k9 n9 ∧ 35 * k9 ≤ n9 ∧ n9 + PotN LN ≤ PotN L5927 := ⟨_, _, g5932.1, g5932.2.1, g5932.2.2⟩
    have hp0 := hR0.pot
    have hp1 := hR.pot
    refine W.tight (k := k5933) (n := n5934) (by rw [hH0]; exact hGP) ?_
    refine lv_i2l hx hb dL_state_7 rfl ?_
    refine gn_l (fun y5935 => ?_)
    obtain ⟨hb5936, e5936, hat5936, hk5936⟩ := hT.o29 ho.1
    obtain ⟨g5936, rfl⟩ := hk5936
    have hP : va_P D vwCl [(o, .inl (cs 3, 1, .inr (.inl g5936)))] _ := va_P.cons hat5936 va_P.nil
    have hB : Bx B0 D _ [(o, .inl (cs 3, 1, .inr (.inl g5936)))] [] _ _ := Bx.of (fun a => (κr5925 a).1) hL hP (fa_c hb5936 fa_n) (by simp only [List.map_cons, List.map_nil, ho.1]; decide)
    refine b_l hx hb hN hB 0 rfl (vp_in_nI (n := 0) (N := 1) (by omega) (by omega)) (.inl rfl) dL_state_8 (fun H locs hB => ?_)
    rw [(show (0 : Int32).toNatClampNeg = 0 from nI_clamp (n := 0) (by omega))] at hB
    have hB : Bx B0 D _ [(o, .inl (cs 3, 1, .inr (.inl (vp_updL g5936 0 y5935))))] [o] _ _ := hB
    generalize (vp_updL g5936 0 y5935) = g5937 at hB
    refine lv_goto (tgt := 15) hx hb dL_state_9 (by decide) ?_
    refine lv_iconst (v := 0) hx hb dL_state_15 (by decide) ?_
    have hR := hR.fr hT trivial (Fr.close (S := [13]) Fr.rf hB (fa_c (by simp [ho.2]) fa_n)) (by decide)
    have hT : WT B0 D cs T κr5925 _ := hT.close hB ⟨⟨0, _, rfl, ok_29 ho.1 ⟨_, rfl⟩⟩, trivial⟩
    have hL : OkL B0 _ := hB.2.2.2.2.2
    have hP : va_P D vwCl [(o, .inl (cs 3, 1, .inr (.inl g5937)))] _ := hB.1
    refine W.know (fun hg => ?_)
    rw [hH0] at hg
    exact en_i hx hb hr hlocks hL rfl (show k5933 ≤ ((336 * sumN C 16 + 145000 - PotN LN) / 35) by omega) (show n5934 ≤ (336 * sumN C 16 + 145000 - PotN LN) by omega) dL_state_16 (⟨_, hKW.z, hT, hKW.1.t2 hrd0 (by decide), by rw [hKW.2 _ (by rw [hrd0.1]; decide) (by rw [hrd0.2]; decide)], _, _, _, _, hCs, hR, hg, by omega, by omega⟩)
theorem hdX8_player_v : yX8_player.cls = RX8 ∧ yX8_player.cls ≠ "java/lang/invoke/MethodHandle" ∧ yX8_player.cls ≠ "java/lang/invoke/VarHandle" ∧ (parseMethodDescriptor yX8_player.desc).map (fun d => d.parameters.length) = some 2 := by decide +kernel
theorem mL_player_1 : (.classLink RL 22 "java/lang/IndexOutOfBoundsException" : Cond) ∈ wsL_player := List.mem_of_getElem? (i := 1) (by decide +kernel)
theorem mL_player_2 : (.classLink RL 13 "java/lang/IllegalArgumentException" : Cond) ∈ wsL_player := List.mem_of_getElem? (i := 2) (by decide +kernel)
set_option maxHeartbeats 4000000 in
set_option maxRecDepth 100000 in
theorem c_L_player {l : Launch} (hlt : l.stackTraces = false) {D : va_G} {cs : Nat → ClassId} {B0 T : Nat} {κ : KM} {H0 : Heap} (hT : WT B0 D cs T κ H0) {w o : Nat} (hw : T2 κ w 9 13) (ho : T2 κ o 29 13) {C : Nat → Nat} {LN : Nat → Nat → Nat} (hR : RQ D cs κ H0 C LN er) (hC : sumN C 16 + 24 ≤ 12400) {x : Int32} {y : Int32} : KC l yL_player wsL_player 8 144 ((336 * sumN C 16 + 145000 - PotN LN) / 35) (336 * sumN C 16 + 145000 - PotN LN) D cs B0 H0 [.ref w, .int x, .int y, .ref o] (Qi (fun _ H => ∃ κ1, KZ κ κ1 ∧ WT B0 D cs T κ1 H ∧ T2 κ1 (cs 450) 6 10 ∧ ((κ1 (cs 450)).2.2.1 = (κ (cs 450)).2.2.1) ∧ ∃ C1 LN1 k n, sumN C1 16 ≤ sumN C 16 + 24 ∧ RQ D cs κ1 H C1 LN1 er ∧ Gr H0 H k n ∧ 35 * k ≤ n + 35 ∧ n + PotN LN ≤ PotN LN1 + 714)) := by
  refine KC.ofH (hh := [(0, 10, 13, 22), (0, 10, 17, 13)]) cL_player 5 (some .int) (by decide) rfl (Nat.le_of_ble_eq_true rfl) ?_
  intro p e s m below meth c ls hx hb hr hml hown hts hlocks htab hN hE hH0 hl
  have hown : s.vm.findClass RL = some m.cls := hown
  have hl : lv_has ls 5 [(0, .ref w), (1, .int x), (2, .int y), (3, .ref o)] := hl
  have hL : OkL B0 [] := OkL.nil
  have hGN : 35 * 0 ≤ 0 ∧ 0 + PotN LN ≤ PotN LN := ⟨Nat.le_refl _, by omega⟩
  have hs0 := hR.pot
  have hrd0 := hT.rd hw
  have hR0 := hR
  refine lv_aload_n hx hb dL_player_0 rfl (lv_at hl 3 rfl) ?_
  refine lv_iconst (v := 0) hx hb dL_player_1 (by decide) ?_
  refine lv_aload_n hx hb dL_player_2 rfl (lv_at hl 0 rfl) ?_
  refine lv_iload_n hx hb dL_player_3 rfl (lv_at hl 1 rfl) ?_
  refine lv_iload_n hx hb dL_player_4 rfl (lv_at hl 2 rfl) ?_
  refine ct_V (As := [.int x, .int y]) (rest := [.int 0, .ref o]) (b := w) ⟨hx, hb, hml, hown, hts⟩ (c_X8_player hlt hT (w := w) hw (x := x) (y := y) hR) (cwV 2 hts gL_player_X8_player rfl rfl rfl hdX8_player_v ⟨Nat.le_of_ble_eq_true rfl, Nat.le_of_ble_eq_true rfl⟩) hN hE hL (rcv9 hN hT hw.1) rfl rfl hl.1 (Nat.le_of_ble_eq_true rfl) dL_player_5 (show 0 + ((336 * sumN C 16 + 137000 - PotN LN) / 35) ≤ ((336 * sumN C 16 + 145000 - PotN LN) / 35) by omega) (show 0 + (336 * sumN C 16 + 137000 - PotN LN) ≤ (336 * sumN C 16 + 145000 - PotN LN) by omega) (fun E9 q9 ce9 H1 locs hL hq h1 h2 h3 => ?_) (fun v9 H1 locs hL hqr5938 => ?_)
  · have hTQ := hq
    rcases (by simpa using hTQ.1 : E9 = "java/lang/IndexOutOfBoundsException" ∨ E9 = "java/lang/IllegalArgumentException") with rfl | rfl
    · refine vx_catch hown [] ⟨0, 10, 13, 22⟩ [⟨0, 10, 17, 13⟩] htab (fun z h => nomatch h) rfl (by decide) (hts _ mL_player_1) (va_Nw.use rfl (hN.2.2.2.2.2.2.2.1 "java/lang/IndexOutOfBoundsException" (List.mem_of_getElem? (i := 2) rfl))) h1 h2 h3 ?_
      refine W.eq (g2 := F0 m 13 ls [.ref q9]) rfl ?_
      refine W.tight (k := 1) (n := 6) (by rw [hH0]; exact hTQ.2.2.2) ?_
      have hR := hR.fr hT trivial hTQ.fr (by decide)
      have hT := hTQ.wt hT
      refine lv_astore (lv' := [(4, .ref q9), (0, .ref w), (1, .int x), (2, .int y), (3, .ref o)]) hx hb dL_player_13 hl (by decide) rfl (fun ls hl => ?_)
      refine lv_iconst (v := 1) hx hb dL_player_15 (by decide) ?_
      refine W.know (fun hg => ?_)
      rw [hH0] at hg
      exact en_i hx hb hr hlocks hL rfl (show 1 ≤ ((336 * sumN C 16 + 145000 - PotN LN) / 35) by omega) (show 6 ≤ (336 * sumN C 16 + 145000 - PotN LN) by omega) dL_player_16 (⟨κ, KZ.rf, hT, hrd0, rfl, C, LN, 1, 6, Nat.le_add_right _ _, hR, hg, by decide, by omega⟩)
    · refine vx_catch hown [⟨0, 10, 13, 22⟩] ⟨0, 10, 17, 13⟩ [] htab (fun z h => by rw [List.mem_singleton.mp h]; exact Or.inr ⟨by decide, "java/lang/IndexOutOfBoundsException", hts _ mL_player_1, hN.2.2.2.2.2.2.2.2.1 ("java/lang/IllegalArgumentException", "java/lang/IndexOutOfBoundsException") (by decide +kernel)⟩) rfl (by decide) (hts _ mL_player_2) (va_Nw.use rfl (hN.2.2.2.2.2.2.2.1 "java/lang/IllegalArgumentException" (List.mem_of_getElem? (i := 0) rfl))) h1 h2 h3 ?_
      refine W.eq (g2 := F0 m 17 ls [.ref q9]) rfl ?_
      refine W.tight (k := 1) (n := 6) (by rw [hH0]; exact hTQ.2.2.2) ?_
      have hR := hR.fr hT trivial hTQ.fr (by decide)
      have hT := hTQ.wt hT
      refine lv_astore (lv' := [(4, .ref q9), (0, .ref w), (1, .int x), (2, .int y), (3, .ref o)]) hx hb dL_player_17 hl (by decide) rfl (fun ls hl => ?_)
      refine lv_iconst (v := 2) hx hb dL_player_19 (by decide) ?_
      refine W.know (fun hg => ?_)
      rw [hH0] at hg
      exact en_i hx hb hr hlocks hL rfl (show 1 ≤ ((336 * sumN C 16 + 145000 - PotN LN) / 35) by omega) (show 6 ≤ (336 * sumN C 16 + 145000 - PotN LN) by omega) dL_player_20 (⟨κ, KZ.rf, hT, hrd0, rfl, C, LN, 1, 6, Nat.le_add_right _ _, hR, hg, by decide, by omega⟩)
  · have htr9 : True := trivial
    obtain ⟨r5938, rfl, hqr5938⟩ := hqr5938
    refine W.eq (g2 := F0 m 8 ls [.int r5938, .int 0, .ref o]) rfl ?_
    obtain ⟨κr5938, hxr5938, hT1, hqr5938⟩ := hqr5938
    have hxfr5938 := hxr5938.1
    have hT := hT1
    have hKF : KF κ κr5938 := hxfr5938
    have hKW : KW κ κr5938 := hxr5938
    have hw := (KF.t2 hxfr5938 hw (by decide))
    have ho := (KF.t2 hxfr5938 ho (by decide))
    obtain ⟨C5939, L5940, k5941, n5942, h5943, r5944, g5945⟩ := hqr5938
    have hR := r5944
    have hCs := h5943
    obtain ⟨k5946, n5947, hGP, hgk, hgn⟩ : ∃ k9 n9, Gr H0 _ k9 n9 ∧ 35 * k9 ≤ n9 ∧ n9 + PotN LN ≤ PotN L5940 := ⟨_, _, g5945.1, g5945.2.1, g5945.2.2⟩
    have hp0 := hR0.pot
    have hp1 := hR.pot
    refine W.tight (k := k5946) (n := n5947) (by rw [hH0]; exact hGP) ?_
    refine lv_i2l hx hb dL_player_8 rfl ?_
    refine gn_l (fun y5948 => ?_)
    obtain ⟨hb5949, e5949, hat5949, hk5949⟩ := hT.o29 ho.1
    obtain ⟨g5949, rfl⟩ := hk5949
    have hP : va_P D vwCl [(o, .inl (cs 3, 1, .inr (.inl g5949)))] _ := va_P.cons hat5949 va_P.nil
    have hB : Bx B0 D _ [(o, .inl (cs 3, 1, .inr (.inl g5949)))] [] _ _ := Bx.of (fun a => (κr5938 a).1) hL hP (fa_c hb5949 fa_n) (by simp only [List.map_cons, List.map_nil, ho.1]; decide)
    refine b_l hx hb hN hB 0 rfl (vp_in_nI (n := 0) (N := 1) (by omega) (by omega)) (.inl rfl) dL_player_9 (fun H locs hB => ?_)
    rw [(show (0 : Int32).toNatClampNeg = 0 from nI_clamp (n := 0) (by omega))] at hB
    have hB : Bx B0 D _ [(o, .inl (cs 3, 1, .inr (.inl (vp_updL g5949 0 y5948))))] [o] _ _ := hB
    generalize (vp_updL g5949 0 y5948) = g5950 at hB
    refine lv_goto (tgt := 21) hx hb dL_player_10 (by decide) ?_
    refine lv_iconst (v := 0) hx hb dL_player_21 (by decide) ?_
    have hR := hR.fr hT trivial (Fr.close (S := [13]) Fr.rf hB (fa_c (by simp [ho.2]) fa_n)) (by decide)
    have hT : WT B0 D cs T κr5938 _ := hT.close hB ⟨⟨0, _, rfl, ok_29 ho.1 ⟨_, rfl⟩⟩, trivial⟩
    have hL : OkL B0 _ := hB.2.2.2.2.2
    have hP : va_P D vwCl [(o, .inl (cs 3, 1, .inr (.inl g5950)))] _ := hB.1
    refine W.know (fun hg => ?_)
    rw [hH0] at hg
    exact en_i hx hb hr hlocks hL rfl (show k5946 ≤ ((336 * sumN C 16 + 145000 - PotN LN) / 35) by omega) (show n5947 ≤ (336 * sumN C 16 + 145000 - PotN LN) by omega) dL_player_22 (⟨_, hKW.z, hT, hKW.1.t2 hrd0 (by decide), by rw [hKW.2 _ (by rw [hrd0.1]; decide) (by rw [hrd0.2]; decide)], _, _, _, _, hCs, hR, hg, by omega, by omega⟩)
theorem hdX8_link_v : yX8_link.cls = RX8 ∧ yX8_link.cls ≠ "java/lang/invoke/MethodHandle" ∧ yX8_link.cls ≠ "java/lang/invoke/VarHandle" ∧ (parseMethodDescriptor yX8_link.desc).map (fun d => d.parameters.length) = some 2 := by decide +kernel
theorem mL_link_1 : (.classLink RL 22 "java/lang/IndexOutOfBoundsException" : Cond) ∈ wsL_link := List.mem_of_getElem? (i := 1) (by decide +kernel)
set_option maxHeartbeats 4000000 in
set_option maxRecDepth 100000 in
theorem c_L_link {l : Launch} (hlt : l.stackTraces = false) {D : va_G} {cs : Nat → ClassId} {B0 T : Nat} {κ : KM} {H0 : Heap} (hT : WT B0 D cs T κ H0) {w o : Nat} (hw : T2 κ w 9 13) (ho : T2 κ o 29 13) {C : Nat → Nat} {LN : Nat → Nat → Nat} (hR : RQ D cs κ H0 C LN er) (hC : sumN C 16 + 24 ≤ 12400) {x : Int32} {y : Int32} : KC l yL_link wsL_link 8 143 ((336 * sumN C 16 + 145000 - PotN LN) / 35) (336 * sumN C 16 + 145000 - PotN LN) D cs B0 H0 [.ref w, .int x, .int y, .ref o] (Qi (fun _ H => ∃ κ1, KZ κ κ1 ∧ WT B0 D cs T κ1 H ∧ T2 κ1 (cs 450) 6 10 ∧ ((κ1 (cs 450)).2.2.1 = (κ (cs 450)).2.2.1) ∧ ∃ C1 LN1 k n, sumN C1 16 ≤ sumN C 16 + 24 ∧ RQ D cs κ1 H C1 LN1 er ∧ Gr H0 H k n ∧ 35 * k ≤ n + 35 ∧ n + PotN LN ≤ PotN LN1 + 714)) := by
  refine KC.ofH (hh := [(0, 10, 13, 22)]) cL_link 5 (some .int) (by decide) rfl (Nat.le_of_ble_eq_true rfl) ?_
  intro p e s m below meth c ls hx hb hr hml hown hts hlocks htab hN hE hH0 hl
  have hown : s.vm.findClass RL = some m.cls := hown
  have hl : lv_has ls 5 [(0, .ref w), (1, .int x), (2, .int y), (3, .ref o)] := hl
  have hL : OkL B0 [] := OkL.nil
  have hGN : 35 * 0 ≤ 0 ∧ 0 + PotN LN ≤ PotN LN := ⟨Nat.le_refl _, by omega⟩
  have hs0 := hR.pot
  have hrd0 := hT.rd hw
  have hR0 := hR
  refine lv_aload_n hx hb dL_link_0 rfl (lv_at hl 3 rfl) ?_
  refine lv_iconst (v := 0) hx hb dL_link_1 (by decide) ?_
  refine lv_aload_n hx hb dL_link_2 rfl (lv_at hl 0 rfl) ?_
  refine lv_iload_n hx hb dL_link_3 rfl (lv_at hl 1 rfl) ?_
  refine lv_iload_n hx hb dL_link_4 rfl (lv_at hl 2 rfl) ?_
  refine ct_V (As := [.int x, .int y]) (rest := [.int 0, .ref o]) (b := w) ⟨hx, hb, hml, hown, hts⟩ (c_X8_link hlt hT (w := w) hw (x := x) (y := y) hR) (cwV 2 hts gL_link_X8_link rfl rfl rfl hdX8_link_v ⟨Nat.le_of_ble_eq_true rfl, Nat.le_of_ble_eq_true rfl⟩) hN hE hL (rcv9 hN hT hw.1) rfl rfl hl.1 (Nat.le_of_ble_eq_true rfl) dL_link_5 (show 0 + ((336 * sumN C 16 + 137000 - PotN LN) / 35) ≤ ((336 * sumN C 16 + 145000 - PotN LN) / 35) by omega) (show 0 + (336 * sumN C 16 + 137000 - PotN LN) ≤ (336 * sumN C 16 + 145000 - PotN LN) by omega) (fun E9 q9 ce9 H1 locs hL hq h1 h2 h3 => ?_) (fun v9 H1 locs hL hqr5951 => ?_)
  · have hTQ := hq
    obtain rfl : E9 = "java/lang/IndexOutOfBoundsException" := by simpa using hTQ.1
    refine vx_catch hown [] ⟨0, 10, 13, 22⟩ [] htab (fun z h => nomatch h) rfl (by decide) (hts _ mL_link_1) (va_Nw.use rfl (hN.2.2.2.2.2.2.2.1 "java/lang/IndexOutOfBoundsException" (List.mem_of_getElem? (i := 2) rfl))) h1 h2 h3 ?_
    refine W.eq (g2 := F0 m 13 ls [.ref q9]) rfl ?_
    refine W.tight (k := 1) (n := 6) (by rw [hH0]; exact hTQ.2.2.2) ?_
    have hR := hR.fr hT trivial hTQ.fr (by decide)
    have hT := hTQ.wt hT
    refine lv_astore (lv' := [(4, .ref q9), (0, .ref w), (1, .int x), (2, .int y), (3, .ref o)]) hx hb dL_link_13 hl (by decide) rfl (fun ls hl => ?_)
    refine lv_iconst (v := 1) hx hb dL_link_15 (by decide) ?_
    refine W.know (fun hg => ?_)
    rw [hH0] at hg
    exact en_i hx hb hr hlocks hL rfl (show 1 ≤ ((336 * sumN C 16 + 145000 - PotN LN) / 35) by omega) (show 6 ≤ (336 * sumN C 16 + 145000 - PotN LN) by omega) dL_link_16 (⟨κ, KZ.rf, hT, hrd0, rfl, C, LN, 1, 6, Nat.le_add_right _ _, hR, hg, by decide, by omega⟩)
  · have htr9 : True := trivial
    obtain ⟨r5951, rfl, hqr5951⟩ := hqr5951
    refine W.eq (g2 := F0 m 8 ls [.int r5951, .int 0, .ref o]) rfl ?_
    obtain ⟨κr5951, hxr5951, hT1, hqr5951⟩ := hqr5951
    have hxfr5951 := hxr5951.1
    have hT := hT1
    have hKF : KF κ κr5951 := hxfr5951
    have hKW : KW κ κr5951 := hxr5951
    have hw := (KF.t2 hxfr5951 hw (by decide))
    have ho := (KF.t2 hxfr5951 ho (by decide))
    obtain ⟨C5952, L5953, k5954, n5955, h5956, r5957, g5958⟩ := hqr5951
    have hR := r5957
    have hCs := h5956
    obtain ⟨k5959, n5960, hGP, hgk, hgn⟩ : ∃ k9 n9, Gr H0 _ k9 n9 ∧ 35 * k9 ≤ n9 ∧ n9 + PotN LN ≤ PotN L5953 := ⟨_, _, g5958.1, g5958.2.1, g5958.2.2⟩
    have hp0 := hR0.pot
    have hp1 := hR.pot
    refine W.tight (k := k5959) (n := n5960) (by rw [hH0]; exact hGP) ?_
    refine lv_i2l hx hb dL_link_8 rfl ?_
    refine gn_l (fun y5961 => ?_)
    obtain ⟨hb5962, e5962, hat5962, hk5962⟩ := hT.o29 ho.1
    obtain ⟨g5962, rfl⟩ := hk5962
    have hP : va_P D vwCl [(o, .inl (cs 3, 1, .inr (.inl g5962)))] _ := va_P.cons hat5962 va_P.nil
    have hB : Bx B0 D _ [(o, .inl (cs 3, 1, .inr (.inl g5962)))] [] _ _ := Bx.of (fun a => (κr5951 a).1) hL hP (fa_c hb5962 fa_n) (by simp only [List.map_cons, List.map_nil, ho.1]; decide)
    refine b_l hx hb hN hB 0 rfl (vp_in_nI (n := 0) (N := 1) (by omega) (by omega)) (.inl rfl) dL_link_9 (fun H locs hB => ?_)
    rw [(show (0 : Int32).toNatClampNeg = 0 from nI_clamp (n := 0) (by omega))] at hB
    have hB : Bx B0 D _ [(o, .inl (cs 3, 1, .inr (.inl (vp_updL g5962 0 y5961))))] [o] _ _ := hB
    generalize (vp_updL g5962 0 y5961) = g5963 at hB
    refine lv_goto (tgt := 17) hx hb dL_link_10 (by decide) ?_
    refine lv_iconst (v := 0) hx hb dL_link_17 (by decide) ?_
    have hR := hR.fr hT trivial (Fr.close (S := [13]) Fr.rf hB (fa_c (by simp [ho.2]) fa_n)) (by decide)
    have hT : WT B0 D cs T κr5951 _ := hT.close hB ⟨⟨0, _, rfl, ok_29 ho.1 ⟨_, rfl⟩⟩, trivial⟩
    have hL : OkL B0 _ := hB.2.2.2.2.2
    have hP : va_P D vwCl [(o, .inl (cs 3, 1, .inr (.inl g5963)))] _ := hB.1
    refine W.know (fun hg => ?_)
    rw [hH0] at hg
    exact en_i hx hb hr hlocks hL rfl (show k5959 ≤ ((336 * sumN C 16 + 145000 - PotN LN) / 35) by omega) (show n5960 ≤ (336 * sumN C 16 + 145000 - PotN LN) by omega) dL_link_18 (⟨_, hKW.z, hT, hKW.1.t2 hrd0 (by decide), by rw [hKW.2 _ (by rw [hrd0.1]; decide) (by rw [hrd0.2]; decide)], _, _, _, _, hCs, hR, hg, by omega, by omega⟩)
theorem hdX8_message_v : yX8_message.cls = RX8 ∧ yX8_message.cls ≠ "java/lang/invoke/MethodHandle" ∧ yX8_message.cls ≠ "java/lang/invoke/VarHandle" ∧ (parseMethodDescriptor yX8_message.desc).map (fun d => d.parameters.length) = some 2 := by decide +kernel
theorem mL_message_1 : (.classLink RL 30 "java/util/NoSuchElementException" : Cond) ∈ wsL_message := List.mem_of_getElem? (i := 1) (by decide +kernel)
theorem mL_message_2 : (.classLink RL 13 "java/lang/IllegalArgumentException" : Cond) ∈ wsL_message := List.mem_of_getElem? (i := 2) (by decide +kernel)
set_option maxHeartbeats 4000000 in
set_option maxRecDepth 100000 in
theorem c_L_message {l : Launch} (hlt : l.stackTraces = false) {D : va_G} {cs : Nat → ClassId} {B0 T : Nat} {κ : KM} {H0 : Heap} (hT : WT B0 D cs T κ H0) {w o : Nat} (hw : T2 κ w 9 13) (ho : T2 κ o 29 13) {C : Nat → Nat} {LN : Nat → Nat → Nat} (hR : RQ D cs κ H0 C LN er) (hC : sumN C 16 + 24 ≤ 12400) {x : Int32} {y : Int32} : KC l yL_message wsL_message 8 144 ((336 * sumN C 16 + 145000 - PotN LN) / 35) (336 * sumN C 16 + 145000 - PotN LN) D cs B0 H0 [.ref w, .int x, .int y, .ref o] (Qi (fun _ H => ∃ κ1, KZ κ κ1 ∧ WT B0 D cs T κ1 H ∧ T2 κ1 (cs 450) 6 10 ∧ ((κ1 (cs 450)).2.2.1 = (κ (cs 450)).2.2.1) ∧ ∃ C1 LN1 k n, sumN C1 16 ≤ sumN C 16 + 24 ∧ RQ D cs κ1 H C1 LN1 er ∧ Gr H0 H k n ∧ 35 * k ≤ n + 35 ∧ n + PotN LN ≤ PotN LN1 + 714)) := by
  refine KC.ofH (hh := [(0, 10, 13, 30), (0, 10, 17, 13)]) cL_message 5 (some .int) (by decide) rfl (Nat.le_of_ble_eq_true rfl) ?_
  intro p e s m below meth c ls hx hb hr hml hown hts hlocks htab hN hE hH0 hl
  have hown : s.vm.findClass RL = some m.cls := hown
  have hl : lv_has ls 5 [(0, .ref w), (1, .int x), (2, .int y), (3, .ref o)] := hl
  have hL : OkL B0 [] := OkL.nil
  have hGN : 35 * 0 ≤ 0 ∧ 0 + PotN LN ≤ PotN LN := ⟨Nat.le_refl _, by omega⟩
  have hs0 := hR.pot
  have hrd0 := hT.rd hw
  have hR0 := hR
  refine lv_aload_n hx hb dL_message_0 rfl (lv_at hl 3 rfl) ?_
  refine lv_iconst (v := 0) hx hb dL_message_1 (by decide) ?_
  refine lv_aload_n hx hb dL_message_2 rfl (lv_at hl 0 rfl) ?_
  refine lv_iload_n hx hb dL_message_3 rfl (lv_at hl 1 rfl) ?_
  refine lv_iload_n hx hb dL_message_4 rfl (lv_at hl 2 rfl) ?_
  refine ct_V (As := [.int x, .int y]) (rest := [.int 0, .ref o]) (b := w) ⟨hx, hb, hml, hown, hts⟩ (c_X8_message hlt hT (w := w) hw (x := x) (y := y) hR) (cwV 2 hts gL_message_X8_message rfl rfl rfl hdX8_message_v ⟨Nat.le_of_ble_eq_true rfl, Nat.le_of_ble_eq_true rfl⟩) hN hE hL (rcv9 hN hT hw.1) rfl rfl hl.1 (Nat.le_of_ble_eq_true rfl) dL_message_5 (show 0 + ((336 * sumN C 16 + 137000 - PotN LN) / 35) ≤ ((336 * sumN C 16 + 145000 - PotN LN) / 35) by omega) (show 0 + (336 * sumN C 16 + 137000 - PotN LN) ≤ (336 * sumN C 16 + 145000 - PotN LN) by omega) (fun E9 q9 ce9 H1 locs hL hq h1 h2 h3 => ?_) (fun v9 H1 locs hL hqr5964 => ?_)
  · have hTQ := hq
    rcases (by simpa using hTQ.1 : E9 = "java/util/NoSuchElementException" ∨ E9 = "java/lang/IllegalArgumentException") with rfl | rfl
    · refine vx_catch hown [] ⟨0, 10, 13, 30⟩ [⟨0, 10, 17, 13⟩] htab (fun z h => nomatch h) rfl (by decide) (hts _ mL_message_1) (va_Nw.use rfl (hN.2.2.2.2.2.2.2.1 "java/util/NoSuchElementException" (List.mem_of_getElem? (i := 3) rfl))) h1 h2 h3 ?_
      refine W.eq (g2 := F0 m 13 ls [.ref q9]) rfl ?_
      refine W.tight (k := 1) (n := 6) (by rw [hH0]; exact hTQ.2.2.2) ?_
      have hR := hR.fr hT trivial hTQ.fr (by decide)
      have hT := hTQ.wt hT
      refine lv_astore (lv' := [(4, .ref q9), (0, .ref w), (1, .int x), (2, .int y), (3, .ref o)]) hx hb dL_message_13 hl (by decide) rfl (fun ls hl => ?_)
      refine lv_iconst (v := 1) hx hb dL_message_15 (by decide) ?_
      refine W.know (fun hg => ?_)
      rw [hH0] at hg
      exact en_i hx hb hr hlocks hL rfl (show 1 ≤ ((336 * sumN C 16 + 145000 - PotN LN) / 35) by omega) (show 6 ≤ (336 * sumN C 16 + 145000 - PotN LN) by omega) dL_message_16 (⟨κ, KZ.rf, hT, hrd0, rfl, C, LN, 1, 6, Nat.le_add_right _ _, hR, hg, by decide, by omega⟩)
    · refine vx_catch hown [⟨0, 10, 13, 30⟩] ⟨0, 10, 17, 13⟩ [] htab (fun z h => by rw [List.mem_singleton.mp h]; exact Or.inr ⟨by decide, "java/util/NoSuchElementException", hts _ mL_message_1, hN.2.2.2.2.2.2.2.2.1 ("java/lang/IllegalArgumentException", "java/util/NoSuchElementException") (by decide +kernel)⟩) rfl (by decide) (hts _ mL_message_2) (va_Nw.use rfl (hN.2.2.2.2.2.2.2.1 "java/lang/IllegalArgumentException" (List.mem_of_getElem? (i := 0) rfl))) h1 h2 h3 ?_
      refine W.eq (g2 := F0 m 17 ls [.ref q9]) rfl ?_
      refine W.tight (k := 1) (n := 6) (by rw [hH0]; exact hTQ.2.2.2) ?_
      have hR := hR.fr hT trivial hTQ.fr (by decide)
      have hT := hTQ.wt hT
      refine lv_astore (lv' := [(4, .ref q9), (0, .ref w), (1, .int x), (2, .int y), (3, .ref o)]) hx hb dL_message_17 hl (by decide) rfl (fun ls hl => ?_)
      refine lv_iconst (v := 2) hx hb dL_message_19 (by decide) ?_
      refine W.know (fun hg => ?_)
      rw [hH0] at hg
      exact en_i hx hb hr hlocks hL rfl (show 1 ≤ ((336 * sumN C 16 + 145000 - PotN LN) / 35) by omega) (show 6 ≤ (336 * sumN C 16 + 145000 - PotN LN) by omega) dL_message_20 (⟨κ, KZ.rf, hT, hrd0, rfl, C, LN, 1, 6, Nat.le_add_right _ _, hR, hg, by decide, by omega⟩)
  · have htr9 : True := trivial
    obtain ⟨r5964, rfl, hqr5964⟩ := hqr5964
    refine W.eq (g2 := F0 m 8 ls [.int r5964, .int 0, .ref o]) rfl ?_
    obtain ⟨κr5964, hxr5964, hT1, hqr5964⟩ := hqr5964
    have hxfr5964 := hxr5964.1
    have hT := hT1
    have hKF : KF κ κr5964 := hxfr5964
    have hKW : KW κ κr5964 := hxr5964
    have hw := (KF.t2 hxfr5964 hw (by decide))
    have ho := (KF.t2 hxfr5964 ho (by decide))
    obtain ⟨C5965, L5966, k5967, n5968, h5969, r5970, g5971⟩ := hqr5964
    have hR := r5970
    have hCs := h5969
    obtain ⟨k5972, n5973, hGP, hgk, hgn⟩ : ∃ k9 n9, Gr H0 _ k9 n9 ∧ 35 * k9 ≤ n9 ∧ n9 + PotN LN ≤ PotN L5966 := ⟨_, _, g5971.1, g5971.2.1, g5971.2.2⟩
    have hp0 := hR0.pot
    have hp1 := hR.pot
    refine W.tight (k := k5972) (n := n5973) (by rw [hH0]; exact hGP) ?_
    refine lv_i2l hx hb dL_message_8 rfl ?_
    refine gn_l (fun y5974 => ?_)
    obtain ⟨hb5975, e5975, hat5975, hk5975⟩ := hT.o29 ho.1
    obtain ⟨g5975, rfl⟩ := hk5975
    have hP : va_P D vwCl [(o, .inl (cs 3, 1, .inr (.inl g5975)))] _ := va_P.cons hat5975 va_P.nil
    have hB : Bx B0 D _ [(o, .inl (cs 3, 1, .inr (.inl g5975)))] [] _ _ := Bx.of (fun a => (κr5964 a).1) hL hP (fa_c hb5975 fa_n) (by simp only [List.map_cons, List.map_nil, ho.1]; decide)
    refine b_l hx hb hN hB 0 rfl (vp_in_nI (n := 0) (N := 1) (by omega) (by omega)) (.inl rfl) dL_message_9 (fun H locs hB => ?_)
    rw [(show (0 : Int32).toNatClampNeg = 0 from nI_clamp (n := 0) (by omega))] at hB
    have hB : Bx B0 D _ [(o, .inl (cs 3, 1, .inr (.inl (vp_updL g5975 0 y5974))))] [o] _ _ := hB
    generalize (vp_updL g5975 0 y5974) = g5976 at hB
    refine lv_goto (tgt := 21) hx hb dL_message_10 (by decide) ?_
    refine lv_iconst (v := 0) hx hb dL_message_21 (by decide) ?_
    have hR := hR.fr hT trivial (Fr.close (S := [13]) Fr.rf hB (fa_c (by simp [ho.2]) fa_n)) (by decide)
    have hT : WT B0 D cs T κr5964 _ := hT.close hB ⟨⟨0, _, rfl, ok_29 ho.1 ⟨_, rfl⟩⟩, trivial⟩
    have hL : OkL B0 _ := hB.2.2.2.2.2
    have hP : va_P D vwCl [(o, .inl (cs 3, 1, .inr (.inl g5976)))] _ := hB.1
    refine W.know (fun hg => ?_)
    rw [hH0] at hg
    exact en_i hx hb hr hlocks hL rfl (show k5972 ≤ ((336 * sumN C 16 + 145000 - PotN LN) / 35) by omega) (show n5973 ≤ (336 * sumN C 16 + 145000 - PotN LN) by omega) dL_message_22 (⟨_, hKW.z, hT, hKW.1.t2 hrd0 (by decide), by rw [hKW.2 _ (by rw [hrd0.1]; decide) (by rw [hrd0.2]; decide)], _, _, _, _, hCs, hR, hg, by omega, by omega⟩)
theorem hdX8_proposal_v : yX8_proposal.cls = RX8 ∧ yX8_proposal.cls ≠ "java/lang/invoke/MethodHandle" ∧ yX8_proposal.cls ≠ "java/lang/invoke/VarHandle" ∧ (parseMethodDescriptor yX8_proposal.desc).map (fun d => d.parameters.length) = some 1 := by decide +kernel
theorem mL_proposal_1 : (.classLink RL 30 "java/util/NoSuchElementException" : Cond) ∈ wsL_proposal := List.mem_of_getElem? (i := 1) (by decide +kernel)
theorem mL_proposal_2 : (.classLink RL 13 "java/lang/IllegalArgumentException" : Cond) ∈ wsL_proposal := List.mem_of_getElem? (i := 2) (by decide +kernel)
set_option maxHeartbeats 4000000 in
set_option maxRecDepth 100000 in
theorem c_L_proposal {l : Launch} (hlt : l.stackTraces = false) {D : va_G} {cs : Nat → ClassId} {B0 T : Nat} {κ : KM} {H0 : Heap} (hT : WT B0 D cs T κ H0) {w o : Nat} (hw : T2 κ w 9 13) (ho : T2 κ o 29 13) {C : Nat → Nat} {LN : Nat → Nat → Nat} (hR : RQ D cs κ H0 C LN er) (hC : sumN C 16 + 24 ≤ 12400) {x : Int32} : KC l yL_proposal wsL_proposal 8 143 ((336 * sumN C 16 + 145000 - PotN LN) / 35) (336 * sumN C 16 + 145000 - PotN LN) D cs B0 H0 [.ref w, .int x, .ref o] (Qi (fun _ H => ∃ κ1, KZ κ κ1 ∧ WT B0 D cs T κ1 H ∧ T2 κ1 (cs 450) 6 10 ∧ ((κ1 (cs 450)).2.2.1 = (κ (cs 450)).2.2.1) ∧ ∃ C1 LN1 k n, sumN C1 16 ≤ sumN C 16 + 24 ∧ RQ D cs κ1 H C1 LN1 er ∧ Gr H0 H k n ∧ 35 * k ≤ n + 35 ∧ n + PotN LN ≤ PotN LN1 + 714)) := by
  refine KC.ofH (hh := [(0, 9, 12, 30), (0, 9, 15, 13)]) cL_proposal 4 (some .int) (by decide) rfl (Nat.le_of_ble_eq_true rfl) ?_
  intro p e s m below meth c ls hx hb hr hml hown hts hlocks htab hN hE hH0 hl
  have hown : s.vm.findClass RL = some m.cls := hown
  have hl : lv_has ls 4 [(0, .ref w), (1, .int x), (2, .ref o)] := hl
  have hL : OkL B0 [] := OkL.nil
  have hGN : 35 * 0 ≤ 0 ∧ 0 + PotN LN ≤ PotN LN := ⟨Nat.le_refl _, by omega⟩
  have hs0 := hR.pot
  have hrd0 := hT.rd hw
  have hR0 := hR
  refine lv_aload_n hx hb dL_proposal_0 rfl (lv_at hl 2 rfl) ?_
  refine lv_iconst (v := 0) hx hb dL_proposal_1 (by decide) ?_
  refine lv_aload_n hx hb dL_proposal_2 rfl (lv_at hl 0 rfl) ?_
  refine lv_iload_n hx hb dL_proposal_3 rfl (lv_at hl 1 rfl) ?_
  refine ct_V (As := [.int x]) (rest := [.int 0, .ref o]) (b := w) ⟨hx, hb, hml, hown, hts⟩ (c_X8_proposal hlt hT (w := w) hw (x := x) hR) (cwV 1 hts gL_proposal_X8_proposal rfl rfl rfl hdX8_proposal_v ⟨Nat.le_of_ble_eq_true rfl, Nat.le_of_ble_eq_true rfl⟩) hN hE hL (rcv9 hN hT hw.1) rfl rfl hl.1 (Nat.le_of_ble_eq_true rfl) dL_proposal_4 (show 0 + ((336 * sumN C 16 + 137000 - PotN LN) / 35) ≤ ((336 * sumN C 16 + 145000 - PotN LN) / 35) by omega) (show 0 + (336 * sumN C 16 + 137000 - PotN LN) ≤ (336 * sumN C 16 + 145000 - PotN LN) by omega) (fun E9 q9 ce9 H1 locs hL hq h1 h2 h3 => ?_) (fun v9 H1 locs hL hqr5977 => ?_)
  · have hTQ := hq
    rcases (by simpa using hTQ.1 : E9 = "java/util/NoSuchElementException" ∨ E9 = "java/lang/IllegalArgumentException") with rfl | rfl
    · refine vx_catch hown [] ⟨0, 9, 12, 30⟩ [⟨0, 9, 15, 13⟩] htab (fun z h => nomatch h) rfl (by decide) (hts _ mL_proposal_1) (va_Nw.use rfl (hN.2.2.2.2.2.2.2.1 "java/util/NoSuchElementException" (List.mem_of_getElem? (i := 3) rfl))) h1 h2 h3 ?_
      refine W.eq (g2 := F0 m 12 ls [.ref q9]) rfl ?_
      refine W.tight (k := 1) (n := 6) (by rw [hH0]; exact hTQ.2.2.2) ?_
      have hR := hR.fr hT trivial hTQ.fr (by decide)
      have hT := hTQ.wt hT
      refine lv_astore_n (lv' := [(3, .ref q9), (0, .ref w), (1, .int x), (2, .ref o)]) hx hb dL_proposal_12 rfl hl (by decide) rfl (fun ls hl => ?_)
      refine lv_iconst (v := 1) hx hb dL_proposal_13 (by decide) ?_
      refine W.know (fun hg => ?_)
      rw [hH0] at hg
      exact en_i hx hb hr hlocks hL rfl (show 1 ≤ ((336 * sumN C 16 + 145000 - PotN LN) / 35) by omega) (show 6 ≤ (336 * sumN C 16 + 145000 - PotN LN) by omega) dL_proposal_14 (⟨κ, KZ.rf, hT, hrd0, rfl, C, LN, 1, 6, Nat.le_add_right _ _, hR, hg, by decide, by omega⟩)
    · refine vx_catch hown [⟨0, 9, 12, 30⟩] ⟨0, 9, 15, 13⟩ [] htab (fun z h => by rw [List.mem_singleton.mp h]; exact Or.inr ⟨by decide, "java/util/NoSuchElementException", hts _ mL_proposal_1, hN.2.2.2.2.2.2.2.2.1 ("java/lang/IllegalArgumentException", "java/util/NoSuchElementException") (by decide +kernel)⟩) rfl (by decide) (hts _ mL_proposal_2) (va_Nw.use rfl (hN.2.2.2.2.2.2.2.1 "java/lang/IllegalArgumentException" (List.mem_of_getElem? (i := 0) rfl))) h1 h2 h3 ?_
      refine W.eq (g2 := F0 m 15 ls [.ref q9]) rfl ?_
      refine W.tight (k := 1) (n := 6) (by rw [hH0]; exact hTQ.2.2.2) ?_
      have hR := hR.fr hT trivial hTQ.fr (by decide)
      have hT := hTQ.wt hT
      refine lv_astore_n (lv' := [(3, .ref q9), (0, .ref w), (1, .int x), (2, .ref o)]) hx hb dL_proposal_15 rfl hl (by decide) rfl (fun ls hl => ?_)
      refine lv_iconst (v := 2) hx hb dL_proposal_16 (by decide) ?_
      refine W.know (fun hg => ?_)
      rw [hH0] at hg
      exact en_i hx hb hr hlocks hL rfl (show 1 ≤ ((336 * sumN C 16 + 145000 - PotN LN) / 35) by omega) (show 6 ≤ (336 * sumN C 16 + 145000 - PotN LN) by omega) dL_proposal_17 (⟨κ, KZ.rf, hT, hrd0, rfl, C, LN, 1, 6, Nat.le_add_right _ _, hR, hg, by decide, by omega⟩)
  · have htr9 : True := trivial
    obtain ⟨r5977, rfl, hqr5977⟩ := hqr5977
    refine W.eq (g2 := F0 m 7 ls [.int r5977, .int 0, .ref o]) rfl ?_
    obtain ⟨κr5977, hxr5977, hT1, hqr5977⟩ := hqr5977
    have hxfr5977 := hxr5977.1
    have hT := hT1
    have hKF : KF κ κr5977 := hxfr5977
    have hKW : KW κ κr5977 := hxr5977
    have hw := (KF.t2 hxfr5977 hw (by decide))
    have ho := (KF.t2 hxfr5977 ho (by decide))
    obtain ⟨C5978, L5979, k5980, n5981, h5982, r5983, g5984⟩ := hqr5977
    have hR := r5983
    have hCs := h5982
    obtain ⟨k5985, n5986, hGP, hgk, hgn⟩ : ∃ k9 n9, Gr H0 _ k9 n9 ∧ 35 * k9 ≤ n9 ∧ n9 + PotN LN ≤ PotN L5979 := ⟨_, _, g5984.1, g5984.2.1, g5984.2.2⟩
    have hp0 := hR0.pot
    have hp1 := hR.pot
    refine W.tight (k := k5985) (n := n5986) (by rw [hH0]; exact hGP) ?_
    refine lv_i2l hx hb dL_proposal_7 rfl ?_
    refine gn_l (fun y5987 => ?_)
    obtain ⟨hb5988, e5988, hat5988, hk5988⟩ := hT.o29 ho.1
    obtain ⟨g5988, rfl⟩ := hk5988
    have hP : va_P D vwCl [(o, .inl (cs 3, 1, .inr (.inl g5988)))] _ := va_P.cons hat5988 va_P.nil
    have hB : Bx B0 D _ [(o, .inl (cs 3, 1, .inr (.inl g5988)))] [] _ _ := Bx.of (fun a => (κr5977 a).1) hL hP (fa_c hb5988 fa_n) (by simp only [List.map_cons, List.map_nil, ho.1]; decide)
    refine b_l hx hb hN hB 0 rfl (vp_in_nI (n := 0) (N := 1) (by omega) (by omega)) (.inl rfl) dL_proposal_8 (fun H locs hB => ?_)
    rw [(show (0 : Int32).toNatClampNeg = 0 from nI_clamp (n := 0) (by omega))] at hB
    have hB : Bx B0 D _ [(o, .inl (cs 3, 1, .inr (.inl (vp_updL g5988 0 y5987))))] [o] _ _ := hB
    generalize (vp_updL g5988 0 y5987) = g5989 at hB
    refine lv_goto (tgt := 18) hx hb dL_proposal_9 (by decide) ?_
    refine lv_iconst (v := 0) hx hb dL_proposal_18 (by decide) ?_
    have hR := hR.fr hT trivial (Fr.close (S := [13]) Fr.rf hB (fa_c (by simp [ho.2]) fa_n)) (by decide)
    have hT : WT B0 D cs T κr5977 _ := hT.close hB ⟨⟨0, _, rfl, ok_29 ho.1 ⟨_, rfl⟩⟩, trivial⟩
    have hL : OkL B0 _ := hB.2.2.2.2.2
    have hP : va_P D vwCl [(o, .inl (cs 3, 1, .inr (.inl g5989)))] _ := hB.1
    refine W.know (fun hg => ?_)
    rw [hH0] at hg
    exact en_i hx hb hr hlocks hL rfl (show k5985 ≤ ((336 * sumN C 16 + 145000 - PotN LN) / 35) by omega) (show n5986 ≤ (336 * sumN C 16 + 145000 - PotN LN) by omega) dL_proposal_19 (⟨_, hKW.z, hT, hKW.1.t2 hrd0 (by decide), by rw [hKW.2 _ (by rw [hrd0.1]; decide) (by rw [hrd0.2]; decide)], _, _, _, _, hCs, hR, hg, by omega, by omega⟩)
theorem hdX8_foretold_v : yX8_foretold.cls = RX8 ∧ yX8_foretold.cls ≠ "java/lang/invoke/MethodHandle" ∧ yX8_foretold.cls ≠ "java/lang/invoke/VarHandle" ∧ (parseMethodDescriptor yX8_foretold.desc).map (fun d => d.parameters.length) = some 1 := by decide +kernel
theorem mL_foretold_1 : (.classLink RL 13 "java/lang/IllegalArgumentException" : Cond) ∈ wsL_foretold := List.mem_of_getElem? (i := 1) (by decide +kernel)
set_option maxHeartbeats 4000000 in
set_option maxRecDepth 100000 in
theorem c_L_foretold {l : Launch} (hlt : l.stackTraces = false) {D : va_G} {cs : Nat → ClassId} {B0 T : Nat} {κ : KM} {H0 : Heap} (hT : WT B0 D cs T κ H0) {w o : Nat} (hw : T2 κ w 9 13) (ho : T2 κ o 29 13) {C : Nat → Nat} {LN : Nat → Nat → Nat} (hR : RQ D cs κ H0 C LN er) (hC : sumN C 16 + 24 ≤ 12400) {x : Int32} : KC l yL_foretold wsL_foretold 8 223 ((336 * sumN C 16 + 145000 - PotN LN) / 35) (336 * sumN C 16 + 145000 - PotN LN) D cs B0 H0 [.ref w, .int x, .ref o] (Qi (fun _ H => ∃ κ1, KZ κ κ1 ∧ WT B0 D cs T κ1 H ∧ T2 κ1 (cs 450) 6 10 ∧ ((κ1 (cs 450)).2.2.1 = (κ (cs 450)).2.2.1) ∧ ∃ C1 LN1 k n, sumN C1 16 ≤ sumN C 16 + 24 ∧ RQ D cs κ1 H C1 LN1 er ∧ Gr H0 H k n ∧ 35 * k ≤ n + 35 ∧ n + PotN LN ≤ PotN LN1 + 714)) := by
  refine KC.ofH (hh := [(0, 9, 12, 13)]) cL_foretold 4 (some .int) (by decide) rfl (Nat.le_of_ble_eq_true rfl) ?_
  intro p e s m below meth c ls hx hb hr hml hown hts hlocks htab hN hE hH0 hl
  have hown : s.vm.findClass RL = some m.cls := hown
  have hl : lv_has ls 4 [(0, .ref w), (1, .int x), (2, .ref o)] := hl
  have hL : OkL B0 [] := OkL.nil
  have hGN : 35 * 0 ≤ 0 ∧ 0 + PotN LN ≤ PotN LN := ⟨Nat.le_refl _, by omega⟩
  have hs0 := hR.pot
  have hrd0 := hT.rd hw
  have hR0 := hR
  refine lv_aload_n hx hb dL_foretold_0 rfl (lv_at hl 2 rfl) ?_
  refine lv_iconst (v := 0) hx hb dL_foretold_1 (by decide) ?_
  refine lv_aload_n hx hb dL_foretold_2 rfl (lv_at hl 0 rfl) ?_
  refine lv_iload_n hx hb dL_foretold_3 rfl (lv_at hl 1 rfl) ?_
  refine ct_V (As := [.int x]) (rest := [.int 0, .ref o]) (b := w) ⟨hx, hb, hml, hown, hts⟩ (c_X8_foretold hlt hT (w := w) hw (x := x) hR (by first | omega | decide | assumption)) (cwV 1 hts gL_foretold_X8_foretold rfl rfl rfl hdX8_foretold_v ⟨Nat.le_of_ble_eq_true rfl, Nat.le_of_ble_eq_true rfl⟩) hN hE hL (rcv9 hN hT hw.1) rfl rfl hl.1 (Nat.le_of_ble_eq_true rfl) dL_foretold_4 (show 0 + ((336 * sumN C 16 + 137000 - PotN LN) / 35) ≤ ((336 * sumN C 16 + 145000 - PotN LN) / 35) by omega) (show 0 + (336 * sumN C 16 + 137000 - PotN LN) ≤ (336 * sumN C 16 + 145000 - PotN LN) by omega) (fun E9 q9 ce9 H1 locs hL hq h1 h2 h3 => ?_) (fun v9 H1 locs hL hqr5990 => ?_)
  · have hTQ := hq
    obtain rfl : E9 = "java/lang/IllegalArgumentException" := by simpa using hTQ.1
    refine vx_catch hown [] ⟨0, 9, 12, 13⟩ [] htab (fun z h => nomatch h) rfl (by decide) (hts _ mL_foretold_1) (va_Nw.use rfl (hN.2.2.2.2.2.2.2.1 "java/lang/IllegalArgumentException" (List.mem_of_getElem? (i := 0) rfl))) h1 h2 h3 ?_
    refine W.eq (g2 := F0 m 12 ls [.ref q9]) rfl ?_
    refine W.tight (k := 1) (n := 6) (by rw [hH0]; exact hTQ.2.2.2) ?_
    have hR := hR.fr hT trivial hTQ.fr (by decide)
    have hT := hTQ.wt hT
    refine lv_astore_n (lv' := [(3, .ref q9), (0, .ref w), (1, .int x), (2, .ref o)]) hx hb dL_foretold_12 rfl hl (by decide) rfl (fun ls hl => ?_)
    refine lv_iconst (v := 1) hx hb dL_foretold_13 (by decide) ?_
    refine W.know (fun hg => ?_)
    rw [hH0] at hg
    exact en_i hx hb hr hlocks hL rfl (show 1 ≤ ((336 * sumN C 16 + 145000 - PotN LN) / 35) by omega) (show 6 ≤ (336 * sumN C 16 + 145000 - PotN LN) by omega) dL_foretold_14 (⟨κ, KZ.rf, hT, hrd0, rfl, C, LN, 1, 6, Nat.le_add_right _ _, hR, hg, by decide, by omega⟩)
  · have htr9 : True := trivial
    obtain ⟨r5990, rfl, hqr5990⟩ := hqr5990
    refine W.eq (g2 := F0 m 7 ls [.int r5990, .int 0, .ref o]) rfl ?_
    obtain ⟨κr5990, hxr5990, hT1, hqr5990⟩ := hqr5990
    have hxfr5990 := hxr5990.1
    have hT := hT1
    have hKF : KF κ κr5990 := hxfr5990
    have hKW : KW κ κr5990 := hxr5990
    have hw := (KF.t2 hxfr5990 hw (by decide))
    have ho := (KF.t2 hxfr5990 ho (by decide))
    obtain ⟨C5991, L5992, k5993, n5994, h5995, r5996, g5997⟩ := hqr5990
    have hR := r5996
    have hCs := h5995
    obtain ⟨k5998, n5999, hGP, hgk, hgn⟩ : ∃ k9 n9, Gr H0 _ k9 n9 ∧ 35 * k9 ≤ n9 ∧ n9 + PotN LN ≤ PotN L5992 := ⟨_, _, g5997.1, g5997.2.1, g5997.2.2⟩
    have hp0 := hR0.pot
    have hp1 := hR.pot
    refine W.tight (k := k5998) (n := n5999) (by rw [hH0]; exact hGP) ?_
    refine lv_i2l hx hb dL_foretold_7 rfl ?_
    refine gn_l (fun y6000 => ?_)
    obtain ⟨hb6001, e6001, hat6001, hk6001⟩ := hT.o29 ho.1
    obtain ⟨g6001, rfl⟩ := hk6001
    have hP : va_P D vwCl [(o, .inl (cs 3, 1, .inr (.inl g6001)))] _ := va_P.cons hat6001 va_P.nil
    have hB : Bx B0 D _ [(o, .inl (cs 3, 1, .inr (.inl g6001)))] [] _ _ := Bx.of (fun a => (κr5990 a).1) hL hP (fa_c hb6001 fa_n) (by simp only [List.map_cons, List.map_nil, ho.1]; decide)
    refine b_l hx hb hN hB 0 rfl (vp_in_nI (n := 0) (N := 1) (by omega) (by omega)) (.inl rfl) dL_foretold_8 (fun H locs hB => ?_)
    rw [(show (0 : Int32).toNatClampNeg = 0 from nI_clamp (n := 0) (by omega))] at hB
    have hB : Bx B0 D _ [(o, .inl (cs 3, 1, .inr (.inl (vp_updL g6001 0 y6000))))] [o] _ _ := hB
    generalize (vp_updL g6001 0 y6000) = g6002 at hB
    refine lv_goto (tgt := 15) hx hb dL_foretold_9 (by decide) ?_
    refine lv_iconst (v := 0) hx hb dL_foretold_15 (by decide) ?_
    have hR := hR.fr hT trivial (Fr.close (S := [13]) Fr.rf hB (fa_c (by simp [ho.2]) fa_n)) (by decide)
    have hT : WT B0 D cs T κr5990 _ := hT.close hB ⟨⟨0, _, rfl, ok_29 ho.1 ⟨_, rfl⟩⟩, trivial⟩
    have hL : OkL B0 _ := hB.2.2.2.2.2
    have hP : va_P D vwCl [(o, .inl (cs 3, 1, .inr (.inl g6002)))] _ := hB.1
    refine W.know (fun hg => ?_)
    rw [hH0] at hg
    exact en_i hx hb hr hlocks hL rfl (show k5998 ≤ ((336 * sumN C 16 + 145000 - PotN LN) / 35) by omega) (show n5999 ≤ (336 * sumN C 16 + 145000 - PotN LN) by omega) dL_foretold_16 (⟨_, hKW.z, hT, hKW.1.t2 hrd0 (by decide), by rw [hKW.2 _ (by rw [hrd0.1]; decide) (by rw [hrd0.2]; decide)], _, _, _, _, hCs, hR, hg, by omega, by omega⟩)
theorem hdX8_propose_v : yX8_propose.cls = RX8 ∧ yX8_propose.cls ≠ "java/lang/invoke/MethodHandle" ∧ yX8_propose.cls ≠ "java/lang/invoke/VarHandle" ∧ (parseMethodDescriptor yX8_propose.desc).map (fun d => d.parameters.length) = some 1 := by decide +kernel
theorem mL_propose_1 : (.classLink RL 13 "java/lang/IllegalArgumentException" : Cond) ∈ wsL_propose := List.mem_of_getElem? (i := 1) (by decide +kernel)
theorem mL_propose_2 : (.classLink RL 41 "java/lang/IllegalStateException" : Cond) ∈ wsL_propose := List.mem_of_getElem? (i := 2) (by decide +kernel)
set_option maxHeartbeats 4000000 in
set_option maxRecDepth 100000 in
theorem c_L_propose {l : Launch} (hlt : l.stackTraces = false) {D : va_G} {cs : Nat → ClassId} {B0 T : Nat} {κ : KM} {H0 : Heap} (hT : WT B0 D cs T κ H0) {w o : Nat} (hw : T2 κ w 9 13) (ho : T2 κ o 29 13) {C : Nat → Nat} {LN : Nat → Nat → Nat} (hR : RQ D cs κ H0 C LN er) (hC : sumN C 16 + 24 ≤ 12400) {x : Int32} : KC l yL_propose wsL_propose 7 198 ((336 * sumN C 16 + 145000 - PotN LN) / 35) (336 * sumN C 16 + 145000 - PotN LN) D cs B0 H0 [.ref w, .int x, .ref o] (Qi (fun _ H => ∃ κ1, KZ κ κ1 ∧ WT B0 D cs T κ1 H ∧ T2 κ1 (cs 450) 6 10 ∧ ((κ1 (cs 450)).2.2.1 = (κ (cs 450)).2.2.1) ∧ ∃ C1 LN1 k n, sumN C1 16 ≤ sumN C 16 + 24 ∧ RQ D cs κ1 H C1 LN1 er ∧ Gr H0 H k n ∧ 35 * k ≤ n + 35 ∧ n + PotN LN ≤ PotN LN1 + 714)) := by
  refine KC.ofH (hh := [(0, 9, 12, 13), (0, 9, 15, 41)]) cL_propose 4 (some .int) (by decide) rfl (Nat.le_of_ble_eq_true rfl) ?_
  intro p e s m below meth c ls hx hb hr hml hown hts hlocks htab hN hE hH0 hl
  have hown : s.vm.findClass RL = some m.cls := hown
  have hl : lv_has ls 4 [(0, .ref w), (1, .int x), (2, .ref o)] := hl
  have hL : OkL B0 [] := OkL.nil
  have hGN : 35 * 0 ≤ 0 ∧ 0 + PotN LN ≤ PotN LN := ⟨Nat.le_refl _, by omega⟩
  have hs0 := hR.pot
  have hrd0 := hT.rd hw
  have hR0 := hR
  refine lv_aload_n hx hb dL_propose_0 rfl (lv_at hl 2 rfl) ?_
  refine lv_iconst (v := 0) hx hb dL_propose_1 (by decide) ?_
  refine lv_aload_n hx hb dL_propose_2 rfl (lv_at hl 0 rfl) ?_
  refine lv_iload_n hx hb dL_propose_3 rfl (lv_at hl 1 rfl) ?_
  refine ct_V (As := [.int x]) (rest := [.int 0, .ref o]) (b := w) ⟨hx, hb, hml, hown, hts⟩ (c_X8_propose hlt hT (w := w) hw (x := x) hR (by first | omega | decide | assumption)) (cwV 1 hts gL_propose_X8_propose rfl rfl rfl hdX8_propose_v ⟨Nat.le_of_ble_eq_true rfl, Nat.le_of_ble_eq_true rfl⟩) hN hE hL (rcv9 hN hT hw.1) rfl rfl hl.1 (Nat.le_of_ble_eq_true rfl) dL_propose_4 (show 0 + ((336 * sumN C 16 + 137000 - PotN LN) / 35) ≤ ((336 * sumN C 16 + 145000 - PotN LN) / 35) by omega) (show 0 + (336 * sumN C 16 + 137000 - PotN LN) ≤ (336 * sumN C 16 + 145000 - PotN LN) by omega) (fun E9 q9 ce9 H1 locs hL hq h1 h2 h3 => ?_) (fun v9 H1 locs hL hqr6003 => ?_)
  · have hTQ := hq
    rcases (by simpa using hTQ.1 : E9 = "java/lang/IllegalArgumentException" ∨ E9 = "java/lang/IllegalStateException") with rfl | rfl
    · refine vx_catch hown [] ⟨0, 9, 12, 13⟩ [⟨0, 9, 15, 41⟩] htab (fun z h => nomatch h) rfl (by decide) (hts _ mL_propose_1) (va_Nw.use rfl (hN.2.2.2.2.2.2.2.1 "java/lang/IllegalArgumentException" (List.mem_of_getElem? (i := 0) rfl))) h1 h2 h3 ?_
      refine W.eq (g2 := F0 m 12 ls [.ref q9]) rfl ?_
      refine W.tight (k := 1) (n := 6) (by rw [hH0]; exact hTQ.2.2.2) ?_
      have hR := hR.fr hT trivial hTQ.fr (by decide)
      have hT := hTQ.wt hT
      refine lv_astore_n (lv' := [(3, .ref q9), (0, .ref w), (1, .int x), (2, .ref o)]) hx hb dL_propose_12 rfl hl (by decide) rfl (fun ls hl => ?_)
      refine lv_iconst (v := 1) hx hb dL_propose_13 (by decide) ?_
      refine W.know (fun hg => ?_)
      rw [hH0] at hg
      exact en_i hx hb hr hlocks hL rfl (show 1 ≤ ((336 * sumN C 16 + 145000 - PotN LN) / 35) by omega) (show 6 ≤ (336 * sumN C 16 + 145000 - PotN LN) by omega) dL_propose_14 (⟨κ, KZ.rf, hT, hrd0, rfl, C, LN, 1, 6, Nat.le_add_right _ _, hR, hg, by decide, by omega⟩)
    · refine vx_catch hown [⟨0, 9, 12, 13⟩] ⟨0, 9, 15, 41⟩ [] htab (fun z h => by rw [List.mem_singleton.mp h]; exact Or.inr ⟨by decide, "java/lang/IllegalArgumentException", hts _ mL_propose_1, hN.2.2.2.2.2.2.2.2.1 ("java/lang/IllegalStateException", "java/lang/IllegalArgumentException") (by decide +kernel)⟩) rfl (by decide) (hts _ mL_propose_2) (va_Nw.use rfl (hN.2.2.2.2.2.2.2.1 "java/lang/IllegalStateException" (List.mem_of_getElem? (i := 1) rfl))) h1 h2 h3 ?_
      refine W.eq (g2 := F0 m 15 ls [.ref q9]) rfl ?_
      refine W.tight (k := 1) (n := 6) (by rw [hH0]; exact hTQ.2.2.2) ?_
      have hR := hR.fr hT trivial hTQ.fr (by decide)
      have hT := hTQ.wt hT
      refine lv_astore_n (lv' := [(3, .ref q9), (0, .ref w), (1, .int x), (2, .ref o)]) hx hb dL_propose_15 rfl hl (by decide) rfl (fun ls hl => ?_)
      refine lv_iconst (v := 2) hx hb dL_propose_16 (by decide) ?_
      refine W.know (fun hg => ?_)
      rw [hH0] at hg
      exact en_i hx hb hr hlocks hL rfl (show 1 ≤ ((336 * sumN C 16 + 145000 - PotN LN) / 35) by omega) (show 6 ≤ (336 * sumN C 16 + 145000 - PotN LN) by omega) dL_propose_17 (⟨κ, KZ.rf, hT, hrd0, rfl, C, LN, 1, 6, Nat.le_add_right _ _, hR, hg, by decide, by omega⟩)
  · have htr9 : True := trivial
    obtain ⟨r6003, rfl, hqr6003⟩ := hqr6003
    refine W.eq (g2 := F0 m 7 ls [.int r6003, .int 0, .ref o]) rfl ?_
    obtain ⟨κr6003, hxr6003, hT1, hqr6003⟩ := hqr6003
    have hxfr6003 := hxr6003.1
    have hT := hT1
    have hKF : KF κ κr6003 := hxfr6003
    have hKW : KW κ κr6003 := hxr6003
    have hw := (KF.t2 hxfr6003 hw (by decide))
    have ho := (KF.t2 hxfr6003 ho (by decide))
    obtain ⟨C6004, L6005, k6006, n6007, h6008, r6009, g6010⟩ := hqr6003
    have hR := r6009
    have hCs := h6008
    obtain ⟨k6011, n6012, hGP, hgk, hgn⟩ : ∃ k9 n9, Gr H0 _ k9 n9 ∧ 35 * k9 ≤ n9 ∧ n9 + PotN LN ≤ PotN L6005 := ⟨_, _, g6010.1, g6010.2.1, g6010.2.2⟩
    have hp0 := hR0.pot
    have hp1 := hR.pot
    refine W.tight (k := k6011) (n := n6012) (by rw [hH0]; exact hGP) ?_
    refine lv_i2l hx hb dL_propose_7 rfl ?_
    refine gn_l (fun y6013 => ?_)
    obtain ⟨hb6014, e6014, hat6014, hk6014⟩ := hT.o29 ho.1
    obtain ⟨g6014, rfl⟩ := hk6014
    have hP : va_P D vwCl [(o, .inl (cs 3, 1, .inr (.inl g6014)))] _ := va_P.cons hat6014 va_P.nil
    have hB : Bx B0 D _ [(o, .inl (cs 3, 1, .inr (.inl g6014)))] [] _ _ := Bx.of (fun a => (κr6003 a).1) hL hP (fa_c hb6014 fa_n) (by simp only [List.map_cons, List.map_nil, ho.1]; decide)
    refine b_l hx hb hN hB 0 rfl (vp_in_nI (n := 0) (N := 1) (by omega) (by omega)) (.inl rfl) dL_propose_8 (fun H locs hB => ?_)
    rw [(show (0 : Int32).toNatClampNeg = 0 from nI_clamp (n := 0) (by omega))] at hB
    have hB : Bx B0 D _ [(o, .inl (cs 3, 1, .inr (.inl (vp_updL g6014 0 y6013))))] [o] _ _ := hB
    generalize (vp_updL g6014 0 y6013) = g6015 at hB
    refine lv_goto (tgt := 18) hx hb dL_propose_9 (by decide) ?_
    refine lv_iconst (v := 0) hx hb dL_propose_18 (by decide) ?_
    have hR := hR.fr hT trivial (Fr.close (S := [13]) Fr.rf hB (fa_c (by simp [ho.2]) fa_n)) (by decide)
    have hT : WT B0 D cs T κr6003 _ := hT.close hB ⟨⟨0, _, rfl, ok_29 ho.1 ⟨_, rfl⟩⟩, trivial⟩
    have hL : OkL B0 _ := hB.2.2.2.2.2
    have hP : va_P D vwCl [(o, .inl (cs 3, 1, .inr (.inl g6015)))] _ := hB.1
    refine W.know (fun hg => ?_)
    rw [hH0] at hg
    exact en_i hx hb hr hlocks hL rfl (show k6011 ≤ ((336 * sumN C 16 + 145000 - PotN LN) / 35) by omega) (show n6012 ≤ (336 * sumN C 16 + 145000 - PotN LN) by omega) dL_propose_19 (⟨_, hKW.z, hT, hKW.1.t2 hrd0 (by decide), by rw [hKW.2 _ (by rw [hrd0.1]; decide) (by rw [hrd0.2]; decide)], _, _, _, _, hCs, hR, hg, by omega, by omega⟩)
theorem hdX8_ask_v : yX8_ask.cls = RX8 ∧ yX8_ask.cls ≠ "java/lang/invoke/MethodHandle" ∧ yX8_ask.cls ≠ "java/lang/invoke/VarHandle" ∧ (parseMethodDescriptor yX8_ask.desc).map (fun d => d.parameters.length) = some 1 := by decide +kernel
theorem mL_ask_1 : (.classLink RL 22 "java/lang/IndexOutOfBoundsException" : Cond) ∈ wsL_ask := List.mem_of_getElem? (i := 1) (by decide +kernel)
theorem mL_ask_2 : (.classLink RL 41 "java/lang/IllegalStateException" : Cond) ∈ wsL_ask := List.mem_of_getElem? (i := 2) (by decide +kernel)
set_option maxHeartbeats 4000000 in
set_option maxRecDepth 100000 in
theorem c_L_ask {l : Launch} (hlt : l.stackTraces = false) {D : va_G} {cs : Nat → ClassId} {B0 T : Nat} {κ : KM} {H0 : Heap} (hT : WT B0 D cs T κ H0) {w o : Nat} (hw : T2 κ w 9 13) (ho : T2 κ o 29 13) {C : Nat → Nat} {LN : Nat → Nat → Nat} (hR : RQ D cs κ H0 C LN er) (hC : sumN C 16 + 24 ≤ 12400) {x : Int32} : KC l yL_ask wsL_ask 8 155 ((336 * sumN C 16 + 145000 - PotN LN) / 35) (336 * sumN C 16 + 145000 - PotN LN) D cs B0 H0 [.ref w, .int x, .ref o] (Qi (fun _ H => ∃ κ1, KZ κ κ1 ∧ WT B0 D cs T κ1 H ∧ T2 κ1 (cs 450) 6 10 ∧ ((κ1 (cs 450)).2.2.1 = (κ (cs 450)).2.2.1) ∧ ∃ C1 LN1 k n, sumN C1 16 ≤ sumN C 16 + 24 ∧ RQ D cs κ1 H C1 LN1 er ∧ Gr H0 H k n ∧ 35 * k ≤ n + 35 ∧ n + PotN LN ≤ PotN LN1 + 714)) := by
  refine KC.ofH (hh := [(0, 16, 19, 22), (0, 16, 22, 41)]) cL_ask 4 (some .int) (by decide) rfl (Nat.le_of_ble_eq_true rfl) ?_
  intro p e s m below meth c ls hx hb hr hml hown hts hlocks htab hN hE hH0 hl
  have hown : s.vm.findClass RL = some m.cls := hown
  have hl : lv_has ls 4 [(0, .ref w), (1, .int x), (2, .ref o)] := hl
  have hL : OkL B0 [] := OkL.nil
  have hGN : 35 * 0 ≤ 0 ∧ 0 + PotN LN ≤ PotN LN := ⟨Nat.le_refl _, by omega⟩
  have hs0 := hR.pot
  have hrd0 := hT.rd hw
  have hR0 := hR
  refine lv_aload_n hx hb dL_ask_0 rfl (lv_at hl 2 rfl) ?_
  refine lv_iconst (v := 0) hx hb dL_ask_1 (by decide) ?_
  refine lv_aload_n hx hb dL_ask_2 rfl (lv_at hl 0 rfl) ?_
  refine lv_iload_n hx hb dL_ask_3 rfl (lv_at hl 1 rfl) ?_
  refine ct_V (As := [.int x]) (rest := [.int 0, .ref o]) (b := w) ⟨hx, hb, hml, hown, hts⟩ (c_X8_ask hlt hT (w := w) hw (x := x) hR (by first | omega | decide | assumption)) (cwV 1 hts gL_ask_X8_ask rfl rfl rfl hdX8_ask_v ⟨Nat.le_of_ble_eq_true rfl, Nat.le_of_ble_eq_true rfl⟩) hN hE hL (rcv9 hN hT hw.1) rfl rfl hl.1 (Nat.le_of_ble_eq_true rfl) dL_ask_4 (show 0 + ((336 * sumN C 16 + 137000 - PotN LN) / 35) ≤ ((336 * sumN C 16 + 145000 - PotN LN) / 35) by omega) (show 0 + (336 * sumN C 16 + 137000 - PotN LN) ≤ (336 * sumN C 16 + 145000 - PotN LN) by omega) (fun E9 q9 ce9 H1 locs hL hq h1 h2 h3 => ?_) (fun v9 H1 locs hL hqr6016 => ?_)
  · have hTQ := hq
    rcases (by simpa using hTQ.1 : E9 = "java/lang/IndexOutOfBoundsException" ∨ E9 = "java/lang/IllegalStateException") with rfl | rfl
    · refine vx_catch hown [] ⟨0, 16, 19, 22⟩ [⟨0, 16, 22, 41⟩] htab (fun z h => nomatch h) rfl (by decide) (hts _ mL_ask_1) (va_Nw.use rfl (hN.2.2.2.2.2.2.2.1 "java/lang/IndexOutOfBoundsException" (List.mem_of_getElem? (i := 2) rfl))) h1 h2 h3 ?_
      refine W.eq (g2 := F0 m 19 ls [.ref q9]) rfl ?_
      refine W.tight (k := 1) (n := 6) (by rw [hH0]; exact hTQ.2.2.2) ?_
      have hR := hR.fr hT trivial hTQ.fr (by decide)
      have hT := hTQ.wt hT
      refine lv_astore_n (lv' := [(3, .ref q9), (0, .ref w), (1, .int x), (2, .ref o)]) hx hb dL_ask_19 rfl hl (by decide) rfl (fun ls hl => ?_)
      refine lv_iconst (v := 1) hx hb dL_ask_20 (by decide) ?_
      refine W.know (fun hg => ?_)
      rw [hH0] at hg
      exact en_i hx hb hr hlocks hL rfl (show 1 ≤ ((336 * sumN C 16 + 145000 - PotN LN) / 35) by omega) (show 6 ≤ (336 * sumN C 16 + 145000 - PotN LN) by omega) dL_ask_21 (⟨κ, KZ.rf, hT, hrd0, rfl, C, LN, 1, 6, Nat.le_add_right _ _, hR, hg, by decide, by omega⟩)
    · refine vx_catch hown [⟨0, 16, 19, 22⟩] ⟨0, 16, 22, 41⟩ [] htab (fun z h => by rw [List.mem_singleton.mp h]; exact Or.inr ⟨by decide, "java/lang/IndexOutOfBoundsException", hts _ mL_ask_1, hN.2.2.2.2.2.2.2.2.1 ("java/lang/IllegalStateException", "java/lang/IndexOutOfBoundsException") (by decide +kernel)⟩) rfl (by decide) (hts _ mL_ask_2) (va_Nw.use rfl (hN.2.2.2.2.2.2.2.1 "java/lang/IllegalStateException" (List.mem_of_getElem? (i := 1) rfl))) h1 h2 h3 ?_
      refine W.eq (g2 := F0 m 22 ls [.ref q9]) rfl ?_
      refine W.tight (k := 1) (n := 6) (by rw [hH0]; exact hTQ.2.2.2) ?_
      have hR := hR.fr hT trivial hTQ.fr (by decide)
      have hT := hTQ.wt hT
      refine lv_astore_n (lv' := [(3, .ref q9), (0, .ref w), (1, .int x), (2, .ref o)]) hx hb dL_ask_22 rfl hl (by decide) rfl (fun ls hl => ?_)
      refine lv_iconst (v := 2) hx hb dL_ask_23 (by decide) ?_
      refine W.know (fun hg => ?_)
      rw [hH0] at hg
      exact en_i hx hb hr hlocks hL rfl (show 1 ≤ ((336 * sumN C 16 + 145000 - PotN LN) / 35) by omega) (show 6 ≤ (336 * sumN C 16 + 145000 - PotN LN) by omega) dL_ask_24 (⟨κ, KZ.rf, hT, hrd0, rfl, C, LN, 1, 6, Nat.le_add_right _ _, hR, hg, by decide, by omega⟩)
  · have htr9 : True := trivial
    obtain ⟨r6016, rfl, hqr6016⟩ := hqr6016
    refine W.eq (g2 := F0 m 7 ls [.int r6016, .int 0, .ref o]) rfl ?_
    obtain ⟨κr6016, hxr6016, hT1, hqr6016⟩ := hqr6016
    have hxfr6016 := hxr6016.1
    have hT := hT1
    have hKF : KF κ κr6016 := hxfr6016
    have hKW : KW κ κr6016 := hxr6016
    have hw := (KF.t2 hxfr6016 hw (by decide))
    have ho := (KF.t2 hxfr6016 ho (by decide))
    obtain ⟨C6017, L6018, k6019, n6020, h6021, r6022, g6023⟩ := hqr6016
    have hR := r6022
    have hCs := h6021
    obtain ⟨k6024, n6025, hGP, hgk, hgn⟩ : ∃ k9 n9, Gr H0 _ k9 n9 ∧ 35 * k9 ≤ n9 ∧ n9 + PotN LN ≤ PotN L6018 := ⟨_, _, g6023.1, g6023.2.1, g6023.2.2⟩
    have hp0 := hR0.pot
    have hp1 := hR.pot
    refine W.tight (k := k6024) (n := n6025) (by rw [hH0]; exact hGP) ?_
    refine lv_if_eq (tgt := 14) hx hb dL_ask_7 (by decide) (fun c6026 => ?_) (fun c6026 => ?_)
    · refine lv_lconst (v := 0) hx hb dL_ask_14 (by decide) ?_
      obtain ⟨hb6027, e6027, hat6027, hk6027⟩ := hT.o29 ho.1
      obtain ⟨g6027, rfl⟩ := hk6027
      have hP : va_P D vwCl [(o, .inl (cs 3, 1, .inr (.inl g6027)))] _ := va_P.cons hat6027 va_P.nil
      have hB : Bx B0 D _ [(o, .inl (cs 3, 1, .inr (.inl g6027)))] [] _ _ := Bx.of (fun a => (κr6016 a).1) hL hP (fa_c hb6027 fa_n) (by simp only [List.map_cons, List.map_nil, ho.1]; decide)
      refine b_l hx hb hN hB 0 rfl (vp_in_nI (n := 0) (N := 1) (by omega) (by omega)) (.inl rfl) dL_ask_15 (fun H locs hB => ?_)
      rw [(show (0 : Int32).toNatClampNeg = 0 from nI_clamp (n := 0) (by omega))] at hB
      have hB : Bx B0 D _ [(o, .inl (cs 3, 1, .inr (.inl (vp_updL g6027 0 0))))] [o] _ _ := hB
      generalize (vp_updL g6027 0 0) = g6028 at hB
      refine lv_goto (tgt := 25) hx hb dL_ask_16 (by decide) ?_
      refine lv_iconst (v := 0) hx hb dL_ask_25 (by decide) ?_
      have hR := hR.fr hT trivial (Fr.close (S := [13]) Fr.rf hB (fa_c (by simp [ho.2]) fa_n)) (by decide)
      have hT : WT B0 D cs T κr6016 _ := hT.close hB ⟨⟨0, _, rfl, ok_29 ho.1 ⟨_, rfl⟩⟩, trivial⟩
      have hL : OkL B0 _ := hB.2.2.2.2.2
      have hP : va_P D vwCl [(o, .inl (cs 3, 1, .inr (.inl g6028)))] _ := hB.1
      refine W.know (fun hg => ?_)
      rw [hH0] at hg
      exact en_i hx hb hr hlocks hL rfl (show k6024 ≤ ((336 * sumN C 16 + 145000 - PotN LN) / 35) by omega) (show n6025 ≤ (336 * sumN C 16 + 145000 - PotN LN) by omega) dL_ask_26 (⟨_, hKW.z, hT, hKW.1.t2 hrd0 (by decide), by rw [hKW.2 _ (by rw [hrd0.1]; decide) (by rw [hrd0.2]; decide)], _, _, _, _, hCs, hR, hg, by omega, by omega⟩)
    · refine lv_lconst (v := 1) hx hb dL_ask_10 (by decide) ?_
      refine lv_goto (tgt := 15) hx hb dL_ask_11 (by decide) ?_
      obtain ⟨hb6029, e6029, hat6029, hk6029⟩ := hT.o29 ho.1
      obtain ⟨g6029, rfl⟩ := hk6029
      have hP : va_P D vwCl [(o, .inl (cs 3, 1, .inr (.inl g6029)))] _ := va_P.cons hat6029 va_P.nil
      have hB : Bx B0 D _ [(o, .inl (cs 3, 1, .inr (.inl g6029)))] [] _ _ := Bx.of (fun a => (κr6016 a).1) hL hP (fa_c hb6029 fa_n) (by simp only [List.map_cons, List.map_nil, ho.1]; decide)
      refine b_l hx hb hN hB 0 rfl (vp_in_nI (n := 0) (N := 1) (by omega) (by omega)) (.inl rfl) dL_ask_15 (fun H locs hB => ?_)
      rw [(show (0 : Int32).toNatClampNeg = 0 from nI_clamp (n := 0) (by omega))] at hB
      have hB : Bx B0 D _ [(o, .inl (cs 3, 1, .inr (.inl (vp_updL g6029 0 1))))] [o] _ _ := hB
      generalize (vp_updL g6029 0 1) = g6030 at hB
      refine lv_goto (tgt := 25) hx hb dL_ask_16 (by decide) ?_
      refine lv_iconst (v := 0) hx hb dL_ask_25 (by decide) ?_
      have hR := hR.fr hT trivial (Fr.close (S := [13]) Fr.rf hB (fa_c (by simp [ho.2]) fa_n)) (by decide)
      have hT : WT B0 D cs T κr6016 _ := hT.close hB ⟨⟨0, _, rfl, ok_29 ho.1 ⟨_, rfl⟩⟩, trivial⟩
      have hL : OkL B0 _ := hB.2.2.2.2.2
      have hP : va_P D vwCl [(o, .inl (cs 3, 1, .inr (.inl g6030)))] _ := hB.1
      refine W.know (fun hg => ?_)
      rw [hH0] at hg
      exact en_i hx hb hr hlocks hL rfl (show k6024 ≤ ((336 * sumN C 16 + 145000 - PotN LN) / 35) by omega) (show n6025 ≤ (336 * sumN C 16 + 145000 - PotN LN) by omega) dL_ask_26 (⟨_, hKW.z, hT, hKW.1.t2 hrd0 (by decide), by rw [hKW.2 _ (by rw [hrd0.1]; decide) (by rw [hrd0.2]; decide)], _, _, _, _, hCs, hR, hg, by omega, by omega⟩)
theorem hdX8_pass_v : yX8_pass.cls = RX8 ∧ yX8_pass.cls ≠ "java/lang/invoke/MethodHandle" ∧ yX8_pass.cls ≠ "java/lang/invoke/VarHandle" ∧ (parseMethodDescriptor yX8_pass.desc).map (fun d => d.parameters.length) = some 1 := by decide +kernel
theorem mL_pass_1 : (.classLink RL 13 "java/lang/IllegalArgumentException" : Cond) ∈ wsL_pass := List.mem_of_getElem? (i := 1) (by decide +kernel)
set_option maxHeartbeats 4000000 in
set_option maxRecDepth 100000 in
theorem c_L_pass {l : Launch} (hlt : l.stackTraces = false) {D : va_G} {cs : Nat → ClassId} {B0 T : Nat} {κ : KM} {H0 : Heap} (hT : WT B0 D cs T κ H0) {w o : Nat} (hw : T2 κ w 9 13) (ho : T2 κ o 29 13) {C : Nat → Nat} {LN : Nat → Nat → Nat} (hR : RQ D cs κ H0 C LN er) (hC : sumN C 16 + 24 ≤ 12400) {x : Int32} : KC l yL_pass wsL_pass 7 201 ((336 * sumN C 16 + 145000 - PotN LN) / 35) (336 * sumN C 16 + 145000 - PotN LN) D cs B0 H0 [.ref w, .int x, .ref o] (Qi (fun _ H => ∃ κ1, KZ κ κ1 ∧ WT B0 D cs T κ1 H ∧ T2 κ1 (cs 450) 6 10 ∧ ((κ1 (cs 450)).2.2.1 = (κ (cs 450)).2.2.1) ∧ ∃ C1 LN1 k n, sumN C1 16 ≤ sumN C 16 + 24 ∧ RQ D cs κ1 H C1 LN1 er ∧ Gr H0 H k n ∧ 35 * k ≤ n + 35 ∧ n + PotN LN ≤ PotN LN1 + 714)) := by
  refine KC.ofH (hh := [(0, 9, 12, 13)]) cL_pass 4 (some .int) (by decide) rfl (Nat.le_of_ble_eq_true rfl) ?_
  intro p e s m below meth c ls hx hb hr hml hown hts hlocks htab hN hE hH0 hl
  have hown : s.vm.findClass RL = some m.cls := hown
  have hl : lv_has ls 4 [(0, .ref w), (1, .int x), (2, .ref o)] := hl
  have hL : OkL B0 [] := OkL.nil
  have hGN : 35 * 0 ≤ 0 ∧ 0 + PotN LN ≤ PotN LN := ⟨Nat.le_refl _, by omega⟩
  have hs0 := hR.pot
  have hrd0 := hT.rd hw
  have hR0 := hR
  refine lv_aload_n hx hb dL_pass_0 rfl (lv_at hl 2 rfl) ?_
  refine lv_iconst (v := 0) hx hb dL_pass_1 (by decide) ?_
  refine lv_aload_n hx hb dL_pass_2 rfl (lv_at hl 0 rfl) ?_
  refine lv_iload_n hx hb dL_pass_3 rfl (lv_at hl 1 rfl) ?_
  refine ct_V (As := [.int x]) (rest := [.int 0, .ref o]) (b := w) ⟨hx, hb, hml, hown, hts⟩ (c_X8_pass hlt hT (w := w) hw (x := x) hR (by first | omega | decide | assumption)) (cwV 1 hts gL_pass_X8_pass rfl rfl rfl hdX8_pass_v ⟨Nat.le_of_ble_eq_true rfl, Nat.le_of_ble_eq_true rfl⟩) hN hE hL (rcv9 hN hT hw.1) rfl rfl hl.1 (Nat.le_of_ble_eq_true rfl) dL_pass_4 (show 0 + ((336 * sumN C 16 + 137000 - PotN LN) / 35) ≤ ((336 * sumN C 16 + 145000 - PotN LN) / 35) by omega) (show 0 + (336 * sumN C 16 + 137000 - PotN LN) ≤ (336 * sumN C 16 + 145000 - PotN LN) by omega) (fun E9 q9 ce9 H1 locs hL hq h1 h2 h3 => ?_) (fun v9 H1 locs hL hqr6031 => ?_)
  · have hTQ := hq
    obtain rfl : E9 = "java/lang/IllegalArgumentException" := by simpa using hTQ.1
    refine vx_catch hown [] ⟨0, 9, 12, 13⟩ [] htab (fun z h => nomatch h) rfl (by decide) (hts _ mL_pass_1) (va_Nw.use rfl (hN.2.2.2.2.2.2.2.1 "java/lang/IllegalArgumentException" (List.mem_of_getElem? (i := 0) rfl))) h1 h2 h3 ?_
    refine W.eq (g2 := F0 m 12 ls [.ref q9]) rfl ?_
    refine W.tight (k := 1) (n := 6) (by rw [hH0]; exact hTQ.2.2.2) ?_
    have hR := hR.fr hT trivial hTQ.fr (by decide)
    have hT := hTQ.wt hT
    refine lv_astore_n (lv' := [(3, .ref q9), (0, .ref w), (1, .int x), (2, .ref o)]) hx hb dL_pass_12 rfl hl (by decide) rfl (fun ls hl => ?_)
    refine lv_iconst (v := 1) hx hb dL_pass_13 (by decide) ?_
    refine W.know (fun hg => ?_)
    rw [hH0] at hg
    exact en_i hx hb hr hlocks hL rfl (show 1 ≤ ((336 * sumN C 16 + 145000 - PotN LN) / 35) by omega) (show 6 ≤ (336 * sumN C 16 + 145000 - PotN LN) by omega) dL_pass_14 (⟨κ, KZ.rf, hT, hrd0, rfl, C, LN, 1, 6, Nat.le_add_right _ _, hR, hg, by decide, by omega⟩)
  · have htr9 : True := trivial
    obtain ⟨r6031, rfl, hqr6031⟩ := hqr6031
    refine W.eq (g2 := F0 m 7 ls [.int r6031, .int 0, .ref o]) rfl ?_
    obtain ⟨κr6031, hxr6031, hT1, hqr6031⟩ := hqr6031
    have hxfr6031 := hxr6031.1
    have hT := hT1
    have hKF : KF κ κr6031 := hxfr6031
    have hKW : KW κ κr6031 := hxr6031
    have hw := (KF.t2 hxfr6031 hw (by decide))
    have ho := (KF.t2 hxfr6031 ho (by decide))
    obtain ⟨C6032, L6033, k6034, n6035, h6036, r6037, g6038⟩ := hqr6031
    have hR := r6037
    have hCs := h6036
    obtain ⟨k6039, n6040, hGP, hgk, hgn⟩ : ∃ k9 n9, Gr H0 _ k9 n9 ∧ 35 * k9 ≤ n9 ∧ n9 + PotN LN ≤ PotN L6033 := ⟨_, _, g6038.1, g6038.2.1, g6038.2.2⟩
    have hp0 := hR0.pot
    have hp1 := hR.pot
    refine W.tight (k := k6039) (n := n6040) (by rw [hH0]; exact hGP) ?_
    refine lv_i2l hx hb dL_pass_7 rfl ?_
    refine gn_l (fun y6041 => ?_)
    obtain ⟨hb6042, e6042, hat6042, hk6042⟩ := hT.o29 ho.1
    obtain ⟨g6042, rfl⟩ := hk6042
    have hP : va_P D vwCl [(o, .inl (cs 3, 1, .inr (.inl g6042)))] _ := va_P.cons hat6042 va_P.nil
    have hB : Bx B0 D _ [(o, .inl (cs 3, 1, .inr (.inl g6042)))] [] _ _ := Bx.of (fun a => (κr6031 a).1) hL hP (fa_c hb6042 fa_n) (by simp only [List.map_cons, List.map_nil, ho.1]; decide)
    refine b_l hx hb hN hB 0 rfl (vp_in_nI (n := 0) (N := 1) (by omega) (by omega)) (.inl rfl) dL_pass_8 (fun H locs hB => ?_)
    rw [(show (0 : Int32).toNatClampNeg = 0 from nI_clamp (n := 0) (by omega))] at hB
    have hB : Bx B0 D _ [(o, .inl (cs 3, 1, .inr (.inl (vp_updL g6042 0 y6041))))] [o] _ _ := hB
    generalize (vp_updL g6042 0 y6041) = g6043 at hB
    refine lv_goto (tgt := 15) hx hb dL_pass_9 (by decide) ?_
    refine lv_iconst (v := 0) hx hb dL_pass_15 (by decide) ?_
    have hR := hR.fr hT trivial (Fr.close (S := [13]) Fr.rf hB (fa_c (by simp [ho.2]) fa_n)) (by decide)
    have hT : WT B0 D cs T κr6031 _ := hT.close hB ⟨⟨0, _, rfl, ok_29 ho.1 ⟨_, rfl⟩⟩, trivial⟩
    have hL : OkL B0 _ := hB.2.2.2.2.2
    have hP : va_P D vwCl [(o, .inl (cs 3, 1, .inr (.inl g6043)))] _ := hB.1
    refine W.know (fun hg => ?_)
    rw [hH0] at hg
    exact en_i hx hb hr hlocks hL rfl (show k6039 ≤ ((336 * sumN C 16 + 145000 - PotN LN) / 35) by omega) (show n6040 ≤ (336 * sumN C 16 + 145000 - PotN LN) by omega) dL_pass_16 (⟨_, hKW.z, hT, hKW.1.t2 hrd0 (by decide), by rw [hKW.2 _ (by rw [hrd0.1]; decide) (by rw [hrd0.2]; decide)], _, _, _, _, hCs, hR, hg, by omega, by omega⟩)
theorem hdX8_power_v : yX8_power.cls = RX8 ∧ yX8_power.cls ≠ "java/lang/invoke/MethodHandle" ∧ yX8_power.cls ≠ "java/lang/invoke/VarHandle" ∧ (parseMethodDescriptor yX8_power.desc).map (fun d => d.parameters.length) = some 2 := by decide +kernel
theorem mL_power_1 : (.classLink RL 22 "java/lang/IndexOutOfBoundsException" : Cond) ∈ wsL_power := List.mem_of_getElem? (i := 1) (by decide +kernel)
set_option maxHeartbeats 4000000 in
set_option maxRecDepth 100000 in
theorem c_L_power {l : Launch} (hlt : l.stackTraces = false) {D : va_G} {cs : Nat → ClassId} {B0 T : Nat} {κ : KM} {H0 : Heap} (hT : WT B0 D cs T κ H0) {w o : Nat} (hw : T2 κ w 9 13) (ho : T2 κ o 29 13) {C : Nat → Nat} {LN : Nat → Nat → Nat} (hR : RQ D cs κ H0 C LN er) (hC : sumN C 16 + 24 ≤ 12400) {x : Int32} {b_y : Int32} (qb_y : b_y = 0 ∨ b_y = 1) : KC l yL_power wsL_power 8 148 ((336 * sumN C 16 + 145000 - PotN LN) / 35) (336 * sumN C 16 + 145000 - PotN LN) D cs B0 H0 [.ref w, .int x, .int b_y, .ref o] (Qi (fun _ H => ∃ κ1, KZ κ κ1 ∧ WT B0 D cs T κ1 H ∧ T2 κ1 (cs 450) 6 10 ∧ ((κ1 (cs 450)).2.2.1 = (κ (cs 450)).2.2.1) ∧ ∃ C1 LN1 k n, sumN C1 16 ≤ sumN C 16 + 24 ∧ RQ D cs κ1 H C1 LN1 er ∧ Gr H0 H k n ∧ 35 * k ≤ n + 35 ∧ n + PotN LN ≤ PotN LN1 + 714)) := by
  refine KC.ofH (hh := [(0, 17, 20, 22)]) cL_power 5 (some .int) (by decide) rfl (Nat.le_of_ble_eq_true rfl) ?_
  intro p e s m below meth c ls hx hb hr hml hown hts hlocks htab hN hE hH0 hl
  have hown : s.vm.findClass RL = some m.cls := hown
  have hl : lv_has ls 5 [(0, .ref w), (1, .int x), (2, .int b_y), (3, .ref o)] := hl
  have hL : OkL B0 [] := OkL.nil
  have hGN : 35 * 0 ≤ 0 ∧ 0 + PotN LN ≤ PotN LN := ⟨Nat.le_refl _, by omega⟩
  have hs0 := hR.pot
  have hrd0 := hT.rd hw
  have hR0 := hR
  refine lv_aload_n hx hb dL_power_0 rfl (lv_at hl 3 rfl) ?_
  refine lv_iconst (v := 0) hx hb dL_power_1 (by decide) ?_
  refine lv_aload_n hx hb dL_power_2 rfl (lv_at hl 0 rfl) ?_
  refine lv_iload_n hx hb dL_power_3 rfl (lv_at hl 1 rfl) ?_
  refine lv_iload_n hx hb dL_power_4 rfl (lv_at hl 2 rfl) ?_
  refine ct_V (As := [.int x, .int b_y]) (rest := [.int 0, .ref o]) (b := w) ⟨hx, hb, hml, hown, hts⟩ (c_X8_power hlt hT (w := w) hw (x := x) (b_y := b_y) hR (by first | omega | decide | assumption)) (cwV 2 hts gL_power_X8_power rfl rfl rfl hdX8_power_v ⟨Nat.le_of_ble_eq_true rfl, Nat.le_of_ble_eq_true rfl⟩) hN hE hL (rcv9 hN hT hw.1) rfl rfl hl.1 (Nat.le_of_ble_eq_true rfl) dL_power_5 (show 0 + ((336 * sumN C 16 + 137000 - PotN LN) / 35) ≤ ((336 * sumN C 16 + 145000 - PotN LN) / 35) by omega) (show 0 + (336 * sumN C 16 + 137000 - PotN LN) ≤ (336 * sumN C 16 + 145000 - PotN LN) by omega) (fun E9 q9 ce9 H1 locs hL hq h1 h2 h3 => ?_) (fun v9 H1 locs hL hqr6044 => ?_)
  · have hTQ := hq
    obtain rfl : E9 = "java/lang/IndexOutOfBoundsException" := by simpa using hTQ.1
    refine vx_catch hown [] ⟨0, 17, 20, 22⟩ [] htab (fun z h => nomatch h) rfl (by decide) (hts _ mL_power_1) (va_Nw.use rfl (hN.2.2.2.2.2.2.2.1 "java/lang/IndexOutOfBoundsException" (List.mem_of_getElem? (i := 2) rfl))) h1 h2 h3 ?_
    refine W.eq (g2 := F0 m 20 ls [.ref q9]) rfl ?_
    refine W.tight (k := 1) (n := 6) (by rw [hH0]; exact hTQ.2.2.2) ?_
    have hR := hR.fr hT trivial hTQ.fr (by decide)
    have hT := hTQ.wt hT
    refine lv_astore (lv' := [(4, .ref q9), (0, .ref w), (1, .int x), (2, .int b_y), (3, .ref o)]) hx hb dL_power_20 hl (by decide) rfl (fun ls hl => ?_)
    refine lv_iconst (v := 1) hx hb dL_power_22 (by decide) ?_
    refine W.know (fun hg => ?_)
    rw [hH0] at hg
    exact en_i hx hb hr hlocks hL rfl (show 1 ≤ ((336 * sumN C 16 + 145000 - PotN LN) / 35) by omega) (show 6 ≤ (336 * sumN C 16 + 145000 - PotN LN) by omega) dL_power_23 (⟨κ, KZ.rf, hT, hrd0, rfl, C, LN, 1, 6, Nat.le_add_right _ _, hR, hg, by decide, by omega⟩)
  · have htr9 : True := trivial
    obtain ⟨r6044, rfl, hqr6044⟩ := hqr6044
    refine W.eq (g2 := F0 m 8 ls [.int r6044, .int 0, .ref o]) rfl ?_
    obtain ⟨κr6044, hxr6044, hT1, hqr6044⟩ := hqr6044
    have hxfr6044 := hxr6044.1
    have hT := hT1
    have hKF : KF κ κr6044 := hxfr6044
    have hKW : KW κ κr6044 := hxr6044
    have hw := (KF.t2 hxfr6044 hw (by decide))
    have ho := (KF.t2 hxfr6044 ho (by decide))
    obtain ⟨C6045, L6046, k6047, n6048, h6049, r6050, g6051⟩ := hqr6044
    have hR := r6050
    have hCs := h6049
    obtain ⟨k6052, n6053, hGP, hgk, hgn⟩ : ∃ k9 n9, Gr H0 _ k9 n9 ∧ 35 * k9 ≤ n9 ∧ n9 + PotN LN ≤ PotN L6046 := ⟨_, _, g6051.1, g6051.2.1, g6051.2.2⟩
    have hp0 := hR0.pot
    have hp1 := hR.pot
    refine W.tight (k := k6052) (n := n6053) (by rw [hH0]; exact hGP) ?_
    refine lv_if_eq (tgt := 15) hx hb dL_power_8 (by decide) (fun c6054 => ?_) (fun c6054 => ?_)
    · refine lv_lconst (v := 0) hx hb dL_power_15 (by decide) ?_
      obtain ⟨hb6055, e6055, hat6055, hk6055⟩ := hT.o29 ho.1
      obtain ⟨g6055, rfl⟩ := hk6055
      have hP : va_P D vwCl [(o, .inl (cs 3, 1, .inr (.inl g6055)))] _ := va_P.cons hat6055 va_P.nil
      have hB : Bx B0 D _ [(o, .inl (cs 3, 1, .inr (.inl g6055)))] [] _ _ := Bx.of (fun a => (κr6044 a).1) hL hP (fa_c hb6055 fa_n) (by simp only [List.map_cons, List.map_nil, ho.1]; decide)
      refine b_l hx hb hN hB 0 rfl (vp_in_nI (n := 0) (N := 1) (by omega) (by omega)) (.inl rfl) dL_power_16 (fun H locs hB => ?_)
      rw [(show (0 : Int32).toNatClampNeg = 0 from nI_clamp (n := 0) (by omega))] at hB
      have hB : Bx B0 D _ [(o, .inl (cs 3, 1, .inr (.inl (vp_updL g6055 0 0))))] [o] _ _ := hB
      generalize (vp_updL g6055 0 0) = g6056 at hB
      refine lv_goto (tgt := 24) hx hb dL_power_17 (by decide) ?_
      refine lv_iconst (v := 0) hx hb dL_power_24 (by decide) ?_
      have hR := hR.fr hT trivial (Fr.close (S := [13]) Fr.rf hB (fa_c (by simp [ho.2]) fa_n)) (by decide)
      have hT : WT B0 D cs T κr6044 _ := hT.close hB ⟨⟨0, _, rfl, ok_29 ho.1 ⟨_, rfl⟩⟩, trivial⟩
      have hL : OkL B0 _ := hB.2.2.2.2.2
      have hP : va_P D vwCl [(o, .inl (cs 3, 1, .inr (.inl g6056)))] _ := hB.1
      refine W.know (fun hg => ?_)
      rw [hH0] at hg
      exact en_i hx hb hr hlocks hL rfl (show k6052 ≤ ((336 * sumN C 16 + 145000 - PotN LN) / 35) by omega) (show n6053 ≤ (336 * sumN C 16 + 145000 - PotN LN) by omega) dL_power_25 (⟨_, hKW.z, hT, hKW.1.t2 hrd0 (by decide), by rw [hKW.2 _ (by rw [hrd0.1]; decide) (by rw [hrd0.2]; decide)], _, _, _, _, hCs, hR, hg, by omega, by omega⟩)
    · refine lv_lconst (v := 1) hx hb dL_power_11 (by decide) ?_
      refine lv_goto (tgt := 16) hx hb dL_power_12 (by decide) ?_
      obtain ⟨hb6057, e6057, hat6057, hk6057⟩ := hT.o29 ho.1
      obtain ⟨g6057, rfl⟩ := hk6057
      have hP : va_P D vwCl [(o, .inl (cs 3, 1, .inr (.inl g6057)))] _ := va_P.cons hat6057 va_P.nil
      have hB : Bx B0 D _ [(o, .inl (cs 3, 1, .inr (.inl g6057)))] [] _ _ := Bx.of (fun a => (κr6044 a).1) hL hP (fa_c hb6057 fa_n) (by simp only [List.map_cons, List.map_nil, ho.1]; decide)
      refine b_l hx hb hN hB 0 rfl (vp_in_nI (n := 0) (N := 1) (by omega) (by omega)) (.inl rfl) dL_power_16 (fun H locs hB => ?_)
      rw [(show (0 : Int32).toNatClampNeg = 0 from nI_clamp (n := 0) (by omega))] at hB
      have hB : Bx B0 D _ [(o, .inl (cs 3, 1, .inr (.inl (vp_updL g6057 0 1))))] [o] _ _ := hB
      generalize (vp_updL g6057 0 1) = g6058 at hB
      refine lv_goto (tgt := 24) hx hb dL_power_17 (by decide) ?_
      refine lv_iconst (v := 0) hx hb dL_power_24 (by decide) ?_
      have hR := hR.fr hT trivial (Fr.close (S := [13]) Fr.rf hB (fa_c (by simp [ho.2]) fa_n)) (by decide)
      have hT : WT B0 D cs T κr6044 _ := hT.close hB ⟨⟨0, _, rfl, ok_29 ho.1 ⟨_, rfl⟩⟩, trivial⟩
      have hL : OkL B0 _ := hB.2.2.2.2.2
      have hP : va_P D vwCl [(o, .inl (cs 3, 1, .inr (.inl g6058)))] _ := hB.1
      refine W.know (fun hg => ?_)
      rw [hH0] at hg
      exact en_i hx hb hr hlocks hL rfl (show k6052 ≤ ((336 * sumN C 16 + 145000 - PotN LN) / 35) by omega) (show n6053 ≤ (336 * sumN C 16 + 145000 - PotN LN) by omega) dL_power_25 (⟨_, hKW.z, hT, hKW.1.t2 hrd0 (by decide), by rw [hKW.2 _ (by rw [hrd0.1]; decide) (by rw [hrd0.2]; decide)], _, _, _, _, hCs, hR, hg, by omega, by omega⟩)
theorem hdX8_cut_v : yX8_cut.cls = RX8 ∧ yX8_cut.cls ≠ "java/lang/invoke/MethodHandle" ∧ yX8_cut.cls ≠ "java/lang/invoke/VarHandle" ∧ (parseMethodDescriptor yX8_cut.desc).map (fun d => d.parameters.length) = some 3 := by decide +kernel
theorem mL_cut_1 : (.classLink RL 22 "java/lang/IndexOutOfBoundsException" : Cond) ∈ wsL_cut := List.mem_of_getElem? (i := 1) (by decide +kernel)
theorem mL_cut_2 : (.classLink RL 41 "java/lang/IllegalStateException" : Cond) ∈ wsL_cut := List.mem_of_getElem? (i := 2) (by decide +kernel)
set_option maxHeartbeats 4000000 in
set_option maxRecDepth 100000 in
theorem c_L_cut {l : Launch} (hlt : l.stackTraces = false) {D : va_G} {cs : Nat → ClassId} {B0 T : Nat} {κ : KM} {H0 : Heap} (hT : WT B0 D cs T κ H0) {w o : Nat} (hw : T2 κ w 9 13) (ho : T2 κ o 29 13) {C : Nat → Nat} {LN : Nat → Nat → Nat} (hR : RQ D cs κ H0 C LN er) (hC : sumN C 16 + 24 ≤ 12400) {x : Int32} {y : Int32} {b_z : Int32} (qb_z : b_z = 0 ∨ b_z = 1) : KC l yL_cut wsL_cut 8 150 ((336 * sumN C 16 + 145000 - PotN LN) / 35) (336 * sumN C 16 + 145000 - PotN LN) D cs B0 H0 [.ref w, .int x, .int y, .int b_z, .ref o] (Qi (fun _ H => ∃ κ1, KZ κ κ1 ∧ WT B0 D cs T κ1 H ∧ T2 κ1 (cs 450) 6 10 ∧ ((κ1 (cs 450)).2.2.1 = (κ (cs 450)).2.2.1) ∧ ∃ C1 LN1 k n, sumN C1 16 ≤ sumN C 16 + 24 ∧ RQ D cs κ1 H C1 LN1 er ∧ Gr H0 H k n ∧ 35 * k ≤ n + 35 ∧ n + PotN LN ≤ PotN LN1 + 714)) := by
  refine KC.ofH (hh := [(0, 19, 22, 22), (0, 19, 26, 41)]) cL_cut 6 (some .int) (by decide) rfl (Nat.le_of_ble_eq_true rfl) ?_
  intro p e s m below meth c ls hx hb hr hml hown hts hlocks htab hN hE hH0 hl
  have hown : s.vm.findClass RL = some m.cls := hown
  have hl : lv_has ls 6 [(0, .ref w), (1, .int x), (2, .int y), (3, .int b_z), (4, .ref o)] := hl
  have hL : OkL B0 [] := OkL.nil
  have hGN : 35 * 0 ≤ 0 ∧ 0 + PotN LN ≤ PotN LN := ⟨Nat.le_refl _, by omega⟩
  have hs0 := hR.pot
  have hrd0 := hT.rd hw
  have hR0 := hR
  refine lv_aload hx hb dL_cut_0 (lv_at hl 4 rfl) ?_
  refine lv_iconst (v := 0) hx hb dL_cut_2 (by decide) ?_
  refine lv_aload_n hx hb dL_cut_3 rfl (lv_at hl 0 rfl) ?_
  refine lv_iload_n hx hb dL_cut_4 rfl (lv_at hl 1 rfl) ?_
  refine lv_iload_n hx hb dL_cut_5 rfl (lv_at hl 2 rfl) ?_
  refine lv_iload_n hx hb dL_cut_6 rfl (lv_at hl 3 rfl) ?_
  refine ct_V (As := [.int x, .int y, .int b_z]) (rest := [.int 0, .ref o]) (b := w) ⟨hx, hb, hml, hown, hts⟩ (c_X8_cut hlt hT (w := w) hw (x := x) (y := y) (b_z := b_z) hR (by first | omega | decide | assumption)) (cwV 3 hts gL_cut_X8_cut rfl rfl rfl hdX8_cut_v ⟨Nat.le_of_ble_eq_true rfl, Nat.le_of_ble_eq_true rfl⟩) hN hE hL (rcv9 hN hT hw.1) rfl rfl hl.1 (Nat.le_of_ble_eq_true rfl) dL_cut_7 (show 0 + ((336 * sumN C 16 + 137000 - PotN LN) / 35) ≤ ((336 * sumN C 16 + 145000 - PotN LN) / 35) by omega) (show 0 + (336 * sumN C 16 + 137000 - PotN LN) ≤ (336 * sumN C 16 + 145000 - PotN LN) by omega) (fun E9 q9 ce9 H1 locs hL hq h1 h2 h3 => ?_) (fun v9 H1 locs hL hqr6059 => ?_)
  · have hTQ := hq
    rcases (by simpa using hTQ.1 : E9 = "java/lang/IndexOutOfBoundsException" ∨ E9 = "java/lang/IllegalStateException") with rfl | rfl
    · refine vx_catch hown [] ⟨0, 19, 22, 22⟩ [⟨0, 19, 26, 41⟩] htab (fun z h => nomatch h) rfl (by decide) (hts _ mL_cut_1) (va_Nw.use rfl (hN.2.2.2.2.2.2.2.1 "java/lang/IndexOutOfBoundsException" (List.mem_of_getElem? (i := 2) rfl))) h1 h2 h3 ?_
      refine W.eq (g2 := F0 m 22 ls [.ref q9]) rfl ?_
      refine W.tight (k := 1) (n := 6) (by rw [hH0]; exact hTQ.2.2.2) ?_
      have hR := hR.fr hT trivial hTQ.fr (by decide)
      have hT := hTQ.wt hT
      refine lv_astore (lv' := [(5, .ref q9), (0, .ref w), (1, .int x), (2, .int y), (3, .int b_z), (4, .ref o)]) hx hb dL_cut_22 hl (by decide) rfl (fun ls hl => ?_)
      refine lv_iconst (v := 1) hx hb dL_cut_24 (by decide) ?_
      refine W.know (fun hg => ?_)
      rw [hH0] at hg
      exact en_i hx hb hr hlocks hL rfl (show 1 ≤ ((336 * sumN C 16 + 145000 - PotN LN) / 35) by omega) (show 6 ≤ (336 * sumN C 16 + 145000 - PotN LN) by omega) dL_cut_25 (⟨κ, KZ.rf, hT, hrd0, rfl, C, LN, 1, 6, Nat.le_add_right _ _, hR, hg, by decide, by omega⟩)
    · refine vx_catch hown [⟨0, 19, 22, 22⟩] ⟨0, 19, 26, 41⟩ [] htab (fun z h => by rw [List.mem_singleton.mp h]; exact Or.inr ⟨by decide, "java/lang/IndexOutOfBoundsException", hts _ mL_cut_1, hN.2.2.2.2.2.2.2.2.1 ("java/lang/IllegalStateException", "java/lang/IndexOutOfBoundsException") (by decide +kernel)⟩) rfl (by decide) (hts _ mL_cut_2) (va_Nw.use rfl (hN.2.2.2.2.2.2.2.1 "java/lang/IllegalStateException" (List.mem_of_getElem? (i := 1) rfl))) h1 h2 h3 ?_
      refine W.eq (g2 := F0 m 26 ls [.ref q9]) rfl ?_
      refine W.tight (k := 1) (n := 6) (by rw [hH0]; exact hTQ.2.2.2) ?_
      have hR := hR.fr hT trivial hTQ.fr (by decide)
      have hT := hTQ.wt hT
      refine lv_astore (lv' := [(5, .ref q9), (0, .ref w), (1, .int x), (2, .int y), (3, .int b_z), (4, .ref o)]) hx hb dL_cut_26 hl (by decide) rfl (fun ls hl => ?_)
      refine lv_iconst (v := 2) hx hb dL_cut_28 (by decide) ?_
      refine W.know (fun hg => ?_)
      rw [hH0] at hg
      exact en_i hx hb hr hlocks hL rfl (show 1 ≤ ((336 * sumN C 16 + 145000 - PotN LN) / 35) by omega) (show 6 ≤ (336 * sumN C 16 + 145000 - PotN LN) by omega) dL_cut_29 (⟨κ, KZ.rf, hT, hrd0, rfl, C, LN, 1, 6, Nat.le_add_right _ _, hR, hg, by decide, by omega⟩)
  · have htr9 : True := trivial
    obtain ⟨r6059, rfl, hqr6059⟩ := hqr6059
    refine W.eq (g2 := F0 m 10 ls [.int r6059, .int 0, .ref o]) rfl ?_
    obtain ⟨κr6059, hxr6059, hT1, hqr6059⟩ := hqr6059
    have hxfr6059 := hxr6059.1
    have hT := hT1
    have hKF : KF κ κr6059 := hxfr6059
    have hKW : KW κ κr6059 := hxr6059
    have hw := (KF.t2 hxfr6059 hw (by decide))
    have ho := (KF.t2 hxfr6059 ho (by decide))
    obtain ⟨C6060, L6061, k6062, n6063, h6064, r6065, g6066⟩ := hqr6059
    have hR := r6065
    have hCs := h6064
    obtain ⟨k6067, n6068, hGP, hgk, hgn⟩ : ∃ k9 n9, Gr H0 _ k9 n9 ∧ 35 * k9 ≤ n9 ∧ n9 + PotN LN ≤ PotN L6061 := ⟨_, _, g6066.1, g6066.2.1, g6066.2.2⟩
    have hp0 := hR0.pot
    have hp1 := hR.pot
    refine W.tight (k := k6067) (n := n6068) (by rw [hH0]; exact hGP) ?_
    refine lv_if_eq (tgt := 17) hx hb dL_cut_10 (by decide) (fun c6069 => ?_) (fun c6069 => ?_)
    · refine lv_lconst (v := 0) hx hb dL_cut_17 (by decide) ?_
      obtain ⟨hb6070, e6070, hat6070, hk6070⟩ := hT.o29 ho.1
      obtain ⟨g6070, rfl⟩ := hk6070
      have hP : va_P D vwCl [(o, .inl (cs 3, 1, .inr (.inl g6070)))] _ := va_P.cons hat6070 va_P.nil
      have hB : Bx B0 D _ [(o, .inl (cs 3, 1, .inr (.inl g6070)))] [] _ _ := Bx.of (fun a => (κr6059 a).1) hL hP (fa_c hb6070 fa_n) (by simp only [List.map_cons, List.map_nil, ho.1]; decide)
      refine b_l hx hb hN hB 0 rfl (vp_in_nI (n := 0) (N := 1) (by omega) (by omega)) (.inl rfl) dL_cut_18 (fun H locs hB => ?_)
      rw [(show (0 : Int32).toNatClampNeg = 0 from nI_clamp (n := 0) (by omega))] at hB
      have hB : Bx B0 D _ [(o, .inl (cs 3, 1, .inr (.inl (vp_updL g6070 0 0))))] [o] _ _ := hB
      generalize (vp_updL g6070 0 0) = g6071 at hB
      refine lv_goto (tgt := 30) hx hb dL_cut_19 (by decide) ?_
      refine lv_iconst (v := 0) hx hb dL_cut_30 (by decide) ?_
      have hR := hR.fr hT trivial (Fr.close (S := [13]) Fr.rf hB (fa_c (by simp [ho.2]) fa_n)) (by decide)
      have hT : WT B0 D cs T κr6059 _ := hT.close hB ⟨⟨0, _, rfl, ok_29 ho.1 ⟨_, rfl⟩⟩, trivial⟩
      have hL : OkL B0 _ := hB.2.2.2.2.2
      have hP : va_P D vwCl [(o, .inl (cs 3, 1, .inr (.inl g6071)))] _ := hB.1
      refine W.know (fun hg => ?_)
      rw [hH0] at hg
      exact en_i hx hb hr hlocks hL rfl (show k6067 ≤ ((336 * sumN C 16 + 145000 - PotN LN) / 35) by omega) (show n6068 ≤ (336 * sumN C 16 + 145000 - PotN LN) by omega) dL_cut_31 (⟨_, hKW.z, hT, hKW.1.t2 hrd0 (by decide), by rw [hKW.2 _ (by rw [hrd0.1]; decide) (by rw [hrd0.2]; decide)], _, _, _, _, hCs, hR, hg, by omega, by omega⟩)
    · refine lv_lconst (v := 1) hx hb dL_cut_13 (by decide) ?_
      refine lv_goto (tgt := 18) hx hb dL_cut_14 (by decide) ?_
      obtain ⟨hb6072, e6072, hat6072, hk6072⟩ := hT.o29 ho.1
      obtain ⟨g6072, rfl⟩ := hk6072
      have hP : va_P D vwCl [(o, .inl (cs 3, 1, .inr (.inl g6072)))] _ := va_P.cons hat6072 va_P.nil
      have hB : Bx B0 D _ [(o, .inl (cs 3, 1, .inr (.inl g6072)))] [] _ _ := Bx.of (fun a => (κr6059 a).1) hL hP (fa_c hb6072 fa_n) (by simp only [List.map_cons, List.map_nil, ho.1]; decide)
      refine b_l hx hb hN hB 0 rfl (vp_in_nI (n := 0) (N := 1) (by omega) (by omega)) (.inl rfl) dL_cut_18 (fun H locs hB => ?_)
      rw [(show (0 : Int32).toNatClampNeg = 0 from nI_clamp (n := 0) (by omega))] at hB
      have hB : Bx B0 D _ [(o, .inl (cs 3, 1, .inr (.inl (vp_updL g6072 0 1))))] [o] _ _ := hB
      generalize (vp_updL g6072 0 1) = g6073 at hB
      refine lv_goto (tgt := 30) hx hb dL_cut_19 (by decide) ?_
      refine lv_iconst (v := 0) hx hb dL_cut_30 (by decide) ?_
      have hR := hR.fr hT trivial (Fr.close (S := [13]) Fr.rf hB (fa_c (by simp [ho.2]) fa_n)) (by decide)
      have hT : WT B0 D cs T κr6059 _ := hT.close hB ⟨⟨0, _, rfl, ok_29 ho.1 ⟨_, rfl⟩⟩, trivial⟩
      have hL : OkL B0 _ := hB.2.2.2.2.2
      have hP : va_P D vwCl [(o, .inl (cs 3, 1, .inr (.inl g6073)))] _ := hB.1
      refine W.know (fun hg => ?_)
      rw [hH0] at hg
      exact en_i hx hb hr hlocks hL rfl (show k6067 ≤ ((336 * sumN C 16 + 145000 - PotN LN) / 35) by omega) (show n6068 ≤ (336 * sumN C 16 + 145000 - PotN LN) by omega) dL_cut_31 (⟨_, hKW.z, hT, hKW.1.t2 hrd0 (by decide), by rw [hKW.2 _ (by rw [hrd0.1]; decide) (by rw [hrd0.2]; decide)], _, _, _, _, hCs, hR, hg, by omega, by omega⟩)
theorem hdX8_lead_v : yX8_lead.cls = RX8 ∧ yX8_lead.cls ≠ "java/lang/invoke/MethodHandle" ∧ yX8_lead.cls ≠ "java/lang/invoke/VarHandle" ∧ (parseMethodDescriptor yX8_lead.desc).map (fun d => d.parameters.length) = some 1 := by decide +kernel
theorem mL_lead_1 : (.classLink RL 22 "java/lang/IndexOutOfBoundsException" : Cond) ∈ wsL_lead := List.mem_of_getElem? (i := 1) (by decide +kernel)
set_option maxHeartbeats 4000000 in
set_option maxRecDepth 100000 in
theorem c_L_lead {l : Launch} (hlt : l.stackTraces = false) {D : va_G} {cs : Nat → ClassId} {B0 T : Nat} {κ : KM} {H0 : Heap} (hT : WT B0 D cs T κ H0) {w o : Nat} (hw : T2 κ w 9 13) (ho : T2 κ o 29 13) {C : Nat → Nat} {LN : Nat → Nat → Nat} (hR : RQ D cs κ H0 C LN er) (hC : sumN C 16 + 24 ≤ 12400) {x : Int32} : KC l yL_lead wsL_lead 8 148 ((336 * sumN C 16 + 145000 - PotN LN) / 35) (336 * sumN C 16 + 145000 - PotN LN) D cs B0 H0 [.ref w, .int x, .ref o] (Qi (fun _ H => ∃ κ1, KZ κ κ1 ∧ WT B0 D cs T κ1 H ∧ T2 κ1 (cs 450) 6 10 ∧ ((κ1 (cs 450)).2.2.1 = (κ (cs 450)).2.2.1) ∧ ∃ C1 LN1 k n, sumN C1 16 ≤ sumN C 16 + 24 ∧ RQ D cs κ1 H C1 LN1 er ∧ Gr H0 H k n ∧ 35 * k ≤ n + 35 ∧ n + PotN LN ≤ PotN LN1 + 714)) := by
  refine KC.ofH (hh := [(0, 9, 12, 22)]) cL_lead 4 (some .int) (by decide) rfl (Nat.le_of_ble_eq_true rfl) ?_
  intro p e s m below meth c ls hx hb hr hml hown hts hlocks htab hN hE hH0 hl
  have hown : s.vm.findClass RL = some m.cls := hown
  have hl : lv_has ls 4 [(0, .ref w), (1, .int x), (2, .ref o)] := hl
  have hL : OkL B0 [] := OkL.nil
  have hGN : 35 * 0 ≤ 0 ∧ 0 + PotN LN ≤ PotN LN := ⟨Nat.le_refl _, by omega⟩
  have hs0 := hR.pot
  have hrd0 := hT.rd hw
  have hR0 := hR
  refine lv_aload_n hx hb dL_lead_0 rfl (lv_at hl 2 rfl) ?_
  refine lv_iconst (v := 0) hx hb dL_lead_1 (by decide) ?_
  refine lv_aload_n hx hb dL_lead_2 rfl (lv_at hl 0 rfl) ?_
  refine lv_iload_n hx hb dL_lead_3 rfl (lv_at hl 1 rfl) ?_
  refine ct_V (As := [.int x]) (rest := [.int 0, .ref o]) (b := w) ⟨hx, hb, hml, hown, hts⟩ (c_X8_lead hlt hT (w := w) hw (x := x) hR) (cwV 1 hts gL_lead_X8_lead rfl rfl rfl hdX8_lead_v ⟨Nat.le_of_ble_eq_true rfl, Nat.le_of_ble_eq_true rfl⟩) hN hE hL (rcv9 hN hT hw.1) rfl rfl hl.1 (Nat.le_of_ble_eq_true rfl) dL_lead_4 (show 0 + ((336 * sumN C 16 + 137000 - PotN LN) / 35) ≤ ((336 * sumN C 16 + 145000 - PotN LN) / 35) by omega) (show 0 + (336 * sumN C 16 + 137000 - PotN LN) ≤ (336 * sumN C 16 + 145000 - PotN LN) by omega) (fun E9 q9 ce9 H1 locs hL hq h1 h2 h3 => ?_) (fun v9 H1 locs hL hqr6074 => ?_)
  · have hTQ := hq
    obtain rfl : E9 = "java/lang/IndexOutOfBoundsException" := by simpa using hTQ.1
    refine vx_catch hown [] ⟨0, 9, 12, 22⟩ [] htab (fun z h => nomatch h) rfl (by decide) (hts _ mL_lead_1) (va_Nw.use rfl (hN.2.2.2.2.2.2.2.1 "java/lang/IndexOutOfBoundsException" (List.mem_of_getElem? (i := 2) rfl))) h1 h2 h3 ?_
    refine W.eq (g2 := F0 m 12 ls [.ref q9]) rfl ?_
    refine W.tight (k := 1) (n := 6) (by rw [hH0]; exact hTQ.2.2.2) ?_
    have hR := hR.fr hT trivial hTQ.fr (by decide)
    have hT := hTQ.wt hT
    refine lv_astore_n (lv' := [(3, .ref q9), (0, .ref w), (1, .int x), (2, .ref o)]) hx hb dL_lead_12 rfl hl (by decide) rfl (fun ls hl => ?_)
    refine lv_iconst (v := 1) hx hb dL_lead_13 (by decide) ?_
    refine W.know (fun hg => ?_)
    rw [hH0] at hg
    exact en_i hx hb hr hlocks hL rfl (show 1 ≤ ((336 * sumN C 16 + 145000 - PotN LN) / 35) by omega) (show 6 ≤ (336 * sumN C 16 + 145000 - PotN LN) by omega) dL_lead_14 (⟨κ, KZ.rf, hT, hrd0, rfl, C, LN, 1, 6, Nat.le_add_right _ _, hR, hg, by decide, by omega⟩)
  · have htr9 : True := trivial
    obtain ⟨r6074, rfl, hqr6074⟩ := hqr6074
    refine W.eq (g2 := F0 m 7 ls [.int r6074, .int 0, .ref o]) rfl ?_
    obtain ⟨κr6074, hxr6074, hT1, hqr6074⟩ := hqr6074
    have hxfr6074 := hxr6074.1
    have hT := hT1
    have hKF : KF κ κr6074 := hxfr6074
    have hKW : KW κ κr6074 := hxr6074
    have hw := (KF.t2 hxfr6074 hw (by decide))
    have ho := (KF.t2 hxfr6074 ho (by decide))
    obtain ⟨C6075, L6076, k6077, n6078, h6079, r6080, g6081⟩ := hqr6074
    have hR := r6080
    have hCs := h6079
    obtain ⟨k6082, n6083, hGP, hgk, hgn⟩ : ∃ k9 n9, Gr H0 _ k9 n9 ∧ 35 * k9 ≤ n9 ∧ n9 + PotN LN ≤ PotN L6076 := ⟨_, _, g6081.1, g6081.2.1, g6081.2.2⟩
    have hp0 := hR0.pot
    have hp1 := hR.pot
    refine W.tight (k := k6082) (n := n6083) (by rw [hH0]; exact hGP) ?_
    refine lv_i2l hx hb dL_lead_7 rfl ?_
    refine gn_l (fun y6084 => ?_)
    obtain ⟨hb6085, e6085, hat6085, hk6085⟩ := hT.o29 ho.1
    obtain ⟨g6085, rfl⟩ := hk6085
    have hP : va_P D vwCl [(o, .inl (cs 3, 1, .inr (.inl g6085)))] _ := va_P.cons hat6085 va_P.nil
    have hB : Bx B0 D _ [(o, .inl (cs 3, 1, .inr (.inl g6085)))] [] _ _ := Bx.of (fun a => (κr6074 a).1) hL hP (fa_c hb6085 fa_n) (by simp only [List.map_cons, List.map_nil, ho.1]; decide)
    refine b_l hx hb hN hB 0 rfl (vp_in_nI (n := 0) (N := 1) (by omega) (by omega)) (.inl rfl) dL_lead_8 (fun H locs hB => ?_)
    rw [(show (0 : Int32).toNatClampNeg = 0 from nI_clamp (n := 0) (by omega))] at hB
    have hB : Bx B0 D _ [(o, .inl (cs 3, 1, .inr (.inl (vp_updL g6085 0 y6084))))] [o] _ _ := hB
    generalize (vp_updL g6085 0 y6084) = g6086 at hB
    refine lv_goto (tgt := 15) hx hb dL_lead_9 (by decide) ?_
    refine lv_iconst (v := 0) hx hb dL_lead_15 (by decide) ?_
    have hR := hR.fr hT trivial (Fr.close (S := [13]) Fr.rf hB (fa_c (by simp [ho.2]) fa_n)) (by decide)
    have hT : WT B0 D cs T κr6074 _ := hT.close hB ⟨⟨0, _, rfl, ok_29 ho.1 ⟨_, rfl⟩⟩, trivial⟩
    have hL : OkL B0 _ := hB.2.2.2.2.2
    have hP : va_P D vwCl [(o, .inl (cs 3, 1, .inr (.inl g6086)))] _ := hB.1
    refine W.know (fun hg => ?_)
    rw [hH0] at hg
    exact en_i hx hb hr hlocks hL rfl (show k6082 ≤ ((336 * sumN C 16 + 145000 - PotN LN) / 35) by omega) (show n6083 ≤ (336 * sumN C 16 + 145000 - PotN LN) by omega) dL_lead_16 (⟨_, hKW.z, hT, hKW.1.t2 hrd0 (by decide), by rw [hKW.2 _ (by rw [hrd0.1]; decide) (by rw [hrd0.2]; decide)], _, _, _, _, hCs, hR, hg, by omega, by omega⟩)
theorem hdX8_load_v : yX8_load.cls = RX8 ∧ yX8_load.cls ≠ "java/lang/invoke/MethodHandle" ∧ yX8_load.cls ≠ "java/lang/invoke/VarHandle" ∧ (parseMethodDescriptor yX8_load.desc).map (fun d => d.parameters.length) = some 1 := by decide +kernel
theorem mL_load_1 : (.classLink RL 13 "java/lang/IllegalArgumentException" : Cond) ∈ wsL_load := List.mem_of_getElem? (i := 1) (by decide +kernel)
set_option maxHeartbeats 4000000 in
set_option maxRecDepth 100000 in
theorem c_L_load {l : Launch} (hlt : l.stackTraces = false) {D : va_G} {cs : Nat → ClassId} {B0 T : Nat} {κ : KM} {H0 : Heap} (hT : WT B0 D cs T κ H0) {w o : Nat} (hw : T2 κ w 9 13) (ho : T2 κ o 29 13) {C : Nat → Nat} {LN : Nat → Nat → Nat} (hR : RQ D cs κ H0 C LN er) (hC : sumN C 16 + 24 ≤ 12400) {x : Int32} : KC l yL_load wsL_load 24 531 ((336 * sumN C 16 + 145000 - PotN LN) / 35) (336 * sumN C 16 + 145000 - PotN LN) D cs B0 H0 [.ref w, .int x, .ref o] (Qi (fun _ H => ∃ κ1, KZ κ κ1 ∧ WT B0 D cs T κ1 H ∧ T2 κ1 (cs 450) 6 10 ∧ (((x < 0 ∨ nI (κ (cs 450)).2.2.1 < x) ∧ (κ1 (cs 450)).2.2.1 = (κ (cs 450)).2.2.1) ∨ (¬ x < 0 ∧ ¬ nI (κ (cs 450)).2.2.1 < x ∧ (κ1 (cs 450)).2.2.1 = 0)) ∧ ∃ C1 LN1 k n, sumN C1 16 ≤ sumN C 16 + 24 ∧ RQ D cs κ1 H C1 LN1 er ∧ Gr H0 H k n ∧ 35 * k ≤ n + 35 ∧ n + PotN LN ≤ PotN LN1 + 714)) := by
  refine KC.ofH (hh := [(0, 9, 12, 13)]) cL_load 4 (some .int) (by decide) rfl (Nat.le_of_ble_eq_true rfl) ?_
  intro p e s m below meth c ls hx hb hr hml hown hts hlocks htab hN hE hH0 hl
  have hown : s.vm.findClass RL = some m.cls := hown
  have hl : lv_has ls 4 [(0, .ref w), (1, .int x), (2, .ref o)] := hl
  have hL : OkL B0 [] := OkL.nil
  have hGN : 35 * 0 ≤ 0 ∧ 0 + PotN LN ≤ PotN LN := ⟨Nat.le_refl _, by omega⟩
  have hs0 := hR.pot
  have hrd0 := hT.rd hw
  have hR0 := hR
  refine lv_aload_n hx hb dL_load_0 rfl (lv_at hl 2 rfl) ?_
  refine lv_iconst (v := 0) hx hb dL_load_1 (by decide) ?_
  refine lv_aload_n hx hb dL_load_2 rfl (lv_at hl 0 rfl) ?_
  refine lv_iload_n hx hb dL_load_3 rfl (lv_at hl 1 rfl) ?_
  refine ct_V (As := [.int x]) (rest := [.int 0, .ref o]) (b := w) ⟨hx, hb, hml, hown, hts⟩ (c_X8_load hlt hT (w := w) hw (x := x) hR (by first | omega | decide | assumption)) (cwV 1 hts gL_load_X8_load rfl rfl rfl hdX8_load_v ⟨Nat.le_of_ble_eq_true rfl, Nat.le_of_ble_eq_true rfl⟩) hN hE hL (rcv9 hN hT hw.1) rfl rfl hl.1 (Nat.le_of_ble_eq_true rfl) dL_load_4 (show 0 + ((336 * sumN C 16 + 140000 - PotN LN) / 35) ≤ ((336 * sumN C 16 + 145000 - PotN LN) / 35) by omega) (show 0 + (336 * sumN C 16 + 140000 - PotN LN) ≤ (336 * sumN C 16 + 145000 - PotN LN) by omega) (fun E9 q9 ce9 H1 locs hL hq h1 h2 h3 => ?_) (fun v9 H1 locs hL hqr6087 => ?_)
  · have hTQ := hq.1
    have hout := hq.2
    obtain rfl : E9 = "java/lang/IllegalArgumentException" := by simpa using hTQ.1
    refine vx_catch hown [] ⟨0, 9, 12, 13⟩ [] htab (fun z h => nomatch h) rfl (by decide) (hts _ mL_load_1) (va_Nw.use rfl (hN.2.2.2.2.2.2.2.1 "java/lang/IllegalArgumentException" (List.mem_of_getElem? (i := 0) rfl))) h1 h2 h3 ?_
    refine W.eq (g2 := F0 m 12 ls [.ref q9]) rfl ?_
    refine W.tight (k := 1) (n := 6) (by rw [hH0]; exact hTQ.2.2.2) ?_
    have hR := hR.fr hT trivial hTQ.fr (by decide)
    have hT := hTQ.wt hT
    refine lv_astore_n (lv' := [(3, .ref q9), (0, .ref w), (1, .int x), (2, .ref o)]) hx hb dL_load_12 rfl hl (by decide) rfl (fun ls hl => ?_)
    refine lv_iconst (v := 1) hx hb dL_load_13 (by decide) ?_
    refine W.know (fun hg => ?_)
    rw [hH0] at hg
    exact en_i hx hb hr hlocks hL rfl (show 1 ≤ ((336 * sumN C 16 + 145000 - PotN LN) / 35) by omega) (show 6 ≤ (336 * sumN C 16 + 145000 - PotN LN) by omega) dL_load_14 (⟨κ, KZ.rf, hT, hrd0, Or.inl ⟨hout, rfl⟩, C, LN, 1, 6, Nat.le_add_right _ _, hR, hg, by decide, by omega⟩)
  · have htr9 : True := trivial
    obtain ⟨r6087, rfl, hqr6087⟩ := hqr6087
    refine W.eq (g2 := F0 m 7 ls [.int r6087, .int 0, .ref o]) rfl ?_
    obtain ⟨κr6087, hxr6087, hT1, hqr6087⟩ := hqr6087
    have hT := hT1
    have hKZ := hxr6087
    have hw := hxr6087.t2 hw (by decide) (by decide)
    have ho := hxr6087.t2 ho (by decide) (by decide)
    obtain ⟨a6088, z6089, i6090, j6091, C6092, L6093, k6094, n6095, h6096, r6097, G6098, b6099, d6100⟩ := hqr6087
    have hR := r6097
    have hCs := h6096
    obtain ⟨k6101, n6102, hGP, hgk, hgn⟩ : ∃ k9 n9, Gr H0 _ k9 n9 ∧ 35 * k9 ≤ n9 ∧ n9 + PotN LN ≤ PotN L6093 + 714 := ⟨_, _, G6098, b6099, d6100⟩
    have hp0 := hR0.pot
    have hp1 := hR.pot
    refine W.tight (k := k6101) (n := n6102) (by rw [hH0]; exact hGP) ?_
    refine lv_i2l hx hb dL_load_7 rfl ?_
    refine gn_l (fun y6103 => ?_)
    obtain ⟨hb6104, e6104, hat6104, hk6104⟩ := hT.o29 ho.1
    obtain ⟨g6104, rfl⟩ := hk6104
    have hP : va_P D vwCl [(o, .inl (cs 3, 1, .inr (.inl g6104)))] _ := va_P.cons hat6104 va_P.nil
    have hB : Bx B0 D _ [(o, .inl (cs 3, 1, .inr (.inl g6104)))] [] _ _ := Bx.of (fun a => (κr6087 a).1) hL hP (fa_c hb6104 fa_n) (by simp only [List.map_cons, List.map_nil, ho.1]; decide)
    refine b_l hx hb hN hB 0 rfl (vp_in_nI (n := 0) (N := 1) (by omega) (by omega)) (.inl rfl) dL_load_8 (fun H locs hB => ?_)
    rw [(show (0 : Int32).toNatClampNeg = 0 from nI_clamp (n := 0) (by omega))] at hB
    have hB : Bx B0 D _ [(o, .inl (cs 3, 1, .inr (.inl (vp_updL g6104 0 y6103))))] [o] _ _ := hB
    generalize (vp_updL g6104 0 y6103) = g6105 at hB
    refine lv_goto (tgt := 15) hx hb dL_load_9 (by decide) ?_
    refine lv_iconst (v := 0) hx hb dL_load_15 (by decide) ?_
    have hR := hR.fr hT trivial (Fr.close (S := [13]) Fr.rf hB (fa_c (by simp [ho.2]) fa_n)) (by decide)
    have hT : WT B0 D cs T κr6087 _ := hT.close hB ⟨⟨0, _, rfl, ok_29 ho.1 ⟨_, rfl⟩⟩, trivial⟩
    have hL : OkL B0 _ := hB.2.2.2.2.2
    have hP : va_P D vwCl [(o, .inl (cs 3, 1, .inr (.inl g6105)))] _ := hB.1
    refine W.know (fun hg => ?_)
    rw [hH0] at hg
    exact en_i hx hb hr hlocks hL rfl (show k6101 ≤ ((336 * sumN C 16 + 145000 - PotN LN) / 35) by omega) (show n6102 ≤ (336 * sumN C 16 + 145000 - PotN LN) by omega) dL_load_16 (⟨_, hKZ, hT, a6088, Or.inr ⟨i6090, j6091, z6089⟩, _, _, _, _, hCs, hR, hg, by omega, by omega⟩)
