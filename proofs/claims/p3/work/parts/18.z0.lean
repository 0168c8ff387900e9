
theorem upL_0 {f : Nat → Int64} {x : Int64} : vp_updL f 0 x 0 = x := by simp [vp_updL]

theorem hdX8_state_v : yX8_state.cls = RX8 ∧ yX8_state.cls ≠ "java/lang/invoke/MethodHandle" ∧ yX8_state.cls ≠ "java/lang/invoke/VarHandle" ∧ (parseMethodDescriptor yX8_state.desc).map (fun d => d.parameters.length) = some 1 := by decide +kernel
theorem mL_state_1 : (.classLink RL 13 "java/lang/IllegalArgumentException" : Cond) ∈ wsL_state := List.mem_of_getElem? (i := 1) (by decide +kernel)
set_option maxHeartbeats 4000000 in
set_option maxRecDepth 100000 in
theorem c_L_state {l : Launch} (hlt : l.stackTraces = false) {D : va_G} {cs : Nat → ClassId} {B0 T : Nat} {κ : KM} {H0 : Heap} (hT : WT B0 D cs T κ H0) {w o : Nat} (hw : T2 κ w 9 13) (ho : T2 κ o 29 13) {C : Nat → Nat} {LN : Nat → Nat → Nat} (hR : RQ D cs κ H0 C LN er) (hC : sumN C 16 + 24 ≤ 12400) {x : Int32} : KC l yL_state wsL_state 8 157 ((336 * sumN C 16 + 145000 - PotN LN) / 35) (336 * sumN C 16 + 145000 - PotN LN) D cs B0 H0 [.ref w, .int x, .ref o] (Qi (fun _ H => ∃ κ1, KZ κ κ1 ∧ WT B0 D cs T κ1 H ∧ T2 κ1 (cs 450) 6 10 ∧ ((κ1 (cs 450)).2.2.1 = (κ (cs 450)).2.2.1) ∧ ∃ C1 LN1 k n, sumN C1 16 ≤ sumN C 16 + 24 ∧ RQ D cs κ1 H C1 LN1 er ∧ Gr H0 H k n ∧ 35 * k ≤ n + 35 ∧ n + PotN LN ≤ PotN LN1 + 714 ∧ BTK D cs κ H0 H)) := by
  refine KC.ofH (hh := [(0, 9, 12, 13)]) cL_state 4 (some .int) (by decide) rfl (Nat.le_of_ble_eq_true rfl) ?_
  intro p e s m below meth c ls hx hb hr hml hown hts hlocks htab hN hE hH0 hl
  have hown : s.vm.findClass RL = some m.cls := hown
  have hl : lv_has ls 4 [(0, .ref w), (1, .int x), (2, .ref o)] := hl
  have hL : OkL B0 [] := OkL.nil
  have hGN : 35 * 0 ≤ 0 ∧ 0 + PotN LN ≤ PotN LN := ⟨Nat.le_refl _, by omega⟩
  have hs0 := hR.pot
  have hrd0 := hT.rd hw
  have hR0 := hR
  have hbt : BTK D cs κ H0 H0 := BTK.rf
  refine lv_aload_n hx hb dL_state_0 rfl (lv_at hl 2 rfl) ?_
  refine lv_iconst (v := 0) hx hb dL_state_1 (by decide) ?_
  refine lv_aload_n hx hb dL_state_2 rfl (lv_at hl 0 rfl) ?_
  refine lv_iload_n hx hb dL_state_3 rfl (lv_at hl 1 rfl) ?_
  refine ct_V (As := [.int x]) (rest := [.int 0, .ref o]) (b := w) ⟨hx, hb, hml, hown, hts⟩ (c_X8_state hlt hT (w := w) hw (x := x) hR) (cwV 1 hts gL_state_X8_state rfl rfl rfl hdX8_state_v ⟨Nat.le_of_ble_eq_true rfl, Nat.le_of_ble_eq_true rfl⟩) hN hE hL (rcv9 hN hT hw.1) rfl rfl hl.1 (Nat.le_of_ble_eq_true rfl) dL_state_4 (show 0 + ((336 * sumN C 16 + 137000 - PotN LN) / 35) ≤ ((336 * sumN C 16 + 145000 - PotN LN) / 35) by omega) (show 0 + (336 * sumN C 16 + 137000 - PotN LN) ≤ (336 * sumN C 16 + 145000 - PotN LN) by omega) (fun E9 q9 ce9 H1 locs hL hq h1 h2 h3 => ?_) (fun v9 H1 locs hL hqr3915 => ?_)
  · have hTQ := hq
    obtain rfl : E9 = "java/lang/IllegalArgumentException" := by simpa using hTQ.1
    refine vx_catch hown [] ⟨0, 9, 12, 13⟩ [] htab (fun z h => nomatch h) rfl (by decide) (hts _ mL_state_1) (va_Nw.use rfl (hN.2.2.2.2.2.2.2.1 "java/lang/IllegalArgumentException" (List.mem_of_getElem? (i := 0) rfl))) h1 h2 h3 ?_
    refine W.eq (g2 := F0 m 12 ls [.ref q9]) rfl ?_
    refine W.tight (k := 1) (n := 6) (by rw [hH0]; exact hTQ.2.2.2) ?_
    have hR := hR.fr hT trivial hTQ.fr (by decide)
    have hbt := hbt.fr KZ.rf hT (hT.rd hw) hTQ.fr (by decide) (by decide)
    have hT := hTQ.wt hT
    refine lv_astore_n (lv' := [(3, .ref q9), (0, .ref w), (1, .int x), (2, .ref o)]) hx hb dL_state_12 rfl hl (by decide) rfl (fun ls hl => ?_)
    refine lv_iconst (v := 1) hx hb dL_state_13 (by decide) ?_
    refine W.know (fun hg => ?_)
    rw [hH0] at hg
    exact en_i hx hb hr hlocks hL rfl (show 1 ≤ ((336 * sumN C 16 + 145000 - PotN LN) / 35) by omega) (show 6 ≤ (336 * sumN C 16 + 145000 - PotN LN) by omega) dL_state_14 (⟨κ, KZ.rf, hT, hrd0, rfl, C, LN, 1, 6, Nat.le_add_right _ _, hR, hg, by decide, by omega, hbt⟩)
  · have htr9 : True := trivial
    obtain ⟨r3915, rfl, hqr3915⟩ := hqr3915
    refine W.eq (g2 := F0 m 7 ls [.int r3915, .int 0, .ref o]) rfl ?_
    obtain ⟨κr3915, hxr3915, hT1, hqr3915⟩ := hqr3915
    have hxfr3915 := hxr3915.1
    have hKZo : KZ κ κ := KZ.rf
    have hT := hT1
    have hKF : KF κ κr3915 := hxfr3915
    have hKW : KW κ κr3915 := hxr3915
    have hw := (KF.t2 hxfr3915 hw (by decide))
    have ho := (KF.t2 hxfr3915 ho (by decide))
    obtain ⟨C3916, L3917, k3918, n3919, h3920, r3921, g3922, t3923⟩ := hqr3915
    have hR := r3921
    have hCs := h3920
    obtain ⟨k3924, n3925, hGP, hgk, hgn⟩ : ∃ k9 n9, Gr H0 _ k9 n9 ∧ 35 * k9 ≤ n9 ∧ n9 + PotN LN ≤ PotN L3917 := ⟨_, _, g3922.1, g3922.2.1, g3922.2.2⟩
    have hp0 := hR0.pot
    have hp1 := hR.pot
    refine W.tight (k := k3924) (n := n3925) (by rw [hH0]; exact hGP) ?_
    have hbt := hbt.tr hKZo t3923
    refine lv_i2l hx hb dL_state_7 rfl ?_
    refine gn_l (fun y3926 => ?_)
    obtain ⟨hb3927, e3927, hat3927, hk3927⟩ := hT.o29 ho.1
    obtain ⟨g3927, rfl⟩ := hk3927
    have hP : va_P D vwCl [(o, .inl (cs 3, 1, .inr (.inl g3927)))] _ := va_P.cons hat3927 va_P.nil
    have hB : Bx B0 D _ [(o, .inl (cs 3, 1, .inr (.inl g3927)))] [] _ _ := Bx.of (fun a => (κr3915 a).1) hL hP (fa_c hb3927 fa_n) (by simp only [List.map_cons, List.map_nil, ho.1]; decide)
    refine b_l hx hb hN hB 0 rfl (vp_in_nI (n := 0) (N := 1) (by omega) (by omega)) (.inl rfl) dL_state_8 (fun H locs hB => ?_)
    rw [(show (0 : Int32).toNatClampNeg = 0 from nI_clamp (n := 0) (by omega))] at hB
    have hB : Bx B0 D _ [(o, .inl (cs 3, 1, .inr (.inl (vp_updL g3927 0 y3926))))] [o] _ _ := hB
    generalize (vp_updL g3927 0 y3926) = g3928 at hB
    refine lv_goto (tgt := 15) hx hb dL_state_9 (by decide) ?_
    refine lv_iconst (v := 0) hx hb dL_state_15 (by decide) ?_
    have hR := hR.fr hT trivial (Fr.close (S := [13]) Fr.rf hB (fa_c (by simp [ho.2]) fa_n)) (by decide)
    have hbt := hbt.fr hKW.z hT (hT.rd hw) (Fr.close (S := [13]) Fr.rf hB (fa_c (by simp [ho.2]) fa_n)) (by decide) (by decide)
    have hT : WT B0 D cs T κr3915 _ := hT.close hB ⟨⟨0, _, rfl, ok_29 ho.1 ⟨_, rfl⟩⟩, trivial⟩
    have hL : OkL B0 _ := hB.2.2.2.2.2
    have hP : va_P D vwCl [(o, .inl (cs 3, 1, .inr (.inl g3928)))] _ := hB.1
    refine W.know (fun hg => ?_)
    rw [hH0] at hg
    exact en_i hx hb hr hlocks hL rfl (show k3924 ≤ ((336 * sumN C 16 + 145000 - PotN LN) / 35) by omega) (show n3925 ≤ (336 * sumN C 16 + 145000 - PotN LN) by omega) dL_state_16 (⟨_, hKW.z, hT, hKW.1.t2 hrd0 (by decide), by rw [hKW.2 _ (by rw [hrd0.1]; decide) (by rw [hrd0.2]; decide)], _, _, _, _, hCs, hR, hg, by omega, by omega, hbt⟩)
theorem hdX8_player_v : yX8_player.cls = RX8 ∧ yX8_player.cls ≠ "java/lang/invoke/MethodHandle" ∧ yX8_player.cls ≠ "java/lang/invoke/VarHandle" ∧ (parseMethodDescriptor yX8_player.desc).map (fun d => d.parameters.length) = some 2 := by decide +kernel
theorem mL_player_1 : (.classLink RL 22 "java/lang/IndexOutOfBoundsException" : Cond) ∈ wsL_player := List.mem_of_getElem? (i := 1) (by decide +kernel)
theorem mL_player_2 : (.classLink RL 13 "java/lang/IllegalArgumentException" : Cond) ∈ wsL_player := List.mem_of_getElem? (i := 2) (by decide +kernel)
set_option maxHeartbeats 4000000 in
set_option maxRecDepth 100000 in
theorem c_L_player {l : Launch} (hlt : l.stackTraces = false) {D : va_G} {cs : Nat → ClassId} {B0 T : Nat} {κ : KM} {H0 : Heap} (hT : WT B0 D cs T κ H0) {w o : Nat} (hw : T2 κ w 9 13) (ho : T2 κ o 29 13) {C : Nat → Nat} {LN : Nat → Nat → Nat} (hR : RQ D cs κ H0 C LN er) (hC : sumN C 16 + 24 ≤ 12400) {x : Int32} {y : Int32} : KC l yL_player wsL_player 8 144 ((336 * sumN C 16 + 145000 - PotN LN) / 35) (336 * sumN C 16 + 145000 - PotN LN) D cs B0 H0 [.ref w, .int x, .int y, .ref o] (Qi (fun _ H => ∃ κ1, KZ κ κ1 ∧ WT B0 D cs T κ1 H ∧ T2 κ1 (cs 450) 6 10 ∧ ((κ1 (cs 450)).2.2.1 = (κ (cs 450)).2.2.1) ∧ ∃ C1 LN1 k n, sumN C1 16 ≤ sumN C 16 + 24 ∧ RQ D cs κ1 H C1 LN1 er ∧ Gr H0 H k n ∧ 35 * k ≤ n + 35 ∧ n + PotN LN ≤ PotN LN1 + 714 ∧ BTK D cs κ H0 H)) := by
  refine KC.ofH (hh := [(0, 10, 13, 22), (0, 10, 17, 13)]) cL_player 5 (some .int) (by decide) rfl (Nat.le_of_ble_eq_true rfl) ?_
  intro p e s m below meth c ls hx hb hr hml hown hts hlocks htab hN hE hH0 hl
  have hown : s.vm.findClass RL = some m.cls := hown
  have hl : lv_has ls 5 [(0, .ref w), (1, .int x), (2, .int y), (3, .ref o)] := hl
  have hL : OkL B0 [] := OkL.nil
  have hGN : 35 * 0 ≤ 0 ∧ 0 + PotN LN ≤ PotN LN := ⟨Nat.le_refl _, by omega⟩
  have hs0 := hR.pot
  have hrd0 := hT.rd hw
  have hR0 := hR
  have hbt : BTK D cs κ H0 H0 := BTK.rf
  refine lv_aload_n hx hb dL_player_0 rfl (lv_at hl 3 rfl) ?_
  refine lv_iconst (v := 0) hx hb dL_player_1 (by decide) ?_
  refine lv_aload_n hx hb dL_player_2 rfl (lv_at hl 0 rfl) ?_
  refine lv_iload_n hx hb dL_player_3 rfl (lv_at hl 1 rfl) ?_
  refine lv_iload_n hx hb dL_player_4 rfl (lv_at hl 2 rfl) ?_
  refine ct_V (As := [.int x, .int y]) (rest := [.int 0, .ref o]) (b := w) ⟨hx, hb, hml, hown, hts⟩ (c_X8_player hlt hT (w := w) hw (x := x) (y := y) hR) (cwV 2 hts gL_player_X8_player rfl rfl rfl hdX8_player_v ⟨Nat.le_of_ble_eq_true rfl, Nat.le_of_ble_eq_true rfl⟩) hN hE hL (rcv9 hN hT hw.1) rfl rfl hl.1 (Nat.le_of_ble_eq_true rfl) dL_player_5 (show 0 + ((336 * sumN C 16 + 137000 - PotN LN) / 35) ≤ ((336 * sumN C 16 + 145000 - PotN LN) / 35) by omega) (show 0 + (336 * sumN C 16 + 137000 - PotN LN) ≤ (336 * sumN C 16 + 145000 - PotN LN) by omega) (fun E9 q9 ce9 H1 locs hL hq h1 h2 h3 => ?_) (fun v9 H1 locs hL hqr3929 => ?_)
  · have hTQ := hq
    rcases (by simpa using hTQ.1 : E9 = "java/lang/IndexOutOfBoundsException" ∨ E9 = "java/lang/IllegalArgumentException") with rfl | rfl
    · refine vx_catch hown [] ⟨0, 10, 13, 22⟩ [⟨0, 10, 17, 13⟩] htab (fun z h => nomatch h) rfl (by decide) (hts _ mL_player_1) (va_Nw.use rfl (hN.2.2.2.2.2.2.2.1 "java/lang/IndexOutOfBoundsException" (List.mem_of_getElem? (i := 2) rfl))) h1 h2 h3 ?_
      refine W.eq (g2 := F0 m 13 ls [.ref q9]) rfl ?_
      refine W.tight (k := 1) (n := 6) (by rw [hH0]; exact hTQ.2.2.2) ?_
      have hR := hR.fr hT trivial hTQ.fr (by decide)
      have hbt := hbt.fr KZ.rf hT (hT.rd hw) hTQ.fr (by decide) (by decide)
      have hT := hTQ.wt hT
      refine lv_astore (lv' := [(4, .ref q9), (0, .ref w), (1, .int x), (2, .int y), (3, .ref o)]) hx hb dL_player_13 hl (by decide) rfl (fun ls hl => ?_)
      refine lv_iconst (v := 1) hx hb dL_player_15 (by decide) ?_
      refine W.know (fun hg => ?_)
      rw [hH0] at hg
      exact en_i hx hb hr hlocks hL rfl (show 1 ≤ ((336 * sumN C 16 + 145000 - PotN LN) / 35) by omega) (show 6 ≤ (336 * sumN C 16 + 145000 - PotN LN) by omega) dL_player_16 (⟨κ, KZ.rf, hT, hrd0, rfl, C, LN, 1, 6, Nat.le_add_right _ _, hR, hg, by decide, by omega, hbt⟩)
    · refine vx_catch hown [⟨0, 10, 13, 22⟩] ⟨0, 10, 17, 13⟩ [] htab (fun z h => by rw [List.mem_singleton.mp h]; exact Or.inr ⟨by decide, "java/lang/IndexOutOfBoundsException", hts _ mL_player_1, hN.2.2.2.2.2.2.2.2.1 ("java/lang/IllegalArgumentException", "java/lang/IndexOutOfBoundsException") (by decide +kernel)⟩) rfl (by decide) (hts _ mL_player_2) (va_Nw.use rfl (hN.2.2.2.2.2.2.2.1 "java/lang/IllegalArgumentException" (List.mem_of_getElem? (i := 0) rfl))) h1 h2 h3 ?_
      refine W.eq (g2 := F0 m 17 ls [.ref q9]) rfl ?_
      refine W.tight (k := 1) (n := 6) (by rw [hH0]; exact hTQ.2.2.2) ?_
      have hR := hR.fr hT trivial hTQ.fr (by decide)
      have hbt := hbt.fr KZ.rf hT (hT.rd hw) hTQ.fr (by decide) (by decide)
      have hT := hTQ.wt hT
      refine lv_astore (lv' := [(4, .ref q9), (0, .ref w), (1, .int x), (2, .int y), (3, .ref o)]) hx hb dL_player_17 hl (by decide) rfl (fun ls hl => ?_)
      refine lv_iconst (v := 2) hx hb dL_player_19 (by decide) ?_
      refine W.know (fun hg => ?_)
      rw [hH0] at hg
      exact en_i hx hb hr hlocks hL rfl (show 1 ≤ ((336 * sumN C 16 + 145000 - PotN LN) / 35) by omega) (show 6 ≤ (336 * sumN C 16 + 145000 - PotN LN) by omega) dL_player_20 (⟨κ, KZ.rf, hT, hrd0, rfl, C, LN, 1, 6, Nat.le_add_right _ _, hR, hg, by decide, by omega, hbt⟩)
  · have htr9 : True := trivial
    obtain ⟨r3929, rfl, hqr3929⟩ := hqr3929
    refine W.eq (g2 := F0 m 8 ls [.int r3929, .int 0, .ref o]) rfl ?_
    obtain ⟨κr3929, hxr3929, hT1, hqr3929⟩ := hqr3929
    have hxfr3929 := hxr3929.1
    have hKZo : KZ κ κ := KZ.rf
    have hT := hT1
    have hKF : KF κ κr3929 := hxfr3929
    have hKW : KW κ κr3929 := hxr3929
    have hw := (KF.t2 hxfr3929 hw (by decide))
    have ho := (KF.t2 hxfr3929 ho (by decide))
    obtain ⟨C3930, L3931, k3932, n3933, h3934, r3935, g3936, t3937⟩ := hqr3929
    have hR := r3935
    have hCs := h3934
    obtain ⟨k3938, n3939, hGP, hgk, hgn⟩ : ∃ k9 n9, Gr H0 _ k9 n9 ∧ 35 * k9 ≤ n9 ∧ n9 + PotN LN ≤ PotN L3931 := ⟨_, _, g3936.1, g3936.2.1, g3936.2.2⟩
    have hp0 := hR0.pot
    have hp1 := hR.pot
    refine W.tight (k := k3938) (n := n3939) (by rw [hH0]; exact hGP) ?_
    have hbt := hbt.tr hKZo t3937
    refine lv_i2l hx hb dL_player_8 rfl ?_
    refine gn_l (fun y3940 => ?_)
    obtain ⟨hb3941, e3941, hat3941, hk3941⟩ := hT.o29 ho.1
    obtain ⟨g3941, rfl⟩ := hk3941
    have hP : va_P D vwCl [(o, .inl (cs 3, 1, .inr (.inl g3941)))] _ := va_P.cons hat3941 va_P.nil
    have hB : Bx B0 D _ [(o, .inl (cs 3, 1, .inr (.inl g3941)))] [] _ _ := Bx.of (fun a => (κr3929 a).1) hL hP (fa_c hb3941 fa_n) (by simp only [List.map_cons, List.map_nil, ho.1]; decide)
    refine b_l hx hb hN hB 0 rfl (vp_in_nI (n := 0) (N := 1) (by omega) (by omega)) (.inl rfl) dL_player_9 (fun H locs hB => ?_)
    rw [(show (0 : Int32).toNatClampNeg = 0 from nI_clamp (n := 0) (by omega))] at hB
    have hB : Bx B0 D _ [(o, .inl (cs 3, 1, .inr (.inl (vp_updL g3941 0 y3940))))] [o] _ _ := hB
    generalize (vp_updL g3941 0 y3940) = g3942 at hB
    refine lv_goto (tgt := 21) hx hb dL_player_10 (by decide) ?_
    refine lv_iconst (v := 0) hx hb dL_player_21 (by decide) ?_
    have hR := hR.fr hT trivial (Fr.close (S := [13]) Fr.rf hB (fa_c (by simp [ho.2]) fa_n)) (by decide)
    have hbt := hbt.fr hKW.z hT (hT.rd hw) (Fr.close (S := [13]) Fr.rf hB (fa_c (by simp [ho.2]) fa_n)) (by decide) (by decide)
    have hT : WT B0 D cs T κr3929 _ := hT.close hB ⟨⟨0, _, rfl, ok_29 ho.1 ⟨_, rfl⟩⟩, trivial⟩
    have hL : OkL B0 _ := hB.2.2.2.2.2
    have hP : va_P D vwCl [(o, .inl (cs 3, 1, .inr (.inl g3942)))] _ := hB.1
    refine W.know (fun hg => ?_)
    rw [hH0] at hg
    exact en_i hx hb hr hlocks hL rfl (show k3938 ≤ ((336 * sumN C 16 + 145000 - PotN LN) / 35) by omega) (show n3939 ≤ (336 * sumN C 16 + 145000 - PotN LN) by omega) dL_player_22 (⟨_, hKW.z, hT, hKW.1.t2 hrd0 (by decide), by rw [hKW.2 _ (by rw [hrd0.1]; decide) (by rw [hrd0.2]; decide)], _, _, _, _, hCs, hR, hg, by omega, by omega, hbt⟩)
theorem hdX8_link_v : yX8_link.cls = RX8 ∧ yX8_link.cls ≠ "java/lang/invoke/MethodHandle" ∧ yX8_link.cls ≠ "java/lang/invoke/VarHandle" ∧ (parseMethodDescriptor yX8_link.desc).map (fun d => d.parameters.length) = some 2 := by decide +kernel
theorem mL_link_1 : (.classLink RL 22 "java/lang/IndexOutOfBoundsException" : Cond) ∈ wsL_link := List.mem_of_getElem? (i := 1) (by decide +kernel)
set_option maxHeartbeats 4000000 in
set_option maxRecDepth 100000 in
theorem c_L_link {l : Launch} (hlt : l.stackTraces = false) {D : va_G} {cs : Nat → ClassId} {B0 T : Nat} {κ : KM} {H0 : Heap} (hT : WT B0 D cs T κ H0) {w o : Nat} (hw : T2 κ w 9 13) (ho : T2 κ o 29 13) {C : Nat → Nat} {LN : Nat → Nat → Nat} (hR : RQ D cs κ H0 C LN er) (hC : sumN C 16 + 24 ≤ 12400) {x : Int32} {y : Int32} : KC l yL_link wsL_link 8 143 ((336 * sumN C 16 + 145000 - PotN LN) / 35) (336 * sumN C 16 + 145000 - PotN LN) D cs B0 H0 [.ref w, .int x, .int y, .ref o] (Qi (fun _ H => ∃ κ1, KZ κ κ1 ∧ WT B0 D cs T κ1 H ∧ T2 κ1 (cs 450) 6 10 ∧ ((κ1 (cs 450)).2.2.1 = (κ (cs 450)).2.2.1) ∧ ∃ C1 LN1 k n, sumN C1 16 ≤ sumN C 16 + 24 ∧ RQ D cs κ1 H C1 LN1 er ∧ Gr H0 H k n ∧ 35 * k ≤ n + 35 ∧ n + PotN LN ≤ PotN LN1 + 714 ∧ BTK D cs κ H0 H)) := by
  refine KC.ofH (hh := [(0, 10, 13, 22)]) cL_link 5 (some .int) (by decide) rfl (Nat.le_of_ble_eq_true rfl) ?_
  intro p e s m below meth c ls hx hb hr hml hown hts hlocks htab hN hE hH0 hl
  have hown : s.vm.findClass RL = some m.cls := hown
  have hl : lv_has ls 5 [(0, .ref w), (1, .int x), (2, .int y), (3, .ref o)] := hl
  have hL : OkL B0 [] := OkL.nil
  have hGN : 35 * 0 ≤ 0 ∧ 0 + PotN LN ≤ PotN LN := ⟨Nat.le_refl _, by omega⟩
  have hs0 := hR.pot
  have hrd0 := hT.rd hw
  have hR0 := hR
  have hbt : BTK D cs κ H0 H0 := BTK.rf
  refine lv_aload_n hx hb dL_link_0 rfl (lv_at hl 3 rfl) ?_
  refine lv_iconst (v := 0) hx hb dL_link_1 (by decide) ?_
  refine lv_aload_n hx hb dL_link_2 rfl (lv_at hl 0 rfl) ?_
  refine lv_iload_n hx hb dL_link_3 rfl (lv_at hl 1 rfl) ?_
  refine lv_iload_n hx hb dL_link_4 rfl (lv_at hl 2 rfl) ?_
  refine ct_V (As := [.int x, .int y]) (rest := [.int 0, .ref o]) (b := w) ⟨hx, hb, hml, hown, hts⟩ (c_X8_link hlt hT (w := w) hw (x := x) (y := y) hR) (cwV 2 hts gL_link_X8_link rfl rfl rfl hdX8_link_v ⟨Nat.le_of_ble_eq_true rfl, Nat.le_of_ble_eq_true rfl⟩) hN hE hL (rcv9 hN hT hw.1) rfl rfl hl.1 (Nat.le_of_ble_eq_true rfl) dL_link_5 (show 0 + ((336 * sumN C 16 + 137000 - PotN LN) / 35) ≤ ((336 * sumN C 16 + 145000 - PotN LN) / 35) by omega) (show 0 + (336 * sumN C 16 + 137000 - PotN LN) ≤ (336 * sumN C 16 + 145000 - PotN LN) by omega) (fun E9 q9 ce9 H1 locs hL hq h1 h2 h3 => ?_) (fun v9 H1 locs hL hqr3943 => ?_)
  · have hTQ := hq
    obtain rfl : E9 = "java/lang/IndexOutOfBoundsException" := by simpa using hTQ.1
    refine vx_catch hown [] ⟨0, 10, 13, 22⟩ [] htab (fun z h => nomatch h) rfl (by decide) (hts _ mL_link_1) (va_Nw.use rfl (hN.2.2.2.2.2.2.2.1 "java/lang/IndexOutOfBoundsException" (List.mem_of_getElem? (i := 2) rfl))) h1 h2 h3 ?_
    refine W.eq (g2 := F0 m 13 ls [.ref q9]) rfl ?_
    refine W.tight (k := 1) (n := 6) (by rw [hH0]; exact hTQ.2.2.2) ?_
    have hR := hR.fr hT trivial hTQ.fr (by decide)
    have hbt := hbt.fr KZ.rf hT (hT.rd hw) hTQ.fr (by decide) (by decide)
    have hT := hTQ.wt hT
    refine lv_astore (lv' := [(4, .ref q9), (0, .ref w), (1, .int x), (2, .int y), (3, .ref o)]) hx hb dL_link_13 hl (by decide) rfl (fun ls hl => ?_)
    refine lv_iconst (v := 1) hx hb dL_link_15 (by decide) ?_
    refine W.know (fun hg => ?_)
    rw [hH0] at hg
    exact en_i hx hb hr hlocks hL rfl (show 1 ≤ ((336 * sumN C 16 + 145000 - PotN LN) / 35) by omega) (show 6 ≤ (336 * sumN C 16 + 145000 - PotN LN) by omega) dL_link_16 (⟨κ, KZ.rf, hT, hrd0, rfl, C, LN, 1, 6, Nat.le_add_right _ _, hR, hg, by decide, by omega, hbt⟩)
  · have htr9 : True := trivial
    obtain ⟨r3943, rfl, hqr3943⟩ := hqr3943
    refine W.eq (g2 := F0 m 8 ls [.int r3943, .int 0, .ref o]) rfl ?_
    obtain ⟨κr3943, hxr3943, hT1, hqr3943⟩ := hqr3943
    have hxfr3943 := hxr3943.1
    have hKZo : KZ κ κ := KZ.rf
    have hT := hT1
    have hKF : KF κ κr3943 := hxfr3943
    have hKW : KW κ κr3943 := hxr3943
    have hw := (KF.t2 hxfr3943 hw (by decide))
    have ho := (KF.t2 hxfr3943 ho (by decide))
    obtain ⟨C3944, L3945, k3946, n3947, h3948, r3949, g3950, t3951⟩ := hqr3943
    have hR := r3949
    have hCs := h3948
    obtain ⟨k3952, n3953, hGP, hgk, hgn⟩ : ∃ k9 n9, Gr H0 _ k9 n9 ∧ 35 * k9 ≤ n9 ∧ n9 + PotN LN ≤ PotN L3945 := ⟨_, _, g3950.1, g3950.2.1, g3950.2.2⟩
    have hp0 := hR0.pot
    have hp1 := hR.pot
    refine W.tight (k := k3952) (n := n3953) (by rw [hH0]; exact hGP) ?_
    have hbt := hbt.tr hKZo t3951
    refine lv_i2l hx hb dL_link_8 rfl ?_
    refine gn_l (fun y3954 => ?_)
    obtain ⟨hb3955, e3955, hat3955, hk3955⟩ := hT.o29 ho.1
    obtain ⟨g3955, rfl⟩ := hk3955
    have hP : va_P D vwCl [(o, .inl (cs 3, 1, .inr (.inl g3955)))] _ := va_P.cons hat3955 va_P.nil
    have hB : Bx B0 D _ [(o, .inl (cs 3, 1, .inr (.inl g3955)))] [] _ _ := Bx.of (fun a => (κr3943 a).1) hL hP (fa_c hb3955 fa_n) (by simp only [List.map_cons, List.map_nil, ho.1]; decide)
    refine b_l hx hb hN hB 0 rfl (vp_in_nI (n := 0) (N := 1) (by omega) (by omega)) (.inl rfl) dL_link_9 (fun H locs hB => ?_)
    rw [(show (0 : Int32).toNatClampNeg = 0 from nI_clamp (n := 0) (by omega))] at hB
    have hB : Bx B0 D _ [(o, .inl (cs 3, 1, .inr (.inl (vp_updL g3955 0 y3954))))] [o] _ _ := hB
    generalize (vp_updL g3955 0 y3954) = g3956 at hB
    refine lv_goto (tgt := 17) hx hb dL_link_10 (by decide) ?_
    refine lv_iconst (v := 0) hx hb dL_link_17 (by decide) ?_
    have hR := hR.fr hT trivial (Fr.close (S := [13]) Fr.rf hB (fa_c (by simp [ho.2]) fa_n)) (by decide)
    have hbt := hbt.fr hKW.z hT (hT.rd hw) (Fr.close (S := [13]) Fr.rf hB (fa_c (by simp [ho.2]) fa_n)) (by decide) (by decide)
    have hT : WT B0 D cs T κr3943 _ := hT.close hB ⟨⟨0, _, rfl, ok_29 ho.1 ⟨_, rfl⟩⟩, trivial⟩
    have hL : OkL B0 _ := hB.2.2.2.2.2
    have hP : va_P D vwCl [(o, .inl (cs 3, 1, .inr (.inl g3956)))] _ := hB.1
    refine W.know (fun hg => ?_)
    rw [hH0] at hg
    exact en_i hx hb hr hlocks hL rfl (show k3952 ≤ ((336 * sumN C 16 + 145000 - PotN LN) / 35) by omega) (show n3953 ≤ (336 * sumN C 16 + 145000 - PotN LN) by omega) dL_link_18 (⟨_, hKW.z, hT, hKW.1.t2 hrd0 (by decide), by rw [hKW.2 _ (by rw [hrd0.1]; decide) (by rw [hrd0.2]; decide)], _, _, _, _, hCs, hR, hg, by omega, by omega, hbt⟩)
theorem hdX8_message_v : yX8_message.cls = RX8 ∧ yX8_message.cls ≠ "java/lang/invoke/MethodHandle" ∧ yX8_message.cls ≠ "java/lang/invoke/VarHandle" ∧ (parseMethodDescriptor yX8_message.desc).map (fun d => d.parameters.length) = some 2 := by decide +kernel
theorem mL_message_1 : (.classLink RL 30 "java/util/NoSuchElementException" : Cond) ∈ wsL_message := List.mem_of_getElem? (i := 1) (by decide +kernel)
theorem mL_message_2 : (.classLink RL 13 "java/lang/IllegalArgumentException" : Cond) ∈ wsL_message := List.mem_of_getElem? (i := 2) (by decide +kernel)
set_option maxHeartbeats 4000000 in
set_option maxRecDepth 100000 in
theorem c_L_message {l : Launch} (hlt : l.stackTraces = false) {D : va_G} {cs : Nat → ClassId} {B0 T : Nat} {κ : KM} {H0 : Heap} (hT : WT B0 D cs T κ H0) {w o : Nat} (hw : T2 κ w 9 13) (ho : T2 κ o 29 13) {C : Nat → Nat} {LN : Nat → Nat → Nat} (hR : RQ D cs κ H0 C LN er) (hC : sumN C 16 + 24 ≤ 12400) {x : Int32} {y : Int32} : KC l yL_message wsL_message 8 144 ((336 * sumN C 16 + 145000 - PotN LN) / 35) (336 * sumN C 16 + 145000 - PotN LN) D cs B0 H0 [.ref w, .int x, .int y, .ref o] (Qi (fun _ H => ∃ κ1, KZ κ κ1 ∧ WT B0 D cs T κ1 H ∧ T2 κ1 (cs 450) 6 10 ∧ ((κ1 (cs 450)).2.2.1 = (κ (cs 450)).2.2.1) ∧ ∃ C1 LN1 k n, sumN C1 16 ≤ sumN C 16 + 24 ∧ RQ D cs κ1 H C1 LN1 er ∧ Gr H0 H k n ∧ 35 * k ≤ n + 35 ∧ n + PotN LN ≤ PotN LN1 + 714 ∧ BTK D cs κ H0 H)) := by
  refine KC.ofH (hh := [(0, 10, 13, 30), (0, 10, 17, 13)]) cL_message 5 (some .int) (by decide) rfl (Nat.le_of_ble_eq_true rfl) ?_
  intro p e s m below meth c ls hx hb hr hml hown hts hlocks htab hN hE hH0 hl
  have hown : s.vm.findClass RL = some m.cls := hown
  have hl : lv_has ls 5 [(0, .ref w), (1, .int x), (2, .int y), (3, .ref o)] := hl
  have hL : OkL B0 [] := OkL.nil
  have hGN : 35 * 0 ≤ 0 ∧ 0 + PotN LN ≤ PotN LN := ⟨Nat.le_refl _, by omega⟩
  have hs0 := hR.pot
  have hrd0 := hT.rd hw
  have hR0 := hR
  have hbt : BTK D cs κ H0 H0 := BTK.rf
  refine lv_aload_n hx hb dL_message_0 rfl (lv_at hl 3 rfl) ?_
  refine lv_iconst (v := 0) hx hb dL_message_1 (by decide) ?_
  refine lv_aload_n hx hb dL_message_2 rfl (lv_at hl 0 rfl) ?_
  refine lv_iload_n hx hb dL_message_3 rfl (lv_at hl 1 rfl) ?_
  refine lv_iload_n hx hb dL_message_4 rfl (lv_at hl 2 rfl) ?_
  refine ct_V (As := [.int x, .int y]) (rest := [.int 0, .ref o]) (b := w) ⟨hx, hb, hml, hown, hts⟩ (c_X8_message hlt hT (w := w) hw (x := x) (y := y) hR) (cwV 2 hts gL_message_X8_message rfl rfl rfl hdX8_message_v ⟨Nat.le_of_ble_eq_true rfl, Nat.le_of_ble_eq_true rfl⟩) hN hE hL (rcv9 hN hT hw.1) rfl rfl hl.1 (Nat.le_of_ble_eq_true rfl) dL_message_5 (show 0 + ((336 * sumN C 16 + 137000 - PotN LN) / 35) ≤ ((336 * sumN C 16 + 145000 - PotN LN) / 35) by omega) (show 0 + (336 * sumN C 16 + 137000 - PotN LN) ≤ (336 * sumN C 16 + 145000 - PotN LN) by omega) (fun E9 q9 ce9 H1 locs hL hq h1 h2 h3 => ?_) (fun v9 H1 locs hL hqr3957 => ?_)
  · have hTQ := hq
    rcases (by simpa using hTQ.1 : E9 = "java/util/NoSuchElementException" ∨ E9 = "java/lang/IllegalArgumentException") with rfl | rfl
    · refine vx_catch hown [] ⟨0, 10, 13, 30⟩ [⟨0, 10, 17, 13⟩] htab (fun z h => nomatch h) rfl (by decide) (hts _ mL_message_1) (va_Nw.use rfl (hN.2.2.2.2.2.2.2.1 "java/util/NoSuchElementException" (List.mem_of_getElem? (i := 3) rfl))) h1 h2 h3 ?_
      refine W.eq (g2 := F0 m 13 ls [.ref q9]) rfl ?_
      refine W.tight (k := 1) (n := 6) (by rw [hH0]; exact hTQ.2.2.2) ?_
      have hR := hR.fr hT trivial hTQ.fr (by decide)
      have hbt := hbt.fr KZ.rf hT (hT.rd hw) hTQ.fr (by decide) (by decide)
      have hT := hTQ.wt hT
      refine lv_astore (lv' := [(4, .ref q9), (0, .ref w), (1, .int x), (2, .int y), (3, .ref o)]) hx hb dL_message_13 hl (by decide) rfl (fun ls hl => ?_)
      refine lv_iconst (v := 1) hx hb dL_message_15 (by decide) ?_
      refine W.know (fun hg => ?_)
      rw [hH0] at hg
      exact en_i hx hb hr hlocks hL rfl (show 1 ≤ ((336 * sumN C 16 + 145000 - PotN LN) / 35) by omega) (show 6 ≤ (336 * sumN C 16 + 145000 - PotN LN) by omega) dL_message_16 (⟨κ, KZ.rf, hT, hrd0, rfl, C, LN, 1, 6, Nat.le_add_right _ _, hR, hg, by decide, by omega, hbt⟩)
    · refine vx_catch hown [⟨0, 10, 13, 30⟩] ⟨0, 10, 17, 13⟩ [] htab (fun z h => by rw [List.mem_singleton.mp h]; exact Or.inr ⟨by decide, "java/util/NoSuchElementException", hts _ mL_message_1, hN.2.2.2.2.2.2.2.2.1 ("java/lang/IllegalArgumentException", "java/util/NoSuchElementException") (by decide +kernel)⟩) rfl (by decide) (hts _ mL_message_2) (va_Nw.use rfl (hN.2.2.2.2.2.2.2.1 "java/lang/IllegalArgumentException" (List.mem_of_getElem? (i := 0) rfl))) h1 h2 h3 ?_
      refine W.eq (g2 := F0 m 17 ls [.ref q9]) rfl ?_
      refine W.tight (k := 1) (n := 6) (by rw [hH0]; exact hTQ.2.2.2) ?_
      have hR := hR.fr hT trivial hTQ.fr (by decide)
      have hbt := hbt.fr KZ.rf hT (hT.rd hw) hTQ.fr (by decide) (by decide)
      have hT := hTQ.wt hT
      refine lv_astore (lv' := [(4, .ref q9), (0, .ref w), (1, .int x), (2, .int y), (3, .ref o)]) hx hb dL_message_17 hl (by decide) rfl (fun ls hl => ?_)
      refine lv_iconst (v := 2) hx hb dL_message_19 (by decide) ?_
      refine W.know (fun hg => ?_)
      rw [hH0] at hg
      exact en_i hx hb hr hlocks hL rfl (show 1 ≤ ((336 * sumN C 16 + 145000 - PotN LN) / 35) by omega) (show 6 ≤ (336 * sumN C 16 + 145000 - PotN LN) by omega) dL_message_20 (⟨κ, KZ.rf, hT, hrd0, rfl, C, LN, 1, 6, Nat.le_add_right _ _, hR, hg, by decide, by omega, hbt⟩)
  · have htr9 : True := trivial
    obtain ⟨r3957, rfl, hqr3957⟩ := hqr3957
    refine W.eq (g2 := F0 m 8 ls [.int r3957, .int 0, .ref o]) rfl ?_
    obtain ⟨κr3957, hxr3957, hT1, hqr3957⟩ := hqr3957
    have hxfr3957 := hxr3957.1
    have hKZo : KZ κ κ := KZ.rf
    have hT := hT1
    have hKF : KF κ κr3957 := hxfr3957
    have hKW : KW κ κr3957 := hxr3957
    have hw := (KF.t2 hxfr3957 hw (by decide))
    have ho := (KF.t2 hxfr3957 ho (by decide))
    obtain ⟨C3958, L3959, k3960, n3961, h3962, r3963, g3964, t3965⟩ := hqr3957
    have hR := r3963
    have hCs := h3962
    obtain ⟨k3966, n3967, hGP, hgk, hgn⟩ : ∃ k9 n9, Gr H0 _ k9 n9 ∧ 35 * k9 ≤ n9 ∧ n9 + PotN LN ≤ PotN L3959 := ⟨_, _, g3964.1, g3964.2.1, g3964.2.2⟩
    have hp0 := hR0.pot
    have hp1 := hR.pot
    refine W.tight (k := k3966) (n := n3967) (by rw [hH0]; exact hGP) ?_
    have hbt := hbt.tr hKZo t3965
    refine lv_i2l hx hb dL_message_8 rfl ?_
    refine gn_l (fun y3968 => ?_)
    obtain ⟨hb3969, e3969, hat3969, hk3969⟩ := hT.o29 ho.1
    obtain ⟨g3969, rfl⟩ := hk3969
    have hP : va_P D vwCl [(o, .inl (cs 3, 1, .inr (.inl g3969)))] _ := va_P.cons hat3969 va_P.nil
    have hB : Bx B0 D _ [(o, .inl (cs 3, 1, .inr (.inl g3969)))] [] _ _ := Bx.of (fun a => (κr3957 a).1) hL hP (fa_c hb3969 fa_n) (by simp only [List.map_cons, List.map_nil, ho.1]; decide)
    refine b_l hx hb hN hB 0 rfl (vp_in_nI (n := 0) (N := 1) (by omega) (by omega)) (.inl rfl) dL_message_9 (fun H locs hB => ?_)
    rw [(show (0 : Int32).toNatClampNeg = 0 from nI_clamp (n := 0) (by omega))] at hB
    have hB : Bx B0 D _ [(o, .inl (cs 3, 1, .inr (.inl (vp_updL g3969 0 y3968))))] [o] _ _ := hB
    generalize (vp_updL g3969 0 y3968) = g3970 at hB
    refine lv_goto (tgt := 21) hx hb dL_message_10 (by decide) ?_
    refine lv_iconst (v := 0) hx hb dL_message_21 (by decide) ?_
    have hR := hR.fr hT trivial (Fr.close (S := [13]) Fr.rf hB (fa_c (by simp [ho.2]) fa_n)) (by decide)
    have hbt := hbt.fr hKW.z hT (hT.rd hw) (Fr.close (S := [13]) Fr.rf hB (fa_c (by simp [ho.2]) fa_n)) (by decide) (by decide)
    have hT : WT B0 D cs T κr3957 _ := hT.close hB ⟨⟨0, _, rfl, ok_29 ho.1 ⟨_, rfl⟩⟩, trivial⟩
    have hL : OkL B0 _ := hB.2.2.2.2.2
    have hP : va_P D vwCl [(o, .inl (cs 3, 1, .inr (.inl g3970)))] _ := hB.1
    refine W.know (fun hg => ?_)
    rw [hH0] at hg
    exact en_i hx hb hr hlocks hL rfl (show k3966 ≤ ((336 * sumN C 16 + 145000 - PotN LN) / 35) by omega) (show n3967 ≤ (336 * sumN C 16 + 145000 - PotN LN) by omega) dL_message_22 (⟨_, hKW.z, hT, hKW.1.t2 hrd0 (by decide), by rw [hKW.2 _ (by rw [hrd0.1]; decide) (by rw [hrd0.2]; decide)], _, _, _, _, hCs, hR, hg, by omega, by omega, hbt⟩)
theorem hdX8_proposal_v : yX8_proposal.cls = RX8 ∧ yX8_proposal.cls ≠ "java/lang/invoke/MethodHandle" ∧ yX8_proposal.cls ≠ "java/lang/invoke/VarHandle" ∧ (parseMethodDescriptor yX8_proposal.desc).map (fun d => d.parameters.length) = some 1 := by decide +kernel
theorem mL_proposal_1 : (.classLink RL 30 "java/util/NoSuchElementException" : Cond) ∈ wsL_proposal := List.mem_of_getElem? (i := 1) (by decide +kernel)
theorem mL_proposal_2 : (.classLink RL 13 "java/lang/IllegalArgumentException" : Cond) ∈ wsL_proposal := List.mem_of_getElem? (i := 2) (by decide +kernel)
set_option maxHeartbeats 4000000 in
set_option maxRecDepth 100000 in
theorem c_L_proposal {l : Launch} (hlt : l.stackTraces = false) {D : va_G} {cs : Nat → ClassId} {B0 T : Nat} {κ : KM} {H0 : Heap} (hT : WT B0 D cs T κ H0) {w o : Nat} (hw : T2 κ w 9 13) (ho : T2 κ o 29 13) {C : Nat → Nat} {LN : Nat → Nat → Nat} (hR : RQ D cs κ H0 C LN er) (hC : sumN C 16 + 24 ≤ 12400) {x : Int32} : KC l yL_proposal wsL_proposal 8 143 ((336 * sumN C 16 + 145000 - PotN LN) / 35) (336 * sumN C 16 + 145000 - PotN LN) D cs B0 H0 [.ref w, .int x, .ref o] (Qi (fun _ H => ∃ κ1, KZ κ κ1 ∧ WT B0 D cs T κ1 H ∧ T2 κ1 (cs 450) 6 10 ∧ ((κ1 (cs 450)).2.2.1 = (κ (cs 450)).2.2.1) ∧ ∃ C1 LN1 k n, sumN C1 16 ≤ sumN C 16 + 24 ∧ RQ D cs κ1 H C1 LN1 er ∧ Gr H0 H k n ∧ 35 * k ≤ n + 35 ∧ n + PotN LN ≤ PotN LN1 + 714 ∧ BTK D cs κ H0 H)) := by
  refine KC.ofH (hh := [(0, 9, 12, 30), (0, 9, 15, 13)]) cL_proposal 4 (some .int) (by decide) rfl (Nat.le_of_ble_eq_true rfl) ?_
  intro p e s m below meth c ls hx hb hr hml hown hts hlocks htab hN hE hH0 hl
  have hown : s.vm.findClass RL = some m.cls := hown
  have hl : lv_has ls 4 [(0, .ref w), (1, .int x), (2, .ref o)] := hl
  have hL : OkL B0 [] := OkL.nil
  have hGN : 35 * 0 ≤ 0 ∧ 0 + PotN LN ≤ PotN LN := ⟨Nat.le_refl _, by omega⟩
  have hs0 := hR.pot
  have hrd0 := hT.rd hw
  have hR0 := hR
  have hbt : BTK D cs κ H0 H0 := BTK.rf
  refine lv_aload_n hx hb dL_proposal_0 rfl (lv_at hl 2 rfl) ?_
  refine lv_iconst (v := 0) hx hb dL_proposal_1 (by decide) ?_
  refine lv_aload_n hx hb dL_proposal_2 rfl (lv_at hl 0 rfl) ?_
  refine lv_iload_n hx hb dL_proposal_3 rfl (lv_at hl 1 rfl) ?_
  refine ct_V (As := [.int x]) (rest := [.int 0, .ref o]) (b := w) ⟨hx, hb, hml, hown, hts⟩ (c_X8_proposal hlt hT (w := w) hw (x := x) hR) (cwV 1 hts gL_proposal_X8_proposal rfl rfl rfl hdX8_proposal_v ⟨Nat.le_of_ble_eq_true rfl, Nat.le_of_ble_eq_true rfl⟩) hN hE hL (rcv9 hN hT hw.1) rfl rfl hl.1 (Nat.le_of_ble_eq_true rfl) dL_proposal_4 (show 0 + ((336 * sumN C 16 + 137000 - PotN LN) / 35) ≤ ((336 * sumN C 16 + 145000 - PotN LN) / 35) by omega) (show 0 + (336 * sumN C 16 + 137000 - PotN LN) ≤ (336 * sumN C 16 + 145000 - PotN LN) by omega) (fun E9 q9 ce9 H1 locs hL hq h1 h2 h3 => ?_) (fun v9 H1 locs hL hqr3971 => ?_)
  · have hTQ := hq
    rcases (by simpa using hTQ.1 : E9 = "java/util/NoSuchElementException" ∨ E9 = "java/lang/IllegalArgumentException") with rfl | rfl
    · refine vx_catch hown [] ⟨0, 9, 12, 30⟩ [⟨0, 9, 15, 13⟩] htab (fun z h => nomatch h) rfl (by decide) (hts _ mL_proposal_1) (va_Nw.use rfl (hN.2.2.2.2.2.2.2.1 "java/util/NoSuchElementException" (List.mem_of_getElem? (i := 3) rfl))) h1 h2 h3 ?_
      refine W.eq (g2 := F0 m 12 ls [.ref q9]) rfl ?_
      refine W.tight (k := 1) (n := 6) (by rw [hH0]; exact hTQ.2.2.2) ?_
      have hR := hR.fr hT trivial hTQ.fr (by decide)
      have hbt := hbt.fr KZ.rf hT (hT.rd hw) hTQ.fr (by decide) (by decide)
      have hT := hTQ.wt hT
      refine lv_astore_n (lv' := [(3, .ref q9), (0, .ref w), (1, .int x), (2, .ref o)]) hx hb dL_proposal_12 rfl hl (by decide) rfl (fun ls hl => ?_)
      refine lv_iconst (v := 1) hx hb dL_proposal_13 (by decide) ?_
      refine W.know (fun hg => ?_)
      rw [hH0] at hg
      exact en_i hx hb hr hlocks hL rfl (show 1 ≤ ((336 * sumN C 16 + 145000 - PotN LN) / 35) by omega) (show 6 ≤ (336 * sumN C 16 + 145000 - PotN LN) by omega) dL_proposal_14 (⟨κ, KZ.rf, hT, hrd0, rfl, C, LN, 1, 6, Nat.le_add_right _ _, hR, hg, by decide, by omega, hbt⟩)
    · refine vx_catch hown [⟨0, 9, 12, 30⟩] ⟨0, 9, 15, 13⟩ [] htab (fun z h => by rw [List.mem_singleton.mp h]; exact Or.inr ⟨by decide, "java/util/NoSuchElementException", hts _ mL_proposal_1, hN.2.2.2.2.2.2.2.2.1 ("java/lang/IllegalArgumentException", "java/util/NoSuchElementException") (by decide +kernel)⟩) rfl (by decide) (hts _ mL_proposal_2) (va_Nw.use rfl (hN.2.2.2.2.2.2.2.1 "java/lang/IllegalArgumentException" (List.mem_of_getElem? (i := 0) rfl))) h1 h2 h3 ?_
      refine W.eq (g2 := F0 m 15 ls [.ref q9]) rfl ?_
      refine W.tight (k := 1) (n := 6) (by rw [hH0]; exact hTQ.2.2.2) ?_
      have hR := hR.fr hT trivial hTQ.fr (by decide)
      have hbt := hbt.fr KZ.rf hT (hT.rd hw) hTQ.fr (by decide) (by decide)
      have hT := hTQ.wt hT
      refine lv_astore_n (lv' := [(3, .ref q9), (0, .ref w), (1, .int x), (2, .ref o)]) hx hb dL_proposal_15 rfl hl (by decide) rfl (fun ls hl => ?_)
      refine lv_iconst (v := 2) hx hb dL_proposal_16 (by decide) ?_
      refine W.know (fun hg => ?_)
      rw [hH0] at hg
      exact en_i hx hb hr hlocks hL rfl (show 1 ≤ ((336 * sumN C 16 + 145000 - PotN LN) / 35) by omega) (show 6 ≤ (336 * sumN C 16 + 145000 - PotN LN) by omega) dL_proposal_17 (⟨κ, KZ.rf, hT, hrd0, rfl, C, LN, 1, 6, Nat.le_add_right _ _, hR, hg, by decide, by omega, hbt⟩)
  · have htr9 : True := trivial
    obtain ⟨r3971, rfl, hqr3971⟩ := hqr3971
    refine W.eq (g2 := F0 m 7 ls [.int r3971, .int 0, .ref o]) rfl ?_
    obtain ⟨κr3971, hxr3971, hT1, hqr3971⟩ := hqr3971
    have hxfr3971 := hxr3971.1
    have hKZo : KZ κ κ := KZ.rf
    have hT := hT1
    have hKF : KF κ κr3971 := hxfr3971
    have hKW : KW κ κr3971 := hxr3971
    have hw := (KF.t2 hxfr3971 hw (by decide))
    have ho := (KF.t2 hxfr3971 ho (by decide))
    obtain ⟨C3972, L3973, k3974, n3975, h3976, r3977, g3978, t3979⟩ := hqr3971
    have hR := r3977
    have hCs := h3976
    obtain ⟨k3980, n3981, hGP, hgk, hgn⟩ : ∃ k9 n9, Gr H0 _ k9 n9 ∧ 35 * k9 ≤ n9 ∧ n9 + PotN LN ≤ PotN L3973 := ⟨_, _, g3978.1, g3978.2.1, g3978.2.2⟩
    have hp0 := hR0.pot
    have hp1 := hR.pot
    refine W.tight (k := k3980) (n := n3981) (by rw [hH0]; exact hGP) ?_
    have hbt := hbt.tr hKZo t3979
    refine lv_i2l hx hb dL_proposal_7 rfl ?_
    refine gn_l (fun y3982 => ?_)
    obtain ⟨hb3983, e3983, hat3983, hk3983⟩ := hT.o29 ho.1
    obtain ⟨g3983, rfl⟩ := hk3983
    have hP : va_P D vwCl [(o, .inl (cs 3, 1, .inr (.inl g3983)))] _ := va_P.cons hat3983 va_P.nil
    have hB : Bx B0 D _ [(o, .inl (cs 3, 1, .inr (.inl g3983)))] [] _ _ := Bx.of (fun a => (κr3971 a).1) hL hP (fa_c hb3983 fa_n) (by simp only [List.map_cons, List.map_nil, ho.1]; decide)
    refine b_l hx hb hN hB 0 rfl (vp_in_nI (n := 0) (N := 1) (by omega) (by omega)) (.inl rfl) dL_proposal_8 (fun H locs hB => ?_)
    rw [(show (0 : Int32).toNatClampNeg = 0 from nI_clamp (n := 0) (by omega))] at hB
    have hB : Bx B0 D _ [(o, .inl (cs 3, 1, .inr (.inl (vp_updL g3983 0 y3982))))] [o] _ _ := hB
    generalize (vp_updL g3983 0 y3982) = g3984 at hB
    refine lv_goto (tgt := 18) hx hb dL_proposal_9 (by decide) ?_
    refine lv_iconst (v := 0) hx hb dL_proposal_18 (by decide) ?_
    have hR := hR.fr hT trivial (Fr.close (S := [13]) Fr.rf hB (fa_c (by simp [ho.2]) fa_n)) (by decide)
    have hbt := hbt.fr hKW.z hT (hT.rd hw) (Fr.close (S := [13]) Fr.rf hB (fa_c (by simp [ho.2]) fa_n)) (by decide) (by decide)
    have hT : WT B0 D cs T κr3971 _ := hT.close hB ⟨⟨0, _, rfl, ok_29 ho.1 ⟨_, rfl⟩⟩, trivial⟩
    have hL : OkL B0 _ := hB.2.2.2.2.2
    have hP : va_P D vwCl [(o, .inl (cs 3, 1, .inr (.inl g3984)))] _ := hB.1
    refine W.know (fun hg => ?_)
    rw [hH0] at hg
    exact en_i hx hb hr hlocks hL rfl (show k3980 ≤ ((336 * sumN C 16 + 145000 - PotN LN) / 35) by omega) (show n3981 ≤ (336 * sumN C 16 + 145000 - PotN LN) by omega) dL_proposal_19 (⟨_, hKW.z, hT, hKW.1.t2 hrd0 (by decide), by rw [hKW.2 _ (by rw [hrd0.1]; decide) (by rw [hrd0.2]; decide)], _, _, _, _, hCs, hR, hg, by omega, by omega, hbt⟩)
theorem hdX8_foretold_v : yX8_foretold.cls = RX8 ∧ yX8_foretold.cls ≠ "java/lang/invoke/MethodHandle" ∧ yX8_foretold.cls ≠ "java/lang/invoke/VarHandle" ∧ (parseMethodDescriptor yX8_foretold.desc).map (fun d => d.parameters.length) = some 1 := by decide +kernel
theorem mL_foretold_1 : (.classLink RL 13 "java/lang/IllegalArgumentException" : Cond) ∈ wsL_foretold := List.mem_of_getElem? (i := 1) (by decide +kernel)
set_option maxHeartbeats 4000000 in
set_option maxRecDepth 100000 in
theorem c_L_foretold {l : Launch} (hlt : l.stackTraces = false) {D : va_G} {cs : Nat → ClassId} {B0 T : Nat} {κ : KM} {H0 : Heap} (hT : WT B0 D cs T κ H0) {w o : Nat} (hw : T2 κ w 9 13) (ho : T2 κ o 29 13) {C : Nat → Nat} {LN : Nat → Nat → Nat} (hR : RQ D cs κ H0 C LN er) (hC : sumN C 16 + 24 ≤ 12400) {x : Int32} : KC l yL_foretold wsL_foretold 8 223 ((336 * sumN C 16 + 145000 - PotN LN) / 35) (336 * sumN C 16 + 145000 - PotN LN) D cs B0 H0 [.ref w, .int x, .ref o] (Qi (fun _ H => ∃ κ1, KZ κ κ1 ∧ WT B0 D cs T κ1 H ∧ T2 κ1 (cs 450) 6 10 ∧ ((κ1 (cs 450)).2.2.1 = (κ (cs 450)).2.2.1) ∧ ∃ C1 LN1 k n, sumN C1 16 ≤ sumN C 16 + 24 ∧ RQ D cs κ1 H C1 LN1 er ∧ Gr H0 H k n ∧ 35 * k ≤ n + 35 ∧ n + PotN LN ≤ PotN LN1 + 714 ∧ BTK D cs κ H0 H)) := by
  refine KC.ofH (hh := [(0, 9, 12, 13)]) cL_foretold 4 (some .int) (by decide) rfl (Nat.le_of_ble_eq_true rfl) ?_
  intro p e s m below meth c ls hx hb hr hml hown hts hlocks htab hN hE hH0 hl
  have hown : s.vm.findClass RL = some m.cls := hown
  have hl : lv_has ls 4 [(0, .ref w), (1, .int x), (2, .ref o)] := hl
  have hL : OkL B0 [] := OkL.nil
  have hGN : 35 * 0 ≤ 0 ∧ 0 + PotN LN ≤ PotN LN := ⟨Nat.le_refl _, by omega⟩
  have hs0 := hR.pot
  have hrd0 := hT.rd hw
  have hR0 := hR
  have hbt : BTK D cs κ H0 H0 := BTK.rf
  refine lv_aload_n hx hb dL_foretold_0 rfl (lv_at hl 2 rfl) ?_
  refine lv_iconst (v := 0) hx hb dL_foretold_1 (by decide) ?_
  refine lv_aload_n hx hb dL_foretold_2 rfl (lv_at hl 0 rfl) ?_
  refine lv_iload_n hx hb dL_foretold_3 rfl (lv_at hl 1 rfl) ?_
  refine ct_V (As := [.int x]) (rest := [.int 0, .ref o]) (b := w) ⟨hx, hb, hml, hown, hts⟩ (c_X8_foretold hlt hT (w := w) hw (x := x) hR (by first | omega | decide | assumption)) (cwV 1 hts gL_foretold_X8_foretold rfl rfl rfl hdX8_foretold_v ⟨Nat.le_of_ble_eq_true rfl, Nat.le_of_ble_eq_true rfl⟩) hN hE hL (rcv9 hN hT hw.1) rfl rfl hl.1 (Nat.le_of_ble_eq_true rfl) dL_foretold_4 (show 0 + ((336 * sumN C 16 + 137000 - PotN LN) / 35) ≤ ((336 * sumN C 16 + 145000 - PotN LN) / 35) by omega) (show 0 + (336 * sumN C 16 + 137000 - PotN LN) ≤ (336 * sumN C 16 + 145000 - PotN LN) by omega) (fun E9 q9 ce9 H1 locs hL hq h1 h2 h3 => ?_) (fun v9 H1 locs hL hqr3985 => ?_)
  · have hTQ := hq
    obtain rfl : E9 = "java/lang/IllegalArgumentException" := by simpa using hTQ.1
    refine vx_catch hown [] ⟨0, 9, 12, 13⟩ [] htab (fun z h => nomatch h) rfl (by decide) (hts _ mL_foretold_1) (va_Nw.use rfl (hN.2.2.2.2.2.2.2.1 "java/lang/IllegalArgumentException" (List.mem_of_getElem? (i := 0) rfl))) h1 h2 h3 ?_
    refine W.eq (g2 := F0 m 12 ls [.ref q9]) rfl ?_
    refine W.tight (k := 1) (n := 6) (by rw [hH0]; exact hTQ.2.2.2) ?_
    have hR := hR.fr hT trivial hTQ.fr (by decide)
    have hbt := hbt.fr KZ.rf hT (hT.rd hw) hTQ.fr (by decide) (by decide)
    have hT := hTQ.wt hT
    refine lv_astore_n (lv' := [(3, .ref q9), (0, .ref w), (1, .int x), (2, .ref o)]) hx hb dL_foretold_12 rfl hl (by decide) rfl (fun ls hl => ?_)
    refine lv_iconst (v := 1) hx hb dL_foretold_13 (by decide) ?_
    refine W.know (fun hg => ?_)
    rw [hH0] at hg
    exact en_i hx hb hr hlocks hL rfl (show 1 ≤ ((336 * sumN C 16 + 145000 - PotN LN) / 35) by omega) (show 6 ≤ (336 * sumN C 16 + 145000 - PotN LN) by omega) dL_foretold_14 (⟨κ, KZ.rf, hT, hrd0, rfl, C, LN, 1, 6, Nat.le_add_right _ _, hR, hg, by decide, by omega, hbt⟩)
  · have htr9 : True := trivial
    obtain ⟨r3985, rfl, hqr3985⟩ := hqr3985
    refine W.eq (g2 := F0 m 7 ls [.int r3985, .int 0, .ref o]) rfl ?_
    obtain ⟨κr3985, hxr3985, hT1, hqr3985⟩ := hqr3985
    have hxfr3985 := hxr3985.1
    have hKZo : KZ κ κ := KZ.rf
    have hT := hT1
    have hKF : KF κ κr3985 := hxfr3985
    have hKW : KW κ κr3985 := hxr3985
    have hw := (KF.t2 hxfr3985 hw (by decide))
    have ho := (KF.t2 hxfr3985 ho (by decide))
    obtain ⟨C3986, L3987, k3988, n3989, h3990, r3991, g3992, t3993⟩ := hqr3985
    have hR := r3991
    have hCs := h3990
    obtain ⟨k3994, n3995, hGP, hgk, hgn⟩ : ∃ k9 n9, Gr H0 _ k9 n9 ∧ 35 * k9 ≤ n9 ∧ n9 + PotN LN ≤ PotN L3987 := ⟨_, _, g3992.1, g3992.2.1, g3992.2.2⟩
    have hp0 := hR0.pot
    have hp1 := hR.pot
    refine W.tight (k := k3994) (n := n3995) (by rw [hH0]; exact hGP) ?_
    have hbt := hbt.tr hKZo t3993
    refine lv_i2l hx hb dL_foretold_7 rfl ?_
    refine gn_l (fun y3996 => ?_)
    obtain ⟨hb3997, e3997, hat3997, hk3997⟩ := hT.o29 ho.1
    obtain ⟨g3997, rfl⟩ := hk3997
    have hP : va_P D vwCl [(o, .inl (cs 3, 1, .inr (.inl g3997)))] _ := va_P.cons hat3997 va_P.nil
    have hB : Bx B0 D _ [(o, .inl (cs 3, 1, .inr (.inl g3997)))] [] _ _ := Bx.of (fun a => (κr3985 a).1) hL hP (fa_c hb3997 fa_n) (by simp only [List.map_cons, List.map_nil, ho.1]; decide)
    refine b_l hx hb hN hB 0 rfl (vp_in_nI (n := 0) (N := 1) (by omega) (by omega)) (.inl rfl) dL_foretold_8 (fun H locs hB => ?_)
    rw [(show (0 : Int32).toNatClampNeg = 0 from nI_clamp (n := 0) (by omega))] at hB
    have hB : Bx B0 D _ [(o, .inl (cs 3, 1, .inr (.inl (vp_updL g3997 0 y3996))))] [o] _ _ := hB
    generalize (vp_updL g3997 0 y3996) = g3998 at hB
    refine lv_goto (tgt := 15) hx hb dL_foretold_9 (by decide) ?_
    refine lv_iconst (v := 0) hx hb dL_foretold_15 (by decide) ?_
    have hR := hR.fr hT trivial (Fr.close (S := [13]) Fr.rf hB (fa_c (by simp [ho.2]) fa_n)) (by decide)
    have hbt := hbt.fr hKW.z hT (hT.rd hw) (Fr.close (S := [13]) Fr.rf hB (fa_c (by simp [ho.2]) fa_n)) (by decide) (by decide)
    have hT : WT B0 D cs T κr3985 _ := hT.close hB ⟨⟨0, _, rfl, ok_29 ho.1 ⟨_, rfl⟩⟩, trivial⟩
    have hL : OkL B0 _ := hB.2.2.2.2.2
    have hP : va_P D vwCl [(o, .inl (cs 3, 1, .inr (.inl g3998)))] _ := hB.1
    refine W.know (fun hg => ?_)
    rw [hH0] at hg
    exact en_i hx hb hr hlocks hL rfl (show k3994 ≤ ((336 * sumN C 16 + 145000 - PotN LN) / 35) by omega) (show n3995 ≤ (336 * sumN C 16 + 145000 - PotN LN) by omega) dL_foretold_16 (⟨_, hKW.z, hT, hKW.1.t2 hrd0 (by decide), by rw [hKW.2 _ (by rw [hrd0.1]; decide) (by rw [hrd0.2]; decide)], _, _, _, _, hCs, hR, hg, by omega, by omega, hbt⟩)
theorem hdX8_propose_v : yX8_propose.cls = RX8 ∧ yX8_propose.cls ≠ "java/lang/invoke/MethodHandle" ∧ yX8_propose.cls ≠ "java/lang/invoke/VarHandle" ∧ (parseMethodDescriptor yX8_propose.desc).map (fun d => d.parameters.length) = some 1 := by decide +kernel
theorem mL_propose_1 : (.classLink RL 13 "java/lang/IllegalArgumentException" : Cond) ∈ wsL_propose := List.mem_of_getElem? (i := 1) (by decide +kernel)
theorem mL_propose_2 : (.classLink RL 41 "java/lang/IllegalStateException" : Cond) ∈ wsL_propose := List.mem_of_getElem? (i := 2) (by decide +kernel)
set_option maxHeartbeats 4000000 in
set_option maxRecDepth 100000 in
theorem c_L_propose {l : Launch} (hlt : l.stackTraces = false) {D : va_G} {cs : Nat → ClassId} {B0 T : Nat} {κ : KM} {H0 : Heap} (hT : WT B0 D cs T κ H0) {w o : Nat} (hw : T2 κ w 9 13) (ho : T2 κ o 29 13) {C : Nat → Nat} {LN : Nat → Nat → Nat} (hR : RQ D cs κ H0 C LN er) (hC : sumN C 16 + 24 ≤ 12400) {x : Int32} : KC l yL_propose wsL_propose 7 198 ((336 * sumN C 16 + 145000 - PotN LN) / 35) (336 * sumN C 16 + 145000 - PotN LN) D cs B0 H0 [.ref w, .int x, .ref o] (Qi (fun _ H => ∃ κ1, KZ κ κ1 ∧ WT B0 D cs T κ1 H ∧ T2 κ1 (cs 450) 6 10 ∧ ((κ1 (cs 450)).2.2.1 = (κ (cs 450)).2.2.1) ∧ ∃ C1 LN1 k n, sumN C1 16 ≤ sumN C 16 + 24 ∧ RQ D cs κ1 H C1 LN1 er ∧ Gr H0 H k n ∧ 35 * k ≤ n + 35 ∧ n + PotN LN ≤ PotN LN1 + 714 ∧ BTK D cs κ H0 H)) := by
  refine KC.ofH (hh := [(0, 9, 12, 13), (0, 9, 15, 41)]) cL_propose 4 (some .int) (by decide) rfl (Nat.le_of_ble_eq_true rfl) ?_
  intro p e s m below meth c ls hx hb hr hml hown hts hlocks htab hN hE hH0 hl
  have hown : s.vm.findClass RL = some m.cls := hown
  have hl : lv_has ls 4 [(0, .ref w), (1, .int x), (2, .ref o)] := hl
  have hL : OkL B0 [] := OkL.nil
  have hGN : 35 * 0 ≤ 0 ∧ 0 + PotN LN ≤ PotN LN := ⟨Nat.le_refl _, by omega⟩
  have hs0 := hR.pot
  have hrd0 := hT.rd hw
  have hR0 := hR
  have hbt : BTK D cs κ H0 H0 := BTK.rf
  refine lv_aload_n hx hb dL_propose_0 rfl (lv_at hl 2 rfl) ?_
  refine lv_iconst (v := 0) hx hb dL_propose_1 (by decide) ?_
  refine lv_aload_n hx hb dL_propose_2 rfl (lv_at hl 0 rfl) ?_
  refine lv_iload_n hx hb dL_propose_3 rfl (lv_at hl 1 rfl) ?_
  refine ct_V (As := [.int x]) (rest := [.int 0, .ref o]) (b := w) ⟨hx, hb, hml, hown, hts⟩ (c_X8_propose hlt hT (w := w) hw (x := x) hR (by first | omega | decide | assumption)) (cwV 1 hts gL_propose_X8_propose rfl rfl rfl hdX8_propose_v ⟨Nat.le_of_ble_eq_true rfl, Nat.le_of_ble_eq_true rfl⟩) hN hE hL (rcv9 hN hT hw.1) rfl rfl hl.1 (Nat.le_of_ble_eq_true rfl) dL_propose_4 (show 0 + ((336 * sumN C 16 + 137000 - PotN LN) / 35) ≤ ((336 * sumN C 16 + 145000 - PotN LN) / 35) by omega) (show 0 + (336 * sumN C 16 + 137000 - PotN LN) ≤ (336 * sumN C 16 + 145000 - PotN LN) by omega) (fun E9 q9 ce9 H1 locs hL hq h1 h2 h3 => ?_) (fun v9 H1 locs hL hqr3999 => ?_)
  · have hTQ := hq
    rcases (by simpa using hTQ.1 : E9 = "java/lang/IllegalArgumentException" ∨ E9 = "java/lang/IllegalStateException") with rfl | rfl
    · refine vx_catch hown [] ⟨0, 9, 12, 13⟩ [⟨0, 9, 15, 41⟩] htab (fun z h => nomatch h) rfl (by decide) (hts _ mL_propose_1) (va_Nw.use rfl (hN.2.2.2.2.2.2.2.1 "java/lang/IllegalArgumentException" (List.mem_of_getElem? (i := 0) rfl))) h1 h2 h3 ?_
      refine W.eq (g2 := F0 m 12 ls [.ref q9]) rfl ?_
      refine W.tight (k := 1) (n := 6) (by rw [hH0]; exact hTQ.2.2.2) ?_
      have hR := hR.fr hT trivial hTQ.fr (by decide)
      have hbt := hbt.fr KZ.rf hT (hT.rd hw) hTQ.fr (by decide) (by decide)
      have hT := hTQ.wt hT
      refine lv_astore_n (lv' := [(3, .ref q9), (0, .ref w), (1, .int x), (2, .ref o)]) hx hb dL_propose_12 rfl hl (by decide) rfl (fun ls hl => ?_)
      refine lv_iconst (v := 1) hx hb dL_propose_13 (by decide) ?_
      refine W.know (fun hg => ?_)
      rw [hH0] at hg
      exact en_i hx hb hr hlocks hL rfl (show 1 ≤ ((336 * sumN C 16 + 145000 - PotN LN) / 35) by omega) (show 6 ≤ (336 * sumN C 16 + 145000 - PotN LN) by omega) dL_propose_14 (⟨κ, KZ.rf, hT, hrd0, rfl, C, LN, 1, 6, Nat.le_add_right _ _, hR, hg, by decide, by omega, hbt⟩)
    · refine vx_catch hown [⟨0, 9, 12, 13⟩] ⟨0, 9, 15, 41⟩ [] htab (fun z h => by rw [List.mem_singleton.mp h]; exact Or.inr ⟨by decide, "java/lang/IllegalArgumentException", hts _ mL_propose_1, hN.2.2.2.2.2.2.2.2.1 ("java/lang/IllegalStateException", "java/lang/IllegalArgumentException") (by decide +kernel)⟩) rfl (by decide) (hts _ mL_propose_2) (va_Nw.use rfl (hN.2.2.2.2.2.2.2.1 "java/lang/IllegalStateException" (List.mem_of_getElem? (i := 1) rfl))) h1 h2 h3 ?_
      refine W.eq (g2 := F0 m 15 ls [.ref q9]) rfl ?_
      refine W.tight (k := 1) (n := 6) (by rw [hH0]; exact hTQ.2.2.2) ?_
      have hR := hR.fr hT trivial hTQ.fr (by decide)
      have hbt := hbt.fr KZ.rf hT (hT.rd hw) hTQ.fr (by decide) (by decide)
      have hT := hTQ.wt hT
      refine lv_astore_n (lv' := [(3, .ref q9), (0, .ref w), (1, .int x), (2, .ref o)]) hx hb dL_propose_15 rfl hl (by decide) rfl (fun ls hl => ?_)
      refine lv_iconst (v := 2) hx hb dL_propose_16 (by decide) ?_
      refine W.know (fun hg => ?_)
      rw [hH0] at hg
      exact en_i hx hb hr hlocks hL rfl (show 1 ≤ ((336 * sumN C 16 + 145000 - PotN LN) / 35) by omega) (show 6 ≤ (336 * sumN C 16 + 145000 - PotN LN) by omega) dL_propose_17 (⟨κ, KZ.rf, hT, hrd0, rfl, C, LN, 1, 6, Nat.le_add_right _ _, hR, hg, by decide, by omega, hbt⟩)
  · have htr9 : True := trivial
    obtain ⟨r3999, rfl, hqr3999⟩ := hqr3999
    refine W.eq (g2 := F0 m 7 ls [.int r3999, .int 0, .ref o]) rfl ?_
    obtain ⟨κr3999, hxr3999, hT1, hqr3999⟩ := hqr3999
    have hxfr3999 := hxr3999.1
    have hKZo : KZ κ κ := KZ.rf
    have hT := hT1
    have hKF : KF κ κr3999 := hxfr3999
    have hKW : KW κ κr3999 := hxr3999
    have hw := (KF.t2 hxfr3999 hw (by decide))
    have ho := (KF.t2 hxfr3999 ho (by decide))
    obtain ⟨C4000, L4001, k4002, n4003, h4004, r4005, g4006, t4007⟩ := hqr3999
    have hR := r4005
    have hCs := h4004
    obtain ⟨k4008, n4009, hGP, hgk, hgn⟩ : ∃ k9 n9, Gr H0 _ k9 n9 ∧ 35 * k9 ≤ n9 ∧ n9 + PotN LN ≤ PotN L4001 := ⟨_, _, g4006.1, g4006.2.1, g4006.2.2⟩
    have hp0 := hR0.pot
    have hp1 := hR.pot
    refine W.tight (k := k4008) (n := n4009) (by rw [hH0]; exact hGP) ?_
    have hbt := hbt.tr hKZo t4007
    refine lv_i2l hx hb dL_propose_7 rfl ?_
    refine gn_l (fun y4010 => ?_)
    obtain ⟨hb4011, e4011, hat4011, hk4011⟩ := hT.o29 ho.1
    obtain ⟨g4011, rfl⟩ := hk4011
    have hP : va_P D vwCl [(o, .inl (cs 3, 1, .inr (.inl g4011)))] _ := va_P.cons hat4011 va_P.nil
    have hB : Bx B0 D _ [(o, .inl (cs 3, 1, .inr (.inl g4011)))] [] _ _ := Bx.of (fun a => (κr3999 a).1) hL hP (fa_c hb4011 fa_n) (by simp only [List.map_cons, List.map_nil, ho.1]; decide)
    refine b_l hx hb hN hB 0 rfl (vp_in_nI (n := 0) (N := 1) (by omega) (by omega)) (.inl rfl) dL_propose_8 (fun H locs hB => ?_)
    rw [(show (0 : Int32).toNatClampNeg = 0 from nI_clamp (n := 0) (by omega))] at hB
    have hB : Bx B0 D _ [(o, .inl (cs 3, 1, .inr (.inl (vp_updL g4011 0 y4010))))] [o] _ _ := hB
    generalize (vp_updL g4011 0 y4010) = g4012 at hB
    refine lv_goto (tgt := 18) hx hb dL_propose_9 (by decide) ?_
    refine lv_iconst (v := 0) hx hb dL_propose_18 (by decide) ?_
    have hR := hR.fr hT trivial (Fr.close (S := [13]) Fr.rf hB (fa_c (by simp [ho.2]) fa_n)) (by decide)
    have hbt := hbt.fr hKW.z hT (hT.rd hw) (Fr.close (S := [13]) Fr.rf hB (fa_c (by simp [ho.2]) fa_n)) (by decide) (by decide)
    have hT : WT B0 D cs T κr3999 _ := hT.close hB ⟨⟨0, _, rfl, ok_29 ho.1 ⟨_, rfl⟩⟩, trivial⟩
    have hL : OkL B0 _ := hB.2.2.2.2.2
    have hP : va_P D vwCl [(o, .inl (cs 3, 1, .inr (.inl g4012)))] _ := hB.1
    refine W.know (fun hg => ?_)
    rw [hH0] at hg
    exact en_i hx hb hr hlocks hL rfl (show k4008 ≤ ((336 * sumN C 16 + 145000 - PotN LN) / 35) by omega) (show n4009 ≤ (336 * sumN C 16 + 145000 - PotN LN) by omega) dL_propose_19 (⟨_, hKW.z, hT, hKW.1.t2 hrd0 (by decide), by rw [hKW.2 _ (by rw [hrd0.1]; decide) (by rw [hrd0.2]; decide)], _, _, _, _, hCs, hR, hg, by omega, by omega, hbt⟩)
theorem hdX8_ask_v : yX8_ask.cls = RX8 ∧ yX8_ask.cls ≠ "java/lang/invoke/MethodHandle" ∧ yX8_ask.cls ≠ "java/lang/invoke/VarHandle" ∧ (parseMethodDescriptor yX8_ask.desc).map (fun d => d.parameters.length) = some 1 := by decide +kernel
theorem mL_ask_1 : (.classLink RL 22 "java/lang/IndexOutOfBoundsException" : Cond) ∈ wsL_ask := List.mem_of_getElem? (i := 1) (by decide +kernel)
theorem mL_ask_2 : (.classLink RL 41 "java/lang/IllegalStateException" : Cond) ∈ wsL_ask := List.mem_of_getElem? (i := 2) (by decide +kernel)
set_option maxHeartbeats 4000000 in
set_option maxRecDepth 100000 in
theorem c_L_ask {l : Launch} (hlt : l.stackTraces = false) {D : va_G} {cs : Nat → ClassId} {B0 T : Nat} {κ : KM} {H0 : Heap} (hT : WT B0 D cs T κ H0) {w o : Nat} (hw : T2 κ w 9 13) (ho : T2 κ o 29 13) {C : Nat → Nat} {LN : Nat → Nat → Nat} (hR : RQ D cs κ H0 C LN er) (hC : sumN C 16 + 24 ≤ 12400) {x : Int32} : KC l yL_ask wsL_ask 8 155 ((336 * sumN C 16 + 145000 - PotN LN) / 35) (336 * sumN C 16 + 145000 - PotN LN) D cs B0 H0 [.ref w, .int x, .ref o] (Qi (fun _ H => ∃ κ1, KZ κ κ1 ∧ WT B0 D cs T κ1 H ∧ T2 κ1 (cs 450) 6 10 ∧ ((κ1 (cs 450)).2.2.1 = (κ (cs 450)).2.2.1) ∧ ∃ C1 LN1 k n, sumN C1 16 ≤ sumN C 16 + 24 ∧ RQ D cs κ1 H C1 LN1 er ∧ Gr H0 H k n ∧ 35 * k ≤ n + 35 ∧ n + PotN LN ≤ PotN LN1 + 714 ∧ BTK D cs κ H0 H)) := by
  refine KC.ofH (hh := [(0, 16, 19, 22), (0, 16, 22, 41)]) cL_ask 4 (some .int) (by decide) rfl (Nat.le_of_ble_eq_true rfl) ?_
  intro p e s m below meth c ls hx hb hr hml hown hts hlocks htab hN hE hH0 hl
  have hown : s.vm.findClass RL = some m.cls := hown
  have hl : lv_has ls 4 [(0, .ref w), (1, .int x), (2, .ref o)] := hl
  have hL : OkL B0 [] := OkL.nil
  have hGN : 35 * 0 ≤ 0 ∧ 0 + PotN LN ≤ PotN LN := ⟨Nat.le_refl _, by omega⟩
  have hs0 := hR.pot
  have hrd0 := hT.rd hw
  have hR0 := hR
  have hbt : BTK D cs κ H0 H0 := BTK.rf
  refine lv_aload_n hx hb dL_ask_0 rfl (lv_at hl 2 rfl) ?_
  refine lv_iconst (v := 0) hx hb dL_ask_1 (by decide) ?_
  refine lv_aload_n hx hb dL_ask_2 rfl (lv_at hl 0 rfl) ?_
  refine lv_iload_n hx hb dL_ask_3 rfl (lv_at hl 1 rfl) ?_
  refine ct_V (As := [.int x]) (rest := [.int 0, .ref o]) (b := w) ⟨hx, hb, hml, hown, hts⟩ (c_X8_ask hlt hT (w := w) hw (x := x) hR (by first | omega | decide | assumption)) (cwV 1 hts gL_ask_X8_ask rfl rfl rfl hdX8_ask_v ⟨Nat.le_of_ble_eq_true rfl, Nat.le_of_ble_eq_true rfl⟩) hN hE hL (rcv9 hN hT hw.1) rfl rfl hl.1 (Nat.le_of_ble_eq_true rfl) dL_ask_4 (show 0 + ((336 * sumN C 16 + 137000 - PotN LN) / 35) ≤ ((336 * sumN C 16 + 145000 - PotN LN) / 35) by omega) (show 0 + (336 * sumN C 16 + 137000 - PotN LN) ≤ (336 * sumN C 16 + 145000 - PotN LN) by omega) (fun E9 q9 ce9 H1 locs hL hq h1 h2 h3 => ?_) (fun v9 H1 locs hL hqr4013 => ?_)
  · have hTQ := hq
    rcases (by simpa using hTQ.1 : E9 = "java/lang/IndexOutOfBoundsException" ∨ E9 = "java/lang/IllegalStateException") with rfl | rfl
    · refine vx_catch hown [] ⟨0, 16, 19, 22⟩ [⟨0, 16, 22, 41⟩] htab (fun z h => nomatch h) rfl (by decide) (hts _ mL_ask_1) (va_Nw.use rfl (hN.2.2.2.2.2.2.2.1 "java/lang/IndexOutOfBoundsException" (List.mem_of_getElem? (i := 2) rfl))) h1 h2 h3 ?_
      refine W.eq (g2 := F0 m 19 ls [.ref q9]) rfl ?_
      refine W.tight (k := 1) (n := 6) (by rw [hH0]; exact hTQ.2.2.2) ?_
      have hR := hR.fr hT trivial hTQ.fr (by decide)
      have hbt := hbt.fr KZ.rf hT (hT.rd hw) hTQ.fr (by decide) (by decide)
      have hT := hTQ.wt hT
      refine lv_astore_n (lv' := [(3, .ref q9), (0, .ref w), (1, .int x), (2, .ref o)]) hx hb dL_ask_19 rfl hl (by decide) rfl (fun ls hl => ?_)
      refine lv_iconst (v := 1) hx hb dL_ask_20 (by decide) ?_
      refine W.know (fun hg => ?_)
      rw [hH0] at hg
      exact en_i hx hb hr hlocks hL rfl (show 1 ≤ ((336 * sumN C 16 + 145000 - PotN LN) / 35) by omega) (show 6 ≤ (336 * sumN C 16 + 145000 - PotN LN) by omega) dL_ask_21 (⟨κ, KZ.rf, hT, hrd0, rfl, C, LN, 1, 6, Nat.le_add_right _ _, hR, hg, by decide, by omega, hbt⟩)
    · refine vx_catch hown [⟨0, 16, 19, 22⟩] ⟨0, 16, 22, 41⟩ [] htab (fun z h => by rw [List.mem_singleton.mp h]; exact Or.inr ⟨by decide, "java/lang/IndexOutOfBoundsException", hts _ mL_ask_1, hN.2.2.2.2.2.2.2.2.1 ("java/lang/IllegalStateException", "java/lang/IndexOutOfBoundsException") (by decide +kernel)⟩) rfl (by decide) (hts _ mL_ask_2) (va_Nw.use rfl (hN.2.2.2.2.2.2.2.1 "java/lang/IllegalStateException" (List.mem_of_getElem? (i := 1) rfl))) h1 h2 h3 ?_
      refine W.eq (g2 := F0 m 22 ls [.ref q9]) rfl ?_
      refine W.tight (k := 1) (n := 6) (by rw [hH0]; exact hTQ.2.2.2) ?_
      have hR := hR.fr hT trivial hTQ.fr (by decide)
      have hbt := hbt.fr KZ.rf hT (hT.rd hw) hTQ.fr (by decide) (by decide)
      have hT := hTQ.wt hT
      refine lv_astore_n (lv' := [(3, .ref q9), (0, .ref w), (1, .int x), (2, .ref o)]) hx hb dL_ask_22 rfl hl (by decide) rfl (fun ls hl => ?_)
      refine lv_iconst (v := 2) hx hb dL_ask_23 (by decide) ?_
      refine W.know (fun hg => ?_)
      rw [hH0] at hg
      exact en_i hx hb hr hlocks hL rfl (show 1 ≤ ((336 * sumN C 16 + 145000 - PotN LN) / 35) by omega) (show 6 ≤ (336 * sumN C 16 + 145000 - PotN LN) by omega) dL_ask_24 (⟨κ, KZ.rf, hT, hrd0, rfl, C, LN, 1, 6, Nat.le_add_right _ _, hR, hg, by decide, by omega, hbt⟩)
  · have htr9 : True := trivial
    obtain ⟨r4013, rfl, hqr4013⟩ := hqr4013
    refine W.eq (g2 := F0 m 7 ls [.int r4013, .int 0, .ref o]) rfl ?_
    obtain ⟨κr4013, hxr4013, hT1, hqr4013⟩ := hqr4013
    have hxfr4013 := hxr4013.1
    have hKZo : KZ κ κ := KZ.rf
    have hT := hT1
    have hKF : KF κ κr4013 := hxfr4013
    have hKW : KW κ κr4013 := hxr4013
    have hw := (KF.t2 hxfr4013 hw (by decide))
    have ho := (KF.t2 hxfr4013 ho (by decide))
    obtain ⟨C4014, L4015, k4016, n4017, h4018, r4019, g4020, t4021⟩ := hqr4013
    have hR := r4019
    have hCs := h4018
    obtain ⟨k4022, n4023, hGP, hgk, hgn⟩ : ∃ k9 n9, Gr H0 _ k9 n9 ∧ 35 * k9 ≤ n9 ∧ n9 + PotN LN ≤ PotN L4015 := ⟨_, _, g4020.1, g4020.2.1, g4020.2.2⟩
    have hp0 := hR0.pot
    have hp1 := hR.pot
    refine W.tight (k := k4022) (n := n4023) (by rw [hH0]; exact hGP) ?_
    have hbt := hbt.tr hKZo t4021
    refine lv_if_eq (tgt := 14) hx hb dL_ask_7 (by decide) (fun c4024 => ?_) (fun c4024 => ?_)
    · refine lv_lconst (v := 0) hx hb dL_ask_14 (by decide) ?_
      obtain ⟨hb4025, e4025, hat4025, hk4025⟩ := hT.o29 ho.1
      obtain ⟨g4025, rfl⟩ := hk4025
      have hP : va_P D vwCl [(o, .inl (cs 3, 1, .inr (.inl g4025)))] _ := va_P.cons hat4025 va_P.nil
      have hB : Bx B0 D _ [(o, .inl (cs 3, 1, .inr (.inl g4025)))] [] _ _ := Bx.of (fun a => (κr4013 a).1) hL hP (fa_c hb4025 fa_n) (by simp only [List.map_cons, List.map_nil, ho.1]; decide)
      refine b_l hx hb hN hB 0 rfl (vp_in_nI (n := 0) (N := 1) (by omega) (by omega)) (.inl rfl) dL_ask_15 (fun H locs hB => ?_)
      rw [(show (0 : Int32).toNatClampNeg = 0 from nI_clamp (n := 0) (by omega))] at hB
      have hB : Bx B0 D _ [(o, .inl (cs 3, 1, .inr (.inl (vp_updL g4025 0 0))))] [o] _ _ := hB
      generalize (vp_updL g4025 0 0) = g4026 at hB
      refine lv_goto (tgt := 25) hx hb dL_ask_16 (by decide) ?_
      refine lv_iconst (v := 0) hx hb dL_ask_25 (by decide) ?_
      have hR := hR.fr hT trivial (Fr.close (S := [13]) Fr.rf hB (fa_c (by simp [ho.2]) fa_n)) (by decide)
      have hbt := hbt.fr hKW.z hT (hT.rd hw) (Fr.close (S := [13]) Fr.rf hB (fa_c (by simp [ho.2]) fa_n)) (by decide) (by decide)
      have hT : WT B0 D cs T κr4013 _ := hT.close hB ⟨⟨0, _, rfl, ok_29 ho.1 ⟨_, rfl⟩⟩, trivial⟩
      have hL : OkL B0 _ := hB.2.2.2.2.2
      have hP : va_P D vwCl [(o, .inl (cs 3, 1, .inr (.inl g4026)))] _ := hB.1
      refine W.know (fun hg => ?_)
      rw [hH0] at hg
      exact en_i hx hb hr hlocks hL rfl (show k4022 ≤ ((336 * sumN C 16 + 145000 - PotN LN) / 35) by omega) (show n4023 ≤ (336 * sumN C 16 + 145000 - PotN LN) by omega) dL_ask_26 (⟨_, hKW.z, hT, hKW.1.t2 hrd0 (by decide), by rw [hKW.2 _ (by rw [hrd0.1]; decide) (by rw [hrd0.2]; decide)], _, _, _, _, hCs, hR, hg, by omega, by omega, hbt⟩)
    · refine lv_lconst (v := 1) hx hb dL_ask_10 (by decide) ?_
      refine lv_goto (tgt := 15) hx hb dL_ask_11 (by decide) ?_
      obtain ⟨hb4027, e4027, hat4027, hk4027⟩ := hT.o29 ho.1
      obtain ⟨g4027, rfl⟩ := hk4027
      have hP : va_P D vwCl [(o, .inl (cs 3, 1, .inr (.inl g4027)))] _ := va_P.cons hat4027 va_P.nil
      have hB : Bx B0 D _ [(o, .inl (cs 3, 1, .inr (.inl g4027)))] [] _ _ := Bx.of (fun a => (κr4013 a).1) hL hP (fa_c hb4027 fa_n) (by simp only [List.map_cons, List.map_nil, ho.1]; decide)
      refine b_l hx hb hN hB 0 rfl (vp_in_nI (n := 0) (N := 1) (by omega) (by omega)) (.inl rfl) dL_ask_15 (fun H locs hB => ?_)
      rw [(show (0 : Int32).toNatClampNeg = 0 from nI_clamp (n := 0) (by omega))] at hB
      have hB : Bx B0 D _ [(o, .inl (cs 3, 1, .inr (.inl (vp_updL g4027 0 1))))] [o] _ _ := hB
      generalize (vp_updL g4027 0 1) = g4028 at hB
      refine lv_goto (tgt := 25) hx hb dL_ask_16 (by decide) ?_
      refine lv_iconst (v := 0) hx hb dL_ask_25 (by decide) ?_
      have hR := hR.fr hT trivial (Fr.close (S := [13]) Fr.rf hB (fa_c (by simp [ho.2]) fa_n)) (by decide)
      have hbt := hbt.fr hKW.z hT (hT.rd hw) (Fr.close (S := [13]) Fr.rf hB (fa_c (by simp [ho.2]) fa_n)) (by decide) (by decide)
      have hT : WT B0 D cs T κr4013 _ := hT.close hB ⟨⟨0, _, rfl, ok_29 ho.1 ⟨_, rfl⟩⟩, trivial⟩
      have hL : OkL B0 _ := hB.2.2.2.2.2
      have hP : va_P D vwCl [(o, .inl (cs 3, 1, .inr (.inl g4028)))] _ := hB.1
      refine W.know (fun hg => ?_)
      rw [hH0] at hg
      exact en_i hx hb hr hlocks hL rfl (show k4022 ≤ ((336 * sumN C 16 + 145000 - PotN LN) / 35) by omega) (show n4023 ≤ (336 * sumN C 16 + 145000 - PotN LN) by omega) dL_ask_26 (⟨_, hKW.z, hT, hKW.1.t2 hrd0 (by decide), by rw [hKW.2 _ (by rw [hrd0.1]; decide) (by rw [hrd0.2]; decide)], _, _, _, _, hCs, hR, hg, by omega, by omega, hbt⟩)
theorem hdX8_pass_v : yX8_pass.cls = RX8 ∧ yX8_pass.cls ≠ "java/lang/invoke/MethodHandle" ∧ yX8_pass.cls ≠ "java/lang/invoke/VarHandle" ∧ (parseMethodDescriptor yX8_pass.desc).map (fun d => d.parameters.length) = some 1 := by decide +kernel
theorem mL_pass_1 : (.classLink RL 13 "java/lang/IllegalArgumentException" : Cond) ∈ wsL_pass := List.mem_of_getElem? (i := 1) (by decide +kernel)
set_option maxHeartbeats 4000000 in
set_option maxRecDepth 100000 in
theorem c_L_pass {l : Launch} (hlt : l.stackTraces = false) {D : va_G} {cs : Nat → ClassId} {B0 T : Nat} {κ : KM} {H0 : Heap} (hT : WT B0 D cs T κ H0) {w o : Nat} (hw : T2 κ w 9 13) (ho : T2 κ o 29 13) {C : Nat → Nat} {LN : Nat → Nat → Nat} (hR : RQ D cs κ H0 C LN er) (hC : sumN C 16 + 24 ≤ 12400) {x : Int32} : KC l yL_pass wsL_pass 7 201 ((336 * sumN C 16 + 145000 - PotN LN) / 35) (336 * sumN C 16 + 145000 - PotN LN) D cs B0 H0 [.ref w, .int x, .ref o] (Qi (fun _ H => ∃ κ1, KZ κ κ1 ∧ WT B0 D cs T κ1 H ∧ T2 κ1 (cs 450) 6 10 ∧ ((κ1 (cs 450)).2.2.1 = (κ (cs 450)).2.2.1) ∧ ∃ C1 LN1 k n, sumN C1 16 ≤ sumN C 16 + 24 ∧ RQ D cs κ1 H C1 LN1 er ∧ Gr H0 H k n ∧ 35 * k ≤ n + 35 ∧ n + PotN LN ≤ PotN LN1 + 714 ∧ BTK D cs κ H0 H)) := by
  refine KC.ofH (hh := [(0, 9, 12, 13)]) cL_pass 4 (some .int) (by decide) rfl (Nat.le_of_ble_eq_true rfl) ?_
  intro p e s m below meth c ls hx hb hr hml hown hts hlocks htab hN hE hH0 hl
  have hown : s.vm.findClass RL = some m.cls := hown
  have hl : lv_has ls 4 [(0, .ref w), (1, .int x), (2, .ref o)] := hl
  have hL : OkL B0 [] := OkL.nil
  have hGN : 35 * 0 ≤ 0 ∧ 0 + PotN LN ≤ PotN LN := ⟨Nat.le_refl _, by omega⟩
  have hs0 := hR.pot
  have hrd0 := hT.rd hw
  have hR0 := hR
  have hbt : BTK D cs κ H0 H0 := BTK.rf
  refine lv_aload_n hx hb dL_pass_0 rfl (lv_at hl 2 rfl) ?_
  refine lv_iconst (v := 0) hx hb dL_pass_1 (by decide) ?_
  refine lv_aload_n hx hb dL_pass_2 rfl (lv_at hl 0 rfl) ?_
  refine lv_iload_n hx hb dL_pass_3 rfl (lv_at hl 1 rfl) ?_
  refine ct_V (As := [.int x]) (rest := [.int 0, .ref o]) (b := w) ⟨hx, hb, hml, hown, hts⟩ (c_X8_pass hlt hT (w := w) hw (x := x) hR (by first | omega | decide | assumption)) (cwV 1 hts gL_pass_X8_pass rfl rfl rfl hdX8_pass_v ⟨Nat.le_of_ble_eq_true rfl, Nat.le_of_ble_eq_true rfl⟩) hN hE hL (rcv9 hN hT hw.1) rfl rfl hl.1 (Nat.le_of_ble_eq_true rfl) dL_pass_4 (show 0 + ((336 * sumN C 16 + 137000 - PotN LN) / 35) ≤ ((336 * sumN C 16 + 145000 - PotN LN) / 35) by omega) (show 0 + (336 * sumN C 16 + 137000 - PotN LN) ≤ (336 * sumN C 16 + 145000 - PotN LN) by omega) (fun E9 q9 ce9 H1 locs hL hq h1 h2 h3 => ?_) (fun v9 H1 locs hL hqr4029 => ?_)
  · have hTQ := hq
    obtain rfl : E9 = "java/lang/IllegalArgumentException" := by simpa using hTQ.1
    refine vx_catch hown [] ⟨0, 9, 12, 13⟩ [] htab (fun z h => nomatch h) rfl (by decide) (hts _ mL_pass_1) (va_Nw.use rfl (hN.2.2.2.2.2.2.2.1 "java/lang/IllegalArgumentException" (List.mem_of_getElem? (i := 0) rfl))) h1 h2 h3 ?_
    refine W.eq (g2 := F0 m 12 ls [.ref q9]) rfl ?_
    refine W.tight (k := 1) (n := 6) (by rw [hH0]; exact hTQ.2.2.2) ?_
    have hR := hR.fr hT trivial hTQ.fr (by decide)
    have hbt := hbt.fr KZ.rf hT (hT.rd hw) hTQ.fr (by decide) (by decide)
    have hT := hTQ.wt hT
    refine lv_astore_n (lv' := [(3, .ref q9), (0, .ref w), (1, .int x), (2, .ref o)]) hx hb dL_pass_12 rfl hl (by decide) rfl (fun ls hl => ?_)
    refine lv_iconst (v := 1) hx hb dL_pass_13 (by decide) ?_
    refine W.know (fun hg => ?_)
    rw [hH0] at hg
    exact en_i hx hb hr hlocks hL rfl (show 1 ≤ ((336 * sumN C 16 + 145000 - PotN LN) / 35) by omega) (show 6 ≤ (336 * sumN C 16 + 145000 - PotN LN) by omega) dL_pass_14 (⟨κ, KZ.rf, hT, hrd0, rfl, C, LN, 1, 6, Nat.le_add_right _ _, hR, hg, by decide, by omega, hbt⟩)
  · have htr9 : True := trivial
    obtain ⟨r4029, rfl, hqr4029⟩ := hqr4029
    refine W.eq (g2 := F0 m 7 ls [.int r4029, .int 0, .ref o]) rfl ?_
    obtain ⟨κr4029, hxr4029, hT1, hqr4029⟩ := hqr4029
    have hxfr4029 := hxr4029.1
    have hKZo : KZ κ κ := KZ.rf
    have hT := hT1
    have hKF : KF κ κr4029 := hxfr4029
    have hKW : KW κ κr4029 := hxr4029
    have hw := (KF.t2 hxfr4029 hw (by decide))
    have ho := (KF.t2 hxfr4029 ho (by decide))
    obtain ⟨C4030, L4031, k4032, n4033, h4034, r4035, g4036, t4037⟩ := hqr4029
    have hR := r4035
    have hCs := h4034
    obtain ⟨k4038, n4039, hGP, hgk, hgn⟩ : ∃ k9 n9, Gr H0 _ k9 n9 ∧ 35 * k9 ≤ n9 ∧ n9 + PotN LN ≤ PotN L4031 := ⟨_, _, g4036.1, g4036.2.1, g4036.2.2⟩
    have hp0 := hR0.pot
    have hp1 := hR.pot
    refine W.tight (k := k4038) (n := n4039) (by rw [hH0]; exact hGP) ?_
    have hbt := hbt.tr hKZo t4037
    refine lv_i2l hx hb dL_pass_7 rfl ?_
    refine gn_l (fun y4040 => ?_)
    obtain ⟨hb4041, e4041, hat4041, hk4041⟩ := hT.o29 ho.1
    obtain ⟨g4041, rfl⟩ := hk4041
    have hP : va_P D vwCl [(o, .inl (cs 3, 1, .inr (.inl g4041)))] _ := va_P.cons hat4041 va_P.nil
    have hB : Bx B0 D _ [(o, .inl (cs 3, 1, .inr (.inl g4041)))] [] _ _ := Bx.of (fun a => (κr4029 a).1) hL hP (fa_c hb4041 fa_n) (by simp only [List.map_cons, List.map_nil, ho.1]; decide)
    refine b_l hx hb hN hB 0 rfl (vp_in_nI (n := 0) (N := 1) (by omega) (by omega)) (.inl rfl) dL_pass_8 (fun H locs hB => ?_)
    rw [(show (0 : Int32).toNatClampNeg = 0 from nI_clamp (n := 0) (by omega))] at hB
    have hB : Bx B0 D _ [(o, .inl (cs 3, 1, .inr (.inl (vp_updL g4041 0 y4040))))] [o] _ _ := hB
    generalize (vp_updL g4041 0 y4040) = g4042 at hB
    refine lv_goto (tgt := 15) hx hb dL_pass_9 (by decide) ?_
    refine lv_iconst (v := 0) hx hb dL_pass_15 (by decide) ?_
    have hR := hR.fr hT trivial (Fr.close (S := [13]) Fr.rf hB (fa_c (by simp [ho.2]) fa_n)) (by decide)
    have hbt := hbt.fr hKW.z hT (hT.rd hw) (Fr.close (S := [13]) Fr.rf hB (fa_c (by simp [ho.2]) fa_n)) (by decide) (by decide)
    have hT : WT B0 D cs T κr4029 _ := hT.close hB ⟨⟨0, _, rfl, ok_29 ho.1 ⟨_, rfl⟩⟩, trivial⟩
    have hL : OkL B0 _ := hB.2.2.2.2.2
    have hP : va_P D vwCl [(o, .inl (cs 3, 1, .inr (.inl g4042)))] _ := hB.1
    refine W.know (fun hg => ?_)
    rw [hH0] at hg
    exact en_i hx hb hr hlocks hL rfl (show k4038 ≤ ((336 * sumN C 16 + 145000 - PotN LN) / 35) by omega) (show n4039 ≤ (336 * sumN C 16 + 145000 - PotN LN) by omega) dL_pass_16 (⟨_, hKW.z, hT, hKW.1.t2 hrd0 (by decide), by rw [hKW.2 _ (by rw [hrd0.1]; decide) (by rw [hrd0.2]; decide)], _, _, _, _, hCs, hR, hg, by omega, by omega, hbt⟩)
theorem hdX8_power_v : yX8_power.cls = RX8 ∧ yX8_power.cls ≠ "java/lang/invoke/MethodHandle" ∧ yX8_power.cls ≠ "java/lang/invoke/VarHandle" ∧ (parseMethodDescriptor yX8_power.desc).map (fun d => d.parameters.length) = some 2 := by decide +kernel
theorem mL_power_1 : (.classLink RL 22 "java/lang/IndexOutOfBoundsException" : Cond) ∈ wsL_power := List.mem_of_getElem? (i := 1) (by decide +kernel)
set_option maxHeartbeats 4000000 in
set_option maxRecDepth 100000 in
theorem c_L_power {l : Launch} (hlt : l.stackTraces = false) {D : va_G} {cs : Nat → ClassId} {B0 T : Nat} {κ : KM} {H0 : Heap} (hT : WT B0 D cs T κ H0) {w o : Nat} (hw : T2 κ w 9 13) (ho : T2 κ o 29 13) {C : Nat → Nat} {LN : Nat → Nat → Nat} (hR : RQ D cs κ H0 C LN er) (hC : sumN C 16 + 24 ≤ 12400) {x : Int32} {b_y : Int32} (qb_y : b_y = 0 ∨ b_y = 1) : KC l yL_power wsL_power 8 148 ((336 * sumN C 16 + 145000 - PotN LN) / 35) (336 * sumN C 16 + 145000 - PotN LN) D cs B0 H0 [.ref w, .int x, .int b_y, .ref o] (Qi (fun _ H => ∃ κ1, KZ κ κ1 ∧ WT B0 D cs T κ1 H ∧ T2 κ1 (cs 450) 6 10 ∧ ((κ1 (cs 450)).2.2.1 = (κ (cs 450)).2.2.1) ∧ ∃ C1 LN1 k n, sumN C1 16 ≤ sumN C 16 + 24 ∧ RQ D cs κ1 H C1 LN1 er ∧ Gr H0 H k n ∧ 35 * k ≤ n + 35 ∧ n + PotN LN ≤ PotN LN1 + 714 ∧ BTK D cs κ H0 H)) := by
  refine KC.ofH (hh := [(0, 17, 20, 22)]) cL_power 5 (some .int) (by decide) rfl (Nat.le_of_ble_eq_true rfl) ?_
  intro p e s m below meth c ls hx hb hr hml hown hts hlocks htab hN hE hH0 hl
  have hown : s.vm.findClass RL = some m.cls := hown
  have hl : lv_has ls 5 [(0, .ref w), (1, .int x), (2, .int b_y), (3, .ref o)] := hl
  have hL : OkL B0 [] := OkL.nil
  have hGN : 35 * 0 ≤ 0 ∧ 0 + PotN LN ≤ PotN LN := ⟨Nat.le_refl _, by omega⟩
  have hs0 := hR.pot
  have hrd0 := hT.rd hw
  have hR0 := hR
  have hbt : BTK D cs κ H0 H0 := BTK.rf
  refine lv_aload_n hx hb dL_power_0 rfl (lv_at hl 3 rfl) ?_
  refine lv_iconst (v := 0) hx hb dL_power_1 (by decide) ?_
  refine lv_aload_n hx hb dL_power_2 rfl (lv_at hl 0 rfl) ?_
  refine lv_iload_n hx hb dL_power_3 rfl (lv_at hl 1 rfl) ?_
  refine lv_iload_n hx hb dL_power_4 rfl (lv_at hl 2 rfl) ?_
  refine ct_V (As := [.int x, .int b_y]) (rest := [.int 0, .ref o]) (b := w) ⟨hx, hb, hml, hown, hts⟩ (c_X8_power hlt hT (w := w) hw (x := x) (b_y := b_y) hR (by first | omega | decide | assumption)) (cwV 2 hts gL_power_X8_power rfl rfl rfl hdX8_power_v ⟨Nat.le_of_ble_eq_true rfl, Nat.le_of_ble_eq_true rfl⟩) hN hE hL (rcv9 hN hT hw.1) rfl rfl hl.1 (Nat.le_of_ble_eq_true rfl) dL_power_5 (show 0 + ((336 * sumN C 16 + 137000 - PotN LN) / 35) ≤ ((336 * sumN C 16 + 145000 - PotN LN) / 35) by omega) (show 0 + (336 * sumN C 16 + 137000 - PotN LN) ≤ (336 * sumN C 16 + 145000 - PotN LN) by omega) (fun E9 q9 ce9 H1 locs hL hq h1 h2 h3 => ?_) (fun v9 H1 locs hL hqr4043 => ?_)
  · have hTQ := hq
    obtain rfl : E9 = "java/lang/IndexOutOfBoundsException" := by simpa using hTQ.1
    refine vx_catch hown [] ⟨0, 17, 20, 22⟩ [] htab (fun z h => nomatch h) rfl (by decide) (hts _ mL_power_1) (va_Nw.use rfl (hN.2.2.2.2.2.2.2.1 "java/lang/IndexOutOfBoundsException" (List.mem_of_getElem? (i := 2) rfl))) h1 h2 h3 ?_
    refine W.eq (g2 := F0 m 20 ls [.ref q9]) rfl ?_
    refine W.tight (k := 1) (n := 6) (by rw [hH0]; exact hTQ.2.2.2) ?_
    have hR := hR.fr hT trivial hTQ.fr (by decide)
    have hbt := hbt.fr KZ.rf hT (hT.rd hw) hTQ.fr (by decide) (by decide)
    have hT := hTQ.wt hT
    refine lv_astore (lv' := [(4, .ref q9), (0, .ref w), (1, .int x), (2, .int b_y), (3, .ref o)]) hx hb dL_power_20 hl (by decide) rfl (fun ls hl => ?_)
    refine lv_iconst (v := 1) hx hb dL_power_22 (by decide) ?_
    refine W.know (fun hg => ?_)
    rw [hH0] at hg
    exact en_i hx hb hr hlocks hL rfl (show 1 ≤ ((336 * sumN C 16 + 145000 - PotN LN) / 35) by omega) (show 6 ≤ (336 * sumN C 16 + 145000 - PotN LN) by omega) dL_power_23 (⟨κ, KZ.rf, hT, hrd0, rfl, C, LN, 1, 6, Nat.le_add_right _ _, hR, hg, by decide, by omega, hbt⟩)
  · have htr9 : True := trivial
    obtain ⟨r4043, rfl, hqr4043⟩ := hqr4043
    refine W.eq (g2 := F0 m 8 ls [.int r4043, .int 0, .ref o]) rfl ?_
    obtain ⟨κr4043, hxr4043, hT1, hqr4043⟩ := hqr4043
    have hxfr4043 := hxr4043.1
    have hKZo : KZ κ κ := KZ.rf
    have hT := hT1
    have hKF : KF κ κr4043 := hxfr4043
    have hKW : KW κ κr4043 := hxr4043
    have hw := (KF.t2 hxfr4043 hw (by decide))
    have ho := (KF.t2 hxfr4043 ho (by decide))
    obtain ⟨C4044, L4045, k4046, n4047, h4048, r4049, g4050, t4051⟩ := hqr4043
    have hR := r4049
    have hCs := h4048
    obtain ⟨k4052, n4053, hGP, hgk, hgn⟩ : ∃ k9 n9, Gr H0 _ k9 n9 ∧ 35 * k9 ≤ n9 ∧ n9 + PotN LN ≤ PotN L4045 := ⟨_, _, g4050.1, g4050.2.1, g4050.2.2⟩
    have hp0 := hR0.pot
    have hp1 := hR.pot
    refine W.tight (k := k4052) (n := n4053) (by rw [hH0]; exact hGP) ?_
    have hbt := hbt.tr hKZo t4051
    refine lv_if_eq (tgt := 15) hx hb dL_power_8 (by decide) (fun c4054 => ?_) (fun c4054 => ?_)
    · refine lv_lconst (v := 0) hx hb dL_power_15 (by decide) ?_
      obtain ⟨hb4055, e4055, hat4055, hk4055⟩ := hT.o29 ho.1
      obtain ⟨g4055, rfl⟩ := hk4055
      have hP : va_P D vwCl [(o, .inl (cs 3, 1, .inr (.inl g4055)))] _ := va_P.cons hat4055 va_P.nil
      have hB : Bx B0 D _ [(o, .inl (cs 3, 1, .inr (.inl g4055)))] [] _ _ := Bx.of (fun a => (κr4043 a).1) hL hP (fa_c hb4055 fa_n) (by simp only [List.map_cons, List.map_nil, ho.1]; decide)
      refine b_l hx hb hN hB 0 rfl (vp_in_nI (n := 0) (N := 1) (by omega) (by omega)) (.inl rfl) dL_power_16 (fun H locs hB => ?_)
      rw [(show (0 : Int32).toNatClampNeg = 0 from nI_clamp (n := 0) (by omega))] at hB
      have hB : Bx B0 D _ [(o, .inl (cs 3, 1, .inr (.inl (vp_updL g4055 0 0))))] [o] _ _ := hB
      generalize (vp_updL g4055 0 0) = g4056 at hB
      refine lv_goto (tgt := 24) hx hb dL_power_17 (by decide) ?_
      refine lv_iconst (v := 0) hx hb dL_power_24 (by decide) ?_
      have hR := hR.fr hT trivial (Fr.close (S := [13]) Fr.rf hB (fa_c (by simp [ho.2]) fa_n)) (by decide)
      have hbt := hbt.fr hKW.z hT (hT.rd hw) (Fr.close (S := [13]) Fr.rf hB (fa_c (by simp [ho.2]) fa_n)) (by decide) (by decide)
      have hT : WT B0 D cs T κr4043 _ := hT.close hB ⟨⟨0, _, rfl, ok_29 ho.1 ⟨_, rfl⟩⟩, trivial⟩
      have hL : OkL B0 _ := hB.2.2.2.2.2
      have hP : va_P D vwCl [(o, .inl (cs 3, 1, .inr (.inl g4056)))] _ := hB.1
      refine W.know (fun hg => ?_)
      rw [hH0] at hg
      exact en_i hx hb hr hlocks hL rfl (show k4052 ≤ ((336 * sumN C 16 + 145000 - PotN LN) / 35) by omega) (show n4053 ≤ (336 * sumN C 16 + 145000 - PotN LN) by omega) dL_power_25 (⟨_, hKW.z, hT, hKW.1.t2 hrd0 (by decide), by rw [hKW.2 _ (by rw [hrd0.1]; decide) (by rw [hrd0.2]; decide)], _, _, _, _, hCs, hR, hg, by omega, by omega, hbt⟩)
    · refine lv_lconst (v := 1) hx hb dL_power_11 (by decide) ?_
      refine lv_goto (tgt := 16) hx hb dL_power_12 (by decide) ?_
      obtain ⟨hb4057, e4057, hat4057, hk4057⟩ := hT.o29 ho.1
      obtain ⟨g4057, rfl⟩ := hk4057
      have hP : va_P D vwCl [(o, .inl (cs 3, 1, .inr (.inl g4057)))] _ := va_P.cons hat4057 va_P.nil
      have hB : Bx B0 D _ [(o, .inl (cs 3, 1, .inr (.inl g4057)))] [] _ _ := Bx.of (fun a => (κr4043 a).1) hL hP (fa_c hb4057 fa_n) (by simp only [List.map_cons, List.map_nil, ho.1]; decide)
      refine b_l hx hb hN hB 0 rfl (vp_in_nI (n := 0) (N := 1) (by omega) (by omega)) (.inl rfl) dL_power_16 (fun H locs hB => ?_)
      rw [(show (0 : Int32).toNatClampNeg = 0 from nI_clamp (n := 0) (by omega))] at hB
      have hB : Bx B0 D _ [(o, .inl (cs 3, 1, .inr (.inl (vp_updL g4057 0 1))))] [o] _ _ := hB
      generalize (vp_updL g4057 0 1) = g4058 at hB
      refine lv_goto (tgt := 24) hx hb dL_power_17 (by decide) ?_
      refine lv_iconst (v := 0) hx hb dL_power_24 (by decide) ?_
      have hR := hR.fr hT trivial (Fr.close (S := [13]) Fr.rf hB (fa_c (by simp [ho.2]) fa_n)) (by decide)
      have hbt := hbt.fr hKW.z hT (hT.rd hw) (Fr.close (S := [13]) Fr.rf hB (fa_c (by simp [ho.2]) fa_n)) (by decide) (by decide)
      have hT : WT B0 D cs T κr4043 _ := hT.close hB ⟨⟨0, _, rfl, ok_29 ho.1 ⟨_, rfl⟩⟩, trivial⟩
      have hL : OkL B0 _ := hB.2.2.2.2.2
      have hP : va_P D vwCl [(o, .inl (cs 3, 1, .inr (.inl g4058)))] _ := hB.1
      refine W.know (fun hg => ?_)
      rw [hH0] at hg
      exact en_i hx hb hr hlocks hL rfl (show k4052 ≤ ((336 * sumN C 16 + 145000 - PotN LN) / 35) by omega) (show n4053 ≤ (336 * sumN C 16 + 145000 - PotN LN) by omega) dL_power_25 (⟨_, hKW.z, hT, hKW.1.t2 hrd0 (by decide), by rw [hKW.2 _ (by rw [hrd0.1]; decide) (by rw [hrd0.2]; decide)], _, _, _, _, hCs, hR, hg, by omega, by omega, hbt⟩)
theorem hdX8_cut_v : yX8_cut.cls = RX8 ∧ yX8_cut.cls ≠ "java/lang/invoke/MethodHandle" ∧ yX8_cut.cls ≠ "java/lang/invoke/VarHandle" ∧ (parseMethodDescriptor yX8_cut.desc).map (fun d => d.parameters.length) = some 3 := by decide +kernel
theorem mL_cut_1 : (.classLink RL 22 "java/lang/IndexOutOfBoundsException" : Cond) ∈ wsL_cut := List.mem_of_getElem? (i := 1) (by decide +kernel)
theorem mL_cut_2 : (.classLink RL 41 "java/lang/IllegalStateException" : Cond) ∈ wsL_cut := List.mem_of_getElem? (i := 2) (by decide +kernel)
set_option maxHeartbeats 4000000 in
set_option maxRecDepth 100000 in
theorem c_L_cut {l : Launch} (hlt : l.stackTraces = false) {D : va_G} {cs : Nat → ClassId} {B0 T : Nat} {κ : KM} {H0 : Heap} (hT : WT B0 D cs T κ H0) {w o : Nat} (hw : T2 κ w 9 13) (ho : T2 κ o 29 13) {C : Nat → Nat} {LN : Nat → Nat → Nat} (hR : RQ D cs κ H0 C LN er) (hC : sumN C 16 + 24 ≤ 12400) {x : Int32} {y : Int32} {b_z : Int32} (qb_z : b_z = 0 ∨ b_z = 1) : KC l yL_cut wsL_cut 8 150 ((336 * sumN C 16 + 145000 - PotN LN) / 35) (336 * sumN C 16 + 145000 - PotN LN) D cs B0 H0 [.ref w, .int x, .int y, .int b_z, .ref o] (Qi (fun _ H => ∃ κ1, KZ κ κ1 ∧ WT B0 D cs T κ1 H ∧ T2 κ1 (cs 450) 6 10 ∧ ((κ1 (cs 450)).2.2.1 = (κ (cs 450)).2.2.1) ∧ ∃ C1 LN1 k n, sumN C1 16 ≤ sumN C 16 + 24 ∧ RQ D cs κ1 H C1 LN1 er ∧ Gr H0 H k n ∧ 35 * k ≤ n + 35 ∧ n + PotN LN ≤ PotN LN1 + 714 ∧ BTK D cs κ H0 H)) := by
  refine KC.ofH (hh := [(0, 19, 22, 22), (0, 19, 26, 41)]) cL_cut 6 (some .int) (by decide) rfl (Nat.le_of_ble_eq_true rfl) ?_
  intro p e s m below meth c ls hx hb hr hml hown hts hlocks htab hN hE hH0 hl
  have hown : s.vm.findClass RL = some m.cls := hown
  have hl : lv_has ls 6 [(0, .ref w), (1, .int x), (2, .int y), (3, .int b_z), (4, .ref o)] := hl
  have hL : OkL B0 [] := OkL.nil
  have hGN : 35 * 0 ≤ 0 ∧ 0 + PotN LN ≤ PotN LN := ⟨Nat.le_refl _, by omega⟩
  have hs0 := hR.pot
  have hrd0 := hT.rd hw
  have hR0 := hR
  have hbt : BTK D cs κ H0 H0 := BTK.rf
  refine lv_aload hx hb dL_cut_0 (lv_at hl 4 rfl) ?_
  refine lv_iconst (v := 0) hx hb dL_cut_2 (by decide) ?_
  refine lv_aload_n hx hb dL_cut_3 rfl (lv_at hl 0 rfl) ?_
  refine lv_iload_n hx hb dL_cut_4 rfl (lv_at hl 1 rfl) ?_
  refine lv_iload_n hx hb dL_cut_5 rfl (lv_at hl 2 rfl) ?_
  refine lv_iload_n hx hb dL_cut_6 rfl (lv_at hl 3 rfl) ?_
  refine ct_V (As := [.int x, .int y, .int b_z]) (rest := [.int 0, .ref o]) (b := w) ⟨hx, hb, hml, hown, hts⟩ (c_X8_cut hlt hT (w := w) hw (x := x) (y := y) (b_z := b_z) hR (by first | omega | decide | assumption)) (cwV 3 hts gL_cut_X8_cut rfl rfl rfl hdX8_cut_v ⟨Nat.le_of_ble_eq_true rfl, Nat.le_of_ble_eq_true rfl⟩) hN hE hL (rcv9 hN hT hw.1) rfl rfl hl.1 (Nat.le_of_ble_eq_true rfl) dL_cut_7 (show 0 + ((336 * sumN C 16 + 137000 - PotN LN) / 35) ≤ ((336 * sumN C 16 + 145000 - PotN LN) / 35) by omega) (show 0 + (336 * sumN C 16 + 137000 - PotN LN) ≤ (336 * sumN C 16 + 145000 - PotN LN) by omega) (fun E9 q9 ce9 H1 locs hL hq h1 h2 h3 => ?_) (fun v9 H1 locs hL hqr4059 => ?_)
  · have hTQ := hq
    rcases (by simpa using hTQ.1 : E9 = "java/lang/IndexOutOfBoundsException" ∨ E9 = "java/lang/IllegalStateException") with rfl | rfl
    · refine vx_catch hown [] ⟨0, 19, 22, 22⟩ [⟨0, 19, 26, 41⟩] htab (fun z h => nomatch h) rfl (by decide) (hts _ mL_cut_1) (va_Nw.use rfl (hN.2.2.2.2.2.2.2.1 "java/lang/IndexOutOfBoundsException" (List.mem_of_getElem? (i := 2) rfl))) h1 h2 h3 ?_
      refine W.eq (g2 := F0 m 22 ls [.ref q9]) rfl ?_
      refine W.tight (k := 1) (n := 6) (by rw [hH0]; exact hTQ.2.2.2) ?_
      have hR := hR.fr hT trivial hTQ.fr (by decide)
      have hbt := hbt.fr KZ.rf hT (hT.rd hw) hTQ.fr (by decide) (by decide)
      have hT := hTQ.wt hT
      refine lv_astore (lv' := [(5, .ref q9), (0, .ref w), (1, .int x), (2, .int y), (3, .int b_z), (4, .ref o)]) hx hb dL_cut_22 hl (by decide) rfl (fun ls hl => ?_)
      refine lv_iconst (v := 1) hx hb dL_cut_24 (by decide) ?_
      refine W.know (fun hg => ?_)
      rw [hH0] at hg
      exact en_i hx hb hr hlocks hL rfl (show 1 ≤ ((336 * sumN C 16 + 145000 - PotN LN) / 35) by omega) (show 6 ≤ (336 * sumN C 16 + 145000 - PotN LN) by omega) dL_cut_25 (⟨κ, KZ.rf, hT, hrd0, rfl, C, LN, 1, 6, Nat.le_add_right _ _, hR, hg, by decide, by omega, hbt⟩)
    · refine vx_catch hown [⟨0, 19, 22, 22⟩] ⟨0, 19, 26, 41⟩ [] htab (fun z h => by rw [List.mem_singleton.mp h]; exact Or.inr ⟨by decide, "java/lang/IndexOutOfBoundsException", hts _ mL_cut_1, hN.2.2.2.2.2.2.2.2.1 ("java/lang/IllegalStateException", "java/lang/IndexOutOfBoundsException") (by decide +kernel)⟩) rfl (by decide) (hts _ mL_cut_2) (va_Nw.use rfl (hN.2.2.2.2.2.2.2.1 "java/lang/IllegalStateException" (List.mem_of_getElem? (i := 1) rfl))) h1 h2 h3 ?_
      refine W.eq (g2 := F0 m 26 ls [.ref q9]) rfl ?_
      refine W.tight (k := 1) (n := 6) (by rw [hH0]; exact hTQ.2.2.2) ?_
      have hR := hR.fr hT trivial hTQ.fr (by decide)
      have hbt := hbt.fr KZ.rf hT (hT.rd hw) hTQ.fr (by decide) (by decide)
      have hT := hTQ.wt hT
      refine lv_astore (lv' := [(5, .ref q9), (0, .ref w), (1, .int x), (2, .int y), (3, .int b_z), (4, .ref o)]) hx hb dL_cut_26 hl (by decide) rfl (fun ls hl => ?_)
      refine lv_iconst (v := 2) hx hb dL_cut_28 (by decide) ?_
      refine W.know (fun hg => ?_)
      rw [hH0] at hg
      exact en_i hx hb hr hlocks hL rfl (show 1 ≤ ((336 * sumN C 16 + 145000 - PotN LN) / 35) by omega) (show 6 ≤ (336 * sumN C 16 + 145000 - PotN LN) by omega) dL_cut_29 (⟨κ, KZ.rf, hT, hrd0, rfl, C, LN, 1, 6, Nat.le_add_right _ _, hR, hg, by decide, by omega, hbt⟩)
  · have htr9 : True := trivial
    obtain ⟨r4059, rfl, hqr4059⟩ := hqr4059
    refine W.eq (g2 := F0 m 10 ls [.int r4059, .int 0, .ref o]) rfl ?_
    obtain ⟨κr4059, hxr4059, hT1, hqr4059⟩ := hqr4059
    have hxfr4059 := hxr4059.1
    have hKZo : KZ κ κ := KZ.rf
    have hT := hT1
    have hKF : KF κ κr4059 := hxfr4059
    have hKW : KW κ κr4059 := hxr4059
    have hw := (KF.t2 hxfr4059 hw (by decide))
    have ho := (KF.t2 hxfr4059 ho (by decide))
    obtain ⟨C4060, L4061, k4062, n4063, h4064, r4065, g4066, t4067⟩ := hqr4059
    have hR := r4065
    have hCs := h4064
    obtain ⟨k4068, n4069, hGP, hgk, hgn⟩ : ∃ k9 n9, Gr H0 _ k9 n9 ∧ 35 * k9 ≤ n9 ∧ n9 + PotN LN ≤ PotN L4061 := ⟨_, _, g4066.1, g4066.2.1, g4066.2.2⟩
    have hp0 := hR0.pot
    have hp1 := hR.pot
    refine W.tight (k := k4068) (n := n4069) (by rw [hH0]; exact hGP) ?_
    have hbt := hbt.tr hKZo t4067
    refine lv_if_eq (tgt := 17) hx hb dL_cut_10 (by decide) (fun c4070 => ?_) (fun c4070 => ?_)
    · refine lv_lconst (v := 0) hx hb dL_cut_17 (by decide) ?_
      obtain ⟨hb4071, e4071, hat4071, hk4071⟩ := hT.o29 ho.1
      obtain ⟨g4071, rfl⟩ := hk4071
      have hP : va_P D vwCl [(o, .inl (cs 3, 1, .inr (.inl g4071)))] _ := va_P.cons hat4071 va_P.nil
      have hB : Bx B0 D _ [(o, .inl (cs 3, 1, .inr (.inl g4071)))] [] _ _ := Bx.of (fun a => (κr4059 a).1) hL hP (fa_c hb4071 fa_n) (by simp only [List.map_cons, List.map_nil, ho.1]; decide)
      refine b_l hx hb hN hB 0 rfl (vp_in_nI (n := 0) (N := 1) (by omega) (by omega)) (.inl rfl) dL_cut_18 (fun H locs hB => ?_)
      rw [(show (0 : Int32).toNatClampNeg = 0 from nI_clamp (n := 0) (by omega))] at hB
      have hB : Bx B0 D _ [(o, .inl (cs 3, 1, .inr (.inl (vp_updL g4071 0 0))))] [o] _ _ := hB
      generalize (vp_updL g4071 0 0) = g4072 at hB
      refine lv_goto (tgt := 30) hx hb dL_cut_19 (by decide) ?_
      refine lv_iconst (v := 0) hx hb dL_cut_30 (by decide) ?_
      have hR := hR.fr hT trivial (Fr.close (S := [13]) Fr.rf hB (fa_c (by simp [ho.2]) fa_n)) (by decide)
      have hbt := hbt.fr hKW.z hT (hT.rd hw) (Fr.close (S := [13]) Fr.rf hB (fa_c (by simp [ho.2]) fa_n)) (by decide) (by decide)
      have hT : WT B0 D cs T κr4059 _ := hT.close hB ⟨⟨0, _, rfl, ok_29 ho.1 ⟨_, rfl⟩⟩, trivial⟩
      have hL : OkL B0 _ := hB.2.2.2.2.2
      have hP : va_P D vwCl [(o, .inl (cs 3, 1, .inr (.inl g4072)))] _ := hB.1
      refine W.know (fun hg => ?_)
      rw [hH0] at hg
      exact en_i hx hb hr hlocks hL rfl (show k4068 ≤ ((336 * sumN C 16 + 145000 - PotN LN) / 35) by omega) (show n4069 ≤ (336 * sumN C 16 + 145000 - PotN LN) by omega) dL_cut_31 (⟨_, hKW.z, hT, hKW.1.t2 hrd0 (by decide), by rw [hKW.2 _ (by rw [hrd0.1]; decide) (by rw [hrd0.2]; decide)], _, _, _, _, hCs, hR, hg, by omega, by omega, hbt⟩)
    · refine lv_lconst (v := 1) hx hb dL_cut_13 (by decide) ?_
      refine lv_goto (tgt := 18) hx hb dL_cut_14 (by decide) ?_
      obtain ⟨hb4073, e4073, hat4073, hk4073⟩ := hT.o29 ho.1
      obtain ⟨g4073, rfl⟩ := hk4073
      have hP : va_P D vwCl [(o, .inl (cs 3, 1, .inr (.inl g4073)))] _ := va_P.cons hat4073 va_P.nil
      have hB : Bx B0 D _ [(o, .inl (cs 3, 1, .inr (.inl g4073)))] [] _ _ := Bx.of (fun a => (κr4059 a).1) hL hP (fa_c hb4073 fa_n) (by simp only [List.map_cons, List.map_nil, ho.1]; decide)
      refine b_l hx hb hN hB 0 rfl (vp_in_nI (n := 0) (N := 1) (by omega) (by omega)) (.inl rfl) dL_cut_18 (fun H locs hB => ?_)
      rw [(show (0 : Int32).toNatClampNeg = 0 from nI_clamp (n := 0) (by omega))] at hB
      have hB : Bx B0 D _ [(o, .inl (cs 3, 1, .inr (.inl (vp_updL g4073 0 1))))] [o] _ _ := hB
      generalize (vp_updL g4073 0 1) = g4074 at hB
      refine lv_goto (tgt := 30) hx hb dL_cut_19 (by decide) ?_
      refine lv_iconst (v := 0) hx hb dL_cut_30 (by decide) ?_
      have hR := hR.fr hT trivial (Fr.close (S := [13]) Fr.rf hB (fa_c (by simp [ho.2]) fa_n)) (by decide)
      have hbt := hbt.fr hKW.z hT (hT.rd hw) (Fr.close (S := [13]) Fr.rf hB (fa_c (by simp [ho.2]) fa_n)) (by decide) (by decide)
      have hT : WT B0 D cs T κr4059 _ := hT.close hB ⟨⟨0, _, rfl, ok_29 ho.1 ⟨_, rfl⟩⟩, trivial⟩
      have hL : OkL B0 _ := hB.2.2.2.2.2
      have hP : va_P D vwCl [(o, .inl (cs 3, 1, .inr (.inl g4074)))] _ := hB.1
      refine W.know (fun hg => ?_)
      rw [hH0] at hg
      exact en_i hx hb hr hlocks hL rfl (show k4068 ≤ ((336 * sumN C 16 + 145000 - PotN LN) / 35) by omega) (show n4069 ≤ (336 * sumN C 16 + 145000 - PotN LN) by omega) dL_cut_31 (⟨_, hKW.z, hT, hKW.1.t2 hrd0 (by decide), by rw [hKW.2 _ (by rw [hrd0.1]; decide) (by rw [hrd0.2]; decide)], _, _, _, _, hCs, hR, hg, by omega, by omega, hbt⟩)
theorem hdX8_lead_v : yX8_lead.cls = RX8 ∧ yX8_lead.cls ≠ "java/lang/invoke/MethodHandle" ∧ yX8_lead.cls ≠ "java/lang/invoke/VarHandle" ∧ (parseMethodDescriptor yX8_lead.desc).map (fun d => d.parameters.length) = some 1 := by decide +kernel
theorem mL_lead_1 : (.classLink RL 22 "java/lang/IndexOutOfBoundsException" : Cond) ∈ wsL_lead := List.mem_of_getElem? (i := 1) (by decide +kernel)
set_option maxHeartbeats 4000000 in
set_option maxRecDepth 100000 in
theorem c_L_lead {l : Launch} (hlt : l.stackTraces = false) {D : va_G} {cs : Nat → ClassId} {B0 T : Nat} {κ : KM} {H0 : Heap} (hT : WT B0 D cs T κ H0) {w o : Nat} (hw : T2 κ w 9 13) (ho : T2 κ o 29 13) {C : Nat → Nat} {LN : Nat → Nat → Nat} (hR : RQ D cs κ H0 C LN er) (hC : sumN C 16 + 24 ≤ 12400) {x : Int32} : KC l yL_lead wsL_lead 8 148 ((336 * sumN C 16 + 145000 - PotN LN) / 35) (336 * sumN C 16 + 145000 - PotN LN) D cs B0 H0 [.ref w, .int x, .ref o] (Qi (fun _ H => ∃ κ1, KZ κ κ1 ∧ WT B0 D cs T κ1 H ∧ T2 κ1 (cs 450) 6 10 ∧ ((κ1 (cs 450)).2.2.1 = (κ (cs 450)).2.2.1) ∧ ∃ C1 LN1 k n, sumN C1 16 ≤ sumN C 16 + 24 ∧ RQ D cs κ1 H C1 LN1 er ∧ Gr H0 H k n ∧ 35 * k ≤ n + 35 ∧ n + PotN LN ≤ PotN LN1 + 714 ∧ BTK D cs κ H0 H)) := by
  refine KC.ofH (hh := [(0, 9, 12, 22)]) cL_lead 4 (some .int) (by decide) rfl (Nat.le_of_ble_eq_true rfl) ?_
  intro p e s m below meth c ls hx hb hr hml hown hts hlocks htab hN hE hH0 hl
  have hown : s.vm.findClass RL = some m.cls := hown
  have hl : lv_has ls 4 [(0, .ref w), (1, .int x), (2, .ref o)] := hl
  have hL : OkL B0 [] := OkL.nil
  have hGN : 35 * 0 ≤ 0 ∧ 0 + PotN LN ≤ PotN LN := ⟨Nat.le_refl _, by omega⟩
  have hs0 := hR.pot
  have hrd0 := hT.rd hw
  have hR0 := hR
  have hbt : BTK D cs κ H0 H0 := BTK.rf
  refine lv_aload_n hx hb dL_lead_0 rfl (lv_at hl 2 rfl) ?_
  refine lv_iconst (v := 0) hx hb dL_lead_1 (by decide) ?_
  refine lv_aload_n hx hb dL_lead_2 rfl (lv_at hl 0 rfl) ?_
  refine lv_iload_n hx hb dL_lead_3 rfl (lv_at hl 1 rfl) ?_
  refine ct_V (As := [.int x]) (rest := [.int 0, .ref o]) (b := w) ⟨hx, hb, hml, hown, hts⟩ (c_X8_lead hlt hT (w := w) hw (x := x) hR) (cwV 1 hts gL_lead_X8_lead rfl rfl rfl hdX8_lead_v ⟨Nat.le_of_ble_eq_true rfl, Nat.le_of_ble_eq_true rfl⟩) hN hE hL (rcv9 hN hT hw.1) rfl rfl hl.1 (Nat.le_of_ble_eq_true rfl) dL_lead_4 (show 0 + ((336 * sumN C 16 + 137000 - PotN LN) / 35) ≤ ((336 * sumN C 16 + 145000 - PotN LN) / 35) by omega) (show 0 + (336 * sumN C 16 + 137000 - PotN LN) ≤ (336 * sumN C 16 + 145000 - PotN LN) by omega) (fun E9 q9 ce9 H1 locs hL hq h1 h2 h3 => ?_) (fun v9 H1 locs hL hqr4075 => ?_)
  · have hTQ := hq
    obtain rfl : E9 = "java/lang/IndexOutOfBoundsException" := by simpa using hTQ.1
    refine vx_catch hown [] ⟨0, 9, 12, 22⟩ [] htab (fun z h => nomatch h) rfl (by decide) (hts _ mL_lead_1) (va_Nw.use rfl (hN.2.2.2.2.2.2.2.1 "java/lang/IndexOutOfBoundsException" (List.mem_of_getElem? (i := 2) rfl))) h1 h2 h3 ?_
    refine W.eq (g2 := F0 m 12 ls [.ref q9]) rfl ?_
    refine W.tight (k := 1) (n := 6) (by rw [hH0]; exact hTQ.2.2.2) ?_
    have hR := hR.fr hT trivial hTQ.fr (by decide)
    have hbt := hbt.fr KZ.rf hT (hT.rd hw) hTQ.fr (by decide) (by decide)
    have hT := hTQ.wt hT
    refine lv_astore_n (lv' := [(3, .ref q9), (0, .ref w), (1, .int x), (2, .ref o)]) hx hb dL_lead_12 rfl hl (by decide) rfl (fun ls hl => ?_)
    refine lv_iconst (v := 1) hx hb dL_lead_13 (by decide) ?_
    refine W.know (fun hg => ?_)
    rw [hH0] at hg
    exact en_i hx hb hr hlocks hL rfl (show 1 ≤ ((336 * sumN C 16 + 145000 - PotN LN) / 35) by omega) (show 6 ≤ (336 * sumN C 16 + 145000 - PotN LN) by omega) dL_lead_14 (⟨κ, KZ.rf, hT, hrd0, rfl, C, LN, 1, 6, Nat.le_add_right _ _, hR, hg, by decide, by omega, hbt⟩)
  · have htr9 : True := trivial
    obtain ⟨r4075, rfl, hqr4075⟩ := hqr4075
    refine W.eq (g2 := F0 m 7 ls [.int r4075, .int 0, .ref o]) rfl ?_
    obtain ⟨κr4075, hxr4075, hT1, hqr4075⟩ := hqr4075
    have hxfr4075 := hxr4075.1
    have hKZo : KZ κ κ := KZ.rf
    have hT := hT1
    have hKF : KF κ κr4075 := hxfr4075
    have hKW : KW κ κr4075 := hxr4075
    have hw := (KF.t2 hxfr4075 hw (by decide))
    have ho := (KF.t2 hxfr4075 ho (by decide))
    obtain ⟨C4076, L4077, k4078, n4079, h4080, r4081, g4082, t4083⟩ := hqr4075
    have hR := r4081
    have hCs := h4080
    obtain ⟨k4084, n4085, hGP, hgk, hgn⟩ : ∃ k9 n9, Gr H0 _ k9 n9 ∧ 35 * k9 ≤ n9 ∧ n9 + PotN LN ≤ PotN L4077 := ⟨_, _, g4082.1, g4082.2.1, g4082.2.2⟩
    have hp0 := hR0.pot
    have hp1 := hR.pot
    refine W.tight (k := k4084) (n := n4085) (by rw [hH0]; exact hGP) ?_
    have hbt := hbt.tr hKZo t4083
    refine lv_i2l hx hb dL_lead_7 rfl ?_
    refine gn_l (fun y4086 => ?_)
    obtain ⟨hb4087, e4087, hat4087, hk4087⟩ := hT.o29 ho.1
    obtain ⟨g4087, rfl⟩ := hk4087
    have hP : va_P D vwCl [(o, .inl (cs 3, 1, .inr (.inl g4087)))] _ := va_P.cons hat4087 va_P.nil
    have hB : Bx B0 D _ [(o, .inl (cs 3, 1, .inr (.inl g4087)))] [] _ _ := Bx.of (fun a => (κr4075 a).1) hL hP (fa_c hb4087 fa_n) (by simp only [List.map_cons, List.map_nil, ho.1]; decide)
    refine b_l hx hb hN hB 0 rfl (vp_in_nI (n := 0) (N := 1) (by omega) (by omega)) (.inl rfl) dL_lead_8 (fun H locs hB => ?_)
    rw [(show (0 : Int32).toNatClampNeg = 0 from nI_clamp (n := 0) (by omega))] at hB
    have hB : Bx B0 D _ [(o, .inl (cs 3, 1, .inr (.inl (vp_updL g4087 0 y4086))))] [o] _ _ := hB
    generalize (vp_updL g4087 0 y4086) = g4088 at hB
    refine lv_goto (tgt := 15) hx hb dL_lead_9 (by decide) ?_
    refine lv_iconst (v := 0) hx hb dL_lead_15 (by decide) ?_
    have hR := hR.fr hT trivial (Fr.close (S := [13]) Fr.rf hB (fa_c (by simp [ho.2]) fa_n)) (by decide)
    have hbt := hbt.fr hKW.z hT (hT.rd hw) (Fr.close (S := [13]) Fr.rf hB (fa_c (by simp [ho.2]) fa_n)) (by decide) (by decide)
    have hT : WT B0 D cs T κr4075 _ := hT.close hB ⟨⟨0, _, rfl, ok_29 ho.1 ⟨_, rfl⟩⟩, trivial⟩
    have hL : OkL B0 _ := hB.2.2.2.2.2
    have hP : va_P D vwCl [(o, .inl (cs 3, 1, .inr (.inl g4088)))] _ := hB.1
    refine W.know (fun hg => ?_)
    rw [hH0] at hg
    exact en_i hx hb hr hlocks hL rfl (show k4084 ≤ ((336 * sumN C 16 + 145000 - PotN LN) / 35) by omega) (show n4085 ≤ (336 * sumN C 16 + 145000 - PotN LN) by omega) dL_lead_16 (⟨_, hKW.z, hT, hKW.1.t2 hrd0 (by decide), by rw [hKW.2 _ (by rw [hrd0.1]; decide) (by rw [hrd0.2]; decide)], _, _, _, _, hCs, hR, hg, by omega, by omega, hbt⟩)
theorem hdX8_load_v : yX8_load.cls = RX8 ∧ yX8_load.cls ≠ "java/lang/invoke/MethodHandle" ∧ yX8_load.cls ≠ "java/lang/invoke/VarHandle" ∧ (parseMethodDescriptor yX8_load.desc).map (fun d => d.parameters.length) = some 1 := by decide +kernel
theorem mL_load_1 : (.classLink RL 13 "java/lang/IllegalArgumentException" : Cond) ∈ wsL_load := List.mem_of_getElem? (i := 1) (by decide +kernel)
set_option maxHeartbeats 4000000 in
set_option maxRecDepth 100000 in
theorem c_L_load {l : Launch} (hlt : l.stackTraces = false) {D : va_G} {cs : Nat → ClassId} {B0 T : Nat} {κ : KM} {H0 : Heap} (hT : WT B0 D cs T κ H0) {w o : Nat} (hw : T2 κ w 9 13) (ho : T2 κ o 29 13) {C : Nat → Nat} {LN : Nat → Nat → Nat} (hR : RQ D cs κ H0 C LN er) (hC : sumN C 16 + 24 ≤ 12400) {x : Int32} {tx : Nat} {f g : Nat → Int32} (hbr : BRT D cs (cs 450) H0 tx f) (hbg : BG f g (κ (cs 450)).2.2.1) : KC l yL_load wsL_load 24 531 ((336 * sumN C 16 + 145000 - PotN LN) / 35) (336 * sumN C 16 + 145000 - PotN LN) D cs B0 H0 [.ref w, .int x, .ref o] (Qi (fun r H => ∃ κ1, KZ κ κ1 ∧ WT B0 D cs T κ1 H ∧ T2 κ1 (cs 450) 6 10 ∧ (((x < 0 ∨ nI (κ (cs 450)).2.2.1 < x) ∧ (κ1 (cs 450)).2.2.1 = (κ (cs 450)).2.2.1 ∧ r = 1 ∧ BRT D cs (cs 450) H tx f) ∨ (r = 0 ∧ (κ1 (cs 450)).2.2.1 = 0 ∧ BRT D cs (cs 450) H tx f ∧ ∃ nx ra oa fo, x = nI nx ∧ nx ≤ (κ (cs 450)).2.2.1 ∧ LDA g nx ra oa ∧ va_at D vwCl (o, .inl (cs 3, 1, .inr (.inl fo))) H ∧ fo 0 = ra.toInt64)) ∧ ∃ C1 LN1 k n, sumN C1 16 ≤ sumN C 16 + 24 ∧ RQ D cs κ1 H C1 LN1 er ∧ Gr H0 H k n ∧ 35 * k ≤ n + 35 ∧ n + PotN LN ≤ PotN LN1 + 714)) := by
  refine KC.ofH (hh := [(0, 9, 12, 13)]) cL_load 4 (some .int) (by decide) rfl (Nat.le_of_ble_eq_true rfl) ?_
  intro p e s m below meth c ls hx hb hr hml hown hts hlocks htab hN hE hH0 hl
  have hown : s.vm.findClass RL = some m.cls := hown
  have hl : lv_has ls 4 [(0, .ref w), (1, .int x), (2, .ref o)] := hl
  have hL : OkL B0 [] := OkL.nil
  have hGN : 35 * 0 ≤ 0 ∧ 0 + PotN LN ≤ PotN LN := ⟨Nat.le_refl _, by omega⟩
  have hs0 := hR.pot
  have hrd0 := hT.rd hw
  have hR0 := hR
  have hbt : BTK D cs κ H0 H0 := BTK.rf
  refine lv_aload_n hx hb dL_load_0 rfl (lv_at hl 2 rfl) ?_
  refine lv_iconst (v := 0) hx hb dL_load_1 (by decide) ?_
  refine lv_aload_n hx hb dL_load_2 rfl (lv_at hl 0 rfl) ?_
  refine lv_iload_n hx hb dL_load_3 rfl (lv_at hl 1 rfl) ?_
  refine ct_V (As := [.int x]) (rest := [.int 0, .ref o]) (b := w) ⟨hx, hb, hml, hown, hts⟩ (c_X8_load hlt hT (w := w) hw (x := x) hR (by first | omega | decide | assumption) (by first | omega | decide | assumption) (by first | omega | decide | assumption)) (cwV 1 hts gL_load_X8_load rfl rfl rfl hdX8_load_v ⟨Nat.le_of_ble_eq_true rfl, Nat.le_of_ble_eq_true rfl⟩) hN hE hL (rcv9 hN hT hw.1) rfl rfl hl.1 (Nat.le_of_ble_eq_true rfl) dL_load_4 (show 0 + ((336 * sumN C 16 + 140000 - PotN LN) / 35) ≤ ((336 * sumN C 16 + 145000 - PotN LN) / 35) by omega) (show 0 + (336 * sumN C 16 + 140000 - PotN LN) ≤ (336 * sumN C 16 + 145000 - PotN LN) by omega) (fun E9 q9 ce9 H1 locs hL hq h1 h2 h3 => ?_) (fun v9 H1 locs hL hqr4089 => ?_)
  · have hTQ := hq.1
    have hout := hq.2
    obtain rfl : E9 = "java/lang/IllegalArgumentException" := by simpa using hTQ.1
    refine vx_catch hown [] ⟨0, 9, 12, 13⟩ [] htab (fun z h => nomatch h) rfl (by decide) (hts _ mL_load_1) (va_Nw.use rfl (hN.2.2.2.2.2.2.2.1 "java/lang/IllegalArgumentException" (List.mem_of_getElem? (i := 0) rfl))) h1 h2 h3 ?_
    refine W.eq (g2 := F0 m 12 ls [.ref q9]) rfl ?_
    refine W.tight (k := 1) (n := 6) (by rw [hH0]; exact hTQ.2.2.2) ?_
    have hR := hR.fr hT trivial hTQ.fr (by decide)
    have hbt := hbt.fr KZ.rf hT (hT.rd hw) hTQ.fr (by decide) (by decide)
    have hT := hTQ.wt hT
    refine lv_astore_n (lv' := [(3, .ref q9), (0, .ref w), (1, .int x), (2, .ref o)]) hx hb dL_load_12 rfl hl (by decide) rfl (fun ls hl => ?_)
    refine lv_iconst (v := 1) hx hb dL_load_13 (by decide) ?_
    refine W.know (fun hg => ?_)
    rw [hH0] at hg
    exact en_i hx hb hr hlocks hL rfl (show 1 ≤ ((336 * sumN C 16 + 145000 - PotN LN) / 35) by omega) (show 6 ≤ (336 * sumN C 16 + 145000 - PotN LN) by omega) dL_load_14 (⟨κ, KZ.rf, hT, hrd0, Or.inl ⟨hout, rfl, rfl, hbt.1 _ _ hbr⟩, C, LN, 1, 6, Nat.le_add_right _ _, hR, hg, by decide, by omega⟩)
  · have htr9 : True := trivial
    obtain ⟨r4089, rfl, hqr4089⟩ := hqr4089
    refine W.eq (g2 := F0 m 7 ls [.int r4089, .int 0, .ref o]) rfl ?_
    obtain ⟨κr4089, hxr4089, hT1, hqr4089⟩ := hqr4089
    have hKZo : KZ κ κ := KZ.rf
    have hT := hT1
    have hKZ := hxr4089
    have hw := hxr4089.t2 hw (by decide) (by decide)
    have ho := hxr4089.t2 ho (by decide) (by decide)
    obtain ⟨a4090, z4091, nx4092, xe4093, xn4094, br4095, C4096, L4097, k4098, n4099, h4100, r4101, G4102, b4103, o4104, ld4105⟩ := hqr4089
    have hR := r4101
    have hCs := h4100
    obtain ⟨k4106, n4107, hGP, hgk, hgn⟩ : ∃ k9 n9, Gr H0 _ k9 n9 ∧ 35 * k9 ≤ n9 ∧ n9 + PotN LN ≤ PotN L4097 + 714 := ⟨_, _, G4102, b4103.1, b4103.2⟩
    have hbr := br4095
    have hbt := BTK.rf (D := D) (cs := cs) (κ := κr4089) (H := H1)
    have hKr : KZ κr4089 κr4089 := KZ.rf
    have hp0 := hR0.pot
    have hp1 := hR.pot
    refine W.tight (k := k4106) (n := n4107) (by rw [hH0]; exact hGP) ?_
    refine lv_i2l (v := r4089.toInt64) hx hb dL_load_7 rfl ?_
    obtain ⟨hb4109, e4109, hat4109, hk4109⟩ := hT.o29 ho.1
    obtain ⟨g4109, rfl⟩ := hk4109
    have hP : va_P D vwCl [(o, .inl (cs 3, 1, .inr (.inl g4109)))] _ := va_P.cons hat4109 va_P.nil
    have hB : Bx B0 D _ [(o, .inl (cs 3, 1, .inr (.inl g4109)))] [] _ _ := Bx.of (fun a => (κr4089 a).1) hL hP (fa_c hb4109 fa_n) (by simp only [List.map_cons, List.map_nil, ho.1]; decide)
    refine b_l hx hb hN hB 0 rfl (vp_in_nI (n := 0) (N := 1) (by omega) (by omega)) (.inl rfl) dL_load_8 (fun H locs hB => ?_)
    rw [(show (0 : Int32).toNatClampNeg = 0 from nI_clamp (n := 0) (by omega))] at hB
    have hB : Bx B0 D _ [(o, .inl (cs 3, 1, .inr (.inl (vp_updL g4109 0 (r4089.toInt64)))))] [o] _ _ := hB
    refine lv_goto (tgt := 15) hx hb dL_load_9 (by decide) ?_
    refine lv_iconst (v := 0) hx hb dL_load_15 (by decide) ?_
    have hR := hR.fr hT trivial (Fr.close (S := [13]) Fr.rf hB (fa_c (by simp [ho.2]) fa_n)) (by decide)
    have hbt := hbt.fr hKr hT (hT.rd hw) (Fr.close (S := [13]) Fr.rf hB (fa_c (by simp [ho.2]) fa_n)) (by decide) (by decide)
    have hT : WT B0 D cs T κr4089 _ := hT.close hB ⟨⟨0, _, rfl, ok_29 ho.1 ⟨_, rfl⟩⟩, trivial⟩
    have hL : OkL B0 _ := hB.2.2.2.2.2
    have hP : va_P D vwCl [(o, .inl (cs 3, 1, .inr (.inl (vp_updL g4109 0 (r4089.toInt64)))))] _ := hB.1
    refine W.know (fun hg => ?_)
    rw [hH0] at hg
    exact en_i hx hb hr hlocks hL rfl (show k4106 ≤ ((336 * sumN C 16 + 145000 - PotN LN) / 35) by omega) (show n4107 ≤ (336 * sumN C 16 + 145000 - PotN LN) by omega) dL_load_16 (⟨_, hKZ, hT, a4090, Or.inr ⟨rfl, z4091, hbt.1 _ _ hbr, _, _, _, _, xe4093, xn4094, ld4105, hP 0 _ rfl, upL_0⟩, _, _, _, _, hCs, hR, hg, by omega, by omega⟩)
