
/-- kinds where what is of the owners 12 and on stays -/
def KZ (κ κ' : KM) : Prop := ∀ a, (κ a).1 ≠ 0 → 12 ≤ (κ a).2.1 → κ' a = κ a
theorem KZ.rf {κ : KM} : KZ κ κ := fun _ _ _ => rfl
theorem KZ.tr {κ κ1 κ2 : KM} (h : KZ κ κ1) (g : KZ κ1 κ2) : KZ κ κ2 := fun a ha hi => by
  have e := h a ha hi
  exact (g a (by rw [e]; exact ha) (by rw [e]; exact hi)).trans e
theorem KW.z {κ κ' : KM} (h : KW κ κ') : KZ κ κ' := fun a ha hi => h.2 a ha (by omega)
theorem KZ.t2 {κ κ' : KM} (h : KZ κ κ') {a c o : Nat} (g : T2 κ a c o) (hc : c ≠ 0) (ho : 12 ≤ o) : T2 κ' a c o := by
  have e := h a (by rw [g.1]; exact hc) (by rw [g.2]; exact ho)
  exact ⟨by rw [e]; exact g.1, by rw [e]; exact g.2⟩
theorem rd_z {κ κ1 : KM} {rd : Nat} (hr : T2 κ rd 6 10) (h : ∀ a, (κ a).1 ≠ 0 → a ≠ rd → (κ a).2.1 ≠ 11 → κ1 a = κ a) : KZ κ κ1 := fun a ha ho => h a ha (fun e => by rw [e, hr.2] at ho; omega) (by omega)

theorem er_00 : ∀ i, i < 10 → up9 er 0 0 i = er i := fun i _ => by
  by_cases e : i = 0
  · subst e; rfl
  · rw [up9_n e]

theorem xgX8_load_49_0 : ∀ w ∈ (vx_atS RX8 49 "java/lang/IllegalArgumentException" ["java/lang/RuntimeException", "java/lang/Exception"]).filter goodWord, w ∈ wsX8_load := fun w h => by unfold wsX8_load; exact List.mem_cons_of_mem _ (List.mem_append_right _ h)
theorem mX8_load_1 : (.classLink RX8 45 "java/lang/IllegalArgumentException" : Cond) ∈ wsX8_load := List.mem_of_getElem? (i := 1) (by decide +kernel)
theorem mX8_load_2 : (.initialized "java/lang/IllegalArgumentException" : Cond) ∈ wsX8_load := List.mem_of_getElem? (i := 2) (by decide +kernel)
theorem mX8_load_3 : (.fieldLink RX8 10 "OneBeat" "reader" "LOneBeat$Reader;" : Cond) ∈ wsX8_load := List.mem_of_getElem? (i := 3) (by decide +kernel)
theorem iX8_load_8 : ∀ w ∈ wsX80, w ∈ wsX8_load := fun w h => List.mem_of_mem_drop (List.mem_of_mem_take ((show wsX80 = (wsX8_load.drop 311).take 7 by decide +kernel) ▸ h))
theorem iX8_load_5 : ∀ w ∈ wsX50, w ∈ wsX8_load := fun w h => List.mem_of_mem_drop (List.mem_of_mem_take ((show wsX50 = (wsX8_load.drop 318).take 14 by decide +kernel) ▸ h))
theorem hdX5_read_v : yX5_read.cls = RX5 ∧ yX5_read.cls ≠ "java/lang/invoke/MethodHandle" ∧ yX5_read.cls ≠ "java/lang/invoke/VarHandle" ∧ (parseMethodDescriptor yX5_read.desc).map (fun d => d.parameters.length) = some 1 := by decide +kernel
theorem mX8_load_4 : (.fieldLink RX8 30 "OneBeat" "errorAt" "I" : Cond) ∈ wsX8_load := List.mem_of_getElem? (i := 4) (by decide +kernel)
theorem mX8_load_5 : (.fieldLink RX8 19 "OneBeat" "now" "LOneBeat$World;" : Cond) ∈ wsX8_load := List.mem_of_getElem? (i := 5) (by decide +kernel)
theorem hdX7_begin_v : yX7_begin.cls = RX7 ∧ yX7_begin.cls ≠ "java/lang/invoke/MethodHandle" ∧ yX7_begin.cls ≠ "java/lang/invoke/VarHandle" ∧ (parseMethodDescriptor yX7_begin.desc).map (fun d => d.parameters.length) = some 1 := by decide +kernel
theorem iX8_load_6 : ∀ w ∈ wsX60, w ∈ wsX8_load := fun w h => List.mem_of_mem_drop (List.mem_of_mem_take ((show wsX60 = (wsX8_load.drop 332).take 8 by decide +kernel) ▸ h))
set_option maxHeartbeats 4000000 in
set_option maxRecDepth 100000 in
theorem c_X8_load {l : Launch} (hlt : l.stackTraces = false) {D : va_G} {cs : Nat → ClassId} {B0 T : Nat} {κ : KM} {H0 : Heap} (hT : WT B0 D cs T κ H0) {w : Nat} (hw : T2 κ w 9 13) {C : Nat → Nat} {LN : Nat → Nat → Nat} (hR : RQ D cs κ H0 C LN er) {x : Int32} (hC : sumN C 16 + 24 ≤ 12400) : KT l yX8_load wsX8_load 23 509 ((336 * sumN C 16 + 140000 - PotN LN) / 35) (336 * sumN C 16 + 140000 - PotN LN) D cs B0 H0 [.ref w, .int x] (Qi (fun _ H => ∃ κ1, KZ κ κ1 ∧ WT B0 D cs T κ1 H ∧ T2 κ1 (cs 450) 6 10 ∧ (κ1 (cs 450)).2.2.1 = 0 ∧ ¬ x < 0 ∧ ¬ nI (κ (cs 450)).2.2.1 < x ∧ ∃ C1 LN1 k n, sumN C1 16 ≤ sumN C 16 + 24 ∧ RQ D cs κ1 H C1 LN1 er ∧ Gr H0 H k n ∧ 35 * k ≤ n ∧ n + PotN LN ≤ PotN LN1 + 714)) (fun E9 H9 => TQ ["java/lang/IllegalArgumentException"] H0 E9 H9 ∧ (x < 0 ∨ nI (κ (cs 450)).2.2.1 < x)) := by
  refine KT.of cX8_load 3 (some .int) (by decide) rfl (Nat.le_of_ble_eq_true rfl) ?_
  intro p e s m below meth c ls hx hb hr hml hown hts hlocks hnx hN hE hH0 hl
  have hown : s.vm.findClass RX8 = some m.cls := hown
  have hl : lv_has ls 3 [(0, .ref w), (1, .int x)] := hl
  have hL : OkL B0 [] := OkL.nil
  have hGN : 35 * 0 ≤ 0 ∧ 0 + PotN LN ≤ PotN LN := ⟨Nat.le_refl _, by omega⟩
  have hs0 := hR.pot
  refine lv_iload_n hx hb dX8_load_0 rfl (lv_at hl 1 rfl) ?_
  refine lv_if_lt (tgt := 15) hx hb dX8_load_1 (by decide) (fun c5899 => ?_) (fun c5899 => ?_)
  · exact tx_up (Qu := fun E1 H1 => E1 = "java/lang/IllegalArgumentException" ∧ H0.size ≤ H1.size ∧ ∀ q : Nat, q < H0.size → H1[q]? = H0[q]?) (tx_g2 (Qo := fun _ _ => False) (E := "java/lang/IllegalArgumentException") 0 hx hb hlt hown hN (by decide +kernel) (hts _ mX8_load_1) (hts _ mX8_load_2) (hN.s 0 rfl) rfl (fun w h => hts w (xgX8_load_49_0 w h)) xnRX8_49_0 xdRX8_49_0 xoRX8_45_49_0 hE.1 (by rw [hH0]; exact ⟨Nat.le_refl _, fun _ _ _ => rfl, hL⟩) (fun H1 g1 g2 => ⟨rfl, g1, g2⟩) hl hml dX8_load_15 dX8_load_18 dX8_load_19 dX8_load_21 dX8_load_24 hnx (Nat.le_of_ble_eq_true rfl) (Nat.le_of_ble_eq_true rfl) (show 0 + 1 ≤ ((336 * sumN C 16 + 140000 - PotN LN) / 35) by omega) (show 0 + 6 ≤ (336 * sumN C 16 + 140000 - PotN LN) by omega) hlocks (Nat.le_refl _) (Nat.le_refl _)) hH0 (show 1 ≤ ((336 * sumN C 16 + 140000 - PotN LN) / 35) by omega) (show 6 ≤ (336 * sumN C 16 + 140000 - PotN LN) by omega) (fun E1 H1 g g3 => ⟨⟨by rw [g.1]; simp, g.2.1, g.2.2, g3⟩, Or.inl c5899⟩)
  · refine lv_iload_n hx hb dX8_load_4 rfl (lv_at hl 1 rfl) ?_
    refine lv_aload_n hx hb dX8_load_5 rfl (lv_at hl 0 rfl) ?_
    obtain ⟨hb5900, e5900, hat5900, hk5900⟩ := hT.o9 hw.1
    obtain ⟨f5900_0, f5900_1, f5900_2, f5900_3, f5900_4, f5900_5, f5900_6, rfl, t5900_0, t5900_1, t5900_2, t5900_3, rfl, rfl, rfl⟩ := hk5900
    have hP : va_P D vwCl [(w, .inr (8, [.ref (cs 450), .ref (cs 440), .ref (cs 441), .ref f5900_3, .int f5900_4, .int f5900_5, .int f5900_6]))] _ := va_P.cons hat5900 va_P.nil
    refine va_get (D := D) (ci := 8) (v := .ref (cs 450)) (C := RX8) (T := TX8) (N := 7) hx hb hts iX8_load_8 hown hN.1 hP 0 rfl rfl 0 (by decide) (hts _ mX8_load_3) (fun _ h9 => h9) rfl dX8_load_6 ?_
    obtain ⟨hb5901, e5901, hat5901, hk5901⟩ := hT.o6 t5900_0.1
    obtain ⟨f5901_0, f5901_2, f5901_3, f5901_4, f5901_5, f5901_6, f5901_7, f5901_8, f5901_9, f5901_10, f5901_11, f5901_12, f5901_13, rfl, c5901_1, c5901_2, c5901_3, c5901_5, c5901_10, t5901_0, t5901_9, c5901_11, c5901_p2⟩ := hk5901
    have hP : va_P D vwCl [((cs 450), .inr (5, [.ref f5901_0, .int (nI ((κ (cs 450)).2.2.1)), .int (nI f5901_2), .int (nI f5901_3), .int f5901_4, .int (nI f5901_5), .int f5901_6, .int f5901_7, .int f5901_8, .ref f5901_9, .int (nI f5901_10), f5901_11, .int f5901_12, .int f5901_13])), (w, .inr (8, [.ref (cs 450), .ref (cs 440), .ref (cs 441), .ref f5900_3, .int f5900_4, .int f5900_5, .int f5900_6]))] _ := va_P.cons hat5901 hP
    refine va_getN (D := D) (ci := 5) (v := .int (nI ((κ (cs 450)).2.2.1))) (C := RX5) (T := TX5) (N := 14) hx hb hts iX8_load_5 hown hN.1 hP 0 rfl rfl 1 (by decide) (hN.f 0 rfl) (fun _ h9 => h9) rfl dX8_load_9 ?_
    refine lv_icmp_le (tgt := 25) hx hb dX8_load_12 (by decide) (fun c5902 => ?_) (fun c5902 => ?_)
    · have hin0 := c5899
      have hin1 := Int32.not_lt.mpr c5902
      obtain ⟨nx, -, hx2, hx3⟩ := rng (lo := 0) (hi := (κ (cs 450)).2.2.1) (by decide) (by omega) c5899 (Int32.not_lt.mpr c5902)
      subst hx3
      have hl : lv_has ls 3 [(0, .ref w), (1, .int (nI nx))] := hl
      refine lv_aload_n hx hb dX8_load_25 rfl (lv_at hl 0 rfl) ?_
      refine va_get (D := D) (ci := 8) (v := .ref (cs 450)) (C := RX8) (T := TX8) (N := 7) hx hb hts iX8_load_8 hown hN.1 hP 1 rfl rfl 0 (by decide) (hts _ mX8_load_3) (fun _ h9 => h9) rfl dX8_load_26 ?_
      refine lv_iload_n hx hb dX8_load_29 rfl (lv_at hl 1 rfl) ?_
      refine cv_n (As := [.int (nI nx)]) (rest := []) (b := (cs 450)) ⟨hx, hb, hml, hown, hts⟩ (c_X5_read hT (w := (cs 450)) t5900_0 (n := nx) (by omega)) (cwV 1 hts gX8_load_X5_read rfl rfl rfl hdX5_read_v ⟨Nat.le_of_ble_eq_true rfl, Nat.le_of_ble_eq_true rfl⟩) hN hE hL (rcv6 hN hT t5900_0.1) rfl rfl hl.1 (Nat.le_of_ble_eq_true rfl) dX8_load_30 (show 0 + 11 ≤ ((336 * sumN C 16 + 140000 - PotN LN) / 35) by omega) (show 0 + 1332 ≤ (336 * sumN C 16 + 140000 - PotN LN) by omega) (fun rv H1 locs hL hq => ?_)
      obtain ⟨κr, hxr, hxc, hrd1, hrz, hT1, hF1, hgr, hrv⟩ := hq
      have hR := hR.fr hT trivial hF1 (by decide)
      have hKZ : KZ κ κr := rd_z t5900_0 hxr
      have hR := RQ.kk9 hR hT (κ1 := κr) (fun a h8 ho => hxr a (by rcases h8 with h8 | h8 <;> rw [h8] <;> decide) (fun e9 => by have h6 := t5900_0.1; rw [← e9] at h6; rcases h8 with h8 | h8 <;> rw [h8] at h6 <;> cases h6) (by omega))
      have hT := hT1
      have hw := hKZ.t2 hw (by decide) (by decide)
      refine W.tight (k := 8) (n := 714) (by rw [hH0]; exact hgr) ?_
      have hGN : 35 * 8 ≤ 714 ∧ 714 + PotN LN ≤ PotN LN + 714 := ⟨by decide, by omega⟩
      have hs1 := hR.pot
      rcases hrv with rfl | ⟨qs, rfl, hqs⟩
      · refine lv_astore_nN (lv' := [(2, .null), (0, .ref w), (1, .int (nI nx))]) hx hb dX8_load_33 rfl hl (by decide) rfl (fun ls hl => ?_)
        refine lv_aload_n hx hb dX8_load_34 rfl (lv_at hl 1 rfl) ?_
        refine lv_aload_n hx hb dX8_load_35 rfl (lv_at hl 1 rfl) ?_
        obtain ⟨hb5903, e5903, hat5903, hk5903⟩ := hT.o9 hw.1
        obtain ⟨f5903_0, f5903_1, f5903_2, f5903_3, f5903_4, f5903_5, f5903_6, rfl, t5903_0, t5903_1, t5903_2, t5903_3, rfl, rfl, rfl⟩ := hk5903
        have hP : va_P D vwCl [(w, .inr (8, [.ref (cs 450), .ref (cs 440), .ref (cs 441), .ref f5903_3, .int f5903_4, .int f5903_5, .int f5903_6]))] _ := va_P.cons hat5903 va_P.nil
        refine va_get (D := D) (ci := 8) (v := .ref (cs 450)) (C := RX8) (T := TX8) (N := 7) hx hb hts iX8_load_8 hown hN.1 hP 0 rfl rfl 0 (by decide) (hts _ mX8_load_3) (fun _ h9 => h9) rfl dX8_load_36 ?_
        obtain ⟨hb5904, e5904, hat5904, hk5904⟩ := hT.o6 t5903_0.1
        obtain ⟨f5904_0, f5904_2, f5904_3, f5904_4, f5904_5, f5904_6, f5904_7, f5904_8, f5904_9, f5904_10, f5904_11, f5904_12, f5904_13, rfl, c5904_1, c5904_2, c5904_3, c5904_5, c5904_10, t5904_0, t5904_9, c5904_11, c5904_p2⟩ := hk5904
        have hP : va_P D vwCl [((cs 450), .inr (5, [.ref f5904_0, .int (nI ((κr (cs 450)).2.2.1)), .int (nI f5904_2), .int (nI f5904_3), .int f5904_4, .int (nI f5904_5), .int f5904_6, .int f5904_7, .int f5904_8, .ref f5904_9, .int (nI f5904_10), f5904_11, .int f5904_12, .int f5904_13])), (w, .inr (8, [.ref (cs 450), .ref (cs 440), .ref (cs 441), .ref f5903_3, .int f5903_4, .int f5903_5, .int f5903_6]))] _ := va_P.cons hat5904 hP
        refine va_getN (D := D) (ci := 5) (v := .int f5904_13) (C := RX5) (T := TX5) (N := 14) hx hb hts iX8_load_5 hown hN.1 hP 0 rfl rfl 13 (by decide) (hN.f 2 rfl) (fun _ h9 => h9) rfl dX8_load_39 ?_
        have hB : Bx B0 D _ [((cs 450), .inr (5, [.ref f5904_0, .int (nI ((κr (cs 450)).2.2.1)), .int (nI f5904_2), .int (nI f5904_3), .int f5904_4, .int (nI f5904_5), .int f5904_6, .int f5904_7, .int f5904_8, .ref f5904_9, .int (nI f5904_10), f5904_11, .int f5904_12, .int f5904_13])), (w, .inr (8, [.ref (cs 450), .ref (cs 440), .ref (cs 441), .ref f5903_3, .int f5903_4, .int f5903_5, .int f5903_6]))] [] _ _ := Bx.of (fun a => (κr a).1) hL hP (fa_c hb5904 (fa_c hb5903 fa_n)) (by simp only [List.map_cons, List.map_nil, t5903_0.1, hw.1]; decide)
        refine b_put (D := D) (ci := 8) (v := .int f5904_13) (ty := .int) (C := RX8) (T := TX8) (N := 7) hx hb hts iX8_load_8 tyX8 tyX8_ok nmX8 hown hN hB 1 rfl rfl 6 (by decide) (hts _ mX8_load_4) (fun _ h9 => h9) rfl (by decide +kernel) rfl rfl (Nat.le_of_ble_eq_true rfl) (.inl rfl) dX8_load_42 (fun H locs hB => ?_)
        have hB : Bx B0 D _ [((cs 450), .inr (5, [.ref f5904_0, .int (nI ((κr (cs 450)).2.2.1)), .int (nI f5904_2), .int (nI f5904_3), .int f5904_4, .int (nI f5904_5), .int f5904_6, .int f5904_7, .int f5904_8, .ref f5904_9, .int (nI f5904_10), f5904_11, .int f5904_12, .int f5904_13])), (w, .inr (8, [.ref (cs 450), .ref (cs 440), .ref (cs 441), .ref f5903_3, .int f5903_4, .int f5903_5, .int f5904_13]))] [w] _ _ := hB
        refine lv_aload_nN hx hb dX8_load_45 rfl (lv_at hl 0 rfl) ?_
        refine lv_ifnonnullN hx hb dX8_load_46 ?_
        refine lv_aload_n hx hb dX8_load_49 rfl (lv_at hl 1 rfl) ?_
        refine va_get (D := D) (ci := 8) (v := .ref (cs 450)) (C := RX8) (T := TX8) (N := 7) hx hb hts iX8_load_8 hown hN.1 hB.1 1 rfl rfl 0 (by decide) (hts _ mX8_load_3) (fun _ h9 => h9) rfl dX8_load_50 ?_
        refine va_getN (D := D) (ci := 5) (v := .int f5904_12) (C := RX5) (T := TX5) (N := 14) hx hb hts iX8_load_5 hown hN.1 hB.1 0 rfl rfl 12 (by decide) (hN.f 1 rfl) (fun _ h9 => h9) rfl dX8_load_53 ?_
        have hR := hR.fr hT trivial (Fr.close (S := [13]) Fr.rf hB (fa_c (by simp [hw.2]) fa_n)) (by decide)
        have hT : WT B0 D cs T κr _ := hT.close hB ⟨⟨1, _, rfl, ok_9 hw.1 ⟨_, _, _, _, _, _, _, rfl, t5903_0, t5903_1, t5903_2, t5903_3, rfl, rfl, rfl⟩⟩, trivial⟩
        have hL : OkL B0 _ := hB.2.2.2.2.2
        have hP : va_P D vwCl [((cs 450), .inr (5, [.ref f5904_0, .int (nI ((κr (cs 450)).2.2.1)), .int (nI f5904_2), .int (nI f5904_3), .int f5904_4, .int (nI f5904_5), .int f5904_6, .int f5904_7, .int f5904_8, .ref f5904_9, .int (nI f5904_10), f5904_11, .int f5904_12, .int f5904_13])), (w, .inr (8, [.ref (cs 450), .ref (cs 440), .ref (cs 441), .ref f5903_3, .int f5903_4, .int f5903_5, .int f5904_13]))] _ := hB.1
        refine W.know (fun hg => ?_)
        rw [hH0] at hg
        exact vx_ret (en_i hx hb hr hlocks hL rfl (show 8 ≤ ((336 * sumN C 16 + 140000 - PotN LN) / 35) by omega) (show 714 ≤ (336 * sumN C 16 + 140000 - PotN LN) by omega) dX8_load_56 (⟨_, hKZ, hT, hrd1, hrz, hin0, hin1, C, _, _, _, Nat.le_add_right _ _, hR, hg, hGN⟩))
      · refine lv_astore_n (lv' := [(2, .ref qs), (0, .ref w), (1, .int (nI nx))]) hx hb dX8_load_33 rfl hl (by decide) rfl (fun ls hl => ?_)
        refine lv_aload_n hx hb dX8_load_34 rfl (lv_at hl 1 rfl) ?_
        refine lv_aload_n hx hb dX8_load_35 rfl (lv_at hl 1 rfl) ?_
        obtain ⟨hb5905, e5905, hat5905, hk5905⟩ := hT.o9 hw.1
        obtain ⟨f5905_0, f5905_1, f5905_2, f5905_3, f5905_4, f5905_5, f5905_6, rfl, t5905_0, t5905_1, t5905_2, t5905_3, rfl, rfl, rfl⟩ := hk5905
        have hP : va_P D vwCl [(w, .inr (8, [.ref (cs 450), .ref (cs 440), .ref (cs 441), .ref f5905_3, .int f5905_4, .int f5905_5, .int f5905_6]))] _ := va_P.cons hat5905 va_P.nil
        refine va_get (D := D) (ci := 8) (v := .ref (cs 450)) (C := RX8) (T := TX8) (N := 7) hx hb hts iX8_load_8 hown hN.1 hP 0 rfl rfl 0 (by decide) (hts _ mX8_load_3) (fun _ h9 => h9) rfl dX8_load_36 ?_
        obtain ⟨hb5906, e5906, hat5906, hk5906⟩ := hT.o6 t5905_0.1
        obtain ⟨f5906_0, f5906_2, f5906_3, f5906_4, f5906_5, f5906_6, f5906_7, f5906_8, f5906_9, f5906_10, f5906_11, f5906_12, f5906_13, rfl, c5906_1, c5906_2, c5906_3, c5906_5, c5906_10, t5906_0, t5906_9, c5906_11, c5906_p2⟩ := hk5906
        have hP : va_P D vwCl [((cs 450), .inr (5, [.ref f5906_0, .int (nI ((κr (cs 450)).2.2.1)), .int (nI f5906_2), .int (nI f5906_3), .int f5906_4, .int (nI f5906_5), .int f5906_6, .int f5906_7, .int f5906_8, .ref f5906_9, .int (nI f5906_10), f5906_11, .int f5906_12, .int f5906_13])), (w, .inr (8, [.ref (cs 450), .ref (cs 440), .ref (cs 441), .ref f5905_3, .int f5905_4, .int f5905_5, .int f5905_6]))] _ := va_P.cons hat5906 hP
        refine va_getN (D := D) (ci := 5) (v := .int f5906_13) (C := RX5) (T := TX5) (N := 14) hx hb hts iX8_load_5 hown hN.1 hP 0 rfl rfl 13 (by decide) (hN.f 2 rfl) (fun _ h9 => h9) rfl dX8_load_39 ?_
        have hB : Bx B0 D _ [((cs 450), .inr (5, [.ref f5906_0, .int (nI ((κr (cs 450)).2.2.1)), .int (nI f5906_2), .int (nI f5906_3), .int f5906_4, .int (nI f5906_5), .int f5906_6, .int f5906_7, .int f5906_8, .ref f5906_9, .int (nI f5906_10), f5906_11, .int f5906_12, .int f5906_13])), (w, .inr (8, [.ref (cs 450), .ref (cs 440), .ref (cs 441), .ref f5905_3, .int f5905_4, .int f5905_5, .int f5905_6]))] [] _ _ := Bx.of (fun a => (κr a).1) hL hP (fa_c hb5906 (fa_c hb5905 fa_n)) (by simp only [List.map_cons, List.map_nil, t5905_0.1, hw.1]; decide)
        refine b_put (D := D) (ci := 8) (v := .int f5906_13) (ty := .int) (C := RX8) (T := TX8) (N := 7) hx hb hts iX8_load_8 tyX8 tyX8_ok nmX8 hown hN hB 1 rfl rfl 6 (by decide) (hts _ mX8_load_4) (fun _ h9 => h9) rfl (by decide +kernel) rfl rfl (Nat.le_of_ble_eq_true rfl) (.inl rfl) dX8_load_42 (fun H locs hB => ?_)
        have hB : Bx B0 D _ [((cs 450), .inr (5, [.ref f5906_0, .int (nI ((κr (cs 450)).2.2.1)), .int (nI f5906_2), .int (nI f5906_3), .int f5906_4, .int (nI f5906_5), .int f5906_6, .int f5906_7, .int f5906_8, .ref f5906_9, .int (nI f5906_10), f5906_11, .int f5906_12, .int f5906_13])), (w, .inr (8, [.ref (cs 450), .ref (cs 440), .ref (cs 441), .ref f5905_3, .int f5905_4, .int f5905_5, .int f5906_13]))] [w] _ _ := hB
        refine lv_aload_n hx hb dX8_load_45 rfl (lv_at hl 0 rfl) ?_
        refine lv_ifnonnull (tgt := 57) hx hb dX8_load_46 (by decide) ?_
        refine lv_aload_n hx hb dX8_load_57 rfl (lv_at hl 1 rfl) ?_
        have hR := hR.fr hT trivial (Fr.close (S := [13]) Fr.rf hB (fa_c (by simp [hw.2]) fa_n)) (by decide)
        have hT : WT B0 D cs T κr _ := hT.close hB ⟨⟨1, _, rfl, ok_9 hw.1 ⟨_, _, _, _, _, _, _, rfl, t5905_0, t5905_1, t5905_2, t5905_3, rfl, rfl, rfl⟩⟩, trivial⟩
        have hL : OkL B0 _ := hB.2.2.2.2.2
        have hP : va_P D vwCl [((cs 450), .inr (5, [.ref f5906_0, .int (nI ((κr (cs 450)).2.2.1)), .int (nI f5906_2), .int (nI f5906_3), .int f5906_4, .int (nI f5906_5), .int f5906_6, .int f5906_7, .int f5906_8, .ref f5906_9, .int (nI f5906_10), f5906_11, .int f5906_12, .int f5906_13])), (w, .inr (8, [.ref (cs 450), .ref (cs 440), .ref (cs 441), .ref f5905_3, .int f5905_4, .int f5905_5, .int f5906_13]))] _ := hB.1
        refine W.know (fun hgb => ?_)
        rw [hH0] at hgb
        refine cv_v (As := []) (rest := []) (b := w) ⟨hx, hb, hml, hown, hts⟩ (c_X8_keepForUndo hT (w := w) hw hR) (cwV 0 hts gX8_load_X8_keepForUndo rfl rfl rfl hdX8_keepForUndo_v ⟨Nat.le_of_ble_eq_true rfl, Nat.le_of_ble_eq_true rfl⟩) hN hE hL (rcv9 hN hT hw.1) rfl rfl hl.1 (Nat.le_of_ble_eq_true rfl) dX8_load_58 (show 8 + ((336 * sumN C 16 + 137000 - PotN LN) / 35) ≤ ((336 * sumN C 16 + 140000 - PotN LN) / 35) by omega) (show 714 + (336 * sumN C 16 + 137000 - PotN LN) ≤ (336 * sumN C 16 + 140000 - PotN LN) by omega) (fun H1 locs hL hqr5907 => ?_)
        obtain ⟨κr5907, hxr5907, hT1, hqr5907⟩ := hqr5907
        have hxfr5907 := hxr5907.1
        have hT := hT1
        have hKZ := hKZ.tr hxr5907.z
        have hrz : (κr5907 (cs 450)).2.2.1 = 0 := by rw [hxr5907.2 _ (by rw [hrd1.1]; decide) (by rw [hrd1.2]; decide)]; exact hrz
        have hrd1 := hxr5907.1.t2 hrd1 (by decide)
        have hqs := (KF.t2 hxfr5907 hqs (by decide))
        have hw := (KF.t2 hxfr5907 hw (by decide))
        obtain ⟨L5908, k5909, n5910, r5911, g5912⟩ := hqr5907
        have hR := r5911
        obtain ⟨k5913, n5914, hGP, hGN⟩ : ∃ k9 n9, Gr H0 _ k9 n9 ∧ (35 * k9 ≤ n9 ∧ n9 + PotN LN ≤ PotN L5908 + 714) := ⟨_, _, hgb.tr g5912.1, (by have h1 := hGN.1; have h2 := g5912.2.1; omega), (by have h1 := hGN.2; have h2 := g5912.2.2; omega)⟩
        refine W.tight (k := k5913) (n := n5914) (by rw [hH0]; exact hGP) ?_
        have hgk5913 := hGN.1
        have hgn5914 := hGN.2
        have hsk5913 := hR.pot
        refine lv_aload_n hx hb dX8_load_61 rfl (lv_at hl 1 rfl) ?_
        obtain ⟨hb5915, e5915, hat5915, hk5915⟩ := hT.o9 hw.1
        obtain ⟨f5915_0, f5915_1, f5915_2, f5915_3, f5915_4, f5915_5, f5915_6, rfl, t5915_0, t5915_1, t5915_2, t5915_3, rfl, rfl, rfl⟩ := hk5915
        have hP : va_P D vwCl [(w, .inr (8, [.ref (cs 450), .ref (cs 440), .ref (cs 441), .ref f5915_3, .int f5915_4, .int f5915_5, .int f5915_6]))] _ := va_P.cons hat5915 va_P.nil
        refine va_get (D := D) (ci := 8) (v := .ref (cs 440)) (C := RX8) (T := TX8) (N := 7) hx hb hts iX8_load_8 hown hN.1 hP 0 rfl rfl 1 (by decide) (hts _ mX8_load_5) (fun _ h9 => h9) rfl dX8_load_62 ?_
        refine lv_aload_n hx hb dX8_load_65 rfl (lv_at hl 0 rfl) ?_
        refine W.know (fun hgb => ?_)
        rw [hH0] at hgb
        refine cv_v (As := [.ref qs]) (rest := []) (b := (cs 440)) ⟨hx, hb, hml, hown, hts⟩ (c_X7_begin_dr hT (i := 0) (by omega) hR hqs (by decide)) (cwV 1 hts gX8_load_X7_begin rfl rfl rfl hdX7_begin_v ⟨Nat.le_of_ble_eq_true rfl, Nat.le_of_ble_eq_true rfl⟩) hN hE hL (rcv8 hN hT t5915_1.1) rfl rfl hl.1 (Nat.le_of_ble_eq_true rfl) dX8_load_66 (show k5913 + 0 ≤ ((336 * sumN C 16 + 140000 - PotN LN) / 35) by omega) (show n5914 + 0 ≤ (336 * sumN C 16 + 140000 - PotN LN) by omega) (fun H1 locs hL hqr5916 => ?_)
        obtain ⟨κr5916, hxr5916, hT1, hF1, hqr5916⟩ := hqr5916
        have hxfr5916 := hxr5916.1
        have hT := hT1
        have hKZ := hKZ.tr (hxr5916.w (by omega)).z
        have hrz : (κr5916 (cs 450)).2.2.1 = 0 := by rw [(hxr5916.w (by omega)).2 _ (by rw [hrd1.1]; decide) (by rw [hrd1.2]; decide)]; exact hrz
        have hrd1 := (hxr5916.w (by omega)).1.t2 hrd1 (by decide)
        have hqs := (KF.t2 hxfr5916 hqs (by decide))
        have hw := (KF.t2 hxfr5916 hw (by decide))
        obtain ⟨L5917, k5918, n5919, r5920, g5921⟩ := hqr5916
        have hR := r5920
        obtain ⟨k5922, n5923, hGP, hGN⟩ : ∃ k9 n9, Gr H0 _ k9 n9 ∧ (35 * k9 ≤ n9 ∧ n9 + PotN LN ≤ PotN L5917 + 714) := ⟨_, _, hgb.tr g5921.1, (by have h1 := hGN.1; have h2 := g5921.2.1; omega), (by have h1 := hGN.2; have h2 := g5921.2.2; omega)⟩
        refine W.tight (k := k5922) (n := n5923) (by rw [hH0]; exact hGP) ?_
        have hgk5922 := hGN.1
        have hgn5923 := hGN.2
        have hsk5922 := hR.pot
        refine lv_aload_n hx hb dX8_load_69 rfl (lv_at hl 0 rfl) ?_
        obtain ⟨hb5924, e5924, hat5924, hk5924⟩ := hT.o7 hqs.1
        obtain ⟨f5924_0, f5924_1, f5924_2, f5924_3, f5924_4, f5924_5, f5924_6, f5924_7, rfl, c5924_0, c5924_3, c5924_mg, t5924_4, t5924_5, t5924_6, t5924_7⟩ := hk5924
        rw [hqs.2] at t5924_4
        rw [hqs.2] at t5924_5
        rw [hqs.2] at t5924_6
        rw [hqs.2] at t5924_7
        have hP : va_P D vwCl [(qs, .inr (6, [.int (nI f5924_0), .int f5924_1, .int f5924_2, f5924_3, .ref f5924_4, .ref f5924_5, .ref f5924_6, .ref f5924_7]))] _ := va_P.cons hat5924 va_P.nil
        refine va_getN (D := D) (ci := 6) (v := .int (nI f5924_0)) (C := RX6) (T := TX6) (N := 8) hx hb hts iX8_load_6 hown hN.1 hP 0 rfl rfl 0 (by decide) (hN.f 37 rfl) (fun _ h9 => h9) rfl dX8_load_70 ?_
        refine W.know (fun hg => ?_)
        rw [hH0] at hg
        exact vx_ret (en_i hx hb hr hlocks hL rfl (show k5922 ≤ ((336 * sumN C 16 + 140000 - PotN LN) / 35) by omega) (show n5923 ≤ (336 * sumN C 16 + 140000 - PotN LN) by omega) dX8_load_73 (⟨_, hKZ, hT, hrd1, hrz, hin0, hin1, C, _, _, _, Nat.le_add_right _ _, (hR.ce er_00), hg, hGN⟩))
    · exact tx_up (Qu := fun E1 H1 => E1 = "java/lang/IllegalArgumentException" ∧ H0.size ≤ H1.size ∧ ∀ q : Nat, q < H0.size → H1[q]? = H0[q]?) (tx_g2 (Qo := fun _ _ => False) (E := "java/lang/IllegalArgumentException") 0 hx hb hlt hown hN (by decide +kernel) (hts _ mX8_load_1) (hts _ mX8_load_2) (hN.s 0 rfl) rfl (fun w h => hts w (xgX8_load_49_0 w h)) xnRX8_49_0 xdRX8_49_0 xoRX8_45_49_0 hE.1 (by rw [hH0]; exact ⟨Nat.le_refl _, fun _ _ _ => rfl, hL⟩) (fun H1 g1 g2 => ⟨rfl, g1, g2⟩) hl hml dX8_load_15 dX8_load_18 dX8_load_19 dX8_load_21 dX8_load_24 hnx (Nat.le_of_ble_eq_true rfl) (Nat.le_of_ble_eq_true rfl) (show 0 + 1 ≤ ((336 * sumN C 16 + 140000 - PotN LN) / 35) by omega) (show 0 + 6 ≤ (336 * sumN C 16 + 140000 - PotN LN) by omega) hlocks (Nat.le_refl _) (Nat.le_refl _)) hH0 (show 1 ≤ ((336 * sumN C 16 + 140000 - PotN LN) / 35) by omega) (show 6 ≤ (336 * sumN C 16 + 140000 - PotN LN) by omega) (fun E1 H1 g g3 => ⟨⟨by rw [g.1]; simp, g.2.1, g.2.2, g3⟩, Or.inr (Int32.not_le.mp c5902)⟩)
