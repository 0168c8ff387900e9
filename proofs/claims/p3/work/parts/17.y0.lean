
theorem rd_z {κ κ1 : KM} {rd : Nat} (hr : T2 κ rd 6 10) (h : ∀ a, (κ a).1 ≠ 0 → a ≠ rd → (κ a).2.1 ≠ 11 → κ1 a = κ a) : KZ κ κ1 := fun a ha ho => h a ha (fun e => by rw [e, hr.2] at ho; omega) (by omega)
theorem er_00 : ∀ i, i < 10 → up9 er 0 0 i = er i := fun i _ => by
  by_cases e : i = 0
  · subst e; rfl
  · rw [up9_n e]
/-- the first k bytes: the class's row f, the model's g -/
def BG (f g : Nat → Int32) (k : Nat) : Prop := ∀ i, i < k → f i = sb (g i) ∧ ∃ m, m ≤ 255 ∧ g i = nI m
theorem BG.by {f g : Nat → Int32} {k n : Nat} (h : BG f g k) (hn : n ≤ k) (h6 : n ≤ 600) : BY (byF g n) n := ⟨h6, fun i hi => by
  obtain ⟨-, m, h1, h2⟩ := h i (by omega)
  exact ⟨m, h1, by unfold byF; rw [if_pos hi]; exact h2⟩, fun i hi => by unfold byF; rw [if_neg (by omega)]⟩
theorem BG.tx {f g : Nat → Int32} {k n : Nat} (h : BG f g k) (hn : n ≤ k) : TXB f (byF g n) n := fun i hi => by
  rw [(h i (by omega)).1]; unfold byF; rw [if_pos hi]
/-- what a load of n bytes answers, and the place that it tells -/
def LDA (g : Nat → Int32) (n : Nat) (r o : Int32) : Prop := match rdB (byF g n) with
  | .inl (c, q) => r = c ∧ o = nI q
  | .inr (pl, _) => r = nI pl ∧ o = -1
theorem LDA.er {g : Nat → Int32} {n q : Nat} {r o c : Int32} (h : rdB (byF g n) = .inl (c, q)) (h1 : r = c) (h2 : o = nI q) : LDA g n r o := by unfold LDA; rw [h]; exact ⟨h1, h2⟩
theorem LDA.ok {g : Nat → Int32} {n pl : Nat} {r o : Int32} {s9 : SST} (h : rdB (byF g n) = .inr (pl, s9)) (h1 : r = nI pl) (h2 : o = -1) : LDA g n r o := by unfold LDA; rw [h]; exact ⟨h1, h2⟩
theorem RE.br {D : va_G} {cs : Nat → ClassId} {w : Nat} {H : Heap} {tx co sd n : Nat} {f : Nat → Int32} {su : Value} {ec es : Int32} (h : RE D cs w H tx f co sd n su ec es) : BRT D cs w H tx f := by
  obtain ⟨cf, pos, k, st, va, ta, tk, cc, -, -, -, hkw, hktx, -⟩ := h
  exact ⟨⟨_, hkw⟩, hktx⟩
theorem SU.pl {D : va_G} {a pl : Nat} {H : Heap} {v1 v2 v3 v4 v5 v6 v7 : Value} (h : va_at D vwCl (a, .inr (6, [.int (nI pl), v1, v2, v3, v4, v5, v6, v7])) H) : FI D a 6 0 (.int (nI pl)) H := ⟨_, h, rfl⟩

theorem xgX8_load_49_0 : ∀ w ∈ (vx_atS RX8 49 "java/lang/IllegalArgumentException" ["java/lang/RuntimeException", "java/lang/Exception"]).filter goodWord, w ∈ wsX8_load := fun w h => by unfold wsX8_load; exact List.mem_cons_of_mem _ (List.mem_append_right _ h)
theorem mX8_load_1 : (.classLink RX8 45 "java/lang/IllegalArgumentException" : Cond) ∈ wsX8_load := List.mem_of_getElem? (i := 1) (by decide +kernel)
theorem mX8_load_2 : (.initialized "java/lang/IllegalArgumentException" : Cond) ∈ wsX8_load := List.mem_of_getElem? (i := 2) (by decide +kernel)
theorem mX8_load_3 : (.fieldLink RX8 10 "OneBeat" "reader" "LOneBeat$Reader;" : Cond) ∈ wsX8_load := List.mem_of_getElem? (i := 3) (by decide +kernel)
theorem iX8_load_8 : ∀ w ∈ wsX80, w ∈ wsX8_load := fun w h => List.mem_of_mem_drop (List.mem_of_mem_take ((show wsX80 = (wsX8_load.drop 311).take 7 by decide +kernel) ▸ h))
theorem iX8_load_5 : ∀ w ∈ wsX50, w ∈ wsX8_load := fun w h => List.mem_of_mem_drop (List.mem_of_mem_take ((show wsX50 = (wsX8_load.drop 318).take 14 by decide +kernel) ▸ h))
theorem hdX5_read_v : yX5_read.cls = RX5 ∧ yX5_read.cls ≠ "java/lang/invoke/MethodHandle" ∧ yX5_read.cls ≠ "java/lang/invoke/VarHandle" ∧ (parseMethodDescriptor yX5_read.desc).map (fun d => d.parameters.length) = some 1 := by decide +kernel
theorem mX8_load_4 : (.fieldLink RX8 30 "OneBeat" "errorAt" "I" : Cond) ∈ wsX8_load := List.mem_of_getElem? (i := 4) (by decide +kernel)
theorem mX8_load_5 : (.fieldLink RX8 19 "OneBeat" "now" "LOneBeat$World;" : Cond) ∈ wsX8_load := List.mem_of_getElem? (i := 5) (by decide +kernel)
theorem hdX7_begin_v : yX7_begin.cls = RX7 ∧ yX7_begin.cls ≠ "java/lang/invoke/MethodHandle" ∧ yX7_begin.cls ≠ "java/lang/invoke/VarHandle" ∧ (parseMethodDescriptor yX7_begin.desc).map (fun d => d.parameters.length) = some 1 := by decide +kernel
theorem iX8_load_6 : ∀ w ∈ wsX60, w ∈ wsX8_load := fun w h => List.mem_of_mem_drop (List.mem_of_mem_take ((show wsX60 = (wsX8_load.drop 332).take 8 by decide +kernel) ▸ h))
set_option maxHeartbeats 4000000 in
set_option maxRecDepth 100000 in
theorem c_X8_load {l : Launch} (hlt : l.stackTraces = false) {D : va_G} {cs : Nat → ClassId} {B0 T : Nat} {κ : KM} {H0 : Heap} (hT : WT B0 D cs T κ H0) {w : Nat} (hw : T2 κ w 9 13) {C : Nat → Nat} {LN : Nat → Nat → Nat} (hR : RQ D cs κ H0 C LN er) {x : Int32} (hC : sumN C 16 + 24 ≤ 12400) {tx : Nat} {f g : Nat → Int32} (hbr : BRT D cs (cs 450) H0 tx f) (hbg : BG f g (κ (cs 450)).2.2.1) : KT l yX8_load wsX8_load 23 509 ((336 * sumN C 16 + 140000 - PotN LN) / 35) (336 * sumN C 16 + 140000 - PotN LN) D cs B0 H0 [.ref w, .int x] (Qi (fun r H => ∃ κ1, KZ κ κ1 ∧ WT B0 D cs T κ1 H ∧ T2 κ1 (cs 450) 6 10 ∧ (κ1 (cs 450)).2.2.1 = 0 ∧ ∃ nx, x = nI nx ∧ nx ≤ (κ (cs 450)).2.2.1 ∧ BRT D cs (cs 450) H tx f ∧ ∃ C1 LN1 k n, sumN C1 16 ≤ sumN C 16 + 24 ∧ RQ D cs κ1 H C1 LN1 er ∧ Gr H0 H k n ∧ (35 * k ≤ n ∧ n + PotN LN ≤ PotN LN1 + 714) ∧ ∃ o, LDA g nx r o)) (fun E9 H9 => TQ ["java/lang/IllegalArgumentException"] H0 E9 H9 ∧ (x < 0 ∨ nI (κ (cs 450)).2.2.1 < x)) := by
  refine KT.of cX8_load 3 (some .int) (by decide) rfl (Nat.le_of_ble_eq_true rfl) ?_
  intro p e s m below meth c ls hx hb hr hml hown hts hlocks hnx hN hE hH0 hl
  have hown : s.vm.findClass RX8 = some m.cls := hown
  have hl : lv_has ls 3 [(0, .ref w), (1, .int x)] := hl
  have hL : OkL B0 [] := OkL.nil
  have hGN : 35 * 0 ≤ 0 ∧ 0 + PotN LN ≤ PotN LN := ⟨Nat.le_refl _, by omega⟩
  have hs0 := hR.pot
  have hbt : BTK D cs κ H0 H0 := BTK.rf
  refine lv_iload_n hx hb dX8_load_0 rfl (lv_at hl 1 rfl) ?_
  refine lv_if_lt (tgt := 15) hx hb dX8_load_1 (by decide) (fun c3888 => ?_) (fun c3888 => ?_)
  · exact tx_up (Qu := fun E1 H1 => E1 = "java/lang/IllegalArgumentException" ∧ H0.size ≤ H1.size ∧ ∀ q : Nat, q < H0.size → H1[q]? = H0[q]?) (tx_g2 (Qo := fun _ _ => False) (E := "java/lang/IllegalArgumentException") 0 hx hb hlt hown hN (by decide +kernel) (hts _ mX8_load_1) (hts _ mX8_load_2) (hN.s 0 rfl) rfl (fun w h => hts w (xgX8_load_49_0 w h)) xnRX8_49_0 xdRX8_49_0 xoRX8_45_49_0 hE.1 (by rw [hH0]; exact ⟨Nat.le_refl _, fun _ _ _ => rfl, hL⟩) (fun H1 g1 g2 => ⟨rfl, g1, g2⟩) hl hml dX8_load_15 dX8_load_18 dX8_load_19 dX8_load_21 dX8_load_24 hnx (Nat.le_of_ble_eq_true rfl) (Nat.le_of_ble_eq_true rfl) (show 0 + 1 ≤ ((336 * sumN C 16 + 140000 - PotN LN) / 35) by omega) (show 0 + 6 ≤ (336 * sumN C 16 + 140000 - PotN LN) by omega) hlocks (Nat.le_refl _) (Nat.le_refl _)) hH0 (show 1 ≤ ((336 * sumN C 16 + 140000 - PotN LN) / 35) by omega) (show 6 ≤ (336 * sumN C 16 + 140000 - PotN LN) by omega) (fun E1 H1 g g3 => ⟨⟨by rw [g.1]; simp, g.2.1, g.2.2, g3⟩, Or.inl c3888⟩)
  · refine lv_iload_n hx hb dX8_load_4 rfl (lv_at hl 1 rfl) ?_
    refine lv_aload_n hx hb dX8_load_5 rfl (lv_at hl 0 rfl) ?_
    obtain ⟨hb3889, e3889, hat3889, hk3889⟩ := hT.o9 hw.1
    obtain ⟨f3889_0, f3889_1, f3889_2, f3889_3, f3889_4, f3889_5, f3889_6, rfl, t3889_0, t3889_1, t3889_2, t3889_3, rfl, rfl, rfl⟩ := hk3889
    have hP : va_P D vwCl [(w, .inr (8, [.ref (cs 450), .ref (cs 440), .ref (cs 441), .ref f3889_3, .int f3889_4, .int f3889_5, .int f3889_6]))] _ := va_P.cons hat3889 va_P.nil
    refine va_get (D := D) (ci := 8) (v := .ref (cs 450)) (C := RX8) (T := TX8) (N := 7) hx hb hts iX8_load_8 hown hN.1 hP 0 rfl rfl 0 (by decide) (hts _ mX8_load_3) (fun _ h9 => h9) rfl dX8_load_6 ?_
    obtain ⟨hb3890, e3890, hat3890, hk3890⟩ := hT.o6 t3889_0.1
    obtain ⟨f3890_0, f3890_2, f3890_3, f3890_4, f3890_5, f3890_6, f3890_7, f3890_8, f3890_9, f3890_10, f3890_11, f3890_12, f3890_13, rfl, c3890_1, c3890_2, c3890_3, c3890_5, c3890_10, t3890_0, t3890_9, c3890_11, c3890_p2⟩ := hk3890
    have hP : va_P D vwCl [((cs 450), .inr (5, [.ref f3890_0, .int (nI ((κ (cs 450)).2.2.1)), .int (nI f3890_2), .int (nI f3890_3), .int f3890_4, .int (nI f3890_5), .int f3890_6, .int f3890_7, .int f3890_8, .ref f3890_9, .int (nI f3890_10), f3890_11, .int f3890_12, .int f3890_13])), (w, .inr (8, [.ref (cs 450), .ref (cs 440), .ref (cs 441), .ref f3889_3, .int f3889_4, .int f3889_5, .int f3889_6]))] _ := va_P.cons hat3890 hP
    refine va_getN (D := D) (ci := 5) (v := .int (nI ((κ (cs 450)).2.2.1))) (C := RX5) (T := TX5) (N := 14) hx hb hts iX8_load_5 hown hN.1 hP 0 rfl rfl 1 (by decide) (hN.f 0 rfl) (fun _ h9 => h9) rfl dX8_load_9 ?_
    refine lv_icmp_le (tgt := 25) hx hb dX8_load_12 (by decide) (fun c3891 => ?_) (fun c3891 => ?_)
    · obtain ⟨nx, -, hx2, hx3⟩ := rng (lo := 0) (hi := (κ (cs 450)).2.2.1) (by decide) (by omega) c3888 (Int32.not_lt.mpr c3891)
      subst hx3
      have hl : lv_has ls 3 [(0, .ref w), (1, .int (nI nx))] := hl
      refine lv_aload_n hx hb dX8_load_25 rfl (lv_at hl 0 rfl) ?_
      refine va_get (D := D) (ci := 8) (v := .ref (cs 450)) (C := RX8) (T := TX8) (N := 7) hx hb hts iX8_load_8 hown hN.1 hP 1 rfl rfl 0 (by decide) (hts _ mX8_load_3) (fun _ h9 => h9) rfl dX8_load_26 ?_
      refine lv_iload_n hx hb dX8_load_29 rfl (lv_at hl 1 rfl) ?_
      obtain ⟨B, hB9⟩ : ∃ b9, b9 = byF g nx := ⟨_, rfl⟩
      have hY : BY B nx := by rw [hB9]; exact hbg.by (by omega) (by omega)
      have hf : TXB f B nx := by rw [hB9]; exact hbg.tx (by omega)
      have hbr := hbt.1 _ _ hbr
      refine cv_n (As := [.int (nI nx)]) (rest := []) (b := (cs 450)) ⟨hx, hb, hml, hown, hts⟩ (c_X5_read_de hT (w := (cs 450)) t3889_0 (tn := nx) hY hf hbr) (cwV 1 hts gX8_load_X5_read rfl rfl rfl hdX5_read_v ⟨Nat.le_of_ble_eq_true rfl, Nat.le_of_ble_eq_true rfl⟩) hN hE hL (rcv6 hN hT t3889_0.1) rfl rfl hl.1 (Nat.le_of_ble_eq_true rfl) dX8_load_30 (show 0 + 11 ≤ ((336 * sumN C 16 + 140000 - PotN LN) / 35) by omega) (show 0 + 1332 ≤ (336 * sumN C 16 + 140000 - PotN LN) by omega) (fun rv H1 locs hL hq => ?_)
      obtain ⟨κr, hxr, hxc, hrd1, hrz, hT1, hF1, hgr, hrv⟩ := hq
      have hR := hR.fr hT trivial hF1 (by decide)
      have hKZ : KZ κ κr := rd_z t3889_0 hxr
      have hR := RQ.kk9 hR hT (κ1 := κr) (fun a h8 ho => hxr a (by rcases h8 with h8 | h8 <;> rw [h8] <;> decide) (fun e9 => by have h6 := t3889_0.1; rw [← e9] at h6; rcases h8 with h8 | h8 <;> rw [h8] at h6 <;> cases h6) (by omega))
      have hT := hT1
      have hw := hKZ.t2 hw (by decide) (by decide)
      refine W.tight (k := 8) (n := 714) (by rw [hH0]; exact hgr) ?_
      have hGN : 35 * 8 ≤ 714 ∧ 714 + PotN LN ≤ PotN LN + 714 := ⟨by decide, by omega⟩
      have hs1 := hR.pot
      rcases hrv with ⟨rfl, c9, o9, co1, su1, hrd9, hre⟩ | ⟨qs, pl, s9, mg9, ct, of, dr, dl, rfl, hqs, hrd9, hpl, hsx, co1, su1, ec1, hre⟩
      · have hbr := hre.br
        have hbt := BTK.rf (D := D) (cs := cs) (κ := κr) (H := H1)
        have hKr : KZ κr κr := KZ.rf
        have hbr0 := hbr
        obtain ⟨cf, pos9, kd9, st9, va9, ta9, tk9, cc9, l3, l4, l5, hkw, hktx, hkco⟩ := hre
        have hkw := sd5 (k' := (κr (cs 450)).2.2.1) hrz hkw
        refine lv_astore_nN (lv' := [(2, .null), (0, .ref w), (1, .int (nI nx))]) hx hb dX8_load_33 rfl hl (by decide) rfl (fun ls hl => ?_)
        refine lv_aload_n hx hb dX8_load_34 rfl (lv_at hl 1 rfl) ?_
        refine lv_aload_n hx hb dX8_load_35 rfl (lv_at hl 1 rfl) ?_
        obtain ⟨hb3892, e3892, hat3892, hk3892⟩ := hT.o9 hw.1
        obtain ⟨f3892_0, f3892_1, f3892_2, f3892_3, f3892_4, f3892_5, f3892_6, rfl, t3892_0, t3892_1, t3892_2, t3892_3, rfl, rfl, rfl⟩ := hk3892
        have hP : va_P D vwCl [(w, .inr (8, [.ref (cs 450), .ref (cs 440), .ref (cs 441), .ref f3892_3, .int f3892_4, .int f3892_5, .int f3892_6]))] _ := va_P.cons hat3892 va_P.nil
        refine va_get (D := D) (ci := 8) (v := .ref (cs 450)) (C := RX8) (T := TX8) (N := 7) hx hb hts iX8_load_8 hown hN.1 hP 0 rfl rfl 0 (by decide) (hts _ mX8_load_3) (fun _ h9 => h9) rfl dX8_load_36 ?_
        obtain ⟨hb3893, e3893, hat3893, hk3893⟩ := hT.o6 t3892_0.1
        obtain ⟨f3893_0, f3893_2, f3893_3, f3893_4, f3893_5, f3893_6, f3893_7, f3893_8, f3893_9, f3893_10, f3893_11, f3893_12, f3893_13, rfl, c3893_1, c3893_2, c3893_3, c3893_5, c3893_10, t3893_0, t3893_9, c3893_11, c3893_p2⟩ := hk3893
        obtain ⟨rfl, rfl, rfl, rfl, rfl, rfl, rfl, rfl, rfl, rfl, rfl, rfl, rfl⟩ := eq6 hat3893 hkw (by omega)
        have hP : va_P D vwCl [((cs 450), .inr (5, [.ref tx, .int (nI ((κr (cs 450)).2.2.1)), .int (nI nx), .int (nI pos9), .int kd9, .int (nI st9), .int va9, .int ta9, .int tk9, .ref co1, .int (nI cc9), su1, .int c9, .int (nI o9)])), (w, .inr (8, [.ref (cs 450), .ref (cs 440), .ref (cs 441), .ref f3892_3, .int f3892_4, .int f3892_5, .int f3892_6]))] _ := va_P.cons hat3893 hP
        refine va_getN (D := D) (ci := 5) (v := .int (nI o9)) (C := RX5) (T := TX5) (N := 14) hx hb hts iX8_load_5 hown hN.1 hP 0 rfl rfl 13 (by decide) (hN.f 2 rfl) (fun _ h9 => h9) rfl dX8_load_39 ?_
        have hB : Bx B0 D _ [((cs 450), .inr (5, [.ref tx, .int (nI ((κr (cs 450)).2.2.1)), .int (nI nx), .int (nI pos9), .int kd9, .int (nI st9), .int va9, .int ta9, .int tk9, .ref co1, .int (nI cc9), su1, .int c9, .int (nI o9)])), (w, .inr (8, [.ref (cs 450), .ref (cs 440), .ref (cs 441), .ref f3892_3, .int f3892_4, .int f3892_5, .int f3892_6]))] [] _ _ := Bx.of (fun a => (κr a).1) hL hP (fa_c hb3893 (fa_c hb3892 fa_n)) (by simp only [List.map_cons, List.map_nil, t3892_0.1, hw.1]; decide)
        refine b_put (D := D) (ci := 8) (v := .int (nI o9)) (ty := .int) (C := RX8) (T := TX8) (N := 7) hx hb hts iX8_load_8 tyX8 tyX8_ok nmX8 hown hN hB 1 rfl rfl 6 (by decide) (hts _ mX8_load_4) (fun _ h9 => h9) rfl (by decide +kernel) rfl rfl (Nat.le_of_ble_eq_true rfl) (.inl rfl) dX8_load_42 (fun H locs hB => ?_)
        have hB : Bx B0 D _ [((cs 450), .inr (5, [.ref tx, .int (nI ((κr (cs 450)).2.2.1)), .int (nI nx), .int (nI pos9), .int kd9, .int (nI st9), .int va9, .int ta9, .int tk9, .ref co1, .int (nI cc9), su1, .int c9, .int (nI o9)])), (w, .inr (8, [.ref (cs 450), .ref (cs 440), .ref (cs 441), .ref f3892_3, .int f3892_4, .int f3892_5, .int (nI o9)]))] [w] _ _ := hB
        refine lv_aload_nN hx hb dX8_load_45 rfl (lv_at hl 0 rfl) ?_
        refine lv_ifnonnullN hx hb dX8_load_46 ?_
        refine lv_aload_n hx hb dX8_load_49 rfl (lv_at hl 1 rfl) ?_
        refine va_get (D := D) (ci := 8) (v := .ref (cs 450)) (C := RX8) (T := TX8) (N := 7) hx hb hts iX8_load_8 hown hN.1 hB.1 1 rfl rfl 0 (by decide) (hts _ mX8_load_3) (fun _ h9 => h9) rfl dX8_load_50 ?_
        refine va_getN (D := D) (ci := 5) (v := .int c9) (C := RX5) (T := TX5) (N := 14) hx hb hts iX8_load_5 hown hN.1 hB.1 0 rfl rfl 12 (by decide) (hN.f 1 rfl) (fun _ h9 => h9) rfl dX8_load_53 ?_
        have hR := hR.fr hT trivial (Fr.close (S := [13]) Fr.rf hB (fa_c (by simp [hw.2]) fa_n)) (by decide)
        have hbt := hbt.fr hKr hT (hT.rd hw) (Fr.close (S := [13]) Fr.rf hB (fa_c (by simp [hw.2]) fa_n)) (by decide) (by decide)
        have hT : WT B0 D cs T κr _ := hT.close hB ⟨⟨1, _, rfl, ok_9 hw.1 ⟨_, _, _, _, _, _, _, rfl, t3892_0, t3892_1, t3892_2, t3892_3, rfl, rfl, rfl⟩⟩, trivial⟩
        have hL : OkL B0 _ := hB.2.2.2.2.2
        have hP : va_P D vwCl [((cs 450), .inr (5, [.ref tx, .int (nI ((κr (cs 450)).2.2.1)), .int (nI nx), .int (nI pos9), .int kd9, .int (nI st9), .int va9, .int ta9, .int tk9, .ref co1, .int (nI cc9), su1, .int c9, .int (nI o9)])), (w, .inr (8, [.ref (cs 450), .ref (cs 440), .ref (cs 441), .ref f3892_3, .int f3892_4, .int f3892_5, .int (nI o9)]))] _ := hB.1
        have hkw : va_at D vwCl ((cs 450), .inr (5, [.ref tx, .int (nI ((κr (cs 450)).2.2.1)), .int (nI nx), .int (nI pos9), .int kd9, .int (nI st9), .int va9, .int ta9, .int tk9, .ref co1, .int (nI cc9), su1, .int c9, .int (nI o9)])) _ := hP 0 _ rfl
        refine W.know (fun hg => ?_)
        rw [hH0] at hg
        exact vx_ret (en_i hx hb hr hlocks hL rfl (show 8 ≤ ((336 * sumN C 16 + 140000 - PotN LN) / 35) by omega) (show 714 ≤ (336 * sumN C 16 + 140000 - PotN LN) by omega) dX8_load_56 (⟨_, hKZ, hT, hrd1, hrz, nx, rfl, hx2, (hbt.1 _ _ hbr0), C, _, _, _, Nat.le_add_right _ _, hR, hg, hGN, _, (LDA.er (by rw [← hB9]; exact hrd9) rfl rfl)⟩))
      · have hbr := hre.br
        have hbt := BTK.rf (D := D) (cs := cs) (κ := κr) (H := H1)
        have hKr : KZ κr κr := KZ.rf
        have hbr0 := hbr
        obtain ⟨cf, pos9, kd9, st9, va9, ta9, tk9, cc9, l3, l4, l5, hkw, hktx, hkco⟩ := hre
        have hkw := sd5 (k' := (κr (cs 450)).2.2.1) hrz hkw
        have hsxp := hsx.1
        have hqs0 := hqs
        refine lv_astore_n (lv' := [(2, .ref qs), (0, .ref w), (1, .int (nI nx))]) hx hb dX8_load_33 rfl hl (by decide) rfl (fun ls hl => ?_)
        refine lv_aload_n hx hb dX8_load_34 rfl (lv_at hl 1 rfl) ?_
        refine lv_aload_n hx hb dX8_load_35 rfl (lv_at hl 1 rfl) ?_
        obtain ⟨hb3894, e3894, hat3894, hk3894⟩ := hT.o9 hw.1
        obtain ⟨f3894_0, f3894_1, f3894_2, f3894_3, f3894_4, f3894_5, f3894_6, rfl, t3894_0, t3894_1, t3894_2, t3894_3, rfl, rfl, rfl⟩ := hk3894
        have hP : va_P D vwCl [(w, .inr (8, [.ref (cs 450), .ref (cs 440), .ref (cs 441), .ref f3894_3, .int f3894_4, .int f3894_5, .int f3894_6]))] _ := va_P.cons hat3894 va_P.nil
        refine va_get (D := D) (ci := 8) (v := .ref (cs 450)) (C := RX8) (T := TX8) (N := 7) hx hb hts iX8_load_8 hown hN.1 hP 0 rfl rfl 0 (by decide) (hts _ mX8_load_3) (fun _ h9 => h9) rfl dX8_load_36 ?_
        obtain ⟨hb3895, e3895, hat3895, hk3895⟩ := hT.o6 t3894_0.1
        obtain ⟨f3895_0, f3895_2, f3895_3, f3895_4, f3895_5, f3895_6, f3895_7, f3895_8, f3895_9, f3895_10, f3895_11, f3895_12, f3895_13, rfl, c3895_1, c3895_2, c3895_3, c3895_5, c3895_10, t3895_0, t3895_9, c3895_11, c3895_p2⟩ := hk3895
        obtain ⟨rfl, rfl, rfl, rfl, rfl, rfl, rfl, rfl, rfl, rfl, rfl, rfl, rfl⟩ := eq6 hat3895 hkw (by omega)
        have hP : va_P D vwCl [((cs 450), .inr (5, [.ref tx, .int (nI ((κr (cs 450)).2.2.1)), .int (nI nx), .int (nI pos9), .int kd9, .int (nI st9), .int va9, .int ta9, .int tk9, .ref co1, .int (nI cc9), su1, .int ec1, .int (-1)])), (w, .inr (8, [.ref (cs 450), .ref (cs 440), .ref (cs 441), .ref f3894_3, .int f3894_4, .int f3894_5, .int f3894_6]))] _ := va_P.cons hat3895 hP
        refine va_getN (D := D) (ci := 5) (v := .int (-1)) (C := RX5) (T := TX5) (N := 14) hx hb hts iX8_load_5 hown hN.1 hP 0 rfl rfl 13 (by decide) (hN.f 2 rfl) (fun _ h9 => h9) rfl dX8_load_39 ?_
        have hB : Bx B0 D _ [((cs 450), .inr (5, [.ref tx, .int (nI ((κr (cs 450)).2.2.1)), .int (nI nx), .int (nI pos9), .int kd9, .int (nI st9), .int va9, .int ta9, .int tk9, .ref co1, .int (nI cc9), su1, .int ec1, .int (-1)])), (w, .inr (8, [.ref (cs 450), .ref (cs 440), .ref (cs 441), .ref f3894_3, .int f3894_4, .int f3894_5, .int f3894_6]))] [] _ _ := Bx.of (fun a => (κr a).1) hL hP (fa_c hb3895 (fa_c hb3894 fa_n)) (by simp only [List.map_cons, List.map_nil, t3894_0.1, hw.1]; decide)
        refine b_put (D := D) (ci := 8) (v := .int (-1)) (ty := .int) (C := RX8) (T := TX8) (N := 7) hx hb hts iX8_load_8 tyX8 tyX8_ok nmX8 hown hN hB 1 rfl rfl 6 (by decide) (hts _ mX8_load_4) (fun _ h9 => h9) rfl (by decide +kernel) rfl rfl (Nat.le_of_ble_eq_true rfl) (.inl rfl) dX8_load_42 (fun H locs hB => ?_)
        have hB : Bx B0 D _ [((cs 450), .inr (5, [.ref tx, .int (nI ((κr (cs 450)).2.2.1)), .int (nI nx), .int (nI pos9), .int kd9, .int (nI st9), .int va9, .int ta9, .int tk9, .ref co1, .int (nI cc9), su1, .int ec1, .int (-1)])), (w, .inr (8, [.ref (cs 450), .ref (cs 440), .ref (cs 441), .ref f3894_3, .int f3894_4, .int f3894_5, .int (-1)]))] [w] _ _ := hB
        refine lv_aload_n hx hb dX8_load_45 rfl (lv_at hl 0 rfl) ?_
        refine lv_ifnonnull (tgt := 57) hx hb dX8_load_46 (by decide) ?_
        refine lv_aload_n hx hb dX8_load_57 rfl (lv_at hl 1 rfl) ?_
        have hR := hR.fr hT trivial (Fr.close (S := [13]) Fr.rf hB (fa_c (by simp [hw.2]) fa_n)) (by decide)
        have hbt := hbt.fr hKr hT (hT.rd hw) (Fr.close (S := [13]) Fr.rf hB (fa_c (by simp [hw.2]) fa_n)) (by decide) (by decide)
        have hT : WT B0 D cs T κr _ := hT.close hB ⟨⟨1, _, rfl, ok_9 hw.1 ⟨_, _, _, _, _, _, _, rfl, t3894_0, t3894_1, t3894_2, t3894_3, rfl, rfl, rfl⟩⟩, trivial⟩
        have hL : OkL B0 _ := hB.2.2.2.2.2
        have hP : va_P D vwCl [((cs 450), .inr (5, [.ref tx, .int (nI ((κr (cs 450)).2.2.1)), .int (nI nx), .int (nI pos9), .int kd9, .int (nI st9), .int va9, .int ta9, .int tk9, .ref co1, .int (nI cc9), su1, .int ec1, .int (-1)])), (w, .inr (8, [.ref (cs 450), .ref (cs 440), .ref (cs 441), .ref f3894_3, .int f3894_4, .int f3894_5, .int (-1)]))] _ := hB.1
        refine W.know (fun hgb => ?_)
        rw [hH0] at hgb
        refine cv_v (As := []) (rest := []) (b := w) ⟨hx, hb, hml, hown, hts⟩ (c_X8_keepForUndo hT (w := w) hw hR) (cwV 0 hts gX8_load_X8_keepForUndo rfl rfl rfl hdX8_keepForUndo_v ⟨Nat.le_of_ble_eq_true rfl, Nat.le_of_ble_eq_true rfl⟩) hN hE hL (rcv9 hN hT hw.1) rfl rfl hl.1 (Nat.le_of_ble_eq_true rfl) dX8_load_58 (show 8 + ((336 * sumN C 16 + 137000 - PotN LN) / 35) ≤ ((336 * sumN C 16 + 140000 - PotN LN) / 35) by omega) (show 714 + (336 * sumN C 16 + 137000 - PotN LN) ≤ (336 * sumN C 16 + 140000 - PotN LN) by omega) (fun H1 locs hL hqr3896 => ?_)
        obtain ⟨κr3896, hxr3896, hT1, hqr3896⟩ := hqr3896
        have hxfr3896 := hxr3896.1
        have hKZo := hKr
        have hT := hT1
        have hKZ := hKZ.tr hxr3896.z
        have hKr := hKr.tr hxr3896.z
        have hrz : (κr3896 (cs 450)).2.2.1 = 0 := by rw [hxr3896.2 _ (by rw [hrd1.1]; decide) (by rw [hrd1.2]; decide)]; exact hrz
        have hrd1 := hxr3896.1.t2 hrd1 (by decide)
        have hqs := (KF.t2 hxfr3896 hqs (by decide))
        have hw := (KF.t2 hxfr3896 hw (by decide))
        obtain ⟨L3897, k3898, n3899, r3900, g3901, t3902⟩ := hqr3896
        have hR := r3900
        obtain ⟨k3903, n3904, hGP, hGN⟩ : ∃ k9 n9, Gr H0 _ k9 n9 ∧ (35 * k9 ≤ n9 ∧ n9 + PotN LN ≤ PotN L3897 + 714) := ⟨_, _, hgb.tr g3901.1, (by have h1 := hGN.1; have h2 := g3901.2.1; omega), (by have h1 := hGN.2; have h2 := g3901.2.2; omega)⟩
        refine W.tight (k := k3903) (n := n3904) (by rw [hH0]; exact hGP) ?_
        have hgk3903 := hGN.1
        have hgn3904 := hGN.2
        have hsk3903 := hR.pot
        have hbt := hbt.tr hKZo t3902
        refine lv_aload_n hx hb dX8_load_61 rfl (lv_at hl 1 rfl) ?_
        obtain ⟨hb3905, e3905, hat3905, hk3905⟩ := hT.o9 hw.1
        obtain ⟨f3905_0, f3905_1, f3905_2, f3905_3, f3905_4, f3905_5, f3905_6, rfl, t3905_0, t3905_1, t3905_2, t3905_3, rfl, rfl, rfl⟩ := hk3905
        have hP : va_P D vwCl [(w, .inr (8, [.ref (cs 450), .ref (cs 440), .ref (cs 441), .ref f3905_3, .int f3905_4, .int f3905_5, .int f3905_6]))] _ := va_P.cons hat3905 va_P.nil
        refine va_get (D := D) (ci := 8) (v := .ref (cs 440)) (C := RX8) (T := TX8) (N := 7) hx hb hts iX8_load_8 hown hN.1 hP 0 rfl rfl 1 (by decide) (hts _ mX8_load_5) (fun _ h9 => h9) rfl dX8_load_62 ?_
        refine lv_aload_n hx hb dX8_load_65 rfl (lv_at hl 0 rfl) ?_
        refine W.know (fun hgb => ?_)
        rw [hH0] at hgb
        refine cv_v (As := [.ref qs]) (rest := []) (b := (cs 440)) ⟨hx, hb, hml, hown, hts⟩ (c_X7_begin_dr hT (i := 0) (by omega) hR hqs (by decide)) (cwV 1 hts gX8_load_X7_begin rfl rfl rfl hdX7_begin_v ⟨Nat.le_of_ble_eq_true rfl, Nat.le_of_ble_eq_true rfl⟩) hN hE hL (rcv8 hN hT t3905_1.1) rfl rfl hl.1 (Nat.le_of_ble_eq_true rfl) dX8_load_66 (show k3903 + 0 ≤ ((336 * sumN C 16 + 140000 - PotN LN) / 35) by omega) (show n3904 + 0 ≤ (336 * sumN C 16 + 140000 - PotN LN) by omega) (fun H1 locs hL hqr3906 => ?_)
        obtain ⟨κr3906, hxr3906, hT1, hF1, hqr3906⟩ := hqr3906
        have hxfr3906 := hxr3906.1
        have hbt := hbt.fr hKr hT (hT.rd hw) hF1 (by first | decide | (simp; omega)) (by first | decide | (simp; omega))
        have hT := hT1
        have hKZ := hKZ.tr (hxr3906.w (by omega)).z
        have hKr := hKr.tr (hxr3906.w (by omega)).z
        have hrz : (κr3906 (cs 450)).2.2.1 = 0 := by rw [(hxr3906.w (by omega)).2 _ (by rw [hrd1.1]; decide) (by rw [hrd1.2]; decide)]; exact hrz
        have hrd1 := (hxr3906.w (by omega)).1.t2 hrd1 (by decide)
        have hqs := (KF.t2 hxfr3906 hqs (by decide))
        have hw := (KF.t2 hxfr3906 hw (by decide))
        obtain ⟨L3907, k3908, n3909, r3910, g3911⟩ := hqr3906
        have hR := r3910
        obtain ⟨k3912, n3913, hGP, hGN⟩ : ∃ k9 n9, Gr H0 _ k9 n9 ∧ (35 * k9 ≤ n9 ∧ n9 + PotN LN ≤ PotN L3907 + 714) := ⟨_, _, hgb.tr g3911.1, (by have h1 := hGN.1; have h2 := g3911.2.1; omega), (by have h1 := hGN.2; have h2 := g3911.2.2; omega)⟩
        refine W.tight (k := k3912) (n := n3913) (by rw [hH0]; exact hGP) ?_
        have hgk3912 := hGN.1
        have hgn3913 := hGN.2
        have hsk3912 := hR.pot
        refine lv_aload_n hx hb dX8_load_69 rfl (lv_at hl 0 rfl) ?_
        obtain ⟨hb3914, e3914, hat3914, hk3914⟩ := hT.o7 hqs.1
        obtain ⟨f3914_0, f3914_1, f3914_2, f3914_3, f3914_4, f3914_5, f3914_6, f3914_7, rfl, c3914_0, c3914_3, c3914_mg, t3914_4, t3914_5, t3914_6, t3914_7⟩ := hk3914
        rw [hqs.2] at t3914_4
        rw [hqs.2] at t3914_5
        rw [hqs.2] at t3914_6
        rw [hqs.2] at t3914_7
        have hP : va_P D vwCl [(qs, .inr (6, [.int (nI f3914_0), .int f3914_1, .int f3914_2, f3914_3, .ref f3914_4, .ref f3914_5, .ref f3914_6, .ref f3914_7]))] _ := va_P.cons hat3914 va_P.nil
        refine va_getN (D := D) (ci := 6) (v := .int (nI f3914_0)) (C := RX6) (T := TX6) (N := 8) hx hb hts iX8_load_6 hown hN.1 hP 0 rfl rfl 0 (by decide) (hN.f 37 rfl) (fun _ h9 => h9) rfl dX8_load_70 ?_
        refine W.know (fun hg => ?_)
        rw [hH0] at hg
        have hpl9 := hbt.2 qs (by rw [hqs0.1]; decide) hqs0.2 _ hsxp
        have hpe9 := Value.int.inj ((SU.pl hpl9).eq hat3914 rfl (by decide) rfl)
        exact vx_ret (en_i hx hb hr hlocks hL rfl (show k3912 ≤ ((336 * sumN C 16 + 140000 - PotN LN) / 35) by omega) (show n3913 ≤ (336 * sumN C 16 + 140000 - PotN LN) by omega) dX8_load_73 (⟨_, hKZ, hT, hrd1, hrz, nx, rfl, hx2, (hbt.1 _ _ hbr0), C, _, _, _, Nat.le_add_right _ _, (hR.ce er_00), hg, hGN, _, (LDA.ok (by rw [← hB9]; exact hrd9) hpe9 rfl)⟩))
    · exact tx_up (Qu := fun E1 H1 => E1 = "java/lang/IllegalArgumentException" ∧ H0.size ≤ H1.size ∧ ∀ q : Nat, q < H0.size → H1[q]? = H0[q]?) (tx_g2 (Qo := fun _ _ => False) (E := "java/lang/IllegalArgumentException") 0 hx hb hlt hown hN (by decide +kernel) (hts _ mX8_load_1) (hts _ mX8_load_2) (hN.s 0 rfl) rfl (fun w h => hts w (xgX8_load_49_0 w h)) xnRX8_49_0 xdRX8_49_0 xoRX8_45_49_0 hE.1 (by rw [hH0]; exact ⟨Nat.le_refl _, fun _ _ _ => rfl, hL⟩) (fun H1 g1 g2 => ⟨rfl, g1, g2⟩) hl hml dX8_load_15 dX8_load_18 dX8_load_19 dX8_load_21 dX8_load_24 hnx (Nat.le_of_ble_eq_true rfl) (Nat.le_of_ble_eq_true rfl) (show 0 + 1 ≤ ((336 * sumN C 16 + 140000 - PotN LN) / 35) by omega) (show 0 + 6 ≤ (336 * sumN C 16 + 140000 - PotN LN) by omega) hlocks (Nat.le_refl _) (Nat.le_refl _)) hH0 (show 1 ≤ ((336 * sumN C 16 + 140000 - PotN LN) / 35) by omega) (show 6 ≤ (336 * sumN C 16 + 140000 - PotN LN) by omega) (fun E1 H1 g g3 => ⟨⟨by rw [g.1]; simp, g.2.1, g.2.2, g3⟩, Or.inr (Int32.not_le.mp c3891)⟩)
