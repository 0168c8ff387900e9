set_option maxHeartbeats 4000000 in
set_option maxRecDepth 100000 in
/-- copy, over the two rows as they are -/
theorem c_X9_copy0 {l : Launch} {D : va_G} {cs : Nat → ClassId} {B0 : Nat} {H0 : Heap} {a b n1 n2 n : Nat} {f g : Nat → Int32} (ha : va_at D vwCl (a, .inl (cs 0, n1, .inl f)) H0) (hb9 : va_at D vwCl (b, .inl (cs 0, n2, .inl g)) H0) (hab : a ≠ b) (h0a : B0 ≤ a) (h0b : B0 ≤ b) (e3 : f 3 = nI n) (hn : n ≤ 7400 ∧ 1383 + 6 * n ≤ n1 ∧ 1383 + 6 * n ≤ n2 ∧ n1 < 2 ^ 31 ∧ n2 < 2 ^ 31) :
    KC l yX9_copy wsX9_copy 0 0 0 0 D cs B0 H0 [.ref a, .ref b] (Qv (fun H => va_at D vwCl (b, .inl (cs 0, n2, .inl (cpF (1383 + 6 * n) f g))) H ∧ H0.size ≤ H.size ∧ ∀ q, q < H0.size → q ≠ b → H[q]? = H0[q]?)) := by
  refine KC.of cX9_copy 4 none (by decide) rfl (Nat.le_of_ble_eq_true rfl) ?_
  intro p e s m below meth c ls hx hb hr hml hown hts hlocks hin hN hE hH0 hl
  have hown : s.vm.findClass RX9 = some m.cls := hown
  have hl : lv_has ls 4 [(0, .ref a), (1, .ref b)] := hl
  have hL : OkL B0 [] := OkL.nil
  have hB : Bx B0 D H0 [(a, .inl (cs 0, n1, .inl f)), (b, .inl (cs 0, n2, .inl g))] [] H0 [] := Bx.of (fun q => if q = b then 1 else 0) hL (va_P.cons ha (va_P.cons hb9 va_P.nil)) (fa_c h0a (fa_c h0b fa_n)) (by simp only [List.map_cons, List.map_nil, if_neg hab, if_pos]; decide)
  refine lv_sipush (v := 1383) hx hb dX9_copy_0 (by decide) ?_
  refine lv_bipush (v := 6) hx hb dX9_copy_3 (by decide) ?_
  refine lv_aload_n hx hb dX9_copy_5 rfl (lv_at hl 0 rfl) ?_
  refine lv_iconst (v := 3) hx hb dX9_copy_6 (by decide) ?_
  refine ld_i (v := nI n) hx hb hN hB.1 0 rfl (vp_in_nI (n := 3) (by omega) (by omega)) e3 dX9_copy_7 ?_
  refine lv_imul hx hb dX9_copy_8 ?_
  refine tp_i (nI (6 * n)) (nI_mul 6 n) ?_
  refine lv_iadd hx hb dX9_copy_9 ?_
  refine tp_i (nI (1383 + 6 * n)) (nI_add 1383 (6 * n)) ?_
  refine lv_istore_n (lv' := [(2, .int (nI (1383 + 6 * n))), (0, .ref a), (1, .ref b)]) hx hb dX9_copy_10 rfl hl (by decide) rfl (fun ls hl => ?_)
  refine lv_iconst (v := 0) hx hb dX9_copy_11 (by decide) ?_
  refine lv_istore_n (lv' := [(3, .int (nI 0)), (2, .int (nI (1383 + 6 * n))), (0, .ref a), (1, .ref b)]) hx hb dX9_copy_12 rfl hl (by decide) rfl (fun ls hl => ?_)
  refine lp_m (α := Nat) (nL := 4) (fun i => 1383 + 6 * n - i) (fun i H9 l9 => i ≤ 1383 + 6 * n ∧ ∃ ms, (∀ q ∈ ms, q = b) ∧ Bx B0 D H0 [(a, .inl (cs 0, n1, .inl f)), (b, .inl (cs 0, n2, .inl (cpF i f g)))] ms H9 l9) (fun i => [(3, .int (nI i)), (2, .int (nI (1383 + 6 * n))), (0, .ref a), (1, .ref b)]) ?_ 0 _ _ _ ⟨Nat.zero_le _, [], (fun q h => by cases h), by rw [cpF_0]; exact hB⟩ hl
  rintro i H locs ls ih ⟨hi, ms, hms, hB⟩ hl
  have hl : lv_has ls 4 [(3, .int (nI i)), (2, .int (nI (1383 + 6 * n))), (0, .ref a), (1, .ref b)] := hl
  refine lv_iload_n hx hb dX9_copy_13 rfl (lv_at hl 0 rfl) ?_
  refine lv_iload_n hx hb dX9_copy_14 rfl (lv_at hl 1 rfl) ?_
  refine lv_icmp_ge (tgt := 30) hx hb dX9_copy_15 (by decide) (fun c9 => ?_) (fun c9 => ?_)
  · rw [nI_leI (by omega) (by omega)] at c9
    have e : i = 1383 + 6 * n := by omega
    subst e
    refine en_v hx hb hr hlocks hB.2.2.2.2.2 (Nat.le_refl _) (Nat.le_refl _) dX9_copy_30 ⟨hB.1 1 _ rfl, hB.2.2.1, fun q hq hne => hB.2.2.2.1 q hq (fun h => hne (hms q h))⟩
  · rw [nI_leI (by omega) (by omega)] at c9
    refine lv_aload_n hx hb dX9_copy_18 rfl (lv_at hl 3 rfl) ?_
    refine lv_iload_n hx hb dX9_copy_19 rfl (lv_at hl 0 rfl) ?_
    refine lv_aload_n hx hb dX9_copy_20 rfl (lv_at hl 2 rfl) ?_
    refine lv_iload_n hx hb dX9_copy_21 rfl (lv_at hl 0 rfl) ?_
    refine ld_i (v := f i) hx hb hN hB.1 0 rfl (vp_in_nI (by omega) (by omega)) (by rw [nI_clamp (by omega)]) dX9_copy_22 ?_
    refine b_i (ms' := b :: ms) hx hb hN hB 1 rfl (vp_in_nI (by omega) (by omega)) (.inl rfl) dX9_copy_23 (fun H locs hB => ?_)
    rw [nI_clamp (by omega), cpF_s] at hB
    refine lv_iinc (v := nI (i + 1)) (lv' := [(3, .int (nI (i + 1))), (2, .int (nI (1383 + 6 * n))), (0, .ref a), (1, .ref b)]) hx hb dX9_copy_24 hl (k := 0) rfl (nI_1 i) (by decide) rfl (fun ls hl => ?_)
    refine lv_goto (tgt := 13) hx hb dX9_copy_27 (by decide) ?_
    exact ih (i + 1) _ _ _ (by show 1383 + 6 * n - (i + 1) < 1383 + 6 * n - i; omega) ⟨by omega, b :: ms, fun q hq => (List.mem_cons.mp hq).elim id (hms q), hB⟩ hl
/-- a row of data into another -/
theorem c_X9_copyD {l : Launch} {D : va_G} {cs : Nat → ClassId} {B0 T : Nat} {κ : KM} {H0 : Heap} (hT : WT B0 D cs T κ H0) {a b c1 c2 : Nat} (ha : T2 κ a c1 18) (hb : T2 κ b c2 18) (hab : a ≠ b) (h1 : c1 = 24 ∨ c1 = 25) (h2 : c2 = 24 ∨ c2 = 25) : KC l yX9_copy wsX9_copy 0 0 0 0 D cs B0 H0 [.ref a, .ref b] (Qv (fun H => WT B0 D cs T κ H ∧ Fr B0 [18] κ H0 H)) := by
  have open9 : ∀ {x c : Nat}, T2 κ x c 18 → c = 24 ∨ c = 25 → B0 ≤ x ∧ ∃ f, va_at D vwCl (x, .inl (cs 0, 45783, .inl f)) H0 ∧ DOK T f := by
    intro x c hx hc
    rcases hc with rfl | rfl
    · obtain ⟨g0, e, g1, f, rfl, g2⟩ := hT.o24 hx.1
      exact ⟨g0, f, g1, g2⟩
    · obtain ⟨g0, e, g1, f, rfl, g2⟩ := hT.o25 hx.1
      exact ⟨g0, f, g1, g2⟩
  obtain ⟨h0a, f, hfa, hqa⟩ := open9 ha h1
  obtain ⟨h0b, g, hfb, hqb⟩ := open9 hb h2
  obtain ⟨n, hn, e3⟩ := hqa.2.2.2.1
  have h := c_X9_copy0 (l := l) (B0 := B0) hfa hfb hab h0a h0b e3 ⟨hn, by omega, by omega, by omega, by omega⟩
  refine h.wk ?_
  rintro v H ⟨rfl, k1, k2, k3⟩
  refine ⟨rfl, ?_, k2, fun q hq hc => k3 q hq ?_⟩
  · intro q hq
    obtain ⟨q0, e, q1, q2⟩ := hT q hq
    refine ⟨q0, ?_⟩
    by_cases hz : q = b
    · subst hz
      have hd := hqa.cp (g := cpF (1383 + 6 * n) f g) hqb (n := n) (fun i hi => cpF_lt hi) (fun i hi => if_neg (by omega))
      rcases h2 with h2 | h2
      · exact ⟨_, k1, ok_24 (hb.1.trans h2) ⟨_, rfl, hd⟩⟩
      · exact ⟨_, k1, ok_25 (hb.1.trans h2) ⟨_, rfl, hd⟩⟩
    · exact ⟨e, q1.kept (k3 q q1.lt hz), q2⟩
  · rintro rfl
    rcases hc with hc | hc
    · omega
    · exact hc.2 (by rw [hb.2]; exact List.mem_cons_self)
/-- the draft into the data, when its codes run -/
theorem c_X9_copyR {l : Launch} {D : va_G} {cs : Nat → ClassId} {B0 T : Nat} {κ : KM} {H0 : Heap} (hT : WT B0 D cs T κ H0) {a b n h : Nat} (ha : T2 κ a 26 17) (hb : T2 κ b 24 18) {f : Nat → Int32} (hf : va_at D vwCl (a, .inl (cs 0, 1383, .inl f)) H0) (hd : DRK f) (e14 : f 14 = nI n) (hn : n ≤ 1200) (hc : CV (fun i => f (183 + i)) n h) : KC l yX9_copy wsX9_copy 0 0 0 0 D cs B0 H0 [.ref a, .ref b] (Qv (fun H => WT B0 D cs T κ H ∧ Fr B0 [18] κ H0 H)) := by
  obtain ⟨h0a, -, -, -⟩ := hT.o26 ha.1
  obtain ⟨h0b, e, hfb, g, rfl, hqb⟩ := hT.o24 hb.1
  have h := c_X9_copy0 (l := l) (B0 := B0) (n := 0) hf hfb (ne_c ha.1 hb.1 (by decide)) h0a h0b (hd.2.2.2.1) ⟨by omega, by omega, by omega, by omega, by omega⟩
  refine h.wk ?_
  rintro v H ⟨rfl, k1, k2, k3⟩
  refine ⟨rfl, ?_, k2, fun q hq hc => k3 q hq ?_⟩
  · intro q hq
    obtain ⟨q0, e, q1, q2⟩ := hT q hq
    refine ⟨q0, ?_⟩
    by_cases hz : q = b
    · subst hz
      exact ⟨_, k1, ok_24 hb.1 ⟨_, rfl, hd.dok hqb e14 hn hc (fun i hi => cpF_lt (by omega)) (fun i hi => if_neg (by omega))⟩⟩
    · exact ⟨e, q1.kept (k3 q q1.lt hz), q2⟩
  · rintro rfl
    rcases hc with hc | hc
    · omega
    · exact hc.2 (by rw [hb.2]; exact List.mem_cons_self)

theorem mX9_remember_1 : (.fieldLink RX9 302 "OneBeatModel" "undoDepth" "I" : Cond) ∈ wsX9_remember := List.mem_of_getElem? (i := 1) (by decide +kernel)
theorem iX9_remember_9 : ∀ w ∈ wsX90, w ∈ wsX9_remember := fun w h => List.mem_of_mem_drop (List.mem_of_mem_take ((show wsX90 = (wsX9_remember.drop 8).take 18 by decide +kernel) ▸ h))
theorem mX9_remember_3 : (.fieldLink RX9 18 "OneBeatModel" "data" "[I" : Cond) ∈ wsX9_remember := List.mem_of_getElem? (i := 3) (by decide +kernel)
theorem mX9_remember_2 : (.fieldLink RX9 29 "OneBeatModel" "history" "[[I" : Cond) ∈ wsX9_remember := List.mem_of_getElem? (i := 2) (by decide +kernel)
theorem hdX9_copy_o : yX9_copy.cls ≠ "java/lang/invoke/MethodHandle" ∧ yX9_copy.cls ≠ "java/lang/invoke/VarHandle" ∧ (parseMethodDescriptor yX9_copy.desc).map (fun d => d.parameters.length) = some 2 := by decide +kernel
set_option maxHeartbeats 4000000 in
set_option maxRecDepth 100000 in
theorem c_X9_remember {l : Launch} {D : va_G} {cs : Nat → ClassId} {B0 T : Nat} {κ : KM} {H0 : Heap} (hT : WT B0 D cs T κ H0) {w : Nat} (hw : T2 κ w 10 12) : KC l yX9_remember wsX9_remember 1 23 0 0 D cs B0 H0 [.ref w] (Qv (fun H => WT B0 D cs T κ H ∧ Fr B0 [12, 18] κ H0 H)) := by
  refine KC.of cX9_remember 2 none (by decide) rfl (Nat.le_of_ble_eq_true rfl) ?_
  intro p e s m below meth c ls hx hb hr hml hown hts hlocks hin hN hE hH0 hl
  have hown : s.vm.findClass RX9 = some m.cls := hown
  have hl : lv_has ls 2 [(0, .ref w)] := hl
  have hL : OkL B0 [] := OkL.nil
  have hF : Fr B0 [12, 18] κ H0 H0 := Fr.rf
  refine lv_aload_n hx hb dX9_remember_0 rfl (lv_at hl 0 rfl) ?_
  obtain ⟨hb849, e849, hat849, hk849⟩ := hT.o10 hw.1
  obtain ⟨f849_0, f849_1, f849_3, f849_4, f849_5, f849_6, f849_7, f849_9, f849_10, f849_11, f849_12, f849_13, f849_14, f849_15, f849_16, f849_17, rfl, c849_2, c849_3, c849_4, c849_12, t849_1, t849_8, t849_9, c849_sd, t849_10, t849_11, t849_17⟩ := hk849
  have hP : va_P D vwCl [(w, .inr (9, [.int f849_0, .ref f849_1, .int (nI ((κ w).2.2.1)), .int (nI f849_3), .int (nI f849_4), .int f849_5, .int f849_6, .int f849_7, .ref (κ w).2.2.2, .ref f849_9, .ref f849_10, .ref f849_11, .int (nI f849_12), .int f849_13, .int f849_14, .int f849_15, .int f849_16, .ref f849_17]))] _ := va_P.cons hat849 va_P.nil
  refine va_get (D := D) (ci := 9) (v := .int (nI f849_12)) (C := RX9) (T := TX9) (N := 18) hx hb hts iX9_remember_9 hown hN.1 hP 0 rfl rfl 12 (by decide) (hts _ mX9_remember_1) (fun _ h9 => h9) rfl dX9_remember_1 ?_
  refine lv_bipush (v := 8) hx hb dX9_remember_4 (by decide) ?_
  refine lv_icmp_ne (tgt := 50) hx hb dX9_remember_6 (by decide) (fun c850 => ?_) (fun c850 => ?_)
  · have c850 : ¬ f849_12 = 8 := fun h9 => c850 ((nI_eq (a := f849_12) (b := 8) (by omega) (by omega)).mpr h9)
    refine lv_aload_n hx hb dX9_remember_50 rfl (lv_at hl 0 rfl) ?_
    refine va_get (D := D) (ci := 9) (v := .ref (κ w).2.2.2) (C := RX9) (T := TX9) (N := 18) hx hb hts iX9_remember_9 hown hN.1 hP 0 rfl rfl 8 (by decide) (hts _ mX9_remember_3) (fun _ h9 => h9) rfl dX9_remember_51 ?_
    refine lv_aload_n hx hb dX9_remember_54 rfl (lv_at hl 0 rfl) ?_
    refine va_get (D := D) (ci := 9) (v := .ref f849_11) (C := RX9) (T := TX9) (N := 18) hx hb hts iX9_remember_9 hown hN.1 hP 0 rfl rfl 11 (by decide) (hts _ mX9_remember_2) (fun _ h9 => h9) rfl dX9_remember_55 ?_
    refine lv_aload_n hx hb dX9_remember_58 rfl (lv_at hl 0 rfl) ?_
    refine va_get (D := D) (ci := 9) (v := .int (nI f849_12)) (C := RX9) (T := TX9) (N := 18) hx hb hts iX9_remember_9 hown hN.1 hP 0 rfl rfl 12 (by decide) (hts _ mX9_remember_1) (fun _ h9 => h9) rfl dX9_remember_59 ?_
    obtain ⟨hb851, e851, hat851, hk851⟩ := hT.o27 t849_11.1
    obtain ⟨g851, rfl, q851⟩ := hk851
    have hP : va_P D vwCl [(f849_11, .inl (cs 6, 8, .inr (.inr (.inr (.inr g851))))), (w, .inr (9, [.int f849_0, .ref f849_1, .int (nI ((κ w).2.2.1)), .int (nI f849_3), .int (nI f849_4), .int f849_5, .int f849_6, .int f849_7, .ref (κ w).2.2.2, .ref f849_9, .ref f849_10, .ref f849_11, .int (nI f849_12), .int f849_13, .int f849_14, .int f849_15, .int f849_16, .ref f849_17]))] _ := va_P.cons hat851 hP
    obtain ⟨a852, ea852, ta852, ua852⟩ := q851 (f849_12) (by omega)
    refine ld_a (v := .ref a852) hx hb hN hP 0 rfl (vp_in_nI (n := f849_12) (N := 8) (by omega) (by omega)) (by rw [(show ((nI f849_12) : Int32).toNatClampNeg = f849_12 from nI_clamp (n := f849_12) (by omega)), ea852]; rfl) dX9_remember_62 ?_
    refine cs_v (As := [.ref (κ w).2.2.2, .ref a852]) (rest := []) ⟨hx, hb, hml, hown, hts⟩ (c_X9_copyD hT (a := (κ w).2.2.2) t849_8 (b := a852) ta852 (ne_c t849_8.1 ta852.1 (by decide)) (by first | omega | decide | assumption) (by first | omega | decide | assumption)) (va_cwS 2 hts gX9_remember_X9_copy rfl rfl rfl hdX9_copy_o ⟨Nat.le_of_ble_eq_true rfl, Nat.le_of_ble_eq_true rfl⟩) hN hE hL rfl rfl hl.1 (Nat.le_of_ble_eq_true rfl) dX9_remember_63 (Nat.zero_le _) (Nat.zero_le _) (fun H1 locs hL hqr853 => ?_)
    obtain ⟨hT1, hF1⟩ := hqr853
    have hP : va_P D vwCl [(f849_11, .inl (cs 6, 8, .inr (.inr (.inr (.inr g851))))), (w, .inr (9, [.int f849_0, .ref f849_1, .int (nI ((κ w).2.2.1)), .int (nI f849_3), .int (nI f849_4), .int f849_5, .int f849_6, .int f849_7, .ref (κ w).2.2.2, .ref f849_9, .ref f849_10, .ref f849_11, .int (nI f849_12), .int f849_13, .int f849_14, .int f849_15, .int f849_16, .ref f849_17]))] _ := hF1.hP (hP.sub [0, 1] rfl) (fa_c ⟨by rw [t849_11.1]; decide, by rw [t849_11.2]; first | decide | (simp; done) | (simp [h15a, h15b, h15c]; done) | (simp; omega)⟩ (fa_c ⟨by rw [hw.1]; decide, by rw [hw.2]; first | decide | (simp; done) | (simp [h15a, h15b, h15c]; done) | (simp; omega)⟩ fa_n))
    have hF := hF.tr (hF1.mono (by simp))
    have hT := hT1
    refine lv_aload_n hx hb dX9_remember_66 rfl (lv_at hl 0 rfl) ?_
    refine lv_dup hx hb dX9_remember_67 rfl ?_
    refine va_get (D := D) (ci := 9) (v := .int (nI f849_12)) (C := RX9) (T := TX9) (N := 18) hx hb hts iX9_remember_9 hown hN.1 hP 1 rfl rfl 12 (by decide) (hts _ mX9_remember_1) (fun _ h9 => h9) rfl dX9_remember_68 ?_
    refine lv_iconst (v := 1) hx hb dX9_remember_71 (by decide) ?_
    refine lv_iadd hx hb dX9_remember_72 ?_
    refine tp_i (nI (f849_12 + 1)) (nI_add f849_12 1) ?_
    have hB : Bx B0 D _ [(f849_11, .inl (cs 6, 8, .inr (.inr (.inr (.inr g851))))), (w, .inr (9, [.int f849_0, .ref f849_1, .int (nI ((κ w).2.2.1)), .int (nI f849_3), .int (nI f849_4), .int f849_5, .int f849_6, .int f849_7, .ref (κ w).2.2.2, .ref f849_9, .ref f849_10, .ref f849_11, .int (nI f849_12), .int f849_13, .int f849_14, .int f849_15, .int f849_16, .ref f849_17]))] [] _ _ := Bx.of (fun a => (κ a).1) hL hP (fa_c hb851 (fa_c hb849 fa_n)) (by simp only [List.map_cons, List.map_nil, t849_11.1, hw.1]; decide)
    refine b_put (D := D) (ci := 9) (v := .int (nI (f849_12 + 1))) (ty := .int) (C := RX9) (T := TX9) (N := 18) hx hb hts iX9_remember_9 tyX9 tyX9_ok nmX9 hown hN hB 1 rfl rfl 12 (by decide) (hts _ mX9_remember_1) (fun _ h9 => h9) rfl (by decide +kernel) rfl rfl (Nat.le_of_ble_eq_true rfl) (.inl rfl) dX9_remember_73 (fun H locs hB => ?_)
    have hB : Bx B0 D _ [(f849_11, .inl (cs 6, 8, .inr (.inr (.inr (.inr g851))))), (w, .inr (9, [.int f849_0, .ref f849_1, .int (nI ((κ w).2.2.1)), .int (nI f849_3), .int (nI f849_4), .int f849_5, .int f849_6, .int f849_7, .ref (κ w).2.2.2, .ref f849_9, .ref f849_10, .ref f849_11, .int (nI (f849_12 + 1)), .int f849_13, .int f849_14, .int f849_15, .int f849_16, .ref f849_17]))] [w] _ _ := hB
    have hT : WT B0 D cs T κ _ := hT.close hB ⟨⟨1, _, rfl, ok_10 hw.1 ⟨_, _, _, _, _, _, _, _, _, _, _, _, _, _, _, _, rfl, (by omega), (by omega), (by omega), (by omega), t849_1, t849_8, t849_9, c849_sd, t849_10, t849_11, t849_17⟩⟩, trivial⟩
    have hF : Fr B0 [12, 18] κ H0 _ := hF.close hB (fa_c (by simp [hw.2]) fa_n)
    have hL : OkL B0 _ := hB.2.2.2.2.2
    have hP : va_P D vwCl [(f849_11, .inl (cs 6, 8, .inr (.inr (.inr (.inr g851))))), (w, .inr (9, [.int f849_0, .ref f849_1, .int (nI ((κ w).2.2.1)), .int (nI f849_3), .int (nI f849_4), .int f849_5, .int f849_6, .int f849_7, .ref (κ w).2.2.2, .ref f849_9, .ref f849_10, .ref f849_11, .int (nI (f849_12 + 1)), .int f849_13, .int f849_14, .int f849_15, .int f849_16, .ref f849_17]))] _ := hB.1
    exact en_v hx hb hr hlocks hL (Nat.zero_le _) (Nat.zero_le _) dX9_remember_76 (⟨hT, hF⟩)
  · have c850 : f849_12 = 8 := (nI_eq (a := f849_12) (b := 8) (by omega) (by omega)).mp c850
    refine lv_iconst (v := 1) hx hb dX9_remember_9 (by decide) ?_
    refine lv_istore_n (lv' := [(1, .int 1), (0, .ref w)]) hx hb dX9_remember_10 rfl hl (by decide) rfl (fun ls hl => ?_)
    refine lp_m (α := Nat) (nL := 2) (fun a9 => 8 - a9) (fun a9 H9 l9 => (1 ≤ a9 ∧ a9 ≤ 8) ∧ (WT B0 D cs T κ H9) ∧ (Fr B0 [12, 18] κ H0 H9) ∧ (OkL B0 l9) ∧ (va_P D vwCl [(w, .inr (9, [.int f849_0, .ref f849_1, .int (nI ((κ w).2.2.1)), .int (nI f849_3), .int (nI f849_4), .int f849_5, .int f849_6, .int f849_7, .ref (κ w).2.2.2, .ref f849_9, .ref f849_10, .ref f849_11, .int (nI f849_12), .int f849_13, .int f849_14, .int f849_15, .int f849_16, .ref f849_17]))] H9)) (fun a9 => [(1, .int (nI a9)), (0, .ref w)]) ?_ 1 _ _ _ ⟨(by show 1 ≤ (1) ∧ (1) ≤ 8; omega), hT, hF, hL, (hP.sub [0] rfl)⟩ (lv_sub hl [0, 1] rfl)
    rintro k H locs ls ih854 ⟨hk, hT, hF, hL, hP⟩ hl
    have hl : lv_has ls 2 [(1, .int (nI k)), (0, .ref w)] := hl
    have hk : 1 ≤ k ∧ k ≤ 8 := hk
    refine lv_iload_n hx hb dX9_remember_11 rfl (lv_at hl 0 rfl) ?_
    refine lv_bipush (v := 8) hx hb dX9_remember_12 (by decide) ?_
    refine lv_icmp_ge (tgt := 40) hx hb dX9_remember_14 (by decide) (fun c855 => ?_) (fun c855 => ?_)
    · have c855 : 8 ≤ k := (nI_leI (a := 8) (b := k) (by omega) (by omega)).mp c855
      refine lv_aload_n hx hb dX9_remember_40 rfl (lv_at hl 1 rfl) ?_
      refine lv_dup hx hb dX9_remember_41 rfl ?_
      refine va_get (D := D) (ci := 9) (v := .int (nI f849_12)) (C := RX9) (T := TX9) (N := 18) hx hb hts iX9_remember_9 hown hN.1 hP 0 rfl rfl 12 (by decide) (hts _ mX9_remember_1) (fun _ h9 => h9) rfl dX9_remember_42 ?_
      refine lv_iconst (v := 1) hx hb dX9_remember_45 (by decide) ?_
      refine lv_isub hx hb dX9_remember_46 ?_
      refine tp_i (nI (f849_12 - 1)) (nI_subN (a := f849_12) (b := 1) (by omega)) ?_
      have hB : Bx B0 D _ [(w, .inr (9, [.int f849_0, .ref f849_1, .int (nI ((κ w).2.2.1)), .int (nI f849_3), .int (nI f849_4), .int f849_5, .int f849_6, .int f849_7, .ref (κ w).2.2.2, .ref f849_9, .ref f849_10, .ref f849_11, .int (nI f849_12), .int f849_13, .int f849_14, .int f849_15, .int f849_16, .ref f849_17]))] [] _ _ := Bx.of (fun a => (κ a).1) hL hP (fa_c hb849 fa_n) (by simp only [List.map_cons, List.map_nil, hw.1]; decide)
      refine b_put (D := D) (ci := 9) (v := .int (nI (f849_12 - 1))) (ty := .int) (C := RX9) (T := TX9) (N := 18) hx hb hts iX9_remember_9 tyX9 tyX9_ok nmX9 hown hN hB 0 rfl rfl 12 (by decide) (hts _ mX9_remember_1) (fun _ h9 => h9) rfl (by decide +kernel) rfl rfl (Nat.le_of_ble_eq_true rfl) (.inl rfl) dX9_remember_47 (fun H locs hB => ?_)
      have hB : Bx B0 D _ [(w, .inr (9, [.int f849_0, .ref f849_1, .int (nI ((κ w).2.2.1)), .int (nI f849_3), .int (nI f849_4), .int f849_5, .int f849_6, .int f849_7, .ref (κ w).2.2.2, .ref f849_9, .ref f849_10, .ref f849_11, .int (nI (f849_12 - 1)), .int f849_13, .int f849_14, .int f849_15, .int f849_16, .ref f849_17]))] [w] _ _ := hB
      refine lv_aload_n hx hb dX9_remember_50 rfl (lv_at hl 1 rfl) ?_
      refine va_get (D := D) (ci := 9) (v := .ref (κ w).2.2.2) (C := RX9) (T := TX9) (N := 18) hx hb hts iX9_remember_9 hown hN.1 hB.1 0 rfl rfl 8 (by decide) (hts _ mX9_remember_3) (fun _ h9 => h9) rfl dX9_remember_51 ?_
      refine lv_aload_n hx hb dX9_remember_54 rfl (lv_at hl 1 rfl) ?_
      refine va_get (D := D) (ci := 9) (v := .ref f849_11) (C := RX9) (T := TX9) (N := 18) hx hb hts iX9_remember_9 hown hN.1 hB.1 0 rfl rfl 11 (by decide) (hts _ mX9_remember_2) (fun _ h9 => h9) rfl dX9_remember_55 ?_
      refine lv_aload_n hx hb dX9_remember_58 rfl (lv_at hl 1 rfl) ?_
      refine va_get (D := D) (ci := 9) (v := .int (nI (f849_12 - 1))) (C := RX9) (T := TX9) (N := 18) hx hb hts iX9_remember_9 hown hN.1 hB.1 0 rfl rfl 12 (by decide) (hts _ mX9_remember_1) (fun _ h9 => h9) rfl dX9_remember_59 ?_
      obtain ⟨hb856, e856, hat856, hk856⟩ := hT.o27 t849_11.1
      obtain ⟨g856, rfl, q856⟩ := hk856
      have hB : Bx B0 D _ [(w, .inr (9, [.int f849_0, .ref f849_1, .int (nI ((κ w).2.2.1)), .int (nI f849_3), .int (nI f849_4), .int f849_5, .int f849_6, .int f849_7, .ref (κ w).2.2.2, .ref f849_9, .ref f849_10, .ref f849_11, .int (nI (f849_12 - 1)), .int f849_13, .int f849_14, .int f849_15, .int f849_16, .ref f849_17])), (f849_11, .inl (cs 6, 8, .inr (.inr (.inr (.inr g856)))))] [w] _ _ := hB.more hat856 hb856 (fa_c (ne_c hw.1 t849_11.1 (by decide)) fa_n) (fa_c (ne_c hw.1 t849_11.1 (by decide)) fa_n)
      obtain ⟨a857, ea857, ta857, ua857⟩ := q856 ((f849_12 - 1)) (by omega)
      refine ld_a (v := .ref a857) hx hb hN hB.1 1 rfl (vp_in_nI (n := (f849_12 - 1)) (N := 8) (by omega) (by omega)) (by rw [(show ((nI (f849_12 - 1)) : Int32).toNatClampNeg = (f849_12 - 1) from nI_clamp (n := (f849_12 - 1)) (by omega)), ea857]; rfl) dX9_remember_62 ?_
      have hT : WT B0 D cs T κ _ := hT.close hB ⟨⟨0, _, rfl, ok_10 hw.1 ⟨_, _, _, _, _, _, _, _, _, _, _, _, _, _, _, _, rfl, (by omega), (by omega), (by omega), (by omega), t849_1, t849_8, t849_9, c849_sd, t849_10, t849_11, t849_17⟩⟩, trivial⟩
      have hF : Fr B0 [12, 18] κ H0 _ := hF.close hB (fa_c (by simp [hw.2]) fa_n)
      have hL : OkL B0 _ := hB.2.2.2.2.2
      have hP : va_P D vwCl [(w, .inr (9, [.int f849_0, .ref f849_1, .int (nI ((κ w).2.2.1)), .int (nI f849_3), .int (nI f849_4), .int f849_5, .int f849_6, .int f849_7, .ref (κ w).2.2.2, .ref f849_9, .ref f849_10, .ref f849_11, .int (nI (f849_12 - 1)), .int f849_13, .int f849_14, .int f849_15, .int f849_16, .ref f849_17])), (f849_11, .inl (cs 6, 8, .inr (.inr (.inr (.inr g856)))))] _ := hB.1
      refine cs_v (As := [.ref (κ w).2.2.2, .ref a857]) (rest := []) ⟨hx, hb, hml, hown, hts⟩ (c_X9_copyD hT (a := (κ w).2.2.2) t849_8 (b := a857) ta857 (ne_c t849_8.1 ta857.1 (by decide)) (by first | omega | decide | assumption) (by first | omega | decide | assumption)) (va_cwS 2 hts gX9_remember_X9_copy rfl rfl rfl hdX9_copy_o ⟨Nat.le_of_ble_eq_true rfl, Nat.le_of_ble_eq_true rfl⟩) hN hE hL rfl rfl hl.1 (Nat.le_of_ble_eq_true rfl) dX9_remember_63 (Nat.zero_le _) (Nat.zero_le _) (fun H1 locs hL hqr858 => ?_)
      obtain ⟨hT1, hF1⟩ := hqr858
      have hP : va_P D vwCl [(w, .inr (9, [.int f849_0, .ref f849_1, .int (nI ((κ w).2.2.1)), .int (nI f849_3), .int (nI f849_4), .int f849_5, .int f849_6, .int f849_7, .ref (κ w).2.2.2, .ref f849_9, .ref f849_10, .ref f849_11, .int (nI (f849_12 - 1)), .int f849_13, .int f849_14, .int f849_15, .int f849_16, .ref f849_17])), (f849_11, .inl (cs 6, 8, .inr (.inr (.inr (.inr g856)))))] _ := hF1.hP (hP.sub [0, 1] rfl) (fa_c ⟨by rw [hw.1]; decide, by rw [hw.2]; first | decide | (simp; done) | (simp [h15a, h15b, h15c]; done) | (simp; omega)⟩ (fa_c ⟨by rw [t849_11.1]; decide, by rw [t849_11.2]; first | decide | (simp; done) | (simp [h15a, h15b, h15c]; done) | (simp; omega)⟩ fa_n))
      have hF := hF.tr (hF1.mono (by simp))
      have hT := hT1
      refine lv_aload_n hx hb dX9_remember_66 rfl (lv_at hl 1 rfl) ?_
      refine lv_dup hx hb dX9_remember_67 rfl ?_
      refine va_get (D := D) (ci := 9) (v := .int (nI (f849_12 - 1))) (C := RX9) (T := TX9) (N := 18) hx hb hts iX9_remember_9 hown hN.1 hP 0 rfl rfl 12 (by decide) (hts _ mX9_remember_1) (fun _ h9 => h9) rfl dX9_remember_68 ?_
      refine lv_iconst (v := 1) hx hb dX9_remember_71 (by decide) ?_
      refine lv_iadd hx hb dX9_remember_72 ?_
      refine tp_i (nI ((f849_12 - 1) + 1)) (nI_add (f849_12 - 1) 1) ?_
      have hB : Bx B0 D _ [(w, .inr (9, [.int f849_0, .ref f849_1, .int (nI ((κ w).2.2.1)), .int (nI f849_3), .int (nI f849_4), .int f849_5, .int f849_6, .int f849_7, .ref (κ w).2.2.2, .ref f849_9, .ref f849_10, .ref f849_11, .int (nI (f849_12 - 1)), .int f849_13, .int f849_14, .int f849_15, .int f849_16, .ref f849_17])), (f849_11, .inl (cs 6, 8, .inr (.inr (.inr (.inr g856)))))] [] _ _ := Bx.of (fun a => (κ a).1) hL hP (fa_c hb849 (fa_c hb856 fa_n)) (by simp only [List.map_cons, List.map_nil, hw.1, t849_11.1]; decide)
      refine b_put (D := D) (ci := 9) (v := .int (nI ((f849_12 - 1) + 1))) (ty := .int) (C := RX9) (T := TX9) (N := 18) hx hb hts iX9_remember_9 tyX9 tyX9_ok nmX9 hown hN hB 0 rfl rfl 12 (by decide) (hts _ mX9_remember_1) (fun _ h9 => h9) rfl (by decide +kernel) rfl rfl (Nat.le_of_ble_eq_true rfl) (.inl rfl) dX9_remember_73 (fun H locs hB => ?_)
      have hB : Bx B0 D _ [(w, .inr (9, [.int f849_0, .ref f849_1, .int (nI ((κ w).2.2.1)), .int (nI f849_3), .int (nI f849_4), .int f849_5, .int f849_6, .int f849_7, .ref (κ w).2.2.2, .ref f849_9, .ref f849_10, .ref f849_11, .int (nI ((f849_12 - 1) + 1)), .int f849_13, .int f849_14, .int f849_15, .int f849_16, .ref f849_17])), (f849_11, .inl (cs 6, 8, .inr (.inr (.inr (.inr g856)))))] [w] _ _ := hB
      have hT : WT B0 D cs T κ _ := hT.close hB ⟨⟨0, _, rfl, ok_10 hw.1 ⟨_, _, _, _, _, _, _, _, _, _, _, _, _, _, _, _, rfl, (by omega), (by omega), (by omega), (by omega), t849_1, t849_8, t849_9, c849_sd, t849_10, t849_11, t849_17⟩⟩, trivial⟩
      have hF : Fr B0 [12, 18] κ H0 _ := hF.close hB (fa_c (by simp [hw.2]) fa_n)
      have hL : OkL B0 _ := hB.2.2.2.2.2
      have hP : va_P D vwCl [(w, .inr (9, [.int f849_0, .ref f849_1, .int (nI ((κ w).2.2.1)), .int (nI f849_3), .int (nI f849_4), .int f849_5, .int f849_6, .int f849_7, .ref (κ w).2.2.2, .ref f849_9, .ref f849_10, .ref f849_11, .int (nI ((f849_12 - 1) + 1)), .int f849_13, .int f849_14, .int f849_15, .int f849_16, .ref f849_17])), (f849_11, .inl (cs 6, 8, .inr (.inr (.inr (.inr g856)))))] _ := hB.1
      exact en_v hx hb hr hlocks hL (Nat.zero_le _) (Nat.zero_le _) dX9_remember_76 (⟨hT, hF⟩)
    · have c855 : ¬ 8 ≤ k := fun h9 => c855 ((nI_leI (a := 8) (b := k) (by omega) (by omega)).mpr h9)
      refine lv_aload_n hx hb dX9_remember_17 rfl (lv_at hl 1 rfl) ?_
      refine va_get (D := D) (ci := 9) (v := .ref f849_11) (C := RX9) (T := TX9) (N := 18) hx hb hts iX9_remember_9 hown hN.1 hP 0 rfl rfl 11 (by decide) (hts _ mX9_remember_2) (fun _ h9 => h9) rfl dX9_remember_18 ?_
      refine lv_iload_n hx hb dX9_remember_21 rfl (lv_at hl 0 rfl) ?_
      obtain ⟨hb859, e859, hat859, hk859⟩ := hT.o27 t849_11.1
      obtain ⟨g859, rfl, q859⟩ := hk859
      have hP : va_P D vwCl [(f849_11, .inl (cs 6, 8, .inr (.inr (.inr (.inr g859))))), (w, .inr (9, [.int f849_0, .ref f849_1, .int (nI ((κ w).2.2.1)), .int (nI f849_3), .int (nI f849_4), .int f849_5, .int f849_6, .int f849_7, .ref (κ w).2.2.2, .ref f849_9, .ref f849_10, .ref f849_11, .int (nI f849_12), .int f849_13, .int f849_14, .int f849_15, .int f849_16, .ref f849_17]))] _ := va_P.cons hat859 hP
      obtain ⟨a860, ea860, ta860, ua860⟩ := q859 (k) (by omega)
      refine ld_a (v := .ref a860) hx hb hN hP 0 rfl (vp_in_nI (n := k) (N := 8) (by omega) (by omega)) (by rw [(show ((nI k) : Int32).toNatClampNeg = k from nI_clamp (n := k) (by omega)), ea860]; rfl) dX9_remember_22 ?_
      refine lv_aload_n hx hb dX9_remember_23 rfl (lv_at hl 1 rfl) ?_
      refine va_get (D := D) (ci := 9) (v := .ref f849_11) (C := RX9) (T := TX9) (N := 18) hx hb hts iX9_remember_9 hown hN.1 hP 1 rfl rfl 11 (by decide) (hts _ mX9_remember_2) (fun _ h9 => h9) rfl dX9_remember_24 ?_
      refine lv_iload_n hx hb dX9_remember_27 rfl (lv_at hl 0 rfl) ?_
      refine lv_iconst (v := 1) hx hb dX9_remember_28 (by decide) ?_
      refine lv_isub hx hb dX9_remember_29 ?_
      refine tp_i (nI (k - 1)) (nI_subN (a := k) (b := 1) (by omega)) ?_
      obtain ⟨a861, ea861, ta861, ua861⟩ := q859 ((k - 1)) (by omega)
      refine ld_a (v := .ref a861) hx hb hN hP 0 rfl (vp_in_nI (n := (k - 1)) (N := 8) (by omega) (by omega)) (by rw [(show ((nI (k - 1)) : Int32).toNatClampNeg = (k - 1) from nI_clamp (n := (k - 1)) (by omega)), ea861]; rfl) dX9_remember_30 ?_
      refine cs_v (As := [.ref a860, .ref a861]) (rest := []) ⟨hx, hb, hml, hown, hts⟩ (c_X9_copyD hT (a := a860) ta860 (b := a861) ta861 (ne_p ua860 ua861 (by omega)) (by first | omega | decide | assumption) (by first | omega | decide | assumption)) (va_cwS 2 hts gX9_remember_X9_copy rfl rfl rfl hdX9_copy_o ⟨Nat.le_of_ble_eq_true rfl, Nat.le_of_ble_eq_true rfl⟩) hN hE hL rfl rfl hl.1 (Nat.le_of_ble_eq_true rfl) dX9_remember_31 (Nat.zero_le _) (Nat.zero_le _) (fun H1 locs hL hqr862 => ?_)
      obtain ⟨hT1, hF1⟩ := hqr862
      have hP : va_P D vwCl [(f849_11, .inl (cs 6, 8, .inr (.inr (.inr (.inr g859))))), (w, .inr (9, [.int f849_0, .ref f849_1, .int (nI ((κ w).2.2.1)), .int (nI f849_3), .int (nI f849_4), .int f849_5, .int f849_6, .int f849_7, .ref (κ w).2.2.2, .ref f849_9, .ref f849_10, .ref f849_11, .int (nI f849_12), .int f849_13, .int f849_14, .int f849_15, .int f849_16, .ref f849_17]))] _ := hF1.hP (hP.sub [0, 1] rfl) (fa_c ⟨by rw [t849_11.1]; decide, by rw [t849_11.2]; first | decide | (simp; done) | (simp [h15a, h15b, h15c]; done) | (simp; omega)⟩ (fa_c ⟨by rw [hw.1]; decide, by rw [hw.2]; first | decide | (simp; done) | (simp [h15a, h15b, h15c]; done) | (simp; omega)⟩ fa_n))
      have hF := hF.tr (hF1.mono (by simp))
      have hT := hT1
      refine lv_iinc (v := (nI (k + 1))) (lv' := [(1, .int (nI (k + 1))), (0, .ref w)]) hx hb dX9_remember_34 hl (k := 0) rfl (nI_add _ 1) (by decide) rfl (fun ls hl => ?_)
      refine lv_goto (tgt := 11) hx hb dX9_remember_37 (by decide) ?_
      exact ih854 (k + 1) _ _ _ (by show 8 - ((k + 1)) < 8 - k; omega) ⟨(by show 1 ≤ ((k + 1)) ∧ ((k + 1)) ≤ 8; omega), hT, hF, hL, (hP.sub [1] rfl)⟩ (lv_sub hl [0, 1] rfl)
theorem mX9_handleAll_1 : (.fieldLink RX9 18 "OneBeatModel" "data" "[I" : Cond) ∈ wsX9_handleAll := List.mem_of_getElem? (i := 1) (by decide +kernel)
theorem iX9_handleAll_9 : ∀ w ∈ wsX90, w ∈ wsX9_handleAll := fun w h => List.mem_of_mem_drop (List.mem_of_mem_take ((show wsX90 = (wsX9_handleAll.drop 53).take 18 by decide +kernel) ▸ h))
theorem hdX9_handle_v : yX9_handle.cls = RX9 ∧ yX9_handle.cls ≠ "java/lang/invoke/MethodHandle" ∧ yX9_handle.cls ≠ "java/lang/invoke/VarHandle" ∧ (parseMethodDescriptor yX9_handle.desc).map (fun d => d.parameters.length) = some 6 := by decide +kernel
set_option maxHeartbeats 4000000 in
set_option maxRecDepth 100000 in
theorem c_X9_handleAll {l : Launch} {D : va_G} {cs : Nat → ClassId} {B0 T : Nat} {κ : KM} {H0 : Heap} (hT : WT B0 D cs T κ H0) {w : Nat} (hw : T2 κ w 10 12) : KC l yX9_handleAll wsX9_handleAll 5 122 0 0 D cs B0 H0 [.ref w] (Qv (fun H => WT B0 D cs T κ H ∧ Fr B0 [18] κ H0 H)) := by
  refine KC.of cX9_handleAll 5 none (by decide) rfl (Nat.le_of_ble_eq_true rfl) ?_
  intro p e s m below meth c ls hx hb hr hml hown hts hlocks hin hN hE hH0 hl
  have hown : s.vm.findClass RX9 = some m.cls := hown
  have hl : lv_has ls 5 [(0, .ref w)] := hl
  have hL : OkL B0 [] := OkL.nil
  have hF : Fr B0 [18] κ H0 H0 := Fr.rf
  refine lv_aload_n hx hb dX9_handleAll_0 rfl (lv_at hl 0 rfl) ?_
  obtain ⟨hb863, e863, hat863, hk863⟩ := hT.o10 hw.1
  obtain ⟨f863_0, f863_1, f863_3, f863_4, f863_5, f863_6, f863_7, f863_9, f863_10, f863_11, f863_12, f863_13, f863_14, f863_15, f863_16, f863_17, rfl, c863_2, c863_3, c863_4, c863_12, t863_1, t863_8, t863_9, c863_sd, t863_10, t863_11, t863_17⟩ := hk863
  have hP : va_P D vwCl [(w, .inr (9, [.int f863_0, .ref f863_1, .int (nI ((κ w).2.2.1)), .int (nI f863_3), .int (nI f863_4), .int f863_5, .int f863_6, .int f863_7, .ref (κ w).2.2.2, .ref f863_9, .ref f863_10, .ref f863_11, .int (nI f863_12), .int f863_13, .int f863_14, .int f863_15, .int f863_16, .ref f863_17]))] _ := va_P.cons hat863 va_P.nil
  refine va_get (D := D) (ci := 9) (v := .ref (κ w).2.2.2) (C := RX9) (T := TX9) (N := 18) hx hb hts iX9_handleAll_9 hown hN.1 hP 0 rfl rfl 8 (by decide) (hts _ mX9_handleAll_1) (fun _ h9 => h9) rfl dX9_handleAll_1 ?_
  refine lv_iconst (v := 3) hx hb dX9_handleAll_4 (by decide) ?_
  obtain ⟨hb864, e864, hat864, hk864⟩ := hT.o24 t863_8.1
  obtain ⟨g864, rfl, q864⟩ := hk864
  have hP : va_P D vwCl [((κ w).2.2.2, .inl (cs 0, 45783, .inl g864)), (w, .inr (9, [.int f863_0, .ref f863_1, .int (nI ((κ w).2.2.1)), .int (nI f863_3), .int (nI f863_4), .int f863_5, .int f863_6, .int f863_7, .ref (κ w).2.2.2, .ref f863_9, .ref f863_10, .ref f863_11, .int (nI f863_12), .int f863_13, .int f863_14, .int f863_15, .int f863_16, .ref f863_17]))] _ := va_P.cons hat864 hP
  refine ld_i (v := (g864 3)) hx hb hN hP 0 rfl (vp_in_nI (n := 3) (N := 45783) (by omega) (by omega)) (by rw [(show (3 : Int32).toNatClampNeg = 3 from nI_clamp (n := 3) (by omega))]) dX9_handleAll_5 ?_
  obtain ⟨n865, hn865, en865⟩ := q864.2.2.2.1
  refine tp_i (nI n865) en865 ?_
  refine lv_istore_n (lv' := [(1, .int (nI n865)), (0, .ref w)]) hx hb dX9_handleAll_6 rfl hl (by decide) rfl (fun ls hl => ?_)
  obtain ⟨n9, en9⟩ : ∃ n9, n9 = n865 := ⟨_, rfl⟩
  rw [← en9] at hl
  have hl : lv_has ls 5 [(1, .int (nI n9)), (0, .ref w)] := hl
  refine lv_iconst (v := 0) hx hb dX9_handleAll_7 (by decide) ?_
  refine lv_istore_n (lv' := [(2, .int 0), (1, .int (nI n9)), (0, .ref w)]) hx hb dX9_handleAll_8 rfl hl (by decide) rfl (fun ls hl => ?_)
  refine lp_m (α := Nat) (nL := 5) (fun a9 => n9 - a9) (fun a9 H9 l9 => (a9 ≤ n9) ∧ (WT B0 D cs T κ H9) ∧ (Fr B0 [18] κ H0 H9) ∧ (OkL B0 l9) ∧ (va_P D vwCl [(w, .inr (9, [.int f863_0, .ref f863_1, .int (nI ((κ w).2.2.1)), .int (nI f863_3), .int (nI f863_4), .int f863_5, .int f863_6, .int f863_7, .ref (κ w).2.2.2, .ref f863_9, .ref f863_10, .ref f863_11, .int (nI f863_12), .int f863_13, .int f863_14, .int f863_15, .int f863_16, .ref f863_17]))] H9)) (fun a9 => [(2, .int (nI a9)), (0, .ref w), (1, .int (nI n9))]) ?_ 0 _ _ _ ⟨(by show (0) ≤ n9; omega), hT, hF, hL, (hP.sub [1] rfl)⟩ (lv_sub hl [0, 2, 1] rfl)
  rintro k H locs ls ih866 ⟨hk, hT, hF, hL, hP⟩ hl
  have hl : lv_has ls 5 [(2, .int (nI k)), (0, .ref w), (1, .int (nI n9))] := hl
  have hk : k ≤ n9 := hk
  refine lv_iload_n hx hb dX9_handleAll_9 rfl (lv_at hl 0 rfl) ?_
  refine lv_iload_n hx hb dX9_handleAll_10 rfl (lv_at hl 2 rfl) ?_
  refine lv_icmp_ge (tgt := 102) hx hb dX9_handleAll_11 (by decide) (fun c867 => ?_) (fun c867 => ?_)
  · have c867 : n9 ≤ k := (nI_leI (a := n9) (b := k) (by omega) (by omega)).mp c867
    refine lv_iconst (v := 0) hx hb dX9_handleAll_102 (by decide) ?_
    refine lv_istore_n (lv' := [(2, .int 0), (0, .ref w), (1, .int (nI n9))]) hx hb dX9_handleAll_103 rfl hl (by decide) rfl (fun ls hl => ?_)
    refine lv_iconst (v := 0) hx hb dX9_handleAll_104 (by decide) ?_
    refine lv_istore_n (lv' := [(3, .int 0), (2, .int 0), (0, .ref w), (1, .int (nI n9))]) hx hb dX9_handleAll_105 rfl hl (by decide) rfl (fun ls hl => ?_)
    refine lp_m (α := Nat × Nat) (nL := 5) (fun a9 => 7400 - a9.1) (fun a9 H9 l9 => (a9.2 ≤ a9.1 ∧ a9.1 ≤ 7400) ∧ (WT B0 D cs T κ H9) ∧ (Fr B0 [18] κ H0 H9) ∧ (OkL B0 l9) ∧ (va_P D vwCl [(w, .inr (9, [.int f863_0, .ref f863_1, .int (nI ((κ w).2.2.1)), .int (nI f863_3), .int (nI f863_4), .int f863_5, .int f863_6, .int f863_7, .ref (κ w).2.2.2, .ref f863_9, .ref f863_10, .ref f863_11, .int (nI f863_12), .int f863_13, .int f863_14, .int f863_15, .int f863_16, .ref f863_17]))] H9)) (fun a9 => [(3, .int (nI a9.1)), (2, .int (nI a9.2)), (0, .ref w)]) ?_ (0, 0) _ _ _ ⟨(by show (0) ≤ (0) ∧ (0) ≤ 7400; omega), hT, hF, hL, (hP.sub [0] rfl)⟩ (lv_sub hl [0, 1, 2] rfl)
    rintro ⟨k, u⟩ H locs ls ih868 ⟨hk, hT, hF, hL, hP⟩ hl
    have hl : lv_has ls 5 [(3, .int (nI k)), (2, .int (nI u)), (0, .ref w)] := hl
    have hk : u ≤ k ∧ k ≤ 7400 := hk
    refine lv_iload_n hx hb dX9_handleAll_106 rfl (lv_at hl 0 rfl) ?_
    refine lv_aload_n hx hb dX9_handleAll_107 rfl (lv_at hl 2 rfl) ?_
    refine va_get (D := D) (ci := 9) (v := .ref (κ w).2.2.2) (C := RX9) (T := TX9) (N := 18) hx hb hts iX9_handleAll_9 hown hN.1 hP 0 rfl rfl 8 (by decide) (hts _ mX9_handleAll_1) (fun _ h9 => h9) rfl dX9_handleAll_108 ?_
    refine lv_iconst (v := 3) hx hb dX9_handleAll_111 (by decide) ?_
    obtain ⟨hb869, e869, hat869, hk869⟩ := hT.o24 t863_8.1
    obtain ⟨g869, rfl, q869⟩ := hk869
    have hP : va_P D vwCl [((κ w).2.2.2, .inl (cs 0, 45783, .inl g869)), (w, .inr (9, [.int f863_0, .ref f863_1, .int (nI ((κ w).2.2.1)), .int (nI f863_3), .int (nI f863_4), .int f863_5, .int f863_6, .int f863_7, .ref (κ w).2.2.2, .ref f863_9, .ref f863_10, .ref f863_11, .int (nI f863_12), .int f863_13, .int f863_14, .int f863_15, .int f863_16, .ref f863_17]))] _ := va_P.cons hat869 hP
    refine ld_i (v := (g869 3)) hx hb hN hP 0 rfl (vp_in_nI (n := 3) (N := 45783) (by omega) (by omega)) (by rw [(show (3 : Int32).toNatClampNeg = 3 from nI_clamp (n := 3) (by omega))]) dX9_handleAll_112 ?_
    obtain ⟨n870, hn870, en870⟩ := q869.2.2.2.1
    refine tp_i (nI n870) en870 ?_
    refine lv_icmp_ge (tgt := 200) hx hb dX9_handleAll_113 (by decide) (fun c871 => ?_) (fun c871 => ?_)
    · have c871 : n870 ≤ k := (nI_leI (a := n870) (b := k) (by omega) (by omega)).mp c871
      refine lv_aload_n hx hb dX9_handleAll_200 rfl (lv_at hl 2 rfl) ?_
      refine va_get (D := D) (ci := 9) (v := .ref (κ w).2.2.2) (C := RX9) (T := TX9) (N := 18) hx hb hts iX9_handleAll_9 hown hN.1 hP 1 rfl rfl 8 (by decide) (hts _ mX9_handleAll_1) (fun _ h9 => h9) rfl dX9_handleAll_201 ?_
      refine lv_iconst (v := 3) hx hb dX9_handleAll_204 (by decide) ?_
      refine lv_iload_n hx hb dX9_handleAll_205 rfl (lv_at hl 1 rfl) ?_
      have hB : Bx B0 D _ [((κ w).2.2.2, .inl (cs 0, 45783, .inl g869)), (w, .inr (9, [.int f863_0, .ref f863_1, .int (nI ((κ w).2.2.1)), .int (nI f863_3), .int (nI f863_4), .int f863_5, .int f863_6, .int f863_7, .ref (κ w).2.2.2, .ref f863_9, .ref f863_10, .ref f863_11, .int (nI f863_12), .int f863_13, .int f863_14, .int f863_15, .int f863_16, .ref f863_17]))] [] _ _ := Bx.of (fun a => (κ a).1) hL hP (fa_c hb869 (fa_c hb863 fa_n)) (by simp only [List.map_cons, List.map_nil, t863_8.1, hw.1]; decide)
      refine b_i hx hb hN hB 0 rfl (show vp_in (3 : Int32) 45783 from vp_in_nI (n := 3) (N := 45783) (by omega) (by omega)) (.inl rfl) dX9_handleAll_206 (fun H locs hB => ?_)
      rw [(show (3 : Int32).toNatClampNeg = 3 from nI_clamp (n := 3) (by omega))] at hB
      have hB : Bx B0 D _ [((κ w).2.2.2, .inl (cs 0, 45783, .inl (upd g869 3 (nI u)))), (w, .inr (9, [.int f863_0, .ref f863_1, .int (nI ((κ w).2.2.1)), .int (nI f863_3), .int (nI f863_4), .int f863_5, .int f863_6, .int f863_7, .ref (κ w).2.2.2, .ref f863_9, .ref f863_10, .ref f863_11, .int (nI f863_12), .int f863_13, .int f863_14, .int f863_15, .int f863_16, .ref f863_17]))] [(κ w).2.2.2] _ _ := hB
      have z872 := DOK.s3 q869 (n := u) (by omega)
      have hT : WT B0 D cs T κ _ := hT.close hB ⟨⟨0, _, rfl, ok_24 t863_8.1 ⟨_, rfl, z872⟩⟩, trivial⟩
      have hF : Fr B0 [18] κ H0 _ := hF.close hB (fa_c (by simp [t863_8.2]) fa_n)
      have hL : OkL B0 _ := hB.2.2.2.2.2
      have hP : va_P D vwCl [((κ w).2.2.2, .inl (cs 0, 45783, .inl (upd g869 3 (nI u)))), (w, .inr (9, [.int f863_0, .ref f863_1, .int (nI ((κ w).2.2.1)), .int (nI f863_3), .int (nI f863_4), .int f863_5, .int f863_6, .int f863_7, .ref (κ w).2.2.2, .ref f863_9, .ref f863_10, .ref f863_11, .int (nI f863_12), .int f863_13, .int f863_14, .int f863_15, .int f863_16, .ref f863_17]))] _ := hB.1
      exact en_v hx hb hr hlocks hL (Nat.zero_le _) (Nat.zero_le _) dX9_handleAll_207 (⟨hT, hF⟩)
    · have c871 : ¬ n870 ≤ k := fun h9 => c871 ((nI_leI (a := n870) (b := k) (by omega) (by omega)).mpr h9)
      refine lv_aload_n hx hb dX9_handleAll_116 rfl (lv_at hl 2 rfl) ?_
      refine va_get (D := D) (ci := 9) (v := .ref (κ w).2.2.2) (C := RX9) (T := TX9) (N := 18) hx hb hts iX9_handleAll_9 hown hN.1 hP 1 rfl rfl 8 (by decide) (hts _ mX9_handleAll_1) (fun _ h9 => h9) rfl dX9_handleAll_117 ?_
      refine lv_sipush (v := 1383) hx hb dX9_handleAll_120 (by decide) ?_
      refine lv_bipush (v := 6) hx hb dX9_handleAll_123 (by decide) ?_
      refine lv_iload_n hx hb dX9_handleAll_125 rfl (lv_at hl 0 rfl) ?_
      refine lv_imul hx hb dX9_handleAll_126 ?_
      refine tp_i (nI (6 * k)) (nI_mul 6 k) ?_
      refine lv_iadd hx hb dX9_handleAll_127 ?_
      refine tp_i (nI (1383 + (6 * k))) (nI_add 1383 (6 * k)) ?_
      refine lv_iconst (v := 1) hx hb dX9_handleAll_128 (by decide) ?_
      refine lv_iadd hx hb dX9_handleAll_129 ?_
      refine tp_i (nI ((1383 + (6 * k)) + 1)) (nI_add (1383 + (6 * k)) 1) ?_
      refine ld_i (v := (g869 ((1383 + (6 * k)) + 1))) hx hb hN hP 0 rfl (vp_in_nI (n := ((1383 + (6 * k)) + 1)) (N := 45783) (by omega) (by omega)) (by rw [(show ((nI ((1383 + (6 * k)) + 1)) : Int32).toNatClampNeg = ((1383 + (6 * k)) + 1) from nI_clamp (n := ((1383 + (6 * k)) + 1)) (by omega))]) dX9_handleAll_130 ?_
      refine gn_i (fun x873 => ?_)
      refine lv_aload_n hx hb dX9_handleAll_131 rfl (lv_at hl 2 rfl) ?_
      refine va_get (D := D) (ci := 9) (v := .ref (κ w).2.2.2) (C := RX9) (T := TX9) (N := 18) hx hb hts iX9_handleAll_9 hown hN.1 hP 1 rfl rfl 8 (by decide) (hts _ mX9_handleAll_1) (fun _ h9 => h9) rfl dX9_handleAll_132 ?_
      refine lv_iconst (v := 1) hx hb dX9_handleAll_135 (by decide) ?_
      refine ld_i (v := (g869 1)) hx hb hN hP 0 rfl (vp_in_nI (n := 1) (N := 45783) (by omega) (by omega)) (by rw [(show (1 : Int32).toNatClampNeg = 1 from nI_clamp (n := 1) (by omega))]) dX9_handleAll_136 ?_
      refine gn_i (fun x874 => ?_)
      refine lv_icmp_ne (tgt := 143) hx hb dX9_handleAll_137 (by decide) (fun c875 => ?_) (fun c875 => ?_)
      · refine lv_iconst (v := 0) hx hb dX9_handleAll_143 (by decide) ?_
        refine lv_istore (lv' := [(4, .int 0), (3, .int (nI k)), (2, .int (nI u)), (0, .ref w)]) hx hb dX9_handleAll_144 hl (by decide) rfl (fun ls hl => ?_)
        refine lp_m (α := Nat) (nL := 5) (fun a9 => 6 - a9) (fun a9 H9 l9 => (a9 ≤ 6) ∧ (WT B0 D cs T κ H9) ∧ (Fr B0 [18] κ H0 H9) ∧ (OkL B0 l9) ∧ (va_P D vwCl [(w, .inr (9, [.int f863_0, .ref f863_1, .int (nI ((κ w).2.2.1)), .int (nI f863_3), .int (nI f863_4), .int f863_5, .int f863_6, .int f863_7, .ref (κ w).2.2.2, .ref f863_9, .ref f863_10, .ref f863_11, .int (nI f863_12), .int f863_13, .int f863_14, .int f863_15, .int f863_16, .ref f863_17]))] H9)) (fun a9 => [(4, .int (nI a9)), (0, .ref w), (2, .int (nI u)), (3, .int (nI k))]) ?_ 0 _ _ _ ⟨(by show (0) ≤ 6; omega), hT, hF, hL, (hP.sub [1] rfl)⟩ (lv_sub hl [0, 3, 2, 1] rfl)
        rintro i H locs ls ih876 ⟨hi, hT, hF, hL, hP⟩ hl
        have hl : lv_has ls 5 [(4, .int (nI i)), (0, .ref w), (2, .int (nI u)), (3, .int (nI k))] := hl
        have hi : i ≤ 6 := hi
        refine lv_iload hx hb dX9_handleAll_146 (lv_at hl 0 rfl) ?_
        refine lv_bipush (v := 6) hx hb dX9_handleAll_148 (by decide) ?_
        refine lv_icmp_ge (tgt := 191) hx hb dX9_handleAll_150 (by decide) (fun c877 => ?_) (fun c877 => ?_)
        · have c877 : 6 ≤ i := (nI_leI (a := 6) (b := i) (by omega) (by omega)).mp c877
          refine lv_iinc (v := (nI (u + 1))) (lv' := [(2, .int (nI (u + 1))), (4, .int (nI i)), (0, .ref w), (3, .int (nI k))]) hx hb dX9_handleAll_191 hl (k := 2) rfl (nI_add _ 1) (by decide) rfl (fun ls hl => ?_)
          refine lv_iinc (v := (nI (k + 1))) (lv' := [(3, .int (nI (k + 1))), (2, .int (nI (u + 1))), (4, .int (nI i)), (0, .ref w)]) hx hb dX9_handleAll_194 hl (k := 3) rfl (nI_add _ 1) (by decide) rfl (fun ls hl => ?_)
          refine lv_goto (tgt := 106) hx hb dX9_handleAll_197 (by decide) ?_
          exact ih868 ((k + 1), (u + 1)) _ _ _ (by show 7400 - ((k + 1)) < 7400 - k; omega) ⟨(by show ((u + 1)) ≤ ((k + 1)) ∧ ((k + 1)) ≤ 7400; omega), hT, hF, hL, (hP.sub [0] rfl)⟩ (lv_sub hl [0, 1, 3] rfl)
        · have c877 : ¬ 6 ≤ i := fun h9 => c877 ((nI_leI (a := 6) (b := i) (by omega) (by omega)).mpr h9)
          refine lv_aload_n hx hb dX9_handleAll_153 rfl (lv_at hl 1 rfl) ?_
          refine va_get (D := D) (ci := 9) (v := .ref (κ w).2.2.2) (C := RX9) (T := TX9) (N := 18) hx hb hts iX9_handleAll_9 hown hN.1 hP 0 rfl rfl 8 (by decide) (hts _ mX9_handleAll_1) (fun _ h9 => h9) rfl dX9_handleAll_154 ?_
          refine lv_sipush (v := 1383) hx hb dX9_handleAll_157 (by decide) ?_
          refine lv_bipush (v := 6) hx hb dX9_handleAll_160 (by decide) ?_
          refine lv_iload_n hx hb dX9_handleAll_162 rfl (lv_at hl 2 rfl) ?_
          refine lv_imul hx hb dX9_handleAll_163 ?_
          refine tp_i (nI (6 * u)) (nI_mul 6 u) ?_
          refine lv_iadd hx hb dX9_handleAll_164 ?_
          refine tp_i (nI (1383 + (6 * u))) (nI_add 1383 (6 * u)) ?_
          refine lv_iload hx hb dX9_handleAll_165 (lv_at hl 0 rfl) ?_
          refine lv_iadd hx hb dX9_handleAll_167 ?_
          refine tp_i (nI ((1383 + (6 * u)) + i)) (nI_add (1383 + (6 * u)) i) ?_
          refine lv_aload_n hx hb dX9_handleAll_168 rfl (lv_at hl 1 rfl) ?_
          refine va_get (D := D) (ci := 9) (v := .ref (κ w).2.2.2) (C := RX9) (T := TX9) (N := 18) hx hb hts iX9_handleAll_9 hown hN.1 hP 0 rfl rfl 8 (by decide) (hts _ mX9_handleAll_1) (fun _ h9 => h9) rfl dX9_handleAll_169 ?_
          refine lv_sipush (v := 1383) hx hb dX9_handleAll_172 (by decide) ?_
          refine lv_bipush (v := 6) hx hb dX9_handleAll_175 (by decide) ?_
          refine lv_iload_n hx hb dX9_handleAll_177 rfl (lv_at hl 3 rfl) ?_
          refine lv_imul hx hb dX9_handleAll_178 ?_
          refine tp_i (nI (6 * k)) (nI_mul 6 k) ?_
          refine lv_iadd hx hb dX9_handleAll_179 ?_
          refine tp_i (nI (1383 + (6 * k))) (nI_add 1383 (6 * k)) ?_
          refine lv_iload hx hb dX9_handleAll_180 (lv_at hl 0 rfl) ?_
          refine lv_iadd hx hb dX9_handleAll_182 ?_
          refine tp_i (nI ((1383 + (6 * k)) + i)) (nI_add (1383 + (6 * k)) i) ?_
          obtain ⟨hb878, e878, hat878, hk878⟩ := hT.o24 t863_8.1
          obtain ⟨g878, rfl, q878⟩ := hk878
          have hP : va_P D vwCl [((κ w).2.2.2, .inl (cs 0, 45783, .inl g878)), (w, .inr (9, [.int f863_0, .ref f863_1, .int (nI ((κ w).2.2.1)), .int (nI f863_3), .int (nI f863_4), .int f863_5, .int f863_6, .int f863_7, .ref (κ w).2.2.2, .ref f863_9, .ref f863_10, .ref f863_11, .int (nI f863_12), .int f863_13, .int f863_14, .int f863_15, .int f863_16, .ref f863_17]))] _ := va_P.cons hat878 hP
          refine ld_i (v := (g878 ((1383 + (6 * k)) + i))) hx hb hN hP 0 rfl (vp_in_nI (n := ((1383 + (6 * k)) + i)) (N := 45783) (by omega) (by omega)) (by rw [(show ((nI ((1383 + (6 * k)) + i)) : Int32).toNatClampNeg = ((1383 + (6 * k)) + i) from nI_clamp (n := ((1383 + (6 * k)) + i)) (by omega))]) dX9_handleAll_183 ?_
          have hB : Bx B0 D _ [((κ w).2.2.2, .inl (cs 0, 45783, .inl g878)), (w, .inr (9, [.int f863_0, .ref f863_1, .int (nI ((κ w).2.2.1)), .int (nI f863_3), .int (nI f863_4), .int f863_5, .int f863_6, .int f863_7, .ref (κ w).2.2.2, .ref f863_9, .ref f863_10, .ref f863_11, .int (nI f863_12), .int f863_13, .int f863_14, .int f863_15, .int f863_16, .ref f863_17]))] [] _ _ := Bx.of (fun a => (κ a).1) hL hP (fa_c hb878 (fa_c hb863 fa_n)) (by simp only [List.map_cons, List.map_nil, t863_8.1, hw.1]; decide)
          refine b_i hx hb hN hB 0 rfl (vp_in_nI (n := ((1383 + (6 * u)) + i)) (N := 45783) (by omega) (by omega)) (.inl rfl) dX9_handleAll_184 (fun H locs hB => ?_)
          rw [(show ((nI ((1383 + (6 * u)) + i)) : Int32).toNatClampNeg = ((1383 + (6 * u)) + i) from nI_clamp (n := ((1383 + (6 * u)) + i)) (by omega))] at hB
          have hB : Bx B0 D _ [((κ w).2.2.2, .inl (cs 0, 45783, .inl (upd g878 ((1383 + (6 * u)) + i) (g878 ((1383 + (6 * k)) + i))))), (w, .inr (9, [.int f863_0, .ref f863_1, .int (nI ((κ w).2.2.1)), .int (nI f863_3), .int (nI f863_4), .int f863_5, .int f863_6, .int f863_7, .ref (κ w).2.2.2, .ref f863_9, .ref f863_10, .ref f863_11, .int (nI f863_12), .int f863_13, .int f863_14, .int f863_15, .int f863_16, .ref f863_17]))] [(κ w).2.2.2] _ _ := hB
          have z879 := DOK.sm q878 (k := ((1383 + (6 * u)) + i)) (x := (g878 ((1383 + (6 * k)) + i))) (by omega) (fun j9 hj9 e9 => by have h9 : i = 0 := (by omega); subst h9; exact q878.2.2.2.2.1 k (by omega))
          refine lv_iinc (v := (nI (i + 1))) (lv' := [(4, .int (nI (i + 1))), (0, .ref w), (2, .int (nI u)), (3, .int (nI k))]) hx hb dX9_handleAll_185 hl (k := 0) rfl (nI_add _ 1) (by decide) rfl (fun ls hl => ?_)
          refine lv_goto (tgt := 146) hx hb dX9_handleAll_188 (by decide) ?_
          have hT : WT B0 D cs T κ _ := hT.close hB ⟨⟨0, _, rfl, ok_24 t863_8.1 ⟨_, rfl, z879⟩⟩, trivial⟩
          have hF : Fr B0 [18] κ H0 _ := hF.close hB (fa_c (by simp [t863_8.2]) fa_n)
          have hL : OkL B0 _ := hB.2.2.2.2.2
          have hP : va_P D vwCl [((κ w).2.2.2, .inl (cs 0, 45783, .inl (upd g878 ((1383 + (6 * u)) + i) (g878 ((1383 + (6 * k)) + i))))), (w, .inr (9, [.int f863_0, .ref f863_1, .int (nI ((κ w).2.2.1)), .int (nI f863_3), .int (nI f863_4), .int f863_5, .int f863_6, .int f863_7, .ref (κ w).2.2.2, .ref f863_9, .ref f863_10, .ref f863_11, .int (nI f863_12), .int f863_13, .int f863_14, .int f863_15, .int f863_16, .ref f863_17]))] _ := hB.1
          exact ih876 (i + 1) _ _ _ (by show 6 - ((i + 1)) < 6 - i; omega) ⟨(by show ((i + 1)) ≤ 6; omega), hT, hF, hL, (hP.sub [1] rfl)⟩ (lv_sub hl [0, 1, 2, 3] rfl)
      · refine lv_goto (tgt := 194) hx hb dX9_handleAll_140 (by decide) ?_
        refine lv_iinc (v := (nI (k + 1))) (lv' := [(3, .int (nI (k + 1))), (2, .int (nI u)), (0, .ref w)]) hx hb dX9_handleAll_194 hl (k := 0) rfl (nI_add _ 1) (by decide) rfl (fun ls hl => ?_)
        refine lv_goto (tgt := 106) hx hb dX9_handleAll_197 (by decide) ?_
        exact ih868 ((k + 1), u) _ _ _ (by show 7400 - ((k + 1)) < 7400 - k; omega) ⟨(by show (u) ≤ ((k + 1)) ∧ ((k + 1)) ≤ 7400; omega), hT, hF, hL, (hP.sub [1] rfl)⟩ (lv_sub hl [0, 1, 2] rfl)
  · have c867 : ¬ n9 ≤ k := fun h9 => c867 ((nI_leI (a := n9) (b := k) (by omega) (by omega)).mpr h9)
    refine lv_sipush (v := 1383) hx hb dX9_handleAll_14 (by decide) ?_
    refine lv_bipush (v := 6) hx hb dX9_handleAll_17 (by decide) ?_
    refine lv_iload_n hx hb dX9_handleAll_19 rfl (lv_at hl 0 rfl) ?_
    refine lv_imul hx hb dX9_handleAll_20 ?_
    refine tp_i (nI (6 * k)) (nI_mul 6 k) ?_
    refine lv_iadd hx hb dX9_handleAll_21 ?_
    refine tp_i (nI (1383 + (6 * k))) (nI_add 1383 (6 * k)) ?_
    refine lv_istore_n (lv' := [(3, .int (nI (1383 + (6 * k)))), (2, .int (nI k)), (0, .ref w), (1, .int (nI n9))]) hx hb dX9_handleAll_22 rfl hl (by decide) rfl (fun ls hl => ?_)
    refine lv_aload_n hx hb dX9_handleAll_23 rfl (lv_at hl 2 rfl) ?_
    refine va_get (D := D) (ci := 9) (v := .ref (κ w).2.2.2) (C := RX9) (T := TX9) (N := 18) hx hb hts iX9_handleAll_9 hown hN.1 hP 0 rfl rfl 8 (by decide) (hts _ mX9_handleAll_1) (fun _ h9 => h9) rfl dX9_handleAll_24 ?_
    refine lv_iload_n hx hb dX9_handleAll_27 rfl (lv_at hl 0 rfl) ?_
    refine lv_iconst (v := 0) hx hb dX9_handleAll_28 (by decide) ?_
    refine lv_iadd hx hb dX9_handleAll_29 ?_
    refine tp_i (nI ((1383 + (6 * k)) + 0)) (nI_add (1383 + (6 * k)) 0) ?_
    obtain ⟨hb880, e880, hat880, hk880⟩ := hT.o24 t863_8.1
    obtain ⟨g880, rfl, q880⟩ := hk880
    have hP : va_P D vwCl [((κ w).2.2.2, .inl (cs 0, 45783, .inl g880)), (w, .inr (9, [.int f863_0, .ref f863_1, .int (nI ((κ w).2.2.1)), .int (nI f863_3), .int (nI f863_4), .int f863_5, .int f863_6, .int f863_7, .ref (κ w).2.2.2, .ref f863_9, .ref f863_10, .ref f863_11, .int (nI f863_12), .int f863_13, .int f863_14, .int f863_15, .int f863_16, .ref f863_17]))] _ := va_P.cons hat880 hP
    refine ld_i (v := (g880 ((1383 + (6 * k)) + 0))) hx hb hN hP 0 rfl (vp_in_nI (n := ((1383 + (6 * k)) + 0)) (N := 45783) (by omega) (by omega)) (by rw [(show ((nI ((1383 + (6 * k)) + 0)) : Int32).toNatClampNeg = ((1383 + (6 * k)) + 0) from nI_clamp (n := ((1383 + (6 * k)) + 0)) (by omega))]) dX9_handleAll_30 ?_
    obtain ⟨h881, hh881, eh881⟩ := q880.2.2.2.2.1 k (by omega)
    refine tp_i (nI h881) eh881 ?_
    refine lv_istore (lv' := [(4, .int (nI h881)), (3, .int (nI (1383 + (6 * k)))), (2, .int (nI k)), (0, .ref w), (1, .int (nI n9))]) hx hb dX9_handleAll_31 hl (by decide) rfl (fun ls hl => ?_)
    refine lv_aload_n hx hb dX9_handleAll_33 rfl (lv_at hl 3 rfl) ?_
    refine va_get (D := D) (ci := 9) (v := .ref (κ w).2.2.2) (C := RX9) (T := TX9) (N := 18) hx hb hts iX9_handleAll_9 hown hN.1 hP 1 rfl rfl 8 (by decide) (hts _ mX9_handleAll_1) (fun _ h9 => h9) rfl dX9_handleAll_34 ?_
    refine lv_iload_n hx hb dX9_handleAll_37 rfl (lv_at hl 1 rfl) ?_
    refine lv_iconst (v := 1) hx hb dX9_handleAll_38 (by decide) ?_
    refine lv_iadd hx hb dX9_handleAll_39 ?_
    refine tp_i (nI ((1383 + (6 * k)) + 1)) (nI_add (1383 + (6 * k)) 1) ?_
    refine ld_i (v := (g880 ((1383 + (6 * k)) + 1))) hx hb hN hP 0 rfl (vp_in_nI (n := ((1383 + (6 * k)) + 1)) (N := 45783) (by omega) (by omega)) (by rw [(show ((nI ((1383 + (6 * k)) + 1)) : Int32).toNatClampNeg = ((1383 + (6 * k)) + 1) from nI_clamp (n := ((1383 + (6 * k)) + 1)) (by omega))]) dX9_handleAll_40 ?_
    refine gn_i (fun x882 => ?_)
    refine lv_aload_n hx hb dX9_handleAll_41 rfl (lv_at hl 3 rfl) ?_
    refine va_get (D := D) (ci := 9) (v := .ref (κ w).2.2.2) (C := RX9) (T := TX9) (N := 18) hx hb hts iX9_handleAll_9 hown hN.1 hP 1 rfl rfl 8 (by decide) (hts _ mX9_handleAll_1) (fun _ h9 => h9) rfl dX9_handleAll_42 ?_
    refine lv_iconst (v := 1) hx hb dX9_handleAll_45 (by decide) ?_
    refine ld_i (v := (g880 1)) hx hb hN hP 0 rfl (vp_in_nI (n := 1) (N := 45783) (by omega) (by omega)) (by rw [(show (1 : Int32).toNatClampNeg = 1 from nI_clamp (n := 1) (by omega))]) dX9_handleAll_46 ?_
    refine gn_i (fun x883 => ?_)
    refine lv_icmp_ne (tgt := 96) hx hb dX9_handleAll_47 (by decide) (fun c884 => ?_) (fun c884 => ?_)
    · refine lv_iinc (v := (nI (k + 1))) (lv' := [(2, .int (nI (k + 1))), (4, .int (nI h881)), (3, .int (nI (1383 + (6 * k)))), (0, .ref w), (1, .int (nI n9))]) hx hb dX9_handleAll_96 hl (k := 2) rfl (nI_add _ 1) (by decide) rfl (fun ls hl => ?_)
      refine lv_goto (tgt := 9) hx hb dX9_handleAll_99 (by decide) ?_
      exact ih866 (k + 1) _ _ _ (by show n9 - ((k + 1)) < n9 - k; omega) ⟨(by show ((k + 1)) ≤ n9; omega), hT, hF, hL, (hP.sub [1] rfl)⟩ (lv_sub hl [0, 3, 4] rfl)
    · refine lv_aload_n hx hb dX9_handleAll_50 rfl (lv_at hl 3 rfl) ?_
      refine lv_iload hx hb dX9_handleAll_51 (lv_at hl 0 rfl) ?_
      refine lv_bipush (v := 8) hx hb dX9_handleAll_53 (by decide) ?_
      refine lv_irem hx hb dX9_handleAll_55 (by decide) ?_
      refine tp_i (nI (h881 % 8)) (nI_rem (a := h881) (d := 8) (by omega) (by decide) (by decide)) ?_
      refine lv_iload hx hb dX9_handleAll_56 (lv_at hl 0 rfl) ?_
      refine lv_bipush (v := 8) hx hb dX9_handleAll_58 (by decide) ?_
      refine lv_idiv hx hb dX9_handleAll_60 (by decide) ?_
      refine tp_i (nI (h881 / 8)) (nI_div (a := h881) (d := 8) (by omega) (by decide) (by decide)) ?_
      refine lv_bipush (v := 8) hx hb dX9_handleAll_61 (by decide) ?_
      refine lv_irem hx hb dX9_handleAll_63 (by decide) ?_
      refine tp_i (nI ((h881 / 8) % 8)) (nI_rem (a := (h881 / 8)) (d := 8) (by omega) (by decide) (by decide)) ?_
      refine lv_iload hx hb dX9_handleAll_64 (lv_at hl 0 rfl) ?_
      refine lv_bipush (v := 64) hx hb dX9_handleAll_66 (by decide) ?_
      refine lv_idiv hx hb dX9_handleAll_68 (by decide) ?_
      refine tp_i (nI (h881 / 64)) (nI_div (a := h881) (d := 64) (by omega) (by decide) (by decide)) ?_
      refine lv_aload_n hx hb dX9_handleAll_69 rfl (lv_at hl 3 rfl) ?_
      refine va_get (D := D) (ci := 9) (v := .ref (κ w).2.2.2) (C := RX9) (T := TX9) (N := 18) hx hb hts iX9_handleAll_9 hown hN.1 hP 1 rfl rfl 8 (by decide) (hts _ mX9_handleAll_1) (fun _ h9 => h9) rfl dX9_handleAll_70 ?_
      refine lv_iload_n hx hb dX9_handleAll_73 rfl (lv_at hl 1 rfl) ?_
      refine lv_iconst (v := 3) hx hb dX9_handleAll_74 (by decide) ?_
      refine lv_iadd hx hb dX9_handleAll_75 ?_
      refine tp_i (nI ((1383 + (6 * k)) + 3)) (nI_add (1383 + (6 * k)) 3) ?_
      refine ld_i (v := (g880 ((1383 + (6 * k)) + 3))) hx hb hN hP 0 rfl (vp_in_nI (n := ((1383 + (6 * k)) + 3)) (N := 45783) (by omega) (by omega)) (by rw [(show ((nI ((1383 + (6 * k)) + 3)) : Int32).toNatClampNeg = ((1383 + (6 * k)) + 3) from nI_clamp (n := ((1383 + (6 * k)) + 3)) (by omega))]) dX9_handleAll_76 ?_
      refine gn_i (fun x885 => ?_)
      refine lv_aload_n hx hb dX9_handleAll_77 rfl (lv_at hl 3 rfl) ?_
      refine va_get (D := D) (ci := 9) (v := .ref (κ w).2.2.2) (C := RX9) (T := TX9) (N := 18) hx hb hts iX9_handleAll_9 hown hN.1 hP 1 rfl rfl 8 (by decide) (hts _ mX9_handleAll_1) (fun _ h9 => h9) rfl dX9_handleAll_78 ?_
      refine lv_iload_n hx hb dX9_handleAll_81 rfl (lv_at hl 1 rfl) ?_
      refine lv_iconst (v := 4) hx hb dX9_handleAll_82 (by decide) ?_
      refine lv_iadd hx hb dX9_handleAll_83 ?_
      refine tp_i (nI ((1383 + (6 * k)) + 4)) (nI_add (1383 + (6 * k)) 4) ?_
      refine ld_i (v := (g880 ((1383 + (6 * k)) + 4))) hx hb hN hP 0 rfl (vp_in_nI (n := ((1383 + (6 * k)) + 4)) (N := 45783) (by omega) (by omega)) (by rw [(show ((nI ((1383 + (6 * k)) + 4)) : Int32).toNatClampNeg = ((1383 + (6 * k)) + 4) from nI_clamp (n := ((1383 + (6 * k)) + 4)) (by omega))]) dX9_handleAll_84 ?_
      refine gn_i (fun x886 => ?_)
      refine lv_aload_n hx hb dX9_handleAll_85 rfl (lv_at hl 3 rfl) ?_
      refine va_get (D := D) (ci := 9) (v := .ref (κ w).2.2.2) (C := RX9) (T := TX9) (N := 18) hx hb hts iX9_handleAll_9 hown hN.1 hP 1 rfl rfl 8 (by decide) (hts _ mX9_handleAll_1) (fun _ h9 => h9) rfl dX9_handleAll_86 ?_
      refine lv_iload_n hx hb dX9_handleAll_89 rfl (lv_at hl 1 rfl) ?_
      refine lv_iconst (v := 5) hx hb dX9_handleAll_90 (by decide) ?_
      refine lv_iadd hx hb dX9_handleAll_91 ?_
      refine tp_i (nI ((1383 + (6 * k)) + 5)) (nI_add (1383 + (6 * k)) 5) ?_
      refine ld_i (v := (g880 ((1383 + (6 * k)) + 5))) hx hb hN hP 0 rfl (vp_in_nI (n := ((1383 + (6 * k)) + 5)) (N := 45783) (by omega) (by omega)) (by rw [(show ((nI ((1383 + (6 * k)) + 5)) : Int32).toNatClampNeg = ((1383 + (6 * k)) + 5) from nI_clamp (n := ((1383 + (6 * k)) + 5)) (by omega))]) dX9_handleAll_92 ?_
      refine gn_i (fun x887 => ?_)
      refine cv_v (As := [.int (nI (h881 % 8)), .int (nI ((h881 / 8) % 8)), .int (nI (h881 / 64)), .int x885, .int x886, .int x887]) (rest := []) (b := w) ⟨hx, hb, hml, hown, hts⟩ (c_X9_handle hT (w := w) hw (x := (nI (h881 % 8))) (n := ((h881 / 8) % 8)) (k := (h881 / 64)) (y := x885) (z := x886) (u := x887) (by first | omega | decide | assumption) (by first | omega | decide | assumption)) (cwV 6 hts gX9_handleAll_X9_handle rfl rfl rfl hdX9_handle_v ⟨Nat.le_of_ble_eq_true rfl, Nat.le_of_ble_eq_true rfl⟩) hN hE hL (rcv10 hN hT hw.1) rfl rfl hl.1 (Nat.le_of_ble_eq_true rfl) dX9_handleAll_93 (Nat.zero_le _) (Nat.zero_le _) (fun H1 locs hL hqr888 => ?_)
      obtain ⟨hT1, hF1⟩ := hqr888
      have hP : va_P D vwCl [(w, .inr (9, [.int f863_0, .ref f863_1, .int (nI ((κ w).2.2.1)), .int (nI f863_3), .int (nI f863_4), .int f863_5, .int f863_6, .int f863_7, .ref (κ w).2.2.2, .ref f863_9, .ref f863_10, .ref f863_11, .int (nI f863_12), .int f863_13, .int f863_14, .int f863_15, .int f863_16, .ref f863_17]))] _ := hF1.hP (hP.sub [1] rfl) (fa_c ⟨by rw [hw.1]; decide, by rw [hw.2]; first | decide | (simp; done) | (simp [h15a, h15b, h15c]; done) | (simp; omega)⟩ fa_n)
      have hF := hF.tr (hF1.mono (by simp))
      have hT := hT1
      refine lv_iinc (v := (nI (k + 1))) (lv' := [(2, .int (nI (k + 1))), (4, .int (nI h881)), (3, .int (nI (1383 + (6 * k)))), (0, .ref w), (1, .int (nI n9))]) hx hb dX9_handleAll_96 hl (k := 2) rfl (nI_add _ 1) (by decide) rfl (fun ls hl => ?_)
      refine lv_goto (tgt := 9) hx hb dX9_handleAll_99 (by decide) ?_
      exact ih866 (k + 1) _ _ _ (by show n9 - ((k + 1)) < n9 - k; omega) ⟨(by show ((k + 1)) ≤ n9; omega), hT, hF, hL, (hP.sub [0] rfl)⟩ (lv_sub hl [0, 3, 4] rfl)
theorem mX9_tick_1 : (.fieldLink RX9 18 "OneBeatModel" "data" "[I" : Cond) ∈ wsX9_tick := List.mem_of_getElem? (i := 1) (by decide +kernel)
theorem iX9_tick_9 : ∀ w ∈ wsX90, w ∈ wsX9_tick := fun w h => List.mem_of_mem_drop (List.mem_of_mem_take ((show wsX90 = (wsX9_tick.drop 69).take 18 by decide +kernel) ▸ h))
theorem hdX9_handleAll_v : yX9_handleAll.cls = RX9 ∧ yX9_handleAll.cls ≠ "java/lang/invoke/MethodHandle" ∧ yX9_handleAll.cls ≠ "java/lang/invoke/VarHandle" ∧ (parseMethodDescriptor yX9_handleAll.desc).map (fun d => d.parameters.length) = some 0 := by decide +kernel
theorem hdX9_change_v : yX9_change.cls = RX9 ∧ yX9_change.cls ≠ "java/lang/invoke/MethodHandle" ∧ yX9_change.cls ≠ "java/lang/invoke/VarHandle" ∧ (parseMethodDescriptor yX9_change.desc).map (fun d => d.parameters.length) = some 1 := by decide +kernel
theorem hdX9_giveUp_v : yX9_giveUp.cls = RX9 ∧ yX9_giveUp.cls ≠ "java/lang/invoke/MethodHandle" ∧ yX9_giveUp.cls ≠ "java/lang/invoke/VarHandle" ∧ (parseMethodDescriptor yX9_giveUp.desc).map (fun d => d.parameters.length) = some 0 := by decide +kernel
set_option maxHeartbeats 4000000 in
set_option maxRecDepth 100000 in
theorem c_X9_tick {l : Launch} {D : va_G} {cs : Nat → ClassId} {B0 T : Nat} {κ : KM} {H0 : Heap} (hT : WT B0 D cs T κ H0) {w : Nat} (hw : T2 κ w 10 12) : KC l yX9_tick wsX9_tick 6 146 0 0 D cs B0 H0 [.ref w] (Qv (fun H => WT B0 D cs (T + 1) κ H ∧ Fr B0 [18] κ H0 H)) := by
  refine KC.of cX9_tick 2 none (by decide) rfl (Nat.le_of_ble_eq_true rfl) ?_
  intro p e s m below meth c ls hx hb hr hml hown hts hlocks hin hN hE hH0 hl
  have hown : s.vm.findClass RX9 = some m.cls := hown
  have hl : lv_has ls 2 [(0, .ref w)] := hl
  have hL : OkL B0 [] := OkL.nil
  have hF : Fr B0 [18] κ H0 H0 := Fr.rf
  refine lv_aload_n hx hb dX9_tick_0 rfl (lv_at hl 0 rfl) ?_
  obtain ⟨hb889, e889, hat889, hk889⟩ := hT.o10 hw.1
  obtain ⟨f889_0, f889_1, f889_3, f889_4, f889_5, f889_6, f889_7, f889_9, f889_10, f889_11, f889_12, f889_13, f889_14, f889_15, f889_16, f889_17, rfl, c889_2, c889_3, c889_4, c889_12, t889_1, t889_8, t889_9, c889_sd, t889_10, t889_11, t889_17⟩ := hk889
  have hP : va_P D vwCl [(w, .inr (9, [.int f889_0, .ref f889_1, .int (nI ((κ w).2.2.1)), .int (nI f889_3), .int (nI f889_4), .int f889_5, .int f889_6, .int f889_7, .ref (κ w).2.2.2, .ref f889_9, .ref f889_10, .ref f889_11, .int (nI f889_12), .int f889_13, .int f889_14, .int f889_15, .int f889_16, .ref f889_17]))] _ := va_P.cons hat889 va_P.nil
  refine va_get (D := D) (ci := 9) (v := .ref (κ w).2.2.2) (C := RX9) (T := TX9) (N := 18) hx hb hts iX9_tick_9 hown hN.1 hP 0 rfl rfl 8 (by decide) (hts _ mX9_tick_1) (fun _ h9 => h9) rfl dX9_tick_1 ?_
  refine lv_iconst (v := 1) hx hb dX9_tick_4 (by decide) ?_
  refine lv_dup2_11 hx hb dX9_tick_5 rfl rfl ?_
  obtain ⟨hb890, e890, hat890, hk890⟩ := hT.o24 t889_8.1
  obtain ⟨g890, rfl, q890⟩ := hk890
  have hP : va_P D vwCl [((κ w).2.2.2, .inl (cs 0, 45783, .inl g890)), (w, .inr (9, [.int f889_0, .ref f889_1, .int (nI ((κ w).2.2.1)), .int (nI f889_3), .int (nI f889_4), .int f889_5, .int f889_6, .int f889_7, .ref (κ w).2.2.2, .ref f889_9, .ref f889_10, .ref f889_11, .int (nI f889_12), .int f889_13, .int f889_14, .int f889_15, .int f889_16, .ref f889_17]))] _ := va_P.cons hat890 hP
  refine ld_i (v := (g890 1)) hx hb hN hP 0 rfl (vp_in_nI (n := 1) (N := 45783) (by omega) (by omega)) (by rw [(show (1 : Int32).toNatClampNeg = 1 from nI_clamp (n := 1) (by omega))]) dX9_tick_6 ?_
  obtain ⟨n891, hn891, en891⟩ := q890.2.1
  refine tp_i (nI n891) en891 ?_
  refine lv_iconst (v := 1) hx hb dX9_tick_7 (by decide) ?_
  refine lv_iadd hx hb dX9_tick_8 ?_
  refine tp_i (nI (n891 + 1)) (nI_add n891 1) ?_
  have hB : Bx B0 D _ [((κ w).2.2.2, .inl (cs 0, 45783, .inl g890)), (w, .inr (9, [.int f889_0, .ref f889_1, .int (nI ((κ w).2.2.1)), .int (nI f889_3), .int (nI f889_4), .int f889_5, .int f889_6, .int f889_7, .ref (κ w).2.2.2, .ref f889_9, .ref f889_10, .ref f889_11, .int (nI f889_12), .int f889_13, .int f889_14, .int f889_15, .int f889_16, .ref f889_17]))] [] _ _ := Bx.of (fun a => (κ a).1) hL hP (fa_c hb890 (fa_c hb889 fa_n)) (by simp only [List.map_cons, List.map_nil, t889_8.1, hw.1]; decide)
  refine b_i hx hb hN hB 0 rfl (vp_in_nI (n := 1) (N := 45783) (by omega) (by omega)) (.inl rfl) dX9_tick_9 (fun H locs hB => ?_)
  rw [(show (1 : Int32).toNatClampNeg = 1 from nI_clamp (n := 1) (by omega))] at hB
  have hB : Bx B0 D _ [((κ w).2.2.2, .inl (cs 0, 45783, .inl (upd g890 1 (nI (n891 + 1))))), (w, .inr (9, [.int f889_0, .ref f889_1, .int (nI ((κ w).2.2.1)), .int (nI f889_3), .int (nI f889_4), .int f889_5, .int f889_6, .int f889_7, .ref (κ w).2.2.2, .ref f889_9, .ref f889_10, .ref f889_11, .int (nI f889_12), .int f889_13, .int f889_14, .int f889_15, .int f889_16, .ref f889_17]))] [(κ w).2.2.2] _ _ := hB
  have z892 := DOK.s1 q890 (n := n891) hn891
  have hT : WT B0 D cs (T + 1) κ _ := hT.up (Nat.le_succ T)
  refine lv_aload_n hx hb dX9_tick_10 rfl (lv_at hl 0 rfl) ?_
  have hT : WT B0 D cs (T + 1) κ _ := hT.close hB ⟨⟨0, _, rfl, ok_24 t889_8.1 ⟨_, rfl, z892⟩⟩, trivial⟩
  have hF : Fr B0 [18] κ H0 _ := hF.close hB (fa_c (by simp [t889_8.2]) fa_n)
  have hL : OkL B0 _ := hB.2.2.2.2.2
  have hP : va_P D vwCl [((κ w).2.2.2, .inl (cs 0, 45783, .inl (upd g890 1 (nI (n891 + 1))))), (w, .inr (9, [.int f889_0, .ref f889_1, .int (nI ((κ w).2.2.1)), .int (nI f889_3), .int (nI f889_4), .int f889_5, .int f889_6, .int f889_7, .ref (κ w).2.2.2, .ref f889_9, .ref f889_10, .ref f889_11, .int (nI f889_12), .int f889_13, .int f889_14, .int f889_15, .int f889_16, .ref f889_17]))] _ := hB.1
  refine cv_v (As := []) (rest := []) (b := w) ⟨hx, hb, hml, hown, hts⟩ (c_X9_handleAll hT (w := w) hw) (cwV 0 hts gX9_tick_X9_handleAll rfl rfl rfl hdX9_handleAll_v ⟨Nat.le_of_ble_eq_true rfl, Nat.le_of_ble_eq_true rfl⟩) hN hE hL (rcv10 hN hT hw.1) rfl rfl hl.1 (Nat.le_of_ble_eq_true rfl) dX9_tick_11 (Nat.zero_le _) (Nat.zero_le _) (fun H1 locs hL hqr893 => ?_)
  obtain ⟨hT1, hF1⟩ := hqr893
  have hP : va_P D vwCl [(w, .inr (9, [.int f889_0, .ref f889_1, .int (nI ((κ w).2.2.1)), .int (nI f889_3), .int (nI f889_4), .int f889_5, .int f889_6, .int f889_7, .ref (κ w).2.2.2, .ref f889_9, .ref f889_10, .ref f889_11, .int (nI f889_12), .int f889_13, .int f889_14, .int f889_15, .int f889_16, .ref f889_17]))] _ := hF1.hP (hP.sub [1] rfl) (fa_c ⟨by rw [hw.1]; decide, by rw [hw.2]; first | decide | (simp; done) | (simp [h15a, h15b, h15c]; done) | (simp; omega)⟩ fa_n)
  have hF := hF.tr (hF1.mono (by simp))
  have hT := hT1
  refine lv_aload_n hx hb dX9_tick_14 rfl (lv_at hl 0 rfl) ?_
  refine cv_i (As := []) (rest := []) (b := w) ⟨hx, hb, hml, hown, hts⟩ (c_X9_isOpen hT (w := w) hw) (cwV 0 hts gX9_tick_X9_isOpen rfl rfl rfl hdX9_isOpen_v ⟨Nat.le_of_ble_eq_true rfl, Nat.le_of_ble_eq_true rfl⟩) hN hE hL (rcv10 hN hT hw.1) rfl rfl hl.1 (Nat.le_of_ble_eq_true rfl) dX9_tick_15 (Nat.zero_le _) (Nat.zero_le _) (fun r894 H1 locs hL hqr894 => ?_)
  obtain ⟨h9, hqr894⟩ := hqr894; replace h9 := h9.symm; subst h9
  rcases hqr894 with rfl | rfl
  · refine lv_if_eq (tgt := 41) hx hb dX9_tick_18 (by decide) (fun _ => ?_) (fun c9 => absurd (by decide) c9)
    refine lv_iconst (v := 0) hx hb dX9_tick_41 (by decide) ?_
    refine lv_istore_n (lv' := [(1, .int 0), (0, .ref w)]) hx hb dX9_tick_42 rfl hl (by decide) rfl (fun ls hl => ?_)
    refine lp_m (α := Nat) (nL := 2) (fun a9 => 8 - a9) (fun a9 H9 l9 => (a9 ≤ 8) ∧ (WT B0 D cs (T + 1) κ H9) ∧ (Fr B0 [18] κ H0 H9) ∧ (OkL B0 l9)) (fun a9 => [(1, .int (nI a9)), (0, .ref w)]) ?_ 0 _ _ _ ⟨(by show (0) ≤ 8; omega), hT, hF, hL⟩ (lv_sub hl [0, 1] rfl)
    rintro p H locs ls ih895 ⟨hp, hT, hF, hL⟩ hl
    have hl : lv_has ls 2 [(1, .int (nI p)), (0, .ref w)] := hl
    have hp : p ≤ 8 := hp
    refine lv_iload_n hx hb dX9_tick_43 rfl (lv_at hl 0 rfl) ?_
    refine lv_aload_n hx hb dX9_tick_44 rfl (lv_at hl 1 rfl) ?_
    obtain ⟨hb896, e896, hat896, hk896⟩ := hT.o10 hw.1
    obtain ⟨f896_0, f896_1, f896_3, f896_4, f896_5, f896_6, f896_7, f896_9, f896_10, f896_11, f896_12, f896_13, f896_14, f896_15, f896_16, f896_17, rfl, c896_2, c896_3, c896_4, c896_12, t896_1, t896_8, t896_9, c896_sd, t896_10, t896_11, t896_17⟩ := hk896
    have hP : va_P D vwCl [(w, .inr (9, [.int f896_0, .ref f896_1, .int (nI ((κ w).2.2.1)), .int (nI f896_3), .int (nI f896_4), .int f896_5, .int f896_6, .int f896_7, .ref (κ w).2.2.2, .ref f896_9, .ref f896_10, .ref f896_11, .int (nI f896_12), .int f896_13, .int f896_14, .int f896_15, .int f896_16, .ref f896_17]))] _ := va_P.cons hat896 va_P.nil
    refine va_get (D := D) (ci := 9) (v := .ref (κ w).2.2.2) (C := RX9) (T := TX9) (N := 18) hx hb hts iX9_tick_9 hown hN.1 hP 0 rfl rfl 8 (by decide) (hts _ mX9_tick_1) (fun _ h9 => h9) rfl dX9_tick_45 ?_
    refine lv_iconst (v := 0) hx hb dX9_tick_48 (by decide) ?_
    obtain ⟨hb897, e897, hat897, hk897⟩ := hT.o24 t896_8.1
    obtain ⟨g897, rfl, q897⟩ := hk897
    have hP : va_P D vwCl [((κ w).2.2.2, .inl (cs 0, 45783, .inl g897)), (w, .inr (9, [.int f896_0, .ref f896_1, .int (nI ((κ w).2.2.1)), .int (nI f896_3), .int (nI f896_4), .int f896_5, .int f896_6, .int f896_7, .ref (κ w).2.2.2, .ref f896_9, .ref f896_10, .ref f896_11, .int (nI f896_12), .int f896_13, .int f896_14, .int f896_15, .int f896_16, .ref f896_17]))] _ := va_P.cons hat897 hP
    refine ld_i (v := (g897 0)) hx hb hN hP 0 rfl (vp_in_nI (n := 0) (N := 45783) (by omega) (by omega)) (by rw [(show (0 : Int32).toNatClampNeg = 0 from nI_clamp (n := 0) (by omega))]) dX9_tick_49 ?_
    obtain ⟨n898, hn898, en898⟩ := q897.1
    refine tp_i (nI n898) en898 ?_
    refine lv_icmp_ge (tgt := 97) hx hb dX9_tick_50 (by decide) (fun c899 => ?_) (fun c899 => ?_)
    · have c899 : n898 ≤ p := (nI_leI (a := n898) (b := p) (by omega) (by omega)).mp c899
      exact en_v hx hb hr hlocks hL (Nat.zero_le _) (Nat.zero_le _) dX9_tick_97 (⟨hT.up (by omega), hF⟩)
    · have c899 : ¬ n898 ≤ p := fun h9 => c899 ((nI_leI (a := n898) (b := p) (by omega) (by omega)).mpr h9)
      refine lv_aload_n hx hb dX9_tick_53 rfl (lv_at hl 1 rfl) ?_
      refine lv_iload_n hx hb dX9_tick_54 rfl (lv_at hl 0 rfl) ?_
      refine cv_i (As := [.int (nI p)]) (rest := []) (b := w) ⟨hx, hb, hml, hown, hts⟩ (c_X9_isUp hT (w := w) hw (n := p) (by first | omega | decide | assumption)) (cwV 1 hts gX9_tick_X9_isUp rfl rfl rfl hdX9_isUp_v ⟨Nat.le_of_ble_eq_true rfl, Nat.le_of_ble_eq_true rfl⟩) hN hE hL (rcv10 hN hT hw.1) rfl rfl hl.1 (Nat.le_of_ble_eq_true rfl) dX9_tick_55 (Nat.zero_le _) (Nat.zero_le _) (fun r900 H1 locs hL hqr900 => ?_)
      obtain ⟨h9, hqr900⟩ := hqr900; replace h9 := h9.symm; subst h9
      rcases hqr900 with rfl | rfl
      · refine lv_if_eq (tgt := 91) hx hb dX9_tick_58 (by decide) (fun _ => ?_) (fun c9 => absurd (by decide) c9)
        refine lv_iinc (v := (nI (p + 1))) (lv' := [(1, .int (nI (p + 1))), (0, .ref w)]) hx hb dX9_tick_91 hl (k := 0) rfl (nI_add _ 1) (by decide) rfl (fun ls hl => ?_)
        refine lv_goto (tgt := 43) hx hb dX9_tick_94 (by decide) ?_
        exact ih895 (p + 1) _ _ _ (by show 8 - ((p + 1)) < 8 - p; omega) ⟨(by show ((p + 1)) ≤ 8; omega), hT, hF, hL⟩ (lv_sub hl [0, 1] rfl)
      · refine lv_if_eq (tgt := 91) hx hb dX9_tick_58 (by decide) (fun c9 => absurd c9 (by decide)) (fun _ => ?_)
        refine lv_aload_n hx hb dX9_tick_61 rfl (lv_at hl 1 rfl) ?_
        refine lv_iload_n hx hb dX9_tick_62 rfl (lv_at hl 0 rfl) ?_
        refine lv_iconst (v := 5) hx hb dX9_tick_63 (by decide) ?_
        refine cv_i (As := [.int (nI p), .int 5]) (rest := []) (b := w) ⟨hx, hb, hml, hown, hts⟩ (c_X9_of hT (w := w) hw (n := p) (k := 5) (by first | omega | decide | assumption) (by first | omega | decide | assumption)) (cwV 2 hts gX9_tick_X9_of rfl rfl rfl hdX9_of_v ⟨Nat.le_of_ble_eq_true rfl, Nat.le_of_ble_eq_true rfl⟩) hN hE hL (rcv10 hN hT hw.1) rfl rfl hl.1 (Nat.le_of_ble_eq_true rfl) dX9_tick_64 (Nat.zero_le _) (Nat.zero_le _) (fun r901 H1 locs hL hqr901 => ?_)
        obtain rfl := hqr901.symm
        refine lv_iconst (v := 2) hx hb dX9_tick_67 (by decide) ?_
        refine lv_icmp_ne (tgt := 91) hx hb dX9_tick_68 (by decide) (fun c902 => ?_) (fun c902 => ?_)
        · refine lv_iinc (v := (nI (p + 1))) (lv' := [(1, .int (nI (p + 1))), (0, .ref w)]) hx hb dX9_tick_91 hl (k := 0) rfl (nI_add _ 1) (by decide) rfl (fun ls hl => ?_)
          refine lv_goto (tgt := 43) hx hb dX9_tick_94 (by decide) ?_
          exact ih895 (p + 1) _ _ _ (by show 8 - ((p + 1)) < 8 - p; omega) ⟨(by show ((p + 1)) ≤ 8; omega), hT, hF, hL⟩ (lv_sub hl [0, 1] rfl)
        · refine lv_aload_n hx hb dX9_tick_71 rfl (lv_at hl 1 rfl) ?_
          refine lv_iload_n hx hb dX9_tick_72 rfl (lv_at hl 0 rfl) ?_
          refine cv_i (As := [.int (nI p)]) (rest := []) (b := w) ⟨hx, hb, hml, hown, hts⟩ (c_X9_estimate hT (w := w) hw (n := p) (by first | omega | decide | assumption)) (cwV 1 hts gX9_tick_X9_estimate rfl rfl rfl hdX9_estimate_v ⟨Nat.le_of_ble_eq_true rfl, Nat.le_of_ble_eq_true rfl⟩) hN hE hL (rcv10 hN hT hw.1) rfl rfl hl.1 (Nat.le_of_ble_eq_true rfl) dX9_tick_73 (Nat.zero_le _) (Nat.zero_le _) (fun r903 H1 locs hL hqr903 => ?_)
          obtain rfl := hqr903.symm
          refine lv_aload_n hx hb dX9_tick_76 rfl (lv_at hl 1 rfl) ?_
          refine lv_iload_n hx hb dX9_tick_77 rfl (lv_at hl 0 rfl) ?_
          refine lv_bipush (v := 8) hx hb dX9_tick_78 (by decide) ?_
          refine cv_i (As := [.int (nI p), .int 8]) (rest := [.int r903]) (b := w) ⟨hx, hb, hml, hown, hts⟩ (c_X9_of hT (w := w) hw (n := p) (k := 8) (by first | omega | decide | assumption) (by first | omega | decide | assumption)) (cwV 2 hts gX9_tick_X9_of rfl rfl rfl hdX9_of_v ⟨Nat.le_of_ble_eq_true rfl, Nat.le_of_ble_eq_true rfl⟩) hN hE hL (rcv10 hN hT hw.1) rfl rfl hl.1 (Nat.le_of_ble_eq_true rfl) dX9_tick_80 (Nat.zero_le _) (Nat.zero_le _) (fun r904 H1 locs hL hqr904 => ?_)
          obtain rfl := hqr904.symm
          refine lv_icmp_lt (tgt := 91) hx hb dX9_tick_83 (by decide) (fun c905 => ?_) (fun c905 => ?_)
          · refine lv_iinc (v := (nI (p + 1))) (lv' := [(1, .int (nI (p + 1))), (0, .ref w)]) hx hb dX9_tick_91 hl (k := 0) rfl (nI_add _ 1) (by decide) rfl (fun ls hl => ?_)
            refine lv_goto (tgt := 43) hx hb dX9_tick_94 (by decide) ?_
            exact ih895 (p + 1) _ _ _ (by show 8 - ((p + 1)) < 8 - p; omega) ⟨(by show ((p + 1)) ≤ 8; omega), hT, hF, hL⟩ (lv_sub hl [0, 1] rfl)
          · refine lv_aload_n hx hb dX9_tick_86 rfl (lv_at hl 1 rfl) ?_
            refine lv_iload_n hx hb dX9_tick_87 rfl (lv_at hl 0 rfl) ?_
            refine cv_v (As := [.int (nI p)]) (rest := []) (b := w) ⟨hx, hb, hml, hown, hts⟩ (c_X9_change hT (w := w) hw (n := p) (by first | omega | decide | assumption)) (cwV 1 hts gX9_tick_X9_change rfl rfl rfl hdX9_change_v ⟨Nat.le_of_ble_eq_true rfl, Nat.le_of_ble_eq_true rfl⟩) hN hE hL (rcv10 hN hT hw.1) rfl rfl hl.1 (Nat.le_of_ble_eq_true rfl) dX9_tick_88 (Nat.zero_le _) (Nat.zero_le _) (fun H1 locs hL hqr906 => ?_)
            obtain ⟨hT1, hF1⟩ := hqr906
            have hP : va_P D vwCl [(w, .inr (9, [.int f896_0, .ref f896_1, .int (nI ((κ w).2.2.1)), .int (nI f896_3), .int (nI f896_4), .int f896_5, .int f896_6, .int f896_7, .ref (κ w).2.2.2, .ref f896_9, .ref f896_10, .ref f896_11, .int (nI f896_12), .int f896_13, .int f896_14, .int f896_15, .int f896_16, .ref f896_17]))] _ := hF1.hP (hP.sub [1] rfl) (fa_c ⟨by rw [hw.1]; decide, by rw [hw.2]; first | decide | (simp; done) | (simp [h15a, h15b, h15c]; done) | (simp; omega)⟩ fa_n)
            have hF := hF.tr (hF1.mono (by simp))
            have hT := hT1
            refine lv_iinc (v := (nI (p + 1))) (lv' := [(1, .int (nI (p + 1))), (0, .ref w)]) hx hb dX9_tick_91 hl (k := 0) rfl (nI_add _ 1) (by decide) rfl (fun ls hl => ?_)
            refine lv_goto (tgt := 43) hx hb dX9_tick_94 (by decide) ?_
            exact ih895 (p + 1) _ _ _ (by show 8 - ((p + 1)) < 8 - p; omega) ⟨(by show ((p + 1)) ≤ 8; omega), hT, hF, hL⟩ (lv_sub hl [0, 1] rfl)
  · refine lv_if_eq (tgt := 41) hx hb dX9_tick_18 (by decide) (fun c9 => absurd c9 (by decide)) (fun _ => ?_)
    refine lv_aload_n hx hb dX9_tick_21 rfl (lv_at hl 0 rfl) ?_
    refine va_get (D := D) (ci := 9) (v := .ref (κ w).2.2.2) (C := RX9) (T := TX9) (N := 18) hx hb hts iX9_tick_9 hown hN.1 hP 0 rfl rfl 8 (by decide) (hts _ mX9_tick_1) (fun _ h9 => h9) rfl dX9_tick_22 ?_
    refine lv_bipush (v := 17) hx hb dX9_tick_25 (by decide) ?_
    obtain ⟨hb907, e907, hat907, hk907⟩ := hT.o24 t889_8.1
    obtain ⟨g907, rfl, q907⟩ := hk907
    have hP : va_P D vwCl [((κ w).2.2.2, .inl (cs 0, 45783, .inl g907)), (w, .inr (9, [.int f889_0, .ref f889_1, .int (nI ((κ w).2.2.1)), .int (nI f889_3), .int (nI f889_4), .int f889_5, .int f889_6, .int f889_7, .ref (κ w).2.2.2, .ref f889_9, .ref f889_10, .ref f889_11, .int (nI f889_12), .int f889_13, .int f889_14, .int f889_15, .int f889_16, .ref f889_17]))] _ := va_P.cons hat907 hP
    refine ld_i (v := (g907 17)) hx hb hN hP 0 rfl (vp_in_nI (n := 17) (N := 45783) (by omega) (by omega)) (by rw [(show (17 : Int32).toNatClampNeg = 17 from nI_clamp (n := 17) (by omega))]) dX9_tick_27 ?_
    refine gn_i (fun x908 => ?_)
    refine lv_aload_n hx hb dX9_tick_28 rfl (lv_at hl 0 rfl) ?_
    refine va_get (D := D) (ci := 9) (v := .ref (κ w).2.2.2) (C := RX9) (T := TX9) (N := 18) hx hb hts iX9_tick_9 hown hN.1 hP 1 rfl rfl 8 (by decide) (hts _ mX9_tick_1) (fun _ h9 => h9) rfl dX9_tick_29 ?_
    refine lv_iconst (v := 1) hx hb dX9_tick_32 (by decide) ?_
    refine ld_i (v := (g907 1)) hx hb hN hP 0 rfl (vp_in_nI (n := 1) (N := 45783) (by omega) (by omega)) (by rw [(show (1 : Int32).toNatClampNeg = 1 from nI_clamp (n := 1) (by omega))]) dX9_tick_33 ?_
    obtain ⟨n909, hn909, en909⟩ := q907.2.1
    refine tp_i (nI n909) en909 ?_
    refine lv_icmp_ne (tgt := 41) hx hb dX9_tick_34 (by decide) (fun c910 => ?_) (fun c910 => ?_)
    · refine lv_iconst (v := 0) hx hb dX9_tick_41 (by decide) ?_
      refine lv_istore_n (lv' := [(1, .int 0), (0, .ref w)]) hx hb dX9_tick_42 rfl hl (by decide) rfl (fun ls hl => ?_)
      refine lp_m (α := Nat) (nL := 2) (fun a9 => 8 - a9) (fun a9 H9 l9 => (a9 ≤ 8) ∧ (WT B0 D cs (T + 1) κ H9) ∧ (Fr B0 [18] κ H0 H9) ∧ (OkL B0 l9)) (fun a9 => [(1, .int (nI a9)), (0, .ref w)]) ?_ 0 _ _ _ ⟨(by show (0) ≤ 8; omega), hT, hF, hL⟩ (lv_sub hl [0, 1] rfl)
      rintro p H locs ls ih911 ⟨hp, hT, hF, hL⟩ hl
      have hl : lv_has ls 2 [(1, .int (nI p)), (0, .ref w)] := hl
      have hp : p ≤ 8 := hp
      refine lv_iload_n hx hb dX9_tick_43 rfl (lv_at hl 0 rfl) ?_
      refine lv_aload_n hx hb dX9_tick_44 rfl (lv_at hl 1 rfl) ?_
      obtain ⟨hb912, e912, hat912, hk912⟩ := hT.o10 hw.1
      obtain ⟨f912_0, f912_1, f912_3, f912_4, f912_5, f912_6, f912_7, f912_9, f912_10, f912_11, f912_12, f912_13, f912_14, f912_15, f912_16, f912_17, rfl, c912_2, c912_3, c912_4, c912_12, t912_1, t912_8, t912_9, c912_sd, t912_10, t912_11, t912_17⟩ := hk912
      have hP : va_P D vwCl [(w, .inr (9, [.int f912_0, .ref f912_1, .int (nI ((κ w).2.2.1)), .int (nI f912_3), .int (nI f912_4), .int f912_5, .int f912_6, .int f912_7, .ref (κ w).2.2.2, .ref f912_9, .ref f912_10, .ref f912_11, .int (nI f912_12), .int f912_13, .int f912_14, .int f912_15, .int f912_16, .ref f912_17]))] _ := va_P.cons hat912 va_P.nil
      refine va_get (D := D) (ci := 9) (v := .ref (κ w).2.2.2) (C := RX9) (T := TX9) (N := 18) hx hb hts iX9_tick_9 hown hN.1 hP 0 rfl rfl 8 (by decide) (hts _ mX9_tick_1) (fun _ h9 => h9) rfl dX9_tick_45 ?_
      refine lv_iconst (v := 0) hx hb dX9_tick_48 (by decide) ?_
      obtain ⟨hb913, e913, hat913, hk913⟩ := hT.o24 t912_8.1
      obtain ⟨g913, rfl, q913⟩ := hk913
      have hP : va_P D vwCl [((κ w).2.2.2, .inl (cs 0, 45783, .inl g913)), (w, .inr (9, [.int f912_0, .ref f912_1, .int (nI ((κ w).2.2.1)), .int (nI f912_3), .int (nI f912_4), .int f912_5, .int f912_6, .int f912_7, .ref (κ w).2.2.2, .ref f912_9, .ref f912_10, .ref f912_11, .int (nI f912_12), .int f912_13, .int f912_14, .int f912_15, .int f912_16, .ref f912_17]))] _ := va_P.cons hat913 hP
      refine ld_i (v := (g913 0)) hx hb hN hP 0 rfl (vp_in_nI (n := 0) (N := 45783) (by omega) (by omega)) (by rw [(show (0 : Int32).toNatClampNeg = 0 from nI_clamp (n := 0) (by omega))]) dX9_tick_49 ?_
      obtain ⟨n914, hn914, en914⟩ := q913.1
      refine tp_i (nI n914) en914 ?_
      refine lv_icmp_ge (tgt := 97) hx hb dX9_tick_50 (by decide) (fun c915 => ?_) (fun c915 => ?_)
      · have c915 : n914 ≤ p := (nI_leI (a := n914) (b := p) (by omega) (by omega)).mp c915
        exact en_v hx hb hr hlocks hL (Nat.zero_le _) (Nat.zero_le _) dX9_tick_97 (⟨hT.up (by omega), hF⟩)
      · have c915 : ¬ n914 ≤ p := fun h9 => c915 ((nI_leI (a := n914) (b := p) (by omega) (by omega)).mpr h9)
        refine lv_aload_n hx hb dX9_tick_53 rfl (lv_at hl 1 rfl) ?_
        refine lv_iload_n hx hb dX9_tick_54 rfl (lv_at hl 0 rfl) ?_
        refine cv_i (As := [.int (nI p)]) (rest := []) (b := w) ⟨hx, hb, hml, hown, hts⟩ (c_X9_isUp hT (w := w) hw (n := p) (by first | omega | decide | assumption)) (cwV 1 hts gX9_tick_X9_isUp rfl rfl rfl hdX9_isUp_v ⟨Nat.le_of_ble_eq_true rfl, Nat.le_of_ble_eq_true rfl⟩) hN hE hL (rcv10 hN hT hw.1) rfl rfl hl.1 (Nat.le_of_ble_eq_true rfl) dX9_tick_55 (Nat.zero_le _) (Nat.zero_le _) (fun r916 H1 locs hL hqr916 => ?_)
        obtain ⟨h9, hqr916⟩ := hqr916; replace h9 := h9.symm; subst h9
        rcases hqr916 with rfl | rfl
        · refine lv_if_eq (tgt := 91) hx hb dX9_tick_58 (by decide) (fun _ => ?_) (fun c9 => absurd (by decide) c9)
          refine lv_iinc (v := (nI (p + 1))) (lv' := [(1, .int (nI (p + 1))), (0, .ref w)]) hx hb dX9_tick_91 hl (k := 0) rfl (nI_add _ 1) (by decide) rfl (fun ls hl => ?_)
          refine lv_goto (tgt := 43) hx hb dX9_tick_94 (by decide) ?_
          exact ih911 (p + 1) _ _ _ (by show 8 - ((p + 1)) < 8 - p; omega) ⟨(by show ((p + 1)) ≤ 8; omega), hT, hF, hL⟩ (lv_sub hl [0, 1] rfl)
        · refine lv_if_eq (tgt := 91) hx hb dX9_tick_58 (by decide) (fun c9 => absurd c9 (by decide)) (fun _ => ?_)
          refine lv_aload_n hx hb dX9_tick_61 rfl (lv_at hl 1 rfl) ?_
          refine lv_iload_n hx hb dX9_tick_62 rfl (lv_at hl 0 rfl) ?_
          refine lv_iconst (v := 5) hx hb dX9_tick_63 (by decide) ?_
          refine cv_i (As := [.int (nI p), .int 5]) (rest := []) (b := w) ⟨hx, hb, hml, hown, hts⟩ (c_X9_of hT (w := w) hw (n := p) (k := 5) (by first | omega | decide | assumption) (by first | omega | decide | assumption)) (cwV 2 hts gX9_tick_X9_of rfl rfl rfl hdX9_of_v ⟨Nat.le_of_ble_eq_true rfl, Nat.le_of_ble_eq_true rfl⟩) hN hE hL (rcv10 hN hT hw.1) rfl rfl hl.1 (Nat.le_of_ble_eq_true rfl) dX9_tick_64 (Nat.zero_le _) (Nat.zero_le _) (fun r917 H1 locs hL hqr917 => ?_)
          obtain rfl := hqr917.symm
          refine lv_iconst (v := 2) hx hb dX9_tick_67 (by decide) ?_
          refine lv_icmp_ne (tgt := 91) hx hb dX9_tick_68 (by decide) (fun c918 => ?_) (fun c918 => ?_)
          · refine lv_iinc (v := (nI (p + 1))) (lv' := [(1, .int (nI (p + 1))), (0, .ref w)]) hx hb dX9_tick_91 hl (k := 0) rfl (nI_add _ 1) (by decide) rfl (fun ls hl => ?_)
            refine lv_goto (tgt := 43) hx hb dX9_tick_94 (by decide) ?_
            exact ih911 (p + 1) _ _ _ (by show 8 - ((p + 1)) < 8 - p; omega) ⟨(by show ((p + 1)) ≤ 8; omega), hT, hF, hL⟩ (lv_sub hl [0, 1] rfl)
          · refine lv_aload_n hx hb dX9_tick_71 rfl (lv_at hl 1 rfl) ?_
            refine lv_iload_n hx hb dX9_tick_72 rfl (lv_at hl 0 rfl) ?_
            refine cv_i (As := [.int (nI p)]) (rest := []) (b := w) ⟨hx, hb, hml, hown, hts⟩ (c_X9_estimate hT (w := w) hw (n := p) (by first | omega | decide | assumption)) (cwV 1 hts gX9_tick_X9_estimate rfl rfl rfl hdX9_estimate_v ⟨Nat.le_of_ble_eq_true rfl, Nat.le_of_ble_eq_true rfl⟩) hN hE hL (rcv10 hN hT hw.1) rfl rfl hl.1 (Nat.le_of_ble_eq_true rfl) dX9_tick_73 (Nat.zero_le _) (Nat.zero_le _) (fun r919 H1 locs hL hqr919 => ?_)
            obtain rfl := hqr919.symm
            refine lv_aload_n hx hb dX9_tick_76 rfl (lv_at hl 1 rfl) ?_
            refine lv_iload_n hx hb dX9_tick_77 rfl (lv_at hl 0 rfl) ?_
            refine lv_bipush (v := 8) hx hb dX9_tick_78 (by decide) ?_
            refine cv_i (As := [.int (nI p), .int 8]) (rest := [.int r919]) (b := w) ⟨hx, hb, hml, hown, hts⟩ (c_X9_of hT (w := w) hw (n := p) (k := 8) (by first | omega | decide | assumption) (by first | omega | decide | assumption)) (cwV 2 hts gX9_tick_X9_of rfl rfl rfl hdX9_of_v ⟨Nat.le_of_ble_eq_true rfl, Nat.le_of_ble_eq_true rfl⟩) hN hE hL (rcv10 hN hT hw.1) rfl rfl hl.1 (Nat.le_of_ble_eq_true rfl) dX9_tick_80 (Nat.zero_le _) (Nat.zero_le _) (fun r920 H1 locs hL hqr920 => ?_)
            obtain rfl := hqr920.symm
            refine lv_icmp_lt (tgt := 91) hx hb dX9_tick_83 (by decide) (fun c921 => ?_) (fun c921 => ?_)
            · refine lv_iinc (v := (nI (p + 1))) (lv' := [(1, .int (nI (p + 1))), (0, .ref w)]) hx hb dX9_tick_91 hl (k := 0) rfl (nI_add _ 1) (by decide) rfl (fun ls hl => ?_)
              refine lv_goto (tgt := 43) hx hb dX9_tick_94 (by decide) ?_
              exact ih911 (p + 1) _ _ _ (by show 8 - ((p + 1)) < 8 - p; omega) ⟨(by show ((p + 1)) ≤ 8; omega), hT, hF, hL⟩ (lv_sub hl [0, 1] rfl)
            · refine lv_aload_n hx hb dX9_tick_86 rfl (lv_at hl 1 rfl) ?_
              refine lv_iload_n hx hb dX9_tick_87 rfl (lv_at hl 0 rfl) ?_
              refine cv_v (As := [.int (nI p)]) (rest := []) (b := w) ⟨hx, hb, hml, hown, hts⟩ (c_X9_change hT (w := w) hw (n := p) (by first | omega | decide | assumption)) (cwV 1 hts gX9_tick_X9_change rfl rfl rfl hdX9_change_v ⟨Nat.le_of_ble_eq_true rfl, Nat.le_of_ble_eq_true rfl⟩) hN hE hL (rcv10 hN hT hw.1) rfl rfl hl.1 (Nat.le_of_ble_eq_true rfl) dX9_tick_88 (Nat.zero_le _) (Nat.zero_le _) (fun H1 locs hL hqr922 => ?_)
              obtain ⟨hT1, hF1⟩ := hqr922
              have hP : va_P D vwCl [(w, .inr (9, [.int f912_0, .ref f912_1, .int (nI ((κ w).2.2.1)), .int (nI f912_3), .int (nI f912_4), .int f912_5, .int f912_6, .int f912_7, .ref (κ w).2.2.2, .ref f912_9, .ref f912_10, .ref f912_11, .int (nI f912_12), .int f912_13, .int f912_14, .int f912_15, .int f912_16, .ref f912_17]))] _ := hF1.hP (hP.sub [1] rfl) (fa_c ⟨by rw [hw.1]; decide, by rw [hw.2]; first | decide | (simp; done) | (simp [h15a, h15b, h15c]; done) | (simp; omega)⟩ fa_n)
              have hF := hF.tr (hF1.mono (by simp))
              have hT := hT1
              refine lv_iinc (v := (nI (p + 1))) (lv' := [(1, .int (nI (p + 1))), (0, .ref w)]) hx hb dX9_tick_91 hl (k := 0) rfl (nI_add _ 1) (by decide) rfl (fun ls hl => ?_)
              refine lv_goto (tgt := 43) hx hb dX9_tick_94 (by decide) ?_
              exact ih911 (p + 1) _ _ _ (by show 8 - ((p + 1)) < 8 - p; omega) ⟨(by show ((p + 1)) ≤ 8; omega), hT, hF, hL⟩ (lv_sub hl [0, 1] rfl)
    · refine lv_aload_n hx hb dX9_tick_37 rfl (lv_at hl 0 rfl) ?_
      refine cv_v (As := []) (rest := []) (b := w) ⟨hx, hb, hml, hown, hts⟩ (c_X9_giveUp hT (w := w) hw) (cwV 0 hts gX9_tick_X9_giveUp rfl rfl rfl hdX9_giveUp_v ⟨Nat.le_of_ble_eq_true rfl, Nat.le_of_ble_eq_true rfl⟩) hN hE hL (rcv10 hN hT hw.1) rfl rfl hl.1 (Nat.le_of_ble_eq_true rfl) dX9_tick_38 (Nat.zero_le _) (Nat.zero_le _) (fun H1 locs hL hqr923 => ?_)
      obtain ⟨hT1, hF1⟩ := hqr923
      have hP : va_P D vwCl [(w, .inr (9, [.int f889_0, .ref f889_1, .int (nI ((κ w).2.2.1)), .int (nI f889_3), .int (nI f889_4), .int f889_5, .int f889_6, .int f889_7, .ref (κ w).2.2.2, .ref f889_9, .ref f889_10, .ref f889_11, .int (nI f889_12), .int f889_13, .int f889_14, .int f889_15, .int f889_16, .ref f889_17]))] _ := hF1.hP (hP.sub [1] rfl) (fa_c ⟨by rw [hw.1]; decide, by rw [hw.2]; first | decide | (simp; done) | (simp [h15a, h15b, h15c]; done) | (simp; omega)⟩ fa_n)
      have hF := hF.tr (hF1.mono (by simp))
      have hT := hT1
      refine lv_iconst (v := 0) hx hb dX9_tick_41 (by decide) ?_
      refine lv_istore_n (lv' := [(1, .int 0), (0, .ref w)]) hx hb dX9_tick_42 rfl hl (by decide) rfl (fun ls hl => ?_)
      refine lp_m (α := Nat) (nL := 2) (fun a9 => 8 - a9) (fun a9 H9 l9 => (a9 ≤ 8) ∧ (WT B0 D cs (T + 1) κ H9) ∧ (Fr B0 [18] κ H0 H9) ∧ (OkL B0 l9)) (fun a9 => [(1, .int (nI a9)), (0, .ref w)]) ?_ 0 _ _ _ ⟨(by show (0) ≤ 8; omega), hT, hF, hL⟩ (lv_sub hl [0, 1] rfl)
      rintro p H locs ls ih924 ⟨hp, hT, hF, hL⟩ hl
      have hl : lv_has ls 2 [(1, .int (nI p)), (0, .ref w)] := hl
      have hp : p ≤ 8 := hp
      refine lv_iload_n hx hb dX9_tick_43 rfl (lv_at hl 0 rfl) ?_
      refine lv_aload_n hx hb dX9_tick_44 rfl (lv_at hl 1 rfl) ?_
      obtain ⟨hb925, e925, hat925, hk925⟩ := hT.o10 hw.1
      obtain ⟨f925_0, f925_1, f925_3, f925_4, f925_5, f925_6, f925_7, f925_9, f925_10, f925_11, f925_12, f925_13, f925_14, f925_15, f925_16, f925_17, rfl, c925_2, c925_3, c925_4, c925_12, t925_1, t925_8, t925_9, c925_sd, t925_10, t925_11, t925_17⟩ := hk925
      have hP : va_P D vwCl [(w, .inr (9, [.int f925_0, .ref f925_1, .int (nI ((κ w).2.2.1)), .int (nI f925_3), .int (nI f925_4), .int f925_5, .int f925_6, .int f925_7, .ref (κ w).2.2.2, .ref f925_9, .ref f925_10, .ref f925_11, .int (nI f925_12), .int f925_13, .int f925_14, .int f925_15, .int f925_16, .ref f925_17]))] _ := va_P.cons hat925 va_P.nil
      refine va_get (D := D) (ci := 9) (v := .ref (κ w).2.2.2) (C := RX9) (T := TX9) (N := 18) hx hb hts iX9_tick_9 hown hN.1 hP 0 rfl rfl 8 (by decide) (hts _ mX9_tick_1) (fun _ h9 => h9) rfl dX9_tick_45 ?_
      refine lv_iconst (v := 0) hx hb dX9_tick_48 (by decide) ?_
      obtain ⟨hb926, e926, hat926, hk926⟩ := hT.o24 t925_8.1
      obtain ⟨g926, rfl, q926⟩ := hk926
      have hP : va_P D vwCl [((κ w).2.2.2, .inl (cs 0, 45783, .inl g926)), (w, .inr (9, [.int f925_0, .ref f925_1, .int (nI ((κ w).2.2.1)), .int (nI f925_3), .int (nI f925_4), .int f925_5, .int f925_6, .int f925_7, .ref (κ w).2.2.2, .ref f925_9, .ref f925_10, .ref f925_11, .int (nI f925_12), .int f925_13, .int f925_14, .int f925_15, .int f925_16, .ref f925_17]))] _ := va_P.cons hat926 hP
      refine ld_i (v := (g926 0)) hx hb hN hP 0 rfl (vp_in_nI (n := 0) (N := 45783) (by omega) (by omega)) (by rw [(show (0 : Int32).toNatClampNeg = 0 from nI_clamp (n := 0) (by omega))]) dX9_tick_49 ?_
      obtain ⟨n927, hn927, en927⟩ := q926.1
      refine tp_i (nI n927) en927 ?_
      refine lv_icmp_ge (tgt := 97) hx hb dX9_tick_50 (by decide) (fun c928 => ?_) (fun c928 => ?_)
      · have c928 : n927 ≤ p := (nI_leI (a := n927) (b := p) (by omega) (by omega)).mp c928
        exact en_v hx hb hr hlocks hL (Nat.zero_le _) (Nat.zero_le _) dX9_tick_97 (⟨hT.up (by omega), hF⟩)
      · have c928 : ¬ n927 ≤ p := fun h9 => c928 ((nI_leI (a := n927) (b := p) (by omega) (by omega)).mpr h9)
        refine lv_aload_n hx hb dX9_tick_53 rfl (lv_at hl 1 rfl) ?_
        refine lv_iload_n hx hb dX9_tick_54 rfl (lv_at hl 0 rfl) ?_
        refine cv_i (As := [.int (nI p)]) (rest := []) (b := w) ⟨hx, hb, hml, hown, hts⟩ (c_X9_isUp hT (w := w) hw (n := p) (by first | omega | decide | assumption)) (cwV 1 hts gX9_tick_X9_isUp rfl rfl rfl hdX9_isUp_v ⟨Nat.le_of_ble_eq_true rfl, Nat.le_of_ble_eq_true rfl⟩) hN hE hL (rcv10 hN hT hw.1) rfl rfl hl.1 (Nat.le_of_ble_eq_true rfl) dX9_tick_55 (Nat.zero_le _) (Nat.zero_le _) (fun r929 H1 locs hL hqr929 => ?_)
        obtain ⟨h9, hqr929⟩ := hqr929; replace h9 := h9.symm; subst h9
        rcases hqr929 with rfl | rfl
        · refine lv_if_eq (tgt := 91) hx hb dX9_tick_58 (by decide) (fun _ => ?_) (fun c9 => absurd (by decide) c9)
          refine lv_iinc (v := (nI (p + 1))) (lv' := [(1, .int (nI (p + 1))), (0, .ref w)]) hx hb dX9_tick_91 hl (k := 0) rfl (nI_add _ 1) (by decide) rfl (fun ls hl => ?_)
          refine lv_goto (tgt := 43) hx hb dX9_tick_94 (by decide) ?_
          exact ih924 (p + 1) _ _ _ (by show 8 - ((p + 1)) < 8 - p; omega) ⟨(by show ((p + 1)) ≤ 8; omega), hT, hF, hL⟩ (lv_sub hl [0, 1] rfl)
        · refine lv_if_eq (tgt := 91) hx hb dX9_tick_58 (by decide) (fun c9 => absurd c9 (by decide)) (fun _ => ?_)
          refine lv_aload_n hx hb dX9_tick_61 rfl (lv_at hl 1 rfl) ?_
          refine lv_iload_n hx hb dX9_tick_62 rfl (lv_at hl 0 rfl) ?_
          refine lv_iconst (v := 5) hx hb dX9_tick_63 (by decide) ?_
          refine cv_i (As := [.int (nI p), .int 5]) (rest := []) (b := w) ⟨hx, hb, hml, hown, hts⟩ (c_X9_of hT (w := w) hw (n := p) (k := 5) (by first | omega | decide | assumption) (by first | omega | decide | assumption)) (cwV 2 hts gX9_tick_X9_of rfl rfl rfl hdX9_of_v ⟨Nat.le_of_ble_eq_true rfl, Nat.le_of_ble_eq_true rfl⟩) hN hE hL (rcv10 hN hT hw.1) rfl rfl hl.1 (Nat.le_of_ble_eq_true rfl) dX9_tick_64 (Nat.zero_le _) (Nat.zero_le _) (fun r930 H1 locs hL hqr930 => ?_)
          obtain rfl := hqr930.symm
          refine lv_iconst (v := 2) hx hb dX9_tick_67 (by decide) ?_
          refine lv_icmp_ne (tgt := 91) hx hb dX9_tick_68 (by decide) (fun c931 => ?_) (fun c931 => ?_)
          · refine lv_iinc (v := (nI (p + 1))) (lv' := [(1, .int (nI (p + 1))), (0, .ref w)]) hx hb dX9_tick_91 hl (k := 0) rfl (nI_add _ 1) (by decide) rfl (fun ls hl => ?_)
            refine lv_goto (tgt := 43) hx hb dX9_tick_94 (by decide) ?_
            exact ih924 (p + 1) _ _ _ (by show 8 - ((p + 1)) < 8 - p; omega) ⟨(by show ((p + 1)) ≤ 8; omega), hT, hF, hL⟩ (lv_sub hl [0, 1] rfl)
          · refine lv_aload_n hx hb dX9_tick_71 rfl (lv_at hl 1 rfl) ?_
            refine lv_iload_n hx hb dX9_tick_72 rfl (lv_at hl 0 rfl) ?_
            refine cv_i (As := [.int (nI p)]) (rest := []) (b := w) ⟨hx, hb, hml, hown, hts⟩ (c_X9_estimate hT (w := w) hw (n := p) (by first | omega | decide | assumption)) (cwV 1 hts gX9_tick_X9_estimate rfl rfl rfl hdX9_estimate_v ⟨Nat.le_of_ble_eq_true rfl, Nat.le_of_ble_eq_true rfl⟩) hN hE hL (rcv10 hN hT hw.1) rfl rfl hl.1 (Nat.le_of_ble_eq_true rfl) dX9_tick_73 (Nat.zero_le _) (Nat.zero_le _) (fun r932 H1 locs hL hqr932 => ?_)
            obtain rfl := hqr932.symm
            refine lv_aload_n hx hb dX9_tick_76 rfl (lv_at hl 1 rfl) ?_
            refine lv_iload_n hx hb dX9_tick_77 rfl (lv_at hl 0 rfl) ?_
            refine lv_bipush (v := 8) hx hb dX9_tick_78 (by decide) ?_
            refine cv_i (As := [.int (nI p), .int 8]) (rest := [.int r932]) (b := w) ⟨hx, hb, hml, hown, hts⟩ (c_X9_of hT (w := w) hw (n := p) (k := 8) (by first | omega | decide | assumption) (by first | omega | decide | assumption)) (cwV 2 hts gX9_tick_X9_of rfl rfl rfl hdX9_of_v ⟨Nat.le_of_ble_eq_true rfl, Nat.le_of_ble_eq_true rfl⟩) hN hE hL (rcv10 hN hT hw.1) rfl rfl hl.1 (Nat.le_of_ble_eq_true rfl) dX9_tick_80 (Nat.zero_le _) (Nat.zero_le _) (fun r933 H1 locs hL hqr933 => ?_)
            obtain rfl := hqr933.symm
            refine lv_icmp_lt (tgt := 91) hx hb dX9_tick_83 (by decide) (fun c934 => ?_) (fun c934 => ?_)
            · refine lv_iinc (v := (nI (p + 1))) (lv' := [(1, .int (nI (p + 1))), (0, .ref w)]) hx hb dX9_tick_91 hl (k := 0) rfl (nI_add _ 1) (by decide) rfl (fun ls hl => ?_)
              refine lv_goto (tgt := 43) hx hb dX9_tick_94 (by decide) ?_
              exact ih924 (p + 1) _ _ _ (by show 8 - ((p + 1)) < 8 - p; omega) ⟨(by show ((p + 1)) ≤ 8; omega), hT, hF, hL⟩ (lv_sub hl [0, 1] rfl)
            · refine lv_aload_n hx hb dX9_tick_86 rfl (lv_at hl 1 rfl) ?_
              refine lv_iload_n hx hb dX9_tick_87 rfl (lv_at hl 0 rfl) ?_
              refine cv_v (As := [.int (nI p)]) (rest := []) (b := w) ⟨hx, hb, hml, hown, hts⟩ (c_X9_change hT (w := w) hw (n := p) (by first | omega | decide | assumption)) (cwV 1 hts gX9_tick_X9_change rfl rfl rfl hdX9_change_v ⟨Nat.le_of_ble_eq_true rfl, Nat.le_of_ble_eq_true rfl⟩) hN hE hL (rcv10 hN hT hw.1) rfl rfl hl.1 (Nat.le_of_ble_eq_true rfl) dX9_tick_88 (Nat.zero_le _) (Nat.zero_le _) (fun H1 locs hL hqr935 => ?_)
              obtain ⟨hT1, hF1⟩ := hqr935
              have hP : va_P D vwCl [(w, .inr (9, [.int f925_0, .ref f925_1, .int (nI ((κ w).2.2.1)), .int (nI f925_3), .int (nI f925_4), .int f925_5, .int f925_6, .int f925_7, .ref (κ w).2.2.2, .ref f925_9, .ref f925_10, .ref f925_11, .int (nI f925_12), .int f925_13, .int f925_14, .int f925_15, .int f925_16, .ref f925_17]))] _ := hF1.hP (hP.sub [1] rfl) (fa_c ⟨by rw [hw.1]; decide, by rw [hw.2]; first | decide | (simp; done) | (simp [h15a, h15b, h15c]; done) | (simp; omega)⟩ fa_n)
              have hF := hF.tr (hF1.mono (by simp))
              have hT := hT1
              refine lv_iinc (v := (nI (p + 1))) (lv' := [(1, .int (nI (p + 1))), (0, .ref w)]) hx hb dX9_tick_91 hl (k := 0) rfl (nI_add _ 1) (by decide) rfl (fun ls hl => ?_)
              refine lv_goto (tgt := 43) hx hb dX9_tick_94 (by decide) ?_
              exact ih924 (p + 1) _ _ _ (by show 8 - ((p + 1)) < 8 - p; omega) ⟨(by show ((p + 1)) ≤ 8; omega), hT, hF, hL⟩ (lv_sub hl [0, 1] rfl)
theorem hdX9_isLive_v : yX9_isLive.cls = RX9 ∧ yX9_isLive.cls ≠ "java/lang/invoke/MethodHandle" ∧ yX9_isLive.cls ≠ "java/lang/invoke/VarHandle" ∧ (parseMethodDescriptor yX9_isLive.desc).map (fun d => d.parameters.length) = some 0 := by decide +kernel
theorem hdX9_tick_v : yX9_tick.cls = RX9 ∧ yX9_tick.cls ≠ "java/lang/invoke/MethodHandle" ∧ yX9_tick.cls ≠ "java/lang/invoke/VarHandle" ∧ (parseMethodDescriptor yX9_tick.desc).map (fun d => d.parameters.length) = some 0 := by decide +kernel
set_option maxHeartbeats 4000000 in
set_option maxRecDepth 100000 in
theorem c_X9_goOn {l : Launch} {D : va_G} {cs : Nat → ClassId} {B0 T : Nat} {κ : KM} {H0 : Heap} (hT : WT B0 D cs T κ H0) {w : Nat} (hw : T2 κ w 10 12) : KC l yX9_goOn wsX9_goOn 7 167 0 0 D cs B0 H0 [.ref w] (Qi (fun _ H => WT B0 D cs (T + 400) κ H ∧ Fr B0 [18] κ H0 H)) := by
  refine KC.of cX9_goOn 2 (some .int) (by decide) rfl (Nat.le_of_ble_eq_true rfl) ?_
  intro p e s m below meth c ls hx hb hr hml hown hts hlocks hin hN hE hH0 hl
  have hown : s.vm.findClass RX9 = some m.cls := hown
  have hl : lv_has ls 2 [(0, .ref w)] := hl
  have hL : OkL B0 [] := OkL.nil
  have hF : Fr B0 [18] κ H0 H0 := Fr.rf
  refine lv_iconst (v := 0) hx hb dX9_goOn_0 (by decide) ?_
  refine lv_istore_n (lv' := [(1, .int 0), (0, .ref w)]) hx hb dX9_goOn_1 rfl hl (by decide) rfl (fun ls hl => ?_)
  refine lp_m (α := Nat) (nL := 2) (fun a9 => 400 - a9) (fun a9 H9 l9 => (a9 ≤ 400) ∧ (WT B0 D cs (T + a9) κ H9) ∧ (Fr B0 [18] κ H0 H9) ∧ (OkL B0 l9)) (fun a9 => [(1, .int (nI a9)), (0, .ref w)]) ?_ 0 _ _ _ ⟨(by show (0) ≤ 400; omega), hT.up (by omega), hF, hL⟩ (lv_sub hl [0, 1] rfl)
  rintro t H locs ls ih936 ⟨ht, hT, hF, hL⟩ hl
  have hl : lv_has ls 2 [(1, .int (nI t)), (0, .ref w)] := hl
  have ht : t ≤ 400 := ht
  refine lv_iload_n hx hb dX9_goOn_2 rfl (lv_at hl 0 rfl) ?_
  refine lv_sipush (v := 400) hx hb dX9_goOn_3 (by decide) ?_
  refine lv_icmp_ge (tgt := 26) hx hb dX9_goOn_6 (by decide) (fun c937 => ?_) (fun c937 => ?_)
  · have c937 : 400 ≤ t := (nI_leI (a := 400) (b := t) (by omega) (by omega)).mp c937
    refine lv_iload_n hx hb dX9_goOn_26 rfl (lv_at hl 0 rfl) ?_
    exact en_i hx hb hr hlocks hL rfl (Nat.zero_le _) (Nat.zero_le _) dX9_goOn_27 (⟨hT.up (by omega), hF⟩)
  · have c937 : ¬ 400 ≤ t := fun h9 => c937 ((nI_leI (a := 400) (b := t) (by omega) (by omega)).mpr h9)
    refine lv_aload_n hx hb dX9_goOn_9 rfl (lv_at hl 1 rfl) ?_
    refine cv_i (As := []) (rest := []) (b := w) ⟨hx, hb, hml, hown, hts⟩ (c_X9_isLive hT (w := w) hw) (cwV 0 hts gX9_goOn_X9_isLive rfl rfl rfl hdX9_isLive_v ⟨Nat.le_of_ble_eq_true rfl, Nat.le_of_ble_eq_true rfl⟩) hN hE hL (rcv10 hN hT hw.1) rfl rfl hl.1 (Nat.le_of_ble_eq_true rfl) dX9_goOn_10 (Nat.zero_le _) (Nat.zero_le _) (fun r938 H1 locs hL hqr938 => ?_)
    obtain ⟨h9, hqr938⟩ := hqr938; replace h9 := h9.symm; subst h9
    rcases hqr938 with rfl | rfl
    · refine lv_if_eq (tgt := 26) hx hb dX9_goOn_13 (by decide) (fun _ => ?_) (fun c9 => absurd (by decide) c9)
      refine lv_iload_n hx hb dX9_goOn_26 rfl (lv_at hl 0 rfl) ?_
      exact en_i hx hb hr hlocks hL rfl (Nat.zero_le _) (Nat.zero_le _) dX9_goOn_27 (⟨hT.up (by omega), hF⟩)
    · refine lv_if_eq (tgt := 26) hx hb dX9_goOn_13 (by decide) (fun c9 => absurd c9 (by decide)) (fun _ => ?_)
      refine lv_aload_n hx hb dX9_goOn_16 rfl (lv_at hl 1 rfl) ?_
      refine cv_v (As := []) (rest := []) (b := w) ⟨hx, hb, hml, hown, hts⟩ (c_X9_tick hT (w := w) hw) (cwV 0 hts gX9_goOn_X9_tick rfl rfl rfl hdX9_tick_v ⟨Nat.le_of_ble_eq_true rfl, Nat.le_of_ble_eq_true rfl⟩) hN hE hL (rcv10 hN hT hw.1) rfl rfl hl.1 (Nat.le_of_ble_eq_true rfl) dX9_goOn_17 (Nat.zero_le _) (Nat.zero_le _) (fun H1 locs hL hqr939 => ?_)
      obtain ⟨hT1, hF1⟩ := hqr939
      have hF := hF.tr (hF1.mono (by simp))
      have hT := hT1
      refine lv_iinc (v := (nI (t + 1))) (lv' := [(1, .int (nI (t + 1))), (0, .ref w)]) hx hb dX9_goOn_20 hl (k := 0) rfl (nI_add _ 1) (by decide) rfl (fun ls hl => ?_)
      refine lv_goto (tgt := 2) hx hb dX9_goOn_23 (by decide) ?_
      exact ih936 (t + 1) _ _ _ (by show 400 - ((t + 1)) < 400 - t; omega) ⟨(by show ((t + 1)) ≤ 400; omega), hT.up (by omega), hF, hL⟩ (lv_sub hl [0, 1] rfl)
theorem mX9_errorOffset_1 : (.fieldLink RX9 40 "OneBeatModel" "thrown" "I" : Cond) ∈ wsX9_errorOffset := List.mem_of_getElem? (i := 1) (by decide +kernel)
theorem iX9_errorOffset_9 : ∀ w ∈ wsX90, w ∈ wsX9_errorOffset := fun w h => List.mem_of_mem_drop (List.mem_of_mem_take ((show wsX90 = (wsX9_errorOffset.drop 3).take 18 by decide +kernel) ▸ h))
theorem mX9_errorOffset_2 : (.fieldLink RX9 13 "OneBeatModel" "errorOffset" "I" : Cond) ∈ wsX9_errorOffset := List.mem_of_getElem? (i := 2) (by decide +kernel)
set_option maxHeartbeats 4000000 in
set_option maxRecDepth 100000 in
theorem c_X9_errorOffset {l : Launch} {D : va_G} {cs : Nat → ClassId} {B0 T : Nat} {κ : KM} {H0 : Heap} (hT : WT B0 D cs T κ H0) {w : Nat} (hw : T2 κ w 10 12) : KC l yX9_errorOffset wsX9_errorOffset 0 0 0 0 D cs B0 H0 [.ref w] (Qi (fun _ H => WT B0 D cs T κ H ∧ Fr B0 [12] κ H0 H)) := by
  refine KC.of cX9_errorOffset 1 (some .int) (by decide) rfl (Nat.le_of_ble_eq_true rfl) ?_
  intro p e s m below meth c ls hx hb hr hml hown hts hlocks hin hN hE hH0 hl
  have hown : s.vm.findClass RX9 = some m.cls := hown
  have hl : lv_has ls 1 [(0, .ref w)] := hl
  have hL : OkL B0 [] := OkL.nil
  have hF : Fr B0 [12] κ H0 H0 := Fr.rf
  refine lv_aload_n hx hb dX9_errorOffset_0 rfl (lv_at hl 0 rfl) ?_
  refine lv_iconst (v := 0) hx hb dX9_errorOffset_1 (by decide) ?_
  obtain ⟨hb940, e940, hat940, hk940⟩ := hT.o10 hw.1
  obtain ⟨f940_0, f940_1, f940_3, f940_4, f940_5, f940_6, f940_7, f940_9, f940_10, f940_11, f940_12, f940_13, f940_14, f940_15, f940_16, f940_17, rfl, c940_2, c940_3, c940_4, c940_12, t940_1, t940_8, t940_9, c940_sd, t940_10, t940_11, t940_17⟩ := hk940
  have hP : va_P D vwCl [(w, .inr (9, [.int f940_0, .ref f940_1, .int (nI ((κ w).2.2.1)), .int (nI f940_3), .int (nI f940_4), .int f940_5, .int f940_6, .int f940_7, .ref (κ w).2.2.2, .ref f940_9, .ref f940_10, .ref f940_11, .int (nI f940_12), .int f940_13, .int f940_14, .int f940_15, .int f940_16, .ref f940_17]))] _ := va_P.cons hat940 va_P.nil
  have hB : Bx B0 D _ [(w, .inr (9, [.int f940_0, .ref f940_1, .int (nI ((κ w).2.2.1)), .int (nI f940_3), .int (nI f940_4), .int f940_5, .int f940_6, .int f940_7, .ref (κ w).2.2.2, .ref f940_9, .ref f940_10, .ref f940_11, .int (nI f940_12), .int f940_13, .int f940_14, .int f940_15, .int f940_16, .ref f940_17]))] [] _ _ := Bx.of (fun a => (κ a).1) hL hP (fa_c hb940 fa_n) (by simp only [List.map_cons, List.map_nil, hw.1]; decide)
  refine b_put (D := D) (ci := 9) (v := .int 0) (ty := .int) (C := RX9) (T := TX9) (N := 18) hx hb hts iX9_errorOffset_9 tyX9 tyX9_ok nmX9 hown hN hB 0 rfl rfl 0 (by decide) (hts _ mX9_errorOffset_1) (fun _ h9 => h9) rfl (by decide +kernel) rfl rfl (Nat.le_of_ble_eq_true rfl) (.inl rfl) dX9_errorOffset_2 (fun H locs hB => ?_)
  have hB : Bx B0 D _ [(w, .inr (9, [.int 0, .ref f940_1, .int (nI ((κ w).2.2.1)), .int (nI f940_3), .int (nI f940_4), .int f940_5, .int f940_6, .int f940_7, .ref (κ w).2.2.2, .ref f940_9, .ref f940_10, .ref f940_11, .int (nI f940_12), .int f940_13, .int f940_14, .int f940_15, .int f940_16, .ref f940_17]))] [w] _ _ := hB
  refine lv_aload_n hx hb dX9_errorOffset_5 rfl (lv_at hl 0 rfl) ?_
  refine va_get (D := D) (ci := 9) (v := .int f940_7) (C := RX9) (T := TX9) (N := 18) hx hb hts iX9_errorOffset_9 hown hN.1 hB.1 0 rfl rfl 7 (by decide) (hts _ mX9_errorOffset_2) (fun _ h9 => h9) rfl dX9_errorOffset_6 ?_
  have hT : WT B0 D cs T κ _ := hT.close hB ⟨⟨0, _, rfl, ok_10 hw.1 ⟨_, _, _, _, _, _, _, _, _, _, _, _, _, _, _, _, rfl, (by omega), (by omega), (by omega), (by omega), t940_1, t940_8, t940_9, c940_sd, t940_10, t940_11, t940_17⟩⟩, trivial⟩
  have hF : Fr B0 [12] κ H0 _ := hF.close hB (fa_c (by simp [hw.2]) fa_n)
  have hL : OkL B0 _ := hB.2.2.2.2.2
  have hP : va_P D vwCl [(w, .inr (9, [.int 0, .ref f940_1, .int (nI ((κ w).2.2.1)), .int (nI f940_3), .int (nI f940_4), .int f940_5, .int f940_6, .int f940_7, .ref (κ w).2.2.2, .ref f940_9, .ref f940_10, .ref f940_11, .int (nI f940_12), .int f940_13, .int f940_14, .int f940_15, .int f940_16, .ref f940_17]))] _ := hB.1
  exact en_i hx hb hr hlocks hL rfl (Nat.zero_le _) (Nat.zero_le _) dX9_errorOffset_9 (⟨hT, hF⟩)
theorem mX9_spread_1 : (.fieldLink RX9 40 "OneBeatModel" "thrown" "I" : Cond) ∈ wsX9_spread := List.mem_of_getElem? (i := 1) (by decide +kernel)
theorem iX9_spread_9 : ∀ w ∈ wsX90, w ∈ wsX9_spread := fun w h => List.mem_of_mem_drop (List.mem_of_mem_take ((show wsX90 = (wsX9_spread.drop 8).take 18 by decide +kernel) ▸ h))
theorem hdX9_spreadNow_v : yX9_spreadNow.cls = RX9 ∧ yX9_spreadNow.cls ≠ "java/lang/invoke/MethodHandle" ∧ yX9_spreadNow.cls ≠ "java/lang/invoke/VarHandle" ∧ (parseMethodDescriptor yX9_spreadNow.desc).map (fun d => d.parameters.length) = some 0 := by decide +kernel
set_option maxHeartbeats 4000000 in
set_option maxRecDepth 100000 in
theorem c_X9_spread {l : Launch} {D : va_G} {cs : Nat → ClassId} {B0 T : Nat} {κ : KM} {H0 : Heap} (hT : WT B0 D cs T κ H0) {w : Nat} (hw : T2 κ w 10 12) : KC l yX9_spread wsX9_spread 1 20 0 0 D cs B0 H0 [.ref w] (Qi (fun _ H => WT B0 D cs T κ H ∧ Fr B0 [12] κ H0 H)) := by
  refine KC.of cX9_spread 1 (some .int) (by decide) rfl (Nat.le_of_ble_eq_true rfl) ?_
  intro p e s m below meth c ls hx hb hr hml hown hts hlocks hin hN hE hH0 hl
  have hown : s.vm.findClass RX9 = some m.cls := hown
  have hl : lv_has ls 1 [(0, .ref w)] := hl
  have hL : OkL B0 [] := OkL.nil
  have hF : Fr B0 [12] κ H0 H0 := Fr.rf
  refine lv_aload_n hx hb dX9_spread_0 rfl (lv_at hl 0 rfl) ?_
  refine lv_iconst (v := 0) hx hb dX9_spread_1 (by decide) ?_
  obtain ⟨hb941, e941, hat941, hk941⟩ := hT.o10 hw.1
  obtain ⟨f941_0, f941_1, f941_3, f941_4, f941_5, f941_6, f941_7, f941_9, f941_10, f941_11, f941_12, f941_13, f941_14, f941_15, f941_16, f941_17, rfl, c941_2, c941_3, c941_4, c941_12, t941_1, t941_8, t941_9, c941_sd, t941_10, t941_11, t941_17⟩ := hk941
  have hP : va_P D vwCl [(w, .inr (9, [.int f941_0, .ref f941_1, .int (nI ((κ w).2.2.1)), .int (nI f941_3), .int (nI f941_4), .int f941_5, .int f941_6, .int f941_7, .ref (κ w).2.2.2, .ref f941_9, .ref f941_10, .ref f941_11, .int (nI f941_12), .int f941_13, .int f941_14, .int f941_15, .int f941_16, .ref f941_17]))] _ := va_P.cons hat941 va_P.nil
  have hB : Bx B0 D _ [(w, .inr (9, [.int f941_0, .ref f941_1, .int (nI ((κ w).2.2.1)), .int (nI f941_3), .int (nI f941_4), .int f941_5, .int f941_6, .int f941_7, .ref (κ w).2.2.2, .ref f941_9, .ref f941_10, .ref f941_11, .int (nI f941_12), .int f941_13, .int f941_14, .int f941_15, .int f941_16, .ref f941_17]))] [] _ _ := Bx.of (fun a => (κ a).1) hL hP (fa_c hb941 fa_n) (by simp only [List.map_cons, List.map_nil, hw.1]; decide)
  refine b_put (D := D) (ci := 9) (v := .int 0) (ty := .int) (C := RX9) (T := TX9) (N := 18) hx hb hts iX9_spread_9 tyX9 tyX9_ok nmX9 hown hN hB 0 rfl rfl 0 (by decide) (hts _ mX9_spread_1) (fun _ h9 => h9) rfl (by decide +kernel) rfl rfl (Nat.le_of_ble_eq_true rfl) (.inl rfl) dX9_spread_2 (fun H locs hB => ?_)
  have hB : Bx B0 D _ [(w, .inr (9, [.int 0, .ref f941_1, .int (nI ((κ w).2.2.1)), .int (nI f941_3), .int (nI f941_4), .int f941_5, .int f941_6, .int f941_7, .ref (κ w).2.2.2, .ref f941_9, .ref f941_10, .ref f941_11, .int (nI f941_12), .int f941_13, .int f941_14, .int f941_15, .int f941_16, .ref f941_17]))] [w] _ _ := hB
  refine lv_aload_n hx hb dX9_spread_5 rfl (lv_at hl 0 rfl) ?_
  have hT : WT B0 D cs T κ _ := hT.close hB ⟨⟨0, _, rfl, ok_10 hw.1 ⟨_, _, _, _, _, _, _, _, _, _, _, _, _, _, _, _, rfl, (by omega), (by omega), (by omega), (by omega), t941_1, t941_8, t941_9, c941_sd, t941_10, t941_11, t941_17⟩⟩, trivial⟩
  have hF : Fr B0 [12] κ H0 _ := hF.close hB (fa_c (by simp [hw.2]) fa_n)
  have hL : OkL B0 _ := hB.2.2.2.2.2
  have hP : va_P D vwCl [(w, .inr (9, [.int 0, .ref f941_1, .int (nI ((κ w).2.2.1)), .int (nI f941_3), .int (nI f941_4), .int f941_5, .int f941_6, .int f941_7, .ref (κ w).2.2.2, .ref f941_9, .ref f941_10, .ref f941_11, .int (nI f941_12), .int f941_13, .int f941_14, .int f941_15, .int f941_16, .ref f941_17]))] _ := hB.1
  refine cv_i (As := []) (rest := []) (b := w) ⟨hx, hb, hml, hown, hts⟩ (c_X9_spreadNow hT (w := w) hw) (cwV 0 hts gX9_spread_X9_spreadNow rfl rfl rfl hdX9_spreadNow_v ⟨Nat.le_of_ble_eq_true rfl, Nat.le_of_ble_eq_true rfl⟩) hN hE hL (rcv10 hN hT hw.1) rfl rfl hl.1 (Nat.le_of_ble_eq_true rfl) dX9_spread_6 (Nat.zero_le _) (Nat.zero_le _) (fun r942 H1 locs hL hqr942 => ?_)
  obtain rfl := hqr942.symm
  exact en_i hx hb hr hlocks hL rfl (Nat.zero_le _) (Nat.zero_le _) dX9_spread_9 (⟨hT, hF⟩)
theorem mX9_expression_1 : (.fieldLink RX9 32 "OneBeatModel" "stack" "[J" : Cond) ∈ wsX9_expression := List.mem_of_getElem? (i := 1) (by decide +kernel)
theorem iX9_expression_9 : ∀ w ∈ wsX90, w ∈ wsX9_expression := fun w h => List.mem_of_mem_drop (List.mem_of_mem_take ((show wsX90 = (wsX9_expression.drop 34).take 18 by decide +kernel) ▸ h))
theorem mX9_expression_2 : (.fieldLink RX9 18 "OneBeatModel" "data" "[I" : Cond) ∈ wsX9_expression := List.mem_of_getElem? (i := 2) (by decide +kernel)
theorem hdX9_operate_o : yX9_operate.cls ≠ "java/lang/invoke/MethodHandle" ∧ yX9_operate.cls ≠ "java/lang/invoke/VarHandle" ∧ (parseMethodDescriptor yX9_operate.desc).map (fun d => d.parameters.length) = some 3 := by decide +kernel
theorem hdX9_fact_v : yX9_fact.cls = RX9 ∧ yX9_fact.cls ≠ "java/lang/invoke/MethodHandle" ∧ yX9_fact.cls ≠ "java/lang/invoke/VarHandle" ∧ (parseMethodDescriptor yX9_fact.desc).map (fun d => d.parameters.length) = some 2 := by decide +kernel
set_option maxHeartbeats 4000000 in
set_option maxRecDepth 100000 in
theorem c_X9_expression {l : Launch} {D : va_G} {cs : Nat → ClassId} {B0 T : Nat} {κ : KM} {H0 : Heap} (hT : WT B0 D cs T κ H0) {w : Nat} (hw : T2 κ w 10 12) {x : Int32} : KC l yX9_expression wsX9_expression 4 86 0 0 D cs B0 H0 [.ref w, .int x] (Qi (fun _ H => WT B0 D cs T κ H ∧ Fr B0 [19] κ H0 H)) := by
  refine KC.of cX9_expression 5 (some .int) (by decide) rfl (Nat.le_of_ble_eq_true rfl) ?_
  intro p e s m below meth c ls hx hb hr hml hown hts hlocks hin hN hE hH0 hl
  have hown : s.vm.findClass RX9 = some m.cls := hown
  have hl : lv_has ls 5 [(0, .ref w), (1, .int x)] := hl
  have hL : OkL B0 [] := OkL.nil
  have hF : Fr B0 [19] κ H0 H0 := Fr.rf
  refine lv_iconst (v := 0) hx hb dX9_expression_0 (by decide) ?_
  refine lv_istore_n (lv' := [(2, .int 0), (0, .ref w), (1, .int x)]) hx hb dX9_expression_1 rfl hl (by decide) rfl (fun ls hl => ?_)
  refine lv_aload_n hx hb dX9_expression_2 rfl (lv_at hl 1 rfl) ?_
  obtain ⟨hb943, e943, hat943, hk943⟩ := hT.o10 hw.1
  obtain ⟨f943_0, f943_1, f943_3, f943_4, f943_5, f943_6, f943_7, f943_9, f943_10, f943_11, f943_12, f943_13, f943_14, f943_15, f943_16, f943_17, rfl, c943_2, c943_3, c943_4, c943_12, t943_1, t943_8, t943_9, c943_sd, t943_10, t943_11, t943_17⟩ := hk943
  have hP : va_P D vwCl [(w, .inr (9, [.int f943_0, .ref f943_1, .int (nI ((κ w).2.2.1)), .int (nI f943_3), .int (nI f943_4), .int f943_5, .int f943_6, .int f943_7, .ref (κ w).2.2.2, .ref f943_9, .ref f943_10, .ref f943_11, .int (nI f943_12), .int f943_13, .int f943_14, .int f943_15, .int f943_16, .ref f943_17]))] _ := va_P.cons hat943 va_P.nil
  refine va_get (D := D) (ci := 9) (v := .ref f943_17) (C := RX9) (T := TX9) (N := 18) hx hb hts iX9_expression_9 hown hN.1 hP 0 rfl rfl 17 (by decide) (hts _ mX9_expression_1) (fun _ h9 => h9) rfl dX9_expression_3 ?_
  refine lv_iconst (v := 0) hx hb dX9_expression_6 (by decide) ?_
  refine lv_lconst (v := 0) hx hb dX9_expression_7 (by decide) ?_
  obtain ⟨hb944, e944, hat944, hk944⟩ := hT.o28 t943_17.1
  obtain ⟨g944, rfl⟩ := hk944
  have hP : va_P D vwCl [(f943_17, .inl (cs 3, 1200, .inr (.inl g944))), (w, .inr (9, [.int f943_0, .ref f943_1, .int (nI ((κ w).2.2.1)), .int (nI f943_3), .int (nI f943_4), .int f943_5, .int f943_6, .int f943_7, .ref (κ w).2.2.2, .ref f943_9, .ref f943_10, .ref f943_11, .int (nI f943_12), .int f943_13, .int f943_14, .int f943_15, .int f943_16, .ref f943_17]))] _ := va_P.cons hat944 hP
  have hB : Bx B0 D _ [(f943_17, .inl (cs 3, 1200, .inr (.inl g944))), (w, .inr (9, [.int f943_0, .ref f943_1, .int (nI ((κ w).2.2.1)), .int (nI f943_3), .int (nI f943_4), .int f943_5, .int f943_6, .int f943_7, .ref (κ w).2.2.2, .ref f943_9, .ref f943_10, .ref f943_11, .int (nI f943_12), .int f943_13, .int f943_14, .int f943_15, .int f943_16, .ref f943_17]))] [] _ _ := Bx.of (fun a => (κ a).1) hL hP (fa_c hb944 (fa_c hb943 fa_n)) (by simp only [List.map_cons, List.map_nil, t943_17.1, hw.1]; decide)
  refine b_l hx hb hN hB 0 rfl (vp_in_nI (n := 0) (N := 1200) (by omega) (by omega)) (.inl rfl) dX9_expression_8 (fun H locs hB => ?_)
  rw [(show (0 : Int32).toNatClampNeg = 0 from nI_clamp (n := 0) (by omega))] at hB
  have hB : Bx B0 D _ [(f943_17, .inl (cs 3, 1200, .inr (.inl (vp_updL g944 0 0)))), (w, .inr (9, [.int f943_0, .ref f943_1, .int (nI ((κ w).2.2.1)), .int (nI f943_3), .int (nI f943_4), .int f943_5, .int f943_6, .int f943_7, .ref (κ w).2.2.2, .ref f943_9, .ref f943_10, .ref f943_11, .int (nI f943_12), .int f943_13, .int f943_14, .int f943_15, .int f943_16, .ref f943_17]))] [f943_17] _ _ := hB
  generalize (vp_updL g944 0 0) = g945 at hB
  obtain ⟨hb946, e946, hat946, hk946⟩ := hT.o24 t943_8.1
  obtain ⟨g946, rfl, q946⟩ := hk946
  have hB : Bx B0 D _ [(f943_17, .inl (cs 3, 1200, .inr (.inl g945))), (w, .inr (9, [.int f943_0, .ref f943_1, .int (nI ((κ w).2.2.1)), .int (nI f943_3), .int (nI f943_4), .int f943_5, .int f943_6, .int f943_7, .ref (κ w).2.2.2, .ref f943_9, .ref f943_10, .ref f943_11, .int (nI f943_12), .int f943_13, .int f943_14, .int f943_15, .int f943_16, .ref f943_17])), ((κ w).2.2.2, .inl (cs 0, 45783, .inl g946))] [f943_17] _ _ := hB.more hat946 hb946 (fa_c (ne_c t943_17.1 t943_8.1 (by decide))  (fa_c (ne_c hw.1 t943_8.1 (by decide)) fa_n)) (fa_c (ne_c t943_17.1 t943_8.1 (by decide)) fa_n)
  obtain ⟨cn, ch, cg, ce, ht, v0, vn, vv⟩ := q946.2.2.2.2.2.1
  refine lv_iconst (v := 0) hx hb dX9_expression_9 (by decide) ?_
  refine lv_istore_n (lv' := [(3, .int 0), (2, .int 0), (0, .ref w), (1, .int x)]) hx hb dX9_expression_10 rfl hl (by decide) rfl (fun ls hl => ?_)
  have hT : WT B0 D cs T κ _ := hT.close hB ⟨⟨0, _, rfl, ok_28 t943_17.1 ⟨_, rfl⟩⟩, trivial⟩
  have hF : Fr B0 [19] κ H0 _ := hF.close hB (fa_c (by simp [t943_17.2]) fa_n)
  have hL : OkL B0 _ := hB.2.2.2.2.2
  have hP : va_P D vwCl [(f943_17, .inl (cs 3, 1200, .inr (.inl g945))), (w, .inr (9, [.int f943_0, .ref f943_1, .int (nI ((κ w).2.2.1)), .int (nI f943_3), .int (nI f943_4), .int f943_5, .int f943_6, .int f943_7, .ref (κ w).2.2.2, .ref f943_9, .ref f943_10, .ref f943_11, .int (nI f943_12), .int f943_13, .int f943_14, .int f943_15, .int f943_16, .ref f943_17])), ((κ w).2.2.2, .inl (cs 0, 45783, .inl g946))] _ := hB.1
  refine lp_m (α := Nat × Nat) (nL := 5) (fun a9 => cn - a9.1) (fun a9 H9 l9 => (a9.1 ≤ cn) ∧ (ht a9.1 = a9.2 + 1) ∧ (a9.2 ≤ a9.1) ∧ (WT B0 D cs T κ H9) ∧ (Fr B0 [19] κ H0 H9) ∧ (OkL B0 l9) ∧ (va_P D vwCl [(w, .inr (9, [.int f943_0, .ref f943_1, .int (nI ((κ w).2.2.1)), .int (nI f943_3), .int (nI f943_4), .int f943_5, .int f943_6, .int f943_7, .ref (κ w).2.2.2, .ref f943_9, .ref f943_10, .ref f943_11, .int (nI f943_12), .int f943_13, .int f943_14, .int f943_15, .int f943_16, .ref f943_17])), ((κ w).2.2.2, .inl (cs 0, 45783, .inl g946))] H9)) (fun a9 => [(3, .int (nI a9.1)), (2, .int (nI a9.2)), (0, .ref w), (1, .int x)]) ?_ (0, 0) _ _ _ ⟨(by show (0) ≤ cn; omega), (by show ht (0) = (0) + 1; omega), (by show (0) ≤ (0); omega), hT, hF, hL, (hP.sub [1, 2] rfl)⟩ (lv_sub hl [0, 1, 2, 3] rfl)
  rintro ⟨i, t⟩ H locs ls ih947 ⟨hi, hv, hti, hT, hF, hL, hP⟩ hl
  have hl : lv_has ls 5 [(3, .int (nI i)), (2, .int (nI t)), (0, .ref w), (1, .int x)] := hl
  have hi : i ≤ cn := hi
  have hv : ht i = t + 1 := hv
  have hti : t ≤ i := hti
  refine lv_iload_n hx hb dX9_expression_11 rfl (lv_at hl 0 rfl) ?_
  refine lv_aload_n hx hb dX9_expression_12 rfl (lv_at hl 2 rfl) ?_
  refine va_get (D := D) (ci := 9) (v := .ref (κ w).2.2.2) (C := RX9) (T := TX9) (N := 18) hx hb hts iX9_expression_9 hown hN.1 hP 0 rfl rfl 8 (by decide) (hts _ mX9_expression_2) (fun _ h9 => h9) rfl dX9_expression_13 ?_
  refine lv_bipush (v := 14) hx hb dX9_expression_16 (by decide) ?_
  refine ld_i (v := (g946 14)) hx hb hN hP 1 rfl (vp_in_nI (n := 14) (N := 45783) (by omega) (by omega)) (by rw [(show (14 : Int32).toNatClampNeg = 14 from nI_clamp (n := 14) (by omega))]) dX9_expression_18 ?_
  refine tp_i (nI cn) ce ?_
  refine lv_icmp_ge (tgt := 126) hx hb dX9_expression_19 (by decide) (fun c948 => ?_) (fun c948 => ?_)
  · have c948 : cn ≤ i := (nI_leI (a := cn) (b := i) (by omega) (by omega)).mp c948
    refine lv_aload_n hx hb dX9_expression_126 rfl (lv_at hl 2 rfl) ?_
    refine va_get (D := D) (ci := 9) (v := .ref f943_17) (C := RX9) (T := TX9) (N := 18) hx hb hts iX9_expression_9 hown hN.1 hP 0 rfl rfl 17 (by decide) (hts _ mX9_expression_1) (fun _ h9 => h9) rfl dX9_expression_127 ?_
    refine lv_iconst (v := 0) hx hb dX9_expression_130 (by decide) ?_
    obtain ⟨hb949, e949, hat949, hk949⟩ := hT.o28 t943_17.1
    obtain ⟨g949, rfl⟩ := hk949
    have hP : va_P D vwCl [(f943_17, .inl (cs 3, 1200, .inr (.inl g949))), (w, .inr (9, [.int f943_0, .ref f943_1, .int (nI ((κ w).2.2.1)), .int (nI f943_3), .int (nI f943_4), .int f943_5, .int f943_6, .int f943_7, .ref (κ w).2.2.2, .ref f943_9, .ref f943_10, .ref f943_11, .int (nI f943_12), .int f943_13, .int f943_14, .int f943_15, .int f943_16, .ref f943_17])), ((κ w).2.2.2, .inl (cs 0, 45783, .inl g946))] _ := va_P.cons hat949 hP
    refine ld_l (v := (g949 0)) hx hb hN hP 0 rfl (vp_in_nI (n := 0) (N := 1200) (by omega) (by omega)) (by rw [(show (0 : Int32).toNatClampNeg = 0 from nI_clamp (n := 0) (by omega))]) dX9_expression_131 ?_
    refine gn_l (fun y950 => ?_)
    refine lv_l2i hx hb dX9_expression_132 rfl ?_
    refine gn_i (fun x951 => ?_)
    exact en_i hx hb hr hlocks hL rfl (Nat.zero_le _) (Nat.zero_le _) dX9_expression_133 (⟨hT, hF⟩)
  · have c948 : ¬ cn ≤ i := fun h9 => c948 ((nI_leI (a := cn) (b := i) (by omega) (by omega)).mpr h9)
    refine lv_aload_n hx hb dX9_expression_22 rfl (lv_at hl 2 rfl) ?_
    refine va_get (D := D) (ci := 9) (v := .ref (κ w).2.2.2) (C := RX9) (T := TX9) (N := 18) hx hb hts iX9_expression_9 hown hN.1 hP 0 rfl rfl 8 (by decide) (hts _ mX9_expression_2) (fun _ h9 => h9) rfl dX9_expression_23 ?_
    refine lv_sipush (v := 183) hx hb dX9_expression_26 (by decide) ?_
    refine lv_iload_n hx hb dX9_expression_29 rfl (lv_at hl 0 rfl) ?_
    refine lv_iadd hx hb dX9_expression_30 ?_
    refine tp_i (nI (183 + i)) (nI_add 183 i) ?_
    refine ld_i (v := (g946 (183 + i))) hx hb hN hP 1 rfl (vp_in_nI (n := (183 + i)) (N := 45783) (by omega) (by omega)) (by rw [(show ((nI (183 + i)) : Int32).toNatClampNeg = (183 + i) from nI_clamp (n := (183 + i)) (by omega))]) dX9_expression_31 ?_
    refine lv_istore (lv' := [(4, .int (g946 (183 + i))), (3, .int (nI i)), (2, .int (nI t)), (0, .ref w), (1, .int x)]) hx hb dX9_expression_32 hl (by decide) rfl (fun ls hl => ?_)
    refine lv_iload hx hb dX9_expression_34 (lv_at hl 0 rfl) ?_
    refine lv_iconst (v := 1) hx hb dX9_expression_36 (by decide) ?_
    refine lv_icmp_gt (tgt := 90) hx hb dX9_expression_37 (by decide) (fun c952 => ?_) (fun c952 => ?_)
    · have x9 := (vv i (by omega) (by omega)).2 (Int32.not_le.mpr c952)
      refine lv_iinc (v := (nI (t - 1))) (lv' := [(2, .int (nI (t - 1))), (4, .int (g946 (183 + i))), (3, .int (nI i)), (0, .ref w), (1, .int x)]) hx hb dX9_expression_90 hl (k := 2) rfl (nI_dec1 (by omega)) (by decide) rfl (fun ls hl => ?_)
      refine lv_aload_n hx hb dX9_expression_93 rfl (lv_at hl 3 rfl) ?_
      refine va_get (D := D) (ci := 9) (v := .ref f943_17) (C := RX9) (T := TX9) (N := 18) hx hb hts iX9_expression_9 hown hN.1 hP 0 rfl rfl 17 (by decide) (hts _ mX9_expression_1) (fun _ h9 => h9) rfl dX9_expression_94 ?_
      refine lv_iload_n hx hb dX9_expression_97 rfl (lv_at hl 0 rfl) ?_
      refine lv_iconst (v := 1) hx hb dX9_expression_98 (by decide) ?_
      refine lv_isub hx hb dX9_expression_99 ?_
      refine tp_i (nI ((t - 1) - 1)) (nI_subN (a := (t - 1)) (b := 1) (by omega)) ?_
      refine lv_iload hx hb dX9_expression_100 (lv_at hl 1 rfl) ?_
      refine lv_aload_n hx hb dX9_expression_102 rfl (lv_at hl 3 rfl) ?_
      refine va_get (D := D) (ci := 9) (v := .ref f943_17) (C := RX9) (T := TX9) (N := 18) hx hb hts iX9_expression_9 hown hN.1 hP 0 rfl rfl 17 (by decide) (hts _ mX9_expression_1) (fun _ h9 => h9) rfl dX9_expression_103 ?_
      refine lv_iload_n hx hb dX9_expression_106 rfl (lv_at hl 0 rfl) ?_
      refine lv_iconst (v := 1) hx hb dX9_expression_107 (by decide) ?_
      refine lv_isub hx hb dX9_expression_108 ?_
      refine tp_i (nI ((t - 1) - 1)) (nI_subN (a := (t - 1)) (b := 1) (by omega)) ?_
      obtain ⟨hb953, e953, hat953, hk953⟩ := hT.o28 t943_17.1
      obtain ⟨g953, rfl⟩ := hk953
      have hP : va_P D vwCl [(f943_17, .inl (cs 3, 1200, .inr (.inl g953))), (w, .inr (9, [.int f943_0, .ref f943_1, .int (nI ((κ w).2.2.1)), .int (nI f943_3), .int (nI f943_4), .int f943_5, .int f943_6, .int f943_7, .ref (κ w).2.2.2, .ref f943_9, .ref f943_10, .ref f943_11, .int (nI f943_12), .int f943_13, .int f943_14, .int f943_15, .int f943_16, .ref f943_17])), ((κ w).2.2.2, .inl (cs 0, 45783, .inl g946))] _ := va_P.cons hat953 hP
      refine ld_l (v := (g953 ((t - 1) - 1))) hx hb hN hP 0 rfl (vp_in_nI (n := ((t - 1) - 1)) (N := 1200) (by omega) (by omega)) (by rw [(show ((nI ((t - 1) - 1)) : Int32).toNatClampNeg = ((t - 1) - 1) from nI_clamp (n := ((t - 1) - 1)) (by omega))]) dX9_expression_109 ?_
      refine gn_l (fun y954 => ?_)
      refine lv_aload_n hx hb dX9_expression_110 rfl (lv_at hl 3 rfl) ?_
      refine va_get (D := D) (ci := 9) (v := .ref f943_17) (C := RX9) (T := TX9) (N := 18) hx hb hts iX9_expression_9 hown hN.1 hP 1 rfl rfl 17 (by decide) (hts _ mX9_expression_1) (fun _ h9 => h9) rfl dX9_expression_111 ?_
      refine lv_iload_n hx hb dX9_expression_114 rfl (lv_at hl 0 rfl) ?_
      refine ld_l (v := (g953 (t - 1))) hx hb hN hP 0 rfl (vp_in_nI (n := (t - 1)) (N := 1200) (by omega) (by omega)) (by rw [(show ((nI (t - 1)) : Int32).toNatClampNeg = (t - 1) from nI_clamp (n := (t - 1)) (by omega))]) dX9_expression_115 ?_
      refine gn_l (fun y955 => ?_)
      refine cs_l (As := [.int (g946 (183 + i)), .long y954, .long y955]) (rest := [.int (nI ((t - 1) - 1)), .ref f943_17]) ⟨hx, hb, hml, hown, hts⟩ (c_X9_operate hT (x := (g946 (183 + i))) (l_x := y954) (l_y := y955)) (va_cwS 3 hts gX9_expression_X9_operate rfl rfl rfl hdX9_operate_o ⟨Nat.le_of_ble_eq_true rfl, Nat.le_of_ble_eq_true rfl⟩) hN hE hL rfl rfl hl.1 (Nat.le_of_ble_eq_true rfl) dX9_expression_116 (Nat.zero_le _) (Nat.zero_le _) (fun r956 H1 locs hL hqr956 => ?_)
      obtain rfl := hqr956.symm
      have hB : Bx B0 D _ [(f943_17, .inl (cs 3, 1200, .inr (.inl g953))), (w, .inr (9, [.int f943_0, .ref f943_1, .int (nI ((κ w).2.2.1)), .int (nI f943_3), .int (nI f943_4), .int f943_5, .int f943_6, .int f943_7, .ref (κ w).2.2.2, .ref f943_9, .ref f943_10, .ref f943_11, .int (nI f943_12), .int f943_13, .int f943_14, .int f943_15, .int f943_16, .ref f943_17])), ((κ w).2.2.2, .inl (cs 0, 45783, .inl g946))] [] _ _ := Bx.of (fun a => (κ a).1) hL hP (fa_c hb953 (fa_c hb943 (fa_c hb946 fa_n))) (by simp only [List.map_cons, List.map_nil, t943_17.1, hw.1, t943_8.1]; decide)
      refine b_l hx hb hN hB 0 rfl (vp_in_nI (n := ((t - 1) - 1)) (N := 1200) (by omega) (by omega)) (.inl rfl) dX9_expression_119 (fun H locs hB => ?_)
      rw [(show ((nI ((t - 1) - 1)) : Int32).toNatClampNeg = ((t - 1) - 1) from nI_clamp (n := ((t - 1) - 1)) (by omega))] at hB
      have hB : Bx B0 D _ [(f943_17, .inl (cs 3, 1200, .inr (.inl (vp_updL g953 ((t - 1) - 1) r956)))), (w, .inr (9, [.int f943_0, .ref f943_1, .int (nI ((κ w).2.2.1)), .int (nI f943_3), .int (nI f943_4), .int f943_5, .int f943_6, .int f943_7, .ref (κ w).2.2.2, .ref f943_9, .ref f943_10, .ref f943_11, .int (nI f943_12), .int f943_13, .int f943_14, .int f943_15, .int f943_16, .ref f943_17])), ((κ w).2.2.2, .inl (cs 0, 45783, .inl g946))] [f943_17] _ _ := hB
      generalize (vp_updL g953 ((t - 1) - 1) r956) = g957 at hB
      refine lv_iinc (v := (nI (i + 1))) (lv' := [(3, .int (nI (i + 1))), (2, .int (nI (t - 1))), (4, .int (g946 (183 + i))), (0, .ref w), (1, .int x)]) hx hb dX9_expression_120 hl (k := 2) rfl (nI_add _ 1) (by decide) rfl (fun ls hl => ?_)
      refine lv_goto (tgt := 11) hx hb dX9_expression_123 (by decide) ?_
      have hT : WT B0 D cs T κ _ := hT.close hB ⟨⟨0, _, rfl, ok_28 t943_17.1 ⟨_, rfl⟩⟩, trivial⟩
      have hF : Fr B0 [19] κ H0 _ := hF.close hB (fa_c (by simp [t943_17.2]) fa_n)
      have hL : OkL B0 _ := hB.2.2.2.2.2
      have hP : va_P D vwCl [(f943_17, .inl (cs 3, 1200, .inr (.inl g957))), (w, .inr (9, [.int f943_0, .ref f943_1, .int (nI ((κ w).2.2.1)), .int (nI f943_3), .int (nI f943_4), .int f943_5, .int f943_6, .int f943_7, .ref (κ w).2.2.2, .ref f943_9, .ref f943_10, .ref f943_11, .int (nI f943_12), .int f943_13, .int f943_14, .int f943_15, .int f943_16, .ref f943_17])), ((κ w).2.2.2, .inl (cs 0, 45783, .inl g946))] _ := hB.1
      exact ih947 ((i + 1), (t - 1)) _ _ _ (by show cn - ((i + 1)) < cn - i; omega) ⟨(by show ((i + 1)) ≤ cn; omega), (by show ht ((i + 1)) = ((t - 1)) + 1; omega), (by show ((t - 1)) ≤ ((i + 1)); omega), hT, hF, hL, (hP.sub [1, 2] rfl)⟩ (lv_sub hl [0, 1, 3, 4] rfl)
    · have x9 : i + 2 ≤ cn ∧ ht (i + 1 + 1) = ht i + 1 := (vv i (by omega) (by omega)).1 (Int32.not_lt.mp c952)
      refine lv_iinc (v := (nI (i + 1))) (lv' := [(3, .int (nI (i + 1))), (4, .int (g946 (183 + i))), (2, .int (nI t)), (0, .ref w), (1, .int x)]) hx hb dX9_expression_40 hl (k := 1) rfl (nI_add _ 1) (by decide) rfl (fun ls hl => ?_)
      refine lv_aload_n hx hb dX9_expression_43 rfl (lv_at hl 3 rfl) ?_
      refine va_get (D := D) (ci := 9) (v := .ref f943_17) (C := RX9) (T := TX9) (N := 18) hx hb hts iX9_expression_9 hown hN.1 hP 0 rfl rfl 17 (by decide) (hts _ mX9_expression_1) (fun _ h9 => h9) rfl dX9_expression_44 ?_
      refine lv_iload_n hx hb dX9_expression_47 rfl (lv_at hl 2 rfl) ?_
      refine lv_iload hx hb dX9_expression_48 (lv_at hl 1 rfl) ?_
      refine lv_if_ne (tgt := 67) hx hb dX9_expression_50 (by decide) (fun c958 => ?_) (fun c958 => ?_)
      · refine lv_aload_n hx hb dX9_expression_67 rfl (lv_at hl 3 rfl) ?_
        refine lv_aload_n hx hb dX9_expression_68 rfl (lv_at hl 3 rfl) ?_
        refine va_get (D := D) (ci := 9) (v := .ref (κ w).2.2.2) (C := RX9) (T := TX9) (N := 18) hx hb hts iX9_expression_9 hown hN.1 hP 0 rfl rfl 8 (by decide) (hts _ mX9_expression_2) (fun _ h9 => h9) rfl dX9_expression_69 ?_
        refine lv_sipush (v := 183) hx hb dX9_expression_72 (by decide) ?_
        refine lv_iload_n hx hb dX9_expression_75 rfl (lv_at hl 0 rfl) ?_
        refine lv_iadd hx hb dX9_expression_76 ?_
        refine tp_i (nI (183 + (i + 1))) (nI_add 183 (i + 1)) ?_
        refine ld_i (v := (g946 (183 + (i + 1)))) hx hb hN hP 1 rfl (vp_in_nI (n := (183 + (i + 1))) (N := 45783) (by omega) (by omega)) (by rw [(show ((nI (183 + (i + 1))) : Int32).toNatClampNeg = (183 + (i + 1)) from nI_clamp (n := (183 + (i + 1))) (by omega))]) dX9_expression_77 ?_
        refine gn_i (fun x959 => ?_)
        refine lv_iload_n hx hb dX9_expression_78 rfl (lv_at hl 4 rfl) ?_
        refine cv_i (As := [.int x959, .int x]) (rest := [.int (nI t), .ref f943_17]) (b := w) ⟨hx, hb, hml, hown, hts⟩ (c_X9_fact hT (w := w) hw (x := x959) (y := x)) (cwV 2 hts gX9_expression_X9_fact rfl rfl rfl hdX9_fact_v ⟨Nat.le_of_ble_eq_true rfl, Nat.le_of_ble_eq_true rfl⟩) hN hE hL (rcv10 hN hT hw.1) rfl rfl hl.1 (Nat.le_of_ble_eq_true rfl) dX9_expression_79 (Nat.zero_le _) (Nat.zero_le _) (fun r960 H1 locs hL hqr960 => ?_)
        obtain rfl := hqr960.symm
        refine lv_i2l hx hb dX9_expression_82 rfl ?_
        refine gn_l (fun y961 => ?_)
        obtain ⟨hb962, e962, hat962, hk962⟩ := hT.o28 t943_17.1
        obtain ⟨g962, rfl⟩ := hk962
        have hP : va_P D vwCl [(f943_17, .inl (cs 3, 1200, .inr (.inl g962))), (w, .inr (9, [.int f943_0, .ref f943_1, .int (nI ((κ w).2.2.1)), .int (nI f943_3), .int (nI f943_4), .int f943_5, .int f943_6, .int f943_7, .ref (κ w).2.2.2, .ref f943_9, .ref f943_10, .ref f943_11, .int (nI f943_12), .int f943_13, .int f943_14, .int f943_15, .int f943_16, .ref f943_17])), ((κ w).2.2.2, .inl (cs 0, 45783, .inl g946))] _ := va_P.cons hat962 hP
        have hB : Bx B0 D _ [(f943_17, .inl (cs 3, 1200, .inr (.inl g962))), (w, .inr (9, [.int f943_0, .ref f943_1, .int (nI ((κ w).2.2.1)), .int (nI f943_3), .int (nI f943_4), .int f943_5, .int f943_6, .int f943_7, .ref (κ w).2.2.2, .ref f943_9, .ref f943_10, .ref f943_11, .int (nI f943_12), .int f943_13, .int f943_14, .int f943_15, .int f943_16, .ref f943_17])), ((κ w).2.2.2, .inl (cs 0, 45783, .inl g946))] [] _ _ := Bx.of (fun a => (κ a).1) hL hP (fa_c hb962 (fa_c hb943 (fa_c hb946 fa_n))) (by simp only [List.map_cons, List.map_nil, t943_17.1, hw.1, t943_8.1]; decide)
        refine b_l hx hb hN hB 0 rfl (vp_in_nI (n := t) (N := 1200) (by omega) (by omega)) (.inl rfl) dX9_expression_83 (fun H locs hB => ?_)
        rw [(show ((nI t) : Int32).toNatClampNeg = t from nI_clamp (n := t) (by omega))] at hB
        have hB : Bx B0 D _ [(f943_17, .inl (cs 3, 1200, .inr (.inl (vp_updL g962 t y961)))), (w, .inr (9, [.int f943_0, .ref f943_1, .int (nI ((κ w).2.2.1)), .int (nI f943_3), .int (nI f943_4), .int f943_5, .int f943_6, .int f943_7, .ref (κ w).2.2.2, .ref f943_9, .ref f943_10, .ref f943_11, .int (nI f943_12), .int f943_13, .int f943_14, .int f943_15, .int f943_16, .ref f943_17])), ((κ w).2.2.2, .inl (cs 0, 45783, .inl g946))] [f943_17] _ _ := hB
        generalize (vp_updL g962 t y961) = g963 at hB
        refine lv_iinc (v := (nI (t + 1))) (lv' := [(2, .int (nI (t + 1))), (3, .int (nI (i + 1))), (4, .int (g946 (183 + i))), (0, .ref w), (1, .int x)]) hx hb dX9_expression_84 hl (k := 2) rfl (nI_add _ 1) (by decide) rfl (fun ls hl => ?_)
        refine lv_goto (tgt := 120) hx hb dX9_expression_87 (by decide) ?_
        refine lv_iinc (v := (nI ((i + 1) + 1))) (lv' := [(3, .int (nI ((i + 1) + 1))), (2, .int (nI (t + 1))), (4, .int (g946 (183 + i))), (0, .ref w), (1, .int x)]) hx hb dX9_expression_120 hl (k := 1) rfl (nI_add _ 1) (by decide) rfl (fun ls hl => ?_)
        refine lv_goto (tgt := 11) hx hb dX9_expression_123 (by decide) ?_
        have hT : WT B0 D cs T κ _ := hT.close hB ⟨⟨0, _, rfl, ok_28 t943_17.1 ⟨_, rfl⟩⟩, trivial⟩
        have hF : Fr B0 [19] κ H0 _ := hF.close hB (fa_c (by simp [t943_17.2]) fa_n)
        have hL : OkL B0 _ := hB.2.2.2.2.2
        have hP : va_P D vwCl [(f943_17, .inl (cs 3, 1200, .inr (.inl g963))), (w, .inr (9, [.int f943_0, .ref f943_1, .int (nI ((κ w).2.2.1)), .int (nI f943_3), .int (nI f943_4), .int f943_5, .int f943_6, .int f943_7, .ref (κ w).2.2.2, .ref f943_9, .ref f943_10, .ref f943_11, .int (nI f943_12), .int f943_13, .int f943_14, .int f943_15, .int f943_16, .ref f943_17])), ((κ w).2.2.2, .inl (cs 0, 45783, .inl g946))] _ := hB.1
        exact ih947 (((i + 1) + 1), (t + 1)) _ _ _ (by show cn - (((i + 1) + 1)) < cn - i; omega) ⟨(by show (((i + 1) + 1)) ≤ cn; omega), (by show ht (((i + 1) + 1)) = ((t + 1)) + 1; omega), (by show ((t + 1)) ≤ (((i + 1) + 1)); omega), hT, hF, hL, (hP.sub [1, 2] rfl)⟩ (lv_sub hl [0, 1, 3, 4] rfl)
      · refine lv_aload_n hx hb dX9_expression_53 rfl (lv_at hl 3 rfl) ?_
        refine va_get (D := D) (ci := 9) (v := .ref (κ w).2.2.2) (C := RX9) (T := TX9) (N := 18) hx hb hts iX9_expression_9 hown hN.1 hP 0 rfl rfl 8 (by decide) (hts _ mX9_expression_2) (fun _ h9 => h9) rfl dX9_expression_54 ?_
        refine lv_sipush (v := 183) hx hb dX9_expression_57 (by decide) ?_
        refine lv_iload_n hx hb dX9_expression_60 rfl (lv_at hl 0 rfl) ?_
        refine lv_iadd hx hb dX9_expression_61 ?_
        refine tp_i (nI (183 + (i + 1))) (nI_add 183 (i + 1)) ?_
        refine ld_i (v := (g946 (183 + (i + 1)))) hx hb hN hP 1 rfl (vp_in_nI (n := (183 + (i + 1))) (N := 45783) (by omega) (by omega)) (by rw [(show ((nI (183 + (i + 1))) : Int32).toNatClampNeg = (183 + (i + 1)) from nI_clamp (n := (183 + (i + 1))) (by omega))]) dX9_expression_62 ?_
        refine gn_i (fun x964 => ?_)
        refine lv_i2l hx hb dX9_expression_63 rfl ?_
        refine gn_l (fun y965 => ?_)
        refine lv_goto (tgt := 83) hx hb dX9_expression_64 (by decide) ?_
        obtain ⟨hb966, e966, hat966, hk966⟩ := hT.o28 t943_17.1
        obtain ⟨g966, rfl⟩ := hk966
        have hP : va_P D vwCl [(f943_17, .inl (cs 3, 1200, .inr (.inl g966))), (w, .inr (9, [.int f943_0, .ref f943_1, .int (nI ((κ w).2.2.1)), .int (nI f943_3), .int (nI f943_4), .int f943_5, .int f943_6, .int f943_7, .ref (κ w).2.2.2, .ref f943_9, .ref f943_10, .ref f943_11, .int (nI f943_12), .int f943_13, .int f943_14, .int f943_15, .int f943_16, .ref f943_17])), ((κ w).2.2.2, .inl (cs 0, 45783, .inl g946))] _ := va_P.cons hat966 hP
        have hB : Bx B0 D _ [(f943_17, .inl (cs 3, 1200, .inr (.inl g966))), (w, .inr (9, [.int f943_0, .ref f943_1, .int (nI ((κ w).2.2.1)), .int (nI f943_3), .int (nI f943_4), .int f943_5, .int f943_6, .int f943_7, .ref (κ w).2.2.2, .ref f943_9, .ref f943_10, .ref f943_11, .int (nI f943_12), .int f943_13, .int f943_14, .int f943_15, .int f943_16, .ref f943_17])), ((κ w).2.2.2, .inl (cs 0, 45783, .inl g946))] [] _ _ := Bx.of (fun a => (κ a).1) hL hP (fa_c hb966 (fa_c hb943 (fa_c hb946 fa_n))) (by simp only [List.map_cons, List.map_nil, t943_17.1, hw.1, t943_8.1]; decide)
        refine b_l hx hb hN hB 0 rfl (vp_in_nI (n := t) (N := 1200) (by omega) (by omega)) (.inl rfl) dX9_expression_83 (fun H locs hB => ?_)
        rw [(show ((nI t) : Int32).toNatClampNeg = t from nI_clamp (n := t) (by omega))] at hB
        have hB : Bx B0 D _ [(f943_17, .inl (cs 3, 1200, .inr (.inl (vp_updL g966 t y965)))), (w, .inr (9, [.int f943_0, .ref f943_1, .int (nI ((κ w).2.2.1)), .int (nI f943_3), .int (nI f943_4), .int f943_5, .int f943_6, .int f943_7, .ref (κ w).2.2.2, .ref f943_9, .ref f943_10, .ref f943_11, .int (nI f943_12), .int f943_13, .int f943_14, .int f943_15, .int f943_16, .ref f943_17])), ((κ w).2.2.2, .inl (cs 0, 45783, .inl g946))] [f943_17] _ _ := hB
        generalize (vp_updL g966 t y965) = g967 at hB
        refine lv_iinc (v := (nI (t + 1))) (lv' := [(2, .int (nI (t + 1))), (3, .int (nI (i + 1))), (4, .int (g946 (183 + i))), (0, .ref w), (1, .int x)]) hx hb dX9_expression_84 hl (k := 2) rfl (nI_add _ 1) (by decide) rfl (fun ls hl => ?_)
        refine lv_goto (tgt := 120) hx hb dX9_expression_87 (by decide) ?_
        refine lv_iinc (v := (nI ((i + 1) + 1))) (lv' := [(3, .int (nI ((i + 1) + 1))), (2, .int (nI (t + 1))), (4, .int (g946 (183 + i))), (0, .ref w), (1, .int x)]) hx hb dX9_expression_120 hl (k := 1) rfl (nI_add _ 1) (by decide) rfl (fun ls hl => ?_)
        refine lv_goto (tgt := 11) hx hb dX9_expression_123 (by decide) ?_
        have hT : WT B0 D cs T κ _ := hT.close hB ⟨⟨0, _, rfl, ok_28 t943_17.1 ⟨_, rfl⟩⟩, trivial⟩
        have hF : Fr B0 [19] κ H0 _ := hF.close hB (fa_c (by simp [t943_17.2]) fa_n)
        have hL : OkL B0 _ := hB.2.2.2.2.2
        have hP : va_P D vwCl [(f943_17, .inl (cs 3, 1200, .inr (.inl g967))), (w, .inr (9, [.int f943_0, .ref f943_1, .int (nI ((κ w).2.2.1)), .int (nI f943_3), .int (nI f943_4), .int f943_5, .int f943_6, .int f943_7, .ref (κ w).2.2.2, .ref f943_9, .ref f943_10, .ref f943_11, .int (nI f943_12), .int f943_13, .int f943_14, .int f943_15, .int f943_16, .ref f943_17])), ((κ w).2.2.2, .inl (cs 0, 45783, .inl g946))] _ := hB.1
        exact ih947 (((i + 1) + 1), (t + 1)) _ _ _ (by show cn - (((i + 1) + 1)) < cn - i; omega) ⟨(by show (((i + 1) + 1)) ≤ cn; omega), (by show ht (((i + 1) + 1)) = ((t + 1)) + 1; omega), (by show ((t + 1)) ≤ (((i + 1) + 1)); omega), hT, hF, hL, (hP.sub [1, 2] rfl)⟩ (lv_sub hl [0, 1, 3, 4] rfl)
theorem mX9_margin_1 : (.fieldLink RX9 18 "OneBeatModel" "data" "[I" : Cond) ∈ wsX9_margin := List.mem_of_getElem? (i := 1) (by decide +kernel)
theorem iX9_margin_9 : ∀ w ∈ wsX90, w ∈ wsX9_margin := fun w h => List.mem_of_mem_drop (List.mem_of_mem_take ((show wsX90 = (wsX9_margin.drop 41).take 18 by decide +kernel) ▸ h))
theorem hdX9_min_o : yX9_min.cls ≠ "java/lang/invoke/MethodHandle" ∧ yX9_min.cls ≠ "java/lang/invoke/VarHandle" ∧ (parseMethodDescriptor yX9_min.desc).map (fun d => d.parameters.length) = some 2 := by decide +kernel
theorem hdX9_expression_v : yX9_expression.cls = RX9 ∧ yX9_expression.cls ≠ "java/lang/invoke/MethodHandle" ∧ yX9_expression.cls ≠ "java/lang/invoke/VarHandle" ∧ (parseMethodDescriptor yX9_expression.desc).map (fun d => d.parameters.length) = some 1 := by decide +kernel
set_option maxHeartbeats 4000000 in
set_option maxRecDepth 100000 in
theorem c_X9_margin {l : Launch} {D : va_G} {cs : Nat → ClassId} {B0 T : Nat} {κ : KM} {H0 : Heap} (hT : WT B0 D cs T κ H0) {w : Nat} (hw : T2 κ w 10 12) {x : Int32} : KC l yX9_margin wsX9_margin 5 110 0 0 D cs B0 H0 [.ref w, .int x] (Qi (fun _ H => WT B0 D cs T κ H ∧ Fr B0 [19] κ H0 H)) := by
  refine KC.of cX9_margin 2 (some .int) (by decide) rfl (Nat.le_of_ble_eq_true rfl) ?_
  intro p e s m below meth c ls hx hb hr hml hown hts hlocks hin hN hE hH0 hl
  have hown : s.vm.findClass RX9 = some m.cls := hown
  have hl : lv_has ls 2 [(0, .ref w), (1, .int x)] := hl
  have hL : OkL B0 [] := OkL.nil
  have hF : Fr B0 [19] κ H0 H0 := Fr.rf
  refine lv_iconst (v := 1) hx hb dX9_margin_0 (by decide) ?_
  refine lv_sipush (v := 1000) hx hb dX9_margin_1 (by decide) ?_
  refine lv_aload_n hx hb dX9_margin_4 rfl (lv_at hl 0 rfl) ?_
  obtain ⟨hb968, e968, hat968, hk968⟩ := hT.o10 hw.1
  obtain ⟨f968_0, f968_1, f968_3, f968_4, f968_5, f968_6, f968_7, f968_9, f968_10, f968_11, f968_12, f968_13, f968_14, f968_15, f968_16, f968_17, rfl, c968_2, c968_3, c968_4, c968_12, t968_1, t968_8, t968_9, c968_sd, t968_10, t968_11, t968_17⟩ := hk968
  have hP : va_P D vwCl [(w, .inr (9, [.int f968_0, .ref f968_1, .int (nI ((κ w).2.2.1)), .int (nI f968_3), .int (nI f968_4), .int f968_5, .int f968_6, .int f968_7, .ref (κ w).2.2.2, .ref f968_9, .ref f968_10, .ref f968_11, .int (nI f968_12), .int f968_13, .int f968_14, .int f968_15, .int f968_16, .ref f968_17]))] _ := va_P.cons hat968 va_P.nil
  refine va_get (D := D) (ci := 9) (v := .ref (κ w).2.2.2) (C := RX9) (T := TX9) (N := 18) hx hb hts iX9_margin_9 hown hN.1 hP 0 rfl rfl 8 (by decide) (hts _ mX9_margin_1) (fun _ h9 => h9) rfl dX9_margin_5 ?_
  refine lv_bipush (v := 13) hx hb dX9_margin_8 (by decide) ?_
  obtain ⟨hb969, e969, hat969, hk969⟩ := hT.o24 t968_8.1
  obtain ⟨g969, rfl, q969⟩ := hk969
  have hP : va_P D vwCl [((κ w).2.2.2, .inl (cs 0, 45783, .inl g969)), (w, .inr (9, [.int f968_0, .ref f968_1, .int (nI ((κ w).2.2.1)), .int (nI f968_3), .int (nI f968_4), .int f968_5, .int f968_6, .int f968_7, .ref (κ w).2.2.2, .ref f968_9, .ref f968_10, .ref f968_11, .int (nI f968_12), .int f968_13, .int f968_14, .int f968_15, .int f968_16, .ref f968_17]))] _ := va_P.cons hat969 hP
  refine ld_i (v := (g969 13)) hx hb hN hP 0 rfl (vp_in_nI (n := 13) (N := 45783) (by omega) (by omega)) (by rw [(show (13 : Int32).toNatClampNeg = 13 from nI_clamp (n := 13) (by omega))]) dX9_margin_10 ?_
  refine gn_i (fun x970 => ?_)
  refine lv_iconst (v := 1) hx hb dX9_margin_11 (by decide) ?_
  refine lv_icmp_ne (tgt := 23) hx hb dX9_margin_12 (by decide) (fun c971 => ?_) (fun c971 => ?_)
  · refine lv_iconst (v := 2) hx hb dX9_margin_23 (by decide) ?_
    refine lv_aload_n hx hb dX9_margin_24 rfl (lv_at hl 0 rfl) ?_
    refine cv_i (As := []) (rest := [.int 2, .int 1000, .int 1]) (b := w) ⟨hx, hb, hml, hown, hts⟩ (c_X9_longestDelay hT (w := w) hw) (cwV 0 hts gX9_margin_X9_longestDelay rfl rfl rfl hdX9_longestDelay_v ⟨Nat.le_of_ble_eq_true rfl, Nat.le_of_ble_eq_true rfl⟩) hN hE hL (rcv10 hN hT hw.1) rfl rfl hl.1 (Nat.le_of_ble_eq_true rfl) dX9_margin_25 (Nat.zero_le _) (Nat.zero_le _) (fun r972 H1 locs hL hqr972 => ?_)
    obtain rfl := hqr972.symm
    refine lv_imul hx hb dX9_margin_28 ?_
    refine gn_i (fun x973 => ?_)
    refine lv_iconst (v := 1) hx hb dX9_margin_29 (by decide) ?_
    refine lv_iadd hx hb dX9_margin_30 ?_
    refine gn_i (fun x974 => ?_)
    refine cs_i (As := [.int 1000, .int x974]) (rest := [.int 1]) ⟨hx, hb, hml, hown, hts⟩ (c_X9_min hT (x := 1000) (y := x974)) (va_cwS 2 hts gX9_margin_X9_min rfl rfl rfl hdX9_min_o ⟨Nat.le_of_ble_eq_true rfl, Nat.le_of_ble_eq_true rfl⟩) hN hE hL rfl rfl hl.1 (Nat.le_of_ble_eq_true rfl) dX9_margin_31 (Nat.zero_le _) (Nat.zero_le _) (fun r975 H1 locs hL hqr975 => ?_)
    obtain rfl := hqr975.symm
    refine cs_i (As := [.int 1, .int r975]) (rest := []) ⟨hx, hb, hml, hown, hts⟩ (c_X9_max hT (x := 1) (y := r975)) (va_cwS 2 hts gX9_margin_X9_max rfl rfl rfl hdX9_max_o ⟨Nat.le_of_ble_eq_true rfl, Nat.le_of_ble_eq_true rfl⟩) hN hE hL rfl rfl hl.1 (Nat.le_of_ble_eq_true rfl) dX9_margin_34 (Nat.zero_le _) (Nat.zero_le _) (fun r976 H1 locs hL hqr976 => ?_)
    obtain rfl := hqr976.symm
    exact en_i hx hb hr hlocks hL rfl (Nat.zero_le _) (Nat.zero_le _) dX9_margin_37 (⟨hT, hF⟩)
  · refine lv_aload_n hx hb dX9_margin_15 rfl (lv_at hl 0 rfl) ?_
    refine lv_iload_n hx hb dX9_margin_16 rfl (lv_at hl 1 rfl) ?_
    refine cv_i (As := [.int x]) (rest := [.int 1000, .int 1]) (b := w) ⟨hx, hb, hml, hown, hts⟩ (c_X9_expression hT (w := w) hw (x := x)) (cwV 1 hts gX9_margin_X9_expression rfl rfl rfl hdX9_expression_v ⟨Nat.le_of_ble_eq_true rfl, Nat.le_of_ble_eq_true rfl⟩) hN hE hL (rcv10 hN hT hw.1) rfl rfl hl.1 (Nat.le_of_ble_eq_true rfl) dX9_margin_17 (Nat.zero_le _) (Nat.zero_le _) (fun r977 H1 locs hL hqr977 => ?_)
    obtain ⟨hT1, hF1⟩ := hqr977
    have hP : va_P D vwCl [((κ w).2.2.2, .inl (cs 0, 45783, .inl g969)), (w, .inr (9, [.int f968_0, .ref f968_1, .int (nI ((κ w).2.2.1)), .int (nI f968_3), .int (nI f968_4), .int f968_5, .int f968_6, .int f968_7, .ref (κ w).2.2.2, .ref f968_9, .ref f968_10, .ref f968_11, .int (nI f968_12), .int f968_13, .int f968_14, .int f968_15, .int f968_16, .ref f968_17]))] _ := hF1.hP (hP.sub [0, 1] rfl) (fa_c ⟨by rw [t968_8.1]; decide, by rw [t968_8.2]; first | decide | (simp; done) | (simp [h15a, h15b, h15c]; done) | (simp; omega)⟩ (fa_c ⟨by rw [hw.1]; decide, by rw [hw.2]; first | decide | (simp; done) | (simp [h15a, h15b, h15c]; done) | (simp; omega)⟩ fa_n))
    have hF := hF.tr (hF1.mono (by simp))
    have hT := hT1
    refine lv_goto (tgt := 31) hx hb dX9_margin_20 (by decide) ?_
    refine cs_i (As := [.int 1000, .int r977]) (rest := [.int 1]) ⟨hx, hb, hml, hown, hts⟩ (c_X9_min hT (x := 1000) (y := r977)) (va_cwS 2 hts gX9_margin_X9_min rfl rfl rfl hdX9_min_o ⟨Nat.le_of_ble_eq_true rfl, Nat.le_of_ble_eq_true rfl⟩) hN hE hL rfl rfl hl.1 (Nat.le_of_ble_eq_true rfl) dX9_margin_31 (Nat.zero_le _) (Nat.zero_le _) (fun r978 H1 locs hL hqr978 => ?_)
    obtain rfl := hqr978.symm
    refine cs_i (As := [.int 1, .int r978]) (rest := []) ⟨hx, hb, hml, hown, hts⟩ (c_X9_max hT (x := 1) (y := r978)) (va_cwS 2 hts gX9_margin_X9_max rfl rfl rfl hdX9_max_o ⟨Nat.le_of_ble_eq_true rfl, Nat.le_of_ble_eq_true rfl⟩) hN hE hL rfl rfl hl.1 (Nat.le_of_ble_eq_true rfl) dX9_margin_34 (Nat.zero_le _) (Nat.zero_le _) (fun r979 H1 locs hL hqr979 => ?_)
    obtain rfl := hqr979.symm
    exact en_i hx hb hr hlocks hL rfl (Nat.zero_le _) (Nat.zero_le _) dX9_margin_37 (⟨hT, hF⟩)
theorem mX9_told_1 : (.fieldLink RX9 18 "OneBeatModel" "data" "[I" : Cond) ∈ wsX9_told := List.mem_of_getElem? (i := 1) (by decide +kernel)
theorem iX9_told_9 : ∀ w ∈ wsX90, w ∈ wsX9_told := fun w h => List.mem_of_mem_drop (List.mem_of_mem_take ((show wsX90 = (wsX9_told.drop 53).take 18 by decide +kernel) ▸ h))
theorem sw_9_12 {x : Int32} (h : ¬ (x.toInt < (9 : Int) ∨ (12 : Int) < x.toInt)) : x = 9 ∨ x = 10 ∨ x = 11 ∨ x = 12 := by
  have h2 : x.toInt = (9 : Int) ∨ x.toInt = (10 : Int) ∨ x.toInt = (11 : Int) ∨ x.toInt = (12 : Int) := by omega
  rcases h2 with h2 | h2 | h2 | h2
  · exact Or.inl (Int32.toInt_inj.mp (h2.trans (by decide)))
  · exact Or.inr (Or.inl (Int32.toInt_inj.mp (h2.trans (by decide))))
  · exact Or.inr (Or.inr (Or.inl (Int32.toInt_inj.mp (h2.trans (by decide)))))
  · exact Or.inr (Or.inr (Or.inr ((Int32.toInt_inj.mp (h2.trans (by decide))))))
theorem hdX9_songs_v : yX9_songs.cls = RX9 ∧ yX9_songs.cls ≠ "java/lang/invoke/MethodHandle" ∧ yX9_songs.cls ≠ "java/lang/invoke/VarHandle" ∧ (parseMethodDescriptor yX9_songs.desc).map (fun d => d.parameters.length) = some 0 := by decide +kernel
theorem hdX9_margin_v : yX9_margin.cls = RX9 ∧ yX9_margin.cls ≠ "java/lang/invoke/MethodHandle" ∧ yX9_margin.cls ≠ "java/lang/invoke/VarHandle" ∧ (parseMethodDescriptor yX9_margin.desc).map (fun d => d.parameters.length) = some 1 := by decide +kernel
set_option maxHeartbeats 4000000 in
set_option maxRecDepth 100000 in
theorem c_X9_told {l : Launch} {D : va_G} {cs : Nat → ClassId} {B0 T : Nat} {κ : KM} {H0 : Heap} (hT : WT B0 D cs T κ H0) {w : Nat} (hw : T2 κ w 10 12) {n : Nat} (qn : n ≤ 12) : KC l yX9_told wsX9_told 6 131 0 0 D cs B0 H0 [.ref w, .int (nI n)] (Qi (fun _ H => WT B0 D cs T κ H ∧ Fr B0 [19] κ H0 H)) := by
  refine KC.of cX9_told 2 (some .int) (by decide) rfl (Nat.le_of_ble_eq_true rfl) ?_
  intro p e s m below meth c ls hx hb hr hml hown hts hlocks hin hN hE hH0 hl
  have hown : s.vm.findClass RX9 = some m.cls := hown
  have hl : lv_has ls 2 [(0, .ref w), (1, .int (nI n))] := hl
  have hL : OkL B0 [] := OkL.nil
  have hF : Fr B0 [19] κ H0 H0 := Fr.rf
  refine lv_iload_n hx hb dX9_told_0 rfl (lv_at hl 1 rfl) ?_
  by_cases c980 : ((nI n) : Int32).toInt < (9 : Int) ∨ (12 : Int) < ((nI n) : Int32).toInt
  · refine lv_tableOut (tgt := 59) hx hb dX9_told_1 c980 (by decide) ?_
    refine lv_aload_n hx hb dX9_told_59 rfl (lv_at hl 0 rfl) ?_
    obtain ⟨hb981, e981, hat981, hk981⟩ := hT.o10 hw.1
    obtain ⟨f981_0, f981_1, f981_3, f981_4, f981_5, f981_6, f981_7, f981_9, f981_10, f981_11, f981_12, f981_13, f981_14, f981_15, f981_16, f981_17, rfl, c981_2, c981_3, c981_4, c981_12, t981_1, t981_8, t981_9, c981_sd, t981_10, t981_11, t981_17⟩ := hk981
    have hP : va_P D vwCl [(w, .inr (9, [.int f981_0, .ref f981_1, .int (nI ((κ w).2.2.1)), .int (nI f981_3), .int (nI f981_4), .int f981_5, .int f981_6, .int f981_7, .ref (κ w).2.2.2, .ref f981_9, .ref f981_10, .ref f981_11, .int (nI f981_12), .int f981_13, .int f981_14, .int f981_15, .int f981_16, .ref f981_17]))] _ := va_P.cons hat981 va_P.nil
    refine va_get (D := D) (ci := 9) (v := .ref (κ w).2.2.2) (C := RX9) (T := TX9) (N := 18) hx hb hts iX9_told_9 hown hN.1 hP 0 rfl rfl 8 (by decide) (hts _ mX9_told_1) (fun _ h9 => h9) rfl dX9_told_60 ?_
    refine lv_iload_n hx hb dX9_told_63 rfl (lv_at hl 1 rfl) ?_
    obtain ⟨hb982, e982, hat982, hk982⟩ := hT.o24 t981_8.1
    obtain ⟨g982, rfl, q982⟩ := hk982
    have hP : va_P D vwCl [((κ w).2.2.2, .inl (cs 0, 45783, .inl g982)), (w, .inr (9, [.int f981_0, .ref f981_1, .int (nI ((κ w).2.2.1)), .int (nI f981_3), .int (nI f981_4), .int f981_5, .int f981_6, .int f981_7, .ref (κ w).2.2.2, .ref f981_9, .ref f981_10, .ref f981_11, .int (nI f981_12), .int f981_13, .int f981_14, .int f981_15, .int f981_16, .ref f981_17]))] _ := va_P.cons hat982 hP
    refine ld_i (v := (g982 n)) hx hb hN hP 0 rfl (vp_in_nI (n := n) (N := 45783) (by omega) (by omega)) (by rw [(show ((nI n) : Int32).toNatClampNeg = n from nI_clamp (n := n) (by omega))]) dX9_told_64 ?_
    refine gn_i (fun x983 => ?_)
    exact en_i hx hb hr hlocks hL rfl (Nat.zero_le _) (Nat.zero_le _) dX9_told_65 (⟨hT, hF⟩)
  · rcases sw_9_12 c980 with e9 | e9 | e9 | e9
    · refine tp_i 9 e9 ?_
      refine lv_tableIn (tgt := 32) (off := 31) hx hb dX9_told_1 (by decide) (by decide) (by decide) (by decide) ?_
      refine lv_aload_n hx hb dX9_told_32 rfl (lv_at hl 0 rfl) ?_
      refine cv_i (As := []) (rest := []) (b := w) ⟨hx, hb, hml, hown, hts⟩ (c_X9_songs hT (w := w) hw) (cwV 0 hts gX9_told_X9_songs rfl rfl rfl hdX9_songs_v ⟨Nat.le_of_ble_eq_true rfl, Nat.le_of_ble_eq_true rfl⟩) hN hE hL (rcv10 hN hT hw.1) rfl rfl hl.1 (Nat.le_of_ble_eq_true rfl) dX9_told_33 (Nat.zero_le _) (Nat.zero_le _) (fun r984 H1 locs hL hqr984 => ?_)
      obtain rfl := hqr984.symm
      exact en_i hx hb hr hlocks hL rfl (Nat.zero_le _) (Nat.zero_le _) dX9_told_36 (⟨hT, hF⟩)
    · refine tp_i 10 e9 ?_
      refine lv_tableIn (tgt := 37) (off := 36) hx hb dX9_told_1 (by decide) (by decide) (by decide) (by decide) ?_
      refine lv_aload_n hx hb dX9_told_37 rfl (lv_at hl 0 rfl) ?_
      obtain ⟨hb985, e985, hat985, hk985⟩ := hT.o10 hw.1
      obtain ⟨f985_0, f985_1, f985_3, f985_4, f985_5, f985_6, f985_7, f985_9, f985_10, f985_11, f985_12, f985_13, f985_14, f985_15, f985_16, f985_17, rfl, c985_2, c985_3, c985_4, c985_12, t985_1, t985_8, t985_9, c985_sd, t985_10, t985_11, t985_17⟩ := hk985
      have hP : va_P D vwCl [(w, .inr (9, [.int f985_0, .ref f985_1, .int (nI ((κ w).2.2.1)), .int (nI f985_3), .int (nI f985_4), .int f985_5, .int f985_6, .int f985_7, .ref (κ w).2.2.2, .ref f985_9, .ref f985_10, .ref f985_11, .int (nI f985_12), .int f985_13, .int f985_14, .int f985_15, .int f985_16, .ref f985_17]))] _ := va_P.cons hat985 va_P.nil
      refine va_get (D := D) (ci := 9) (v := .ref (κ w).2.2.2) (C := RX9) (T := TX9) (N := 18) hx hb hts iX9_told_9 hown hN.1 hP 0 rfl rfl 8 (by decide) (hts _ mX9_told_1) (fun _ h9 => h9) rfl dX9_told_38 ?_
      refine lv_bipush (v := 9) hx hb dX9_told_41 (by decide) ?_
      obtain ⟨hb986, e986, hat986, hk986⟩ := hT.o24 t985_8.1
      obtain ⟨g986, rfl, q986⟩ := hk986
      have hP : va_P D vwCl [((κ w).2.2.2, .inl (cs 0, 45783, .inl g986)), (w, .inr (9, [.int f985_0, .ref f985_1, .int (nI ((κ w).2.2.1)), .int (nI f985_3), .int (nI f985_4), .int f985_5, .int f985_6, .int f985_7, .ref (κ w).2.2.2, .ref f985_9, .ref f985_10, .ref f985_11, .int (nI f985_12), .int f985_13, .int f985_14, .int f985_15, .int f985_16, .ref f985_17]))] _ := va_P.cons hat986 hP
      refine ld_i (v := (g986 9)) hx hb hN hP 0 rfl (vp_in_nI (n := 9) (N := 45783) (by omega) (by omega)) (by rw [(show (9 : Int32).toNatClampNeg = 9 from nI_clamp (n := 9) (by omega))]) dX9_told_43 ?_
      refine gn_i (fun x987 => ?_)
      exact en_i hx hb hr hlocks hL rfl (Nat.zero_le _) (Nat.zero_le _) dX9_told_44 (⟨hT, hF⟩)
    · refine tp_i 11 e9 ?_
      refine lv_tableIn (tgt := 45) (off := 44) hx hb dX9_told_1 (by decide) (by decide) (by decide) (by decide) ?_
      refine lv_aload_n hx hb dX9_told_45 rfl (lv_at hl 0 rfl) ?_
      obtain ⟨hb988, e988, hat988, hk988⟩ := hT.o10 hw.1
      obtain ⟨f988_0, f988_1, f988_3, f988_4, f988_5, f988_6, f988_7, f988_9, f988_10, f988_11, f988_12, f988_13, f988_14, f988_15, f988_16, f988_17, rfl, c988_2, c988_3, c988_4, c988_12, t988_1, t988_8, t988_9, c988_sd, t988_10, t988_11, t988_17⟩ := hk988
      have hP : va_P D vwCl [(w, .inr (9, [.int f988_0, .ref f988_1, .int (nI ((κ w).2.2.1)), .int (nI f988_3), .int (nI f988_4), .int f988_5, .int f988_6, .int f988_7, .ref (κ w).2.2.2, .ref f988_9, .ref f988_10, .ref f988_11, .int (nI f988_12), .int f988_13, .int f988_14, .int f988_15, .int f988_16, .ref f988_17]))] _ := va_P.cons hat988 va_P.nil
      refine va_get (D := D) (ci := 9) (v := .ref (κ w).2.2.2) (C := RX9) (T := TX9) (N := 18) hx hb hts iX9_told_9 hown hN.1 hP 0 rfl rfl 8 (by decide) (hts _ mX9_told_1) (fun _ h9 => h9) rfl dX9_told_46 ?_
      refine lv_bipush (v := 10) hx hb dX9_told_49 (by decide) ?_
      obtain ⟨hb989, e989, hat989, hk989⟩ := hT.o24 t988_8.1
      obtain ⟨g989, rfl, q989⟩ := hk989
      have hP : va_P D vwCl [((κ w).2.2.2, .inl (cs 0, 45783, .inl g989)), (w, .inr (9, [.int f988_0, .ref f988_1, .int (nI ((κ w).2.2.1)), .int (nI f988_3), .int (nI f988_4), .int f988_5, .int f988_6, .int f988_7, .ref (κ w).2.2.2, .ref f988_9, .ref f988_10, .ref f988_11, .int (nI f988_12), .int f988_13, .int f988_14, .int f988_15, .int f988_16, .ref f988_17]))] _ := va_P.cons hat989 hP
      refine ld_i (v := (g989 10)) hx hb hN hP 0 rfl (vp_in_nI (n := 10) (N := 45783) (by omega) (by omega)) (by rw [(show (10 : Int32).toNatClampNeg = 10 from nI_clamp (n := 10) (by omega))]) dX9_told_51 ?_
      refine gn_i (fun x990 => ?_)
      exact en_i hx hb hr hlocks hL rfl (Nat.zero_le _) (Nat.zero_le _) dX9_told_52 (⟨hT, hF⟩)
    · refine tp_i 12 e9 ?_
      refine lv_tableIn (tgt := 53) (off := 52) hx hb dX9_told_1 (by decide) (by decide) (by decide) (by decide) ?_
      refine lv_aload_n hx hb dX9_told_53 rfl (lv_at hl 0 rfl) ?_
      refine lv_iconst (v := 1) hx hb dX9_told_54 (by decide) ?_
      refine cv_i (As := [.int 1]) (rest := []) (b := w) ⟨hx, hb, hml, hown, hts⟩ (c_X9_margin hT (w := w) hw (x := 1)) (cwV 1 hts gX9_told_X9_margin rfl rfl rfl hdX9_margin_v ⟨Nat.le_of_ble_eq_true rfl, Nat.le_of_ble_eq_true rfl⟩) hN hE hL (rcv10 hN hT hw.1) rfl rfl hl.1 (Nat.le_of_ble_eq_true rfl) dX9_told_55 (Nat.zero_le _) (Nat.zero_le _) (fun r991 H1 locs hL hqr991 => ?_)
      obtain ⟨hT1, hF1⟩ := hqr991
      have hF := hF.tr (hF1.mono (by simp))
      have hT := hT1
      exact en_i hx hb hr hlocks hL rfl (Nat.zero_le _) (Nat.zero_le _) dX9_told_58 (⟨hT, hF⟩)
theorem mX9_state_1 : (.fieldLink RX9 40 "OneBeatModel" "thrown" "I" : Cond) ∈ wsX9_state := List.mem_of_getElem? (i := 1) (by decide +kernel)
theorem iX9_state_9 : ∀ w ∈ wsX90, w ∈ wsX9_state := fun w h => List.mem_of_mem_drop (List.mem_of_mem_take ((show wsX90 = (wsX9_state.drop 65).take 18 by decide +kernel) ▸ h))
theorem hdX9_told_v : yX9_told.cls = RX9 ∧ yX9_told.cls ≠ "java/lang/invoke/MethodHandle" ∧ yX9_told.cls ≠ "java/lang/invoke/VarHandle" ∧ (parseMethodDescriptor yX9_told.desc).map (fun d => d.parameters.length) = some 1 := by decide +kernel
set_option maxHeartbeats 4000000 in
set_option maxRecDepth 100000 in
theorem c_X9_state {l : Launch} {D : va_G} {cs : Nat → ClassId} {B0 T : Nat} {κ : KM} {H0 : Heap} (hT : WT B0 D cs T κ H0) {w : Nat} (hw : T2 κ w 10 12) {x : Int32} : KC l yX9_state wsX9_state 7 152 0 0 D cs B0 H0 [.ref w, .int x] (Qi (fun _ H => WT B0 D cs T κ H ∧ Fr B0 [12, 19] κ H0 H)) := by
  refine KC.of cX9_state 2 (some .int) (by decide) rfl (Nat.le_of_ble_eq_true rfl) ?_
  intro p e s m below meth c ls hx hb hr hml hown hts hlocks hin hN hE hH0 hl
  have hown : s.vm.findClass RX9 = some m.cls := hown
  have hl : lv_has ls 2 [(0, .ref w), (1, .int x)] := hl
  have hL : OkL B0 [] := OkL.nil
  have hF : Fr B0 [12, 19] κ H0 H0 := Fr.rf
  refine lv_aload_n hx hb dX9_state_0 rfl (lv_at hl 0 rfl) ?_
  refine lv_iconst (v := 0) hx hb dX9_state_1 (by decide) ?_
  obtain ⟨hb992, e992, hat992, hk992⟩ := hT.o10 hw.1
  obtain ⟨f992_0, f992_1, f992_3, f992_4, f992_5, f992_6, f992_7, f992_9, f992_10, f992_11, f992_12, f992_13, f992_14, f992_15, f992_16, f992_17, rfl, c992_2, c992_3, c992_4, c992_12, t992_1, t992_8, t992_9, c992_sd, t992_10, t992_11, t992_17⟩ := hk992
  have hP : va_P D vwCl [(w, .inr (9, [.int f992_0, .ref f992_1, .int (nI ((κ w).2.2.1)), .int (nI f992_3), .int (nI f992_4), .int f992_5, .int f992_6, .int f992_7, .ref (κ w).2.2.2, .ref f992_9, .ref f992_10, .ref f992_11, .int (nI f992_12), .int f992_13, .int f992_14, .int f992_15, .int f992_16, .ref f992_17]))] _ := va_P.cons hat992 va_P.nil
  have hB : Bx B0 D _ [(w, .inr (9, [.int f992_0, .ref f992_1, .int (nI ((κ w).2.2.1)), .int (nI f992_3), .int (nI f992_4), .int f992_5, .int f992_6, .int f992_7, .ref (κ w).2.2.2, .ref f992_9, .ref f992_10, .ref f992_11, .int (nI f992_12), .int f992_13, .int f992_14, .int f992_15, .int f992_16, .ref f992_17]))] [] _ _ := Bx.of (fun a => (κ a).1) hL hP (fa_c hb992 fa_n) (by simp only [List.map_cons, List.map_nil, hw.1]; decide)
  refine b_put (D := D) (ci := 9) (v := .int 0) (ty := .int) (C := RX9) (T := TX9) (N := 18) hx hb hts iX9_state_9 tyX9 tyX9_ok nmX9 hown hN hB 0 rfl rfl 0 (by decide) (hts _ mX9_state_1) (fun _ h9 => h9) rfl (by decide +kernel) rfl rfl (Nat.le_of_ble_eq_true rfl) (.inl rfl) dX9_state_2 (fun H locs hB => ?_)
  have hB : Bx B0 D _ [(w, .inr (9, [.int 0, .ref f992_1, .int (nI ((κ w).2.2.1)), .int (nI f992_3), .int (nI f992_4), .int f992_5, .int f992_6, .int f992_7, .ref (κ w).2.2.2, .ref f992_9, .ref f992_10, .ref f992_11, .int (nI f992_12), .int f992_13, .int f992_14, .int f992_15, .int f992_16, .ref f992_17]))] [w] _ _ := hB
  refine lv_aload_n hx hb dX9_state_5 rfl (lv_at hl 0 rfl) ?_
  refine lv_iload_n hx hb dX9_state_6 rfl (lv_at hl 1 rfl) ?_
  refine lv_iconst (v := 0) hx hb dX9_state_7 (by decide) ?_
  refine lv_bipush (v := 12) hx hb dX9_state_8 (by decide) ?_
  have hT : WT B0 D cs T κ _ := hT.close hB ⟨⟨0, _, rfl, ok_10 hw.1 ⟨_, _, _, _, _, _, _, _, _, _, _, _, _, _, _, _, rfl, (by omega), (by omega), (by omega), (by omega), t992_1, t992_8, t992_9, c992_sd, t992_10, t992_11, t992_17⟩⟩, trivial⟩
  have hF : Fr B0 [12, 19] κ H0 _ := hF.close hB (fa_c (by simp [hw.2]) fa_n)
  have hL : OkL B0 _ := hB.2.2.2.2.2
  have hP : va_P D vwCl [(w, .inr (9, [.int 0, .ref f992_1, .int (nI ((κ w).2.2.1)), .int (nI f992_3), .int (nI f992_4), .int f992_5, .int f992_6, .int f992_7, .ref (κ w).2.2.2, .ref f992_9, .ref f992_10, .ref f992_11, .int (nI f992_12), .int f992_13, .int f992_14, .int f992_15, .int f992_16, .ref f992_17]))] _ := hB.1
  refine cs_i (As := [.int x, .int 0, .int 12]) (rest := [.ref w]) ⟨hx, hb, hml, hown, hts⟩ (c_X9_in hT (x := x) (y := 0) (z := 12)) (va_cwS 3 hts gX9_state_X9_in rfl rfl rfl hdX9_in_o ⟨Nat.le_of_ble_eq_true rfl, Nat.le_of_ble_eq_true rfl⟩) hN hE hL rfl rfl hl.1 (Nat.le_of_ble_eq_true rfl) dX9_state_10 (Nat.zero_le _) (Nat.zero_le _) (fun r993 H1 locs hL hqr993 => ?_)
  obtain ⟨h9, hqr993⟩ := hqr993; replace h9 := h9.symm; subst h9
  rcases hqr993 with ⟨rfl, o994⟩ | ⟨rfl, l995, g996⟩
  · refine lv_if_ne (tgt := 20) hx hb dX9_state_13 (by decide) (fun c9 => absurd (by decide) c9) (fun _ => ?_)
    refine lv_iconst (v := 1) hx hb dX9_state_16 (by decide) ?_
    refine lv_goto (tgt := 21) hx hb dX9_state_17 (by decide) ?_
    refine lv_iconst (v := 1) hx hb dX9_state_21 (by decide) ?_
    refine cv_i (As := [.int 1, .int 1]) (rest := []) (b := w) ⟨hx, hb, hml, hown, hts⟩ (c_X9_fails hT (w := w) hw (x := 1) (z := 1) ((by decide))) (cwV 2 hts gX9_state_X9_fails rfl rfl rfl hdX9_fails_v ⟨Nat.le_of_ble_eq_true rfl, Nat.le_of_ble_eq_true rfl⟩) hN hE hL (rcv10 hN hT hw.1) rfl rfl hl.1 (Nat.le_of_ble_eq_true rfl) dX9_state_22 (Nat.zero_le _) (Nat.zero_le _) (fun r997 H1 locs hL hqr997 => ?_)
    obtain ⟨hT1, hF1, hqr997⟩ := hqr997
    have hF := hF.tr (hF1.mono (by simp))
    have hT := hT1
    rcases hqr997 with rfl | ⟨rfl, e998⟩
    · refine lv_if_eq (tgt := 32) hx hb dX9_state_25 (by decide) (fun c9 => absurd c9 (by decide)) (fun _ => ?_)
      refine lv_iconst (v := 0) hx hb dX9_state_28 (by decide) ?_
      refine lv_goto (tgt := 37) hx hb dX9_state_29 (by decide) ?_
      exact en_i hx hb hr hlocks hL rfl (Nat.zero_le _) (Nat.zero_le _) dX9_state_37 (⟨hT, hF⟩)
    · exact absurd e998 (by decide)
  · refine lv_if_ne (tgt := 20) hx hb dX9_state_13 (by decide) (fun _ => ?_) (fun c9 => absurd c9 (by decide))
    refine lv_iconst (v := 0) hx hb dX9_state_20 (by decide) ?_
    refine lv_iconst (v := 1) hx hb dX9_state_21 (by decide) ?_
    refine cv_i (As := [.int 0, .int 1]) (rest := []) (b := w) ⟨hx, hb, hml, hown, hts⟩ (c_X9_fails hT (w := w) hw (x := 0) (z := 1) ((by decide))) (cwV 2 hts gX9_state_X9_fails rfl rfl rfl hdX9_fails_v ⟨Nat.le_of_ble_eq_true rfl, Nat.le_of_ble_eq_true rfl⟩) hN hE hL (rcv10 hN hT hw.1) rfl rfl hl.1 (Nat.le_of_ble_eq_true rfl) dX9_state_22 (Nat.zero_le _) (Nat.zero_le _) (fun r999 H1 locs hL hqr999 => ?_)
    obtain ⟨hT1, hF1, hqr999⟩ := hqr999
    have hF := hF.tr (hF1.mono (by simp))
    have hT := hT1
    rcases hqr999 with rfl | ⟨rfl, e1000⟩
    · refine lv_if_eq (tgt := 32) hx hb dX9_state_25 (by decide) (fun c9 => absurd c9 (by decide)) (fun _ => ?_)
      refine lv_iconst (v := 0) hx hb dX9_state_28 (by decide) ?_
      refine lv_goto (tgt := 37) hx hb dX9_state_29 (by decide) ?_
      exact en_i hx hb hr hlocks hL rfl (Nat.zero_le _) (Nat.zero_le _) dX9_state_37 (⟨hT, hF⟩)
    · refine lv_if_eq (tgt := 32) hx hb dX9_state_25 (by decide) (fun _ => ?_) (fun c9 => absurd (by decide) c9)
      obtain ⟨n1001, ln1001, hn1001, rfl⟩ := rng (lo := 0) (hi := 12) (by decide) (by decide) l995 g996
      refine lv_aload_n hx hb dX9_state_32 rfl (lv_at hl 0 rfl) ?_
      refine lv_iload_n hx hb dX9_state_33 rfl (lv_at hl 1 rfl) ?_
      refine cv_i (As := [.int (nI n1001)]) (rest := []) (b := w) ⟨hx, hb, hml, hown, hts⟩ (c_X9_told hT (w := w) hw (n := n1001) (by first | omega | decide | assumption)) (cwV 1 hts gX9_state_X9_told rfl rfl rfl hdX9_told_v ⟨Nat.le_of_ble_eq_true rfl, Nat.le_of_ble_eq_true rfl⟩) hN hE hL (rcv10 hN hT hw.1) rfl rfl hl.1 (Nat.le_of_ble_eq_true rfl) dX9_state_34 (Nat.zero_le _) (Nat.zero_le _) (fun r1002 H1 locs hL hqr1002 => ?_)
      obtain ⟨hT1, hF1⟩ := hqr1002
      have hF := hF.tr (hF1.mono (by simp))
      have hT := hT1
      exact en_i hx hb hr hlocks hL rfl (Nat.zero_le _) (Nat.zero_le _) dX9_state_37 (⟨hT, hF⟩)
theorem mX9_player_1 : (.fieldLink RX9 40 "OneBeatModel" "thrown" "I" : Cond) ∈ wsX9_player := List.mem_of_getElem? (i := 1) (by decide +kernel)
theorem iX9_player_9 : ∀ w ∈ wsX90, w ∈ wsX9_player := fun w h => List.mem_of_mem_drop (List.mem_of_mem_take ((show wsX90 = (wsX9_player.drop 34).take 18 by decide +kernel) ▸ h))
theorem hdX9_noPlayer_v : yX9_noPlayer.cls = RX9 ∧ yX9_noPlayer.cls ≠ "java/lang/invoke/MethodHandle" ∧ yX9_noPlayer.cls ≠ "java/lang/invoke/VarHandle" ∧ (parseMethodDescriptor yX9_noPlayer.desc).map (fun d => d.parameters.length) = some 1 := by decide +kernel
theorem hdX9_toldPlayer_v : yX9_toldPlayer.cls = RX9 ∧ yX9_toldPlayer.cls ≠ "java/lang/invoke/MethodHandle" ∧ yX9_toldPlayer.cls ≠ "java/lang/invoke/VarHandle" ∧ (parseMethodDescriptor yX9_toldPlayer.desc).map (fun d => d.parameters.length) = some 2 := by decide +kernel
set_option maxHeartbeats 4000000 in
set_option maxRecDepth 100000 in
theorem c_X9_player {l : Launch} {D : va_G} {cs : Nat → ClassId} {B0 T : Nat} {κ : KM} {H0 : Heap} (hT : WT B0 D cs T κ H0) {w : Nat} (hw : T2 κ w 10 12) {x : Int32} {y : Int32} : KC l yX9_player wsX9_player 5 106 0 0 D cs B0 H0 [.ref w, .int x, .int y] (Qi (fun _ H => WT B0 D cs T κ H ∧ Fr B0 [12] κ H0 H)) := by
  refine KC.of cX9_player 3 (some .int) (by decide) rfl (Nat.le_of_ble_eq_true rfl) ?_
  intro p e s m below meth c ls hx hb hr hml hown hts hlocks hin hN hE hH0 hl
  have hown : s.vm.findClass RX9 = some m.cls := hown
  have hl : lv_has ls 3 [(0, .ref w), (1, .int x), (2, .int y)] := hl
  have hL : OkL B0 [] := OkL.nil
  have hF : Fr B0 [12] κ H0 H0 := Fr.rf
  refine lv_aload_n hx hb dX9_player_0 rfl (lv_at hl 0 rfl) ?_
  refine lv_iconst (v := 0) hx hb dX9_player_1 (by decide) ?_
  obtain ⟨hb1003, e1003, hat1003, hk1003⟩ := hT.o10 hw.1
  obtain ⟨f1003_0, f1003_1, f1003_3, f1003_4, f1003_5, f1003_6, f1003_7, f1003_9, f1003_10, f1003_11, f1003_12, f1003_13, f1003_14, f1003_15, f1003_16, f1003_17, rfl, c1003_2, c1003_3, c1003_4, c1003_12, t1003_1, t1003_8, t1003_9, c1003_sd, t1003_10, t1003_11, t1003_17⟩ := hk1003
  have hP : va_P D vwCl [(w, .inr (9, [.int f1003_0, .ref f1003_1, .int (nI ((κ w).2.2.1)), .int (nI f1003_3), .int (nI f1003_4), .int f1003_5, .int f1003_6, .int f1003_7, .ref (κ w).2.2.2, .ref f1003_9, .ref f1003_10, .ref f1003_11, .int (nI f1003_12), .int f1003_13, .int f1003_14, .int f1003_15, .int f1003_16, .ref f1003_17]))] _ := va_P.cons hat1003 va_P.nil
  have hB : Bx B0 D _ [(w, .inr (9, [.int f1003_0, .ref f1003_1, .int (nI ((κ w).2.2.1)), .int (nI f1003_3), .int (nI f1003_4), .int f1003_5, .int f1003_6, .int f1003_7, .ref (κ w).2.2.2, .ref f1003_9, .ref f1003_10, .ref f1003_11, .int (nI f1003_12), .int f1003_13, .int f1003_14, .int f1003_15, .int f1003_16, .ref f1003_17]))] [] _ _ := Bx.of (fun a => (κ a).1) hL hP (fa_c hb1003 fa_n) (by simp only [List.map_cons, List.map_nil, hw.1]; decide)
  refine b_put (D := D) (ci := 9) (v := .int 0) (ty := .int) (C := RX9) (T := TX9) (N := 18) hx hb hts iX9_player_9 tyX9 tyX9_ok nmX9 hown hN hB 0 rfl rfl 0 (by decide) (hts _ mX9_player_1) (fun _ h9 => h9) rfl (by decide +kernel) rfl rfl (Nat.le_of_ble_eq_true rfl) (.inl rfl) dX9_player_2 (fun H locs hB => ?_)
  have hB : Bx B0 D _ [(w, .inr (9, [.int 0, .ref f1003_1, .int (nI ((κ w).2.2.1)), .int (nI f1003_3), .int (nI f1003_4), .int f1003_5, .int f1003_6, .int f1003_7, .ref (κ w).2.2.2, .ref f1003_9, .ref f1003_10, .ref f1003_11, .int (nI f1003_12), .int f1003_13, .int f1003_14, .int f1003_15, .int f1003_16, .ref f1003_17]))] [w] _ _ := hB
  refine lv_aload_n hx hb dX9_player_5 rfl (lv_at hl 0 rfl) ?_
  refine lv_iload_n hx hb dX9_player_6 rfl (lv_at hl 1 rfl) ?_
  have hT : WT B0 D cs T κ _ := hT.close hB ⟨⟨0, _, rfl, ok_10 hw.1 ⟨_, _, _, _, _, _, _, _, _, _, _, _, _, _, _, _, rfl, (by omega), (by omega), (by omega), (by omega), t1003_1, t1003_8, t1003_9, c1003_sd, t1003_10, t1003_11, t1003_17⟩⟩, trivial⟩
  have hF : Fr B0 [12] κ H0 _ := hF.close hB (fa_c (by simp [hw.2]) fa_n)
  have hL : OkL B0 _ := hB.2.2.2.2.2
  have hP : va_P D vwCl [(w, .inr (9, [.int 0, .ref f1003_1, .int (nI ((κ w).2.2.1)), .int (nI f1003_3), .int (nI f1003_4), .int f1003_5, .int f1003_6, .int f1003_7, .ref (κ w).2.2.2, .ref f1003_9, .ref f1003_10, .ref f1003_11, .int (nI f1003_12), .int f1003_13, .int f1003_14, .int f1003_15, .int f1003_16, .ref f1003_17]))] _ := hB.1
  refine cv_i (As := [.int x]) (rest := []) (b := w) ⟨hx, hb, hml, hown, hts⟩ (c_X9_noPlayer hT (w := w) hw (x := x)) (cwV 1 hts gX9_player_X9_noPlayer rfl rfl rfl hdX9_noPlayer_v ⟨Nat.le_of_ble_eq_true rfl, Nat.le_of_ble_eq_true rfl⟩) hN hE hL (rcv10 hN hT hw.1) rfl rfl hl.1 (Nat.le_of_ble_eq_true rfl) dX9_player_7 (Nat.zero_le _) (Nat.zero_le _) (fun r1004 H1 locs hL hqr1004 => ?_)
  obtain ⟨hT1, hF1, hqr1004⟩ := hqr1004
  have hF := hF.tr (hF1.mono (by simp))
  have hT := hT1
  rcases hqr1004 with rfl | ⟨rfl, n1005, h1006, rfl⟩
  · refine lv_if_ne (tgt := 36) hx hb dX9_player_10 (by decide) (fun _ => ?_) (fun c9 => absurd c9 (by decide))
    refine lv_iconst (v := 0) hx hb dX9_player_36 (by decide) ?_
    refine lv_goto (tgt := 46) hx hb dX9_player_37 (by decide) ?_
    exact en_i hx hb hr hlocks hL rfl (Nat.zero_le _) (Nat.zero_le _) dX9_player_46 (⟨hT, hF⟩)
  · refine lv_if_ne (tgt := 36) hx hb dX9_player_10 (by decide) (fun c9 => absurd (by decide) c9) (fun _ => ?_)
    refine lv_aload_n hx hb dX9_player_13 rfl (lv_at hl 0 rfl) ?_
    refine lv_iload_n hx hb dX9_player_14 rfl (lv_at hl 2 rfl) ?_
    refine lv_iconst (v := 0) hx hb dX9_player_15 (by decide) ?_
    refine lv_bipush (v := 9) hx hb dX9_player_16 (by decide) ?_
    refine cs_i (As := [.int y, .int 0, .int 9]) (rest := [.ref w]) ⟨hx, hb, hml, hown, hts⟩ (c_X9_in hT (x := y) (y := 0) (z := 9)) (va_cwS 3 hts gX9_player_X9_in rfl rfl rfl hdX9_in_o ⟨Nat.le_of_ble_eq_true rfl, Nat.le_of_ble_eq_true rfl⟩) hN hE hL rfl rfl hl.1 (Nat.le_of_ble_eq_true rfl) dX9_player_18 (Nat.zero_le _) (Nat.zero_le _) (fun r1007 H1 locs hL hqr1007 => ?_)
    obtain ⟨h9, hqr1007⟩ := hqr1007; replace h9 := h9.symm; subst h9
    rcases hqr1007 with ⟨rfl, o1008⟩ | ⟨rfl, l1009, g1010⟩
    · refine lv_if_ne (tgt := 28) hx hb dX9_player_21 (by decide) (fun c9 => absurd (by decide) c9) (fun _ => ?_)
      refine lv_iconst (v := 1) hx hb dX9_player_24 (by decide) ?_
      refine lv_goto (tgt := 29) hx hb dX9_player_25 (by decide) ?_
      refine lv_iconst (v := 2) hx hb dX9_player_29 (by decide) ?_
      refine cv_i (As := [.int 1, .int 2]) (rest := []) (b := w) ⟨hx, hb, hml, hown, hts⟩ (c_X9_fails hT (w := w) hw (x := 1) (z := 2) ((by decide))) (cwV 2 hts gX9_player_X9_fails rfl rfl rfl hdX9_fails_v ⟨Nat.le_of_ble_eq_true rfl, Nat.le_of_ble_eq_true rfl⟩) hN hE hL (rcv10 hN hT hw.1) rfl rfl hl.1 (Nat.le_of_ble_eq_true rfl) dX9_player_30 (Nat.zero_le _) (Nat.zero_le _) (fun r1011 H1 locs hL hqr1011 => ?_)
      obtain ⟨hT1, hF1, hqr1011⟩ := hqr1011
      have hF := hF.tr (hF1.mono (by simp))
      have hT := hT1
      rcases hqr1011 with rfl | ⟨rfl, e1012⟩
      · refine lv_if_eq (tgt := 40) hx hb dX9_player_33 (by decide) (fun c9 => absurd c9 (by decide)) (fun _ => ?_)
        refine lv_iconst (v := 0) hx hb dX9_player_36 (by decide) ?_
        refine lv_goto (tgt := 46) hx hb dX9_player_37 (by decide) ?_
        exact en_i hx hb hr hlocks hL rfl (Nat.zero_le _) (Nat.zero_le _) dX9_player_46 (⟨hT, hF⟩)
      · exact absurd e1012 (by decide)
    · refine lv_if_ne (tgt := 28) hx hb dX9_player_21 (by decide) (fun _ => ?_) (fun c9 => absurd c9 (by decide))
      refine lv_iconst (v := 0) hx hb dX9_player_28 (by decide) ?_
      refine lv_iconst (v := 2) hx hb dX9_player_29 (by decide) ?_
      refine cv_i (As := [.int 0, .int 2]) (rest := []) (b := w) ⟨hx, hb, hml, hown, hts⟩ (c_X9_fails hT (w := w) hw (x := 0) (z := 2) ((by decide))) (cwV 2 hts gX9_player_X9_fails rfl rfl rfl hdX9_fails_v ⟨Nat.le_of_ble_eq_true rfl, Nat.le_of_ble_eq_true rfl⟩) hN hE hL (rcv10 hN hT hw.1) rfl rfl hl.1 (Nat.le_of_ble_eq_true rfl) dX9_player_30 (Nat.zero_le _) (Nat.zero_le _) (fun r1013 H1 locs hL hqr1013 => ?_)
      obtain ⟨hT1, hF1, hqr1013⟩ := hqr1013
      have hF := hF.tr (hF1.mono (by simp))
      have hT := hT1
      rcases hqr1013 with rfl | ⟨rfl, e1014⟩
      · refine lv_if_eq (tgt := 40) hx hb dX9_player_33 (by decide) (fun c9 => absurd c9 (by decide)) (fun _ => ?_)
        refine lv_iconst (v := 0) hx hb dX9_player_36 (by decide) ?_
        refine lv_goto (tgt := 46) hx hb dX9_player_37 (by decide) ?_
        exact en_i hx hb hr hlocks hL rfl (Nat.zero_le _) (Nat.zero_le _) dX9_player_46 (⟨hT, hF⟩)
      · refine lv_if_eq (tgt := 40) hx hb dX9_player_33 (by decide) (fun _ => ?_) (fun c9 => absurd (by decide) c9)
        refine lv_aload_n hx hb dX9_player_40 rfl (lv_at hl 0 rfl) ?_
        refine lv_iload_n hx hb dX9_player_41 rfl (lv_at hl 1 rfl) ?_
        refine lv_iload_n hx hb dX9_player_42 rfl (lv_at hl 2 rfl) ?_
        refine cv_i (As := [.int (nI n1005), .int y]) (rest := []) (b := w) ⟨hx, hb, hml, hown, hts⟩ (c_X9_toldPlayer hT (w := w) hw (n := n1005) (y := y) (by first | omega | decide | assumption)) (cwV 2 hts gX9_player_X9_toldPlayer rfl rfl rfl hdX9_toldPlayer_v ⟨Nat.le_of_ble_eq_true rfl, Nat.le_of_ble_eq_true rfl⟩) hN hE hL (rcv10 hN hT hw.1) rfl rfl hl.1 (Nat.le_of_ble_eq_true rfl) dX9_player_43 (Nat.zero_le _) (Nat.zero_le _) (fun r1015 H1 locs hL hqr1015 => ?_)
        obtain rfl := hqr1015.symm
        exact en_i hx hb hr hlocks hL rfl (Nat.zero_le _) (Nat.zero_le _) dX9_player_46 (⟨hT, hF⟩)
theorem mX9_link_1 : (.fieldLink RX9 40 "OneBeatModel" "thrown" "I" : Cond) ∈ wsX9_link := List.mem_of_getElem? (i := 1) (by decide +kernel)
theorem iX9_link_9 : ∀ w ∈ wsX90, w ∈ wsX9_link := fun w h => List.mem_of_mem_drop (List.mem_of_mem_take ((show wsX90 = (wsX9_link.drop 18).take 18 by decide +kernel) ▸ h))
theorem mX9_link_2 : (.fieldLink RX9 18 "OneBeatModel" "data" "[I" : Cond) ∈ wsX9_link := List.mem_of_getElem? (i := 2) (by decide +kernel)
set_option maxHeartbeats 4000000 in
set_option maxRecDepth 100000 in
theorem c_X9_link {l : Launch} {D : va_G} {cs : Nat → ClassId} {B0 T : Nat} {κ : KM} {H0 : Heap} (hT : WT B0 D cs T κ H0) {w : Nat} (hw : T2 κ w 10 12) {x : Int32} {y : Int32} : KC l yX9_link wsX9_link 2 43 0 0 D cs B0 H0 [.ref w, .int x, .int y] (Qi (fun _ H => WT B0 D cs T κ H ∧ Fr B0 [12] κ H0 H)) := by
  refine KC.of cX9_link 3 (some .int) (by decide) rfl (Nat.le_of_ble_eq_true rfl) ?_
  intro p e s m below meth c ls hx hb hr hml hown hts hlocks hin hN hE hH0 hl
  have hown : s.vm.findClass RX9 = some m.cls := hown
  have hl : lv_has ls 3 [(0, .ref w), (1, .int x), (2, .int y)] := hl
  have hL : OkL B0 [] := OkL.nil
  have hF : Fr B0 [12] κ H0 H0 := Fr.rf
  refine lv_aload_n hx hb dX9_link_0 rfl (lv_at hl 0 rfl) ?_
  refine lv_iconst (v := 0) hx hb dX9_link_1 (by decide) ?_
  obtain ⟨hb1016, e1016, hat1016, hk1016⟩ := hT.o10 hw.1
  obtain ⟨f1016_0, f1016_1, f1016_3, f1016_4, f1016_5, f1016_6, f1016_7, f1016_9, f1016_10, f1016_11, f1016_12, f1016_13, f1016_14, f1016_15, f1016_16, f1016_17, rfl, c1016_2, c1016_3, c1016_4, c1016_12, t1016_1, t1016_8, t1016_9, c1016_sd, t1016_10, t1016_11, t1016_17⟩ := hk1016
  have hP : va_P D vwCl [(w, .inr (9, [.int f1016_0, .ref f1016_1, .int (nI ((κ w).2.2.1)), .int (nI f1016_3), .int (nI f1016_4), .int f1016_5, .int f1016_6, .int f1016_7, .ref (κ w).2.2.2, .ref f1016_9, .ref f1016_10, .ref f1016_11, .int (nI f1016_12), .int f1016_13, .int f1016_14, .int f1016_15, .int f1016_16, .ref f1016_17]))] _ := va_P.cons hat1016 va_P.nil
  have hB : Bx B0 D _ [(w, .inr (9, [.int f1016_0, .ref f1016_1, .int (nI ((κ w).2.2.1)), .int (nI f1016_3), .int (nI f1016_4), .int f1016_5, .int f1016_6, .int f1016_7, .ref (κ w).2.2.2, .ref f1016_9, .ref f1016_10, .ref f1016_11, .int (nI f1016_12), .int f1016_13, .int f1016_14, .int f1016_15, .int f1016_16, .ref f1016_17]))] [] _ _ := Bx.of (fun a => (κ a).1) hL hP (fa_c hb1016 fa_n) (by simp only [List.map_cons, List.map_nil, hw.1]; decide)
  refine b_put (D := D) (ci := 9) (v := .int 0) (ty := .int) (C := RX9) (T := TX9) (N := 18) hx hb hts iX9_link_9 tyX9 tyX9_ok nmX9 hown hN hB 0 rfl rfl 0 (by decide) (hts _ mX9_link_1) (fun _ h9 => h9) rfl (by decide +kernel) rfl rfl (Nat.le_of_ble_eq_true rfl) (.inl rfl) dX9_link_2 (fun H locs hB => ?_)
  have hB : Bx B0 D _ [(w, .inr (9, [.int 0, .ref f1016_1, .int (nI ((κ w).2.2.1)), .int (nI f1016_3), .int (nI f1016_4), .int f1016_5, .int f1016_6, .int f1016_7, .ref (κ w).2.2.2, .ref f1016_9, .ref f1016_10, .ref f1016_11, .int (nI f1016_12), .int f1016_13, .int f1016_14, .int f1016_15, .int f1016_16, .ref f1016_17]))] [w] _ _ := hB
  refine lv_aload_n hx hb dX9_link_5 rfl (lv_at hl 0 rfl) ?_
  refine lv_iload_n hx hb dX9_link_6 rfl (lv_at hl 1 rfl) ?_
  have hT : WT B0 D cs T κ _ := hT.close hB ⟨⟨0, _, rfl, ok_10 hw.1 ⟨_, _, _, _, _, _, _, _, _, _, _, _, _, _, _, _, rfl, (by omega), (by omega), (by omega), (by omega), t1016_1, t1016_8, t1016_9, c1016_sd, t1016_10, t1016_11, t1016_17⟩⟩, trivial⟩
  have hF : Fr B0 [12] κ H0 _ := hF.close hB (fa_c (by simp [hw.2]) fa_n)
  have hL : OkL B0 _ := hB.2.2.2.2.2
  have hP : va_P D vwCl [(w, .inr (9, [.int 0, .ref f1016_1, .int (nI ((κ w).2.2.1)), .int (nI f1016_3), .int (nI f1016_4), .int f1016_5, .int f1016_6, .int f1016_7, .ref (κ w).2.2.2, .ref f1016_9, .ref f1016_10, .ref f1016_11, .int (nI f1016_12), .int f1016_13, .int f1016_14, .int f1016_15, .int f1016_16, .ref f1016_17]))] _ := hB.1
  refine cv_i (As := [.int x]) (rest := []) (b := w) ⟨hx, hb, hml, hown, hts⟩ (c_X9_noPlayer hT (w := w) hw (x := x)) (cwV 1 hts gX9_link_X9_noPlayer rfl rfl rfl hdX9_noPlayer_v ⟨Nat.le_of_ble_eq_true rfl, Nat.le_of_ble_eq_true rfl⟩) hN hE hL (rcv10 hN hT hw.1) rfl rfl hl.1 (Nat.le_of_ble_eq_true rfl) dX9_link_7 (Nat.zero_le _) (Nat.zero_le _) (fun r1017 H1 locs hL hqr1017 => ?_)
  obtain ⟨hT1, hF1, hqr1017⟩ := hqr1017
  have hF := hF.tr (hF1.mono (by simp))
  have hT := hT1
  rcases hqr1017 with rfl | ⟨rfl, n1018, h1019, rfl⟩
  · refine lv_if_ne (tgt := 21) hx hb dX9_link_10 (by decide) (fun _ => ?_) (fun c9 => absurd c9 (by decide))
    refine lv_iconst (v := 0) hx hb dX9_link_21 (by decide) ?_
    refine lv_goto (tgt := 35) hx hb dX9_link_22 (by decide) ?_
    exact en_i hx hb hr hlocks hL rfl (Nat.zero_le _) (Nat.zero_le _) dX9_link_35 (⟨hT, hF⟩)
  · refine lv_if_ne (tgt := 21) hx hb dX9_link_10 (by decide) (fun c9 => absurd (by decide) c9) (fun _ => ?_)
    refine lv_aload_n hx hb dX9_link_13 rfl (lv_at hl 0 rfl) ?_
    refine lv_iload_n hx hb dX9_link_14 rfl (lv_at hl 2 rfl) ?_
    refine cv_i (As := [.int y]) (rest := []) (b := w) ⟨hx, hb, hml, hown, hts⟩ (c_X9_noPlayer hT (w := w) hw (x := y)) (cwV 1 hts gX9_link_X9_noPlayer rfl rfl rfl hdX9_noPlayer_v ⟨Nat.le_of_ble_eq_true rfl, Nat.le_of_ble_eq_true rfl⟩) hN hE hL (rcv10 hN hT hw.1) rfl rfl hl.1 (Nat.le_of_ble_eq_true rfl) dX9_link_15 (Nat.zero_le _) (Nat.zero_le _) (fun r1020 H1 locs hL hqr1020 => ?_)
    obtain ⟨hT1, hF1, hqr1020⟩ := hqr1020
    have hF := hF.tr (hF1.mono (by simp))
    have hT := hT1
    rcases hqr1020 with rfl | ⟨rfl, n1021, h1022, rfl⟩
    · refine lv_if_eq (tgt := 25) hx hb dX9_link_18 (by decide) (fun c9 => absurd c9 (by decide)) (fun _ => ?_)
      refine lv_iconst (v := 0) hx hb dX9_link_21 (by decide) ?_
      refine lv_goto (tgt := 35) hx hb dX9_link_22 (by decide) ?_
      exact en_i hx hb hr hlocks hL rfl (Nat.zero_le _) (Nat.zero_le _) dX9_link_35 (⟨hT, hF⟩)
    · refine lv_if_eq (tgt := 25) hx hb dX9_link_18 (by decide) (fun _ => ?_) (fun c9 => absurd (by decide) c9)
      refine lv_aload_n hx hb dX9_link_25 rfl (lv_at hl 0 rfl) ?_
      obtain ⟨hb1023, e1023, hat1023, hk1023⟩ := hT.o10 hw.1
      obtain ⟨f1023_0, f1023_1, f1023_3, f1023_4, f1023_5, f1023_6, f1023_7, f1023_9, f1023_10, f1023_11, f1023_12, f1023_13, f1023_14, f1023_15, f1023_16, f1023_17, rfl, c1023_2, c1023_3, c1023_4, c1023_12, t1023_1, t1023_8, t1023_9, c1023_sd, t1023_10, t1023_11, t1023_17⟩ := hk1023
      have hP : va_P D vwCl [(w, .inr (9, [.int f1023_0, .ref f1023_1, .int (nI ((κ w).2.2.1)), .int (nI f1023_3), .int (nI f1023_4), .int f1023_5, .int f1023_6, .int f1023_7, .ref (κ w).2.2.2, .ref f1023_9, .ref f1023_10, .ref f1023_11, .int (nI f1023_12), .int f1023_13, .int f1023_14, .int f1023_15, .int f1023_16, .ref f1023_17]))] _ := va_P.cons hat1023 va_P.nil
      refine va_get (D := D) (ci := 9) (v := .ref (κ w).2.2.2) (C := RX9) (T := TX9) (N := 18) hx hb hts iX9_link_9 hown hN.1 hP 0 rfl rfl 8 (by decide) (hts _ mX9_link_2) (fun _ h9 => h9) rfl dX9_link_26 ?_
      refine lv_iload_n hx hb dX9_link_29 rfl (lv_at hl 1 rfl) ?_
      refine lv_iload_n hx hb dX9_link_30 rfl (lv_at hl 2 rfl) ?_
      refine cs_i (As := [.int (nI n1018), .int (nI n1021)]) (rest := [.ref (κ w).2.2.2]) ⟨hx, hb, hml, hown, hts⟩ (c_X9_linkAt hT (n := n1018) (k := n1021) (by first | omega | decide | assumption) (by first | omega | decide | assumption)) (va_cwS 2 hts gX9_link_X9_linkAt rfl rfl rfl hdX9_linkAt_o ⟨Nat.le_of_ble_eq_true rfl, Nat.le_of_ble_eq_true rfl⟩) hN hE hL rfl rfl hl.1 (Nat.le_of_ble_eq_true rfl) dX9_link_31 (Nat.zero_le _) (Nat.zero_le _) (fun r1024 H1 locs hL hqr1024 => ?_)
      obtain ⟨h9, hqr1024⟩ := hqr1024; replace h9 := h9.symm; subst h9
      obtain rfl := hqr1024
      obtain ⟨hb1025, e1025, hat1025, hk1025⟩ := hT.o24 t1023_8.1
      obtain ⟨g1025, rfl, q1025⟩ := hk1025
      have hP : va_P D vwCl [((κ w).2.2.2, .inl (cs 0, 45783, .inl g1025)), (w, .inr (9, [.int f1023_0, .ref f1023_1, .int (nI ((κ w).2.2.1)), .int (nI f1023_3), .int (nI f1023_4), .int f1023_5, .int f1023_6, .int f1023_7, .ref (κ w).2.2.2, .ref f1023_9, .ref f1023_10, .ref f1023_11, .int (nI f1023_12), .int f1023_13, .int f1023_14, .int f1023_15, .int f1023_16, .ref f1023_17]))] _ := va_P.cons hat1025 hP
      refine ld_i (v := (g1025 (119 + 8 * n1018 + n1021))) hx hb hN hP 0 rfl (vp_in_nI (n := (119 + 8 * n1018 + n1021)) (N := 45783) (by omega) (by omega)) (by rw [(show ((nI (119 + 8 * n1018 + n1021)) : Int32).toNatClampNeg = (119 + 8 * n1018 + n1021) from nI_clamp (n := (119 + 8 * n1018 + n1021)) (by omega))]) dX9_link_34 ?_
      refine gn_i (fun x1026 => ?_)
      exact en_i hx hb hr hlocks hL rfl (Nat.zero_le _) (Nat.zero_le _) dX9_link_35 (⟨hT, hF⟩)
theorem mX9_proposal_1 : (.fieldLink RX9 40 "OneBeatModel" "thrown" "I" : Cond) ∈ wsX9_proposal := List.mem_of_getElem? (i := 1) (by decide +kernel)
theorem iX9_proposal_9 : ∀ w ∈ wsX90, w ∈ wsX9_proposal := fun w h => List.mem_of_mem_drop (List.mem_of_mem_take ((show wsX90 = (wsX9_proposal.drop 11).take 18 by decide +kernel) ▸ h))
theorem mX9_proposal_2 : (.fieldLink RX9 18 "OneBeatModel" "data" "[I" : Cond) ∈ wsX9_proposal := List.mem_of_getElem? (i := 2) (by decide +kernel)
set_option maxHeartbeats 4000000 in
set_option maxRecDepth 100000 in
theorem c_X9_proposal {l : Launch} {D : va_G} {cs : Nat → ClassId} {B0 T : Nat} {κ : KM} {H0 : Heap} (hT : WT B0 D cs T κ H0) {w : Nat} (hw : T2 κ w 10 12) {x : Int32} : KC l yX9_proposal wsX9_proposal 1 22 0 0 D cs B0 H0 [.ref w, .int x] (Qi (fun _ H => WT B0 D cs T κ H ∧ Fr B0 [12] κ H0 H)) := by
  refine KC.of cX9_proposal 2 (some .int) (by decide) rfl (Nat.le_of_ble_eq_true rfl) ?_
  intro p e s m below meth c ls hx hb hr hml hown hts hlocks hin hN hE hH0 hl
  have hown : s.vm.findClass RX9 = some m.cls := hown
  have hl : lv_has ls 2 [(0, .ref w), (1, .int x)] := hl
  have hL : OkL B0 [] := OkL.nil
  have hF : Fr B0 [12] κ H0 H0 := Fr.rf
  refine lv_aload_n hx hb dX9_proposal_0 rfl (lv_at hl 0 rfl) ?_
  refine lv_iconst (v := 0) hx hb dX9_proposal_1 (by decide) ?_
  obtain ⟨hb1027, e1027, hat1027, hk1027⟩ := hT.o10 hw.1
  obtain ⟨f1027_0, f1027_1, f1027_3, f1027_4, f1027_5, f1027_6, f1027_7, f1027_9, f1027_10, f1027_11, f1027_12, f1027_13, f1027_14, f1027_15, f1027_16, f1027_17, rfl, c1027_2, c1027_3, c1027_4, c1027_12, t1027_1, t1027_8, t1027_9, c1027_sd, t1027_10, t1027_11, t1027_17⟩ := hk1027
  have hP : va_P D vwCl [(w, .inr (9, [.int f1027_0, .ref f1027_1, .int (nI ((κ w).2.2.1)), .int (nI f1027_3), .int (nI f1027_4), .int f1027_5, .int f1027_6, .int f1027_7, .ref (κ w).2.2.2, .ref f1027_9, .ref f1027_10, .ref f1027_11, .int (nI f1027_12), .int f1027_13, .int f1027_14, .int f1027_15, .int f1027_16, .ref f1027_17]))] _ := va_P.cons hat1027 va_P.nil
  have hB : Bx B0 D _ [(w, .inr (9, [.int f1027_0, .ref f1027_1, .int (nI ((κ w).2.2.1)), .int (nI f1027_3), .int (nI f1027_4), .int f1027_5, .int f1027_6, .int f1027_7, .ref (κ w).2.2.2, .ref f1027_9, .ref f1027_10, .ref f1027_11, .int (nI f1027_12), .int f1027_13, .int f1027_14, .int f1027_15, .int f1027_16, .ref f1027_17]))] [] _ _ := Bx.of (fun a => (κ a).1) hL hP (fa_c hb1027 fa_n) (by simp only [List.map_cons, List.map_nil, hw.1]; decide)
  refine b_put (D := D) (ci := 9) (v := .int 0) (ty := .int) (C := RX9) (T := TX9) (N := 18) hx hb hts iX9_proposal_9 tyX9 tyX9_ok nmX9 hown hN hB 0 rfl rfl 0 (by decide) (hts _ mX9_proposal_1) (fun _ h9 => h9) rfl (by decide +kernel) rfl rfl (Nat.le_of_ble_eq_true rfl) (.inl rfl) dX9_proposal_2 (fun H locs hB => ?_)
  have hB : Bx B0 D _ [(w, .inr (9, [.int 0, .ref f1027_1, .int (nI ((κ w).2.2.1)), .int (nI f1027_3), .int (nI f1027_4), .int f1027_5, .int f1027_6, .int f1027_7, .ref (κ w).2.2.2, .ref f1027_9, .ref f1027_10, .ref f1027_11, .int (nI f1027_12), .int f1027_13, .int f1027_14, .int f1027_15, .int f1027_16, .ref f1027_17]))] [w] _ _ := hB
  refine lv_aload_n hx hb dX9_proposal_5 rfl (lv_at hl 0 rfl) ?_
  refine lv_aload_n hx hb dX9_proposal_6 rfl (lv_at hl 0 rfl) ?_
  refine va_get (D := D) (ci := 9) (v := .ref (κ w).2.2.2) (C := RX9) (T := TX9) (N := 18) hx hb hts iX9_proposal_9 hown hN.1 hB.1 0 rfl rfl 8 (by decide) (hts _ mX9_proposal_2) (fun _ h9 => h9) rfl dX9_proposal_7 ?_
  refine lv_bipush (v := 6) hx hb dX9_proposal_10 (by decide) ?_
  obtain ⟨hb1028, e1028, hat1028, hk1028⟩ := hT.o24 t1027_8.1
  obtain ⟨g1028, rfl, q1028⟩ := hk1028
  have hB : Bx B0 D _ [(w, .inr (9, [.int 0, .ref f1027_1, .int (nI ((κ w).2.2.1)), .int (nI f1027_3), .int (nI f1027_4), .int f1027_5, .int f1027_6, .int f1027_7, .ref (κ w).2.2.2, .ref f1027_9, .ref f1027_10, .ref f1027_11, .int (nI f1027_12), .int f1027_13, .int f1027_14, .int f1027_15, .int f1027_16, .ref f1027_17])), ((κ w).2.2.2, .inl (cs 0, 45783, .inl g1028))] [w] _ _ := hB.more hat1028 hb1028 (fa_c (ne_c hw.1 t1027_8.1 (by decide)) fa_n) (fa_c (ne_c hw.1 t1027_8.1 (by decide)) fa_n)
  refine ld_i (v := (g1028 6)) hx hb hN hB.1 1 rfl (vp_in_nI (n := 6) (N := 45783) (by omega) (by omega)) (by rw [(show (6 : Int32).toNatClampNeg = 6 from nI_clamp (n := 6) (by omega))]) dX9_proposal_12 ?_
  refine gn_i (fun x1029 => ?_)
  refine lv_if_ne (tgt := 20) hx hb dX9_proposal_13 (by decide) (fun c1030 => ?_) (fun c1030 => ?_)
  · refine lv_iconst (v := 0) hx hb dX9_proposal_20 (by decide) ?_
    refine lv_iconst (v := 1) hx hb dX9_proposal_21 (by decide) ?_
    have hT : WT B0 D cs T κ _ := hT.close hB ⟨⟨0, _, rfl, ok_10 hw.1 ⟨_, _, _, _, _, _, _, _, _, _, _, _, _, _, _, _, rfl, (by omega), (by omega), (by omega), (by omega), t1027_1, t1027_8, t1027_9, c1027_sd, t1027_10, t1027_11, t1027_17⟩⟩, trivial⟩
    have hF : Fr B0 [12] κ H0 _ := hF.close hB (fa_c (by simp [hw.2]) fa_n)
    have hL : OkL B0 _ := hB.2.2.2.2.2
    have hP : va_P D vwCl [(w, .inr (9, [.int 0, .ref f1027_1, .int (nI ((κ w).2.2.1)), .int (nI f1027_3), .int (nI f1027_4), .int f1027_5, .int f1027_6, .int f1027_7, .ref (κ w).2.2.2, .ref f1027_9, .ref f1027_10, .ref f1027_11, .int (nI f1027_12), .int f1027_13, .int f1027_14, .int f1027_15, .int f1027_16, .ref f1027_17])), ((κ w).2.2.2, .inl (cs 0, 45783, .inl g1028))] _ := hB.1
    refine cv_i (As := [.int 0, .int 1]) (rest := []) (b := w) ⟨hx, hb, hml, hown, hts⟩ (c_X9_fails hT (w := w) hw (x := 0) (z := 1) ((by decide))) (cwV 2 hts gX9_proposal_X9_fails rfl rfl rfl hdX9_fails_v ⟨Nat.le_of_ble_eq_true rfl, Nat.le_of_ble_eq_true rfl⟩) hN hE hL (rcv10 hN hT hw.1) rfl rfl hl.1 (Nat.le_of_ble_eq_true rfl) dX9_proposal_22 (Nat.zero_le _) (Nat.zero_le _) (fun r1031 H1 locs hL hqr1031 => ?_)
    obtain ⟨hT1, hF1, hqr1031⟩ := hqr1031
    have hP : va_P D vwCl [((κ w).2.2.2, .inl (cs 0, 45783, .inl g1028))] _ := hF1.hP (hP.sub [1] rfl) (fa_c ⟨by rw [t1027_8.1]; decide, by rw [t1027_8.2]; first | decide | (simp; done) | (simp [h15a, h15b, h15c]; done) | (simp; omega)⟩ fa_n)
    have hF := hF.tr (hF1.mono (by simp))
    have hT := hT1
    rcases hqr1031 with rfl | ⟨rfl, e1032⟩
    · refine lv_if_ne (tgt := 50) hx hb dX9_proposal_25 (by decide) (fun _ => ?_) (fun c9 => absurd c9 (by decide))
      refine lv_iconst (v := 0) hx hb dX9_proposal_50 (by decide) ?_
      refine lv_goto (tgt := 63) hx hb dX9_proposal_51 (by decide) ?_
      exact en_i hx hb hr hlocks hL rfl (Nat.zero_le _) (Nat.zero_le _) dX9_proposal_63 (⟨hT, hF⟩)
    · refine lv_if_ne (tgt := 50) hx hb dX9_proposal_25 (by decide) (fun c9 => absurd (by decide) c9) (fun _ => ?_)
      refine lv_aload_n hx hb dX9_proposal_28 rfl (lv_at hl 0 rfl) ?_
      refine lv_iload_n hx hb dX9_proposal_29 rfl (lv_at hl 1 rfl) ?_
      refine lv_iconst (v := 0) hx hb dX9_proposal_30 (by decide) ?_
      refine lv_iconst (v := 5) hx hb dX9_proposal_31 (by decide) ?_
      refine cs_i (As := [.int x, .int 0, .int 5]) (rest := [.ref w]) ⟨hx, hb, hml, hown, hts⟩ (c_X9_in hT (x := x) (y := 0) (z := 5)) (va_cwS 3 hts gX9_proposal_X9_in rfl rfl rfl hdX9_in_o ⟨Nat.le_of_ble_eq_true rfl, Nat.le_of_ble_eq_true rfl⟩) hN hE hL rfl rfl hl.1 (Nat.le_of_ble_eq_true rfl) dX9_proposal_32 (Nat.zero_le _) (Nat.zero_le _) (fun r1033 H1 locs hL hqr1033 => ?_)
      obtain ⟨h9, hqr1033⟩ := hqr1033; replace h9 := h9.symm; subst h9
      rcases hqr1033 with ⟨rfl, o1034⟩ | ⟨rfl, l1035, g1036⟩
      · refine lv_if_ne (tgt := 42) hx hb dX9_proposal_35 (by decide) (fun c9 => absurd (by decide) c9) (fun _ => ?_)
        refine lv_iconst (v := 1) hx hb dX9_proposal_38 (by decide) ?_
        refine lv_goto (tgt := 43) hx hb dX9_proposal_39 (by decide) ?_
        refine lv_iconst (v := 2) hx hb dX9_proposal_43 (by decide) ?_
        refine cv_i (As := [.int 1, .int 2]) (rest := []) (b := w) ⟨hx, hb, hml, hown, hts⟩ (c_X9_fails hT (w := w) hw (x := 1) (z := 2) ((by decide))) (cwV 2 hts gX9_proposal_X9_fails rfl rfl rfl hdX9_fails_v ⟨Nat.le_of_ble_eq_true rfl, Nat.le_of_ble_eq_true rfl⟩) hN hE hL (rcv10 hN hT hw.1) rfl rfl hl.1 (Nat.le_of_ble_eq_true rfl) dX9_proposal_44 (Nat.zero_le _) (Nat.zero_le _) (fun r1037 H1 locs hL hqr1037 => ?_)
        obtain ⟨hT1, hF1, hqr1037⟩ := hqr1037
        have hP : va_P D vwCl [((κ w).2.2.2, .inl (cs 0, 45783, .inl g1028))] _ := hF1.hP (hP.sub [0] rfl) (fa_c ⟨by rw [t1027_8.1]; decide, by rw [t1027_8.2]; first | decide | (simp; done) | (simp [h15a, h15b, h15c]; done) | (simp; omega)⟩ fa_n)
        have hF := hF.tr (hF1.mono (by simp))
        have hT := hT1
        rcases hqr1037 with rfl | ⟨rfl, e1038⟩
        · refine lv_if_eq (tgt := 54) hx hb dX9_proposal_47 (by decide) (fun c9 => absurd c9 (by decide)) (fun _ => ?_)
          refine lv_iconst (v := 0) hx hb dX9_proposal_50 (by decide) ?_
          refine lv_goto (tgt := 63) hx hb dX9_proposal_51 (by decide) ?_
          exact en_i hx hb hr hlocks hL rfl (Nat.zero_le _) (Nat.zero_le _) dX9_proposal_63 (⟨hT, hF⟩)
        · exact absurd e1038 (by decide)
      · refine lv_if_ne (tgt := 42) hx hb dX9_proposal_35 (by decide) (fun _ => ?_) (fun c9 => absurd c9 (by decide))
        refine lv_iconst (v := 0) hx hb dX9_proposal_42 (by decide) ?_
        refine lv_iconst (v := 2) hx hb dX9_proposal_43 (by decide) ?_
        refine cv_i (As := [.int 0, .int 2]) (rest := []) (b := w) ⟨hx, hb, hml, hown, hts⟩ (c_X9_fails hT (w := w) hw (x := 0) (z := 2) ((by decide))) (cwV 2 hts gX9_proposal_X9_fails rfl rfl rfl hdX9_fails_v ⟨Nat.le_of_ble_eq_true rfl, Nat.le_of_ble_eq_true rfl⟩) hN hE hL (rcv10 hN hT hw.1) rfl rfl hl.1 (Nat.le_of_ble_eq_true rfl) dX9_proposal_44 (Nat.zero_le _) (Nat.zero_le _) (fun r1039 H1 locs hL hqr1039 => ?_)
        obtain ⟨hT1, hF1, hqr1039⟩ := hqr1039
        have hP : va_P D vwCl [((κ w).2.2.2, .inl (cs 0, 45783, .inl g1028))] _ := hF1.hP (hP.sub [0] rfl) (fa_c ⟨by rw [t1027_8.1]; decide, by rw [t1027_8.2]; first | decide | (simp; done) | (simp [h15a, h15b, h15c]; done) | (simp; omega)⟩ fa_n)
        have hF := hF.tr (hF1.mono (by simp))
        have hT := hT1
        rcases hqr1039 with rfl | ⟨rfl, e1040⟩
        · refine lv_if_eq (tgt := 54) hx hb dX9_proposal_47 (by decide) (fun c9 => absurd c9 (by decide)) (fun _ => ?_)
          refine lv_iconst (v := 0) hx hb dX9_proposal_50 (by decide) ?_
          refine lv_goto (tgt := 63) hx hb dX9_proposal_51 (by decide) ?_
          exact en_i hx hb hr hlocks hL rfl (Nat.zero_le _) (Nat.zero_le _) dX9_proposal_63 (⟨hT, hF⟩)
        · refine lv_if_eq (tgt := 54) hx hb dX9_proposal_47 (by decide) (fun _ => ?_) (fun c9 => absurd (by decide) c9)
          obtain ⟨n1041, ln1041, hn1041, rfl⟩ := rng (lo := 0) (hi := 5) (by decide) (by decide) l1035 g1036
          refine lv_aload_n hx hb dX9_proposal_54 rfl (lv_at hl 0 rfl) ?_
          obtain ⟨hb1042, e1042, hat1042, hk1042⟩ := hT.o10 hw.1
          obtain ⟨f1042_0, f1042_1, f1042_3, f1042_4, f1042_5, f1042_6, f1042_7, f1042_9, f1042_10, f1042_11, f1042_12, f1042_13, f1042_14, f1042_15, f1042_16, f1042_17, rfl, c1042_2, c1042_3, c1042_4, c1042_12, t1042_1, t1042_8, t1042_9, c1042_sd, t1042_10, t1042_11, t1042_17⟩ := hk1042
          have hP : va_P D vwCl [(w, .inr (9, [.int f1042_0, .ref f1042_1, .int (nI ((κ w).2.2.1)), .int (nI f1042_3), .int (nI f1042_4), .int f1042_5, .int f1042_6, .int f1042_7, .ref (κ w).2.2.2, .ref f1042_9, .ref f1042_10, .ref f1042_11, .int (nI f1042_12), .int f1042_13, .int f1042_14, .int f1042_15, .int f1042_16, .ref f1042_17])), ((κ w).2.2.2, .inl (cs 0, 45783, .inl g1028))] _ := va_P.cons hat1042 hP
          refine va_get (D := D) (ci := 9) (v := .ref (κ w).2.2.2) (C := RX9) (T := TX9) (N := 18) hx hb hts iX9_proposal_9 hown hN.1 hP 0 rfl rfl 8 (by decide) (hts _ mX9_proposal_2) (fun _ h9 => h9) rfl dX9_proposal_55 ?_
          refine lv_bipush (v := 15) hx hb dX9_proposal_58 (by decide) ?_
          refine lv_iload_n hx hb dX9_proposal_60 rfl (lv_at hl 1 rfl) ?_
          refine lv_iadd hx hb dX9_proposal_61 ?_
          refine tp_i (nI (15 + n1041)) (nI_add 15 n1041) ?_
          refine ld_i (v := (g1028 (15 + n1041))) hx hb hN hP 1 rfl (vp_in_nI (n := (15 + n1041)) (N := 45783) (by omega) (by omega)) (by rw [(show ((nI (15 + n1041)) : Int32).toNatClampNeg = (15 + n1041) from nI_clamp (n := (15 + n1041)) (by omega))]) dX9_proposal_62 ?_
          refine gn_i (fun x1043 => ?_)
          exact en_i hx hb hr hlocks hL rfl (Nat.zero_le _) (Nat.zero_le _) dX9_proposal_63 (⟨hT, hF⟩)
  · refine lv_iconst (v := 1) hx hb dX9_proposal_16 (by decide) ?_
    refine lv_goto (tgt := 21) hx hb dX9_proposal_17 (by decide) ?_
    refine lv_iconst (v := 1) hx hb dX9_proposal_21 (by decide) ?_
    have hT : WT B0 D cs T κ _ := hT.close hB ⟨⟨0, _, rfl, ok_10 hw.1 ⟨_, _, _, _, _, _, _, _, _, _, _, _, _, _, _, _, rfl, (by omega), (by omega), (by omega), (by omega), t1027_1, t1027_8, t1027_9, c1027_sd, t1027_10, t1027_11, t1027_17⟩⟩, trivial⟩
    have hF : Fr B0 [12] κ H0 _ := hF.close hB (fa_c (by simp [hw.2]) fa_n)
    have hL : OkL B0 _ := hB.2.2.2.2.2
    have hP : va_P D vwCl [(w, .inr (9, [.int 0, .ref f1027_1, .int (nI ((κ w).2.2.1)), .int (nI f1027_3), .int (nI f1027_4), .int f1027_5, .int f1027_6, .int f1027_7, .ref (κ w).2.2.2, .ref f1027_9, .ref f1027_10, .ref f1027_11, .int (nI f1027_12), .int f1027_13, .int f1027_14, .int f1027_15, .int f1027_16, .ref f1027_17])), ((κ w).2.2.2, .inl (cs 0, 45783, .inl g1028))] _ := hB.1
    refine cv_i (As := [.int 1, .int 1]) (rest := []) (b := w) ⟨hx, hb, hml, hown, hts⟩ (c_X9_fails hT (w := w) hw (x := 1) (z := 1) ((by decide))) (cwV 2 hts gX9_proposal_X9_fails rfl rfl rfl hdX9_fails_v ⟨Nat.le_of_ble_eq_true rfl, Nat.le_of_ble_eq_true rfl⟩) hN hE hL (rcv10 hN hT hw.1) rfl rfl hl.1 (Nat.le_of_ble_eq_true rfl) dX9_proposal_22 (Nat.zero_le _) (Nat.zero_le _) (fun r1044 H1 locs hL hqr1044 => ?_)
    obtain ⟨hT1, hF1, hqr1044⟩ := hqr1044
    have hP : va_P D vwCl [((κ w).2.2.2, .inl (cs 0, 45783, .inl g1028))] _ := hF1.hP (hP.sub [1] rfl) (fa_c ⟨by rw [t1027_8.1]; decide, by rw [t1027_8.2]; first | decide | (simp; done) | (simp [h15a, h15b, h15c]; done) | (simp; omega)⟩ fa_n)
    have hF := hF.tr (hF1.mono (by simp))
    have hT := hT1
    rcases hqr1044 with rfl | ⟨rfl, e1045⟩
    · refine lv_if_ne (tgt := 50) hx hb dX9_proposal_25 (by decide) (fun _ => ?_) (fun c9 => absurd c9 (by decide))
      refine lv_iconst (v := 0) hx hb dX9_proposal_50 (by decide) ?_
      refine lv_goto (tgt := 63) hx hb dX9_proposal_51 (by decide) ?_
      exact en_i hx hb hr hlocks hL rfl (Nat.zero_le _) (Nat.zero_le _) dX9_proposal_63 (⟨hT, hF⟩)
    · exact absurd e1045 (by decide)
theorem mX9_foretold_1 : (.fieldLink RX9 40 "OneBeatModel" "thrown" "I" : Cond) ∈ wsX9_foretold := List.mem_of_getElem? (i := 1) (by decide +kernel)
theorem iX9_foretold_9 : ∀ w ∈ wsX90, w ∈ wsX9_foretold := fun w h => List.mem_of_mem_drop (List.mem_of_mem_take ((show wsX90 = (wsX9_foretold.drop 101).take 18 by decide +kernel) ▸ h))
theorem mX9_foretold_2 : (.fieldLink RX9 18 "OneBeatModel" "data" "[I" : Cond) ∈ wsX9_foretold := List.mem_of_getElem? (i := 2) (by decide +kernel)
theorem mX9_foretold_3 : (.fieldLink RX9 21 "OneBeatModel" "aside" "[I" : Cond) ∈ wsX9_foretold := List.mem_of_getElem? (i := 3) (by decide +kernel)
theorem hdX9_goOn_v : yX9_goOn.cls = RX9 ∧ yX9_goOn.cls ≠ "java/lang/invoke/MethodHandle" ∧ yX9_goOn.cls ≠ "java/lang/invoke/VarHandle" ∧ (parseMethodDescriptor yX9_goOn.desc).map (fun d => d.parameters.length) = some 0 := by decide +kernel
set_option maxHeartbeats 4000000 in
set_option maxRecDepth 100000 in
theorem c_X9_foretold {l : Launch} {D : va_G} {cs : Nat → ClassId} {B0 T : Nat} {κ : KM} {H0 : Heap} (hT : WT B0 D cs T κ H0) {w : Nat} (hw : T2 κ w 10 12) {x : Int32} : KC l yX9_foretold wsX9_foretold 8 188 0 0 D cs B0 H0 [.ref w, .int x] (Qi (fun _ H => WT B0 D cs (T + 400) κ H ∧ Fr B0 [12, 18] κ H0 H)) := by
  refine KC.of cX9_foretold 5 (some .int) (by decide) rfl (Nat.le_of_ble_eq_true rfl) ?_
  intro p e s m below meth c ls hx hb hr hml hown hts hlocks hin hN hE hH0 hl
  have hown : s.vm.findClass RX9 = some m.cls := hown
  have hl : lv_has ls 5 [(0, .ref w), (1, .int x)] := hl
  have hL : OkL B0 [] := OkL.nil
  have hF : Fr B0 [12, 18] κ H0 H0 := Fr.rf
  refine lv_aload_n hx hb dX9_foretold_0 rfl (lv_at hl 0 rfl) ?_
  refine lv_iconst (v := 0) hx hb dX9_foretold_1 (by decide) ?_
  obtain ⟨hb1046, e1046, hat1046, hk1046⟩ := hT.o10 hw.1
  obtain ⟨f1046_0, f1046_1, f1046_3, f1046_4, f1046_5, f1046_6, f1046_7, f1046_9, f1046_10, f1046_11, f1046_12, f1046_13, f1046_14, f1046_15, f1046_16, f1046_17, rfl, c1046_2, c1046_3, c1046_4, c1046_12, t1046_1, t1046_8, t1046_9, c1046_sd, t1046_10, t1046_11, t1046_17⟩ := hk1046
  have hP : va_P D vwCl [(w, .inr (9, [.int f1046_0, .ref f1046_1, .int (nI ((κ w).2.2.1)), .int (nI f1046_3), .int (nI f1046_4), .int f1046_5, .int f1046_6, .int f1046_7, .ref (κ w).2.2.2, .ref f1046_9, .ref f1046_10, .ref f1046_11, .int (nI f1046_12), .int f1046_13, .int f1046_14, .int f1046_15, .int f1046_16, .ref f1046_17]))] _ := va_P.cons hat1046 va_P.nil
  have hB : Bx B0 D _ [(w, .inr (9, [.int f1046_0, .ref f1046_1, .int (nI ((κ w).2.2.1)), .int (nI f1046_3), .int (nI f1046_4), .int f1046_5, .int f1046_6, .int f1046_7, .ref (κ w).2.2.2, .ref f1046_9, .ref f1046_10, .ref f1046_11, .int (nI f1046_12), .int f1046_13, .int f1046_14, .int f1046_15, .int f1046_16, .ref f1046_17]))] [] _ _ := Bx.of (fun a => (κ a).1) hL hP (fa_c hb1046 fa_n) (by simp only [List.map_cons, List.map_nil, hw.1]; decide)
  refine b_put (D := D) (ci := 9) (v := .int 0) (ty := .int) (C := RX9) (T := TX9) (N := 18) hx hb hts iX9_foretold_9 tyX9 tyX9_ok nmX9 hown hN hB 0 rfl rfl 0 (by decide) (hts _ mX9_foretold_1) (fun _ h9 => h9) rfl (by decide +kernel) rfl rfl (Nat.le_of_ble_eq_true rfl) (.inl rfl) dX9_foretold_2 (fun H locs hB => ?_)
  have hB : Bx B0 D _ [(w, .inr (9, [.int 0, .ref f1046_1, .int (nI ((κ w).2.2.1)), .int (nI f1046_3), .int (nI f1046_4), .int f1046_5, .int f1046_6, .int f1046_7, .ref (κ w).2.2.2, .ref f1046_9, .ref f1046_10, .ref f1046_11, .int (nI f1046_12), .int f1046_13, .int f1046_14, .int f1046_15, .int f1046_16, .ref f1046_17]))] [w] _ _ := hB
  refine lv_aload_n hx hb dX9_foretold_5 rfl (lv_at hl 0 rfl) ?_
  refine lv_iload_n hx hb dX9_foretold_6 rfl (lv_at hl 1 rfl) ?_
  refine lv_iconst (v := 0) hx hb dX9_foretold_7 (by decide) ?_
  refine lv_iconst (v := 4) hx hb dX9_foretold_8 (by decide) ?_
  have hT : WT B0 D cs T κ _ := hT.close hB ⟨⟨0, _, rfl, ok_10 hw.1 ⟨_, _, _, _, _, _, _, _, _, _, _, _, _, _, _, _, rfl, (by omega), (by omega), (by omega), (by omega), t1046_1, t1046_8, t1046_9, c1046_sd, t1046_10, t1046_11, t1046_17⟩⟩, trivial⟩
  have hF : Fr B0 [12, 18] κ H0 _ := hF.close hB (fa_c (by simp [hw.2]) fa_n)
  have hL : OkL B0 _ := hB.2.2.2.2.2
  have hP : va_P D vwCl [(w, .inr (9, [.int 0, .ref f1046_1, .int (nI ((κ w).2.2.1)), .int (nI f1046_3), .int (nI f1046_4), .int f1046_5, .int f1046_6, .int f1046_7, .ref (κ w).2.2.2, .ref f1046_9, .ref f1046_10, .ref f1046_11, .int (nI f1046_12), .int f1046_13, .int f1046_14, .int f1046_15, .int f1046_16, .ref f1046_17]))] _ := hB.1
  refine cs_i (As := [.int x, .int 0, .int 4]) (rest := [.ref w]) ⟨hx, hb, hml, hown, hts⟩ (c_X9_in hT (x := x) (y := 0) (z := 4)) (va_cwS 3 hts gX9_foretold_X9_in rfl rfl rfl hdX9_in_o ⟨Nat.le_of_ble_eq_true rfl, Nat.le_of_ble_eq_true rfl⟩) hN hE hL rfl rfl hl.1 (Nat.le_of_ble_eq_true rfl) dX9_foretold_9 (Nat.zero_le _) (Nat.zero_le _) (fun r1047 H1 locs hL hqr1047 => ?_)
  obtain ⟨h9, hqr1047⟩ := hqr1047; replace h9 := h9.symm; subst h9
  rcases hqr1047 with ⟨rfl, o1048⟩ | ⟨rfl, l1049, g1050⟩
  · refine lv_if_ne (tgt := 19) hx hb dX9_foretold_12 (by decide) (fun c9 => absurd (by decide) c9) (fun _ => ?_)
    refine lv_iconst (v := 1) hx hb dX9_foretold_15 (by decide) ?_
    refine lv_goto (tgt := 20) hx hb dX9_foretold_16 (by decide) ?_
    refine lv_iconst (v := 1) hx hb dX9_foretold_20 (by decide) ?_
    refine cv_i (As := [.int 1, .int 1]) (rest := []) (b := w) ⟨hx, hb, hml, hown, hts⟩ (c_X9_fails hT (w := w) hw (x := 1) (z := 1) ((by decide))) (cwV 2 hts gX9_foretold_X9_fails rfl rfl rfl hdX9_fails_v ⟨Nat.le_of_ble_eq_true rfl, Nat.le_of_ble_eq_true rfl⟩) hN hE hL (rcv10 hN hT hw.1) rfl rfl hl.1 (Nat.le_of_ble_eq_true rfl) dX9_foretold_21 (Nat.zero_le _) (Nat.zero_le _) (fun r1051 H1 locs hL hqr1051 => ?_)
    obtain ⟨hT1, hF1, hqr1051⟩ := hqr1051
    have hF := hF.tr (hF1.mono (by simp))
    have hT := hT1
    rcases hqr1051 with rfl | ⟨rfl, e1052⟩
    · refine lv_if_eq (tgt := 29) hx hb dX9_foretold_24 (by decide) (fun c9 => absurd c9 (by decide)) (fun _ => ?_)
      refine lv_iconst (v := 0) hx hb dX9_foretold_27 (by decide) ?_
      exact en_i hx hb hr hlocks hL rfl (Nat.zero_le _) (Nat.zero_le _) dX9_foretold_28 (⟨hT.up (by omega), hF⟩)
    · exact absurd e1052 (by decide)
  · refine lv_if_ne (tgt := 19) hx hb dX9_foretold_12 (by decide) (fun _ => ?_) (fun c9 => absurd c9 (by decide))
    refine lv_iconst (v := 0) hx hb dX9_foretold_19 (by decide) ?_
    refine lv_iconst (v := 1) hx hb dX9_foretold_20 (by decide) ?_
    refine cv_i (As := [.int 0, .int 1]) (rest := []) (b := w) ⟨hx, hb, hml, hown, hts⟩ (c_X9_fails hT (w := w) hw (x := 0) (z := 1) ((by decide))) (cwV 2 hts gX9_foretold_X9_fails rfl rfl rfl hdX9_fails_v ⟨Nat.le_of_ble_eq_true rfl, Nat.le_of_ble_eq_true rfl⟩) hN hE hL (rcv10 hN hT hw.1) rfl rfl hl.1 (Nat.le_of_ble_eq_true rfl) dX9_foretold_21 (Nat.zero_le _) (Nat.zero_le _) (fun r1053 H1 locs hL hqr1053 => ?_)
    obtain ⟨hT1, hF1, hqr1053⟩ := hqr1053
    have hF := hF.tr (hF1.mono (by simp))
    have hT := hT1
    rcases hqr1053 with rfl | ⟨rfl, e1054⟩
    · refine lv_if_eq (tgt := 29) hx hb dX9_foretold_24 (by decide) (fun c9 => absurd c9 (by decide)) (fun _ => ?_)
      refine lv_iconst (v := 0) hx hb dX9_foretold_27 (by decide) ?_
      exact en_i hx hb hr hlocks hL rfl (Nat.zero_le _) (Nat.zero_le _) dX9_foretold_28 (⟨hT.up (by omega), hF⟩)
    · refine lv_if_eq (tgt := 29) hx hb dX9_foretold_24 (by decide) (fun _ => ?_) (fun c9 => absurd (by decide) c9)
      refine lv_aload_n hx hb dX9_foretold_29 rfl (lv_at hl 0 rfl) ?_
      obtain ⟨hb1055, e1055, hat1055, hk1055⟩ := hT.o10 hw.1
      obtain ⟨f1055_0, f1055_1, f1055_3, f1055_4, f1055_5, f1055_6, f1055_7, f1055_9, f1055_10, f1055_11, f1055_12, f1055_13, f1055_14, f1055_15, f1055_16, f1055_17, rfl, c1055_2, c1055_3, c1055_4, c1055_12, t1055_1, t1055_8, t1055_9, c1055_sd, t1055_10, t1055_11, t1055_17⟩ := hk1055
      have hP : va_P D vwCl [(w, .inr (9, [.int f1055_0, .ref f1055_1, .int (nI ((κ w).2.2.1)), .int (nI f1055_3), .int (nI f1055_4), .int f1055_5, .int f1055_6, .int f1055_7, .ref (κ w).2.2.2, .ref f1055_9, .ref f1055_10, .ref f1055_11, .int (nI f1055_12), .int f1055_13, .int f1055_14, .int f1055_15, .int f1055_16, .ref f1055_17]))] _ := va_P.cons hat1055 va_P.nil
      refine va_get (D := D) (ci := 9) (v := .ref (κ w).2.2.2) (C := RX9) (T := TX9) (N := 18) hx hb hts iX9_foretold_9 hown hN.1 hP 0 rfl rfl 8 (by decide) (hts _ mX9_foretold_2) (fun _ h9 => h9) rfl dX9_foretold_30 ?_
      refine lv_aload_n hx hb dX9_foretold_33 rfl (lv_at hl 0 rfl) ?_
      refine va_get (D := D) (ci := 9) (v := .ref f1055_9) (C := RX9) (T := TX9) (N := 18) hx hb hts iX9_foretold_9 hown hN.1 hP 0 rfl rfl 9 (by decide) (hts _ mX9_foretold_3) (fun _ h9 => h9) rfl dX9_foretold_34 ?_
      refine cs_v (As := [.ref (κ w).2.2.2, .ref f1055_9]) (rest := []) ⟨hx, hb, hml, hown, hts⟩ (c_X9_copyD hT (a := (κ w).2.2.2) t1055_8 (b := f1055_9) t1055_9 (ne_c t1055_8.1 t1055_9.1 (by decide)) (by first | omega | decide | assumption) (by first | omega | decide | assumption)) (va_cwS 2 hts gX9_foretold_X9_copy rfl rfl rfl hdX9_copy_o ⟨Nat.le_of_ble_eq_true rfl, Nat.le_of_ble_eq_true rfl⟩) hN hE hL rfl rfl hl.1 (Nat.le_of_ble_eq_true rfl) dX9_foretold_37 (Nat.zero_le _) (Nat.zero_le _) (fun H1 locs hL hqr1056 => ?_)
      obtain ⟨hT1, hF1⟩ := hqr1056
      have hP : va_P D vwCl [(w, .inr (9, [.int f1055_0, .ref f1055_1, .int (nI ((κ w).2.2.1)), .int (nI f1055_3), .int (nI f1055_4), .int f1055_5, .int f1055_6, .int f1055_7, .ref (κ w).2.2.2, .ref f1055_9, .ref f1055_10, .ref f1055_11, .int (nI f1055_12), .int f1055_13, .int f1055_14, .int f1055_15, .int f1055_16, .ref f1055_17]))] _ := hF1.hP (hP.sub [0] rfl) (fa_c ⟨by rw [hw.1]; decide, by rw [hw.2]; first | decide | (simp; done) | (simp [h15a, h15b, h15c]; done) | (simp; omega)⟩ fa_n)
      have hF := hF.tr (hF1.mono (by simp))
      have hT := hT1
      refine lv_aload_n hx hb dX9_foretold_40 rfl (lv_at hl 0 rfl) ?_
      refine va_get (D := D) (ci := 9) (v := .ref (κ w).2.2.2) (C := RX9) (T := TX9) (N := 18) hx hb hts iX9_foretold_9 hown hN.1 hP 0 rfl rfl 8 (by decide) (hts _ mX9_foretold_2) (fun _ h9 => h9) rfl dX9_foretold_41 ?_
      refine lv_bipush (v := 10) hx hb dX9_foretold_44 (by decide) ?_
      obtain ⟨hb1057, e1057, hat1057, hk1057⟩ := hT.o24 t1055_8.1
      obtain ⟨g1057, rfl, q1057⟩ := hk1057
      have hP : va_P D vwCl [((κ w).2.2.2, .inl (cs 0, 45783, .inl g1057)), (w, .inr (9, [.int f1055_0, .ref f1055_1, .int (nI ((κ w).2.2.1)), .int (nI f1055_3), .int (nI f1055_4), .int f1055_5, .int f1055_6, .int f1055_7, .ref (κ w).2.2.2, .ref f1055_9, .ref f1055_10, .ref f1055_11, .int (nI f1055_12), .int f1055_13, .int f1055_14, .int f1055_15, .int f1055_16, .ref f1055_17]))] _ := va_P.cons hat1057 hP
      refine ld_i (v := (g1057 10)) hx hb hN hP 0 rfl (vp_in_nI (n := 10) (N := 45783) (by omega) (by omega)) (by rw [(show (10 : Int32).toNatClampNeg = 10 from nI_clamp (n := 10) (by omega))]) dX9_foretold_46 ?_
      refine gn_i (fun x1058 => ?_)
      refine lv_istore_n (lv' := [(2, .int x1058), (0, .ref w), (1, .int x)]) hx hb dX9_foretold_47 rfl hl (by decide) rfl (fun ls hl => ?_)
      refine lv_aload_n hx hb dX9_foretold_48 rfl (lv_at hl 1 rfl) ?_
      refine cv_i (As := []) (rest := []) (b := w) ⟨hx, hb, hml, hown, hts⟩ (c_X9_goOn hT (w := w) hw) (cwV 0 hts gX9_foretold_X9_goOn rfl rfl rfl hdX9_goOn_v ⟨Nat.le_of_ble_eq_true rfl, Nat.le_of_ble_eq_true rfl⟩) hN hE hL (rcv10 hN hT hw.1) rfl rfl hl.1 (Nat.le_of_ble_eq_true rfl) dX9_foretold_49 (Nat.zero_le _) (Nat.zero_le _) (fun r1059 H1 locs hL hqr1059 => ?_)
      obtain ⟨hT1, hF1⟩ := hqr1059
      have hP : va_P D vwCl [(w, .inr (9, [.int f1055_0, .ref f1055_1, .int (nI ((κ w).2.2.1)), .int (nI f1055_3), .int (nI f1055_4), .int f1055_5, .int f1055_6, .int f1055_7, .ref (κ w).2.2.2, .ref f1055_9, .ref f1055_10, .ref f1055_11, .int (nI f1055_12), .int f1055_13, .int f1055_14, .int f1055_15, .int f1055_16, .ref f1055_17]))] _ := hF1.hP (hP.sub [1] rfl) (fa_c ⟨by rw [hw.1]; decide, by rw [hw.2]; first | decide | (simp; done) | (simp [h15a, h15b, h15c]; done) | (simp; omega)⟩ fa_n)
      have hF := hF.tr (hF1.mono (by simp))
      have hT := hT1
      refine lv_istore_n (lv' := [(3, .int r1059), (2, .int x1058), (0, .ref w), (1, .int x)]) hx hb dX9_foretold_52 rfl hl (by decide) rfl (fun ls hl => ?_)
      refine lv_iload_n hx hb dX9_foretold_53 rfl (lv_at hl 3 rfl) ?_
      refine lv_if_ne (tgt := 61) hx hb dX9_foretold_54 (by decide) (fun c1060 => ?_) (fun c1060 => ?_)
      · refine lv_iload_n hx hb dX9_foretold_61 rfl (lv_at hl 3 rfl) ?_
        refine lv_iconst (v := 1) hx hb dX9_foretold_62 (by decide) ?_
        refine lv_icmp_ne (tgt := 90) hx hb dX9_foretold_63 (by decide) (fun c1061 => ?_) (fun c1061 => ?_)
        · refine lv_iload_n hx hb dX9_foretold_90 rfl (lv_at hl 3 rfl) ?_
          refine lv_iconst (v := 2) hx hb dX9_foretold_91 (by decide) ?_
          refine lv_icmp_ne (tgt := 102) hx hb dX9_foretold_92 (by decide) (fun c1062 => ?_) (fun c1062 => ?_)
          · refine lv_iload_n hx hb dX9_foretold_102 rfl (lv_at hl 3 rfl) ?_
            refine lv_iconst (v := 3) hx hb dX9_foretold_103 (by decide) ?_
            refine lv_icmp_ne (tgt := 114) hx hb dX9_foretold_104 (by decide) (fun c1063 => ?_) (fun c1063 => ?_)
            · refine lv_aload_n hx hb dX9_foretold_114 rfl (lv_at hl 2 rfl) ?_
              refine va_get (D := D) (ci := 9) (v := .ref (κ w).2.2.2) (C := RX9) (T := TX9) (N := 18) hx hb hts iX9_foretold_9 hown hN.1 hP 0 rfl rfl 8 (by decide) (hts _ mX9_foretold_2) (fun _ h9 => h9) rfl dX9_foretold_115 ?_
              refine lv_bipush (v := 10) hx hb dX9_foretold_118 (by decide) ?_
              obtain ⟨hb1064, e1064, hat1064, hk1064⟩ := hT.o24 t1055_8.1
              obtain ⟨g1064, rfl, q1064⟩ := hk1064
              have hP : va_P D vwCl [((κ w).2.2.2, .inl (cs 0, 45783, .inl g1064)), (w, .inr (9, [.int f1055_0, .ref f1055_1, .int (nI ((κ w).2.2.1)), .int (nI f1055_3), .int (nI f1055_4), .int f1055_5, .int f1055_6, .int f1055_7, .ref (κ w).2.2.2, .ref f1055_9, .ref f1055_10, .ref f1055_11, .int (nI f1055_12), .int f1055_13, .int f1055_14, .int f1055_15, .int f1055_16, .ref f1055_17]))] _ := va_P.cons hat1064 hP
              refine ld_i (v := (g1064 10)) hx hb hN hP 0 rfl (vp_in_nI (n := 10) (N := 45783) (by omega) (by omega)) (by rw [(show (10 : Int32).toNatClampNeg = 10 from nI_clamp (n := 10) (by omega))]) dX9_foretold_120 ?_
              refine gn_i (fun x1065 => ?_)
              refine lv_iload_n hx hb dX9_foretold_121 rfl (lv_at hl 1 rfl) ?_
              refine lv_isub hx hb dX9_foretold_122 ?_
              refine gn_i (fun x1066 => ?_)
              refine lv_istore (lv' := [(4, .int x1066), (3, .int r1059), (2, .int x1058), (0, .ref w), (1, .int x)]) hx hb dX9_foretold_123 hl (by decide) rfl (fun ls hl => ?_)
              refine lv_aload_n hx hb dX9_foretold_125 rfl (lv_at hl 3 rfl) ?_
              refine va_get (D := D) (ci := 9) (v := .ref f1055_9) (C := RX9) (T := TX9) (N := 18) hx hb hts iX9_foretold_9 hown hN.1 hP 1 rfl rfl 9 (by decide) (hts _ mX9_foretold_3) (fun _ h9 => h9) rfl dX9_foretold_126 ?_
              refine lv_aload_n hx hb dX9_foretold_129 rfl (lv_at hl 3 rfl) ?_
              refine va_get (D := D) (ci := 9) (v := .ref (κ w).2.2.2) (C := RX9) (T := TX9) (N := 18) hx hb hts iX9_foretold_9 hown hN.1 hP 1 rfl rfl 8 (by decide) (hts _ mX9_foretold_2) (fun _ h9 => h9) rfl dX9_foretold_130 ?_
              refine cs_v (As := [.ref f1055_9, .ref (κ w).2.2.2]) (rest := []) ⟨hx, hb, hml, hown, hts⟩ (c_X9_copyD hT (a := f1055_9) t1055_9 (b := (κ w).2.2.2) t1055_8 (ne_c t1055_9.1 t1055_8.1 (by decide)) (by first | omega | decide | assumption) (by first | omega | decide | assumption)) (va_cwS 2 hts gX9_foretold_X9_copy rfl rfl rfl hdX9_copy_o ⟨Nat.le_of_ble_eq_true rfl, Nat.le_of_ble_eq_true rfl⟩) hN hE hL rfl rfl hl.1 (Nat.le_of_ble_eq_true rfl) dX9_foretold_133 (Nat.zero_le _) (Nat.zero_le _) (fun H1 locs hL hqr1067 => ?_)
              obtain ⟨hT1, hF1⟩ := hqr1067
              have hP : va_P D vwCl [(w, .inr (9, [.int f1055_0, .ref f1055_1, .int (nI ((κ w).2.2.1)), .int (nI f1055_3), .int (nI f1055_4), .int f1055_5, .int f1055_6, .int f1055_7, .ref (κ w).2.2.2, .ref f1055_9, .ref f1055_10, .ref f1055_11, .int (nI f1055_12), .int f1055_13, .int f1055_14, .int f1055_15, .int f1055_16, .ref f1055_17]))] _ := hF1.hP (hP.sub [1] rfl) (fa_c ⟨by rw [hw.1]; decide, by rw [hw.2]; first | decide | (simp; done) | (simp [h15a, h15b, h15c]; done) | (simp; omega)⟩ fa_n)
              have hF := hF.tr (hF1.mono (by simp))
              have hT := hT1
              refine lv_iload hx hb dX9_foretold_136 (lv_at hl 0 rfl) ?_
              exact en_i hx hb hr hlocks hL rfl (Nat.zero_le _) (Nat.zero_le _) dX9_foretold_138 (⟨hT.up (by omega), hF⟩)
            · refine lv_aload_n hx hb dX9_foretold_107 rfl (lv_at hl 2 rfl) ?_
              refine cv_i (As := []) (rest := []) (b := w) ⟨hx, hb, hml, hown, hts⟩ (c_X9_songs hT (w := w) hw) (cwV 0 hts gX9_foretold_X9_songs rfl rfl rfl hdX9_songs_v ⟨Nat.le_of_ble_eq_true rfl, Nat.le_of_ble_eq_true rfl⟩) hN hE hL (rcv10 hN hT hw.1) rfl rfl hl.1 (Nat.le_of_ble_eq_true rfl) dX9_foretold_108 (Nat.zero_le _) (Nat.zero_le _) (fun r1068 H1 locs hL hqr1068 => ?_)
              obtain rfl := hqr1068.symm
              refine lv_goto (tgt := 123) hx hb dX9_foretold_111 (by decide) ?_
              refine lv_istore (lv' := [(4, .int r1068), (3, .int r1059), (2, .int x1058), (0, .ref w), (1, .int x)]) hx hb dX9_foretold_123 hl (by decide) rfl (fun ls hl => ?_)
              refine lv_aload_n hx hb dX9_foretold_125 rfl (lv_at hl 3 rfl) ?_
              refine va_get (D := D) (ci := 9) (v := .ref f1055_9) (C := RX9) (T := TX9) (N := 18) hx hb hts iX9_foretold_9 hown hN.1 hP 0 rfl rfl 9 (by decide) (hts _ mX9_foretold_3) (fun _ h9 => h9) rfl dX9_foretold_126 ?_
              refine lv_aload_n hx hb dX9_foretold_129 rfl (lv_at hl 3 rfl) ?_
              refine va_get (D := D) (ci := 9) (v := .ref (κ w).2.2.2) (C := RX9) (T := TX9) (N := 18) hx hb hts iX9_foretold_9 hown hN.1 hP 0 rfl rfl 8 (by decide) (hts _ mX9_foretold_2) (fun _ h9 => h9) rfl dX9_foretold_130 ?_
              refine cs_v (As := [.ref f1055_9, .ref (κ w).2.2.2]) (rest := []) ⟨hx, hb, hml, hown, hts⟩ (c_X9_copyD hT (a := f1055_9) t1055_9 (b := (κ w).2.2.2) t1055_8 (ne_c t1055_9.1 t1055_8.1 (by decide)) (by first | omega | decide | assumption) (by first | omega | decide | assumption)) (va_cwS 2 hts gX9_foretold_X9_copy rfl rfl rfl hdX9_copy_o ⟨Nat.le_of_ble_eq_true rfl, Nat.le_of_ble_eq_true rfl⟩) hN hE hL rfl rfl hl.1 (Nat.le_of_ble_eq_true rfl) dX9_foretold_133 (Nat.zero_le _) (Nat.zero_le _) (fun H1 locs hL hqr1069 => ?_)
              obtain ⟨hT1, hF1⟩ := hqr1069
              have hP : va_P D vwCl [(w, .inr (9, [.int f1055_0, .ref f1055_1, .int (nI ((κ w).2.2.1)), .int (nI f1055_3), .int (nI f1055_4), .int f1055_5, .int f1055_6, .int f1055_7, .ref (κ w).2.2.2, .ref f1055_9, .ref f1055_10, .ref f1055_11, .int (nI f1055_12), .int f1055_13, .int f1055_14, .int f1055_15, .int f1055_16, .ref f1055_17]))] _ := hF1.hP (hP.sub [0] rfl) (fa_c ⟨by rw [hw.1]; decide, by rw [hw.2]; first | decide | (simp; done) | (simp [h15a, h15b, h15c]; done) | (simp; omega)⟩ fa_n)
              have hF := hF.tr (hF1.mono (by simp))
              have hT := hT1
              refine lv_iload hx hb dX9_foretold_136 (lv_at hl 0 rfl) ?_
              exact en_i hx hb hr hlocks hL rfl (Nat.zero_le _) (Nat.zero_le _) dX9_foretold_138 (⟨hT.up (by omega), hF⟩)
          · refine lv_aload_n hx hb dX9_foretold_95 rfl (lv_at hl 2 rfl) ?_
            refine cv_i (As := []) (rest := []) (b := w) ⟨hx, hb, hml, hown, hts⟩ (c_X9_spreadNow hT (w := w) hw) (cwV 0 hts gX9_foretold_X9_spreadNow rfl rfl rfl hdX9_spreadNow_v ⟨Nat.le_of_ble_eq_true rfl, Nat.le_of_ble_eq_true rfl⟩) hN hE hL (rcv10 hN hT hw.1) rfl rfl hl.1 (Nat.le_of_ble_eq_true rfl) dX9_foretold_96 (Nat.zero_le _) (Nat.zero_le _) (fun r1070 H1 locs hL hqr1070 => ?_)
            obtain rfl := hqr1070.symm
            refine lv_goto (tgt := 123) hx hb dX9_foretold_99 (by decide) ?_
            refine lv_istore (lv' := [(4, .int r1070), (3, .int r1059), (2, .int x1058), (0, .ref w), (1, .int x)]) hx hb dX9_foretold_123 hl (by decide) rfl (fun ls hl => ?_)
            refine lv_aload_n hx hb dX9_foretold_125 rfl (lv_at hl 3 rfl) ?_
            refine va_get (D := D) (ci := 9) (v := .ref f1055_9) (C := RX9) (T := TX9) (N := 18) hx hb hts iX9_foretold_9 hown hN.1 hP 0 rfl rfl 9 (by decide) (hts _ mX9_foretold_3) (fun _ h9 => h9) rfl dX9_foretold_126 ?_
            refine lv_aload_n hx hb dX9_foretold_129 rfl (lv_at hl 3 rfl) ?_
            refine va_get (D := D) (ci := 9) (v := .ref (κ w).2.2.2) (C := RX9) (T := TX9) (N := 18) hx hb hts iX9_foretold_9 hown hN.1 hP 0 rfl rfl 8 (by decide) (hts _ mX9_foretold_2) (fun _ h9 => h9) rfl dX9_foretold_130 ?_
            refine cs_v (As := [.ref f1055_9, .ref (κ w).2.2.2]) (rest := []) ⟨hx, hb, hml, hown, hts⟩ (c_X9_copyD hT (a := f1055_9) t1055_9 (b := (κ w).2.2.2) t1055_8 (ne_c t1055_9.1 t1055_8.1 (by decide)) (by first | omega | decide | assumption) (by first | omega | decide | assumption)) (va_cwS 2 hts gX9_foretold_X9_copy rfl rfl rfl hdX9_copy_o ⟨Nat.le_of_ble_eq_true rfl, Nat.le_of_ble_eq_true rfl⟩) hN hE hL rfl rfl hl.1 (Nat.le_of_ble_eq_true rfl) dX9_foretold_133 (Nat.zero_le _) (Nat.zero_le _) (fun H1 locs hL hqr1071 => ?_)
            obtain ⟨hT1, hF1⟩ := hqr1071
            have hP : va_P D vwCl [(w, .inr (9, [.int f1055_0, .ref f1055_1, .int (nI ((κ w).2.2.1)), .int (nI f1055_3), .int (nI f1055_4), .int f1055_5, .int f1055_6, .int f1055_7, .ref (κ w).2.2.2, .ref f1055_9, .ref f1055_10, .ref f1055_11, .int (nI f1055_12), .int f1055_13, .int f1055_14, .int f1055_15, .int f1055_16, .ref f1055_17]))] _ := hF1.hP (hP.sub [0] rfl) (fa_c ⟨by rw [hw.1]; decide, by rw [hw.2]; first | decide | (simp; done) | (simp [h15a, h15b, h15c]; done) | (simp; omega)⟩ fa_n)
            have hF := hF.tr (hF1.mono (by simp))
            have hT := hT1
            refine lv_iload hx hb dX9_foretold_136 (lv_at hl 0 rfl) ?_
            exact en_i hx hb hr hlocks hL rfl (Nat.zero_le _) (Nat.zero_le _) dX9_foretold_138 (⟨hT.up (by omega), hF⟩)
        · refine lv_aload_n hx hb dX9_foretold_66 rfl (lv_at hl 2 rfl) ?_
          refine va_get (D := D) (ci := 9) (v := .ref (κ w).2.2.2) (C := RX9) (T := TX9) (N := 18) hx hb hts iX9_foretold_9 hown hN.1 hP 0 rfl rfl 8 (by decide) (hts _ mX9_foretold_2) (fun _ h9 => h9) rfl dX9_foretold_67 ?_
          refine lv_bipush (v := 6) hx hb dX9_foretold_70 (by decide) ?_
          obtain ⟨hb1072, e1072, hat1072, hk1072⟩ := hT.o24 t1055_8.1
          obtain ⟨g1072, rfl, q1072⟩ := hk1072
          have hP : va_P D vwCl [((κ w).2.2.2, .inl (cs 0, 45783, .inl g1072)), (w, .inr (9, [.int f1055_0, .ref f1055_1, .int (nI ((κ w).2.2.1)), .int (nI f1055_3), .int (nI f1055_4), .int f1055_5, .int f1055_6, .int f1055_7, .ref (κ w).2.2.2, .ref f1055_9, .ref f1055_10, .ref f1055_11, .int (nI f1055_12), .int f1055_13, .int f1055_14, .int f1055_15, .int f1055_16, .ref f1055_17]))] _ := va_P.cons hat1072 hP
          refine ld_i (v := (g1072 6)) hx hb hN hP 0 rfl (vp_in_nI (n := 6) (N := 45783) (by omega) (by omega)) (by rw [(show (6 : Int32).toNatClampNeg = 6 from nI_clamp (n := 6) (by omega))]) dX9_foretold_72 ?_
          refine gn_i (fun x1073 => ?_)
          refine lv_if_ne (tgt := 80) hx hb dX9_foretold_73 (by decide) (fun c1074 => ?_) (fun c1074 => ?_)
          · refine lv_aload_n hx hb dX9_foretold_80 rfl (lv_at hl 2 rfl) ?_
            refine va_get (D := D) (ci := 9) (v := .ref (κ w).2.2.2) (C := RX9) (T := TX9) (N := 18) hx hb hts iX9_foretold_9 hown hN.1 hP 1 rfl rfl 8 (by decide) (hts _ mX9_foretold_2) (fun _ h9 => h9) rfl dX9_foretold_81 ?_
            refine lv_bipush (v := 20) hx hb dX9_foretold_84 (by decide) ?_
            refine ld_i (v := (g1072 20)) hx hb hN hP 0 rfl (vp_in_nI (n := 20) (N := 45783) (by omega) (by omega)) (by rw [(show (20 : Int32).toNatClampNeg = 20 from nI_clamp (n := 20) (by omega))]) dX9_foretold_86 ?_
            refine gn_i (fun x1075 => ?_)
            refine lv_goto (tgt := 123) hx hb dX9_foretold_87 (by decide) ?_
            refine lv_istore (lv' := [(4, .int x1075), (3, .int r1059), (2, .int x1058), (0, .ref w), (1, .int x)]) hx hb dX9_foretold_123 hl (by decide) rfl (fun ls hl => ?_)
            refine lv_aload_n hx hb dX9_foretold_125 rfl (lv_at hl 3 rfl) ?_
            refine va_get (D := D) (ci := 9) (v := .ref f1055_9) (C := RX9) (T := TX9) (N := 18) hx hb hts iX9_foretold_9 hown hN.1 hP 1 rfl rfl 9 (by decide) (hts _ mX9_foretold_3) (fun _ h9 => h9) rfl dX9_foretold_126 ?_
            refine lv_aload_n hx hb dX9_foretold_129 rfl (lv_at hl 3 rfl) ?_
            refine va_get (D := D) (ci := 9) (v := .ref (κ w).2.2.2) (C := RX9) (T := TX9) (N := 18) hx hb hts iX9_foretold_9 hown hN.1 hP 1 rfl rfl 8 (by decide) (hts _ mX9_foretold_2) (fun _ h9 => h9) rfl dX9_foretold_130 ?_
            refine cs_v (As := [.ref f1055_9, .ref (κ w).2.2.2]) (rest := []) ⟨hx, hb, hml, hown, hts⟩ (c_X9_copyD hT (a := f1055_9) t1055_9 (b := (κ w).2.2.2) t1055_8 (ne_c t1055_9.1 t1055_8.1 (by decide)) (by first | omega | decide | assumption) (by first | omega | decide | assumption)) (va_cwS 2 hts gX9_foretold_X9_copy rfl rfl rfl hdX9_copy_o ⟨Nat.le_of_ble_eq_true rfl, Nat.le_of_ble_eq_true rfl⟩) hN hE hL rfl rfl hl.1 (Nat.le_of_ble_eq_true rfl) dX9_foretold_133 (Nat.zero_le _) (Nat.zero_le _) (fun H1 locs hL hqr1076 => ?_)
            obtain ⟨hT1, hF1⟩ := hqr1076
            have hP : va_P D vwCl [(w, .inr (9, [.int f1055_0, .ref f1055_1, .int (nI ((κ w).2.2.1)), .int (nI f1055_3), .int (nI f1055_4), .int f1055_5, .int f1055_6, .int f1055_7, .ref (κ w).2.2.2, .ref f1055_9, .ref f1055_10, .ref f1055_11, .int (nI f1055_12), .int f1055_13, .int f1055_14, .int f1055_15, .int f1055_16, .ref f1055_17]))] _ := hF1.hP (hP.sub [1] rfl) (fa_c ⟨by rw [hw.1]; decide, by rw [hw.2]; first | decide | (simp; done) | (simp [h15a, h15b, h15c]; done) | (simp; omega)⟩ fa_n)
            have hF := hF.tr (hF1.mono (by simp))
            have hT := hT1
            refine lv_iload hx hb dX9_foretold_136 (lv_at hl 0 rfl) ?_
            exact en_i hx hb hr hlocks hL rfl (Nat.zero_le _) (Nat.zero_le _) dX9_foretold_138 (⟨hT.up (by omega), hF⟩)
          · refine lv_iconst (v := (-1)) hx hb dX9_foretold_76 (by decide) ?_
            refine lv_goto (tgt := 123) hx hb dX9_foretold_77 (by decide) ?_
            refine lv_istore (lv' := [(4, .int (-1)), (3, .int r1059), (2, .int x1058), (0, .ref w), (1, .int x)]) hx hb dX9_foretold_123 hl (by decide) rfl (fun ls hl => ?_)
            refine lv_aload_n hx hb dX9_foretold_125 rfl (lv_at hl 3 rfl) ?_
            refine va_get (D := D) (ci := 9) (v := .ref f1055_9) (C := RX9) (T := TX9) (N := 18) hx hb hts iX9_foretold_9 hown hN.1 hP 1 rfl rfl 9 (by decide) (hts _ mX9_foretold_3) (fun _ h9 => h9) rfl dX9_foretold_126 ?_
            refine lv_aload_n hx hb dX9_foretold_129 rfl (lv_at hl 3 rfl) ?_
            refine va_get (D := D) (ci := 9) (v := .ref (κ w).2.2.2) (C := RX9) (T := TX9) (N := 18) hx hb hts iX9_foretold_9 hown hN.1 hP 1 rfl rfl 8 (by decide) (hts _ mX9_foretold_2) (fun _ h9 => h9) rfl dX9_foretold_130 ?_
            refine cs_v (As := [.ref f1055_9, .ref (κ w).2.2.2]) (rest := []) ⟨hx, hb, hml, hown, hts⟩ (c_X9_copyD hT (a := f1055_9) t1055_9 (b := (κ w).2.2.2) t1055_8 (ne_c t1055_9.1 t1055_8.1 (by decide)) (by first | omega | decide | assumption) (by first | omega | decide | assumption)) (va_cwS 2 hts gX9_foretold_X9_copy rfl rfl rfl hdX9_copy_o ⟨Nat.le_of_ble_eq_true rfl, Nat.le_of_ble_eq_true rfl⟩) hN hE hL rfl rfl hl.1 (Nat.le_of_ble_eq_true rfl) dX9_foretold_133 (Nat.zero_le _) (Nat.zero_le _) (fun H1 locs hL hqr1077 => ?_)
            obtain ⟨hT1, hF1⟩ := hqr1077
            have hP : va_P D vwCl [(w, .inr (9, [.int f1055_0, .ref f1055_1, .int (nI ((κ w).2.2.1)), .int (nI f1055_3), .int (nI f1055_4), .int f1055_5, .int f1055_6, .int f1055_7, .ref (κ w).2.2.2, .ref f1055_9, .ref f1055_10, .ref f1055_11, .int (nI f1055_12), .int f1055_13, .int f1055_14, .int f1055_15, .int f1055_16, .ref f1055_17]))] _ := hF1.hP (hP.sub [1] rfl) (fa_c ⟨by rw [hw.1]; decide, by rw [hw.2]; first | decide | (simp; done) | (simp [h15a, h15b, h15c]; done) | (simp; omega)⟩ fa_n)
            have hF := hF.tr (hF1.mono (by simp))
            have hT := hT1
            refine lv_iload hx hb dX9_foretold_136 (lv_at hl 0 rfl) ?_
            exact en_i hx hb hr hlocks hL rfl (Nat.zero_le _) (Nat.zero_le _) dX9_foretold_138 (⟨hT.up (by omega), hF⟩)
      · refine lv_iload_n hx hb dX9_foretold_57 rfl (lv_at hl 0 rfl) ?_
        refine lv_goto (tgt := 123) hx hb dX9_foretold_58 (by decide) ?_
        refine lv_istore (lv' := [(4, .int r1059), (3, .int r1059), (2, .int x1058), (0, .ref w), (1, .int x)]) hx hb dX9_foretold_123 hl (by decide) rfl (fun ls hl => ?_)
        refine lv_aload_n hx hb dX9_foretold_125 rfl (lv_at hl 3 rfl) ?_
        refine va_get (D := D) (ci := 9) (v := .ref f1055_9) (C := RX9) (T := TX9) (N := 18) hx hb hts iX9_foretold_9 hown hN.1 hP 0 rfl rfl 9 (by decide) (hts _ mX9_foretold_3) (fun _ h9 => h9) rfl dX9_foretold_126 ?_
        refine lv_aload_n hx hb dX9_foretold_129 rfl (lv_at hl 3 rfl) ?_
        refine va_get (D := D) (ci := 9) (v := .ref (κ w).2.2.2) (C := RX9) (T := TX9) (N := 18) hx hb hts iX9_foretold_9 hown hN.1 hP 0 rfl rfl 8 (by decide) (hts _ mX9_foretold_2) (fun _ h9 => h9) rfl dX9_foretold_130 ?_
        refine cs_v (As := [.ref f1055_9, .ref (κ w).2.2.2]) (rest := []) ⟨hx, hb, hml, hown, hts⟩ (c_X9_copyD hT (a := f1055_9) t1055_9 (b := (κ w).2.2.2) t1055_8 (ne_c t1055_9.1 t1055_8.1 (by decide)) (by first | omega | decide | assumption) (by first | omega | decide | assumption)) (va_cwS 2 hts gX9_foretold_X9_copy rfl rfl rfl hdX9_copy_o ⟨Nat.le_of_ble_eq_true rfl, Nat.le_of_ble_eq_true rfl⟩) hN hE hL rfl rfl hl.1 (Nat.le_of_ble_eq_true rfl) dX9_foretold_133 (Nat.zero_le _) (Nat.zero_le _) (fun H1 locs hL hqr1078 => ?_)
        obtain ⟨hT1, hF1⟩ := hqr1078
        have hP : va_P D vwCl [(w, .inr (9, [.int f1055_0, .ref f1055_1, .int (nI ((κ w).2.2.1)), .int (nI f1055_3), .int (nI f1055_4), .int f1055_5, .int f1055_6, .int f1055_7, .ref (κ w).2.2.2, .ref f1055_9, .ref f1055_10, .ref f1055_11, .int (nI f1055_12), .int f1055_13, .int f1055_14, .int f1055_15, .int f1055_16, .ref f1055_17]))] _ := hF1.hP (hP.sub [0] rfl) (fa_c ⟨by rw [hw.1]; decide, by rw [hw.2]; first | decide | (simp; done) | (simp [h15a, h15b, h15c]; done) | (simp; omega)⟩ fa_n)
        have hF := hF.tr (hF1.mono (by simp))
        have hT := hT1
        refine lv_iload hx hb dX9_foretold_136 (lv_at hl 0 rfl) ?_
        exact en_i hx hb hr hlocks hL rfl (Nat.zero_le _) (Nat.zero_le _) dX9_foretold_138 (⟨hT.up (by omega), hF⟩)
theorem mX9_isSafe_1 : (.fieldLink RX9 18 "OneBeatModel" "data" "[I" : Cond) ∈ wsX9_isSafe := List.mem_of_getElem? (i := 1) (by decide +kernel)
theorem iX9_isSafe_9 : ∀ w ∈ wsX90, w ∈ wsX9_isSafe := fun w h => List.mem_of_mem_drop (List.mem_of_mem_take ((show wsX90 = (wsX9_isSafe.drop 85).take 18 by decide +kernel) ▸ h))
theorem hdX9_proposeNow_v : yX9_proposeNow.cls = RX9 ∧ yX9_proposeNow.cls ≠ "java/lang/invoke/MethodHandle" ∧ yX9_proposeNow.cls ≠ "java/lang/invoke/VarHandle" ∧ (parseMethodDescriptor yX9_proposeNow.desc).map (fun d => d.parameters.length) = some 2 := by decide +kernel
set_option maxHeartbeats 4000000 in
set_option maxRecDepth 100000 in
theorem c_X9_isSafe {l : Launch} {D : va_G} {cs : Nat → ClassId} {B0 T : Nat} {κ : KM} {H0 : Heap} (hT : WT B0 D cs T κ H0) {w : Nat} (hw : T2 κ w 10 12) {x : Int32} : KC l yX9_isSafe wsX9_isSafe 8 188 0 0 D cs B0 H0 [.ref w, .int x] (Qi (fun r H => WT B0 D cs (T + 400) κ H ∧ Fr B0 [18] κ H0 H ∧ (r = 0 ∨ r = 1))) := by
  refine KC.of cX9_isSafe 3 (some .boolean) (by decide) rfl (Nat.le_of_ble_eq_true rfl) ?_
  intro p e s m below meth c ls hx hb hr hml hown hts hlocks hin hN hE hH0 hl
  have hown : s.vm.findClass RX9 = some m.cls := hown
  have hl : lv_has ls 3 [(0, .ref w), (1, .int x)] := hl
  have hL : OkL B0 [] := OkL.nil
  have hF : Fr B0 [18] κ H0 H0 := Fr.rf
  refine lv_aload_n hx hb dX9_isSafe_0 rfl (lv_at hl 0 rfl) ?_
  obtain ⟨hb1079, e1079, hat1079, hk1079⟩ := hT.o10 hw.1
  obtain ⟨f1079_0, f1079_1, f1079_3, f1079_4, f1079_5, f1079_6, f1079_7, f1079_9, f1079_10, f1079_11, f1079_12, f1079_13, f1079_14, f1079_15, f1079_16, f1079_17, rfl, c1079_2, c1079_3, c1079_4, c1079_12, t1079_1, t1079_8, t1079_9, c1079_sd, t1079_10, t1079_11, t1079_17⟩ := hk1079
  have hP : va_P D vwCl [(w, .inr (9, [.int f1079_0, .ref f1079_1, .int (nI ((κ w).2.2.1)), .int (nI f1079_3), .int (nI f1079_4), .int f1079_5, .int f1079_6, .int f1079_7, .ref (κ w).2.2.2, .ref f1079_9, .ref f1079_10, .ref f1079_11, .int (nI f1079_12), .int f1079_13, .int f1079_14, .int f1079_15, .int f1079_16, .ref f1079_17]))] _ := va_P.cons hat1079 va_P.nil
  refine va_get (D := D) (ci := 9) (v := .ref (κ w).2.2.2) (C := RX9) (T := TX9) (N := 18) hx hb hts iX9_isSafe_9 hown hN.1 hP 0 rfl rfl 8 (by decide) (hts _ mX9_isSafe_1) (fun _ h9 => h9) rfl dX9_isSafe_1 ?_
  refine lv_bipush (v := 10) hx hb dX9_isSafe_4 (by decide) ?_
  obtain ⟨hb1080, e1080, hat1080, hk1080⟩ := hT.o24 t1079_8.1
  obtain ⟨g1080, rfl, q1080⟩ := hk1080
  have hP : va_P D vwCl [((κ w).2.2.2, .inl (cs 0, 45783, .inl g1080)), (w, .inr (9, [.int f1079_0, .ref f1079_1, .int (nI ((κ w).2.2.1)), .int (nI f1079_3), .int (nI f1079_4), .int f1079_5, .int f1079_6, .int f1079_7, .ref (κ w).2.2.2, .ref f1079_9, .ref f1079_10, .ref f1079_11, .int (nI f1079_12), .int f1079_13, .int f1079_14, .int f1079_15, .int f1079_16, .ref f1079_17]))] _ := va_P.cons hat1080 hP
  refine ld_i (v := (g1080 10)) hx hb hN hP 0 rfl (vp_in_nI (n := 10) (N := 45783) (by omega) (by omega)) (by rw [(show (10 : Int32).toNatClampNeg = 10 from nI_clamp (n := 10) (by omega))]) dX9_isSafe_6 ?_
  refine gn_i (fun x1081 => ?_)
  refine lv_istore_n (lv' := [(2, .int x1081), (0, .ref w), (1, .int x)]) hx hb dX9_isSafe_7 rfl hl (by decide) rfl (fun ls hl => ?_)
  refine lv_aload_n hx hb dX9_isSafe_8 rfl (lv_at hl 1 rfl) ?_
  refine lv_iconst (v := 1) hx hb dX9_isSafe_9 (by decide) ?_
  refine lv_iload_n hx hb dX9_isSafe_10 rfl (lv_at hl 2 rfl) ?_
  refine cv_i (As := [.int 1, .int x]) (rest := []) (b := w) ⟨hx, hb, hml, hown, hts⟩ (c_X9_proposeNow hT (w := w) hw (x := 1) (y := x)) (cwV 2 hts gX9_isSafe_X9_proposeNow rfl rfl rfl hdX9_proposeNow_v ⟨Nat.le_of_ble_eq_true rfl, Nat.le_of_ble_eq_true rfl⟩) hN hE hL (rcv10 hN hT hw.1) rfl rfl hl.1 (Nat.le_of_ble_eq_true rfl) dX9_isSafe_11 (Nat.zero_le _) (Nat.zero_le _) (fun r1082 H1 locs hL hqr1082 => ?_)
  obtain ⟨hT1, hF1⟩ := hqr1082
  have hP : va_P D vwCl [(w, .inr (9, [.int f1079_0, .ref f1079_1, .int (nI ((κ w).2.2.1)), .int (nI f1079_3), .int (nI f1079_4), .int f1079_5, .int f1079_6, .int f1079_7, .ref (κ w).2.2.2, .ref f1079_9, .ref f1079_10, .ref f1079_11, .int (nI f1079_12), .int f1079_13, .int f1079_14, .int f1079_15, .int f1079_16, .ref f1079_17]))] _ := hF1.hP (hP.sub [1] rfl) (fa_c ⟨by rw [hw.1]; decide, by rw [hw.2]; first | decide | (simp; done) | (simp [h15a, h15b, h15c]; done) | (simp; omega)⟩ fa_n)
  have hF := hF.tr (hF1.mono (by simp))
  have hT := hT1
  refine lv_pop hx hb dX9_isSafe_14 rfl ?_
  refine lv_aload_n hx hb dX9_isSafe_15 rfl (lv_at hl 1 rfl) ?_
  refine cv_i (As := []) (rest := []) (b := w) ⟨hx, hb, hml, hown, hts⟩ (c_X9_goOn hT (w := w) hw) (cwV 0 hts gX9_isSafe_X9_goOn rfl rfl rfl hdX9_goOn_v ⟨Nat.le_of_ble_eq_true rfl, Nat.le_of_ble_eq_true rfl⟩) hN hE hL (rcv10 hN hT hw.1) rfl rfl hl.1 (Nat.le_of_ble_eq_true rfl) dX9_isSafe_16 (Nat.zero_le _) (Nat.zero_le _) (fun r1083 H1 locs hL hqr1083 => ?_)
  obtain ⟨hT1, hF1⟩ := hqr1083
  have hP : va_P D vwCl [(w, .inr (9, [.int f1079_0, .ref f1079_1, .int (nI ((κ w).2.2.1)), .int (nI f1079_3), .int (nI f1079_4), .int f1079_5, .int f1079_6, .int f1079_7, .ref (κ w).2.2.2, .ref f1079_9, .ref f1079_10, .ref f1079_11, .int (nI f1079_12), .int f1079_13, .int f1079_14, .int f1079_15, .int f1079_16, .ref f1079_17]))] _ := hF1.hP (hP.sub [0] rfl) (fa_c ⟨by rw [hw.1]; decide, by rw [hw.2]; first | decide | (simp; done) | (simp [h15a, h15b, h15c]; done) | (simp; omega)⟩ fa_n)
  have hF := hF.tr (hF1.mono (by simp))
  have hT := hT1
  refine lv_pop hx hb dX9_isSafe_19 rfl ?_
  refine lv_aload_n hx hb dX9_isSafe_20 rfl (lv_at hl 1 rfl) ?_
  refine va_get (D := D) (ci := 9) (v := .ref (κ w).2.2.2) (C := RX9) (T := TX9) (N := 18) hx hb hts iX9_isSafe_9 hown hN.1 hP 0 rfl rfl 8 (by decide) (hts _ mX9_isSafe_1) (fun _ h9 => h9) rfl dX9_isSafe_21 ?_
  refine lv_bipush (v := 20) hx hb dX9_isSafe_24 (by decide) ?_
  obtain ⟨hb1084, e1084, hat1084, hk1084⟩ := hT.o24 t1079_8.1
  obtain ⟨g1084, rfl, q1084⟩ := hk1084
  have hP : va_P D vwCl [((κ w).2.2.2, .inl (cs 0, 45783, .inl g1084)), (w, .inr (9, [.int f1079_0, .ref f1079_1, .int (nI ((κ w).2.2.1)), .int (nI f1079_3), .int (nI f1079_4), .int f1079_5, .int f1079_6, .int f1079_7, .ref (κ w).2.2.2, .ref f1079_9, .ref f1079_10, .ref f1079_11, .int (nI f1079_12), .int f1079_13, .int f1079_14, .int f1079_15, .int f1079_16, .ref f1079_17]))] _ := va_P.cons hat1084 hP
  refine ld_i (v := (g1084 20)) hx hb hN hP 0 rfl (vp_in_nI (n := 20) (N := 45783) (by omega) (by omega)) (by rw [(show (20 : Int32).toNatClampNeg = 20 from nI_clamp (n := 20) (by omega))]) dX9_isSafe_26 ?_
  refine gn_i (fun x1085 => ?_)
  refine lv_iconst (v := 1) hx hb dX9_isSafe_27 (by decide) ?_
  refine lv_icmp_ne (tgt := 46) hx hb dX9_isSafe_28 (by decide) (fun c1086 => ?_) (fun c1086 => ?_)
  · refine lv_iconst (v := 0) hx hb dX9_isSafe_46 (by decide) ?_
    exact en_i hx hb hr hlocks hL rfl (Nat.zero_le _) (Nat.zero_le _) dX9_isSafe_47 (⟨hT, hF, Or.inl rfl⟩)
  · refine lv_aload_n hx hb dX9_isSafe_31 rfl (lv_at hl 1 rfl) ?_
    refine va_get (D := D) (ci := 9) (v := .ref (κ w).2.2.2) (C := RX9) (T := TX9) (N := 18) hx hb hts iX9_isSafe_9 hown hN.1 hP 1 rfl rfl 8 (by decide) (hts _ mX9_isSafe_1) (fun _ h9 => h9) rfl dX9_isSafe_32 ?_
    refine lv_bipush (v := 10) hx hb dX9_isSafe_35 (by decide) ?_
    refine ld_i (v := (g1084 10)) hx hb hN hP 0 rfl (vp_in_nI (n := 10) (N := 45783) (by omega) (by omega)) (by rw [(show (10 : Int32).toNatClampNeg = 10 from nI_clamp (n := 10) (by omega))]) dX9_isSafe_37 ?_
    refine gn_i (fun x1087 => ?_)
    refine lv_iload_n hx hb dX9_isSafe_38 rfl (lv_at hl 0 rfl) ?_
    refine lv_icmp_ne (tgt := 46) hx hb dX9_isSafe_39 (by decide) (fun c1088 => ?_) (fun c1088 => ?_)
    · refine lv_iconst (v := 0) hx hb dX9_isSafe_46 (by decide) ?_
      exact en_i hx hb hr hlocks hL rfl (Nat.zero_le _) (Nat.zero_le _) dX9_isSafe_47 (⟨hT, hF, Or.inl rfl⟩)
    · refine lv_iconst (v := 1) hx hb dX9_isSafe_42 (by decide) ?_
      refine lv_goto (tgt := 47) hx hb dX9_isSafe_43 (by decide) ?_
      exact en_i hx hb hr hlocks hL rfl (Nat.zero_le _) (Nat.zero_le _) dX9_isSafe_47 (⟨hT, hF, Or.inr rfl⟩)
theorem mX9_safest_1 : (.fieldLink RX9 40 "OneBeatModel" "thrown" "I" : Cond) ∈ wsX9_safest := List.mem_of_getElem? (i := 1) (by decide +kernel)
theorem iX9_safest_9 : ∀ w ∈ wsX90, w ∈ wsX9_safest := fun w h => List.mem_of_mem_drop (List.mem_of_mem_take ((show wsX90 = (wsX9_safest.drop 98).take 18 by decide +kernel) ▸ h))
theorem hdX9_mayPropose_v : yX9_mayPropose.cls = RX9 ∧ yX9_mayPropose.cls ≠ "java/lang/invoke/MethodHandle" ∧ yX9_mayPropose.cls ≠ "java/lang/invoke/VarHandle" ∧ (parseMethodDescriptor yX9_mayPropose.desc).map (fun d => d.parameters.length) = some 0 := by decide +kernel
theorem mX9_safest_2 : (.fieldLink RX9 18 "OneBeatModel" "data" "[I" : Cond) ∈ wsX9_safest := List.mem_of_getElem? (i := 2) (by decide +kernel)
theorem mX9_safest_3 : (.fieldLink RX9 21 "OneBeatModel" "aside" "[I" : Cond) ∈ wsX9_safest := List.mem_of_getElem? (i := 3) (by decide +kernel)
theorem hdX9_isSafe_v : yX9_isSafe.cls = RX9 ∧ yX9_isSafe.cls ≠ "java/lang/invoke/MethodHandle" ∧ yX9_isSafe.cls ≠ "java/lang/invoke/VarHandle" ∧ (parseMethodDescriptor yX9_isSafe.desc).map (fun d => d.parameters.length) = some 1 := by decide +kernel
