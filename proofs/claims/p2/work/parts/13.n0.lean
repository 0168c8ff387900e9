set_option maxHeartbeats 4000000 in
set_option maxRecDepth 100000 in
/-- copy, over the two rows as they are -/
theorem c_X9_copy0 {l : Launch} {D : va_G} {cs : Nat → ClassId} {B0 : Nat} {H0 : Heap} {a b n1 n2 n : Nat} {f g : Nat → Int32} (ha : va_at D vwCl (a, .inl (cs 0, n1, .inl f)) H0) (hb9 : va_at D vwCl (b, .inl (cs 0, n2, .inl g)) H0) (hab : a ≠ b) (h0a : B0 ≤ a) (h0b : B0 ≤ b) (e3 : f 3 = nI n) (hn : n ≤ 7400 ∧ 1383 + 6 * n ≤ n1 ∧ 1383 + 6 * n ≤ n2 ∧ n1 < 2 ^ 31 ∧ n2 < 2 ^ 31) :
    KC l yX9_copy wsX9_copy 0 0 0 0 D cs B0 H0 [.ref a, .ref b] (Qv (fun H => va_at D vwCl (b, .inl (cs 0, n2, .inl (cpF (1383 + 6 * n) f g))) H ∧ H0.size ≤ H.size ∧ ∀ q, q < H0.size → q ≠ b → H[q]? = H0[q]?)) := by
  refine KC.of cX9_copy 4 none (by decide) rfl (Nat.le_of_ble_eq_true rfl) ?_
  intro p e s m below meth c ls hx hb hr hml hown hts hlocks hin hN hE hH0 hl
  have hown : s.vm.findClass RX9 = some m.cls := hown
  have hl : lv_has ls 4 [(0, .ref a), (1, .ref b)] := hl
  have hL : OkL B0 [] := OkL.nil
  have hB : Bx B0 D H0 [(a, .inl (cs 0, n1, .inl f)), (b, .inl (cs 0, n2, .inl g))] [] H0 [] := Bx.of (fun q => if q = b then 1 else 0) hL (va_P.cons ha (va_P.cons hb9 va_P.nil)) (fa_c h0a (fa_c h0b fa_n)) (by simp only [List.map_cons, List.map_nil, if_neg hab, if_pos]; decide)
  refine lv_sipush (v := 1383) hx hb dX9_copy_0 (by decide) ?_
  refine lv_bipush (v := 6) hx hb dX9_copy_3 (by decide) ?_
  refine lv_aload_n hx hb dX9_copy_5 rfl (lv_at hl 0 rfl) ?_
  refine lv_iconst (v := 3) hx hb dX9_copy_6 (by decide) ?_
  refine ld_i (v := nI n) hx hb hN hB.1 0 rfl (vp_in_nI (n := 3) (by omega) (by omega)) e3 dX9_copy_7 ?_
  refine lv_imul hx hb dX9_copy_8 ?_
  refine tp_i (nI (6 * n)) (nI_mul 6 n) ?_
  refine lv_iadd hx hb dX9_copy_9 ?_
  refine tp_i (nI (1383 + 6 * n)) (nI_add 1383 (6 * n)) ?_
  refine lv_istore_n (lv' := [(2, .int (nI (1383 + 6 * n))), (0, .ref a), (1, .ref b)]) hx hb dX9_copy_10 rfl hl (by decide) rfl (fun ls hl => ?_)
  refine lv_iconst (v := 0) hx hb dX9_copy_11 (by decide) ?_
  refine lv_istore_n (lv' := [(3, .int (nI 0)), (2, .int (nI (1383 + 6 * n))), (0, .ref a), (1, .ref b)]) hx hb dX9_copy_12 rfl hl (by decide) rfl (fun ls hl => ?_)
  refine lp_m (α := Nat) (nL := 4) (fun i => 1383 + 6 * n - i) (fun i H9 l9 => i ≤ 1383 + 6 * n ∧ ∃ ms, (∀ q ∈ ms, q = b) ∧ Bx B0 D H0 [(a, .inl (cs 0, n1, .inl f)), (b, .inl (cs 0, n2, .inl (cpF i f g)))] ms H9 l9) (fun i => [(3, .int (nI i)), (2, .int (nI (1383 + 6 * n))), (0, .ref a), (1, .ref b)]) ?_ 0 _ _ _ ⟨Nat.zero_le _, [], (fun q h => by cases h), by rw [cpF_0]; exact hB⟩ hl
  rintro i H locs ls ih ⟨hi, ms, hms, hB⟩ hl
  have hl : lv_has ls 4 [(3, .int (nI i)), (2, .int (nI (1383 + 6 * n))), (0, .ref a), (1, .ref b)] := hl
  refine lv_iload_n hx hb dX9_copy_13 rfl (lv_at hl 0 rfl) ?_
  refine lv_iload_n hx hb dX9_copy_14 rfl (lv_at hl 1 rfl) ?_
  refine lv_icmp_ge (tgt := 30) hx hb dX9_copy_15 (by decide) (fun c9 => ?_) (fun c9 => ?_)
  · rw [nI_leI (by omega) (by omega)] at c9
    have e : i = 1383 + 6 * n := by omega
    subst e
    refine en_v hx hb hr hlocks hB.2.2.2.2.2 (Nat.le_refl _) (Nat.le_refl _) dX9_copy_30 ⟨hB.1 1 _ rfl, hB.2.2.1, fun q hq hne => hB.2.2.2.1 q hq (fun h => hne (hms q h))⟩
  · rw [nI_leI (by omega) (by omega)] at c9
    refine lv_aload_n hx hb dX9_copy_18 rfl (lv_at hl 3 rfl) ?_
    refine lv_iload_n hx hb dX9_copy_19 rfl (lv_at hl 0 rfl) ?_
    refine lv_aload_n hx hb dX9_copy_20 rfl (lv_at hl 2 rfl) ?_
    refine lv_iload_n hx hb dX9_copy_21 rfl (lv_at hl 0 rfl) ?_
    refine ld_i (v := f i) hx hb hN hB.1 0 rfl (vp_in_nI (by omega) (by omega)) (by rw [nI_clamp (by omega)]) dX9_copy_22 ?_
    refine b_i (ms' := b :: ms) hx hb hN hB 1 rfl (vp_in_nI (by omega) (by omega)) (.inl rfl) dX9_copy_23 (fun H locs hB => ?_)
    rw [nI_clamp (by omega), cpF_s] at hB
    refine lv_iinc (v := nI (i + 1)) (lv' := [(3, .int (nI (i + 1))), (2, .int (nI (1383 + 6 * n))), (0, .ref a), (1, .ref b)]) hx hb dX9_copy_24 hl (k := 0) rfl (nI_1 i) (by decide) rfl (fun ls hl => ?_)
    refine lv_goto (tgt := 13) hx hb dX9_copy_27 (by decide) ?_
    exact ih (i + 1) _ _ _ (by show 1383 + 6 * n - (i + 1) < 1383 + 6 * n - i; omega) ⟨by omega, b :: ms, fun q hq => (List.mem_cons.mp hq).elim id (hms q), hB⟩ hl
/-- a row of data into another -/
theorem c_X9_copyD {l : Launch} {D : va_G} {cs : Nat → ClassId} {B0 T : Nat} {κ : KM} {H0 : Heap} (hT : WT B0 D cs T κ H0) {a b c1 c2 : Nat} (ha : T2 κ a c1 18) (hb : T2 κ b c2 18) (hab : a ≠ b) (h1 : c1 = 24 ∨ c1 = 25) (h2 : c2 = 24 ∨ c2 = 25) : KC l yX9_copy wsX9_copy 0 0 0 0 D cs B0 H0 [.ref a, .ref b] (Qv (fun H => WT B0 D cs T κ H ∧ Fr B0 [18] κ H0 H)) := by
  have open9 : ∀ {x c : Nat}, T2 κ x c 18 → c = 24 ∨ c = 25 → B0 ≤ x ∧ ∃ f, va_at D vwCl (x, .inl (cs 0, 45783, .inl f)) H0 ∧ DOK T f := by
    intro x c hx hc
    rcases hc with rfl | rfl
    · obtain ⟨g0, e, g1, f, rfl, g2⟩ := hT.o24 hx.1
      exact ⟨g0, f, g1, g2⟩
    · obtain ⟨g0, e, g1, f, rfl, g2⟩ := hT.o25 hx.1
      exact ⟨g0, f, g1, g2⟩
  obtain ⟨h0a, f, hfa, hqa⟩ := open9 ha h1
  obtain ⟨h0b, g, hfb, hqb⟩ := open9 hb h2
  obtain ⟨n, hn, e3⟩ := hqa.2.2.2.1
  have h := c_X9_copy0 (l := l) (B0 := B0) hfa hfb hab h0a h0b e3 ⟨hn, by omega, by omega, by omega, by omega⟩
  refine h.wk ?_
  rintro v H ⟨rfl, k1, k2, k3⟩
  refine ⟨rfl, ?_, k2, fun q hq hc => k3 q hq ?_⟩
  · intro q hq
    obtain ⟨q0, e, q1, q2⟩ := hT q hq
    refine ⟨q0, ?_⟩
    by_cases hz : q = b
    · subst hz
      have hd := hqa.cp (g := cpF (1383 + 6 * n) f g) hqb (n := n) (fun i hi => cpF_lt hi) (fun i hi => if_neg (by omega))
      rcases h2 with h2 | h2
      · exact ⟨_, k1, ok_24 (hb.1.trans h2) ⟨_, rfl, hd⟩⟩
      · exact ⟨_, k1, ok_25 (hb.1.trans h2) ⟨_, rfl, hd⟩⟩
    · exact ⟨e, q1.kept (k3 q q1.lt hz), q2⟩
  · rintro rfl
    rcases hc with hc | hc
    · omega
    · exact hc.2 (by rw [hb.2]; exact List.mem_cons_self)
/-- the draft into the data, when its codes run -/
theorem c_X9_copyR {l : Launch} {D : va_G} {cs : Nat → ClassId} {B0 T : Nat} {κ : KM} {H0 : Heap} (hT : WT B0 D cs T κ H0) {a b n h : Nat} (ha : T2 κ a 26 17) (hb : T2 κ b 24 18) {f : Nat → Int32} (hf : va_at D vwCl (a, .inl (cs 0, 1383, .inl f)) H0) (hd : DRK f) (e14 : f 14 = nI n) (hn : n ≤ 1200) (hc : CV (fun i => f (183 + i)) n h) : KC l yX9_copy wsX9_copy 0 0 0 0 D cs B0 H0 [.ref a, .ref b] (Qv (fun H => WT B0 D cs T κ H ∧ Fr B0 [18] κ H0 H)) := by
  obtain ⟨h0a, -, -, -⟩ := hT.o26 ha.1
  obtain ⟨h0b, e, hfb, g, rfl, hqb⟩ := hT.o24 hb.1
  have h := c_X9_copy0 (l := l) (B0 := B0) (n := 0) hf hfb (ne_c ha.1 hb.1 (by decide)) h0a h0b (hd.2.2.2.1) ⟨by omega, by omega, by omega, by omega, by omega⟩
  refine h.wk ?_
  rintro v H ⟨rfl, k1, k2, k3⟩
  refine ⟨rfl, ?_, k2, fun q hq hc => k3 q hq ?_⟩
  · intro q hq
    obtain ⟨q0, e, q1, q2⟩ := hT q hq
    refine ⟨q0, ?_⟩
    by_cases hz : q = b
    · subst hz
      exact ⟨_, k1, ok_24 hb.1 ⟨_, rfl, hd.dok hqb e14 hn hc (fun i hi => cpF_lt (by omega)) (fun i hi => if_neg (by omega))⟩⟩
    · exact ⟨e, q1.kept (k3 q q1.lt hz), q2⟩
  · rintro rfl
    rcases hc with hc | hc
    · omega
    · exact hc.2 (by rw [hb.2]; exact List.mem_cons_self)

theorem mX9_remember_1 : (.fieldLink RX9 302 "OneBeatModel" "undoDepth" "I" : Cond) ∈ wsX9_remember := List.mem_of_getElem? (i := 1) (by decide +kernel)
theorem iX9_remember_9 : ∀ w ∈ wsX90, w ∈ wsX9_remember := fun w h => List.mem_of_mem_drop (List.mem_of_mem_take ((show wsX90 = (wsX9_remember.drop 8).take 18 by decide +kernel) ▸ h))
theorem mX9_remember_3 : (.fieldLink RX9 18 "OneBeatModel" "data" "[I" : Cond) ∈ wsX9_remember := List.mem_of_getElem? (i := 3) (by decide +kernel)
theorem mX9_remember_2 : (.fieldLink RX9 29 "OneBeatModel" "history" "[[I" : Cond) ∈ wsX9_remember := List.mem_of_getElem? (i := 2) (by decide +kernel)
theorem hdX9_copy_o : yX9_copy.cls ≠ "java/lang/invoke/MethodHandle" ∧ yX9_copy.cls ≠ "java/lang/invoke/VarHandle" ∧ (parseMethodDescriptor yX9_copy.desc).map (fun d => d.parameters.length) = some 2 := by decide +kernel
set_option maxHeartbeats 4000000 in
set_option maxRecDepth 100000 in
theorem c_X9_remember {l : Launch} {D : va_G} {cs : Nat → ClassId} {B0 T : Nat} {κ : KM} {H0 : Heap} (hT : WT B0 D cs T κ H0) {w : Nat} (hw : T2 κ w 10 12) : KC l yX9_remember wsX9_remember 1 23 0 0 D cs B0 H0 [.ref w] (Qv (fun H => WT B0 D cs T κ H ∧ Fr B0 [12, 18] κ H0 H)) := by
  refine KC.of cX9_remember 2 none (by decide) rfl (Nat.le_of_ble_eq_true rfl) ?_
  intro p e s m below meth c ls hx hb hr hml hown hts hlocks hin hN hE hH0 hl
  have hown : s.vm.findClass RX9 = some m.cls := hown
  have hl : lv_has ls 2 [(0, .ref w)] := hl
  have hL : OkL B0 [] := OkL.nil
  have hF : Fr B0 [12, 18] κ H0 H0 := Fr.rf
  refine lv_aload_n hx hb dX9_remember_0 rfl (lv_at hl 0 rfl) ?_
  obtain ⟨hb851, e851, hat851, hk851⟩ := hT.o10 hw.1
  obtain ⟨f851_0, f851_1, f851_3, f851_4, f851_5, f851_6, f851_7, f851_9, f851_10, f851_11, f851_12, f851_13, f851_14, f851_15, f851_16, f851_17, rfl, c851_2, c851_3, c851_4, c851_12, t851_1, t851_8, t851_9, c851_sd, t851_10, t851_11, t851_17⟩ := hk851
  have hP : va_P D vwCl [(w, .inr (9, [.int f851_0, .ref f851_1, .int (nI ((κ w).2.2.1)), .int (nI f851_3), .int (nI f851_4), .int f851_5, .int f851_6, .int f851_7, .ref (κ w).2.2.2, .ref f851_9, .ref f851_10, .ref f851_11, .int (nI f851_12), .int f851_13, .int f851_14, .int f851_15, .int f851_16, .ref f851_17]))] _ := va_P.cons hat851 va_P.nil
  refine va_get (D := D) (ci := 9) (v := .int (nI f851_12)) (C := RX9) (T := TX9) (N := 18) hx hb hts iX9_remember_9 hown hN.1 hP 0 rfl rfl 12 (by decide) (hts _ mX9_remember_1) (fun _ h9 => h9) rfl dX9_remember_1 ?_
  refine lv_bipush (v := 8) hx hb dX9_remember_4 (by decide) ?_
  refine lv_icmp_ne (tgt := 50) hx hb dX9_remember_6 (by decide) (fun c852 => ?_) (fun c852 => ?_)
  · have c852 : ¬ f851_12 = 8 := fun h9 => c852 ((nI_eq (a := f851_12) (b := 8) (by omega) (by omega)).mpr h9)
    refine lv_aload_n hx hb dX9_remember_50 rfl (lv_at hl 0 rfl) ?_
    refine va_get (D := D) (ci := 9) (v := .ref (κ w).2.2.2) (C := RX9) (T := TX9) (N := 18) hx hb hts iX9_remember_9 hown hN.1 hP 0 rfl rfl 8 (by decide) (hts _ mX9_remember_3) (fun _ h9 => h9) rfl dX9_remember_51 ?_
    refine lv_aload_n hx hb dX9_remember_54 rfl (lv_at hl 0 rfl) ?_
    refine va_get (D := D) (ci := 9) (v := .ref f851_11) (C := RX9) (T := TX9) (N := 18) hx hb hts iX9_remember_9 hown hN.1 hP 0 rfl rfl 11 (by decide) (hts _ mX9_remember_2) (fun _ h9 => h9) rfl dX9_remember_55 ?_
    refine lv_aload_n hx hb dX9_remember_58 rfl (lv_at hl 0 rfl) ?_
    refine va_get (D := D) (ci := 9) (v := .int (nI f851_12)) (C := RX9) (T := TX9) (N := 18) hx hb hts iX9_remember_9 hown hN.1 hP 0 rfl rfl 12 (by decide) (hts _ mX9_remember_1) (fun _ h9 => h9) rfl dX9_remember_59 ?_
    obtain ⟨hb853, e853, hat853, hk853⟩ := hT.o27 t851_11.1
    obtain ⟨g853, rfl, q853⟩ := hk853
    have hP : va_P D vwCl [(f851_11, .inl (cs 6, 8, .inr (.inr (.inr (.inr g853))))), (w, .inr (9, [.int f851_0, .ref f851_1, .int (nI ((κ w).2.2.1)), .int (nI f851_3), .int (nI f851_4), .int f851_5, .int f851_6, .int f851_7, .ref (κ w).2.2.2, .ref f851_9, .ref f851_10, .ref f851_11, .int (nI f851_12), .int f851_13, .int f851_14, .int f851_15, .int f851_16, .ref f851_17]))] _ := va_P.cons hat853 hP
    obtain ⟨a854, ea854, ta854, ua854⟩ := q853 (f851_12) (by omega)
    refine ld_a (v := .ref a854) hx hb hN hP 0 rfl (vp_in_nI (n := f851_12) (N := 8) (by omega) (by omega)) (by rw [(show ((nI f851_12) : Int32).toNatClampNeg = f851_12 from nI_clamp (n := f851_12) (by omega)), ea854]; rfl) dX9_remember_62 ?_
    refine cs_v (As := [.ref (κ w).2.2.2, .ref a854]) (rest := []) ⟨hx, hb, hml, hown, hts⟩ (c_X9_copyD hT (a := (κ w).2.2.2) t851_8 (b := a854) ta854 (ne_c t851_8.1 ta854.1 (by decide)) (by first | omega | decide | assumption) (by first | omega | decide | assumption)) (va_cwS 2 hts gX9_remember_X9_copy rfl rfl rfl hdX9_copy_o ⟨Nat.le_of_ble_eq_true rfl, Nat.le_of_ble_eq_true rfl⟩) hN hE hL rfl rfl hl.1 (Nat.le_of_ble_eq_true rfl) dX9_remember_63 (Nat.zero_le _) (Nat.zero_le _) (fun H1 locs hL hqr855 => ?_)
    obtain ⟨hT1, hF1⟩ := hqr855
    have hP : va_P D vwCl [(f851_11, .inl (cs 6, 8, .inr (.inr (.inr (.inr g853))))), (w, .inr (9, [.int f851_0, .ref f851_1, .int (nI ((κ w).2.2.1)), .int (nI f851_3), .int (nI f851_4), .int f851_5, .int f851_6, .int f851_7, .ref (κ w).2.2.2, .ref f851_9, .ref f851_10, .ref f851_11, .int (nI f851_12), .int f851_13, .int f851_14, .int f851_15, .int f851_16, .ref f851_17]))] _ := hF1.hP (hP.sub [0, 1] rfl) (fa_c ⟨by rw [t851_11.1]; decide, by rw [t851_11.2]; first | decide | (simp; done) | (simp; omega)⟩ (fa_c ⟨by rw [hw.1]; decide, by rw [hw.2]; first | decide | (simp; done) | (simp; omega)⟩ fa_n))
    have hF := hF.tr (hF1.mono (by simp))
    have hT := hT1
    refine lv_aload_n hx hb dX9_remember_66 rfl (lv_at hl 0 rfl) ?_
    refine lv_dup hx hb dX9_remember_67 rfl ?_
    refine va_get (D := D) (ci := 9) (v := .int (nI f851_12)) (C := RX9) (T := TX9) (N := 18) hx hb hts iX9_remember_9 hown hN.1 hP 1 rfl rfl 12 (by decide) (hts _ mX9_remember_1) (fun _ h9 => h9) rfl dX9_remember_68 ?_
    refine lv_iconst (v := 1) hx hb dX9_remember_71 (by decide) ?_
    refine lv_iadd hx hb dX9_remember_72 ?_
    refine tp_i (nI (f851_12 + 1)) (nI_add f851_12 1) ?_
    have hB : Bx B0 D _ [(f851_11, .inl (cs 6, 8, .inr (.inr (.inr (.inr g853))))), (w, .inr (9, [.int f851_0, .ref f851_1, .int (nI ((κ w).2.2.1)), .int (nI f851_3), .int (nI f851_4), .int f851_5, .int f851_6, .int f851_7, .ref (κ w).2.2.2, .ref f851_9, .ref f851_10, .ref f851_11, .int (nI f851_12), .int f851_13, .int f851_14, .int f851_15, .int f851_16, .ref f851_17]))] [] _ _ := Bx.of (fun a => (κ a).1) hL hP (fa_c hb853 (fa_c hb851 fa_n)) (by simp only [List.map_cons, List.map_nil, t851_11.1, hw.1]; decide)
    refine b_put (D := D) (ci := 9) (v := .int (nI (f851_12 + 1))) (ty := .int) (C := RX9) (T := TX9) (N := 18) hx hb hts iX9_remember_9 tyX9 tyX9_ok nmX9 hown hN hB 1 rfl rfl 12 (by decide) (hts _ mX9_remember_1) (fun _ h9 => h9) rfl (by decide +kernel) rfl rfl (Nat.le_of_ble_eq_true rfl) (.inl rfl) dX9_remember_73 (fun H locs hB => ?_)
    have hB : Bx B0 D _ [(f851_11, .inl (cs 6, 8, .inr (.inr (.inr (.inr g853))))), (w, .inr (9, [.int f851_0, .ref f851_1, .int (nI ((κ w).2.2.1)), .int (nI f851_3), .int (nI f851_4), .int f851_5, .int f851_6, .int f851_7, .ref (κ w).2.2.2, .ref f851_9, .ref f851_10, .ref f851_11, .int (nI (f851_12 + 1)), .int f851_13, .int f851_14, .int f851_15, .int f851_16, .ref f851_17]))] [w] _ _ := hB
    have hT : WT B0 D cs T κ _ := hT.close hB ⟨⟨1, _, rfl, ok_10 hw.1 ⟨_, _, _, _, _, _, _, _, _, _, _, _, _, _, _, _, rfl, (by omega), (by omega), (by omega), (by omega), t851_1, t851_8, t851_9, c851_sd, t851_10, t851_11, t851_17⟩⟩, trivial⟩
    have hF : Fr B0 [12, 18] κ H0 _ := hF.close hB (fa_c (by simp [hw.2]) fa_n)
    have hL : OkL B0 _ := hB.2.2.2.2.2
    have hP : va_P D vwCl [(f851_11, .inl (cs 6, 8, .inr (.inr (.inr (.inr g853))))), (w, .inr (9, [.int f851_0, .ref f851_1, .int (nI ((κ w).2.2.1)), .int (nI f851_3), .int (nI f851_4), .int f851_5, .int f851_6, .int f851_7, .ref (κ w).2.2.2, .ref f851_9, .ref f851_10, .ref f851_11, .int (nI (f851_12 + 1)), .int f851_13, .int f851_14, .int f851_15, .int f851_16, .ref f851_17]))] _ := hB.1
    exact en_v hx hb hr hlocks hL (Nat.zero_le _) (Nat.zero_le _) dX9_remember_76 (⟨hT, hF⟩)
  · have c852 : f851_12 = 8 := (nI_eq (a := f851_12) (b := 8) (by omega) (by omega)).mp c852
    refine lv_iconst (v := 1) hx hb dX9_remember_9 (by decide) ?_
    refine lv_istore_n (lv' := [(1, .int 1), (0, .ref w)]) hx hb dX9_remember_10 rfl hl (by decide) rfl (fun ls hl => ?_)
    refine lp_m (α := Nat) (nL := 2) (fun a9 => 8 - a9) (fun a9 H9 l9 => (1 ≤ a9 ∧ a9 ≤ 8) ∧ (WT B0 D cs T κ H9) ∧ (Fr B0 [12, 18] κ H0 H9) ∧ (OkL B0 l9) ∧ (va_P D vwCl [(w, .inr (9, [.int f851_0, .ref f851_1, .int (nI ((κ w).2.2.1)), .int (nI f851_3), .int (nI f851_4), .int f851_5, .int f851_6, .int f851_7, .ref (κ w).2.2.2, .ref f851_9, .ref f851_10, .ref f851_11, .int (nI f851_12), .int f851_13, .int f851_14, .int f851_15, .int f851_16, .ref f851_17]))] H9)) (fun a9 => [(1, .int (nI a9)), (0, .ref w)]) ?_ 1 _ _ _ ⟨(by show 1 ≤ (1) ∧ (1) ≤ 8; omega), hT, hF, hL, (hP.sub [0] rfl)⟩ (lv_sub hl [0, 1] rfl)
    rintro k H locs ls ih856 ⟨hk, hT, hF, hL, hP⟩ hl
    have hl : lv_has ls 2 [(1, .int (nI k)), (0, .ref w)] := hl
    have hk : 1 ≤ k ∧ k ≤ 8 := hk
    refine lv_iload_n hx hb dX9_remember_11 rfl (lv_at hl 0 rfl) ?_
    refine lv_bipush (v := 8) hx hb dX9_remember_12 (by decide) ?_
    refine lv_icmp_ge (tgt := 40) hx hb dX9_remember_14 (by decide) (fun c857 => ?_) (fun c857 => ?_)
    · have c857 : 8 ≤ k := (nI_leI (a := 8) (b := k) (by omega) (by omega)).mp c857
      refine lv_aload_n hx hb dX9_remember_40 rfl (lv_at hl 1 rfl) ?_
      refine lv_dup hx hb dX9_remember_41 rfl ?_
      refine va_get (D := D) (ci := 9) (v := .int (nI f851_12)) (C := RX9) (T := TX9) (N := 18) hx hb hts iX9_remember_9 hown hN.1 hP 0 rfl rfl 12 (by decide) (hts _ mX9_remember_1) (fun _ h9 => h9) rfl dX9_remember_42 ?_
      refine lv_iconst (v := 1) hx hb dX9_remember_45 (by decide) ?_
      refine lv_isub hx hb dX9_remember_46 ?_
      refine tp_i (nI (f851_12 - 1)) (nI_subN (a := f851_12) (b := 1) (by omega)) ?_
      have hB : Bx B0 D _ [(w, .inr (9, [.int f851_0, .ref f851_1, .int (nI ((κ w).2.2.1)), .int (nI f851_3), .int (nI f851_4), .int f851_5, .int f851_6, .int f851_7, .ref (κ w).2.2.2, .ref f851_9, .ref f851_10, .ref f851_11, .int (nI f851_12), .int f851_13, .int f851_14, .int f851_15, .int f851_16, .ref f851_17]))] [] _ _ := Bx.of (fun a => (κ a).1) hL hP (fa_c hb851 fa_n) (by simp only [List.map_cons, List.map_nil, hw.1]; decide)
      refine b_put (D := D) (ci := 9) (v := .int (nI (f851_12 - 1))) (ty := .int) (C := RX9) (T := TX9) (N := 18) hx hb hts iX9_remember_9 tyX9 tyX9_ok nmX9 hown hN hB 0 rfl rfl 12 (by decide) (hts _ mX9_remember_1) (fun _ h9 => h9) rfl (by decide +kernel) rfl rfl (Nat.le_of_ble_eq_true rfl) (.inl rfl) dX9_remember_47 (fun H locs hB => ?_)
      have hB : Bx B0 D _ [(w, .inr (9, [.int f851_0, .ref f851_1, .int (nI ((κ w).2.2.1)), .int (nI f851_3), .int (nI f851_4), .int f851_5, .int f851_6, .int f851_7, .ref (κ w).2.2.2, .ref f851_9, .ref f851_10, .ref f851_11, .int (nI (f851_12 - 1)), .int f851_13, .int f851_14, .int f851_15, .int f851_16, .ref f851_17]))] [w] _ _ := hB
      refine lv_aload_n hx hb dX9_remember_50 rfl (lv_at hl 1 rfl) ?_
      refine va_get (D := D) (ci := 9) (v := .ref (κ w).2.2.2) (C := RX9) (T := TX9) (N := 18) hx hb hts iX9_remember_9 hown hN.1 hB.1 0 rfl rfl 8 (by decide) (hts _ mX9_remember_3) (fun _ h9 => h9) rfl dX9_remember_51 ?_
      refine lv_aload_n hx hb dX9_remember_54 rfl (lv_at hl 1 rfl) ?_
      refine va_get (D := D) (ci := 9) (v := .ref f851_11) (C := RX9) (T := TX9) (N := 18) hx hb hts iX9_remember_9 hown hN.1 hB.1 0 rfl rfl 11 (by decide) (hts _ mX9_remember_2) (fun _ h9 => h9) rfl dX9_remember_55 ?_
      refine lv_aload_n hx hb dX9_remember_58 rfl (lv_at hl 1 rfl) ?_
      refine va_get (D := D) (ci := 9) (v := .int (nI (f851_12 - 1))) (C := RX9) (T := TX9) (N := 18) hx hb hts iX9_remember_9 hown hN.1 hB.1 0 rfl rfl 12 (by decide) (hts _ mX9_remember_1) (fun _ h9 => h9) rfl dX9_remember_59 ?_
      obtain ⟨hb858, e858, hat858, hk858⟩ := hT.o27 t851_11.1
      obtain ⟨g858, rfl, q858⟩ := hk858
      have hB : Bx B0 D _ [(w, .inr (9, [.int f851_0, .ref f851_1, .int (nI ((κ w).2.2.1)), .int (nI f851_3), .int (nI f851_4), .int f851_5, .int f851_6, .int f851_7, .ref (κ w).2.2.2, .ref f851_9, .ref f851_10, .ref f851_11, .int (nI (f851_12 - 1)), .int f851_13, .int f851_14, .int f851_15, .int f851_16, .ref f851_17])), (f851_11, .inl (cs 6, 8, .inr (.inr (.inr (.inr g858)))))] [w] _ _ := hB.more hat858 hb858 (fa_c (ne_c hw.1 t851_11.1 (by decide)) fa_n) (fa_c (ne_c hw.1 t851_11.1 (by decide)) fa_n)
      obtain ⟨a859, ea859, ta859, ua859⟩ := q858 ((f851_12 - 1)) (by omega)
      refine ld_a (v := .ref a859) hx hb hN hB.1 1 rfl (vp_in_nI (n := (f851_12 - 1)) (N := 8) (by omega) (by omega)) (by rw [(show ((nI (f851_12 - 1)) : Int32).toNatClampNeg = (f851_12 - 1) from nI_clamp (n := (f851_12 - 1)) (by omega)), ea859]; rfl) dX9_remember_62 ?_
      have hT : WT B0 D cs T κ _ := hT.close hB ⟨⟨0, _, rfl, ok_10 hw.1 ⟨_, _, _, _, _, _, _, _, _, _, _, _, _, _, _, _, rfl, (by omega), (by omega), (by omega), (by omega), t851_1, t851_8, t851_9, c851_sd, t851_10, t851_11, t851_17⟩⟩, trivial⟩
      have hF : Fr B0 [12, 18] κ H0 _ := hF.close hB (fa_c (by simp [hw.2]) fa_n)
      have hL : OkL B0 _ := hB.2.2.2.2.2
      have hP : va_P D vwCl [(w, .inr (9, [.int f851_0, .ref f851_1, .int (nI ((κ w).2.2.1)), .int (nI f851_3), .int (nI f851_4), .int f851_5, .int f851_6, .int f851_7, .ref (κ w).2.2.2, .ref f851_9, .ref f851_10, .ref f851_11, .int (nI (f851_12 - 1)), .int f851_13, .int f851_14, .int f851_15, .int f851_16, .ref f851_17])), (f851_11, .inl (cs 6, 8, .inr (.inr (.inr (.inr g858)))))] _ := hB.1
      refine cs_v (As := [.ref (κ w).2.2.2, .ref a859]) (rest := []) ⟨hx, hb, hml, hown, hts⟩ (c_X9_copyD hT (a := (κ w).2.2.2) t851_8 (b := a859) ta859 (ne_c t851_8.1 ta859.1 (by decide)) (by first | omega | decide | assumption) (by first | omega | decide | assumption)) (va_cwS 2 hts gX9_remember_X9_copy rfl rfl rfl hdX9_copy_o ⟨Nat.le_of_ble_eq_true rfl, Nat.le_of_ble_eq_true rfl⟩) hN hE hL rfl rfl hl.1 (Nat.le_of_ble_eq_true rfl) dX9_remember_63 (Nat.zero_le _) (Nat.zero_le _) (fun H1 locs hL hqr860 => ?_)
      obtain ⟨hT1, hF1⟩ := hqr860
      have hP : va_P D vwCl [(w, .inr (9, [.int f851_0, .ref f851_1, .int (nI ((κ w).2.2.1)), .int (nI f851_3), .int (nI f851_4), .int f851_5, .int f851_6, .int f851_7, .ref (κ w).2.2.2, .ref f851_9, .ref f851_10, .ref f851_11, .int (nI (f851_12 - 1)), .int f851_13, .int f851_14, .int f851_15, .int f851_16, .ref f851_17])), (f851_11, .inl (cs 6, 8, .inr (.inr (.inr (.inr g858)))))] _ := hF1.hP (hP.sub [0, 1] rfl) (fa_c ⟨by rw [hw.1]; decide, by rw [hw.2]; first | decide | (simp; done) | (simp; omega)⟩ (fa_c ⟨by rw [t851_11.1]; decide, by rw [t851_11.2]; first | decide | (simp; done) | (simp; omega)⟩ fa_n))
      have hF := hF.tr (hF1.mono (by simp))
      have hT := hT1
      refine lv_aload_n hx hb dX9_remember_66 rfl (lv_at hl 1 rfl) ?_
      refine lv_dup hx hb dX9_remember_67 rfl ?_
      refine va_get (D := D) (ci := 9) (v := .int (nI (f851_12 - 1))) (C := RX9) (T := TX9) (N := 18) hx hb hts iX9_remember_9 hown hN.1 hP 0 rfl rfl 12 (by decide) (hts _ mX9_remember_1) (fun _ h9 => h9) rfl dX9_remember_68 ?_
      refine lv_iconst (v := 1) hx hb dX9_remember_71 (by decide) ?_
      refine lv_iadd hx hb dX9_remember_72 ?_
      refine tp_i (nI ((f851_12 - 1) + 1)) (nI_add (f851_12 - 1) 1) ?_
      have hB : Bx B0 D _ [(w, .inr (9, [.int f851_0, .ref f851_1, .int (nI ((κ w).2.2.1)), .int (nI f851_3), .int (nI f851_4), .int f851_5, .int f851_6, .int f851_7, .ref (κ w).2.2.2, .ref f851_9, .ref f851_10, .ref f851_11, .int (nI (f851_12 - 1)), .int f851_13, .int f851_14, .int f851_15, .int f851_16, .ref f851_17])), (f851_11, .inl (cs 6, 8, .inr (.inr (.inr (.inr g858)))))] [] _ _ := Bx.of (fun a => (κ a).1) hL hP (fa_c hb851 (fa_c hb858 fa_n)) (by simp only [List.map_cons, List.map_nil, hw.1, t851_11.1]; decide)
      refine b_put (D := D) (ci := 9) (v := .int (nI ((f851_12 - 1) + 1))) (ty := .int) (C := RX9) (T := TX9) (N := 18) hx hb hts iX9_remember_9 tyX9 tyX9_ok nmX9 hown hN hB 0 rfl rfl 12 (by decide) (hts _ mX9_remember_1) (fun _ h9 => h9) rfl (by decide +kernel) rfl rfl (Nat.le_of_ble_eq_true rfl) (.inl rfl) dX9_remember_73 (fun H locs hB => ?_)
      have hB : Bx B0 D _ [(w, .inr (9, [.int f851_0, .ref f851_1, .int (nI ((κ w).2.2.1)), .int (nI f851_3), .int (nI f851_4), .int f851_5, .int f851_6, .int f851_7, .ref (κ w).2.2.2, .ref f851_9, .ref f851_10, .ref f851_11, .int (nI ((f851_12 - 1) + 1)), .int f851_13, .int f851_14, .int f851_15, .int f851_16, .ref f851_17])), (f851_11, .inl (cs 6, 8, .inr (.inr (.inr (.inr g858)))))] [w] _ _ := hB
      have hT : WT B0 D cs T κ _ := hT.close hB ⟨⟨0, _, rfl, ok_10 hw.1 ⟨_, _, _, _, _, _, _, _, _, _, _, _, _, _, _, _, rfl, (by omega), (by omega), (by omega), (by omega), t851_1, t851_8, t851_9, c851_sd, t851_10, t851_11, t851_17⟩⟩, trivial⟩
      have hF : Fr B0 [12, 18] κ H0 _ := hF.close hB (fa_c (by simp [hw.2]) fa_n)
      have hL : OkL B0 _ := hB.2.2.2.2.2
      have hP : va_P D vwCl [(w, .inr (9, [.int f851_0, .ref f851_1, .int (nI ((κ w).2.2.1)), .int (nI f851_3), .int (nI f851_4), .int f851_5, .int f851_6, .int f851_7, .ref (κ w).2.2.2, .ref f851_9, .ref f851_10, .ref f851_11, .int (nI ((f851_12 - 1) + 1)), .int f851_13, .int f851_14, .int f851_15, .int f851_16, .ref f851_17])), (f851_11, .inl (cs 6, 8, .inr (.inr (.inr (.inr g858)))))] _ := hB.1
      exact en_v hx hb hr hlocks hL (Nat.zero_le _) (Nat.zero_le _) dX9_remember_76 (⟨hT, hF⟩)
    · have c857 : ¬ 8 ≤ k := fun h9 => c857 ((nI_leI (a := 8) (b := k) (by omega) (by omega)).mpr h9)
      refine lv_aload_n hx hb dX9_remember_17 rfl (lv_at hl 1 rfl) ?_
      refine va_get (D := D) (ci := 9) (v := .ref f851_11) (C := RX9) (T := TX9) (N := 18) hx hb hts iX9_remember_9 hown hN.1 hP 0 rfl rfl 11 (by decide) (hts _ mX9_remember_2) (fun _ h9 => h9) rfl dX9_remember_18 ?_
      refine lv_iload_n hx hb dX9_remember_21 rfl (lv_at hl 0 rfl) ?_
      obtain ⟨hb861, e861, hat861, hk861⟩ := hT.o27 t851_11.1
      obtain ⟨g861, rfl, q861⟩ := hk861
      have hP : va_P D vwCl [(f851_11, .inl (cs 6, 8, .inr (.inr (.inr (.inr g861))))), (w, .inr (9, [.int f851_0, .ref f851_1, .int (nI ((κ w).2.2.1)), .int (nI f851_3), .int (nI f851_4), .int f851_5, .int f851_6, .int f851_7, .ref (κ w).2.2.2, .ref f851_9, .ref f851_10, .ref f851_11, .int (nI f851_12), .int f851_13, .int f851_14, .int f851_15, .int f851_16, .ref f851_17]))] _ := va_P.cons hat861 hP
      obtain ⟨a862, ea862, ta862, ua862⟩ := q861 (k) (by omega)
      refine ld_a (v := .ref a862) hx hb hN hP 0 rfl (vp_in_nI (n := k) (N := 8) (by omega) (by omega)) (by rw [(show ((nI k) : Int32).toNatClampNeg = k from nI_clamp (n := k) (by omega)), ea862]; rfl) dX9_remember_22 ?_
      refine lv_aload_n hx hb dX9_remember_23 rfl (lv_at hl 1 rfl) ?_
      refine va_get (D := D) (ci := 9) (v := .ref f851_11) (C := RX9) (T := TX9) (N := 18) hx hb hts iX9_remember_9 hown hN.1 hP 1 rfl rfl 11 (by decide) (hts _ mX9_remember_2) (fun _ h9 => h9) rfl dX9_remember_24 ?_
      refine lv_iload_n hx hb dX9_remember_27 rfl (lv_at hl 0 rfl) ?_
      refine lv_iconst (v := 1) hx hb dX9_remember_28 (by decide) ?_
      refine lv_isub hx hb dX9_remember_29 ?_
      refine tp_i (nI (k - 1)) (nI_subN (a := k) (b := 1) (by omega)) ?_
      obtain ⟨a863, ea863, ta863, ua863⟩ := q861 ((k - 1)) (by omega)
      refine ld_a (v := .ref a863) hx hb hN hP 0 rfl (vp_in_nI (n := (k - 1)) (N := 8) (by omega) (by omega)) (by rw [(show ((nI (k - 1)) : Int32).toNatClampNeg = (k - 1) from nI_clamp (n := (k - 1)) (by omega)), ea863]; rfl) dX9_remember_30 ?_
      refine cs_v (As := [.ref a862, .ref a863]) (rest := []) ⟨hx, hb, hml, hown, hts⟩ (c_X9_copyD hT (a := a862) ta862 (b := a863) ta863 (ne_p ua862 ua863 (by omega)) (by first | omega | decide | assumption) (by first | omega | decide | assumption)) (va_cwS 2 hts gX9_remember_X9_copy rfl rfl rfl hdX9_copy_o ⟨Nat.le_of_ble_eq_true rfl, Nat.le_of_ble_eq_true rfl⟩) hN hE hL rfl rfl hl.1 (Nat.le_of_ble_eq_true rfl) dX9_remember_31 (Nat.zero_le _) (Nat.zero_le _) (fun H1 locs hL hqr864 => ?_)
      obtain ⟨hT1, hF1⟩ := hqr864
      have hP : va_P D vwCl [(f851_11, .inl (cs 6, 8, .inr (.inr (.inr (.inr g861))))), (w, .inr (9, [.int f851_0, .ref f851_1, .int (nI ((κ w).2.2.1)), .int (nI f851_3), .int (nI f851_4), .int f851_5, .int f851_6, .int f851_7, .ref (κ w).2.2.2, .ref f851_9, .ref f851_10, .ref f851_11, .int (nI f851_12), .int f851_13, .int f851_14, .int f851_15, .int f851_16, .ref f851_17]))] _ := hF1.hP (hP.sub [0, 1] rfl) (fa_c ⟨by rw [t851_11.1]; decide, by rw [t851_11.2]; first | decide | (simp; done) | (simp; omega)⟩ (fa_c ⟨by rw [hw.1]; decide, by rw [hw.2]; first | decide | (simp; done) | (simp; omega)⟩ fa_n))
      have hF := hF.tr (hF1.mono (by simp))
      have hT := hT1
      refine lv_iinc (v := (nI (k + 1))) (lv' := [(1, .int (nI (k + 1))), (0, .ref w)]) hx hb dX9_remember_34 hl (k := 0) rfl (nI_add _ 1) (by decide) rfl (fun ls hl => ?_)
      refine lv_goto (tgt := 11) hx hb dX9_remember_37 (by decide) ?_
      exact ih856 (k + 1) _ _ _ (by show 8 - ((k + 1)) < 8 - k; omega) ⟨(by show 1 ≤ ((k + 1)) ∧ ((k + 1)) ≤ 8; omega), hT, hF, hL, (hP.sub [1] rfl)⟩ (lv_sub hl [0, 1] rfl)
theorem mX9_handleAll_1 : (.fieldLink RX9 18 "OneBeatModel" "data" "[I" : Cond) ∈ wsX9_handleAll := List.mem_of_getElem? (i := 1) (by decide +kernel)
theorem iX9_handleAll_9 : ∀ w ∈ wsX90, w ∈ wsX9_handleAll := fun w h => List.mem_of_mem_drop (List.mem_of_mem_take ((show wsX90 = (wsX9_handleAll.drop 53).take 18 by decide +kernel) ▸ h))
theorem hdX9_handle_v : yX9_handle.cls = RX9 ∧ yX9_handle.cls ≠ "java/lang/invoke/MethodHandle" ∧ yX9_handle.cls ≠ "java/lang/invoke/VarHandle" ∧ (parseMethodDescriptor yX9_handle.desc).map (fun d => d.parameters.length) = some 6 := by decide +kernel
set_option maxHeartbeats 4000000 in
set_option maxRecDepth 100000 in
theorem c_X9_handleAll {l : Launch} {D : va_G} {cs : Nat → ClassId} {B0 T : Nat} {κ : KM} {H0 : Heap} (hT : WT B0 D cs T κ H0) {w : Nat} (hw : T2 κ w 10 12) : KC l yX9_handleAll wsX9_handleAll 5 122 0 0 D cs B0 H0 [.ref w] (Qv (fun H => WT B0 D cs T κ H ∧ Fr B0 [18] κ H0 H)) := by
  refine KC.of cX9_handleAll 5 none (by decide) rfl (Nat.le_of_ble_eq_true rfl) ?_
  intro p e s m below meth c ls hx hb hr hml hown hts hlocks hin hN hE hH0 hl
  have hown : s.vm.findClass RX9 = some m.cls := hown
  have hl : lv_has ls 5 [(0, .ref w)] := hl
  have hL : OkL B0 [] := OkL.nil
  have hF : Fr B0 [18] κ H0 H0 := Fr.rf
  refine lv_aload_n hx hb dX9_handleAll_0 rfl (lv_at hl 0 rfl) ?_
  obtain ⟨hb865, e865, hat865, hk865⟩ := hT.o10 hw.1
  obtain ⟨f865_0, f865_1, f865_3, f865_4, f865_5, f865_6, f865_7, f865_9, f865_10, f865_11, f865_12, f865_13, f865_14, f865_15, f865_16, f865_17, rfl, c865_2, c865_3, c865_4, c865_12, t865_1, t865_8, t865_9, c865_sd, t865_10, t865_11, t865_17⟩ := hk865
  have hP : va_P D vwCl [(w, .inr (9, [.int f865_0, .ref f865_1, .int (nI ((κ w).2.2.1)), .int (nI f865_3), .int (nI f865_4), .int f865_5, .int f865_6, .int f865_7, .ref (κ w).2.2.2, .ref f865_9, .ref f865_10, .ref f865_11, .int (nI f865_12), .int f865_13, .int f865_14, .int f865_15, .int f865_16, .ref f865_17]))] _ := va_P.cons hat865 va_P.nil
  refine va_get (D := D) (ci := 9) (v := .ref (κ w).2.2.2) (C := RX9) (T := TX9) (N := 18) hx hb hts iX9_handleAll_9 hown hN.1 hP 0 rfl rfl 8 (by decide) (hts _ mX9_handleAll_1) (fun _ h9 => h9) rfl dX9_handleAll_1 ?_
  refine lv_iconst (v := 3) hx hb dX9_handleAll_4 (by decide) ?_
  obtain ⟨hb866, e866, hat866, hk866⟩ := hT.o24 t865_8.1
  obtain ⟨g866, rfl, q866⟩ := hk866
  have hP : va_P D vwCl [((κ w).2.2.2, .inl (cs 0, 45783, .inl g866)), (w, .inr (9, [.int f865_0, .ref f865_1, .int (nI ((κ w).2.2.1)), .int (nI f865_3), .int (nI f865_4), .int f865_5, .int f865_6, .int f865_7, .ref (κ w).2.2.2, .ref f865_9, .ref f865_10, .ref f865_11, .int (nI f865_12), .int f865_13, .int f865_14, .int f865_15, .int f865_16, .ref f865_17]))] _ := va_P.cons hat866 hP
  refine ld_i (v := (g866 3)) hx hb hN hP 0 rfl (vp_in_nI (n := 3) (N := 45783) (by omega) (by omega)) (by rw [(show (3 : Int32).toNatClampNeg = 3 from nI_clamp (n := 3) (by omega))]) dX9_handleAll_5 ?_
  obtain ⟨n867, hn867, en867⟩ := q866.2.2.2.1
  refine tp_i (nI n867) en867 ?_
  refine lv_istore_n (lv' := [(1, .int (nI n867)), (0, .ref w)]) hx hb dX9_handleAll_6 rfl hl (by decide) rfl (fun ls hl => ?_)
  obtain ⟨n9, en9⟩ : ∃ n9, n9 = n867 := ⟨_, rfl⟩
  rw [← en9] at hl
  have hl : lv_has ls 5 [(1, .int (nI n9)), (0, .ref w)] := hl
  refine lv_iconst (v := 0) hx hb dX9_handleAll_7 (by decide) ?_
  refine lv_istore_n (lv' := [(2, .int 0), (1, .int (nI n9)), (0, .ref w)]) hx hb dX9_handleAll_8 rfl hl (by decide) rfl (fun ls hl => ?_)
  refine lp_m (α := Nat) (nL := 5) (fun a9 => n9 - a9) (fun a9 H9 l9 => (a9 ≤ n9) ∧ (WT B0 D cs T κ H9) ∧ (Fr B0 [18] κ H0 H9) ∧ (OkL B0 l9) ∧ (va_P D vwCl [(w, .inr (9, [.int f865_0, .ref f865_1, .int (nI ((κ w).2.2.1)), .int (nI f865_3), .int (nI f865_4), .int f865_5, .int f865_6, .int f865_7, .ref (κ w).2.2.2, .ref f865_9, .ref f865_10, .ref f865_11, .int (nI f865_12), .int f865_13, .int f865_14, .int f865_15, .int f865_16, .ref f865_17]))] H9)) (fun a9 => [(2, .int (nI a9)), (0, .ref w), (1, .int (nI n9))]) ?_ 0 _ _ _ ⟨(by show (0) ≤ n9; omega), hT, hF, hL, (hP.sub [1] rfl)⟩ (lv_sub hl [0, 2, 1] rfl)
  rintro k H locs ls ih868 ⟨hk, hT, hF, hL, hP⟩ hl
  have hl : lv_has ls 5 [(2, .int (nI k)), (0, .ref w), (1, .int (nI n9))] := hl
  have hk : k ≤ n9 := hk
  refine lv_iload_n hx hb dX9_handleAll_9 rfl (lv_at hl 0 rfl) ?_
  refine lv_iload_n hx hb dX9_handleAll_10 rfl (lv_at hl 2 rfl) ?_
  refine lv_icmp_ge (tgt := 102) hx hb dX9_handleAll_11 (by decide) (fun c869 => ?_) (fun c869 => ?_)
  · have c869 : n9 ≤ k := (nI_leI (a := n9) (b := k) (by omega) (by omega)).mp c869
    refine lv_iconst (v := 0) hx hb dX9_handleAll_102 (by decide) ?_
    refine lv_istore_n (lv' := [(2, .int 0), (0, .ref w), (1, .int (nI n9))]) hx hb dX9_handleAll_103 rfl hl (by decide) rfl (fun ls hl => ?_)
    refine lv_iconst (v := 0) hx hb dX9_handleAll_104 (by decide) ?_
    refine lv_istore_n (lv' := [(3, .int 0), (2, .int 0), (0, .ref w), (1, .int (nI n9))]) hx hb dX9_handleAll_105 rfl hl (by decide) rfl (fun ls hl => ?_)
    refine lp_m (α := Nat × Nat) (nL := 5) (fun a9 => 7400 - a9.1) (fun a9 H9 l9 => (a9.2 ≤ a9.1 ∧ a9.1 ≤ 7400) ∧ (WT B0 D cs T κ H9) ∧ (Fr B0 [18] κ H0 H9) ∧ (OkL B0 l9) ∧ (va_P D vwCl [(w, .inr (9, [.int f865_0, .ref f865_1, .int (nI ((κ w).2.2.1)), .int (nI f865_3), .int (nI f865_4), .int f865_5, .int f865_6, .int f865_7, .ref (κ w).2.2.2, .ref f865_9, .ref f865_10, .ref f865_11, .int (nI f865_12), .int f865_13, .int f865_14, .int f865_15, .int f865_16, .ref f865_17]))] H9)) (fun a9 => [(3, .int (nI a9.1)), (2, .int (nI a9.2)), (0, .ref w)]) ?_ (0, 0) _ _ _ ⟨(by show (0) ≤ (0) ∧ (0) ≤ 7400; omega), hT, hF, hL, (hP.sub [0] rfl)⟩ (lv_sub hl [0, 1, 2] rfl)
    rintro ⟨k, u⟩ H locs ls ih870 ⟨hk, hT, hF, hL, hP⟩ hl
    have hl : lv_has ls 5 [(3, .int (nI k)), (2, .int (nI u)), (0, .ref w)] := hl
    have hk : u ≤ k ∧ k ≤ 7400 := hk
    refine lv_iload_n hx hb dX9_handleAll_106 rfl (lv_at hl 0 rfl) ?_
    refine lv_aload_n hx hb dX9_handleAll_107 rfl (lv_at hl 2 rfl) ?_
    refine va_get (D := D) (ci := 9) (v := .ref (κ w).2.2.2) (C := RX9) (T := TX9) (N := 18) hx hb hts iX9_handleAll_9 hown hN.1 hP 0 rfl rfl 8 (by decide) (hts _ mX9_handleAll_1) (fun _ h9 => h9) rfl dX9_handleAll_108 ?_
    refine lv_iconst (v := 3) hx hb dX9_handleAll_111 (by decide) ?_
    obtain ⟨hb871, e871, hat871, hk871⟩ := hT.o24 t865_8.1
    obtain ⟨g871, rfl, q871⟩ := hk871
    have hP : va_P D vwCl [((κ w).2.2.2, .inl (cs 0, 45783, .inl g871)), (w, .inr (9, [.int f865_0, .ref f865_1, .int (nI ((κ w).2.2.1)), .int (nI f865_3), .int (nI f865_4), .int f865_5, .int f865_6, .int f865_7, .ref (κ w).2.2.2, .ref f865_9, .ref f865_10, .ref f865_11, .int (nI f865_12), .int f865_13, .int f865_14, .int f865_15, .int f865_16, .ref f865_17]))] _ := va_P.cons hat871 hP
    refine ld_i (v := (g871 3)) hx hb hN hP 0 rfl (vp_in_nI (n := 3) (N := 45783) (by omega) (by omega)) (by rw [(show (3 : Int32).toNatClampNeg = 3 from nI_clamp (n := 3) (by omega))]) dX9_handleAll_112 ?_
    obtain ⟨n872, hn872, en872⟩ := q871.2.2.2.1
    refine tp_i (nI n872) en872 ?_
    refine lv_icmp_ge (tgt := 200) hx hb dX9_handleAll_113 (by decide) (fun c873 => ?_) (fun c873 => ?_)
    · have c873 : n872 ≤ k := (nI_leI (a := n872) (b := k) (by omega) (by omega)).mp c873
      refine lv_aload_n hx hb dX9_handleAll_200 rfl (lv_at hl 2 rfl) ?_
      refine va_get (D := D) (ci := 9) (v := .ref (κ w).2.2.2) (C := RX9) (T := TX9) (N := 18) hx hb hts iX9_handleAll_9 hown hN.1 hP 1 rfl rfl 8 (by decide) (hts _ mX9_handleAll_1) (fun _ h9 => h9) rfl dX9_handleAll_201 ?_
      refine lv_iconst (v := 3) hx hb dX9_handleAll_204 (by decide) ?_
      refine lv_iload_n hx hb dX9_handleAll_205 rfl (lv_at hl 1 rfl) ?_
      have hB : Bx B0 D _ [((κ w).2.2.2, .inl (cs 0, 45783, .inl g871)), (w, .inr (9, [.int f865_0, .ref f865_1, .int (nI ((κ w).2.2.1)), .int (nI f865_3), .int (nI f865_4), .int f865_5, .int f865_6, .int f865_7, .ref (κ w).2.2.2, .ref f865_9, .ref f865_10, .ref f865_11, .int (nI f865_12), .int f865_13, .int f865_14, .int f865_15, .int f865_16, .ref f865_17]))] [] _ _ := Bx.of (fun a => (κ a).1) hL hP (fa_c hb871 (fa_c hb865 fa_n)) (by simp only [List.map_cons, List.map_nil, t865_8.1, hw.1]; decide)
      refine b_i hx hb hN hB 0 rfl (vp_in_nI (n := 3) (N := 45783) (by omega) (by omega)) (.inl rfl) dX9_handleAll_206 (fun H locs hB => ?_)
      rw [(show (3 : Int32).toNatClampNeg = 3 from nI_clamp (n := 3) (by omega))] at hB
      have hB : Bx B0 D _ [((κ w).2.2.2, .inl (cs 0, 45783, .inl (upd g871 3 (nI u)))), (w, .inr (9, [.int f865_0, .ref f865_1, .int (nI ((κ w).2.2.1)), .int (nI f865_3), .int (nI f865_4), .int f865_5, .int f865_6, .int f865_7, .ref (κ w).2.2.2, .ref f865_9, .ref f865_10, .ref f865_11, .int (nI f865_12), .int f865_13, .int f865_14, .int f865_15, .int f865_16, .ref f865_17]))] [(κ w).2.2.2] _ _ := hB
      have z874 := DOK.s3 q871 (n := u) (by omega)
      have hT : WT B0 D cs T κ _ := hT.close hB ⟨⟨0, _, rfl, ok_24 t865_8.1 ⟨_, rfl, z874⟩⟩, trivial⟩
      have hF : Fr B0 [18] κ H0 _ := hF.close hB (fa_c (by simp [t865_8.2]) fa_n)
      have hL : OkL B0 _ := hB.2.2.2.2.2
      have hP : va_P D vwCl [((κ w).2.2.2, .inl (cs 0, 45783, .inl (upd g871 3 (nI u)))), (w, .inr (9, [.int f865_0, .ref f865_1, .int (nI ((κ w).2.2.1)), .int (nI f865_3), .int (nI f865_4), .int f865_5, .int f865_6, .int f865_7, .ref (κ w).2.2.2, .ref f865_9, .ref f865_10, .ref f865_11, .int (nI f865_12), .int f865_13, .int f865_14, .int f865_15, .int f865_16, .ref f865_17]))] _ := hB.1
      exact en_v hx hb hr hlocks hL (Nat.zero_le _) (Nat.zero_le _) dX9_handleAll_207 (⟨hT, hF⟩)
    · have c873 : ¬ n872 ≤ k := fun h9 => c873 ((nI_leI (a := n872) (b := k) (by omega) (by omega)).mpr h9)
      refine lv_aload_n hx hb dX9_handleAll_116 rfl (lv_at hl 2 rfl) ?_
      refine va_get (D := D) (ci := 9) (v := .ref (κ w).2.2.2) (C := RX9) (T := TX9) (N := 18) hx hb hts iX9_handleAll_9 hown hN.1 hP 1 rfl rfl 8 (by decide) (hts _ mX9_handleAll_1) (fun _ h9 => h9) rfl dX9_handleAll_117 ?_
      refine lv_sipush (v := 1383) hx hb dX9_handleAll_120 (by decide) ?_
      refine lv_bipush (v := 6) hx hb dX9_handleAll_123 (by decide) ?_
      refine lv_iload_n hx hb dX9_handleAll_125 rfl (lv_at hl 0 rfl) ?_
      refine lv_imul hx hb dX9_handleAll_126 ?_
      refine tp_i (nI (6 * k)) (nI_mul 6 k) ?_
      refine lv_iadd hx hb dX9_handleAll_127 ?_
      refine tp_i (nI (1383 + (6 * k))) (nI_add 1383 (6 * k)) ?_
      refine lv_iconst (v := 1) hx hb dX9_handleAll_128 (by decide) ?_
      refine lv_iadd hx hb dX9_handleAll_129 ?_
      refine tp_i (nI ((1383 + (6 * k)) + 1)) (nI_add (1383 + (6 * k)) 1) ?_
      refine ld_i (v := (g871 ((1383 + (6 * k)) + 1))) hx hb hN hP 0 rfl (vp_in_nI (n := ((1383 + (6 * k)) + 1)) (N := 45783) (by omega) (by omega)) (by rw [(show ((nI ((1383 + (6 * k)) + 1)) : Int32).toNatClampNeg = ((1383 + (6 * k)) + 1) from nI_clamp (n := ((1383 + (6 * k)) + 1)) (by omega))]) dX9_handleAll_130 ?_
      refine gn_i (fun x875 => ?_)
      refine lv_aload_n hx hb dX9_handleAll_131 rfl (lv_at hl 2 rfl) ?_
      refine va_get (D := D) (ci := 9) (v := .ref (κ w).2.2.2) (C := RX9) (T := TX9) (N := 18) hx hb hts iX9_handleAll_9 hown hN.1 hP 1 rfl rfl 8 (by decide) (hts _ mX9_handleAll_1) (fun _ h9 => h9) rfl dX9_handleAll_132 ?_
      refine lv_iconst (v := 1) hx hb dX9_handleAll_135 (by decide) ?_
      refine ld_i (v := (g871 1)) hx hb hN hP 0 rfl (vp_in_nI (n := 1) (N := 45783) (by omega) (by omega)) (by rw [(show (1 : Int32).toNatClampNeg = 1 from nI_clamp (n := 1) (by omega))]) dX9_handleAll_136 ?_
      refine gn_i (fun x876 => ?_)
      refine lv_icmp_ne (tgt := 143) hx hb dX9_handleAll_137 (by decide) (fun c877 => ?_) (fun c877 => ?_)
      · refine lv_iconst (v := 0) hx hb dX9_handleAll_143 (by decide) ?_
        refine lv_istore (lv' := [(4, .int 0), (3, .int (nI k)), (2, .int (nI u)), (0, .ref w)]) hx hb dX9_handleAll_144 hl (by decide) rfl (fun ls hl => ?_)
        refine lp_m (α := Nat) (nL := 5) (fun a9 => 6 - a9) (fun a9 H9 l9 => (a9 ≤ 6) ∧ (WT B0 D cs T κ H9) ∧ (Fr B0 [18] κ H0 H9) ∧ (OkL B0 l9) ∧ (va_P D vwCl [(w, .inr (9, [.int f865_0, .ref f865_1, .int (nI ((κ w).2.2.1)), .int (nI f865_3), .int (nI f865_4), .int f865_5, .int f865_6, .int f865_7, .ref (κ w).2.2.2, .ref f865_9, .ref f865_10, .ref f865_11, .int (nI f865_12), .int f865_13, .int f865_14, .int f865_15, .int f865_16, .ref f865_17]))] H9)) (fun a9 => [(4, .int (nI a9)), (0, .ref w), (2, .int (nI u)), (3, .int (nI k))]) ?_ 0 _ _ _ ⟨(by show (0) ≤ 6; omega), hT, hF, hL, (hP.sub [1] rfl)⟩ (lv_sub hl [0, 3, 2, 1] rfl)
        rintro i H locs ls ih878 ⟨hi, hT, hF, hL, hP⟩ hl
        have hl : lv_has ls 5 [(4, .int (nI i)), (0, .ref w), (2, .int (nI u)), (3, .int (nI k))] := hl
        have hi : i ≤ 6 := hi
        refine lv_iload hx hb dX9_handleAll_146 (lv_at hl 0 rfl) ?_
        refine lv_bipush (v := 6) hx hb dX9_handleAll_148 (by decide) ?_
        refine lv_icmp_ge (tgt := 191) hx hb dX9_handleAll_150 (by decide) (fun c879 => ?_) (fun c879 => ?_)
        · have c879 : 6 ≤ i := (nI_leI (a := 6) (b := i) (by omega) (by omega)).mp c879
          refine lv_iinc (v := (nI (u + 1))) (lv' := [(2, .int (nI (u + 1))), (4, .int (nI i)), (0, .ref w), (3, .int (nI k))]) hx hb dX9_handleAll_191 hl (k := 2) rfl (nI_add _ 1) (by decide) rfl (fun ls hl => ?_)
          refine lv_iinc (v := (nI (k + 1))) (lv' := [(3, .int (nI (k + 1))), (2, .int (nI (u + 1))), (4, .int (nI i)), (0, .ref w)]) hx hb dX9_handleAll_194 hl (k := 3) rfl (nI_add _ 1) (by decide) rfl (fun ls hl => ?_)
          refine lv_goto (tgt := 106) hx hb dX9_handleAll_197 (by decide) ?_
          exact ih870 ((k + 1), (u + 1)) _ _ _ (by show 7400 - ((k + 1)) < 7400 - k; omega) ⟨(by show ((u + 1)) ≤ ((k + 1)) ∧ ((k + 1)) ≤ 7400; omega), hT, hF, hL, (hP.sub [0] rfl)⟩ (lv_sub hl [0, 1, 3] rfl)
        · have c879 : ¬ 6 ≤ i := fun h9 => c879 ((nI_leI (a := 6) (b := i) (by omega) (by omega)).mpr h9)
          refine lv_aload_n hx hb dX9_handleAll_153 rfl (lv_at hl 1 rfl) ?_
          refine va_get (D := D) (ci := 9) (v := .ref (κ w).2.2.2) (C := RX9) (T := TX9) (N := 18) hx hb hts iX9_handleAll_9 hown hN.1 hP 0 rfl rfl 8 (by decide) (hts _ mX9_handleAll_1) (fun _ h9 => h9) rfl dX9_handleAll_154 ?_
          refine lv_sipush (v := 1383) hx hb dX9_handleAll_157 (by decide) ?_
          refine lv_bipush (v := 6) hx hb dX9_handleAll_160 (by decide) ?_
          refine lv_iload_n hx hb dX9_handleAll_162 rfl (lv_at hl 2 rfl) ?_
          refine lv_imul hx hb dX9_handleAll_163 ?_
          refine tp_i (nI (6 * u)) (nI_mul 6 u) ?_
          refine lv_iadd hx hb dX9_handleAll_164 ?_
          refine tp_i (nI (1383 + (6 * u))) (nI_add 1383 (6 * u)) ?_
          refine lv_iload hx hb dX9_handleAll_165 (lv_at hl 0 rfl) ?_
          refine lv_iadd hx hb dX9_handleAll_167 ?_
          refine tp_i (nI ((1383 + (6 * u)) + i)) (nI_add (1383 + (6 * u)) i) ?_
          refine lv_aload_n hx hb dX9_handleAll_168 rfl (lv_at hl 1 rfl) ?_
          refine va_get (D := D) (ci := 9) (v := .ref (κ w).2.2.2) (C := RX9) (T := TX9) (N := 18) hx hb hts iX9_handleAll_9 hown hN.1 hP 0 rfl rfl 8 (by decide) (hts _ mX9_handleAll_1) (fun _ h9 => h9) rfl dX9_handleAll_169 ?_
          refine lv_sipush (v := 1383) hx hb dX9_handleAll_172 (by decide) ?_
          refine lv_bipush (v := 6) hx hb dX9_handleAll_175 (by decide) ?_
          refine lv_iload_n hx hb dX9_handleAll_177 rfl (lv_at hl 3 rfl) ?_
          refine lv_imul hx hb dX9_handleAll_178 ?_
          refine tp_i (nI (6 * k)) (nI_mul 6 k) ?_
          refine lv_iadd hx hb dX9_handleAll_179 ?_
          refine tp_i (nI (1383 + (6 * k))) (nI_add 1383 (6 * k)) ?_
          refine lv_iload hx hb dX9_handleAll_180 (lv_at hl 0 rfl) ?_
          refine lv_iadd hx hb dX9_handleAll_182 ?_
          refine tp_i (nI ((1383 + (6 * k)) + i)) (nI_add (1383 + (6 * k)) i) ?_
          obtain ⟨hb880, e880, hat880, hk880⟩ := hT.o24 t865_8.1
          obtain ⟨g880, rfl, q880⟩ := hk880
          have hP : va_P D vwCl [((κ w).2.2.2, .inl (cs 0, 45783, .inl g880)), (w, .inr (9, [.int f865_0, .ref f865_1, .int (nI ((κ w).2.2.1)), .int (nI f865_3), .int (nI f865_4), .int f865_5, .int f865_6, .int f865_7, .ref (κ w).2.2.2, .ref f865_9, .ref f865_10, .ref f865_11, .int (nI f865_12), .int f865_13, .int f865_14, .int f865_15, .int f865_16, .ref f865_17]))] _ := va_P.cons hat880 hP
          refine ld_i (v := (g880 ((1383 + (6 * k)) + i))) hx hb hN hP 0 rfl (vp_in_nI (n := ((1383 + (6 * k)) + i)) (N := 45783) (by omega) (by omega)) (by rw [(show ((nI ((1383 + (6 * k)) + i)) : Int32).toNatClampNeg = ((1383 + (6 * k)) + i) from nI_clamp (n := ((1383 + (6 * k)) + i)) (by omega))]) dX9_handleAll_183 ?_
          have hB : Bx B0 D _ [((κ w).2.2.2, .inl (cs 0, 45783, .inl g880)), (w, .inr (9, [.int f865_0, .ref f865_1, .int (nI ((κ w).2.2.1)), .int (nI f865_3), .int (nI f865_4), .int f865_5, .int f865_6, .int f865_7, .ref (κ w).2.2.2, .ref f865_9, .ref f865_10, .ref f865_11, .int (nI f865_12), .int f865_13, .int f865_14, .int f865_15, .int f865_16, .ref f865_17]))] [] _ _ := Bx.of (fun a => (κ a).1) hL hP (fa_c hb880 (fa_c hb865 fa_n)) (by simp only [List.map_cons, List.map_nil, t865_8.1, hw.1]; decide)
          refine b_i hx hb hN hB 0 rfl (vp_in_nI (n := ((1383 + (6 * u)) + i)) (N := 45783) (by omega) (by omega)) (.inl rfl) dX9_handleAll_184 (fun H locs hB => ?_)
          rw [(show ((nI ((1383 + (6 * u)) + i)) : Int32).toNatClampNeg = ((1383 + (6 * u)) + i) from nI_clamp (n := ((1383 + (6 * u)) + i)) (by omega))] at hB
          have hB : Bx B0 D _ [((κ w).2.2.2, .inl (cs 0, 45783, .inl (upd g880 ((1383 + (6 * u)) + i) (g880 ((1383 + (6 * k)) + i))))), (w, .inr (9, [.int f865_0, .ref f865_1, .int (nI ((κ w).2.2.1)), .int (nI f865_3), .int (nI f865_4), .int f865_5, .int f865_6, .int f865_7, .ref (κ w).2.2.2, .ref f865_9, .ref f865_10, .ref f865_11, .int (nI f865_12), .int f865_13, .int f865_14, .int f865_15, .int f865_16, .ref f865_17]))] [(κ w).2.2.2] _ _ := hB
          have z881 := DOK.sm q880 (k := ((1383 + (6 * u)) + i)) (x := (g880 ((1383 + (6 * k)) + i))) (by omega) (fun j9 hj9 e9 => by have h9 : i = 0 := (by omega); subst h9; exact q880.2.2.2.2.1 k (by omega))
          refine lv_iinc (v := (nI (i + 1))) (lv' := [(4, .int (nI (i + 1))), (0, .ref w), (2, .int (nI u)), (3, .int (nI k))]) hx hb dX9_handleAll_185 hl (k := 0) rfl (nI_add _ 1) (by decide) rfl (fun ls hl => ?_)
          refine lv_goto (tgt := 146) hx hb dX9_handleAll_188 (by decide) ?_
          have hT : WT B0 D cs T κ _ := hT.close hB ⟨⟨0, _, rfl, ok_24 t865_8.1 ⟨_, rfl, z881⟩⟩, trivial⟩
          have hF : Fr B0 [18] κ H0 _ := hF.close hB (fa_c (by simp [t865_8.2]) fa_n)
          have hL : OkL B0 _ := hB.2.2.2.2.2
          have hP : va_P D vwCl [((κ w).2.2.2, .inl (cs 0, 45783, .inl (upd g880 ((1383 + (6 * u)) + i) (g880 ((1383 + (6 * k)) + i))))), (w, .inr (9, [.int f865_0, .ref f865_1, .int (nI ((κ w).2.2.1)), .int (nI f865_3), .int (nI f865_4), .int f865_5, .int f865_6, .int f865_7, .ref (κ w).2.2.2, .ref f865_9, .ref f865_10, .ref f865_11, .int (nI f865_12), .int f865_13, .int f865_14, .int f865_15, .int f865_16, .ref f865_17]))] _ := hB.1
          exact ih878 (i + 1) _ _ _ (by show 6 - ((i + 1)) < 6 - i; omega) ⟨(by show ((i + 1)) ≤ 6; omega), hT, hF, hL, (hP.sub [1] rfl)⟩ (lv_sub hl [0, 1, 2, 3] rfl)
      · refine lv_goto (tgt := 194) hx hb dX9_handleAll_140 (by decide) ?_
        refine lv_iinc (v := (nI (k + 1))) (lv' := [(3, .int (nI (k + 1))), (2, .int (nI u)), (0, .ref w)]) hx hb dX9_handleAll_194 hl (k := 0) rfl (nI_add _ 1) (by decide) rfl (fun ls hl => ?_)
        refine lv_goto (tgt := 106) hx hb dX9_handleAll_197 (by decide) ?_
        exact ih870 ((k + 1), u) _ _ _ (by show 7400 - ((k + 1)) < 7400 - k; omega) ⟨(by show (u) ≤ ((k + 1)) ∧ ((k + 1)) ≤ 7400; omega), hT, hF, hL, (hP.sub [1] rfl)⟩ (lv_sub hl [0, 1, 2] rfl)
  · have c869 : ¬ n9 ≤ k := fun h9 => c869 ((nI_leI (a := n9) (b := k) (by omega) (by omega)).mpr h9)
    refine lv_sipush (v := 1383) hx hb dX9_handleAll_14 (by decide) ?_
    refine lv_bipush (v := 6) hx hb dX9_handleAll_17 (by decide) ?_
    refine lv_iload_n hx hb dX9_handleAll_19 rfl (lv_at hl 0 rfl) ?_
    refine lv_imul hx hb dX9_handleAll_20 ?_
    refine tp_i (nI (6 * k)) (nI_mul 6 k) ?_
    refine lv_iadd hx hb dX9_handleAll_21 ?_
    refine tp_i (nI (1383 + (6 * k))) (nI_add 1383 (6 * k)) ?_
    refine lv_istore_n (lv' := [(3, .int (nI (1383 + (6 * k)))), (2, .int (nI k)), (0, .ref w), (1, .int (nI n9))]) hx hb dX9_handleAll_22 rfl hl (by decide) rfl (fun ls hl => ?_)
    refine lv_aload_n hx hb dX9_handleAll_23 rfl (lv_at hl 2 rfl) ?_
    refine va_get (D := D) (ci := 9) (v := .ref (κ w).2.2.2) (C := RX9) (T := TX9) (N := 18) hx hb hts iX9_handleAll_9 hown hN.1 hP 0 rfl rfl 8 (by decide) (hts _ mX9_handleAll_1) (fun _ h9 => h9) rfl dX9_handleAll_24 ?_
    refine lv_iload_n hx hb dX9_handleAll_27 rfl (lv_at hl 0 rfl) ?_
    refine lv_iconst (v := 0) hx hb dX9_handleAll_28 (by decide) ?_
    refine lv_iadd hx hb dX9_handleAll_29 ?_
    refine tp_i (nI ((1383 + (6 * k)) + 0)) (nI_add (1383 + (6 * k)) 0) ?_
    obtain ⟨hb882, e882, hat882, hk882⟩ := hT.o24 t865_8.1
    obtain ⟨g882, rfl, q882⟩ := hk882
    have hP : va_P D vwCl [((κ w).2.2.2, .inl (cs 0, 45783, .inl g882)), (w, .inr (9, [.int f865_0, .ref f865_1, .int (nI ((κ w).2.2.1)), .int (nI f865_3), .int (nI f865_4), .int f865_5, .int f865_6, .int f865_7, .ref (κ w).2.2.2, .ref f865_9, .ref f865_10, .ref f865_11, .int (nI f865_12), .int f865_13, .int f865_14, .int f865_15, .int f865_16, .ref f865_17]))] _ := va_P.cons hat882 hP
    refine ld_i (v := (g882 ((1383 + (6 * k)) + 0))) hx hb hN hP 0 rfl (vp_in_nI (n := ((1383 + (6 * k)) + 0)) (N := 45783) (by omega) (by omega)) (by rw [(show ((nI ((1383 + (6 * k)) + 0)) : Int32).toNatClampNeg = ((1383 + (6 * k)) + 0) from nI_clamp (n := ((1383 + (6 * k)) + 0)) (by omega))]) dX9_handleAll_30 ?_
    obtain ⟨h883, hh883, eh883⟩ := q882.2.2.2.2.1 k (by omega)
    refine tp_i (nI h883) eh883 ?_
    refine lv_istore (lv' := [(4, .int (nI h883)), (3, .int (nI (1383 + (6 * k)))), (2, .int (nI k)), (0, .ref w), (1, .int (nI n9))]) hx hb dX9_handleAll_31 hl (by decide) rfl (fun ls hl => ?_)
    refine lv_aload_n hx hb dX9_handleAll_33 rfl (lv_at hl 3 rfl) ?_
    refine va_get (D := D) (ci := 9) (v := .ref (κ w).2.2.2) (C := RX9) (T := TX9) (N := 18) hx hb hts iX9_handleAll_9 hown hN.1 hP 1 rfl rfl 8 (by decide) (hts _ mX9_handleAll_1) (fun _ h9 => h9) rfl dX9_handleAll_34 ?_
    refine lv_iload_n hx hb dX9_handleAll_37 rfl (lv_at hl 1 rfl) ?_
    refine lv_iconst (v := 1) hx hb dX9_handleAll_38 (by decide) ?_
    refine lv_iadd hx hb dX9_handleAll_39 ?_
    refine tp_i (nI ((1383 + (6 * k)) + 1)) (nI_add (1383 + (6 * k)) 1) ?_
    refine ld_i (v := (g882 ((1383 + (6 * k)) + 1))) hx hb hN hP 0 rfl (vp_in_nI (n := ((1383 + (6 * k)) + 1)) (N := 45783) (by omega) (by omega)) (by rw [(show ((nI ((1383 + (6 * k)) + 1)) : Int32).toNatClampNeg = ((1383 + (6 * k)) + 1) from nI_clamp (n := ((1383 + (6 * k)) + 1)) (by omega))]) dX9_handleAll_40 ?_
    refine gn_i (fun x884 => ?_)
    refine lv_aload_n hx hb dX9_handleAll_41 rfl (lv_at hl 3 rfl) ?_
    refine va_get (D := D) (ci := 9) (v := .ref (κ w).2.2.2) (C := RX9) (T := TX9) (N := 18) hx hb hts iX9_handleAll_9 hown hN.1 hP 1 rfl rfl 8 (by decide) (hts _ mX9_handleAll_1) (fun _ h9 => h9) rfl dX9_handleAll_42 ?_
    refine lv_iconst (v := 1) hx hb dX9_handleAll_45 (by decide) ?_
    refine ld_i (v := (g882 1)) hx hb hN hP 0 rfl (vp_in_nI (n := 1) (N := 45783) (by omega) (by omega)) (by rw [(show (1 : Int32).toNatClampNeg = 1 from nI_clamp (n := 1) (by omega))]) dX9_handleAll_46 ?_
    refine gn_i (fun x885 => ?_)
    refine lv_icmp_ne (tgt := 96) hx hb dX9_handleAll_47 (by decide) (fun c886 => ?_) (fun c886 => ?_)
    · refine lv_iinc (v := (nI (k + 1))) (lv' := [(2, .int (nI (k + 1))), (4, .int (nI h883)), (3, .int (nI (1383 + (6 * k)))), (0, .ref w), (1, .int (nI n9))]) hx hb dX9_handleAll_96 hl (k := 2) rfl (nI_add _ 1) (by decide) rfl (fun ls hl => ?_)
      refine lv_goto (tgt := 9) hx hb dX9_handleAll_99 (by decide) ?_
      exact ih868 (k + 1) _ _ _ (by show n9 - ((k + 1)) < n9 - k; omega) ⟨(by show ((k + 1)) ≤ n9; omega), hT, hF, hL, (hP.sub [1] rfl)⟩ (lv_sub hl [0, 3, 4] rfl)
    · refine lv_aload_n hx hb dX9_handleAll_50 rfl (lv_at hl 3 rfl) ?_
      refine lv_iload hx hb dX9_handleAll_51 (lv_at hl 0 rfl) ?_
      refine lv_bipush (v := 8) hx hb dX9_handleAll_53 (by decide) ?_
      refine lv_irem hx hb dX9_handleAll_55 (by decide) ?_
      refine tp_i (nI (h883 % 8)) (nI_rem (a := h883) (d := 8) (by omega) (by decide) (by decide)) ?_
      refine lv_iload hx hb dX9_handleAll_56 (lv_at hl 0 rfl) ?_
      refine lv_bipush (v := 8) hx hb dX9_handleAll_58 (by decide) ?_
      refine lv_idiv hx hb dX9_handleAll_60 (by decide) ?_
      refine tp_i (nI (h883 / 8)) (nI_div (a := h883) (d := 8) (by omega) (by decide) (by decide)) ?_
      refine lv_bipush (v := 8) hx hb dX9_handleAll_61 (by decide) ?_
      refine lv_irem hx hb dX9_handleAll_63 (by decide) ?_
      refine tp_i (nI ((h883 / 8) % 8)) (nI_rem (a := (h883 / 8)) (d := 8) (by omega) (by decide) (by decide)) ?_
      refine lv_iload hx hb dX9_handleAll_64 (lv_at hl 0 rfl) ?_
      refine lv_bipush (v := 64) hx hb dX9_handleAll_66 (by decide) ?_
      refine lv_idiv hx hb dX9_handleAll_68 (by decide) ?_
      refine tp_i (nI (h883 / 64)) (nI_div (a := h883) (d := 64) (by omega) (by decide) (by decide)) ?_
      refine lv_aload_n hx hb dX9_handleAll_69 rfl (lv_at hl 3 rfl) ?_
      refine va_get (D := D) (ci := 9) (v := .ref (κ w).2.2.2) (C := RX9) (T := TX9) (N := 18) hx hb hts iX9_handleAll_9 hown hN.1 hP 1 rfl rfl 8 (by decide) (hts _ mX9_handleAll_1) (fun _ h9 => h9) rfl dX9_handleAll_70 ?_
      refine lv_iload_n hx hb dX9_handleAll_73 rfl (lv_at hl 1 rfl) ?_
      refine lv_iconst (v := 3) hx hb dX9_handleAll_74 (by decide) ?_
      refine lv_iadd hx hb dX9_handleAll_75 ?_
      refine tp_i (nI ((1383 + (6 * k)) + 3)) (nI_add (1383 + (6 * k)) 3) ?_
      refine ld_i (v := (g882 ((1383 + (6 * k)) + 3))) hx hb hN hP 0 rfl (vp_in_nI (n := ((1383 + (6 * k)) + 3)) (N := 45783) (by omega) (by omega)) (by rw [(show ((nI ((1383 + (6 * k)) + 3)) : Int32).toNatClampNeg = ((1383 + (6 * k)) + 3) from nI_clamp (n := ((1383 + (6 * k)) + 3)) (by omega))]) dX9_handleAll_76 ?_
      refine gn_i (fun x887 => ?_)
      refine lv_aload_n hx hb dX9_handleAll_77 rfl (lv_at hl 3 rfl) ?_
      refine va_get (D := D) (ci := 9) (v := .ref (κ w).2.2.2) (C := RX9) (T := TX9) (N := 18) hx hb hts iX9_handleAll_9 hown hN.1 hP 1 rfl rfl 8 (by decide) (hts _ mX9_handleAll_1) (fun _ h9 => h9) rfl dX9_handleAll_78 ?_
      refine lv_iload_n hx hb dX9_handleAll_81 rfl (lv_at hl 1 rfl) ?_
      refine lv_iconst (v := 4) hx hb dX9_handleAll_82 (by decide) ?_
      refine lv_iadd hx hb dX9_handleAll_83 ?_
      refine tp_i (nI ((1383 + (6 * k)) + 4)) (nI_add (1383 + (6 * k)) 4) ?_
      refine ld_i (v := (g882 ((1383 + (6 * k)) + 4))) hx hb hN hP 0 rfl (vp_in_nI (n := ((1383 + (6 * k)) + 4)) (N := 45783) (by omega) (by omega)) (by rw [(show ((nI ((1383 + (6 * k)) + 4)) : Int32).toNatClampNeg = ((1383 + (6 * k)) + 4) from nI_clamp (n := ((1383 + (6 * k)) + 4)) (by omega))]) dX9_handleAll_84 ?_
      refine gn_i (fun x888 => ?_)
      refine lv_aload_n hx hb dX9_handleAll_85 rfl (lv_at hl 3 rfl) ?_
      refine va_get (D := D) (ci := 9) (v := .ref (κ w).2.2.2) (C := RX9) (T := TX9) (N := 18) hx hb hts iX9_handleAll_9 hown hN.1 hP 1 rfl rfl 8 (by decide) (hts _ mX9_handleAll_1) (fun _ h9 => h9) rfl dX9_handleAll_86 ?_
      refine lv_iload_n hx hb dX9_handleAll_89 rfl (lv_at hl 1 rfl) ?_
      refine lv_iconst (v := 5) hx hb dX9_handleAll_90 (by decide) ?_
      refine lv_iadd hx hb dX9_handleAll_91 ?_
      refine tp_i (nI ((1383 + (6 * k)) + 5)) (nI_add (1383 + (6 * k)) 5) ?_
      refine ld_i (v := (g882 ((1383 + (6 * k)) + 5))) hx hb hN hP 0 rfl (vp_in_nI (n := ((1383 + (6 * k)) + 5)) (N := 45783) (by omega) (by omega)) (by rw [(show ((nI ((1383 + (6 * k)) + 5)) : Int32).toNatClampNeg = ((1383 + (6 * k)) + 5) from nI_clamp (n := ((1383 + (6 * k)) + 5)) (by omega))]) dX9_handleAll_92 ?_
      refine gn_i (fun x889 => ?_)
      refine cv_v (As := [.int (nI (h883 % 8)), .int (nI ((h883 / 8) % 8)), .int (nI (h883 / 64)), .int x887, .int x888, .int x889]) (rest := []) (b := w) ⟨hx, hb, hml, hown, hts⟩ (c_X9_handle hT (w := w) hw (x := (nI (h883 % 8))) (n := ((h883 / 8) % 8)) (k := (h883 / 64)) (y := x887) (z := x888) (u := x889) (by first | omega | decide | assumption) (by first | omega | decide | assumption)) (cwV 6 hts gX9_handleAll_X9_handle rfl rfl rfl hdX9_handle_v ⟨Nat.le_of_ble_eq_true rfl, Nat.le_of_ble_eq_true rfl⟩) hN hE hL (rcv10 hN hT hw.1) rfl rfl hl.1 (Nat.le_of_ble_eq_true rfl) dX9_handleAll_93 (Nat.zero_le _) (Nat.zero_le _) (fun H1 locs hL hqr890 => ?_)
      obtain ⟨hT1, hF1⟩ := hqr890
      have hP : va_P D vwCl [(w, .inr (9, [.int f865_0, .ref f865_1, .int (nI ((κ w).2.2.1)), .int (nI f865_3), .int (nI f865_4), .int f865_5, .int f865_6, .int f865_7, .ref (κ w).2.2.2, .ref f865_9, .ref f865_10, .ref f865_11, .int (nI f865_12), .int f865_13, .int f865_14, .int f865_15, .int f865_16, .ref f865_17]))] _ := hF1.hP (hP.sub [1] rfl) (fa_c ⟨by rw [hw.1]; decide, by rw [hw.2]; first | decide | (simp; done) | (simp; omega)⟩ fa_n)
      have hF := hF.tr (hF1.mono (by simp))
      have hT := hT1
      refine lv_iinc (v := (nI (k + 1))) (lv' := [(2, .int (nI (k + 1))), (4, .int (nI h883)), (3, .int (nI (1383 + (6 * k)))), (0, .ref w), (1, .int (nI n9))]) hx hb dX9_handleAll_96 hl (k := 2) rfl (nI_add _ 1) (by decide) rfl (fun ls hl => ?_)
      refine lv_goto (tgt := 9) hx hb dX9_handleAll_99 (by decide) ?_
      exact ih868 (k + 1) _ _ _ (by show n9 - ((k + 1)) < n9 - k; omega) ⟨(by show ((k + 1)) ≤ n9; omega), hT, hF, hL, (hP.sub [0] rfl)⟩ (lv_sub hl [0, 3, 4] rfl)
theorem mX9_tick_1 : (.fieldLink RX9 18 "OneBeatModel" "data" "[I" : Cond) ∈ wsX9_tick := List.mem_of_getElem? (i := 1) (by decide +kernel)
theorem iX9_tick_9 : ∀ w ∈ wsX90, w ∈ wsX9_tick := fun w h => List.mem_of_mem_drop (List.mem_of_mem_take ((show wsX90 = (wsX9_tick.drop 69).take 18 by decide +kernel) ▸ h))
theorem hdX9_handleAll_v : yX9_handleAll.cls = RX9 ∧ yX9_handleAll.cls ≠ "java/lang/invoke/MethodHandle" ∧ yX9_handleAll.cls ≠ "java/lang/invoke/VarHandle" ∧ (parseMethodDescriptor yX9_handleAll.desc).map (fun d => d.parameters.length) = some 0 := by decide +kernel
theorem hdX9_change_v : yX9_change.cls = RX9 ∧ yX9_change.cls ≠ "java/lang/invoke/MethodHandle" ∧ yX9_change.cls ≠ "java/lang/invoke/VarHandle" ∧ (parseMethodDescriptor yX9_change.desc).map (fun d => d.parameters.length) = some 1 := by decide +kernel
theorem hdX9_giveUp_v : yX9_giveUp.cls = RX9 ∧ yX9_giveUp.cls ≠ "java/lang/invoke/MethodHandle" ∧ yX9_giveUp.cls ≠ "java/lang/invoke/VarHandle" ∧ (parseMethodDescriptor yX9_giveUp.desc).map (fun d => d.parameters.length) = some 0 := by decide +kernel
set_option maxHeartbeats 4000000 in
set_option maxRecDepth 100000 in
theorem c_X9_tick {l : Launch} {D : va_G} {cs : Nat → ClassId} {B0 T : Nat} {κ : KM} {H0 : Heap} (hT : WT B0 D cs T κ H0) {w : Nat} (hw : T2 κ w 10 12) : KC l yX9_tick wsX9_tick 6 146 0 0 D cs B0 H0 [.ref w] (Qv (fun H => WT B0 D cs (T + 1) κ H ∧ Fr B0 [18] κ H0 H)) := by
  refine KC.of cX9_tick 2 none (by decide) rfl (Nat.le_of_ble_eq_true rfl) ?_
  intro p e s m below meth c ls hx hb hr hml hown hts hlocks hin hN hE hH0 hl
  have hown : s.vm.findClass RX9 = some m.cls := hown
  have hl : lv_has ls 2 [(0, .ref w)] := hl
  have hL : OkL B0 [] := OkL.nil
  have hF : Fr B0 [18] κ H0 H0 := Fr.rf
  refine lv_aload_n hx hb dX9_tick_0 rfl (lv_at hl 0 rfl) ?_
  obtain ⟨hb891, e891, hat891, hk891⟩ := hT.o10 hw.1
  obtain ⟨f891_0, f891_1, f891_3, f891_4, f891_5, f891_6, f891_7, f891_9, f891_10, f891_11, f891_12, f891_13, f891_14, f891_15, f891_16, f891_17, rfl, c891_2, c891_3, c891_4, c891_12, t891_1, t891_8, t891_9, c891_sd, t891_10, t891_11, t891_17⟩ := hk891
  have hP : va_P D vwCl [(w, .inr (9, [.int f891_0, .ref f891_1, .int (nI ((κ w).2.2.1)), .int (nI f891_3), .int (nI f891_4), .int f891_5, .int f891_6, .int f891_7, .ref (κ w).2.2.2, .ref f891_9, .ref f891_10, .ref f891_11, .int (nI f891_12), .int f891_13, .int f891_14, .int f891_15, .int f891_16, .ref f891_17]))] _ := va_P.cons hat891 va_P.nil
  refine va_get (D := D) (ci := 9) (v := .ref (κ w).2.2.2) (C := RX9) (T := TX9) (N := 18) hx hb hts iX9_tick_9 hown hN.1 hP 0 rfl rfl 8 (by decide) (hts _ mX9_tick_1) (fun _ h9 => h9) rfl dX9_tick_1 ?_
  refine lv_iconst (v := 1) hx hb dX9_tick_4 (by decide) ?_
  refine lv_dup2_11 hx hb dX9_tick_5 rfl rfl ?_
  obtain ⟨hb892, e892, hat892, hk892⟩ := hT.o24 t891_8.1
  obtain ⟨g892, rfl, q892⟩ := hk892
  have hP : va_P D vwCl [((κ w).2.2.2, .inl (cs 0, 45783, .inl g892)), (w, .inr (9, [.int f891_0, .ref f891_1, .int (nI ((κ w).2.2.1)), .int (nI f891_3), .int (nI f891_4), .int f891_5, .int f891_6, .int f891_7, .ref (κ w).2.2.2, .ref f891_9, .ref f891_10, .ref f891_11, .int (nI f891_12), .int f891_13, .int f891_14, .int f891_15, .int f891_16, .ref f891_17]))] _ := va_P.cons hat892 hP
  refine ld_i (v := (g892 1)) hx hb hN hP 0 rfl (vp_in_nI (n := 1) (N := 45783) (by omega) (by omega)) (by rw [(show (1 : Int32).toNatClampNeg = 1 from nI_clamp (n := 1) (by omega))]) dX9_tick_6 ?_
  obtain ⟨n893, hn893, en893⟩ := q892.2.1
  refine tp_i (nI n893) en893 ?_
  refine lv_iconst (v := 1) hx hb dX9_tick_7 (by decide) ?_
  refine lv_iadd hx hb dX9_tick_8 ?_
  refine tp_i (nI (n893 + 1)) (nI_add n893 1) ?_
  have hB : Bx B0 D _ [((κ w).2.2.2, .inl (cs 0, 45783, .inl g892)), (w, .inr (9, [.int f891_0, .ref f891_1, .int (nI ((κ w).2.2.1)), .int (nI f891_3), .int (nI f891_4), .int f891_5, .int f891_6, .int f891_7, .ref (κ w).2.2.2, .ref f891_9, .ref f891_10, .ref f891_11, .int (nI f891_12), .int f891_13, .int f891_14, .int f891_15, .int f891_16, .ref f891_17]))] [] _ _ := Bx.of (fun a => (κ a).1) hL hP (fa_c hb892 (fa_c hb891 fa_n)) (by simp only [List.map_cons, List.map_nil, t891_8.1, hw.1]; decide)
  refine b_i hx hb hN hB 0 rfl (vp_in_nI (n := 1) (N := 45783) (by omega) (by omega)) (.inl rfl) dX9_tick_9 (fun H locs hB => ?_)
  rw [(show (1 : Int32).toNatClampNeg = 1 from nI_clamp (n := 1) (by omega))] at hB
  have hB : Bx B0 D _ [((κ w).2.2.2, .inl (cs 0, 45783, .inl (upd g892 1 (nI (n893 + 1))))), (w, .inr (9, [.int f891_0, .ref f891_1, .int (nI ((κ w).2.2.1)), .int (nI f891_3), .int (nI f891_4), .int f891_5, .int f891_6, .int f891_7, .ref (κ w).2.2.2, .ref f891_9, .ref f891_10, .ref f891_11, .int (nI f891_12), .int f891_13, .int f891_14, .int f891_15, .int f891_16, .ref f891_17]))] [(κ w).2.2.2] _ _ := hB
  have z894 := DOK.s1 q892 (n := n893) hn893
  have hT : WT B0 D cs (T + 1) κ _ := hT.up (Nat.le_succ T)
  refine lv_aload_n hx hb dX9_tick_10 rfl (lv_at hl 0 rfl) ?_
  have hT : WT B0 D cs (T + 1) κ _ := hT.close hB ⟨⟨0, _, rfl, ok_24 t891_8.1 ⟨_, rfl, z894⟩⟩, trivial⟩
  have hF : Fr B0 [18] κ H0 _ := hF.close hB (fa_c (by simp [t891_8.2]) fa_n)
  have hL : OkL B0 _ := hB.2.2.2.2.2
  have hP : va_P D vwCl [((κ w).2.2.2, .inl (cs 0, 45783, .inl (upd g892 1 (nI (n893 + 1))))), (w, .inr (9, [.int f891_0, .ref f891_1, .int (nI ((κ w).2.2.1)), .int (nI f891_3), .int (nI f891_4), .int f891_5, .int f891_6, .int f891_7, .ref (κ w).2.2.2, .ref f891_9, .ref f891_10, .ref f891_11, .int (nI f891_12), .int f891_13, .int f891_14, .int f891_15, .int f891_16, .ref f891_17]))] _ := hB.1
  refine cv_v (As := []) (rest := []) (b := w) ⟨hx, hb, hml, hown, hts⟩ (c_X9_handleAll hT (w := w) hw) (cwV 0 hts gX9_tick_X9_handleAll rfl rfl rfl hdX9_handleAll_v ⟨Nat.le_of_ble_eq_true rfl, Nat.le_of_ble_eq_true rfl⟩) hN hE hL (rcv10 hN hT hw.1) rfl rfl hl.1 (Nat.le_of_ble_eq_true rfl) dX9_tick_11 (Nat.zero_le _) (Nat.zero_le _) (fun H1 locs hL hqr895 => ?_)
  obtain ⟨hT1, hF1⟩ := hqr895
  have hP : va_P D vwCl [(w, .inr (9, [.int f891_0, .ref f891_1, .int (nI ((κ w).2.2.1)), .int (nI f891_3), .int (nI f891_4), .int f891_5, .int f891_6, .int f891_7, .ref (κ w).2.2.2, .ref f891_9, .ref f891_10, .ref f891_11, .int (nI f891_12), .int f891_13, .int f891_14, .int f891_15, .int f891_16, .ref f891_17]))] _ := hF1.hP (hP.sub [1] rfl) (fa_c ⟨by rw [hw.1]; decide, by rw [hw.2]; first | decide | (simp; done) | (simp; omega)⟩ fa_n)
  have hF := hF.tr (hF1.mono (by simp))
  have hT := hT1
  refine lv_aload_n hx hb dX9_tick_14 rfl (lv_at hl 0 rfl) ?_
  refine cv_i (As := []) (rest := []) (b := w) ⟨hx, hb, hml, hown, hts⟩ (c_X9_isOpen hT (w := w) hw) (cwV 0 hts gX9_tick_X9_isOpen rfl rfl rfl hdX9_isOpen_v ⟨Nat.le_of_ble_eq_true rfl, Nat.le_of_ble_eq_true rfl⟩) hN hE hL (rcv10 hN hT hw.1) rfl rfl hl.1 (Nat.le_of_ble_eq_true rfl) dX9_tick_15 (Nat.zero_le _) (Nat.zero_le _) (fun r896 H1 locs hL hqr896 => ?_)
  obtain ⟨h9, hqr896⟩ := hqr896; replace h9 := h9.symm; subst h9
  rcases hqr896 with rfl | rfl
  · refine lv_if_eq (tgt := 41) hx hb dX9_tick_18 (by decide) (fun _ => ?_) (fun c9 => absurd (by decide) c9)
    refine lv_iconst (v := 0) hx hb dX9_tick_41 (by decide) ?_
    refine lv_istore_n (lv' := [(1, .int 0), (0, .ref w)]) hx hb dX9_tick_42 rfl hl (by decide) rfl (fun ls hl => ?_)
    refine lp_m (α := Nat) (nL := 2) (fun a9 => 8 - a9) (fun a9 H9 l9 => (a9 ≤ 8) ∧ (WT B0 D cs (T + 1) κ H9) ∧ (Fr B0 [18] κ H0 H9) ∧ (OkL B0 l9)) (fun a9 => [(1, .int (nI a9)), (0, .ref w)]) ?_ 0 _ _ _ ⟨(by show (0) ≤ 8; omega), hT, hF, hL⟩ (lv_sub hl [0, 1] rfl)
    rintro p H locs ls ih897 ⟨hp, hT, hF, hL⟩ hl
    have hl : lv_has ls 2 [(1, .int (nI p)), (0, .ref w)] := hl
    have hp : p ≤ 8 := hp
    refine lv_iload_n hx hb dX9_tick_43 rfl (lv_at hl 0 rfl) ?_
    refine lv_aload_n hx hb dX9_tick_44 rfl (lv_at hl 1 rfl) ?_
    obtain ⟨hb898, e898, hat898, hk898⟩ := hT.o10 hw.1
    obtain ⟨f898_0, f898_1, f898_3, f898_4, f898_5, f898_6, f898_7, f898_9, f898_10, f898_11, f898_12, f898_13, f898_14, f898_15, f898_16, f898_17, rfl, c898_2, c898_3, c898_4, c898_12, t898_1, t898_8, t898_9, c898_sd, t898_10, t898_11, t898_17⟩ := hk898
    have hP : va_P D vwCl [(w, .inr (9, [.int f898_0, .ref f898_1, .int (nI ((κ w).2.2.1)), .int (nI f898_3), .int (nI f898_4), .int f898_5, .int f898_6, .int f898_7, .ref (κ w).2.2.2, .ref f898_9, .ref f898_10, .ref f898_11, .int (nI f898_12), .int f898_13, .int f898_14, .int f898_15, .int f898_16, .ref f898_17]))] _ := va_P.cons hat898 va_P.nil
    refine va_get (D := D) (ci := 9) (v := .ref (κ w).2.2.2) (C := RX9) (T := TX9) (N := 18) hx hb hts iX9_tick_9 hown hN.1 hP 0 rfl rfl 8 (by decide) (hts _ mX9_tick_1) (fun _ h9 => h9) rfl dX9_tick_45 ?_
    refine lv_iconst (v := 0) hx hb dX9_tick_48 (by decide) ?_
    obtain ⟨hb899, e899, hat899, hk899⟩ := hT.o24 t898_8.1
    obtain ⟨g899, rfl, q899⟩ := hk899
    have hP : va_P D vwCl [((κ w).2.2.2, .inl (cs 0, 45783, .inl g899)), (w, .inr (9, [.int f898_0, .ref f898_1, .int (nI ((κ w).2.2.1)), .int (nI f898_3), .int (nI f898_4), .int f898_5, .int f898_6, .int f898_7, .ref (κ w).2.2.2, .ref f898_9, .ref f898_10, .ref f898_11, .int (nI f898_12), .int f898_13, .int f898_14, .int f898_15, .int f898_16, .ref f898_17]))] _ := va_P.cons hat899 hP
    refine ld_i (v := (g899 0)) hx hb hN hP 0 rfl (vp_in_nI (n := 0) (N := 45783) (by omega) (by omega)) (by rw [(show (0 : Int32).toNatClampNeg = 0 from nI_clamp (n := 0) (by omega))]) dX9_tick_49 ?_
    obtain ⟨n900, hn900, en900⟩ := q899.1
    refine tp_i (nI n900) en900 ?_
    refine lv_icmp_ge (tgt := 97) hx hb dX9_tick_50 (by decide) (fun c901 => ?_) (fun c901 => ?_)
    · have c901 : n900 ≤ p := (nI_leI (a := n900) (b := p) (by omega) (by omega)).mp c901
      exact en_v hx hb hr hlocks hL (Nat.zero_le _) (Nat.zero_le _) dX9_tick_97 (⟨hT.up (by omega), hF⟩)
    · have c901 : ¬ n900 ≤ p := fun h9 => c901 ((nI_leI (a := n900) (b := p) (by omega) (by omega)).mpr h9)
      refine lv_aload_n hx hb dX9_tick_53 rfl (lv_at hl 1 rfl) ?_
      refine lv_iload_n hx hb dX9_tick_54 rfl (lv_at hl 0 rfl) ?_
      refine cv_i (As := [.int (nI p)]) (rest := []) (b := w) ⟨hx, hb, hml, hown, hts⟩ (c_X9_isUp hT (w := w) hw (n := p) (by first | omega | decide | assumption)) (cwV 1 hts gX9_tick_X9_isUp rfl rfl rfl hdX9_isUp_v ⟨Nat.le_of_ble_eq_true rfl, Nat.le_of_ble_eq_true rfl⟩) hN hE hL (rcv10 hN hT hw.1) rfl rfl hl.1 (Nat.le_of_ble_eq_true rfl) dX9_tick_55 (Nat.zero_le _) (Nat.zero_le _) (fun r902 H1 locs hL hqr902 => ?_)
      obtain ⟨h9, hqr902⟩ := hqr902; replace h9 := h9.symm; subst h9
      rcases hqr902 with rfl | rfl
      · refine lv_if_eq (tgt := 91) hx hb dX9_tick_58 (by decide) (fun _ => ?_) (fun c9 => absurd (by decide) c9)
        refine lv_iinc (v := (nI (p + 1))) (lv' := [(1, .int (nI (p + 1))), (0, .ref w)]) hx hb dX9_tick_91 hl (k := 0) rfl (nI_add _ 1) (by decide) rfl (fun ls hl => ?_)
        refine lv_goto (tgt := 43) hx hb dX9_tick_94 (by decide) ?_
        exact ih897 (p + 1) _ _ _ (by show 8 - ((p + 1)) < 8 - p; omega) ⟨(by show ((p + 1)) ≤ 8; omega), hT, hF, hL⟩ (lv_sub hl [0, 1] rfl)
      · refine lv_if_eq (tgt := 91) hx hb dX9_tick_58 (by decide) (fun c9 => absurd c9 (by decide)) (fun _ => ?_)
        refine lv_aload_n hx hb dX9_tick_61 rfl (lv_at hl 1 rfl) ?_
        refine lv_iload_n hx hb dX9_tick_62 rfl (lv_at hl 0 rfl) ?_
        refine lv_iconst (v := 5) hx hb dX9_tick_63 (by decide) ?_
        refine cv_i (As := [.int (nI p), .int 5]) (rest := []) (b := w) ⟨hx, hb, hml, hown, hts⟩ (c_X9_of hT (w := w) hw (n := p) (k := 5) (by first | omega | decide | assumption) (by first | omega | decide | assumption)) (cwV 2 hts gX9_tick_X9_of rfl rfl rfl hdX9_of_v ⟨Nat.le_of_ble_eq_true rfl, Nat.le_of_ble_eq_true rfl⟩) hN hE hL (rcv10 hN hT hw.1) rfl rfl hl.1 (Nat.le_of_ble_eq_true rfl) dX9_tick_64 (Nat.zero_le _) (Nat.zero_le _) (fun r903 H1 locs hL hqr903 => ?_)
        obtain rfl := hqr903.symm
        refine lv_iconst (v := 2) hx hb dX9_tick_67 (by decide) ?_
        refine lv_icmp_ne (tgt := 91) hx hb dX9_tick_68 (by decide) (fun c904 => ?_) (fun c904 => ?_)
        · refine lv_iinc (v := (nI (p + 1))) (lv' := [(1, .int (nI (p + 1))), (0, .ref w)]) hx hb dX9_tick_91 hl (k := 0) rfl (nI_add _ 1) (by decide) rfl (fun ls hl => ?_)
          refine lv_goto (tgt := 43) hx hb dX9_tick_94 (by decide) ?_
          exact ih897 (p + 1) _ _ _ (by show 8 - ((p + 1)) < 8 - p; omega) ⟨(by show ((p + 1)) ≤ 8; omega), hT, hF, hL⟩ (lv_sub hl [0, 1] rfl)
        · refine lv_aload_n hx hb dX9_tick_71 rfl (lv_at hl 1 rfl) ?_
          refine lv_iload_n hx hb dX9_tick_72 rfl (lv_at hl 0 rfl) ?_
          refine cv_i (As := [.int (nI p)]) (rest := []) (b := w) ⟨hx, hb, hml, hown, hts⟩ (c_X9_estimate hT (w := w) hw (n := p) (by first | omega | decide | assumption)) (cwV 1 hts gX9_tick_X9_estimate rfl rfl rfl hdX9_estimate_v ⟨Nat.le_of_ble_eq_true rfl, Nat.le_of_ble_eq_true rfl⟩) hN hE hL (rcv10 hN hT hw.1) rfl rfl hl.1 (Nat.le_of_ble_eq_true rfl) dX9_tick_73 (Nat.zero_le _) (Nat.zero_le _) (fun r905 H1 locs hL hqr905 => ?_)
          obtain rfl := hqr905.symm
          refine lv_aload_n hx hb dX9_tick_76 rfl (lv_at hl 1 rfl) ?_
          refine lv_iload_n hx hb dX9_tick_77 rfl (lv_at hl 0 rfl) ?_
          refine lv_bipush (v := 8) hx hb dX9_tick_78 (by decide) ?_
          refine cv_i (As := [.int (nI p), .int 8]) (rest := [.int r905]) (b := w) ⟨hx, hb, hml, hown, hts⟩ (c_X9_of hT (w := w) hw (n := p) (k := 8) (by first | omega | decide | assumption) (by first | omega | decide | assumption)) (cwV 2 hts gX9_tick_X9_of rfl rfl rfl hdX9_of_v ⟨Nat.le_of_ble_eq_true rfl, Nat.le_of_ble_eq_true rfl⟩) hN hE hL (rcv10 hN hT hw.1) rfl rfl hl.1 (Nat.le_of_ble_eq_true rfl) dX9_tick_80 (Nat.zero_le _) (Nat.zero_le _) (fun r906 H1 locs hL hqr906 => ?_)
          obtain rfl := hqr906.symm
          refine lv_icmp_lt (tgt := 91) hx hb dX9_tick_83 (by decide) (fun c907 => ?_) (fun c907 => ?_)
          · refine lv_iinc (v := (nI (p + 1))) (lv' := [(1, .int (nI (p + 1))), (0, .ref w)]) hx hb dX9_tick_91 hl (k := 0) rfl (nI_add _ 1) (by decide) rfl (fun ls hl => ?_)
            refine lv_goto (tgt := 43) hx hb dX9_tick_94 (by decide) ?_
            exact ih897 (p + 1) _ _ _ (by show 8 - ((p + 1)) < 8 - p; omega) ⟨(by show ((p + 1)) ≤ 8; omega), hT, hF, hL⟩ (lv_sub hl [0, 1] rfl)
          · refine lv_aload_n hx hb dX9_tick_86 rfl (lv_at hl 1 rfl) ?_
            refine lv_iload_n hx hb dX9_tick_87 rfl (lv_at hl 0 rfl) ?_
            refine cv_v (As := [.int (nI p)]) (rest := []) (b := w) ⟨hx, hb, hml, hown, hts⟩ (c_X9_change hT (w := w) hw (n := p) (by first | omega | decide | assumption)) (cwV 1 hts gX9_tick_X9_change rfl rfl rfl hdX9_change_v ⟨Nat.le_of_ble_eq_true rfl, Nat.le_of_ble_eq_true rfl⟩) hN hE hL (rcv10 hN hT hw.1) rfl rfl hl.1 (Nat.le_of_ble_eq_true rfl) dX9_tick_88 (Nat.zero_le _) (Nat.zero_le _) (fun H1 locs hL hqr908 => ?_)
            obtain ⟨hT1, hF1⟩ := hqr908
            have hP : va_P D vwCl [(w, .inr (9, [.int f898_0, .ref f898_1, .int (nI ((κ w).2.2.1)), .int (nI f898_3), .int (nI f898_4), .int f898_5, .int f898_6, .int f898_7, .ref (κ w).2.2.2, .ref f898_9, .ref f898_10, .ref f898_11, .int (nI f898_12), .int f898_13, .int f898_14, .int f898_15, .int f898_16, .ref f898_17]))] _ := hF1.hP (hP.sub [1] rfl) (fa_c ⟨by rw [hw.1]; decide, by rw [hw.2]; first | decide | (simp; done) | (simp; omega)⟩ fa_n)
            have hF := hF.tr (hF1.mono (by simp))
            have hT := hT1
            refine lv_iinc (v := (nI (p + 1))) (lv' := [(1, .int (nI (p + 1))), (0, .ref w)]) hx hb dX9_tick_91 hl (k := 0) rfl (nI_add _ 1) (by decide) rfl (fun ls hl => ?_)
            refine lv_goto (tgt := 43) hx hb dX9_tick_94 (by decide) ?_
            exact ih897 (p + 1) _ _ _ (by show 8 - ((p + 1)) < 8 - p; omega) ⟨(by show ((p + 1)) ≤ 8; omega), hT, hF, hL⟩ (lv_sub hl [0, 1] rfl)
  · refine lv_if_eq (tgt := 41) hx hb dX9_tick_18 (by decide) (fun c9 => absurd c9 (by decide)) (fun _ => ?_)
    refine lv_aload_n hx hb dX9_tick_21 rfl (lv_at hl 0 rfl) ?_
    refine va_get (D := D) (ci := 9) (v := .ref (κ w).2.2.2) (C := RX9) (T := TX9) (N := 18) hx hb hts iX9_tick_9 hown hN.1 hP 0 rfl rfl 8 (by decide) (hts _ mX9_tick_1) (fun _ h9 => h9) rfl dX9_tick_22 ?_
    refine lv_bipush (v := 17) hx hb dX9_tick_25 (by decide) ?_
    obtain ⟨hb909, e909, hat909, hk909⟩ := hT.o24 t891_8.1
    obtain ⟨g909, rfl, q909⟩ := hk909
    have hP : va_P D vwCl [((κ w).2.2.2, .inl (cs 0, 45783, .inl g909)), (w, .inr (9, [.int f891_0, .ref f891_1, .int (nI ((κ w).2.2.1)), .int (nI f891_3), .int (nI f891_4), .int f891_5, .int f891_6, .int f891_7, .ref (κ w).2.2.2, .ref f891_9, .ref f891_10, .ref f891_11, .int (nI f891_12), .int f891_13, .int f891_14, .int f891_15, .int f891_16, .ref f891_17]))] _ := va_P.cons hat909 hP
    refine ld_i (v := (g909 17)) hx hb hN hP 0 rfl (vp_in_nI (n := 17) (N := 45783) (by omega) (by omega)) (by rw [(show (17 : Int32).toNatClampNeg = 17 from nI_clamp (n := 17) (by omega))]) dX9_tick_27 ?_
    refine gn_i (fun x910 => ?_)
    refine lv_aload_n hx hb dX9_tick_28 rfl (lv_at hl 0 rfl) ?_
    refine va_get (D := D) (ci := 9) (v := .ref (κ w).2.2.2) (C := RX9) (T := TX9) (N := 18) hx hb hts iX9_tick_9 hown hN.1 hP 1 rfl rfl 8 (by decide) (hts _ mX9_tick_1) (fun _ h9 => h9) rfl dX9_tick_29 ?_
    refine lv_iconst (v := 1) hx hb dX9_tick_32 (by decide) ?_
    refine ld_i (v := (g909 1)) hx hb hN hP 0 rfl (vp_in_nI (n := 1) (N := 45783) (by omega) (by omega)) (by rw [(show (1 : Int32).toNatClampNeg = 1 from nI_clamp (n := 1) (by omega))]) dX9_tick_33 ?_
    obtain ⟨n911, hn911, en911⟩ := q909.2.1
    refine tp_i (nI n911) en911 ?_
    refine lv_icmp_ne (tgt := 41) hx hb dX9_tick_34 (by decide) (fun c912 => ?_) (fun c912 => ?_)
    · refine lv_iconst (v := 0) hx hb dX9_tick_41 (by decide) ?_
      refine lv_istore_n (lv' := [(1, .int 0), (0, .ref w)]) hx hb dX9_tick_42 rfl hl (by decide) rfl (fun ls hl => ?_)
      refine lp_m (α := Nat) (nL := 2) (fun a9 => 8 - a9) (fun a9 H9 l9 => (a9 ≤ 8) ∧ (WT B0 D cs (T + 1) κ H9) ∧ (Fr B0 [18] κ H0 H9) ∧ (OkL B0 l9)) (fun a9 => [(1, .int (nI a9)), (0, .ref w)]) ?_ 0 _ _ _ ⟨(by show (0) ≤ 8; omega), hT, hF, hL⟩ (lv_sub hl [0, 1] rfl)
      rintro p H locs ls ih913 ⟨hp, hT, hF, hL⟩ hl
      have hl : lv_has ls 2 [(1, .int (nI p)), (0, .ref w)] := hl
      have hp : p ≤ 8 := hp
      refine lv_iload_n hx hb dX9_tick_43 rfl (lv_at hl 0 rfl) ?_
      refine lv_aload_n hx hb dX9_tick_44 rfl (lv_at hl 1 rfl) ?_
      obtain ⟨hb914, e914, hat914, hk914⟩ := hT.o10 hw.1
      obtain ⟨f914_0, f914_1, f914_3, f914_4, f914_5, f914_6, f914_7, f914_9, f914_10, f914_11, f914_12, f914_13, f914_14, f914_15, f914_16, f914_17, rfl, c914_2, c914_3, c914_4, c914_12, t914_1, t914_8, t914_9, c914_sd, t914_10, t914_11, t914_17⟩ := hk914
      have hP : va_P D vwCl [(w, .inr (9, [.int f914_0, .ref f914_1, .int (nI ((κ w).2.2.1)), .int (nI f914_3), .int (nI f914_4), .int f914_5, .int f914_6, .int f914_7, .ref (κ w).2.2.2, .ref f914_9, .ref f914_10, .ref f914_11, .int (nI f914_12), .int f914_13, .int f914_14, .int f914_15, .int f914_16, .ref f914_17]))] _ := va_P.cons hat914 va_P.nil
      refine va_get (D := D) (ci := 9) (v := .ref (κ w).2.2.2) (C := RX9) (T := TX9) (N := 18) hx hb hts iX9_tick_9 hown hN.1 hP 0 rfl rfl 8 (by decide) (hts _ mX9_tick_1) (fun _ h9 => h9) rfl dX9_tick_45 ?_
      refine lv_iconst (v := 0) hx hb dX9_tick_48 (by decide) ?_
      obtain ⟨hb915, e915, hat915, hk915⟩ := hT.o24 t914_8.1
      obtain ⟨g915, rfl, q915⟩ := hk915
      have hP : va_P D vwCl [((κ w).2.2.2, .inl (cs 0, 45783, .inl g915)), (w, .inr (9, [.int f914_0, .ref f914_1, .int (nI ((κ w).2.2.1)), .int (nI f914_3), .int (nI f914_4), .int f914_5, .int f914_6, .int f914_7, .ref (κ w).2.2.2, .ref f914_9, .ref f914_10, .ref f914_11, .int (nI f914_12), .int f914_13, .int f914_14, .int f914_15, .int f914_16, .ref f914_17]))] _ := va_P.cons hat915 hP
      refine ld_i (v := (g915 0)) hx hb hN hP 0 rfl (vp_in_nI (n := 0) (N := 45783) (by omega) (by omega)) (by rw [(show (0 : Int32).toNatClampNeg = 0 from nI_clamp (n := 0) (by omega))]) dX9_tick_49 ?_
      obtain ⟨n916, hn916, en916⟩ := q915.1
      refine tp_i (nI n916) en916 ?_
      refine lv_icmp_ge (tgt := 97) hx hb dX9_tick_50 (by decide) (fun c917 => ?_) (fun c917 => ?_)
      · have c917 : n916 ≤ p := (nI_leI (a := n916) (b := p) (by omega) (by omega)).mp c917
        exact en_v hx hb hr hlocks hL (Nat.zero_le _) (Nat.zero_le _) dX9_tick_97 (⟨hT.up (by omega), hF⟩)
      · have c917 : ¬ n916 ≤ p := fun h9 => c917 ((nI_leI (a := n916) (b := p) (by omega) (by omega)).mpr h9)
        refine lv_aload_n hx hb dX9_tick_53 rfl (lv_at hl 1 rfl) ?_
        refine lv_iload_n hx hb dX9_tick_54 rfl (lv_at hl 0 rfl) ?_
        refine cv_i (As := [.int (nI p)]) (rest := []) (b := w) ⟨hx, hb, hml, hown, hts⟩ (c_X9_isUp hT (w := w) hw (n := p) (by first | omega | decide | assumption)) (cwV 1 hts gX9_tick_X9_isUp rfl rfl rfl hdX9_isUp_v ⟨Nat.le_of_ble_eq_true rfl, Nat.le_of_ble_eq_true rfl⟩) hN hE hL (rcv10 hN hT hw.1) rfl rfl hl.1 (Nat.le_of_ble_eq_true rfl) dX9_tick_55 (Nat.zero_le _) (Nat.zero_le _) (fun r918 H1 locs hL hqr918 => ?_)
        obtain ⟨h9, hqr918⟩ := hqr918; replace h9 := h9.symm; subst h9
        rcases hqr918 with rfl | rfl
        · refine lv_if_eq (tgt := 91) hx hb dX9_tick_58 (by decide) (fun _ => ?_) (fun c9 => absurd (by decide) c9)
          refine lv_iinc (v := (nI (p + 1))) (lv' := [(1, .int (nI (p + 1))), (0, .ref w)]) hx hb dX9_tick_91 hl (k := 0) rfl (nI_add _ 1) (by decide) rfl (fun ls hl => ?_)
          refine lv_goto (tgt := 43) hx hb dX9_tick_94 (by decide) ?_
          exact ih913 (p + 1) _ _ _ (by show 8 - ((p + 1)) < 8 - p; omega) ⟨(by show ((p + 1)) ≤ 8; omega), hT, hF, hL⟩ (lv_sub hl [0, 1] rfl)
        · refine lv_if_eq (tgt := 91) hx hb dX9_tick_58 (by decide) (fun c9 => absurd c9 (by decide)) (fun _ => ?_)
          refine lv_aload_n hx hb dX9_tick_61 rfl (lv_at hl 1 rfl) ?_
          refine lv_iload_n hx hb dX9_tick_62 rfl (lv_at hl 0 rfl) ?_
          refine lv_iconst (v := 5) hx hb dX9_tick_63 (by decide) ?_
          refine cv_i (As := [.int (nI p), .int 5]) (rest := []) (b := w) ⟨hx, hb, hml, hown, hts⟩ (c_X9_of hT (w := w) hw (n := p) (k := 5) (by first | omega | decide | assumption) (by first | omega | decide | assumption)) (cwV 2 hts gX9_tick_X9_of rfl rfl rfl hdX9_of_v ⟨Nat.le_of_ble_eq_true rfl, Nat.le_of_ble_eq_true rfl⟩) hN hE hL (rcv10 hN hT hw.1) rfl rfl hl.1 (Nat.le_of_ble_eq_true rfl) dX9_tick_64 (Nat.zero_le _) (Nat.zero_le _) (fun r919 H1 locs hL hqr919 => ?_)
          obtain rfl := hqr919.symm
          refine lv_iconst (v := 2) hx hb dX9_tick_67 (by decide) ?_
          refine lv_icmp_ne (tgt := 91) hx hb dX9_tick_68 (by decide) (fun c920 => ?_) (fun c920 => ?_)
          · refine lv_iinc (v := (nI (p + 1))) (lv' := [(1, .int (nI (p + 1))), (0, .ref w)]) hx hb dX9_tick_91 hl (k := 0) rfl (nI_add _ 1) (by decide) rfl (fun ls hl => ?_)
            refine lv_goto (tgt := 43) hx hb dX9_tick_94 (by decide) ?_
            exact ih913 (p + 1) _ _ _ (by show 8 - ((p + 1)) < 8 - p; omega) ⟨(by show ((p + 1)) ≤ 8; omega), hT, hF, hL⟩ (lv_sub hl [0, 1] rfl)
          · refine lv_aload_n hx hb dX9_tick_71 rfl (lv_at hl 1 rfl) ?_
            refine lv_iload_n hx hb dX9_tick_72 rfl (lv_at hl 0 rfl) ?_
            refine cv_i (As := [.int (nI p)]) (rest := []) (b := w) ⟨hx, hb, hml, hown, hts⟩ (c_X9_estimate hT (w := w) hw (n := p) (by first | omega | decide | assumption)) (cwV 1 hts gX9_tick_X9_estimate rfl rfl rfl hdX9_estimate_v ⟨Nat.le_of_ble_eq_true rfl, Nat.le_of_ble_eq_true rfl⟩) hN hE hL (rcv10 hN hT hw.1) rfl rfl hl.1 (Nat.le_of_ble_eq_true rfl) dX9_tick_73 (Nat.zero_le _) (Nat.zero_le _) (fun r921 H1 locs hL hqr921 => ?_)
            obtain rfl := hqr921.symm
            refine lv_aload_n hx hb dX9_tick_76 rfl (lv_at hl 1 rfl) ?_
            refine lv_iload_n hx hb dX9_tick_77 rfl (lv_at hl 0 rfl) ?_
            refine lv_bipush (v := 8) hx hb dX9_tick_78 (by decide) ?_
            refine cv_i (As := [.int (nI p), .int 8]) (rest := [.int r921]) (b := w) ⟨hx, hb, hml, hown, hts⟩ (c_X9_of hT (w := w) hw (n := p) (k := 8) (by first | omega | decide | assumption) (by first | omega | decide | assumption)) (cwV 2 hts gX9_tick_X9_of rfl rfl rfl hdX9_of_v ⟨Nat.le_of_ble_eq_true rfl, Nat.le_of_ble_eq_true rfl⟩) hN hE hL (rcv10 hN hT hw.1) rfl rfl hl.1 (Nat.le_of_ble_eq_true rfl) dX9_tick_80 (Nat.zero_le _) (Nat.zero_le _) (fun r922 H1 locs hL hqr922 => ?_)
            obtain rfl := hqr922.symm
            refine lv_icmp_lt (tgt := 91) hx hb dX9_tick_83 (by decide) (fun c923 => ?_) (fun c923 => ?_)
            · refine lv_iinc (v := (nI (p + 1))) (lv' := [(1, .int (nI (p + 1))), (0, .ref w)]) hx hb dX9_tick_91 hl (k := 0) rfl (nI_add _ 1) (by decide) rfl (fun ls hl => ?_)
              refine lv_goto (tgt := 43) hx hb dX9_tick_94 (by decide) ?_
              exact ih913 (p + 1) _ _ _ (by show 8 - ((p + 1)) < 8 - p; omega) ⟨(by show ((p + 1)) ≤ 8; omega), hT, hF, hL⟩ (lv_sub hl [0, 1] rfl)
            · refine lv_aload_n hx hb dX9_tick_86 rfl (lv_at hl 1 rfl) ?_
              refine lv_iload_n hx hb dX9_tick_87 rfl (lv_at hl 0 rfl) ?_
              refine cv_v (As := [.int (nI p)]) (rest := []) (b := w) ⟨hx, hb, hml, hown, hts⟩ (c_X9_change hT (w := w) hw (n := p) (by first | omega | decide | assumption)) (cwV 1 hts gX9_tick_X9_change rfl rfl rfl hdX9_change_v ⟨Nat.le_of_ble_eq_true rfl, Nat.le_of_ble_eq_true rfl⟩) hN hE hL (rcv10 hN hT hw.1) rfl rfl hl.1 (Nat.le_of_ble_eq_true rfl) dX9_tick_88 (Nat.zero_le _) (Nat.zero_le _) (fun H1 locs hL hqr924 => ?_)
              obtain ⟨hT1, hF1⟩ := hqr924
              have hP : va_P D vwCl [(w, .inr (9, [.int f914_0, .ref f914_1, .int (nI ((κ w).2.2.1)), .int (nI f914_3), .int (nI f914_4), .int f914_5, .int f914_6, .int f914_7, .ref (κ w).2.2.2, .ref f914_9, .ref f914_10, .ref f914_11, .int (nI f914_12), .int f914_13, .int f914_14, .int f914_15, .int f914_16, .ref f914_17]))] _ := hF1.hP (hP.sub [1] rfl) (fa_c ⟨by rw [hw.1]; decide, by rw [hw.2]; first | decide | (simp; done) | (simp; omega)⟩ fa_n)
              have hF := hF.tr (hF1.mono (by simp))
              have hT := hT1
              refine lv_iinc (v := (nI (p + 1))) (lv' := [(1, .int (nI (p + 1))), (0, .ref w)]) hx hb dX9_tick_91 hl (k := 0) rfl (nI_add _ 1) (by decide) rfl (fun ls hl => ?_)
              refine lv_goto (tgt := 43) hx hb dX9_tick_94 (by decide) ?_
              exact ih913 (p + 1) _ _ _ (by show 8 - ((p + 1)) < 8 - p; omega) ⟨(by show ((p + 1)) ≤ 8; omega), hT, hF, hL⟩ (lv_sub hl [0, 1] rfl)
    · refine lv_aload_n hx hb dX9_tick_37 rfl (lv_at hl 0 rfl) ?_
      refine cv_v (As := []) (rest := []) (b := w) ⟨hx, hb, hml, hown, hts⟩ (c_X9_giveUp hT (w := w) hw) (cwV 0 hts gX9_tick_X9_giveUp rfl rfl rfl hdX9_giveUp_v ⟨Nat.le_of_ble_eq_true rfl, Nat.le_of_ble_eq_true rfl⟩) hN hE hL (rcv10 hN hT hw.1) rfl rfl hl.1 (Nat.le_of_ble_eq_true rfl) dX9_tick_38 (Nat.zero_le _) (Nat.zero_le _) (fun H1 locs hL hqr925 => ?_)
      obtain ⟨hT1, hF1⟩ := hqr925
      have hP : va_P D vwCl [(w, .inr (9, [.int f891_0, .ref f891_1, .int (nI ((κ w).2.2.1)), .int (nI f891_3), .int (nI f891_4), .int f891_5, .int f891_6, .int f891_7, .ref (κ w).2.2.2, .ref f891_9, .ref f891_10, .ref f891_11, .int (nI f891_12), .int f891_13, .int f891_14, .int f891_15, .int f891_16, .ref f891_17]))] _ := hF1.hP (hP.sub [1] rfl) (fa_c ⟨by rw [hw.1]; decide, by rw [hw.2]; first | decide | (simp; done) | (simp; omega)⟩ fa_n)
      have hF := hF.tr (hF1.mono (by simp))
      have hT := hT1
      refine lv_iconst (v := 0) hx hb dX9_tick_41 (by decide) ?_
      refine lv_istore_n (lv' := [(1, .int 0), (0, .ref w)]) hx hb dX9_tick_42 rfl hl (by decide) rfl (fun ls hl => ?_)
      refine lp_m (α := Nat) (nL := 2) (fun a9 => 8 - a9) (fun a9 H9 l9 => (a9 ≤ 8) ∧ (WT B0 D cs (T + 1) κ H9) ∧ (Fr B0 [18] κ H0 H9) ∧ (OkL B0 l9)) (fun a9 => [(1, .int (nI a9)), (0, .ref w)]) ?_ 0 _ _ _ ⟨(by show (0) ≤ 8; omega), hT, hF, hL⟩ (lv_sub hl [0, 1] rfl)
      rintro p H locs ls ih926 ⟨hp, hT, hF, hL⟩ hl
      have hl : lv_has ls 2 [(1, .int (nI p)), (0, .ref w)] := hl
      have hp : p ≤ 8 := hp
      refine lv_iload_n hx hb dX9_tick_43 rfl (lv_at hl 0 rfl) ?_
      refine lv_aload_n hx hb dX9_tick_44 rfl (lv_at hl 1 rfl) ?_
      obtain ⟨hb927, e927, hat927, hk927⟩ := hT.o10 hw.1
      obtain ⟨f927_0, f927_1, f927_3, f927_4, f927_5, f927_6, f927_7, f927_9, f927_10, f927_11, f927_12, f927_13, f927_14, f927_15, f927_16, f927_17, rfl, c927_2, c927_3, c927_4, c927_12, t927_1, t927_8, t927_9, c927_sd, t927_10, t927_11, t927_17⟩ := hk927
      have hP : va_P D vwCl [(w, .inr (9, [.int f927_0, .ref f927_1, .int (nI ((κ w).2.2.1)), .int (nI f927_3), .int (nI f927_4), .int f927_5, .int f927_6, .int f927_7, .ref (κ w).2.2.2, .ref f927_9, .ref f927_10, .ref f927_11, .int (nI f927_12), .int f927_13, .int f927_14, .int f927_15, .int f927_16, .ref f927_17]))] _ := va_P.cons hat927 va_P.nil
      refine va_get (D := D) (ci := 9) (v := .ref (κ w).2.2.2) (C := RX9) (T := TX9) (N := 18) hx hb hts iX9_tick_9 hown hN.1 hP 0 rfl rfl 8 (by decide) (hts _ mX9_tick_1) (fun _ h9 => h9) rfl dX9_tick_45 ?_
      refine lv_iconst (v := 0) hx hb dX9_tick_48 (by decide) ?_
      obtain ⟨hb928, e928, hat928, hk928⟩ := hT.o24 t927_8.1
      obtain ⟨g928, rfl, q928⟩ := hk928
      have hP : va_P D vwCl [((κ w).2.2.2, .inl (cs 0, 45783, .inl g928)), (w, .inr (9, [.int f927_0, .ref f927_1, .int (nI ((κ w).2.2.1)), .int (nI f927_3), .int (nI f927_4), .int f927_5, .int f927_6, .int f927_7, .ref (κ w).2.2.2, .ref f927_9, .ref f927_10, .ref f927_11, .int (nI f927_12), .int f927_13, .int f927_14, .int f927_15, .int f927_16, .ref f927_17]))] _ := va_P.cons hat928 hP
      refine ld_i (v := (g928 0)) hx hb hN hP 0 rfl (vp_in_nI (n := 0) (N := 45783) (by omega) (by omega)) (by rw [(show (0 : Int32).toNatClampNeg = 0 from nI_clamp (n := 0) (by omega))]) dX9_tick_49 ?_
      obtain ⟨n929, hn929, en929⟩ := q928.1
      refine tp_i (nI n929) en929 ?_
      refine lv_icmp_ge (tgt := 97) hx hb dX9_tick_50 (by decide) (fun c930 => ?_) (fun c930 => ?_)
      · have c930 : n929 ≤ p := (nI_leI (a := n929) (b := p) (by omega) (by omega)).mp c930
        exact en_v hx hb hr hlocks hL (Nat.zero_le _) (Nat.zero_le _) dX9_tick_97 (⟨hT.up (by omega), hF⟩)
      · have c930 : ¬ n929 ≤ p := fun h9 => c930 ((nI_leI (a := n929) (b := p) (by omega) (by omega)).mpr h9)
        refine lv_aload_n hx hb dX9_tick_53 rfl (lv_at hl 1 rfl) ?_
        refine lv_iload_n hx hb dX9_tick_54 rfl (lv_at hl 0 rfl) ?_
        refine cv_i (As := [.int (nI p)]) (rest := []) (b := w) ⟨hx, hb, hml, hown, hts⟩ (c_X9_isUp hT (w := w) hw (n := p) (by first | omega | decide | assumption)) (cwV 1 hts gX9_tick_X9_isUp rfl rfl rfl hdX9_isUp_v ⟨Nat.le_of_ble_eq_true rfl, Nat.le_of_ble_eq_true rfl⟩) hN hE hL (rcv10 hN hT hw.1) rfl rfl hl.1 (Nat.le_of_ble_eq_true rfl) dX9_tick_55 (Nat.zero_le _) (Nat.zero_le _) (fun r931 H1 locs hL hqr931 => ?_)
        obtain ⟨h9, hqr931⟩ := hqr931; replace h9 := h9.symm; subst h9
        rcases hqr931 with rfl | rfl
        · refine lv_if_eq (tgt := 91) hx hb dX9_tick_58 (by decide) (fun _ => ?_) (fun c9 => absurd (by decide) c9)
          refine lv_iinc (v := (nI (p + 1))) (lv' := [(1, .int (nI (p + 1))), (0, .ref w)]) hx hb dX9_tick_91 hl (k := 0) rfl (nI_add _ 1) (by decide) rfl (fun ls hl => ?_)
          refine lv_goto (tgt := 43) hx hb dX9_tick_94 (by decide) ?_
          exact ih926 (p + 1) _ _ _ (by show 8 - ((p + 1)) < 8 - p; omega) ⟨(by show ((p + 1)) ≤ 8; omega), hT, hF, hL⟩ (lv_sub hl [0, 1] rfl)
        · refine lv_if_eq (tgt := 91) hx hb dX9_tick_58 (by decide) (fun c9 => absurd c9 (by decide)) (fun _ => ?_)
          refine lv_aload_n hx hb dX9_tick_61 rfl (lv_at hl 1 rfl) ?_
          refine lv_iload_n hx hb dX9_tick_62 rfl (lv_at hl 0 rfl) ?_
          refine lv_iconst (v := 5) hx hb dX9_tick_63 (by decide) ?_
          refine cv_i (As := [.int (nI p), .int 5]) (rest := []) (b := w) ⟨hx, hb, hml, hown, hts⟩ (c_X9_of hT (w := w) hw (n := p) (k := 5) (by first | omega | decide | assumption) (by first | omega | decide | assumption)) (cwV 2 hts gX9_tick_X9_of rfl rfl rfl hdX9_of_v ⟨Nat.le_of_ble_eq_true rfl, Nat.le_of_ble_eq_true rfl⟩) hN hE hL (rcv10 hN hT hw.1) rfl rfl hl.1 (Nat.le_of_ble_eq_true rfl) dX9_tick_64 (Nat.zero_le _) (Nat.zero_le _) (fun r932 H1 locs hL hqr932 => ?_)
          obtain rfl := hqr932.symm
          refine lv_iconst (v := 2) hx hb dX9_tick_67 (by decide) ?_
          refine lv_icmp_ne (tgt := 91) hx hb dX9_tick_68 (by decide) (fun c933 => ?_) (fun c933 => ?_)
          · refine lv_iinc (v := (nI (p + 1))) (lv' := [(1, .int (nI (p + 1))), (0, .ref w)]) hx hb dX9_tick_91 hl (k := 0) rfl (nI_add _ 1) (by decide) rfl (fun ls hl => ?_)
            refine lv_goto (tgt := 43) hx hb dX9_tick_94 (by decide) ?_
            exact ih926 (p + 1) _ _ _ (by show 8 - ((p + 1)) < 8 - p; omega) ⟨(by show ((p + 1)) ≤ 8; omega), hT, hF, hL⟩ (lv_sub hl [0, 1] rfl)
          · refine lv_aload_n hx hb dX9_tick_71 rfl (lv_at hl 1 rfl) ?_
            refine lv_iload_n hx hb dX9_tick_72 rfl (lv_at hl 0 rfl) ?_
            refine cv_i (As := [.int (nI p)]) (rest := []) (b := w) ⟨hx, hb, hml, hown, hts⟩ (c_X9_estimate hT (w := w) hw (n := p) (by first | omega | decide | assumption)) (cwV 1 hts gX9_tick_X9_estimate rfl rfl rfl hdX9_estimate_v ⟨Nat.le_of_ble_eq_true rfl, Nat.le_of_ble_eq_true rfl⟩) hN hE hL (rcv10 hN hT hw.1) rfl rfl hl.1 (Nat.le_of_ble_eq_true rfl) dX9_tick_73 (Nat.zero_le _) (Nat.zero_le _) (fun r934 H1 locs hL hqr934 => ?_)
            obtain rfl := hqr934.symm
            refine lv_aload_n hx hb dX9_tick_76 rfl (lv_at hl 1 rfl) ?_
            refine lv_iload_n hx hb dX9_tick_77 rfl (lv_at hl 0 rfl) ?_
            refine lv_bipush (v := 8) hx hb dX9_tick_78 (by decide) ?_
            refine cv_i (As := [.int (nI p), .int 8]) (rest := [.int r934]) (b := w) ⟨hx, hb, hml, hown, hts⟩ (c_X9_of hT (w := w) hw (n := p) (k := 8) (by first | omega | decide | assumption) (by first | omega | decide | assumption)) (cwV 2 hts gX9_tick_X9_of rfl rfl rfl hdX9_of_v ⟨Nat.le_of_ble_eq_true rfl, Nat.le_of_ble_eq_true rfl⟩) hN hE hL (rcv10 hN hT hw.1) rfl rfl hl.1 (Nat.le_of_ble_eq_true rfl) dX9_tick_80 (Nat.zero_le _) (Nat.zero_le _) (fun r935 H1 locs hL hqr935 => ?_)
            obtain rfl := hqr935.symm
            refine lv_icmp_lt (tgt := 91) hx hb dX9_tick_83 (by decide) (fun c936 => ?_) (fun c936 => ?_)
            · refine lv_iinc (v := (nI (p + 1))) (lv' := [(1, .int (nI (p + 1))), (0, .ref w)]) hx hb dX9_tick_91 hl (k := 0) rfl (nI_add _ 1) (by decide) rfl (fun ls hl => ?_)
              refine lv_goto (tgt := 43) hx hb dX9_tick_94 (by decide) ?_
              exact ih926 (p + 1) _ _ _ (by show 8 - ((p + 1)) < 8 - p; omega) ⟨(by show ((p + 1)) ≤ 8; omega), hT, hF, hL⟩ (lv_sub hl [0, 1] rfl)
            · refine lv_aload_n hx hb dX9_tick_86 rfl (lv_at hl 1 rfl) ?_
              refine lv_iload_n hx hb dX9_tick_87 rfl (lv_at hl 0 rfl) ?_
              refine cv_v (As := [.int (nI p)]) (rest := []) (b := w) ⟨hx, hb, hml, hown, hts⟩ (c_X9_change hT (w := w) hw (n := p) (by first | omega | decide | assumption)) (cwV 1 hts gX9_tick_X9_change rfl rfl rfl hdX9_change_v ⟨Nat.le_of_ble_eq_true rfl, Nat.le_of_ble_eq_true rfl⟩) hN hE hL (rcv10 hN hT hw.1) rfl rfl hl.1 (Nat.le_of_ble_eq_true rfl) dX9_tick_88 (Nat.zero_le _) (Nat.zero_le _) (fun H1 locs hL hqr937 => ?_)
              obtain ⟨hT1, hF1⟩ := hqr937
              have hP : va_P D vwCl [(w, .inr (9, [.int f927_0, .ref f927_1, .int (nI ((κ w).2.2.1)), .int (nI f927_3), .int (nI f927_4), .int f927_5, .int f927_6, .int f927_7, .ref (κ w).2.2.2, .ref f927_9, .ref f927_10, .ref f927_11, .int (nI f927_12), .int f927_13, .int f927_14, .int f927_15, .int f927_16, .ref f927_17]))] _ := hF1.hP (hP.sub [1] rfl) (fa_c ⟨by rw [hw.1]; decide, by rw [hw.2]; first | decide | (simp; done) | (simp; omega)⟩ fa_n)
              have hF := hF.tr (hF1.mono (by simp))
              have hT := hT1
              refine lv_iinc (v := (nI (p + 1))) (lv' := [(1, .int (nI (p + 1))), (0, .ref w)]) hx hb dX9_tick_91 hl (k := 0) rfl (nI_add _ 1) (by decide) rfl (fun ls hl => ?_)
              refine lv_goto (tgt := 43) hx hb dX9_tick_94 (by decide) ?_
              exact ih926 (p + 1) _ _ _ (by show 8 - ((p + 1)) < 8 - p; omega) ⟨(by show ((p + 1)) ≤ 8; omega), hT, hF, hL⟩ (lv_sub hl [0, 1] rfl)
theorem hdX9_isLive_v : yX9_isLive.cls = RX9 ∧ yX9_isLive.cls ≠ "java/lang/invoke/MethodHandle" ∧ yX9_isLive.cls ≠ "java/lang/invoke/VarHandle" ∧ (parseMethodDescriptor yX9_isLive.desc).map (fun d => d.parameters.length) = some 0 := by decide +kernel
theorem hdX9_tick_v : yX9_tick.cls = RX9 ∧ yX9_tick.cls ≠ "java/lang/invoke/MethodHandle" ∧ yX9_tick.cls ≠ "java/lang/invoke/VarHandle" ∧ (parseMethodDescriptor yX9_tick.desc).map (fun d => d.parameters.length) = some 0 := by decide +kernel
set_option maxHeartbeats 4000000 in
set_option maxRecDepth 100000 in
theorem c_X9_goOn {l : Launch} {D : va_G} {cs : Nat → ClassId} {B0 T : Nat} {κ : KM} {H0 : Heap} (hT : WT B0 D cs T κ H0) {w : Nat} (hw : T2 κ w 10 12) : KC l yX9_goOn wsX9_goOn 7 167 0 0 D cs B0 H0 [.ref w] (Qi (fun _ H => WT B0 D cs (T + 400) κ H ∧ Fr B0 [18] κ H0 H)) := by
  refine KC.of cX9_goOn 2 (some .int) (by decide) rfl (Nat.le_of_ble_eq_true rfl) ?_
  intro p e s m below meth c ls hx hb hr hml hown hts hlocks hin hN hE hH0 hl
  have hown : s.vm.findClass RX9 = some m.cls := hown
  have hl : lv_has ls 2 [(0, .ref w)] := hl
  have hL : OkL B0 [] := OkL.nil
  have hF : Fr B0 [18] κ H0 H0 := Fr.rf
  refine lv_iconst (v := 0) hx hb dX9_goOn_0 (by decide) ?_
  refine lv_istore_n (lv' := [(1, .int 0), (0, .ref w)]) hx hb dX9_goOn_1 rfl hl (by decide) rfl (fun ls hl => ?_)
  refine lp_m (α := Nat) (nL := 2) (fun a9 => 400 - a9) (fun a9 H9 l9 => (a9 ≤ 400) ∧ (WT B0 D cs (T + a9) κ H9) ∧ (Fr B0 [18] κ H0 H9) ∧ (OkL B0 l9)) (fun a9 => [(1, .int (nI a9)), (0, .ref w)]) ?_ 0 _ _ _ ⟨(by show (0) ≤ 400; omega), hT.up (by omega), hF, hL⟩ (lv_sub hl [0, 1] rfl)
  rintro t H locs ls ih938 ⟨ht, hT, hF, hL⟩ hl
  have hl : lv_has ls 2 [(1, .int (nI t)), (0, .ref w)] := hl
  have ht : t ≤ 400 := ht
  refine lv_iload_n hx hb dX9_goOn_2 rfl (lv_at hl 0 rfl) ?_
  refine lv_sipush (v := 400) hx hb dX9_goOn_3 (by decide) ?_
  refine lv_icmp_ge (tgt := 26) hx hb dX9_goOn_6 (by decide) (fun c939 => ?_) (fun c939 => ?_)
  · have c939 : 400 ≤ t := (nI_leI (a := 400) (b := t) (by omega) (by omega)).mp c939
    refine lv_iload_n hx hb dX9_goOn_26 rfl (lv_at hl 0 rfl) ?_
    exact en_i hx hb hr hlocks hL rfl (Nat.zero_le _) (Nat.zero_le _) dX9_goOn_27 (⟨hT.up (by omega), hF⟩)
  · have c939 : ¬ 400 ≤ t := fun h9 => c939 ((nI_leI (a := 400) (b := t) (by omega) (by omega)).mpr h9)
    refine lv_aload_n hx hb dX9_goOn_9 rfl (lv_at hl 1 rfl) ?_
    refine cv_i (As := []) (rest := []) (b := w) ⟨hx, hb, hml, hown, hts⟩ (c_X9_isLive hT (w := w) hw) (cwV 0 hts gX9_goOn_X9_isLive rfl rfl rfl hdX9_isLive_v ⟨Nat.le_of_ble_eq_true rfl, Nat.le_of_ble_eq_true rfl⟩) hN hE hL (rcv10 hN hT hw.1) rfl rfl hl.1 (Nat.le_of_ble_eq_true rfl) dX9_goOn_10 (Nat.zero_le _) (Nat.zero_le _) (fun r940 H1 locs hL hqr940 => ?_)
    obtain ⟨h9, hqr940⟩ := hqr940; replace h9 := h9.symm; subst h9
    rcases hqr940 with rfl | rfl
    · refine lv_if_eq (tgt := 26) hx hb dX9_goOn_13 (by decide) (fun _ => ?_) (fun c9 => absurd (by decide) c9)
      refine lv_iload_n hx hb dX9_goOn_26 rfl (lv_at hl 0 rfl) ?_
      exact en_i hx hb hr hlocks hL rfl (Nat.zero_le _) (Nat.zero_le _) dX9_goOn_27 (⟨hT.up (by omega), hF⟩)
    · refine lv_if_eq (tgt := 26) hx hb dX9_goOn_13 (by decide) (fun c9 => absurd c9 (by decide)) (fun _ => ?_)
      refine lv_aload_n hx hb dX9_goOn_16 rfl (lv_at hl 1 rfl) ?_
      refine cv_v (As := []) (rest := []) (b := w) ⟨hx, hb, hml, hown, hts⟩ (c_X9_tick hT (w := w) hw) (cwV 0 hts gX9_goOn_X9_tick rfl rfl rfl hdX9_tick_v ⟨Nat.le_of_ble_eq_true rfl, Nat.le_of_ble_eq_true rfl⟩) hN hE hL (rcv10 hN hT hw.1) rfl rfl hl.1 (Nat.le_of_ble_eq_true rfl) dX9_goOn_17 (Nat.zero_le _) (Nat.zero_le _) (fun H1 locs hL hqr941 => ?_)
      obtain ⟨hT1, hF1⟩ := hqr941
      have hF := hF.tr (hF1.mono (by simp))
      have hT := hT1
      refine lv_iinc (v := (nI (t + 1))) (lv' := [(1, .int (nI (t + 1))), (0, .ref w)]) hx hb dX9_goOn_20 hl (k := 0) rfl (nI_add _ 1) (by decide) rfl (fun ls hl => ?_)
      refine lv_goto (tgt := 2) hx hb dX9_goOn_23 (by decide) ?_
      exact ih938 (t + 1) _ _ _ (by show 400 - ((t + 1)) < 400 - t; omega) ⟨(by show ((t + 1)) ≤ 400; omega), hT.up (by omega), hF, hL⟩ (lv_sub hl [0, 1] rfl)
theorem mX9_errorOffset_1 : (.fieldLink RX9 40 "OneBeatModel" "thrown" "I" : Cond) ∈ wsX9_errorOffset := List.mem_of_getElem? (i := 1) (by decide +kernel)
theorem iX9_errorOffset_9 : ∀ w ∈ wsX90, w ∈ wsX9_errorOffset := fun w h => List.mem_of_mem_drop (List.mem_of_mem_take ((show wsX90 = (wsX9_errorOffset.drop 3).take 18 by decide +kernel) ▸ h))
theorem mX9_errorOffset_2 : (.fieldLink RX9 13 "OneBeatModel" "errorOffset" "I" : Cond) ∈ wsX9_errorOffset := List.mem_of_getElem? (i := 2) (by decide +kernel)
set_option maxHeartbeats 4000000 in
set_option maxRecDepth 100000 in
theorem c_X9_errorOffset {l : Launch} {D : va_G} {cs : Nat → ClassId} {B0 T : Nat} {κ : KM} {H0 : Heap} (hT : WT B0 D cs T κ H0) {w : Nat} (hw : T2 κ w 10 12) : KC l yX9_errorOffset wsX9_errorOffset 0 0 0 0 D cs B0 H0 [.ref w] (Qi (fun _ H => WT B0 D cs T κ H ∧ Fr B0 [12] κ H0 H)) := by
  refine KC.of cX9_errorOffset 1 (some .int) (by decide) rfl (Nat.le_of_ble_eq_true rfl) ?_
  intro p e s m below meth c ls hx hb hr hml hown hts hlocks hin hN hE hH0 hl
  have hown : s.vm.findClass RX9 = some m.cls := hown
  have hl : lv_has ls 1 [(0, .ref w)] := hl
  have hL : OkL B0 [] := OkL.nil
  have hF : Fr B0 [12] κ H0 H0 := Fr.rf
  refine lv_aload_n hx hb dX9_errorOffset_0 rfl (lv_at hl 0 rfl) ?_
  refine lv_iconst (v := 0) hx hb dX9_errorOffset_1 (by decide) ?_
  obtain ⟨hb942, e942, hat942, hk942⟩ := hT.o10 hw.1
  obtain ⟨f942_0, f942_1, f942_3, f942_4, f942_5, f942_6, f942_7, f942_9, f942_10, f942_11, f942_12, f942_13, f942_14, f942_15, f942_16, f942_17, rfl, c942_2, c942_3, c942_4, c942_12, t942_1, t942_8, t942_9, c942_sd, t942_10, t942_11, t942_17⟩ := hk942
  have hP : va_P D vwCl [(w, .inr (9, [.int f942_0, .ref f942_1, .int (nI ((κ w).2.2.1)), .int (nI f942_3), .int (nI f942_4), .int f942_5, .int f942_6, .int f942_7, .ref (κ w).2.2.2, .ref f942_9, .ref f942_10, .ref f942_11, .int (nI f942_12), .int f942_13, .int f942_14, .int f942_15, .int f942_16, .ref f942_17]))] _ := va_P.cons hat942 va_P.nil
  have hB : Bx B0 D _ [(w, .inr (9, [.int f942_0, .ref f942_1, .int (nI ((κ w).2.2.1)), .int (nI f942_3), .int (nI f942_4), .int f942_5, .int f942_6, .int f942_7, .ref (κ w).2.2.2, .ref f942_9, .ref f942_10, .ref f942_11, .int (nI f942_12), .int f942_13, .int f942_14, .int f942_15, .int f942_16, .ref f942_17]))] [] _ _ := Bx.of (fun a => (κ a).1) hL hP (fa_c hb942 fa_n) (by simp only [List.map_cons, List.map_nil, hw.1]; decide)
  refine b_put (D := D) (ci := 9) (v := .int 0) (ty := .int) (C := RX9) (T := TX9) (N := 18) hx hb hts iX9_errorOffset_9 tyX9 tyX9_ok nmX9 hown hN hB 0 rfl rfl 0 (by decide) (hts _ mX9_errorOffset_1) (fun _ h9 => h9) rfl (by decide +kernel) rfl rfl (Nat.le_of_ble_eq_true rfl) (.inl rfl) dX9_errorOffset_2 (fun H locs hB => ?_)
  have hB : Bx B0 D _ [(w, .inr (9, [.int 0, .ref f942_1, .int (nI ((κ w).2.2.1)), .int (nI f942_3), .int (nI f942_4), .int f942_5, .int f942_6, .int f942_7, .ref (κ w).2.2.2, .ref f942_9, .ref f942_10, .ref f942_11, .int (nI f942_12), .int f942_13, .int f942_14, .int f942_15, .int f942_16, .ref f942_17]))] [w] _ _ := hB
  refine lv_aload_n hx hb dX9_errorOffset_5 rfl (lv_at hl 0 rfl) ?_
  refine va_get (D := D) (ci := 9) (v := .int f942_7) (C := RX9) (T := TX9) (N := 18) hx hb hts iX9_errorOffset_9 hown hN.1 hB.1 0 rfl rfl 7 (by decide) (hts _ mX9_errorOffset_2) (fun _ h9 => h9) rfl dX9_errorOffset_6 ?_
  have hT : WT B0 D cs T κ _ := hT.close hB ⟨⟨0, _, rfl, ok_10 hw.1 ⟨_, _, _, _, _, _, _, _, _, _, _, _, _, _, _, _, rfl, (by omega), (by omega), (by omega), (by omega), t942_1, t942_8, t942_9, c942_sd, t942_10, t942_11, t942_17⟩⟩, trivial⟩
  have hF : Fr B0 [12] κ H0 _ := hF.close hB (fa_c (by simp [hw.2]) fa_n)
  have hL : OkL B0 _ := hB.2.2.2.2.2
  have hP : va_P D vwCl [(w, .inr (9, [.int 0, .ref f942_1, .int (nI ((κ w).2.2.1)), .int (nI f942_3), .int (nI f942_4), .int f942_5, .int f942_6, .int f942_7, .ref (κ w).2.2.2, .ref f942_9, .ref f942_10, .ref f942_11, .int (nI f942_12), .int f942_13, .int f942_14, .int f942_15, .int f942_16, .ref f942_17]))] _ := hB.1
  exact en_i hx hb hr hlocks hL rfl (Nat.zero_le _) (Nat.zero_le _) dX9_errorOffset_9 (⟨hT, hF⟩)
theorem mX9_spread_1 : (.fieldLink RX9 40 "OneBeatModel" "thrown" "I" : Cond) ∈ wsX9_spread := List.mem_of_getElem? (i := 1) (by decide +kernel)
theorem iX9_spread_9 : ∀ w ∈ wsX90, w ∈ wsX9_spread := fun w h => List.mem_of_mem_drop (List.mem_of_mem_take ((show wsX90 = (wsX9_spread.drop 8).take 18 by decide +kernel) ▸ h))
theorem hdX9_spreadNow_v : yX9_spreadNow.cls = RX9 ∧ yX9_spreadNow.cls ≠ "java/lang/invoke/MethodHandle" ∧ yX9_spreadNow.cls ≠ "java/lang/invoke/VarHandle" ∧ (parseMethodDescriptor yX9_spreadNow.desc).map (fun d => d.parameters.length) = some 0 := by decide +kernel
set_option maxHeartbeats 4000000 in
set_option maxRecDepth 100000 in
theorem c_X9_spread {l : Launch} {D : va_G} {cs : Nat → ClassId} {B0 T : Nat} {κ : KM} {H0 : Heap} (hT : WT B0 D cs T κ H0) {w : Nat} (hw : T2 κ w 10 12) : KC l yX9_spread wsX9_spread 1 20 0 0 D cs B0 H0 [.ref w] (Qi (fun _ H => WT B0 D cs T κ H ∧ Fr B0 [12] κ H0 H)) := by
  refine KC.of cX9_spread 1 (some .int) (by decide) rfl (Nat.le_of_ble_eq_true rfl) ?_
  intro p e s m below meth c ls hx hb hr hml hown hts hlocks hin hN hE hH0 hl
  have hown : s.vm.findClass RX9 = some m.cls := hown
  have hl : lv_has ls 1 [(0, .ref w)] := hl
  have hL : OkL B0 [] := OkL.nil
  have hF : Fr B0 [12] κ H0 H0 := Fr.rf
  refine lv_aload_n hx hb dX9_spread_0 rfl (lv_at hl 0 rfl) ?_
  refine lv_iconst (v := 0) hx hb dX9_spread_1 (by decide) ?_
  obtain ⟨hb943, e943, hat943, hk943⟩ := hT.o10 hw.1
  obtain ⟨f943_0, f943_1, f943_3, f943_4, f943_5, f943_6, f943_7, f943_9, f943_10, f943_11, f943_12, f943_13, f943_14, f943_15, f943_16, f943_17, rfl, c943_2, c943_3, c943_4, c943_12, t943_1, t943_8, t943_9, c943_sd, t943_10, t943_11, t943_17⟩ := hk943
  have hP : va_P D vwCl [(w, .inr (9, [.int f943_0, .ref f943_1, .int (nI ((κ w).2.2.1)), .int (nI f943_3), .int (nI f943_4), .int f943_5, .int f943_6, .int f943_7, .ref (κ w).2.2.2, .ref f943_9, .ref f943_10, .ref f943_11, .int (nI f943_12), .int f943_13, .int f943_14, .int f943_15, .int f943_16, .ref f943_17]))] _ := va_P.cons hat943 va_P.nil
  have hB : Bx B0 D _ [(w, .inr (9, [.int f943_0, .ref f943_1, .int (nI ((κ w).2.2.1)), .int (nI f943_3), .int (nI f943_4), .int f943_5, .int f943_6, .int f943_7, .ref (κ w).2.2.2, .ref f943_9, .ref f943_10, .ref f943_11, .int (nI f943_12), .int f943_13, .int f943_14, .int f943_15, .int f943_16, .ref f943_17]))] [] _ _ := Bx.of (fun a => (κ a).1) hL hP (fa_c hb943 fa_n) (by simp only [List.map_cons, List.map_nil, hw.1]; decide)
  refine b_put (D := D) (ci := 9) (v := .int 0) (ty := .int) (C := RX9) (T := TX9) (N := 18) hx hb hts iX9_spread_9 tyX9 tyX9_ok nmX9 hown hN hB 0 rfl rfl 0 (by decide) (hts _ mX9_spread_1) (fun _ h9 => h9) rfl (by decide +kernel) rfl rfl (Nat.le_of_ble_eq_true rfl) (.inl rfl) dX9_spread_2 (fun H locs hB => ?_)
  have hB : Bx B0 D _ [(w, .inr (9, [.int 0, .ref f943_1, .int (nI ((κ w).2.2.1)), .int (nI f943_3), .int (nI f943_4), .int f943_5, .int f943_6, .int f943_7, .ref (κ w).2.2.2, .ref f943_9, .ref f943_10, .ref f943_11, .int (nI f943_12), .int f943_13, .int f943_14, .int f943_15, .int f943_16, .ref f943_17]))] [w] _ _ := hB
  refine lv_aload_n hx hb dX9_spread_5 rfl (lv_at hl 0 rfl) ?_
  have hT : WT B0 D cs T κ _ := hT.close hB ⟨⟨0, _, rfl, ok_10 hw.1 ⟨_, _, _, _, _, _, _, _, _, _, _, _, _, _, _, _, rfl, (by omega), (by omega), (by omega), (by omega), t943_1, t943_8, t943_9, c943_sd, t943_10, t943_11, t943_17⟩⟩, trivial⟩
  have hF : Fr B0 [12] κ H0 _ := hF.close hB (fa_c (by simp [hw.2]) fa_n)
  have hL : OkL B0 _ := hB.2.2.2.2.2
  have hP : va_P D vwCl [(w, .inr (9, [.int 0, .ref f943_1, .int (nI ((κ w).2.2.1)), .int (nI f943_3), .int (nI f943_4), .int f943_5, .int f943_6, .int f943_7, .ref (κ w).2.2.2, .ref f943_9, .ref f943_10, .ref f943_11, .int (nI f943_12), .int f943_13, .int f943_14, .int f943_15, .int f943_16, .ref f943_17]))] _ := hB.1
  refine cv_i (As := []) (rest := []) (b := w) ⟨hx, hb, hml, hown, hts⟩ (c_X9_spreadNow hT (w := w) hw) (cwV 0 hts gX9_spread_X9_spreadNow rfl rfl rfl hdX9_spreadNow_v ⟨Nat.le_of_ble_eq_true rfl, Nat.le_of_ble_eq_true rfl⟩) hN hE hL (rcv10 hN hT hw.1) rfl rfl hl.1 (Nat.le_of_ble_eq_true rfl) dX9_spread_6 (Nat.zero_le _) (Nat.zero_le _) (fun r944 H1 locs hL hqr944 => ?_)
  obtain rfl := hqr944.symm
  exact en_i hx hb hr hlocks hL rfl (Nat.zero_le _) (Nat.zero_le _) dX9_spread_9 (⟨hT, hF⟩)
theorem mX9_expression_1 : (.fieldLink RX9 32 "OneBeatModel" "stack" "[J" : Cond) ∈ wsX9_expression := List.mem_of_getElem? (i := 1) (by decide +kernel)
theorem iX9_expression_9 : ∀ w ∈ wsX90, w ∈ wsX9_expression := fun w h => List.mem_of_mem_drop (List.mem_of_mem_take ((show wsX90 = (wsX9_expression.drop 34).take 18 by decide +kernel) ▸ h))
theorem mX9_expression_2 : (.fieldLink RX9 18 "OneBeatModel" "data" "[I" : Cond) ∈ wsX9_expression := List.mem_of_getElem? (i := 2) (by decide +kernel)
theorem hdX9_operate_o : yX9_operate.cls ≠ "java/lang/invoke/MethodHandle" ∧ yX9_operate.cls ≠ "java/lang/invoke/VarHandle" ∧ (parseMethodDescriptor yX9_operate.desc).map (fun d => d.parameters.length) = some 3 := by decide +kernel
theorem hdX9_fact_v : yX9_fact.cls = RX9 ∧ yX9_fact.cls ≠ "java/lang/invoke/MethodHandle" ∧ yX9_fact.cls ≠ "java/lang/invoke/VarHandle" ∧ (parseMethodDescriptor yX9_fact.desc).map (fun d => d.parameters.length) = some 2 := by decide +kernel
set_option maxHeartbeats 4000000 in
set_option maxRecDepth 100000 in
theorem c_X9_expression {l : Launch} {D : va_G} {cs : Nat → ClassId} {B0 T : Nat} {κ : KM} {H0 : Heap} (hT : WT B0 D cs T κ H0) {w : Nat} (hw : T2 κ w 10 12) {x : Int32} : KC l yX9_expression wsX9_expression 4 86 0 0 D cs B0 H0 [.ref w, .int x] (Qi (fun _ H => WT B0 D cs T κ H ∧ Fr B0 [19] κ H0 H)) := by
  refine KC.of cX9_expression 5 (some .int) (by decide) rfl (Nat.le_of_ble_eq_true rfl) ?_
  intro p e s m below meth c ls hx hb hr hml hown hts hlocks hin hN hE hH0 hl
  have hown : s.vm.findClass RX9 = some m.cls := hown
  have hl : lv_has ls 5 [(0, .ref w), (1, .int x)] := hl
  have hL : OkL B0 [] := OkL.nil
  have hF : Fr B0 [19] κ H0 H0 := Fr.rf
  refine lv_iconst (v := 0) hx hb dX9_expression_0 (by decide) ?_
  refine lv_istore_n (lv' := [(2, .int 0), (0, .ref w), (1, .int x)]) hx hb dX9_expression_1 rfl hl (by decide) rfl (fun ls hl => ?_)
  refine lv_aload_n hx hb dX9_expression_2 rfl (lv_at hl 1 rfl) ?_
  obtain ⟨hb945, e945, hat945, hk945⟩ := hT.o10 hw.1
  obtain ⟨f945_0, f945_1, f945_3, f945_4, f945_5, f945_6, f945_7, f945_9, f945_10, f945_11, f945_12, f945_13, f945_14, f945_15, f945_16, f945_17, rfl, c945_2, c945_3, c945_4, c945_12, t945_1, t945_8, t945_9, c945_sd, t945_10, t945_11, t945_17⟩ := hk945
  have hP : va_P D vwCl [(w, .inr (9, [.int f945_0, .ref f945_1, .int (nI ((κ w).2.2.1)), .int (nI f945_3), .int (nI f945_4), .int f945_5, .int f945_6, .int f945_7, .ref (κ w).2.2.2, .ref f945_9, .ref f945_10, .ref f945_11, .int (nI f945_12), .int f945_13, .int f945_14, .int f945_15, .int f945_16, .ref f945_17]))] _ := va_P.cons hat945 va_P.nil
  refine va_get (D := D) (ci := 9) (v := .ref f945_17) (C := RX9) (T := TX9) (N := 18) hx hb hts iX9_expression_9 hown hN.1 hP 0 rfl rfl 17 (by decide) (hts _ mX9_expression_1) (fun _ h9 => h9) rfl dX9_expression_3 ?_
  refine lv_iconst (v := 0) hx hb dX9_expression_6 (by decide) ?_
  refine lv_lconst (v := 0) hx hb dX9_expression_7 (by decide) ?_
  obtain ⟨hb946, e946, hat946, hk946⟩ := hT.o28 t945_17.1
  obtain ⟨g946, rfl⟩ := hk946
  have hP : va_P D vwCl [(f945_17, .inl (cs 3, 1200, .inr (.inl g946))), (w, .inr (9, [.int f945_0, .ref f945_1, .int (nI ((κ w).2.2.1)), .int (nI f945_3), .int (nI f945_4), .int f945_5, .int f945_6, .int f945_7, .ref (κ w).2.2.2, .ref f945_9, .ref f945_10, .ref f945_11, .int (nI f945_12), .int f945_13, .int f945_14, .int f945_15, .int f945_16, .ref f945_17]))] _ := va_P.cons hat946 hP
  have hB : Bx B0 D _ [(f945_17, .inl (cs 3, 1200, .inr (.inl g946))), (w, .inr (9, [.int f945_0, .ref f945_1, .int (nI ((κ w).2.2.1)), .int (nI f945_3), .int (nI f945_4), .int f945_5, .int f945_6, .int f945_7, .ref (κ w).2.2.2, .ref f945_9, .ref f945_10, .ref f945_11, .int (nI f945_12), .int f945_13, .int f945_14, .int f945_15, .int f945_16, .ref f945_17]))] [] _ _ := Bx.of (fun a => (κ a).1) hL hP (fa_c hb946 (fa_c hb945 fa_n)) (by simp only [List.map_cons, List.map_nil, t945_17.1, hw.1]; decide)
  refine b_l hx hb hN hB 0 rfl (vp_in_nI (n := 0) (N := 1200) (by omega) (by omega)) (.inl rfl) dX9_expression_8 (fun H locs hB => ?_)
  rw [(show (0 : Int32).toNatClampNeg = 0 from nI_clamp (n := 0) (by omega))] at hB
  have hB : Bx B0 D _ [(f945_17, .inl (cs 3, 1200, .inr (.inl (vp_updL g946 0 0)))), (w, .inr (9, [.int f945_0, .ref f945_1, .int (nI ((κ w).2.2.1)), .int (nI f945_3), .int (nI f945_4), .int f945_5, .int f945_6, .int f945_7, .ref (κ w).2.2.2, .ref f945_9, .ref f945_10, .ref f945_11, .int (nI f945_12), .int f945_13, .int f945_14, .int f945_15, .int f945_16, .ref f945_17]))] [f945_17] _ _ := hB
  generalize (vp_updL g946 0 0) = g947 at hB
  obtain ⟨hb948, e948, hat948, hk948⟩ := hT.o24 t945_8.1
  obtain ⟨g948, rfl, q948⟩ := hk948
  have hB : Bx B0 D _ [(f945_17, .inl (cs 3, 1200, .inr (.inl g947))), (w, .inr (9, [.int f945_0, .ref f945_1, .int (nI ((κ w).2.2.1)), .int (nI f945_3), .int (nI f945_4), .int f945_5, .int f945_6, .int f945_7, .ref (κ w).2.2.2, .ref f945_9, .ref f945_10, .ref f945_11, .int (nI f945_12), .int f945_13, .int f945_14, .int f945_15, .int f945_16, .ref f945_17])), ((κ w).2.2.2, .inl (cs 0, 45783, .inl g948))] [f945_17] _ _ := hB.more hat948 hb948 (fa_c (ne_c t945_17.1 t945_8.1 (by decide))  (fa_c (ne_c hw.1 t945_8.1 (by decide)) fa_n)) (fa_c (ne_c t945_17.1 t945_8.1 (by decide)) fa_n)
  obtain ⟨cn, ch, cg, ce, ht, v0, vn, vv⟩ := q948.2.2.2.2.2.1
  refine lv_iconst (v := 0) hx hb dX9_expression_9 (by decide) ?_
  refine lv_istore_n (lv' := [(3, .int 0), (2, .int 0), (0, .ref w), (1, .int x)]) hx hb dX9_expression_10 rfl hl (by decide) rfl (fun ls hl => ?_)
  have hT : WT B0 D cs T κ _ := hT.close hB ⟨⟨0, _, rfl, ok_28 t945_17.1 ⟨_, rfl⟩⟩, trivial⟩
  have hF : Fr B0 [19] κ H0 _ := hF.close hB (fa_c (by simp [t945_17.2]) fa_n)
  have hL : OkL B0 _ := hB.2.2.2.2.2
  have hP : va_P D vwCl [(f945_17, .inl (cs 3, 1200, .inr (.inl g947))), (w, .inr (9, [.int f945_0, .ref f945_1, .int (nI ((κ w).2.2.1)), .int (nI f945_3), .int (nI f945_4), .int f945_5, .int f945_6, .int f945_7, .ref (κ w).2.2.2, .ref f945_9, .ref f945_10, .ref f945_11, .int (nI f945_12), .int f945_13, .int f945_14, .int f945_15, .int f945_16, .ref f945_17])), ((κ w).2.2.2, .inl (cs 0, 45783, .inl g948))] _ := hB.1
  refine lp_m (α := Nat × Nat) (nL := 5) (fun a9 => cn - a9.1) (fun a9 H9 l9 => (a9.1 ≤ cn) ∧ (ht a9.1 = a9.2 + 1) ∧ (a9.2 ≤ a9.1) ∧ (WT B0 D cs T κ H9) ∧ (Fr B0 [19] κ H0 H9) ∧ (OkL B0 l9) ∧ (va_P D vwCl [(w, .inr (9, [.int f945_0, .ref f945_1, .int (nI ((κ w).2.2.1)), .int (nI f945_3), .int (nI f945_4), .int f945_5, .int f945_6, .int f945_7, .ref (κ w).2.2.2, .ref f945_9, .ref f945_10, .ref f945_11, .int (nI f945_12), .int f945_13, .int f945_14, .int f945_15, .int f945_16, .ref f945_17])), ((κ w).2.2.2, .inl (cs 0, 45783, .inl g948))] H9)) (fun a9 => [(3, .int (nI a9.1)), (2, .int (nI a9.2)), (0, .ref w), (1, .int x)]) ?_ (0, 0) _ _ _ ⟨(by show (0) ≤ cn; omega), (by show ht (0) = (0) + 1; omega), (by show (0) ≤ (0); omega), hT, hF, hL, (hP.sub [1, 2] rfl)⟩ (lv_sub hl [0, 1, 2, 3] rfl)
  rintro ⟨i, t⟩ H locs ls ih949 ⟨hi, hv, hti, hT, hF, hL, hP⟩ hl
  have hl : lv_has ls 5 [(3, .int (nI i)), (2, .int (nI t)), (0, .ref w), (1, .int x)] := hl
  have hi : i ≤ cn := hi
  have hv : ht i = t + 1 := hv
  have hti : t ≤ i := hti
  refine lv_iload_n hx hb dX9_expression_11 rfl (lv_at hl 0 rfl) ?_
  refine lv_aload_n hx hb dX9_expression_12 rfl (lv_at hl 2 rfl) ?_
  refine va_get (D := D) (ci := 9) (v := .ref (κ w).2.2.2) (C := RX9) (T := TX9) (N := 18) hx hb hts iX9_expression_9 hown hN.1 hP 0 rfl rfl 8 (by decide) (hts _ mX9_expression_2) (fun _ h9 => h9) rfl dX9_expression_13 ?_
  refine lv_bipush (v := 14) hx hb dX9_expression_16 (by decide) ?_
  refine ld_i (v := (g948 14)) hx hb hN hP 1 rfl (vp_in_nI (n := 14) (N := 45783) (by omega) (by omega)) (by rw [(show (14 : Int32).toNatClampNeg = 14 from nI_clamp (n := 14) (by omega))]) dX9_expression_18 ?_
  refine tp_i (nI cn) ce ?_
  refine lv_icmp_ge (tgt := 126) hx hb dX9_expression_19 (by decide) (fun c950 => ?_) (fun c950 => ?_)
  · have c950 : cn ≤ i := (nI_leI (a := cn) (b := i) (by omega) (by omega)).mp c950
    refine lv_aload_n hx hb dX9_expression_126 rfl (lv_at hl 2 rfl) ?_
    refine va_get (D := D) (ci := 9) (v := .ref f945_17) (C := RX9) (T := TX9) (N := 18) hx hb hts iX9_expression_9 hown hN.1 hP 0 rfl rfl 17 (by decide) (hts _ mX9_expression_1) (fun _ h9 => h9) rfl dX9_expression_127 ?_
    refine lv_iconst (v := 0) hx hb dX9_expression_130 (by decide) ?_
    obtain ⟨hb951, e951, hat951, hk951⟩ := hT.o28 t945_17.1
    obtain ⟨g951, rfl⟩ := hk951
    have hP : va_P D vwCl [(f945_17, .inl (cs 3, 1200, .inr (.inl g951))), (w, .inr (9, [.int f945_0, .ref f945_1, .int (nI ((κ w).2.2.1)), .int (nI f945_3), .int (nI f945_4), .int f945_5, .int f945_6, .int f945_7, .ref (κ w).2.2.2, .ref f945_9, .ref f945_10, .ref f945_11, .int (nI f945_12), .int f945_13, .int f945_14, .int f945_15, .int f945_16, .ref f945_17])), ((κ w).2.2.2, .inl (cs 0, 45783, .inl g948))] _ := va_P.cons hat951 hP
    refine ld_l (v := (g951 0)) hx hb hN hP 0 rfl (vp_in_nI (n := 0) (N := 1200) (by omega) (by omega)) (by rw [(show (0 : Int32).toNatClampNeg = 0 from nI_clamp (n := 0) (by omega))]) dX9_expression_131 ?_
    refine gn_l (fun y952 => ?_)
    refine lv_l2i hx hb dX9_expression_132 rfl ?_
    refine gn_i (fun x953 => ?_)
    exact en_i hx hb hr hlocks hL rfl (Nat.zero_le _) (Nat.zero_le _) dX9_expression_133 (⟨hT, hF⟩)
  · have c950 : ¬ cn ≤ i := fun h9 => c950 ((nI_leI (a := cn) (b := i) (by omega) (by omega)).mpr h9)
    refine lv_aload_n hx hb dX9_expression_22 rfl (lv_at hl 2 rfl) ?_
    refine va_get (D := D) (ci := 9) (v := .ref (κ w).2.2.2) (C := RX9) (T := TX9) (N := 18) hx hb hts iX9_expression_9 hown hN.1 hP 0 rfl rfl 8 (by decide) (hts _ mX9_expression_2) (fun _ h9 => h9) rfl dX9_expression_23 ?_
    refine lv_sipush (v := 183) hx hb dX9_expression_26 (by decide) ?_
    refine lv_iload_n hx hb dX9_expression_29 rfl (lv_at hl 0 rfl) ?_
    refine lv_iadd hx hb dX9_expression_30 ?_
    refine tp_i (nI (183 + i)) (nI_add 183 i) ?_
    refine ld_i (v := (g948 (183 + i))) hx hb hN hP 1 rfl (vp_in_nI (n := (183 + i)) (N := 45783) (by omega) (by omega)) (by rw [(show ((nI (183 + i)) : Int32).toNatClampNeg = (183 + i) from nI_clamp (n := (183 + i)) (by omega))]) dX9_expression_31 ?_
    refine lv_istore (lv' := [(4, .int (g948 (183 + i))), (3, .int (nI i)), (2, .int (nI t)), (0, .ref w), (1, .int x)]) hx hb dX9_expression_32 hl (by decide) rfl (fun ls hl => ?_)
    refine lv_iload hx hb dX9_expression_34 (lv_at hl 0 rfl) ?_
    refine lv_iconst (v := 1) hx hb dX9_expression_36 (by decide) ?_
    refine lv_icmp_gt (tgt := 90) hx hb dX9_expression_37 (by decide) (fun c954 => ?_) (fun c954 => ?_)
    · have x9 := (vv i (by omega) (by omega)).2 (Int32.not_le.mpr c954)
      refine lv_iinc (v := (nI (t - 1))) (lv' := [(2, .int (nI (t - 1))), (4, .int (g948 (183 + i))), (3, .int (nI i)), (0, .ref w), (1, .int x)]) hx hb dX9_expression_90 hl (k := 2) rfl (nI_dec1 (by omega)) (by decide) rfl (fun ls hl => ?_)
      refine lv_aload_n hx hb dX9_expression_93 rfl (lv_at hl 3 rfl) ?_
      refine va_get (D := D) (ci := 9) (v := .ref f945_17) (C := RX9) (T := TX9) (N := 18) hx hb hts iX9_expression_9 hown hN.1 hP 0 rfl rfl 17 (by decide) (hts _ mX9_expression_1) (fun _ h9 => h9) rfl dX9_expression_94 ?_
      refine lv_iload_n hx hb dX9_expression_97 rfl (lv_at hl 0 rfl) ?_
      refine lv_iconst (v := 1) hx hb dX9_expression_98 (by decide) ?_
      refine lv_isub hx hb dX9_expression_99 ?_
      refine tp_i (nI ((t - 1) - 1)) (nI_subN (a := (t - 1)) (b := 1) (by omega)) ?_
      refine lv_iload hx hb dX9_expression_100 (lv_at hl 1 rfl) ?_
      refine lv_aload_n hx hb dX9_expression_102 rfl (lv_at hl 3 rfl) ?_
      refine va_get (D := D) (ci := 9) (v := .ref f945_17) (C := RX9) (T := TX9) (N := 18) hx hb hts iX9_expression_9 hown hN.1 hP 0 rfl rfl 17 (by decide) (hts _ mX9_expression_1) (fun _ h9 => h9) rfl dX9_expression_103 ?_
      refine lv_iload_n hx hb dX9_expression_106 rfl (lv_at hl 0 rfl) ?_
      refine lv_iconst (v := 1) hx hb dX9_expression_107 (by decide) ?_
      refine lv_isub hx hb dX9_expression_108 ?_
      refine tp_i (nI ((t - 1) - 1)) (nI_subN (a := (t - 1)) (b := 1) (by omega)) ?_
      obtain ⟨hb955, e955, hat955, hk955⟩ := hT.o28 t945_17.1
      obtain ⟨g955, rfl⟩ := hk955
      have hP : va_P D vwCl [(f945_17, .inl (cs 3, 1200, .inr (.inl g955))), (w, .inr (9, [.int f945_0, .ref f945_1, .int (nI ((κ w).2.2.1)), .int (nI f945_3), .int (nI f945_4), .int f945_5, .int f945_6, .int f945_7, .ref (κ w).2.2.2, .ref f945_9, .ref f945_10, .ref f945_11, .int (nI f945_12), .int f945_13, .int f945_14, .int f945_15, .int f945_16, .ref f945_17])), ((κ w).2.2.2, .inl (cs 0, 45783, .inl g948))] _ := va_P.cons hat955 hP
      refine ld_l (v := (g955 ((t - 1) - 1))) hx hb hN hP 0 rfl (vp_in_nI (n := ((t - 1) - 1)) (N := 1200) (by omega) (by omega)) (by rw [(show ((nI ((t - 1) - 1)) : Int32).toNatClampNeg = ((t - 1) - 1) from nI_clamp (n := ((t - 1) - 1)) (by omega))]) dX9_expression_109 ?_
      refine gn_l (fun y956 => ?_)
      refine lv_aload_n hx hb dX9_expression_110 rfl (lv_at hl 3 rfl) ?_
      refine va_get (D := D) (ci := 9) (v := .ref f945_17) (C := RX9) (T := TX9) (N := 18) hx hb hts iX9_expression_9 hown hN.1 hP 1 rfl rfl 17 (by decide) (hts _ mX9_expression_1) (fun _ h9 => h9) rfl dX9_expression_111 ?_
      refine lv_iload_n hx hb dX9_expression_114 rfl (lv_at hl 0 rfl) ?_
      refine ld_l (v := (g955 (t - 1))) hx hb hN hP 0 rfl (vp_in_nI (n := (t - 1)) (N := 1200) (by omega) (by omega)) (by rw [(show ((nI (t - 1)) : Int32).toNatClampNeg = (t - 1) from nI_clamp (n := (t - 1)) (by omega))]) dX9_expression_115 ?_
      refine gn_l (fun y957 => ?_)
      refine cs_l (As := [.int (g948 (183 + i)), .long y956, .long y957]) (rest := [.int (nI ((t - 1) - 1)), .ref f945_17]) ⟨hx, hb, hml, hown, hts⟩ (c_X9_operate hT (x := (g948 (183 + i))) (l_x := y956) (l_y := y957)) (va_cwS 3 hts gX9_expression_X9_operate rfl rfl rfl hdX9_operate_o ⟨Nat.le_of_ble_eq_true rfl, Nat.le_of_ble_eq_true rfl⟩) hN hE hL rfl rfl hl.1 (Nat.le_of_ble_eq_true rfl) dX9_expression_116 (Nat.zero_le _) (Nat.zero_le _) (fun r958 H1 locs hL hqr958 => ?_)
      obtain rfl := hqr958.symm
      have hB : Bx B0 D _ [(f945_17, .inl (cs 3, 1200, .inr (.inl g955))), (w, .inr (9, [.int f945_0, .ref f945_1, .int (nI ((κ w).2.2.1)), .int (nI f945_3), .int (nI f945_4), .int f945_5, .int f945_6, .int f945_7, .ref (κ w).2.2.2, .ref f945_9, .ref f945_10, .ref f945_11, .int (nI f945_12), .int f945_13, .int f945_14, .int f945_15, .int f945_16, .ref f945_17])), ((κ w).2.2.2, .inl (cs 0, 45783, .inl g948))] [] _ _ := Bx.of (fun a => (κ a).1) hL hP (fa_c hb955 (fa_c hb945 (fa_c hb948 fa_n))) (by simp only [List.map_cons, List.map_nil, t945_17.1, hw.1, t945_8.1]; decide)
      refine b_l hx hb hN hB 0 rfl (vp_in_nI (n := ((t - 1) - 1)) (N := 1200) (by omega) (by omega)) (.inl rfl) dX9_expression_119 (fun H locs hB => ?_)
      rw [(show ((nI ((t - 1) - 1)) : Int32).toNatClampNeg = ((t - 1) - 1) from nI_clamp (n := ((t - 1) - 1)) (by omega))] at hB
      have hB : Bx B0 D _ [(f945_17, .inl (cs 3, 1200, .inr (.inl (vp_updL g955 ((t - 1) - 1) r958)))), (w, .inr (9, [.int f945_0, .ref f945_1, .int (nI ((κ w).2.2.1)), .int (nI f945_3), .int (nI f945_4), .int f945_5, .int f945_6, .int f945_7, .ref (κ w).2.2.2, .ref f945_9, .ref f945_10, .ref f945_11, .int (nI f945_12), .int f945_13, .int f945_14, .int f945_15, .int f945_16, .ref f945_17])), ((κ w).2.2.2, .inl (cs 0, 45783, .inl g948))] [f945_17] _ _ := hB
      generalize (vp_updL g955 ((t - 1) - 1) r958) = g959 at hB
      refine lv_iinc (v := (nI (i + 1))) (lv' := [(3, .int (nI (i + 1))), (2, .int (nI (t - 1))), (4, .int (g948 (183 + i))), (0, .ref w), (1, .int x)]) hx hb dX9_expression_120 hl (k := 2) rfl (nI_add _ 1) (by decide) rfl (fun ls hl => ?_)
      refine lv_goto (tgt := 11) hx hb dX9_expression_123 (by decide) ?_
      have hT : WT B0 D cs T κ _ := hT.close hB ⟨⟨0, _, rfl, ok_28 t945_17.1 ⟨_, rfl⟩⟩, trivial⟩
      have hF : Fr B0 [19] κ H0 _ := hF.close hB (fa_c (by simp [t945_17.2]) fa_n)
      have hL : OkL B0 _ := hB.2.2.2.2.2
      have hP : va_P D vwCl [(f945_17, .inl (cs 3, 1200, .inr (.inl g959))), (w, .inr (9, [.int f945_0, .ref f945_1, .int (nI ((κ w).2.2.1)), .int (nI f945_3), .int (nI f945_4), .int f945_5, .int f945_6, .int f945_7, .ref (κ w).2.2.2, .ref f945_9, .ref f945_10, .ref f945_11, .int (nI f945_12), .int f945_13, .int f945_14, .int f945_15, .int f945_16, .ref f945_17])), ((κ w).2.2.2, .inl (cs 0, 45783, .inl g948))] _ := hB.1
      exact ih949 ((i + 1), (t - 1)) _ _ _ (by show cn - ((i + 1)) < cn - i; omega) ⟨(by show ((i + 1)) ≤ cn; omega), (by show ht ((i + 1)) = ((t - 1)) + 1; omega), (by show ((t - 1)) ≤ ((i + 1)); omega), hT, hF, hL, (hP.sub [1, 2] rfl)⟩ (lv_sub hl [0, 1, 3, 4] rfl)
    · have x9 : i + 2 ≤ cn ∧ ht (i + 1 + 1) = ht i + 1 := (vv i (by omega) (by omega)).1 (Int32.not_lt.mp c954)
      refine lv_iinc (v := (nI (i + 1))) (lv' := [(3, .int (nI (i + 1))), (4, .int (g948 (183 + i))), (2, .int (nI t)), (0, .ref w), (1, .int x)]) hx hb dX9_expression_40 hl (k := 1) rfl (nI_add _ 1) (by decide) rfl (fun ls hl => ?_)
      refine lv_aload_n hx hb dX9_expression_43 rfl (lv_at hl 3 rfl) ?_
      refine va_get (D := D) (ci := 9) (v := .ref f945_17) (C := RX9) (T := TX9) (N := 18) hx hb hts iX9_expression_9 hown hN.1 hP 0 rfl rfl 17 (by decide) (hts _ mX9_expression_1) (fun _ h9 => h9) rfl dX9_expression_44 ?_
      refine lv_iload_n hx hb dX9_expression_47 rfl (lv_at hl 2 rfl) ?_
      refine lv_iload hx hb dX9_expression_48 (lv_at hl 1 rfl) ?_
      refine lv_if_ne (tgt := 67) hx hb dX9_expression_50 (by decide) (fun c960 => ?_) (fun c960 => ?_)
      · refine lv_aload_n hx hb dX9_expression_67 rfl (lv_at hl 3 rfl) ?_
        refine lv_aload_n hx hb dX9_expression_68 rfl (lv_at hl 3 rfl) ?_
        refine va_get (D := D) (ci := 9) (v := .ref (κ w).2.2.2) (C := RX9) (T := TX9) (N := 18) hx hb hts iX9_expression_9 hown hN.1 hP 0 rfl rfl 8 (by decide) (hts _ mX9_expression_2) (fun _ h9 => h9) rfl dX9_expression_69 ?_
        refine lv_sipush (v := 183) hx hb dX9_expression_72 (by decide) ?_
        refine lv_iload_n hx hb dX9_expression_75 rfl (lv_at hl 0 rfl) ?_
        refine lv_iadd hx hb dX9_expression_76 ?_
        refine tp_i (nI (183 + (i + 1))) (nI_add 183 (i + 1)) ?_
        refine ld_i (v := (g948 (183 + (i + 1)))) hx hb hN hP 1 rfl (vp_in_nI (n := (183 + (i + 1))) (N := 45783) (by omega) (by omega)) (by rw [(show ((nI (183 + (i + 1))) : Int32).toNatClampNeg = (183 + (i + 1)) from nI_clamp (n := (183 + (i + 1))) (by omega))]) dX9_expression_77 ?_
        refine gn_i (fun x961 => ?_)
        refine lv_iload_n hx hb dX9_expression_78 rfl (lv_at hl 4 rfl) ?_
        refine cv_i (As := [.int x961, .int x]) (rest := [.int (nI t), .ref f945_17]) (b := w) ⟨hx, hb, hml, hown, hts⟩ (c_X9_fact hT (w := w) hw (x := x961) (y := x)) (cwV 2 hts gX9_expression_X9_fact rfl rfl rfl hdX9_fact_v ⟨Nat.le_of_ble_eq_true rfl, Nat.le_of_ble_eq_true rfl⟩) hN hE hL (rcv10 hN hT hw.1) rfl rfl hl.1 (Nat.le_of_ble_eq_true rfl) dX9_expression_79 (Nat.zero_le _) (Nat.zero_le _) (fun r962 H1 locs hL hqr962 => ?_)
        obtain rfl := hqr962.symm
        refine lv_i2l hx hb dX9_expression_82 rfl ?_
        refine gn_l (fun y963 => ?_)
        obtain ⟨hb964, e964, hat964, hk964⟩ := hT.o28 t945_17.1
        obtain ⟨g964, rfl⟩ := hk964
        have hP : va_P D vwCl [(f945_17, .inl (cs 3, 1200, .inr (.inl g964))), (w, .inr (9, [.int f945_0, .ref f945_1, .int (nI ((κ w).2.2.1)), .int (nI f945_3), .int (nI f945_4), .int f945_5, .int f945_6, .int f945_7, .ref (κ w).2.2.2, .ref f945_9, .ref f945_10, .ref f945_11, .int (nI f945_12), .int f945_13, .int f945_14, .int f945_15, .int f945_16, .ref f945_17])), ((κ w).2.2.2, .inl (cs 0, 45783, .inl g948))] _ := va_P.cons hat964 hP
        have hB : Bx B0 D _ [(f945_17, .inl (cs 3, 1200, .inr (.inl g964))), (w, .inr (9, [.int f945_0, .ref f945_1, .int (nI ((κ w).2.2.1)), .int (nI f945_3), .int (nI f945_4), .int f945_5, .int f945_6, .int f945_7, .ref (κ w).2.2.2, .ref f945_9, .ref f945_10, .ref f945_11, .int (nI f945_12), .int f945_13, .int f945_14, .int f945_15, .int f945_16, .ref f945_17])), ((κ w).2.2.2, .inl (cs 0, 45783, .inl g948))] [] _ _ := Bx.of (fun a => (κ a).1) hL hP (fa_c hb964 (fa_c hb945 (fa_c hb948 fa_n))) (by simp only [List.map_cons, List.map_nil, t945_17.1, hw.1, t945_8.1]; decide)
        refine b_l hx hb hN hB 0 rfl (vp_in_nI (n := t) (N := 1200) (by omega) (by omega)) (.inl rfl) dX9_expression_83 (fun H locs hB => ?_)
        rw [(show ((nI t) : Int32).toNatClampNeg = t from nI_clamp (n := t) (by omega))] at hB
        have hB : Bx B0 D _ [(f945_17, .inl (cs 3, 1200, .inr (.inl (vp_updL g964 t y963)))), (w, .inr (9, [.int f945_0, .ref f945_1, .int (nI ((κ w).2.2.1)), .int (nI f945_3), .int (nI f945_4), .int f945_5, .int f945_6, .int f945_7, .ref (κ w).2.2.2, .ref f945_9, .ref f945_10, .ref f945_11, .int (nI f945_12), .int f945_13, .int f945_14, .int f945_15, .int f945_16, .ref f945_17])), ((κ w).2.2.2, .inl (cs 0, 45783, .inl g948))] [f945_17] _ _ := hB
        generalize (vp_updL g964 t y963) = g965 at hB
        refine lv_iinc (v := (nI (t + 1))) (lv' := [(2, .int (nI (t + 1))), (3, .int (nI (i + 1))), (4, .int (g948 (183 + i))), (0, .ref w), (1, .int x)]) hx hb dX9_expression_84 hl (k := 2) rfl (nI_add _ 1) (by decide) rfl (fun ls hl => ?_)
        refine lv_goto (tgt := 120) hx hb dX9_expression_87 (by decide) ?_
        refine lv_iinc (v := (nI ((i + 1) + 1))) (lv' := [(3, .int (nI ((i + 1) + 1))), (2, .int (nI (t + 1))), (4, .int (g948 (183 + i))), (0, .ref w), (1, .int x)]) hx hb dX9_expression_120 hl (k := 1) rfl (nI_add _ 1) (by decide) rfl (fun ls hl => ?_)
        refine lv_goto (tgt := 11) hx hb dX9_expression_123 (by decide) ?_
        have hT : WT B0 D cs T κ _ := hT.close hB ⟨⟨0, _, rfl, ok_28 t945_17.1 ⟨_, rfl⟩⟩, trivial⟩
        have hF : Fr B0 [19] κ H0 _ := hF.close hB (fa_c (by simp [t945_17.2]) fa_n)
        have hL : OkL B0 _ := hB.2.2.2.2.2
        have hP : va_P D vwCl [(f945_17, .inl (cs 3, 1200, .inr (.inl g965))), (w, .inr (9, [.int f945_0, .ref f945_1, .int (nI ((κ w).2.2.1)), .int (nI f945_3), .int (nI f945_4), .int f945_5, .int f945_6, .int f945_7, .ref (κ w).2.2.2, .ref f945_9, .ref f945_10, .ref f945_11, .int (nI f945_12), .int f945_13, .int f945_14, .int f945_15, .int f945_16, .ref f945_17])), ((κ w).2.2.2, .inl (cs 0, 45783, .inl g948))] _ := hB.1
        exact ih949 (((i + 1) + 1), (t + 1)) _ _ _ (by show cn - (((i + 1) + 1)) < cn - i; omega) ⟨(by show (((i + 1) + 1)) ≤ cn; omega), (by show ht (((i + 1) + 1)) = ((t + 1)) + 1; omega), (by show ((t + 1)) ≤ (((i + 1) + 1)); omega), hT, hF, hL, (hP.sub [1, 2] rfl)⟩ (lv_sub hl [0, 1, 3, 4] rfl)
      · refine lv_aload_n hx hb dX9_expression_53 rfl (lv_at hl 3 rfl) ?_
        refine va_get (D := D) (ci := 9) (v := .ref (κ w).2.2.2) (C := RX9) (T := TX9) (N := 18) hx hb hts iX9_expression_9 hown hN.1 hP 0 rfl rfl 8 (by decide) (hts _ mX9_expression_2) (fun _ h9 => h9) rfl dX9_expression_54 ?_
        refine lv_sipush (v := 183) hx hb dX9_expression_57 (by decide) ?_
        refine lv_iload_n hx hb dX9_expression_60 rfl (lv_at hl 0 rfl) ?_
        refine lv_iadd hx hb dX9_expression_61 ?_
        refine tp_i (nI (183 + (i + 1))) (nI_add 183 (i + 1)) ?_
        refine ld_i (v := (g948 (183 + (i + 1)))) hx hb hN hP 1 rfl (vp_in_nI (n := (183 + (i + 1))) (N := 45783) (by omega) (by omega)) (by rw [(show ((nI (183 + (i + 1))) : Int32).toNatClampNeg = (183 + (i + 1)) from nI_clamp (n := (183 + (i + 1))) (by omega))]) dX9_expression_62 ?_
        refine gn_i (fun x966 => ?_)
        refine lv_i2l hx hb dX9_expression_63 rfl ?_
        refine gn_l (fun y967 => ?_)
        refine lv_goto (tgt := 83) hx hb dX9_expression_64 (by decide) ?_
        obtain ⟨hb968, e968, hat968, hk968⟩ := hT.o28 t945_17.1
        obtain ⟨g968, rfl⟩ := hk968
        have hP : va_P D vwCl [(f945_17, .inl (cs 3, 1200, .inr (.inl g968))), (w, .inr (9, [.int f945_0, .ref f945_1, .int (nI ((κ w).2.2.1)), .int (nI f945_3), .int (nI f945_4), .int f945_5, .int f945_6, .int f945_7, .ref (κ w).2.2.2, .ref f945_9, .ref f945_10, .ref f945_11, .int (nI f945_12), .int f945_13, .int f945_14, .int f945_15, .int f945_16, .ref f945_17])), ((κ w).2.2.2, .inl (cs 0, 45783, .inl g948))] _ := va_P.cons hat968 hP
        have hB : Bx B0 D _ [(f945_17, .inl (cs 3, 1200, .inr (.inl g968))), (w, .inr (9, [.int f945_0, .ref f945_1, .int (nI ((κ w).2.2.1)), .int (nI f945_3), .int (nI f945_4), .int f945_5, .int f945_6, .int f945_7, .ref (κ w).2.2.2, .ref f945_9, .ref f945_10, .ref f945_11, .int (nI f945_12), .int f945_13, .int f945_14, .int f945_15, .int f945_16, .ref f945_17])), ((κ w).2.2.2, .inl (cs 0, 45783, .inl g948))] [] _ _ := Bx.of (fun a => (κ a).1) hL hP (fa_c hb968 (fa_c hb945 (fa_c hb948 fa_n))) (by simp only [List.map_cons, List.map_nil, t945_17.1, hw.1, t945_8.1]; decide)
        refine b_l hx hb hN hB 0 rfl (vp_in_nI (n := t) (N := 1200) (by omega) (by omega)) (.inl rfl) dX9_expression_83 (fun H locs hB => ?_)
        rw [(show ((nI t) : Int32).toNatClampNeg = t from nI_clamp (n := t) (by omega))] at hB
        have hB : Bx B0 D _ [(f945_17, .inl (cs 3, 1200, .inr (.inl (vp_updL g968 t y967)))), (w, .inr (9, [.int f945_0, .ref f945_1, .int (nI ((κ w).2.2.1)), .int (nI f945_3), .int (nI f945_4), .int f945_5, .int f945_6, .int f945_7, .ref (κ w).2.2.2, .ref f945_9, .ref f945_10, .ref f945_11, .int (nI f945_12), .int f945_13, .int f945_14, .int f945_15, .int f945_16, .ref f945_17])), ((κ w).2.2.2, .inl (cs 0, 45783, .inl g948))] [f945_17] _ _ := hB
        generalize (vp_updL g968 t y967) = g969 at hB
        refine lv_iinc (v := (nI (t + 1))) (lv' := [(2, .int (nI (t + 1))), (3, .int (nI (i + 1))), (4, .int (g948 (183 + i))), (0, .ref w), (1, .int x)]) hx hb dX9_expression_84 hl (k := 2) rfl (nI_add _ 1) (by decide) rfl (fun ls hl => ?_)
        refine lv_goto (tgt := 120) hx hb dX9_expression_87 (by decide) ?_
        refine lv_iinc (v := (nI ((i + 1) + 1))) (lv' := [(3, .int (nI ((i + 1) + 1))), (2, .int (nI (t + 1))), (4, .int (g948 (183 + i))), (0, .ref w), (1, .int x)]) hx hb dX9_expression_120 hl (k := 1) rfl (nI_add _ 1) (by decide) rfl (fun ls hl => ?_)
        refine lv_goto (tgt := 11) hx hb dX9_expression_123 (by decide) ?_
        have hT : WT B0 D cs T κ _ := hT.close hB ⟨⟨0, _, rfl, ok_28 t945_17.1 ⟨_, rfl⟩⟩, trivial⟩
        have hF : Fr B0 [19] κ H0 _ := hF.close hB (fa_c (by simp [t945_17.2]) fa_n)
        have hL : OkL B0 _ := hB.2.2.2.2.2
        have hP : va_P D vwCl [(f945_17, .inl (cs 3, 1200, .inr (.inl g969))), (w, .inr (9, [.int f945_0, .ref f945_1, .int (nI ((κ w).2.2.1)), .int (nI f945_3), .int (nI f945_4), .int f945_5, .int f945_6, .int f945_7, .ref (κ w).2.2.2, .ref f945_9, .ref f945_10, .ref f945_11, .int (nI f945_12), .int f945_13, .int f945_14, .int f945_15, .int f945_16, .ref f945_17])), ((κ w).2.2.2, .inl (cs 0, 45783, .inl g948))] _ := hB.1
        exact ih949 (((i + 1) + 1), (t + 1)) _ _ _ (by show cn - (((i + 1) + 1)) < cn - i; omega) ⟨(by show (((i + 1) + 1)) ≤ cn; omega), (by show ht (((i + 1) + 1)) = ((t + 1)) + 1; omega), (by show ((t + 1)) ≤ (((i + 1) + 1)); omega), hT, hF, hL, (hP.sub [1, 2] rfl)⟩ (lv_sub hl [0, 1, 3, 4] rfl)
theorem mX9_margin_1 : (.fieldLink RX9 18 "OneBeatModel" "data" "[I" : Cond) ∈ wsX9_margin := List.mem_of_getElem? (i := 1) (by decide +kernel)
theorem iX9_margin_9 : ∀ w ∈ wsX90, w ∈ wsX9_margin := fun w h => List.mem_of_mem_drop (List.mem_of_mem_take ((show wsX90 = (wsX9_margin.drop 41).take 18 by decide +kernel) ▸ h))
theorem hdX9_min_o : yX9_min.cls ≠ "java/lang/invoke/MethodHandle" ∧ yX9_min.cls ≠ "java/lang/invoke/VarHandle" ∧ (parseMethodDescriptor yX9_min.desc).map (fun d => d.parameters.length) = some 2 := by decide +kernel
theorem hdX9_expression_v : yX9_expression.cls = RX9 ∧ yX9_expression.cls ≠ "java/lang/invoke/MethodHandle" ∧ yX9_expression.cls ≠ "java/lang/invoke/VarHandle" ∧ (parseMethodDescriptor yX9_expression.desc).map (fun d => d.parameters.length) = some 1 := by decide +kernel
set_option maxHeartbeats 4000000 in
set_option maxRecDepth 100000 in
theorem c_X9_margin {l : Launch} {D : va_G} {cs : Nat → ClassId} {B0 T : Nat} {κ : KM} {H0 : Heap} (hT : WT B0 D cs T κ H0) {w : Nat} (hw : T2 κ w 10 12) {x : Int32} : KC l yX9_margin wsX9_margin 5 110 0 0 D cs B0 H0 [.ref w, .int x] (Qi (fun _ H => WT B0 D cs T κ H ∧ Fr B0 [19] κ H0 H)) := by
  refine KC.of cX9_margin 2 (some .int) (by decide) rfl (Nat.le_of_ble_eq_true rfl) ?_
  intro p e s m below meth c ls hx hb hr hml hown hts hlocks hin hN hE hH0 hl
  have hown : s.vm.findClass RX9 = some m.cls := hown
  have hl : lv_has ls 2 [(0, .ref w), (1, .int x)] := hl
  have hL : OkL B0 [] := OkL.nil
  have hF : Fr B0 [19] κ H0 H0 := Fr.rf
  refine lv_iconst (v := 1) hx hb dX9_margin_0 (by decide) ?_
  refine lv_sipush (v := 1000) hx hb dX9_margin_1 (by decide) ?_
  refine lv_aload_n hx hb dX9_margin_4 rfl (lv_at hl 0 rfl) ?_
  obtain ⟨hb970, e970, hat970, hk970⟩ := hT.o10 hw.1
  obtain ⟨f970_0, f970_1, f970_3, f970_4, f970_5, f970_6, f970_7, f970_9, f970_10, f970_11, f970_12, f970_13, f970_14, f970_15, f970_16, f970_17, rfl, c970_2, c970_3, c970_4, c970_12, t970_1, t970_8, t970_9, c970_sd, t970_10, t970_11, t970_17⟩ := hk970
  have hP : va_P D vwCl [(w, .inr (9, [.int f970_0, .ref f970_1, .int (nI ((κ w).2.2.1)), .int (nI f970_3), .int (nI f970_4), .int f970_5, .int f970_6, .int f970_7, .ref (κ w).2.2.2, .ref f970_9, .ref f970_10, .ref f970_11, .int (nI f970_12), .int f970_13, .int f970_14, .int f970_15, .int f970_16, .ref f970_17]))] _ := va_P.cons hat970 va_P.nil
  refine va_get (D := D) (ci := 9) (v := .ref (κ w).2.2.2) (C := RX9) (T := TX9) (N := 18) hx hb hts iX9_margin_9 hown hN.1 hP 0 rfl rfl 8 (by decide) (hts _ mX9_margin_1) (fun _ h9 => h9) rfl dX9_margin_5 ?_
  refine lv_bipush (v := 13) hx hb dX9_margin_8 (by decide) ?_
  obtain ⟨hb971, e971, hat971, hk971⟩ := hT.o24 t970_8.1
  obtain ⟨g971, rfl, q971⟩ := hk971
  have hP : va_P D vwCl [((κ w).2.2.2, .inl (cs 0, 45783, .inl g971)), (w, .inr (9, [.int f970_0, .ref f970_1, .int (nI ((κ w).2.2.1)), .int (nI f970_3), .int (nI f970_4), .int f970_5, .int f970_6, .int f970_7, .ref (κ w).2.2.2, .ref f970_9, .ref f970_10, .ref f970_11, .int (nI f970_12), .int f970_13, .int f970_14, .int f970_15, .int f970_16, .ref f970_17]))] _ := va_P.cons hat971 hP
  refine ld_i (v := (g971 13)) hx hb hN hP 0 rfl (vp_in_nI (n := 13) (N := 45783) (by omega) (by omega)) (by rw [(show (13 : Int32).toNatClampNeg = 13 from nI_clamp (n := 13) (by omega))]) dX9_margin_10 ?_
  refine gn_i (fun x972 => ?_)
  refine lv_iconst (v := 1) hx hb dX9_margin_11 (by decide) ?_
  refine lv_icmp_ne (tgt := 23) hx hb dX9_margin_12 (by decide) (fun c973 => ?_) (fun c973 => ?_)
  · refine lv_iconst (v := 2) hx hb dX9_margin_23 (by decide) ?_
    refine lv_aload_n hx hb dX9_margin_24 rfl (lv_at hl 0 rfl) ?_
    refine cv_i (As := []) (rest := [.int 2, .int 1000, .int 1]) (b := w) ⟨hx, hb, hml, hown, hts⟩ (c_X9_longestDelay hT (w := w) hw) (cwV 0 hts gX9_margin_X9_longestDelay rfl rfl rfl hdX9_longestDelay_v ⟨Nat.le_of_ble_eq_true rfl, Nat.le_of_ble_eq_true rfl⟩) hN hE hL (rcv10 hN hT hw.1) rfl rfl hl.1 (Nat.le_of_ble_eq_true rfl) dX9_margin_25 (Nat.zero_le _) (Nat.zero_le _) (fun r974 H1 locs hL hqr974 => ?_)
    obtain rfl := hqr974.symm
    refine lv_imul hx hb dX9_margin_28 ?_
    refine gn_i (fun x975 => ?_)
    refine lv_iconst (v := 1) hx hb dX9_margin_29 (by decide) ?_
    refine lv_iadd hx hb dX9_margin_30 ?_
    refine gn_i (fun x976 => ?_)
    refine cs_i (As := [.int 1000, .int x976]) (rest := [.int 1]) ⟨hx, hb, hml, hown, hts⟩ (c_X9_min hT (x := 1000) (y := x976)) (va_cwS 2 hts gX9_margin_X9_min rfl rfl rfl hdX9_min_o ⟨Nat.le_of_ble_eq_true rfl, Nat.le_of_ble_eq_true rfl⟩) hN hE hL rfl rfl hl.1 (Nat.le_of_ble_eq_true rfl) dX9_margin_31 (Nat.zero_le _) (Nat.zero_le _) (fun r977 H1 locs hL hqr977 => ?_)
    obtain rfl := hqr977.symm
    refine cs_i (As := [.int 1, .int r977]) (rest := []) ⟨hx, hb, hml, hown, hts⟩ (c_X9_max hT (x := 1) (y := r977)) (va_cwS 2 hts gX9_margin_X9_max rfl rfl rfl hdX9_max_o ⟨Nat.le_of_ble_eq_true rfl, Nat.le_of_ble_eq_true rfl⟩) hN hE hL rfl rfl hl.1 (Nat.le_of_ble_eq_true rfl) dX9_margin_34 (Nat.zero_le _) (Nat.zero_le _) (fun r978 H1 locs hL hqr978 => ?_)
    obtain rfl := hqr978.symm
    exact en_i hx hb hr hlocks hL rfl (Nat.zero_le _) (Nat.zero_le _) dX9_margin_37 (⟨hT, hF⟩)
  · refine lv_aload_n hx hb dX9_margin_15 rfl (lv_at hl 0 rfl) ?_
    refine lv_iload_n hx hb dX9_margin_16 rfl (lv_at hl 1 rfl) ?_
    refine cv_i (As := [.int x]) (rest := [.int 1000, .int 1]) (b := w) ⟨hx, hb, hml, hown, hts⟩ (c_X9_expression hT (w := w) hw (x := x)) (cwV 1 hts gX9_margin_X9_expression rfl rfl rfl hdX9_expression_v ⟨Nat.le_of_ble_eq_true rfl, Nat.le_of_ble_eq_true rfl⟩) hN hE hL (rcv10 hN hT hw.1) rfl rfl hl.1 (Nat.le_of_ble_eq_true rfl) dX9_margin_17 (Nat.zero_le _) (Nat.zero_le _) (fun r979 H1 locs hL hqr979 => ?_)
    obtain ⟨hT1, hF1⟩ := hqr979
    have hP : va_P D vwCl [((κ w).2.2.2, .inl (cs 0, 45783, .inl g971)), (w, .inr (9, [.int f970_0, .ref f970_1, .int (nI ((κ w).2.2.1)), .int (nI f970_3), .int (nI f970_4), .int f970_5, .int f970_6, .int f970_7, .ref (κ w).2.2.2, .ref f970_9, .ref f970_10, .ref f970_11, .int (nI f970_12), .int f970_13, .int f970_14, .int f970_15, .int f970_16, .ref f970_17]))] _ := hF1.hP (hP.sub [0, 1] rfl) (fa_c ⟨by rw [t970_8.1]; decide, by rw [t970_8.2]; first | decide | (simp; done) | (simp; omega)⟩ (fa_c ⟨by rw [hw.1]; decide, by rw [hw.2]; first | decide | (simp; done) | (simp; omega)⟩ fa_n))
    have hF := hF.tr (hF1.mono (by simp))
    have hT := hT1
    refine lv_goto (tgt := 31) hx hb dX9_margin_20 (by decide) ?_
    refine cs_i (As := [.int 1000, .int r979]) (rest := [.int 1]) ⟨hx, hb, hml, hown, hts⟩ (c_X9_min hT (x := 1000) (y := r979)) (va_cwS 2 hts gX9_margin_X9_min rfl rfl rfl hdX9_min_o ⟨Nat.le_of_ble_eq_true rfl, Nat.le_of_ble_eq_true rfl⟩) hN hE hL rfl rfl hl.1 (Nat.le_of_ble_eq_true rfl) dX9_margin_31 (Nat.zero_le _) (Nat.zero_le _) (fun r980 H1 locs hL hqr980 => ?_)
    obtain rfl := hqr980.symm
    refine cs_i (As := [.int 1, .int r980]) (rest := []) ⟨hx, hb, hml, hown, hts⟩ (c_X9_max hT (x := 1) (y := r980)) (va_cwS 2 hts gX9_margin_X9_max rfl rfl rfl hdX9_max_o ⟨Nat.le_of_ble_eq_true rfl, Nat.le_of_ble_eq_true rfl⟩) hN hE hL rfl rfl hl.1 (Nat.le_of_ble_eq_true rfl) dX9_margin_34 (Nat.zero_le _) (Nat.zero_le _) (fun r981 H1 locs hL hqr981 => ?_)
    obtain rfl := hqr981.symm
    exact en_i hx hb hr hlocks hL rfl (Nat.zero_le _) (Nat.zero_le _) dX9_margin_37 (⟨hT, hF⟩)
theorem mX9_told_1 : (.fieldLink RX9 18 "OneBeatModel" "data" "[I" : Cond) ∈ wsX9_told := List.mem_of_getElem? (i := 1) (by decide +kernel)
theorem iX9_told_9 : ∀ w ∈ wsX90, w ∈ wsX9_told := fun w h => List.mem_of_mem_drop (List.mem_of_mem_take ((show wsX90 = (wsX9_told.drop 53).take 18 by decide +kernel) ▸ h))
theorem sw_9_12 {x : Int32} (h : ¬ (x.toInt < (9 : Int) ∨ (12 : Int) < x.toInt)) : x = 9 ∨ x = 10 ∨ x = 11 ∨ x = 12 := by
  have h2 : x.toInt = (9 : Int) ∨ x.toInt = (10 : Int) ∨ x.toInt = (11 : Int) ∨ x.toInt = (12 : Int) := by omega
  rcases h2 with h2 | h2 | h2 | h2
  · exact Or.inl (Int32.toInt_inj.mp (h2.trans (by decide)))
  · exact Or.inr (Or.inl (Int32.toInt_inj.mp (h2.trans (by decide))))
  · exact Or.inr (Or.inr (Or.inl (Int32.toInt_inj.mp (h2.trans (by decide)))))
  · exact Or.inr (Or.inr (Or.inr ((Int32.toInt_inj.mp (h2.trans (by decide))))))
theorem hdX9_songs_v : yX9_songs.cls = RX9 ∧ yX9_songs.cls ≠ "java/lang/invoke/MethodHandle" ∧ yX9_songs.cls ≠ "java/lang/invoke/VarHandle" ∧ (parseMethodDescriptor yX9_songs.desc).map (fun d => d.parameters.length) = some 0 := by decide +kernel
theorem hdX9_margin_v : yX9_margin.cls = RX9 ∧ yX9_margin.cls ≠ "java/lang/invoke/MethodHandle" ∧ yX9_margin.cls ≠ "java/lang/invoke/VarHandle" ∧ (parseMethodDescriptor yX9_margin.desc).map (fun d => d.parameters.length) = some 1 := by decide +kernel
set_option maxHeartbeats 4000000 in
set_option maxRecDepth 100000 in
theorem c_X9_told {l : Launch} {D : va_G} {cs : Nat → ClassId} {B0 T : Nat} {κ : KM} {H0 : Heap} (hT : WT B0 D cs T κ H0) {w : Nat} (hw : T2 κ w 10 12) {n : Nat} (qn : n ≤ 12) : KC l yX9_told wsX9_told 6 131 0 0 D cs B0 H0 [.ref w, .int (nI n)] (Qi (fun _ H => WT B0 D cs T κ H ∧ Fr B0 [19] κ H0 H)) := by
  refine KC.of cX9_told 2 (some .int) (by decide) rfl (Nat.le_of_ble_eq_true rfl) ?_
  intro p e s m below meth c ls hx hb hr hml hown hts hlocks hin hN hE hH0 hl
  have hown : s.vm.findClass RX9 = some m.cls := hown
  have hl : lv_has ls 2 [(0, .ref w), (1, .int (nI n))] := hl
  have hL : OkL B0 [] := OkL.nil
  have hF : Fr B0 [19] κ H0 H0 := Fr.rf
  refine lv_iload_n hx hb dX9_told_0 rfl (lv_at hl 1 rfl) ?_
  by_cases c982 : ((nI n) : Int32).toInt < (9 : Int) ∨ (12 : Int) < ((nI n) : Int32).toInt
  · refine lv_tableOut (tgt := 59) hx hb dX9_told_1 c982 (by decide) ?_
    refine lv_aload_n hx hb dX9_told_59 rfl (lv_at hl 0 rfl) ?_
    obtain ⟨hb983, e983, hat983, hk983⟩ := hT.o10 hw.1
    obtain ⟨f983_0, f983_1, f983_3, f983_4, f983_5, f983_6, f983_7, f983_9, f983_10, f983_11, f983_12, f983_13, f983_14, f983_15, f983_16, f983_17, rfl, c983_2, c983_3, c983_4, c983_12, t983_1, t983_8, t983_9, c983_sd, t983_10, t983_11, t983_17⟩ := hk983
    have hP : va_P D vwCl [(w, .inr (9, [.int f983_0, .ref f983_1, .int (nI ((κ w).2.2.1)), .int (nI f983_3), .int (nI f983_4), .int f983_5, .int f983_6, .int f983_7, .ref (κ w).2.2.2, .ref f983_9, .ref f983_10, .ref f983_11, .int (nI f983_12), .int f983_13, .int f983_14, .int f983_15, .int f983_16, .ref f983_17]))] _ := va_P.cons hat983 va_P.nil
    refine va_get (D := D) (ci := 9) (v := .ref (κ w).2.2.2) (C := RX9) (T := TX9) (N := 18) hx hb hts iX9_told_9 hown hN.1 hP 0 rfl rfl 8 (by decide) (hts _ mX9_told_1) (fun _ h9 => h9) rfl dX9_told_60 ?_
    refine lv_iload_n hx hb dX9_told_63 rfl (lv_at hl 1 rfl) ?_
    obtain ⟨hb984, e984, hat984, hk984⟩ := hT.o24 t983_8.1
    obtain ⟨g984, rfl, q984⟩ := hk984
    have hP : va_P D vwCl [((κ w).2.2.2, .inl (cs 0, 45783, .inl g984)), (w, .inr (9, [.int f983_0, .ref f983_1, .int (nI ((κ w).2.2.1)), .int (nI f983_3), .int (nI f983_4), .int f983_5, .int f983_6, .int f983_7, .ref (κ w).2.2.2, .ref f983_9, .ref f983_10, .ref f983_11, .int (nI f983_12), .int f983_13, .int f983_14, .int f983_15, .int f983_16, .ref f983_17]))] _ := va_P.cons hat984 hP
    refine ld_i (v := (g984 n)) hx hb hN hP 0 rfl (vp_in_nI (n := n) (N := 45783) (by omega) (by omega)) (by rw [(show ((nI n) : Int32).toNatClampNeg = n from nI_clamp (n := n) (by omega))]) dX9_told_64 ?_
    refine gn_i (fun x985 => ?_)
    exact en_i hx hb hr hlocks hL rfl (Nat.zero_le _) (Nat.zero_le _) dX9_told_65 (⟨hT, hF⟩)
  · rcases sw_9_12 c982 with e9 | e9 | e9 | e9
    · refine tp_i 9 e9 ?_
      refine lv_tableIn (tgt := 32) (off := 31) hx hb dX9_told_1 (by decide) (by decide) (by decide) (by decide) ?_
      refine lv_aload_n hx hb dX9_told_32 rfl (lv_at hl 0 rfl) ?_
      refine cv_i (As := []) (rest := []) (b := w) ⟨hx, hb, hml, hown, hts⟩ (c_X9_songs hT (w := w) hw) (cwV 0 hts gX9_told_X9_songs rfl rfl rfl hdX9_songs_v ⟨Nat.le_of_ble_eq_true rfl, Nat.le_of_ble_eq_true rfl⟩) hN hE hL (rcv10 hN hT hw.1) rfl rfl hl.1 (Nat.le_of_ble_eq_true rfl) dX9_told_33 (Nat.zero_le _) (Nat.zero_le _) (fun r986 H1 locs hL hqr986 => ?_)
      obtain rfl := hqr986.symm
      exact en_i hx hb hr hlocks hL rfl (Nat.zero_le _) (Nat.zero_le _) dX9_told_36 (⟨hT, hF⟩)
    · refine tp_i 10 e9 ?_
      refine lv_tableIn (tgt := 37) (off := 36) hx hb dX9_told_1 (by decide) (by decide) (by decide) (by decide) ?_
      refine lv_aload_n hx hb dX9_told_37 rfl (lv_at hl 0 rfl) ?_
      obtain ⟨hb987, e987, hat987, hk987⟩ := hT.o10 hw.1
      obtain ⟨f987_0, f987_1, f987_3, f987_4, f987_5, f987_6, f987_7, f987_9, f987_10, f987_11, f987_12, f987_13, f987_14, f987_15, f987_16, f987_17, rfl, c987_2, c987_3, c987_4, c987_12, t987_1, t987_8, t987_9, c987_sd, t987_10, t987_11, t987_17⟩ := hk987
      have hP : va_P D vwCl [(w, .inr (9, [.int f987_0, .ref f987_1, .int (nI ((κ w).2.2.1)), .int (nI f987_3), .int (nI f987_4), .int f987_5, .int f987_6, .int f987_7, .ref (κ w).2.2.2, .ref f987_9, .ref f987_10, .ref f987_11, .int (nI f987_12), .int f987_13, .int f987_14, .int f987_15, .int f987_16, .ref f987_17]))] _ := va_P.cons hat987 va_P.nil
      refine va_get (D := D) (ci := 9) (v := .ref (κ w).2.2.2) (C := RX9) (T := TX9) (N := 18) hx hb hts iX9_told_9 hown hN.1 hP 0 rfl rfl 8 (by decide) (hts _ mX9_told_1) (fun _ h9 => h9) rfl dX9_told_38 ?_
      refine lv_bipush (v := 9) hx hb dX9_told_41 (by decide) ?_
      obtain ⟨hb988, e988, hat988, hk988⟩ := hT.o24 t987_8.1
      obtain ⟨g988, rfl, q988⟩ := hk988
      have hP : va_P D vwCl [((κ w).2.2.2, .inl (cs 0, 45783, .inl g988)), (w, .inr (9, [.int f987_0, .ref f987_1, .int (nI ((κ w).2.2.1)), .int (nI f987_3), .int (nI f987_4), .int f987_5, .int f987_6, .int f987_7, .ref (κ w).2.2.2, .ref f987_9, .ref f987_10, .ref f987_11, .int (nI f987_12), .int f987_13, .int f987_14, .int f987_15, .int f987_16, .ref f987_17]))] _ := va_P.cons hat988 hP
      refine ld_i (v := (g988 9)) hx hb hN hP 0 rfl (vp_in_nI (n := 9) (N := 45783) (by omega) (by omega)) (by rw [(show (9 : Int32).toNatClampNeg = 9 from nI_clamp (n := 9) (by omega))]) dX9_told_43 ?_
      refine gn_i (fun x989 => ?_)
      exact en_i hx hb hr hlocks hL rfl (Nat.zero_le _) (Nat.zero_le _) dX9_told_44 (⟨hT, hF⟩)
    · refine tp_i 11 e9 ?_
      refine lv_tableIn (tgt := 45) (off := 44) hx hb dX9_told_1 (by decide) (by decide) (by decide) (by decide) ?_
      refine lv_aload_n hx hb dX9_told_45 rfl (lv_at hl 0 rfl) ?_
      obtain ⟨hb990, e990, hat990, hk990⟩ := hT.o10 hw.1
      obtain ⟨f990_0, f990_1, f990_3, f990_4, f990_5, f990_6, f990_7, f990_9, f990_10, f990_11, f990_12, f990_13, f990_14, f990_15, f990_16, f990_17, rfl, c990_2, c990_3, c990_4, c990_12, t990_1, t990_8, t990_9, c990_sd, t990_10, t990_11, t990_17⟩ := hk990
      have hP : va_P D vwCl [(w, .inr (9, [.int f990_0, .ref f990_1, .int (nI ((κ w).2.2.1)), .int (nI f990_3), .int (nI f990_4), .int f990_5, .int f990_6, .int f990_7, .ref (κ w).2.2.2, .ref f990_9, .ref f990_10, .ref f990_11, .int (nI f990_12), .int f990_13, .int f990_14, .int f990_15, .int f990_16, .ref f990_17]))] _ := va_P.cons hat990 va_P.nil
      refine va_get (D := D) (ci := 9) (v := .ref (κ w).2.2.2) (C := RX9) (T := TX9) (N := 18) hx hb hts iX9_told_9 hown hN.1 hP 0 rfl rfl 8 (by decide) (hts _ mX9_told_1) (fun _ h9 => h9) rfl dX9_told_46 ?_
      refine lv_bipush (v := 10) hx hb dX9_told_49 (by decide) ?_
      obtain ⟨hb991, e991, hat991, hk991⟩ := hT.o24 t990_8.1
      obtain ⟨g991, rfl, q991⟩ := hk991
      have hP : va_P D vwCl [((κ w).2.2.2, .inl (cs 0, 45783, .inl g991)), (w, .inr (9, [.int f990_0, .ref f990_1, .int (nI ((κ w).2.2.1)), .int (nI f990_3), .int (nI f990_4), .int f990_5, .int f990_6, .int f990_7, .ref (κ w).2.2.2, .ref f990_9, .ref f990_10, .ref f990_11, .int (nI f990_12), .int f990_13, .int f990_14, .int f990_15, .int f990_16, .ref f990_17]))] _ := va_P.cons hat991 hP
      refine ld_i (v := (g991 10)) hx hb hN hP 0 rfl (vp_in_nI (n := 10) (N := 45783) (by omega) (by omega)) (by rw [(show (10 : Int32).toNatClampNeg = 10 from nI_clamp (n := 10) (by omega))]) dX9_told_51 ?_
      refine gn_i (fun x992 => ?_)
      exact en_i hx hb hr hlocks hL rfl (Nat.zero_le _) (Nat.zero_le _) dX9_told_52 (⟨hT, hF⟩)
    · refine tp_i 12 e9 ?_
      refine lv_tableIn (tgt := 53) (off := 52) hx hb dX9_told_1 (by decide) (by decide) (by decide) (by decide) ?_
      refine lv_aload_n hx hb dX9_told_53 rfl (lv_at hl 0 rfl) ?_
      refine lv_iconst (v := 1) hx hb dX9_told_54 (by decide) ?_
      refine cv_i (As := [.int 1]) (rest := []) (b := w) ⟨hx, hb, hml, hown, hts⟩ (c_X9_margin hT (w := w) hw (x := 1)) (cwV 1 hts gX9_told_X9_margin rfl rfl rfl hdX9_margin_v ⟨Nat.le_of_ble_eq_true rfl, Nat.le_of_ble_eq_true rfl⟩) hN hE hL (rcv10 hN hT hw.1) rfl rfl hl.1 (Nat.le_of_ble_eq_true rfl) dX9_told_55 (Nat.zero_le _) (Nat.zero_le _) (fun r993 H1 locs hL hqr993 => ?_)
      obtain ⟨hT1, hF1⟩ := hqr993
      have hF := hF.tr (hF1.mono (by simp))
      have hT := hT1
      exact en_i hx hb hr hlocks hL rfl (Nat.zero_le _) (Nat.zero_le _) dX9_told_58 (⟨hT, hF⟩)
theorem mX9_state_1 : (.fieldLink RX9 40 "OneBeatModel" "thrown" "I" : Cond) ∈ wsX9_state := List.mem_of_getElem? (i := 1) (by decide +kernel)
theorem iX9_state_9 : ∀ w ∈ wsX90, w ∈ wsX9_state := fun w h => List.mem_of_mem_drop (List.mem_of_mem_take ((show wsX90 = (wsX9_state.drop 65).take 18 by decide +kernel) ▸ h))
theorem hdX9_told_v : yX9_told.cls = RX9 ∧ yX9_told.cls ≠ "java/lang/invoke/MethodHandle" ∧ yX9_told.cls ≠ "java/lang/invoke/VarHandle" ∧ (parseMethodDescriptor yX9_told.desc).map (fun d => d.parameters.length) = some 1 := by decide +kernel
set_option maxHeartbeats 4000000 in
set_option maxRecDepth 100000 in
theorem c_X9_state {l : Launch} {D : va_G} {cs : Nat → ClassId} {B0 T : Nat} {κ : KM} {H0 : Heap} (hT : WT B0 D cs T κ H0) {w : Nat} (hw : T2 κ w 10 12) {x : Int32} : KC l yX9_state wsX9_state 7 152 0 0 D cs B0 H0 [.ref w, .int x] (Qi (fun _ H => WT B0 D cs T κ H ∧ Fr B0 [12, 19] κ H0 H)) := by
  refine KC.of cX9_state 2 (some .int) (by decide) rfl (Nat.le_of_ble_eq_true rfl) ?_
  intro p e s m below meth c ls hx hb hr hml hown hts hlocks hin hN hE hH0 hl
  have hown : s.vm.findClass RX9 = some m.cls := hown
  have hl : lv_has ls 2 [(0, .ref w), (1, .int x)] := hl
  have hL : OkL B0 [] := OkL.nil
  have hF : Fr B0 [12, 19] κ H0 H0 := Fr.rf
  refine lv_aload_n hx hb dX9_state_0 rfl (lv_at hl 0 rfl) ?_
  refine lv_iconst (v := 0) hx hb dX9_state_1 (by decide) ?_
  obtain ⟨hb994, e994, hat994, hk994⟩ := hT.o10 hw.1
  obtain ⟨f994_0, f994_1, f994_3, f994_4, f994_5, f994_6, f994_7, f994_9, f994_10, f994_11, f994_12, f994_13, f994_14, f994_15, f994_16, f994_17, rfl, c994_2, c994_3, c994_4, c994_12, t994_1, t994_8, t994_9, c994_sd, t994_10, t994_11, t994_17⟩ := hk994
  have hP : va_P D vwCl [(w, .inr (9, [.int f994_0, .ref f994_1, .int (nI ((κ w).2.2.1)), .int (nI f994_3), .int (nI f994_4), .int f994_5, .int f994_6, .int f994_7, .ref (κ w).2.2.2, .ref f994_9, .ref f994_10, .ref f994_11, .int (nI f994_12), .int f994_13, .int f994_14, .int f994_15, .int f994_16, .ref f994_17]))] _ := va_P.cons hat994 va_P.nil
  have hB : Bx B0 D _ [(w, .inr (9, [.int f994_0, .ref f994_1, .int (nI ((κ w).2.2.1)), .int (nI f994_3), .int (nI f994_4), .int f994_5, .int f994_6, .int f994_7, .ref (κ w).2.2.2, .ref f994_9, .ref f994_10, .ref f994_11, .int (nI f994_12), .int f994_13, .int f994_14, .int f994_15, .int f994_16, .ref f994_17]))] [] _ _ := Bx.of (fun a => (κ a).1) hL hP (fa_c hb994 fa_n) (by simp only [List.map_cons, List.map_nil, hw.1]; decide)
  refine b_put (D := D) (ci := 9) (v := .int 0) (ty := .int) (C := RX9) (T := TX9) (N := 18) hx hb hts iX9_state_9 tyX9 tyX9_ok nmX9 hown hN hB 0 rfl rfl 0 (by decide) (hts _ mX9_state_1) (fun _ h9 => h9) rfl (by decide +kernel) rfl rfl (Nat.le_of_ble_eq_true rfl) (.inl rfl) dX9_state_2 (fun H locs hB => ?_)
  have hB : Bx B0 D _ [(w, .inr (9, [.int 0, .ref f994_1, .int (nI ((κ w).2.2.1)), .int (nI f994_3), .int (nI f994_4), .int f994_5, .int f994_6, .int f994_7, .ref (κ w).2.2.2, .ref f994_9, .ref f994_10, .ref f994_11, .int (nI f994_12), .int f994_13, .int f994_14, .int f994_15, .int f994_16, .ref f994_17]))] [w] _ _ := hB
  refine lv_aload_n hx hb dX9_state_5 rfl (lv_at hl 0 rfl) ?_
  refine lv_iload_n hx hb dX9_state_6 rfl (lv_at hl 1 rfl) ?_
  refine lv_iconst (v := 0) hx hb dX9_state_7 (by decide) ?_
  refine lv_bipush (v := 12) hx hb dX9_state_8 (by decide) ?_
  have hT : WT B0 D cs T κ _ := hT.close hB ⟨⟨0, _, rfl, ok_10 hw.1 ⟨_, _, _, _, _, _, _, _, _, _, _, _, _, _, _, _, rfl, (by omega), (by omega), (by omega), (by omega), t994_1, t994_8, t994_9, c994_sd, t994_10, t994_11, t994_17⟩⟩, trivial⟩
  have hF : Fr B0 [12, 19] κ H0 _ := hF.close hB (fa_c (by simp [hw.2]) fa_n)
  have hL : OkL B0 _ := hB.2.2.2.2.2
  have hP : va_P D vwCl [(w, .inr (9, [.int 0, .ref f994_1, .int (nI ((κ w).2.2.1)), .int (nI f994_3), .int (nI f994_4), .int f994_5, .int f994_6, .int f994_7, .ref (κ w).2.2.2, .ref f994_9, .ref f994_10, .ref f994_11, .int (nI f994_12), .int f994_13, .int f994_14, .int f994_15, .int f994_16, .ref f994_17]))] _ := hB.1
  refine cs_i (As := [.int x, .int 0, .int 12]) (rest := [.ref w]) ⟨hx, hb, hml, hown, hts⟩ (c_X9_in hT (x := x) (y := 0) (z := 12)) (va_cwS 3 hts gX9_state_X9_in rfl rfl rfl hdX9_in_o ⟨Nat.le_of_ble_eq_true rfl, Nat.le_of_ble_eq_true rfl⟩) hN hE hL rfl rfl hl.1 (Nat.le_of_ble_eq_true rfl) dX9_state_10 (Nat.zero_le _) (Nat.zero_le _) (fun r995 H1 locs hL hqr995 => ?_)
  obtain ⟨h9, hqr995⟩ := hqr995; replace h9 := h9.symm; subst h9
  rcases hqr995 with ⟨rfl, o996⟩ | ⟨rfl, l997, g998⟩
  · refine lv_if_ne (tgt := 20) hx hb dX9_state_13 (by decide) (fun c9 => absurd (by decide) c9) (fun _ => ?_)
    refine lv_iconst (v := 1) hx hb dX9_state_16 (by decide) ?_
    refine lv_goto (tgt := 21) hx hb dX9_state_17 (by decide) ?_
    refine lv_iconst (v := 1) hx hb dX9_state_21 (by decide) ?_
    refine cv_i (As := [.int 1, .int 1]) (rest := []) (b := w) ⟨hx, hb, hml, hown, hts⟩ (c_X9_fails hT (w := w) hw (x := 1) (z := 1) ((by decide))) (cwV 2 hts gX9_state_X9_fails rfl rfl rfl hdX9_fails_v ⟨Nat.le_of_ble_eq_true rfl, Nat.le_of_ble_eq_true rfl⟩) hN hE hL (rcv10 hN hT hw.1) rfl rfl hl.1 (Nat.le_of_ble_eq_true rfl) dX9_state_22 (Nat.zero_le _) (Nat.zero_le _) (fun r999 H1 locs hL hqr999 => ?_)
    obtain ⟨hT1, hF1, hqr999⟩ := hqr999
    have hF := hF.tr (hF1.mono (by simp))
    have hT := hT1
    rcases hqr999 with rfl | ⟨rfl, e1000⟩
    · refine lv_if_eq (tgt := 32) hx hb dX9_state_25 (by decide) (fun c9 => absurd c9 (by decide)) (fun _ => ?_)
      refine lv_iconst (v := 0) hx hb dX9_state_28 (by decide) ?_
      refine lv_goto (tgt := 37) hx hb dX9_state_29 (by decide) ?_
      exact en_i hx hb hr hlocks hL rfl (Nat.zero_le _) (Nat.zero_le _) dX9_state_37 (⟨hT, hF⟩)
    · exact absurd e1000 (by decide)
  · refine lv_if_ne (tgt := 20) hx hb dX9_state_13 (by decide) (fun _ => ?_) (fun c9 => absurd c9 (by decide))
    refine lv_iconst (v := 0) hx hb dX9_state_20 (by decide) ?_
    refine lv_iconst (v := 1) hx hb dX9_state_21 (by decide) ?_
    refine cv_i (As := [.int 0, .int 1]) (rest := []) (b := w) ⟨hx, hb, hml, hown, hts⟩ (c_X9_fails hT (w := w) hw (x := 0) (z := 1) ((by decide))) (cwV 2 hts gX9_state_X9_fails rfl rfl rfl hdX9_fails_v ⟨Nat.le_of_ble_eq_true rfl, Nat.le_of_ble_eq_true rfl⟩) hN hE hL (rcv10 hN hT hw.1) rfl rfl hl.1 (Nat.le_of_ble_eq_true rfl) dX9_state_22 (Nat.zero_le _) (Nat.zero_le _) (fun r1001 H1 locs hL hqr1001 => ?_)
    obtain ⟨hT1, hF1, hqr1001⟩ := hqr1001
    have hF := hF.tr (hF1.mono (by simp))
    have hT := hT1
    rcases hqr1001 with rfl | ⟨rfl, e1002⟩
    · refine lv_if_eq (tgt := 32) hx hb dX9_state_25 (by decide) (fun c9 => absurd c9 (by decide)) (fun _ => ?_)
      refine lv_iconst (v := 0) hx hb dX9_state_28 (by decide) ?_
      refine lv_goto (tgt := 37) hx hb dX9_state_29 (by decide) ?_
      exact en_i hx hb hr hlocks hL rfl (Nat.zero_le _) (Nat.zero_le _) dX9_state_37 (⟨hT, hF⟩)
    · refine lv_if_eq (tgt := 32) hx hb dX9_state_25 (by decide) (fun _ => ?_) (fun c9 => absurd (by decide) c9)
      obtain ⟨n1003, ln1003, hn1003, rfl⟩ := rng (lo := 0) (hi := 12) (by decide) (by decide) l997 g998
      refine lv_aload_n hx hb dX9_state_32 rfl (lv_at hl 0 rfl) ?_
      refine lv_iload_n hx hb dX9_state_33 rfl (lv_at hl 1 rfl) ?_
      refine cv_i (As := [.int (nI n1003)]) (rest := []) (b := w) ⟨hx, hb, hml, hown, hts⟩ (c_X9_told hT (w := w) hw (n := n1003) (by first | omega | decide | assumption)) (cwV 1 hts gX9_state_X9_told rfl rfl rfl hdX9_told_v ⟨Nat.le_of_ble_eq_true rfl, Nat.le_of_ble_eq_true rfl⟩) hN hE hL (rcv10 hN hT hw.1) rfl rfl hl.1 (Nat.le_of_ble_eq_true rfl) dX9_state_34 (Nat.zero_le _) (Nat.zero_le _) (fun r1004 H1 locs hL hqr1004 => ?_)
      obtain ⟨hT1, hF1⟩ := hqr1004
      have hF := hF.tr (hF1.mono (by simp))
      have hT := hT1
      exact en_i hx hb hr hlocks hL rfl (Nat.zero_le _) (Nat.zero_le _) dX9_state_37 (⟨hT, hF⟩)
theorem mX9_player_1 : (.fieldLink RX9 40 "OneBeatModel" "thrown" "I" : Cond) ∈ wsX9_player := List.mem_of_getElem? (i := 1) (by decide +kernel)
theorem iX9_player_9 : ∀ w ∈ wsX90, w ∈ wsX9_player := fun w h => List.mem_of_mem_drop (List.mem_of_mem_take ((show wsX90 = (wsX9_player.drop 34).take 18 by decide +kernel) ▸ h))
theorem hdX9_noPlayer_v : yX9_noPlayer.cls = RX9 ∧ yX9_noPlayer.cls ≠ "java/lang/invoke/MethodHandle" ∧ yX9_noPlayer.cls ≠ "java/lang/invoke/VarHandle" ∧ (parseMethodDescriptor yX9_noPlayer.desc).map (fun d => d.parameters.length) = some 1 := by decide +kernel
theorem hdX9_toldPlayer_v : yX9_toldPlayer.cls = RX9 ∧ yX9_toldPlayer.cls ≠ "java/lang/invoke/MethodHandle" ∧ yX9_toldPlayer.cls ≠ "java/lang/invoke/VarHandle" ∧ (parseMethodDescriptor yX9_toldPlayer.desc).map (fun d => d.parameters.length) = some 2 := by decide +kernel
set_option maxHeartbeats 4000000 in
set_option maxRecDepth 100000 in
theorem c_X9_player {l : Launch} {D : va_G} {cs : Nat → ClassId} {B0 T : Nat} {κ : KM} {H0 : Heap} (hT : WT B0 D cs T κ H0) {w : Nat} (hw : T2 κ w 10 12) {x : Int32} {y : Int32} : KC l yX9_player wsX9_player 5 106 0 0 D cs B0 H0 [.ref w, .int x, .int y] (Qi (fun _ H => WT B0 D cs T κ H ∧ Fr B0 [12] κ H0 H)) := by
  refine KC.of cX9_player 3 (some .int) (by decide) rfl (Nat.le_of_ble_eq_true rfl) ?_
  intro p e s m below meth c ls hx hb hr hml hown hts hlocks hin hN hE hH0 hl
  have hown : s.vm.findClass RX9 = some m.cls := hown
  have hl : lv_has ls 3 [(0, .ref w), (1, .int x), (2, .int y)] := hl
  have hL : OkL B0 [] := OkL.nil
  have hF : Fr B0 [12] κ H0 H0 := Fr.rf
  refine lv_aload_n hx hb dX9_player_0 rfl (lv_at hl 0 rfl) ?_
  refine lv_iconst (v := 0) hx hb dX9_player_1 (by decide) ?_
  obtain ⟨hb1005, e1005, hat1005, hk1005⟩ := hT.o10 hw.1
  obtain ⟨f1005_0, f1005_1, f1005_3, f1005_4, f1005_5, f1005_6, f1005_7, f1005_9, f1005_10, f1005_11, f1005_12, f1005_13, f1005_14, f1005_15, f1005_16, f1005_17, rfl, c1005_2, c1005_3, c1005_4, c1005_12, t1005_1, t1005_8, t1005_9, c1005_sd, t1005_10, t1005_11, t1005_17⟩ := hk1005
  have hP : va_P D vwCl [(w, .inr (9, [.int f1005_0, .ref f1005_1, .int (nI ((κ w).2.2.1)), .int (nI f1005_3), .int (nI f1005_4), .int f1005_5, .int f1005_6, .int f1005_7, .ref (κ w).2.2.2, .ref f1005_9, .ref f1005_10, .ref f1005_11, .int (nI f1005_12), .int f1005_13, .int f1005_14, .int f1005_15, .int f1005_16, .ref f1005_17]))] _ := va_P.cons hat1005 va_P.nil
  have hB : Bx B0 D _ [(w, .inr (9, [.int f1005_0, .ref f1005_1, .int (nI ((κ w).2.2.1)), .int (nI f1005_3), .int (nI f1005_4), .int f1005_5, .int f1005_6, .int f1005_7, .ref (κ w).2.2.2, .ref f1005_9, .ref f1005_10, .ref f1005_11, .int (nI f1005_12), .int f1005_13, .int f1005_14, .int f1005_15, .int f1005_16, .ref f1005_17]))] [] _ _ := Bx.of (fun a => (κ a).1) hL hP (fa_c hb1005 fa_n) (by simp only [List.map_cons, List.map_nil, hw.1]; decide)
  refine b_put (D := D) (ci := 9) (v := .int 0) (ty := .int) (C := RX9) (T := TX9) (N := 18) hx hb hts iX9_player_9 tyX9 tyX9_ok nmX9 hown hN hB 0 rfl rfl 0 (by decide) (hts _ mX9_player_1) (fun _ h9 => h9) rfl (by decide +kernel) rfl rfl (Nat.le_of_ble_eq_true rfl) (.inl rfl) dX9_player_2 (fun H locs hB => ?_)
  have hB : Bx B0 D _ [(w, .inr (9, [.int 0, .ref f1005_1, .int (nI ((κ w).2.2.1)), .int (nI f1005_3), .int (nI f1005_4), .int f1005_5, .int f1005_6, .int f1005_7, .ref (κ w).2.2.2, .ref f1005_9, .ref f1005_10, .ref f1005_11, .int (nI f1005_12), .int f1005_13, .int f1005_14, .int f1005_15, .int f1005_16, .ref f1005_17]))] [w] _ _ := hB
  refine lv_aload_n hx hb dX9_player_5 rfl (lv_at hl 0 rfl) ?_
  refine lv_iload_n hx hb dX9_player_6 rfl (lv_at hl 1 rfl) ?_
  have hT : WT B0 D cs T κ _ := hT.close hB ⟨⟨0, _, rfl, ok_10 hw.1 ⟨_, _, _, _, _, _, _, _, _, _, _, _, _, _, _, _, rfl, (by omega), (by omega), (by omega), (by omega), t1005_1, t1005_8, t1005_9, c1005_sd, t1005_10, t1005_11, t1005_17⟩⟩, trivial⟩
  have hF : Fr B0 [12] κ H0 _ := hF.close hB (fa_c (by simp [hw.2]) fa_n)
  have hL : OkL B0 _ := hB.2.2.2.2.2
  have hP : va_P D vwCl [(w, .inr (9, [.int 0, .ref f1005_1, .int (nI ((κ w).2.2.1)), .int (nI f1005_3), .int (nI f1005_4), .int f1005_5, .int f1005_6, .int f1005_7, .ref (κ w).2.2.2, .ref f1005_9, .ref f1005_10, .ref f1005_11, .int (nI f1005_12), .int f1005_13, .int f1005_14, .int f1005_15, .int f1005_16, .ref f1005_17]))] _ := hB.1
  refine cv_i (As := [.int x]) (rest := []) (b := w) ⟨hx, hb, hml, hown, hts⟩ (c_X9_noPlayer hT (w := w) hw (x := x)) (cwV 1 hts gX9_player_X9_noPlayer rfl rfl rfl hdX9_noPlayer_v ⟨Nat.le_of_ble_eq_true rfl, Nat.le_of_ble_eq_true rfl⟩) hN hE hL (rcv10 hN hT hw.1) rfl rfl hl.1 (Nat.le_of_ble_eq_true rfl) dX9_player_7 (Nat.zero_le _) (Nat.zero_le _) (fun r1006 H1 locs hL hqr1006 => ?_)
  obtain ⟨hT1, hF1, hqr1006⟩ := hqr1006
  have hF := hF.tr (hF1.mono (by simp))
  have hT := hT1
  rcases hqr1006 with rfl | ⟨rfl, n1007, h1008, rfl⟩
  · refine lv_if_ne (tgt := 36) hx hb dX9_player_10 (by decide) (fun _ => ?_) (fun c9 => absurd c9 (by decide))
    refine lv_iconst (v := 0) hx hb dX9_player_36 (by decide) ?_
    refine lv_goto (tgt := 46) hx hb dX9_player_37 (by decide) ?_
    exact en_i hx hb hr hlocks hL rfl (Nat.zero_le _) (Nat.zero_le _) dX9_player_46 (⟨hT, hF⟩)
  · refine lv_if_ne (tgt := 36) hx hb dX9_player_10 (by decide) (fun c9 => absurd (by decide) c9) (fun _ => ?_)
    refine lv_aload_n hx hb dX9_player_13 rfl (lv_at hl 0 rfl) ?_
    refine lv_iload_n hx hb dX9_player_14 rfl (lv_at hl 2 rfl) ?_
    refine lv_iconst (v := 0) hx hb dX9_player_15 (by decide) ?_
    refine lv_bipush (v := 9) hx hb dX9_player_16 (by decide) ?_
    refine cs_i (As := [.int y, .int 0, .int 9]) (rest := [.ref w]) ⟨hx, hb, hml, hown, hts⟩ (c_X9_in hT (x := y) (y := 0) (z := 9)) (va_cwS 3 hts gX9_player_X9_in rfl rfl rfl hdX9_in_o ⟨Nat.le_of_ble_eq_true rfl, Nat.le_of_ble_eq_true rfl⟩) hN hE hL rfl rfl hl.1 (Nat.le_of_ble_eq_true rfl) dX9_player_18 (Nat.zero_le _) (Nat.zero_le _) (fun r1009 H1 locs hL hqr1009 => ?_)
    obtain ⟨h9, hqr1009⟩ := hqr1009; replace h9 := h9.symm; subst h9
    rcases hqr1009 with ⟨rfl, o1010⟩ | ⟨rfl, l1011, g1012⟩
    · refine lv_if_ne (tgt := 28) hx hb dX9_player_21 (by decide) (fun c9 => absurd (by decide) c9) (fun _ => ?_)
      refine lv_iconst (v := 1) hx hb dX9_player_24 (by decide) ?_
      refine lv_goto (tgt := 29) hx hb dX9_player_25 (by decide) ?_
      refine lv_iconst (v := 2) hx hb dX9_player_29 (by decide) ?_
      refine cv_i (As := [.int 1, .int 2]) (rest := []) (b := w) ⟨hx, hb, hml, hown, hts⟩ (c_X9_fails hT (w := w) hw (x := 1) (z := 2) ((by decide))) (cwV 2 hts gX9_player_X9_fails rfl rfl rfl hdX9_fails_v ⟨Nat.le_of_ble_eq_true rfl, Nat.le_of_ble_eq_true rfl⟩) hN hE hL (rcv10 hN hT hw.1) rfl rfl hl.1 (Nat.le_of_ble_eq_true rfl) dX9_player_30 (Nat.zero_le _) (Nat.zero_le _) (fun r1013 H1 locs hL hqr1013 => ?_)
      obtain ⟨hT1, hF1, hqr1013⟩ := hqr1013
      have hF := hF.tr (hF1.mono (by simp))
      have hT := hT1
      rcases hqr1013 with rfl | ⟨rfl, e1014⟩
      · refine lv_if_eq (tgt := 40) hx hb dX9_player_33 (by decide) (fun c9 => absurd c9 (by decide)) (fun _ => ?_)
        refine lv_iconst (v := 0) hx hb dX9_player_36 (by decide) ?_
        refine lv_goto (tgt := 46) hx hb dX9_player_37 (by decide) ?_
        exact en_i hx hb hr hlocks hL rfl (Nat.zero_le _) (Nat.zero_le _) dX9_player_46 (⟨hT, hF⟩)
      · exact absurd e1014 (by decide)
    · refine lv_if_ne (tgt := 28) hx hb dX9_player_21 (by decide) (fun _ => ?_) (fun c9 => absurd c9 (by decide))
      refine lv_iconst (v := 0) hx hb dX9_player_28 (by decide) ?_
      refine lv_iconst (v := 2) hx hb dX9_player_29 (by decide) ?_
      refine cv_i (As := [.int 0, .int 2]) (rest := []) (b := w) ⟨hx, hb, hml, hown, hts⟩ (c_X9_fails hT (w := w) hw (x := 0) (z := 2) ((by decide))) (cwV 2 hts gX9_player_X9_fails rfl rfl rfl hdX9_fails_v ⟨Nat.le_of_ble_eq_true rfl, Nat.le_of_ble_eq_true rfl⟩) hN hE hL (rcv10 hN hT hw.1) rfl rfl hl.1 (Nat.le_of_ble_eq_true rfl) dX9_player_30 (Nat.zero_le _) (Nat.zero_le _) (fun r1015 H1 locs hL hqr1015 => ?_)
      obtain ⟨hT1, hF1, hqr1015⟩ := hqr1015
      have hF := hF.tr (hF1.mono (by simp))
      have hT := hT1
      rcases hqr1015 with rfl | ⟨rfl, e1016⟩
      · refine lv_if_eq (tgt := 40) hx hb dX9_player_33 (by decide) (fun c9 => absurd c9 (by decide)) (fun _ => ?_)
        refine lv_iconst (v := 0) hx hb dX9_player_36 (by decide) ?_
        refine lv_goto (tgt := 46) hx hb dX9_player_37 (by decide) ?_
        exact en_i hx hb hr hlocks hL rfl (Nat.zero_le _) (Nat.zero_le _) dX9_player_46 (⟨hT, hF⟩)
      · refine lv_if_eq (tgt := 40) hx hb dX9_player_33 (by decide) (fun _ => ?_) (fun c9 => absurd (by decide) c9)
        refine lv_aload_n hx hb dX9_player_40 rfl (lv_at hl 0 rfl) ?_
        refine lv_iload_n hx hb dX9_player_41 rfl (lv_at hl 1 rfl) ?_
        refine lv_iload_n hx hb dX9_player_42 rfl (lv_at hl 2 rfl) ?_
        refine cv_i (As := [.int (nI n1007), .int y]) (rest := []) (b := w) ⟨hx, hb, hml, hown, hts⟩ (c_X9_toldPlayer hT (w := w) hw (n := n1007) (y := y) (by first | omega | decide | assumption)) (cwV 2 hts gX9_player_X9_toldPlayer rfl rfl rfl hdX9_toldPlayer_v ⟨Nat.le_of_ble_eq_true rfl, Nat.le_of_ble_eq_true rfl⟩) hN hE hL (rcv10 hN hT hw.1) rfl rfl hl.1 (Nat.le_of_ble_eq_true rfl) dX9_player_43 (Nat.zero_le _) (Nat.zero_le _) (fun r1017 H1 locs hL hqr1017 => ?_)
        obtain rfl := hqr1017.symm
        exact en_i hx hb hr hlocks hL rfl (Nat.zero_le _) (Nat.zero_le _) dX9_player_46 (⟨hT, hF⟩)
theorem mX9_link_1 : (.fieldLink RX9 40 "OneBeatModel" "thrown" "I" : Cond) ∈ wsX9_link := List.mem_of_getElem? (i := 1) (by decide +kernel)
theorem iX9_link_9 : ∀ w ∈ wsX90, w ∈ wsX9_link := fun w h => List.mem_of_mem_drop (List.mem_of_mem_take ((show wsX90 = (wsX9_link.drop 18).take 18 by decide +kernel) ▸ h))
theorem mX9_link_2 : (.fieldLink RX9 18 "OneBeatModel" "data" "[I" : Cond) ∈ wsX9_link := List.mem_of_getElem? (i := 2) (by decide +kernel)
set_option maxHeartbeats 4000000 in
set_option maxRecDepth 100000 in
theorem c_X9_link {l : Launch} {D : va_G} {cs : Nat → ClassId} {B0 T : Nat} {κ : KM} {H0 : Heap} (hT : WT B0 D cs T κ H0) {w : Nat} (hw : T2 κ w 10 12) {x : Int32} {y : Int32} : KC l yX9_link wsX9_link 2 43 0 0 D cs B0 H0 [.ref w, .int x, .int y] (Qi (fun _ H => WT B0 D cs T κ H ∧ Fr B0 [12] κ H0 H)) := by
  refine KC.of cX9_link 3 (some .int) (by decide) rfl (Nat.le_of_ble_eq_true rfl) ?_
  intro p e s m below meth c ls hx hb hr hml hown hts hlocks hin hN hE hH0 hl
  have hown : s.vm.findClass RX9 = some m.cls := hown
  have hl : lv_has ls 3 [(0, .ref w), (1, .int x), (2, .int y)] := hl
  have hL : OkL B0 [] := OkL.nil
  have hF : Fr B0 [12] κ H0 H0 := Fr.rf
  refine lv_aload_n hx hb dX9_link_0 rfl (lv_at hl 0 rfl) ?_
  refine lv_iconst (v := 0) hx hb dX9_link_1 (by decide) ?_
  obtain ⟨hb1018, e1018, hat1018, hk1018⟩ := hT.o10 hw.1
  obtain ⟨f1018_0, f1018_1, f1018_3, f1018_4, f1018_5, f1018_6, f1018_7, f1018_9, f1018_10, f1018_11, f1018_12, f1018_13, f1018_14, f1018_15, f1018_16, f1018_17, rfl, c1018_2, c1018_3, c1018_4, c1018_12, t1018_1, t1018_8, t1018_9, c1018_sd, t1018_10, t1018_11, t1018_17⟩ := hk1018
  have hP : va_P D vwCl [(w, .inr (9, [.int f1018_0, .ref f1018_1, .int (nI ((κ w).2.2.1)), .int (nI f1018_3), .int (nI f1018_4), .int f1018_5, .int f1018_6, .int f1018_7, .ref (κ w).2.2.2, .ref f1018_9, .ref f1018_10, .ref f1018_11, .int (nI f1018_12), .int f1018_13, .int f1018_14, .int f1018_15, .int f1018_16, .ref f1018_17]))] _ := va_P.cons hat1018 va_P.nil
  have hB : Bx B0 D _ [(w, .inr (9, [.int f1018_0, .ref f1018_1, .int (nI ((κ w).2.2.1)), .int (nI f1018_3), .int (nI f1018_4), .int f1018_5, .int f1018_6, .int f1018_7, .ref (κ w).2.2.2, .ref f1018_9, .ref f1018_10, .ref f1018_11, .int (nI f1018_12), .int f1018_13, .int f1018_14, .int f1018_15, .int f1018_16, .ref f1018_17]))] [] _ _ := Bx.of (fun a => (κ a).1) hL hP (fa_c hb1018 fa_n) (by simp only [List.map_cons, List.map_nil, hw.1]; decide)
  refine b_put (D := D) (ci := 9) (v := .int 0) (ty := .int) (C := RX9) (T := TX9) (N := 18) hx hb hts iX9_link_9 tyX9 tyX9_ok nmX9 hown hN hB 0 rfl rfl 0 (by decide) (hts _ mX9_link_1) (fun _ h9 => h9) rfl (by decide +kernel) rfl rfl (Nat.le_of_ble_eq_true rfl) (.inl rfl) dX9_link_2 (fun H locs hB => ?_)
  have hB : Bx B0 D _ [(w, .inr (9, [.int 0, .ref f1018_1, .int (nI ((κ w).2.2.1)), .int (nI f1018_3), .int (nI f1018_4), .int f1018_5, .int f1018_6, .int f1018_7, .ref (κ w).2.2.2, .ref f1018_9, .ref f1018_10, .ref f1018_11, .int (nI f1018_12), .int f1018_13, .int f1018_14, .int f1018_15, .int f1018_16, .ref f1018_17]))] [w] _ _ := hB
  refine lv_aload_n hx hb dX9_link_5 rfl (lv_at hl 0 rfl) ?_
  refine lv_iload_n hx hb dX9_link_6 rfl (lv_at hl 1 rfl) ?_
  have hT : WT B0 D cs T κ _ := hT.close hB ⟨⟨0, _, rfl, ok_10 hw.1 ⟨_, _, _, _, _, _, _, _, _, _, _, _, _, _, _, _, rfl, (by omega), (by omega), (by omega), (by omega), t1018_1, t1018_8, t1018_9, c1018_sd, t1018_10, t1018_11, t1018_17⟩⟩, trivial⟩
  have hF : Fr B0 [12] κ H0 _ := hF.close hB (fa_c (by simp [hw.2]) fa_n)
  have hL : OkL B0 _ := hB.2.2.2.2.2
  have hP : va_P D vwCl [(w, .inr (9, [.int 0, .ref f1018_1, .int (nI ((κ w).2.2.1)), .int (nI f1018_3), .int (nI f1018_4), .int f1018_5, .int f1018_6, .int f1018_7, .ref (κ w).2.2.2, .ref f1018_9, .ref f1018_10, .ref f1018_11, .int (nI f1018_12), .int f1018_13, .int f1018_14, .int f1018_15, .int f1018_16, .ref f1018_17]))] _ := hB.1
  refine cv_i (As := [.int x]) (rest := []) (b := w) ⟨hx, hb, hml, hown, hts⟩ (c_X9_noPlayer hT (w := w) hw (x := x)) (cwV 1 hts gX9_link_X9_noPlayer rfl rfl rfl hdX9_noPlayer_v ⟨Nat.le_of_ble_eq_true rfl, Nat.le_of_ble_eq_true rfl⟩) hN hE hL (rcv10 hN hT hw.1) rfl rfl hl.1 (Nat.le_of_ble_eq_true rfl) dX9_link_7 (Nat.zero_le _) (Nat.zero_le _) (fun r1019 H1 locs hL hqr1019 => ?_)
  obtain ⟨hT1, hF1, hqr1019⟩ := hqr1019
  have hF := hF.tr (hF1.mono (by simp))
  have hT := hT1
  rcases hqr1019 with rfl | ⟨rfl, n1020, h1021, rfl⟩
  · refine lv_if_ne (tgt := 21) hx hb dX9_link_10 (by decide) (fun _ => ?_) (fun c9 => absurd c9 (by decide))
    refine lv_iconst (v := 0) hx hb dX9_link_21 (by decide) ?_
    refine lv_goto (tgt := 35) hx hb dX9_link_22 (by decide) ?_
    exact en_i hx hb hr hlocks hL rfl (Nat.zero_le _) (Nat.zero_le _) dX9_link_35 (⟨hT, hF⟩)
  · refine lv_if_ne (tgt := 21) hx hb dX9_link_10 (by decide) (fun c9 => absurd (by decide) c9) (fun _ => ?_)
    refine lv_aload_n hx hb dX9_link_13 rfl (lv_at hl 0 rfl) ?_
    refine lv_iload_n hx hb dX9_link_14 rfl (lv_at hl 2 rfl) ?_
    refine cv_i (As := [.int y]) (rest := []) (b := w) ⟨hx, hb, hml, hown, hts⟩ (c_X9_noPlayer hT (w := w) hw (x := y)) (cwV 1 hts gX9_link_X9_noPlayer rfl rfl rfl hdX9_noPlayer_v ⟨Nat.le_of_ble_eq_true rfl, Nat.le_of_ble_eq_true rfl⟩) hN hE hL (rcv10 hN hT hw.1) rfl rfl hl.1 (Nat.le_of_ble_eq_true rfl) dX9_link_15 (Nat.zero_le _) (Nat.zero_le _) (fun r1022 H1 locs hL hqr1022 => ?_)
    obtain ⟨hT1, hF1, hqr1022⟩ := hqr1022
    have hF := hF.tr (hF1.mono (by simp))
    have hT := hT1
    rcases hqr1022 with rfl | ⟨rfl, n1023, h1024, rfl⟩
    · refine lv_if_eq (tgt := 25) hx hb dX9_link_18 (by decide) (fun c9 => absurd c9 (by decide)) (fun _ => ?_)
      refine lv_iconst (v := 0) hx hb dX9_link_21 (by decide) ?_
      refine lv_goto (tgt := 35) hx hb dX9_link_22 (by decide) ?_
      exact en_i hx hb hr hlocks hL rfl (Nat.zero_le _) (Nat.zero_le _) dX9_link_35 (⟨hT, hF⟩)
    · refine lv_if_eq (tgt := 25) hx hb dX9_link_18 (by decide) (fun _ => ?_) (fun c9 => absurd (by decide) c9)
      refine lv_aload_n hx hb dX9_link_25 rfl (lv_at hl 0 rfl) ?_
      obtain ⟨hb1025, e1025, hat1025, hk1025⟩ := hT.o10 hw.1
      obtain ⟨f1025_0, f1025_1, f1025_3, f1025_4, f1025_5, f1025_6, f1025_7, f1025_9, f1025_10, f1025_11, f1025_12, f1025_13, f1025_14, f1025_15, f1025_16, f1025_17, rfl, c1025_2, c1025_3, c1025_4, c1025_12, t1025_1, t1025_8, t1025_9, c1025_sd, t1025_10, t1025_11, t1025_17⟩ := hk1025
      have hP : va_P D vwCl [(w, .inr (9, [.int f1025_0, .ref f1025_1, .int (nI ((κ w).2.2.1)), .int (nI f1025_3), .int (nI f1025_4), .int f1025_5, .int f1025_6, .int f1025_7, .ref (κ w).2.2.2, .ref f1025_9, .ref f1025_10, .ref f1025_11, .int (nI f1025_12), .int f1025_13, .int f1025_14, .int f1025_15, .int f1025_16, .ref f1025_17]))] _ := va_P.cons hat1025 va_P.nil
      refine va_get (D := D) (ci := 9) (v := .ref (κ w).2.2.2) (C := RX9) (T := TX9) (N := 18) hx hb hts iX9_link_9 hown hN.1 hP 0 rfl rfl 8 (by decide) (hts _ mX9_link_2) (fun _ h9 => h9) rfl dX9_link_26 ?_
      refine lv_iload_n hx hb dX9_link_29 rfl (lv_at hl 1 rfl) ?_
      refine lv_iload_n hx hb dX9_link_30 rfl (lv_at hl 2 rfl) ?_
      refine cs_i (As := [.int (nI n1020), .int (nI n1023)]) (rest := [.ref (κ w).2.2.2]) ⟨hx, hb, hml, hown, hts⟩ (c_X9_linkAt hT (n := n1020) (k := n1023) (by first | omega | decide | assumption) (by first | omega | decide | assumption)) (va_cwS 2 hts gX9_link_X9_linkAt rfl rfl rfl hdX9_linkAt_o ⟨Nat.le_of_ble_eq_true rfl, Nat.le_of_ble_eq_true rfl⟩) hN hE hL rfl rfl hl.1 (Nat.le_of_ble_eq_true rfl) dX9_link_31 (Nat.zero_le _) (Nat.zero_le _) (fun r1026 H1 locs hL hqr1026 => ?_)
      obtain ⟨h9, hqr1026⟩ := hqr1026; replace h9 := h9.symm; subst h9
      obtain rfl := hqr1026
      obtain ⟨hb1027, e1027, hat1027, hk1027⟩ := hT.o24 t1025_8.1
      obtain ⟨g1027, rfl, q1027⟩ := hk1027
      have hP : va_P D vwCl [((κ w).2.2.2, .inl (cs 0, 45783, .inl g1027)), (w, .inr (9, [.int f1025_0, .ref f1025_1, .int (nI ((κ w).2.2.1)), .int (nI f1025_3), .int (nI f1025_4), .int f1025_5, .int f1025_6, .int f1025_7, .ref (κ w).2.2.2, .ref f1025_9, .ref f1025_10, .ref f1025_11, .int (nI f1025_12), .int f1025_13, .int f1025_14, .int f1025_15, .int f1025_16, .ref f1025_17]))] _ := va_P.cons hat1027 hP
      refine ld_i (v := (g1027 (119 + 8 * n1020 + n1023))) hx hb hN hP 0 rfl (vp_in_nI (n := (119 + 8 * n1020 + n1023)) (N := 45783) (by omega) (by omega)) (by rw [(show ((nI (119 + 8 * n1020 + n1023)) : Int32).toNatClampNeg = (119 + 8 * n1020 + n1023) from nI_clamp (n := (119 + 8 * n1020 + n1023)) (by omega))]) dX9_link_34 ?_
      refine gn_i (fun x1028 => ?_)
      exact en_i hx hb hr hlocks hL rfl (Nat.zero_le _) (Nat.zero_le _) dX9_link_35 (⟨hT, hF⟩)
theorem mX9_proposal_1 : (.fieldLink RX9 40 "OneBeatModel" "thrown" "I" : Cond) ∈ wsX9_proposal := List.mem_of_getElem? (i := 1) (by decide +kernel)
theorem iX9_proposal_9 : ∀ w ∈ wsX90, w ∈ wsX9_proposal := fun w h => List.mem_of_mem_drop (List.mem_of_mem_take ((show wsX90 = (wsX9_proposal.drop 11).take 18 by decide +kernel) ▸ h))
theorem mX9_proposal_2 : (.fieldLink RX9 18 "OneBeatModel" "data" "[I" : Cond) ∈ wsX9_proposal := List.mem_of_getElem? (i := 2) (by decide +kernel)
set_option maxHeartbeats 4000000 in
set_option maxRecDepth 100000 in
theorem c_X9_proposal {l : Launch} {D : va_G} {cs : Nat → ClassId} {B0 T : Nat} {κ : KM} {H0 : Heap} (hT : WT B0 D cs T κ H0) {w : Nat} (hw : T2 κ w 10 12) {x : Int32} : KC l yX9_proposal wsX9_proposal 1 22 0 0 D cs B0 H0 [.ref w, .int x] (Qi (fun _ H => WT B0 D cs T κ H ∧ Fr B0 [12] κ H0 H)) := by
  refine KC.of cX9_proposal 2 (some .int) (by decide) rfl (Nat.le_of_ble_eq_true rfl) ?_
  intro p e s m below meth c ls hx hb hr hml hown hts hlocks hin hN hE hH0 hl
  have hown : s.vm.findClass RX9 = some m.cls := hown
  have hl : lv_has ls 2 [(0, .ref w), (1, .int x)] := hl
  have hL : OkL B0 [] := OkL.nil
  have hF : Fr B0 [12] κ H0 H0 := Fr.rf
  refine lv_aload_n hx hb dX9_proposal_0 rfl (lv_at hl 0 rfl) ?_
  refine lv_iconst (v := 0) hx hb dX9_proposal_1 (by decide) ?_
  obtain ⟨hb1029, e1029, hat1029, hk1029⟩ := hT.o10 hw.1
  obtain ⟨f1029_0, f1029_1, f1029_3, f1029_4, f1029_5, f1029_6, f1029_7, f1029_9, f1029_10, f1029_11, f1029_12, f1029_13, f1029_14, f1029_15, f1029_16, f1029_17, rfl, c1029_2, c1029_3, c1029_4, c1029_12, t1029_1, t1029_8, t1029_9, c1029_sd, t1029_10, t1029_11, t1029_17⟩ := hk1029
  have hP : va_P D vwCl [(w, .inr (9, [.int f1029_0, .ref f1029_1, .int (nI ((κ w).2.2.1)), .int (nI f1029_3), .int (nI f1029_4), .int f1029_5, .int f1029_6, .int f1029_7, .ref (κ w).2.2.2, .ref f1029_9, .ref f1029_10, .ref f1029_11, .int (nI f1029_12), .int f1029_13, .int f1029_14, .int f1029_15, .int f1029_16, .ref f1029_17]))] _ := va_P.cons hat1029 va_P.nil
  have hB : Bx B0 D _ [(w, .inr (9, [.int f1029_0, .ref f1029_1, .int (nI ((κ w).2.2.1)), .int (nI f1029_3), .int (nI f1029_4), .int f1029_5, .int f1029_6, .int f1029_7, .ref (κ w).2.2.2, .ref f1029_9, .ref f1029_10, .ref f1029_11, .int (nI f1029_12), .int f1029_13, .int f1029_14, .int f1029_15, .int f1029_16, .ref f1029_17]))] [] _ _ := Bx.of (fun a => (κ a).1) hL hP (fa_c hb1029 fa_n) (by simp only [List.map_cons, List.map_nil, hw.1]; decide)
  refine b_put (D := D) (ci := 9) (v := .int 0) (ty := .int) (C := RX9) (T := TX9) (N := 18) hx hb hts iX9_proposal_9 tyX9 tyX9_ok nmX9 hown hN hB 0 rfl rfl 0 (by decide) (hts _ mX9_proposal_1) (fun _ h9 => h9) rfl (by decide +kernel) rfl rfl (Nat.le_of_ble_eq_true rfl) (.inl rfl) dX9_proposal_2 (fun H locs hB => ?_)
  have hB : Bx B0 D _ [(w, .inr (9, [.int 0, .ref f1029_1, .int (nI ((κ w).2.2.1)), .int (nI f1029_3), .int (nI f1029_4), .int f1029_5, .int f1029_6, .int f1029_7, .ref (κ w).2.2.2, .ref f1029_9, .ref f1029_10, .ref f1029_11, .int (nI f1029_12), .int f1029_13, .int f1029_14, .int f1029_15, .int f1029_16, .ref f1029_17]))] [w] _ _ := hB
  refine lv_aload_n hx hb dX9_proposal_5 rfl (lv_at hl 0 rfl) ?_
  refine lv_aload_n hx hb dX9_proposal_6 rfl (lv_at hl 0 rfl) ?_
  refine va_get (D := D) (ci := 9) (v := .ref (κ w).2.2.2) (C := RX9) (T := TX9) (N := 18) hx hb hts iX9_proposal_9 hown hN.1 hB.1 0 rfl rfl 8 (by decide) (hts _ mX9_proposal_2) (fun _ h9 => h9) rfl dX9_proposal_7 ?_
  refine lv_bipush (v := 6) hx hb dX9_proposal_10 (by decide) ?_
  obtain ⟨hb1030, e1030, hat1030, hk1030⟩ := hT.o24 t1029_8.1
  obtain ⟨g1030, rfl, q1030⟩ := hk1030
  have hB : Bx B0 D _ [(w, .inr (9, [.int 0, .ref f1029_1, .int (nI ((κ w).2.2.1)), .int (nI f1029_3), .int (nI f1029_4), .int f1029_5, .int f1029_6, .int f1029_7, .ref (κ w).2.2.2, .ref f1029_9, .ref f1029_10, .ref f1029_11, .int (nI f1029_12), .int f1029_13, .int f1029_14, .int f1029_15, .int f1029_16, .ref f1029_17])), ((κ w).2.2.2, .inl (cs 0, 45783, .inl g1030))] [w] _ _ := hB.more hat1030 hb1030 (fa_c (ne_c hw.1 t1029_8.1 (by decide)) fa_n) (fa_c (ne_c hw.1 t1029_8.1 (by decide)) fa_n)
  refine ld_i (v := (g1030 6)) hx hb hN hB.1 1 rfl (vp_in_nI (n := 6) (N := 45783) (by omega) (by omega)) (by rw [(show (6 : Int32).toNatClampNeg = 6 from nI_clamp (n := 6) (by omega))]) dX9_proposal_12 ?_
  refine gn_i (fun x1031 => ?_)
  refine lv_if_ne (tgt := 20) hx hb dX9_proposal_13 (by decide) (fun c1032 => ?_) (fun c1032 => ?_)
  · refine lv_iconst (v := 0) hx hb dX9_proposal_20 (by decide) ?_
    refine lv_iconst (v := 1) hx hb dX9_proposal_21 (by decide) ?_
    have hT : WT B0 D cs T κ _ := hT.close hB ⟨⟨0, _, rfl, ok_10 hw.1 ⟨_, _, _, _, _, _, _, _, _, _, _, _, _, _, _, _, rfl, (by omega), (by omega), (by omega), (by omega), t1029_1, t1029_8, t1029_9, c1029_sd, t1029_10, t1029_11, t1029_17⟩⟩, trivial⟩
    have hF : Fr B0 [12] κ H0 _ := hF.close hB (fa_c (by simp [hw.2]) fa_n)
    have hL : OkL B0 _ := hB.2.2.2.2.2
    have hP : va_P D vwCl [(w, .inr (9, [.int 0, .ref f1029_1, .int (nI ((κ w).2.2.1)), .int (nI f1029_3), .int (nI f1029_4), .int f1029_5, .int f1029_6, .int f1029_7, .ref (κ w).2.2.2, .ref f1029_9, .ref f1029_10, .ref f1029_11, .int (nI f1029_12), .int f1029_13, .int f1029_14, .int f1029_15, .int f1029_16, .ref f1029_17])), ((κ w).2.2.2, .inl (cs 0, 45783, .inl g1030))] _ := hB.1
    refine cv_i (As := [.int 0, .int 1]) (rest := []) (b := w) ⟨hx, hb, hml, hown, hts⟩ (c_X9_fails hT (w := w) hw (x := 0) (z := 1) ((by decide))) (cwV 2 hts gX9_proposal_X9_fails rfl rfl rfl hdX9_fails_v ⟨Nat.le_of_ble_eq_true rfl, Nat.le_of_ble_eq_true rfl⟩) hN hE hL (rcv10 hN hT hw.1) rfl rfl hl.1 (Nat.le_of_ble_eq_true rfl) dX9_proposal_22 (Nat.zero_le _) (Nat.zero_le _) (fun r1033 H1 locs hL hqr1033 => ?_)
    obtain ⟨hT1, hF1, hqr1033⟩ := hqr1033
    have hP : va_P D vwCl [((κ w).2.2.2, .inl (cs 0, 45783, .inl g1030))] _ := hF1.hP (hP.sub [1] rfl) (fa_c ⟨by rw [t1029_8.1]; decide, by rw [t1029_8.2]; first | decide | (simp; done) | (simp; omega)⟩ fa_n)
    have hF := hF.tr (hF1.mono (by simp))
    have hT := hT1
    rcases hqr1033 with rfl | ⟨rfl, e1034⟩
    · refine lv_if_ne (tgt := 50) hx hb dX9_proposal_25 (by decide) (fun _ => ?_) (fun c9 => absurd c9 (by decide))
      refine lv_iconst (v := 0) hx hb dX9_proposal_50 (by decide) ?_
      refine lv_goto (tgt := 63) hx hb dX9_proposal_51 (by decide) ?_
      exact en_i hx hb hr hlocks hL rfl (Nat.zero_le _) (Nat.zero_le _) dX9_proposal_63 (⟨hT, hF⟩)
    · refine lv_if_ne (tgt := 50) hx hb dX9_proposal_25 (by decide) (fun c9 => absurd (by decide) c9) (fun _ => ?_)
      refine lv_aload_n hx hb dX9_proposal_28 rfl (lv_at hl 0 rfl) ?_
      refine lv_iload_n hx hb dX9_proposal_29 rfl (lv_at hl 1 rfl) ?_
      refine lv_iconst (v := 0) hx hb dX9_proposal_30 (by decide) ?_
      refine lv_iconst (v := 5) hx hb dX9_proposal_31 (by decide) ?_
      refine cs_i (As := [.int x, .int 0, .int 5]) (rest := [.ref w]) ⟨hx, hb, hml, hown, hts⟩ (c_X9_in hT (x := x) (y := 0) (z := 5)) (va_cwS 3 hts gX9_proposal_X9_in rfl rfl rfl hdX9_in_o ⟨Nat.le_of_ble_eq_true rfl, Nat.le_of_ble_eq_true rfl⟩) hN hE hL rfl rfl hl.1 (Nat.le_of_ble_eq_true rfl) dX9_proposal_32 (Nat.zero_le _) (Nat.zero_le _) (fun r1035 H1 locs hL hqr1035 => ?_)
      obtain ⟨h9, hqr1035⟩ := hqr1035; replace h9 := h9.symm; subst h9
      rcases hqr1035 with ⟨rfl, o1036⟩ | ⟨rfl, l1037, g1038⟩
      · refine lv_if_ne (tgt := 42) hx hb dX9_proposal_35 (by decide) (fun c9 => absurd (by decide) c9) (fun _ => ?_)
        refine lv_iconst (v := 1) hx hb dX9_proposal_38 (by decide) ?_
        refine lv_goto (tgt := 43) hx hb dX9_proposal_39 (by decide) ?_
        refine lv_iconst (v := 2) hx hb dX9_proposal_43 (by decide) ?_
        refine cv_i (As := [.int 1, .int 2]) (rest := []) (b := w) ⟨hx, hb, hml, hown, hts⟩ (c_X9_fails hT (w := w) hw (x := 1) (z := 2) ((by decide))) (cwV 2 hts gX9_proposal_X9_fails rfl rfl rfl hdX9_fails_v ⟨Nat.le_of_ble_eq_true rfl, Nat.le_of_ble_eq_true rfl⟩) hN hE hL (rcv10 hN hT hw.1) rfl rfl hl.1 (Nat.le_of_ble_eq_true rfl) dX9_proposal_44 (Nat.zero_le _) (Nat.zero_le _) (fun r1039 H1 locs hL hqr1039 => ?_)
        obtain ⟨hT1, hF1, hqr1039⟩ := hqr1039
        have hP : va_P D vwCl [((κ w).2.2.2, .inl (cs 0, 45783, .inl g1030))] _ := hF1.hP (hP.sub [0] rfl) (fa_c ⟨by rw [t1029_8.1]; decide, by rw [t1029_8.2]; first | decide | (simp; done) | (simp; omega)⟩ fa_n)
        have hF := hF.tr (hF1.mono (by simp))
        have hT := hT1
        rcases hqr1039 with rfl | ⟨rfl, e1040⟩
        · refine lv_if_eq (tgt := 54) hx hb dX9_proposal_47 (by decide) (fun c9 => absurd c9 (by decide)) (fun _ => ?_)
          refine lv_iconst (v := 0) hx hb dX9_proposal_50 (by decide) ?_
          refine lv_goto (tgt := 63) hx hb dX9_proposal_51 (by decide) ?_
          exact en_i hx hb hr hlocks hL rfl (Nat.zero_le _) (Nat.zero_le _) dX9_proposal_63 (⟨hT, hF⟩)
        · exact absurd e1040 (by decide)
      · refine lv_if_ne (tgt := 42) hx hb dX9_proposal_35 (by decide) (fun _ => ?_) (fun c9 => absurd c9 (by decide))
        refine lv_iconst (v := 0) hx hb dX9_proposal_42 (by decide) ?_
        refine lv_iconst (v := 2) hx hb dX9_proposal_43 (by decide) ?_
        refine cv_i (As := [.int 0, .int 2]) (rest := []) (b := w) ⟨hx, hb, hml, hown, hts⟩ (c_X9_fails hT (w := w) hw (x := 0) (z := 2) ((by decide))) (cwV 2 hts gX9_proposal_X9_fails rfl rfl rfl hdX9_fails_v ⟨Nat.le_of_ble_eq_true rfl, Nat.le_of_ble_eq_true rfl⟩) hN hE hL (rcv10 hN hT hw.1) rfl rfl hl.1 (Nat.le_of_ble_eq_true rfl) dX9_proposal_44 (Nat.zero_le _) (Nat.zero_le _) (fun r1041 H1 locs hL hqr1041 => ?_)
        obtain ⟨hT1, hF1, hqr1041⟩ := hqr1041
        have hP : va_P D vwCl [((κ w).2.2.2, .inl (cs 0, 45783, .inl g1030))] _ := hF1.hP (hP.sub [0] rfl) (fa_c ⟨by rw [t1029_8.1]; decide, by rw [t1029_8.2]; first | decide | (simp; done) | (simp; omega)⟩ fa_n)
        have hF := hF.tr (hF1.mono (by simp))
        have hT := hT1
        rcases hqr1041 with rfl | ⟨rfl, e1042⟩
        · refine lv_if_eq (tgt := 54) hx hb dX9_proposal_47 (by decide) (fun c9 => absurd c9 (by decide)) (fun _ => ?_)
          refine lv_iconst (v := 0) hx hb dX9_proposal_50 (by decide) ?_
          refine lv_goto (tgt := 63) hx hb dX9_proposal_51 (by decide) ?_
          exact en_i hx hb hr hlocks hL rfl (Nat.zero_le _) (Nat.zero_le _) dX9_proposal_63 (⟨hT, hF⟩)
        · refine lv_if_eq (tgt := 54) hx hb dX9_proposal_47 (by decide) (fun _ => ?_) (fun c9 => absurd (by decide) c9)
          obtain ⟨n1043, ln1043, hn1043, rfl⟩ := rng (lo := 0) (hi := 5) (by decide) (by decide) l1037 g1038
          refine lv_aload_n hx hb dX9_proposal_54 rfl (lv_at hl 0 rfl) ?_
          obtain ⟨hb1044, e1044, hat1044, hk1044⟩ := hT.o10 hw.1
          obtain ⟨f1044_0, f1044_1, f1044_3, f1044_4, f1044_5, f1044_6, f1044_7, f1044_9, f1044_10, f1044_11, f1044_12, f1044_13, f1044_14, f1044_15, f1044_16, f1044_17, rfl, c1044_2, c1044_3, c1044_4, c1044_12, t1044_1, t1044_8, t1044_9, c1044_sd, t1044_10, t1044_11, t1044_17⟩ := hk1044
          have hP : va_P D vwCl [(w, .inr (9, [.int f1044_0, .ref f1044_1, .int (nI ((κ w).2.2.1)), .int (nI f1044_3), .int (nI f1044_4), .int f1044_5, .int f1044_6, .int f1044_7, .ref (κ w).2.2.2, .ref f1044_9, .ref f1044_10, .ref f1044_11, .int (nI f1044_12), .int f1044_13, .int f1044_14, .int f1044_15, .int f1044_16, .ref f1044_17])), ((κ w).2.2.2, .inl (cs 0, 45783, .inl g1030))] _ := va_P.cons hat1044 hP
          refine va_get (D := D) (ci := 9) (v := .ref (κ w).2.2.2) (C := RX9) (T := TX9) (N := 18) hx hb hts iX9_proposal_9 hown hN.1 hP 0 rfl rfl 8 (by decide) (hts _ mX9_proposal_2) (fun _ h9 => h9) rfl dX9_proposal_55 ?_
          refine lv_bipush (v := 15) hx hb dX9_proposal_58 (by decide) ?_
          refine lv_iload_n hx hb dX9_proposal_60 rfl (lv_at hl 1 rfl) ?_
          refine lv_iadd hx hb dX9_proposal_61 ?_
          refine tp_i (nI (15 + n1043)) (nI_add 15 n1043) ?_
          refine ld_i (v := (g1030 (15 + n1043))) hx hb hN hP 1 rfl (vp_in_nI (n := (15 + n1043)) (N := 45783) (by omega) (by omega)) (by rw [(show ((nI (15 + n1043)) : Int32).toNatClampNeg = (15 + n1043) from nI_clamp (n := (15 + n1043)) (by omega))]) dX9_proposal_62 ?_
          refine gn_i (fun x1045 => ?_)
          exact en_i hx hb hr hlocks hL rfl (Nat.zero_le _) (Nat.zero_le _) dX9_proposal_63 (⟨hT, hF⟩)
  · refine lv_iconst (v := 1) hx hb dX9_proposal_16 (by decide) ?_
    refine lv_goto (tgt := 21) hx hb dX9_proposal_17 (by decide) ?_
    refine lv_iconst (v := 1) hx hb dX9_proposal_21 (by decide) ?_
    have hT : WT B0 D cs T κ _ := hT.close hB ⟨⟨0, _, rfl, ok_10 hw.1 ⟨_, _, _, _, _, _, _, _, _, _, _, _, _, _, _, _, rfl, (by omega), (by omega), (by omega), (by omega), t1029_1, t1029_8, t1029_9, c1029_sd, t1029_10, t1029_11, t1029_17⟩⟩, trivial⟩
    have hF : Fr B0 [12] κ H0 _ := hF.close hB (fa_c (by simp [hw.2]) fa_n)
    have hL : OkL B0 _ := hB.2.2.2.2.2
    have hP : va_P D vwCl [(w, .inr (9, [.int 0, .ref f1029_1, .int (nI ((κ w).2.2.1)), .int (nI f1029_3), .int (nI f1029_4), .int f1029_5, .int f1029_6, .int f1029_7, .ref (κ w).2.2.2, .ref f1029_9, .ref f1029_10, .ref f1029_11, .int (nI f1029_12), .int f1029_13, .int f1029_14, .int f1029_15, .int f1029_16, .ref f1029_17])), ((κ w).2.2.2, .inl (cs 0, 45783, .inl g1030))] _ := hB.1
    refine cv_i (As := [.int 1, .int 1]) (rest := []) (b := w) ⟨hx, hb, hml, hown, hts⟩ (c_X9_fails hT (w := w) hw (x := 1) (z := 1) ((by decide))) (cwV 2 hts gX9_proposal_X9_fails rfl rfl rfl hdX9_fails_v ⟨Nat.le_of_ble_eq_true rfl, Nat.le_of_ble_eq_true rfl⟩) hN hE hL (rcv10 hN hT hw.1) rfl rfl hl.1 (Nat.le_of_ble_eq_true rfl) dX9_proposal_22 (Nat.zero_le _) (Nat.zero_le _) (fun r1046 H1 locs hL hqr1046 => ?_)
    obtain ⟨hT1, hF1, hqr1046⟩ := hqr1046
    have hP : va_P D vwCl [((κ w).2.2.2, .inl (cs 0, 45783, .inl g1030))] _ := hF1.hP (hP.sub [1] rfl) (fa_c ⟨by rw [t1029_8.1]; decide, by rw [t1029_8.2]; first | decide | (simp; done) | (simp; omega)⟩ fa_n)
    have hF := hF.tr (hF1.mono (by simp))
    have hT := hT1
    rcases hqr1046 with rfl | ⟨rfl, e1047⟩
    · refine lv_if_ne (tgt := 50) hx hb dX9_proposal_25 (by decide) (fun _ => ?_) (fun c9 => absurd c9 (by decide))
      refine lv_iconst (v := 0) hx hb dX9_proposal_50 (by decide) ?_
      refine lv_goto (tgt := 63) hx hb dX9_proposal_51 (by decide) ?_
      exact en_i hx hb hr hlocks hL rfl (Nat.zero_le _) (Nat.zero_le _) dX9_proposal_63 (⟨hT, hF⟩)
    · exact absurd e1047 (by decide)
theorem mX9_foretold_1 : (.fieldLink RX9 40 "OneBeatModel" "thrown" "I" : Cond) ∈ wsX9_foretold := List.mem_of_getElem? (i := 1) (by decide +kernel)
theorem iX9_foretold_9 : ∀ w ∈ wsX90, w ∈ wsX9_foretold := fun w h => List.mem_of_mem_drop (List.mem_of_mem_take ((show wsX90 = (wsX9_foretold.drop 101).take 18 by decide +kernel) ▸ h))
theorem mX9_foretold_2 : (.fieldLink RX9 18 "OneBeatModel" "data" "[I" : Cond) ∈ wsX9_foretold := List.mem_of_getElem? (i := 2) (by decide +kernel)
theorem mX9_foretold_3 : (.fieldLink RX9 21 "OneBeatModel" "aside" "[I" : Cond) ∈ wsX9_foretold := List.mem_of_getElem? (i := 3) (by decide +kernel)
theorem hdX9_goOn_v : yX9_goOn.cls = RX9 ∧ yX9_goOn.cls ≠ "java/lang/invoke/MethodHandle" ∧ yX9_goOn.cls ≠ "java/lang/invoke/VarHandle" ∧ (parseMethodDescriptor yX9_goOn.desc).map (fun d => d.parameters.length) = some 0 := by decide +kernel
set_option maxHeartbeats 4000000 in
set_option maxRecDepth 100000 in
theorem c_X9_foretold {l : Launch} {D : va_G} {cs : Nat → ClassId} {B0 T : Nat} {κ : KM} {H0 : Heap} (hT : WT B0 D cs T κ H0) {w : Nat} (hw : T2 κ w 10 12) {x : Int32} : KC l yX9_foretold wsX9_foretold 8 188 0 0 D cs B0 H0 [.ref w, .int x] (Qi (fun _ H => WT B0 D cs (T + 400) κ H ∧ Fr B0 [12, 18] κ H0 H)) := by
  refine KC.of cX9_foretold 5 (some .int) (by decide) rfl (Nat.le_of_ble_eq_true rfl) ?_
  intro p e s m below meth c ls hx hb hr hml hown hts hlocks hin hN hE hH0 hl
  have hown : s.vm.findClass RX9 = some m.cls := hown
  have hl : lv_has ls 5 [(0, .ref w), (1, .int x)] := hl
  have hL : OkL B0 [] := OkL.nil
  have hF : Fr B0 [12, 18] κ H0 H0 := Fr.rf
  refine lv_aload_n hx hb dX9_foretold_0 rfl (lv_at hl 0 rfl) ?_
  refine lv_iconst (v := 0) hx hb dX9_foretold_1 (by decide) ?_
  obtain ⟨hb1048, e1048, hat1048, hk1048⟩ := hT.o10 hw.1
  obtain ⟨f1048_0, f1048_1, f1048_3, f1048_4, f1048_5, f1048_6, f1048_7, f1048_9, f1048_10, f1048_11, f1048_12, f1048_13, f1048_14, f1048_15, f1048_16, f1048_17, rfl, c1048_2, c1048_3, c1048_4, c1048_12, t1048_1, t1048_8, t1048_9, c1048_sd, t1048_10, t1048_11, t1048_17⟩ := hk1048
  have hP : va_P D vwCl [(w, .inr (9, [.int f1048_0, .ref f1048_1, .int (nI ((κ w).2.2.1)), .int (nI f1048_3), .int (nI f1048_4), .int f1048_5, .int f1048_6, .int f1048_7, .ref (κ w).2.2.2, .ref f1048_9, .ref f1048_10, .ref f1048_11, .int (nI f1048_12), .int f1048_13, .int f1048_14, .int f1048_15, .int f1048_16, .ref f1048_17]))] _ := va_P.cons hat1048 va_P.nil
  have hB : Bx B0 D _ [(w, .inr (9, [.int f1048_0, .ref f1048_1, .int (nI ((κ w).2.2.1)), .int (nI f1048_3), .int (nI f1048_4), .int f1048_5, .int f1048_6, .int f1048_7, .ref (κ w).2.2.2, .ref f1048_9, .ref f1048_10, .ref f1048_11, .int (nI f1048_12), .int f1048_13, .int f1048_14, .int f1048_15, .int f1048_16, .ref f1048_17]))] [] _ _ := Bx.of (fun a => (κ a).1) hL hP (fa_c hb1048 fa_n) (by simp only [List.map_cons, List.map_nil, hw.1]; decide)
  refine b_put (D := D) (ci := 9) (v := .int 0) (ty := .int) (C := RX9) (T := TX9) (N := 18) hx hb hts iX9_foretold_9 tyX9 tyX9_ok nmX9 hown hN hB 0 rfl rfl 0 (by decide) (hts _ mX9_foretold_1) (fun _ h9 => h9) rfl (by decide +kernel) rfl rfl (Nat.le_of_ble_eq_true rfl) (.inl rfl) dX9_foretold_2 (fun H locs hB => ?_)
  have hB : Bx B0 D _ [(w, .inr (9, [.int 0, .ref f1048_1, .int (nI ((κ w).2.2.1)), .int (nI f1048_3), .int (nI f1048_4), .int f1048_5, .int f1048_6, .int f1048_7, .ref (κ w).2.2.2, .ref f1048_9, .ref f1048_10, .ref f1048_11, .int (nI f1048_12), .int f1048_13, .int f1048_14, .int f1048_15, .int f1048_16, .ref f1048_17]))] [w] _ _ := hB
  refine lv_aload_n hx hb dX9_foretold_5 rfl (lv_at hl 0 rfl) ?_
  refine lv_iload_n hx hb dX9_foretold_6 rfl (lv_at hl 1 rfl) ?_
  refine lv_iconst (v := 0) hx hb dX9_foretold_7 (by decide) ?_
  refine lv_iconst (v := 4) hx hb dX9_foretold_8 (by decide) ?_
  have hT : WT B0 D cs T κ _ := hT.close hB ⟨⟨0, _, rfl, ok_10 hw.1 ⟨_, _, _, _, _, _, _, _, _, _, _, _, _, _, _, _, rfl, (by omega), (by omega), (by omega), (by omega), t1048_1, t1048_8, t1048_9, c1048_sd, t1048_10, t1048_11, t1048_17⟩⟩, trivial⟩
  have hF : Fr B0 [12, 18] κ H0 _ := hF.close hB (fa_c (by simp [hw.2]) fa_n)
  have hL : OkL B0 _ := hB.2.2.2.2.2
  have hP : va_P D vwCl [(w, .inr (9, [.int 0, .ref f1048_1, .int (nI ((κ w).2.2.1)), .int (nI f1048_3), .int (nI f1048_4), .int f1048_5, .int f1048_6, .int f1048_7, .ref (κ w).2.2.2, .ref f1048_9, .ref f1048_10, .ref f1048_11, .int (nI f1048_12), .int f1048_13, .int f1048_14, .int f1048_15, .int f1048_16, .ref f1048_17]))] _ := hB.1
  refine cs_i (As := [.int x, .int 0, .int 4]) (rest := [.ref w]) ⟨hx, hb, hml, hown, hts⟩ (c_X9_in hT (x := x) (y := 0) (z := 4)) (va_cwS 3 hts gX9_foretold_X9_in rfl rfl rfl hdX9_in_o ⟨Nat.le_of_ble_eq_true rfl, Nat.le_of_ble_eq_true rfl⟩) hN hE hL rfl rfl hl.1 (Nat.le_of_ble_eq_true rfl) dX9_foretold_9 (Nat.zero_le _) (Nat.zero_le _) (fun r1049 H1 locs hL hqr1049 => ?_)
  obtain ⟨h9, hqr1049⟩ := hqr1049; replace h9 := h9.symm; subst h9
  rcases hqr1049 with ⟨rfl, o1050⟩ | ⟨rfl, l1051, g1052⟩
  · refine lv_if_ne (tgt := 19) hx hb dX9_foretold_12 (by decide) (fun c9 => absurd (by decide) c9) (fun _ => ?_)
    refine lv_iconst (v := 1) hx hb dX9_foretold_15 (by decide) ?_
    refine lv_goto (tgt := 20) hx hb dX9_foretold_16 (by decide) ?_
    refine lv_iconst (v := 1) hx hb dX9_foretold_20 (by decide) ?_
    refine cv_i (As := [.int 1, .int 1]) (rest := []) (b := w) ⟨hx, hb, hml, hown, hts⟩ (c_X9_fails hT (w := w) hw (x := 1) (z := 1) ((by decide))) (cwV 2 hts gX9_foretold_X9_fails rfl rfl rfl hdX9_fails_v ⟨Nat.le_of_ble_eq_true rfl, Nat.le_of_ble_eq_true rfl⟩) hN hE hL (rcv10 hN hT hw.1) rfl rfl hl.1 (Nat.le_of_ble_eq_true rfl) dX9_foretold_21 (Nat.zero_le _) (Nat.zero_le _) (fun r1053 H1 locs hL hqr1053 => ?_)
    obtain ⟨hT1, hF1, hqr1053⟩ := hqr1053
    have hF := hF.tr (hF1.mono (by simp))
    have hT := hT1
    rcases hqr1053 with rfl | ⟨rfl, e1054⟩
    · refine lv_if_eq (tgt := 29) hx hb dX9_foretold_24 (by decide) (fun c9 => absurd c9 (by decide)) (fun _ => ?_)
      refine lv_iconst (v := 0) hx hb dX9_foretold_27 (by decide) ?_
      exact en_i hx hb hr hlocks hL rfl (Nat.zero_le _) (Nat.zero_le _) dX9_foretold_28 (⟨hT.up (by omega), hF⟩)
    · exact absurd e1054 (by decide)
  · refine lv_if_ne (tgt := 19) hx hb dX9_foretold_12 (by decide) (fun _ => ?_) (fun c9 => absurd c9 (by decide))
    refine lv_iconst (v := 0) hx hb dX9_foretold_19 (by decide) ?_
    refine lv_iconst (v := 1) hx hb dX9_foretold_20 (by decide) ?_
    refine cv_i (As := [.int 0, .int 1]) (rest := []) (b := w) ⟨hx, hb, hml, hown, hts⟩ (c_X9_fails hT (w := w) hw (x := 0) (z := 1) ((by decide))) (cwV 2 hts gX9_foretold_X9_fails rfl rfl rfl hdX9_fails_v ⟨Nat.le_of_ble_eq_true rfl, Nat.le_of_ble_eq_true rfl⟩) hN hE hL (rcv10 hN hT hw.1) rfl rfl hl.1 (Nat.le_of_ble_eq_true rfl) dX9_foretold_21 (Nat.zero_le _) (Nat.zero_le _) (fun r1055 H1 locs hL hqr1055 => ?_)
    obtain ⟨hT1, hF1, hqr1055⟩ := hqr1055
    have hF := hF.tr (hF1.mono (by simp))
    have hT := hT1
    rcases hqr1055 with rfl | ⟨rfl, e1056⟩
    · refine lv_if_eq (tgt := 29) hx hb dX9_foretold_24 (by decide) (fun c9 => absurd c9 (by decide)) (fun _ => ?_)
      refine lv_iconst (v := 0) hx hb dX9_foretold_27 (by decide) ?_
      exact en_i hx hb hr hlocks hL rfl (Nat.zero_le _) (Nat.zero_le _) dX9_foretold_28 (⟨hT.up (by omega), hF⟩)
    · refine lv_if_eq (tgt := 29) hx hb dX9_foretold_24 (by decide) (fun _ => ?_) (fun c9 => absurd (by decide) c9)
      refine lv_aload_n hx hb dX9_foretold_29 rfl (lv_at hl 0 rfl) ?_
      obtain ⟨hb1057, e1057, hat1057, hk1057⟩ := hT.o10 hw.1
      obtain ⟨f1057_0, f1057_1, f1057_3, f1057_4, f1057_5, f1057_6, f1057_7, f1057_9, f1057_10, f1057_11, f1057_12, f1057_13, f1057_14, f1057_15, f1057_16, f1057_17, rfl, c1057_2, c1057_3, c1057_4, c1057_12, t1057_1, t1057_8, t1057_9, c1057_sd, t1057_10, t1057_11, t1057_17⟩ := hk1057
      have hP : va_P D vwCl [(w, .inr (9, [.int f1057_0, .ref f1057_1, .int (nI ((κ w).2.2.1)), .int (nI f1057_3), .int (nI f1057_4), .int f1057_5, .int f1057_6, .int f1057_7, .ref (κ w).2.2.2, .ref f1057_9, .ref f1057_10, .ref f1057_11, .int (nI f1057_12), .int f1057_13, .int f1057_14, .int f1057_15, .int f1057_16, .ref f1057_17]))] _ := va_P.cons hat1057 va_P.nil
      refine va_get (D := D) (ci := 9) (v := .ref (κ w).2.2.2) (C := RX9) (T := TX9) (N := 18) hx hb hts iX9_foretold_9 hown hN.1 hP 0 rfl rfl 8 (by decide) (hts _ mX9_foretold_2) (fun _ h9 => h9) rfl dX9_foretold_30 ?_
      refine lv_aload_n hx hb dX9_foretold_33 rfl (lv_at hl 0 rfl) ?_
      refine va_get (D := D) (ci := 9) (v := .ref f1057_9) (C := RX9) (T := TX9) (N := 18) hx hb hts iX9_foretold_9 hown hN.1 hP 0 rfl rfl 9 (by decide) (hts _ mX9_foretold_3) (fun _ h9 => h9) rfl dX9_foretold_34 ?_
      refine cs_v (As := [.ref (κ w).2.2.2, .ref f1057_9]) (rest := []) ⟨hx, hb, hml, hown, hts⟩ (c_X9_copyD hT (a := (κ w).2.2.2) t1057_8 (b := f1057_9) t1057_9 (ne_c t1057_8.1 t1057_9.1 (by decide)) (by first | omega | decide | assumption) (by first | omega | decide | assumption)) (va_cwS 2 hts gX9_foretold_X9_copy rfl rfl rfl hdX9_copy_o ⟨Nat.le_of_ble_eq_true rfl, Nat.le_of_ble_eq_true rfl⟩) hN hE hL rfl rfl hl.1 (Nat.le_of_ble_eq_true rfl) dX9_foretold_37 (Nat.zero_le _) (Nat.zero_le _) (fun H1 locs hL hqr1058 => ?_)
      obtain ⟨hT1, hF1⟩ := hqr1058
      have hP : va_P D vwCl [(w, .inr (9, [.int f1057_0, .ref f1057_1, .int (nI ((κ w).2.2.1)), .int (nI f1057_3), .int (nI f1057_4), .int f1057_5, .int f1057_6, .int f1057_7, .ref (κ w).2.2.2, .ref f1057_9, .ref f1057_10, .ref f1057_11, .int (nI f1057_12), .int f1057_13, .int f1057_14, .int f1057_15, .int f1057_16, .ref f1057_17]))] _ := hF1.hP (hP.sub [0] rfl) (fa_c ⟨by rw [hw.1]; decide, by rw [hw.2]; first | decide | (simp; done) | (simp; omega)⟩ fa_n)
      have hF := hF.tr (hF1.mono (by simp))
      have hT := hT1
      refine lv_aload_n hx hb dX9_foretold_40 rfl (lv_at hl 0 rfl) ?_
      refine va_get (D := D) (ci := 9) (v := .ref (κ w).2.2.2) (C := RX9) (T := TX9) (N := 18) hx hb hts iX9_foretold_9 hown hN.1 hP 0 rfl rfl 8 (by decide) (hts _ mX9_foretold_2) (fun _ h9 => h9) rfl dX9_foretold_41 ?_
      refine lv_bipush (v := 10) hx hb dX9_foretold_44 (by decide) ?_
      obtain ⟨hb1059, e1059, hat1059, hk1059⟩ := hT.o24 t1057_8.1
      obtain ⟨g1059, rfl, q1059⟩ := hk1059
      have hP : va_P D vwCl [((κ w).2.2.2, .inl (cs 0, 45783, .inl g1059)), (w, .inr (9, [.int f1057_0, .ref f1057_1, .int (nI ((κ w).2.2.1)), .int (nI f1057_3), .int (nI f1057_4), .int f1057_5, .int f1057_6, .int f1057_7, .ref (κ w).2.2.2, .ref f1057_9, .ref f1057_10, .ref f1057_11, .int (nI f1057_12), .int f1057_13, .int f1057_14, .int f1057_15, .int f1057_16, .ref f1057_17]))] _ := va_P.cons hat1059 hP
      refine ld_i (v := (g1059 10)) hx hb hN hP 0 rfl (vp_in_nI (n := 10) (N := 45783) (by omega) (by omega)) (by rw [(show (10 : Int32).toNatClampNeg = 10 from nI_clamp (n := 10) (by omega))]) dX9_foretold_46 ?_
      refine gn_i (fun x1060 => ?_)
      refine lv_istore_n (lv' := [(2, .int x1060), (0, .ref w), (1, .int x)]) hx hb dX9_foretold_47 rfl hl (by decide) rfl (fun ls hl => ?_)
      refine lv_aload_n hx hb dX9_foretold_48 rfl (lv_at hl 1 rfl) ?_
      refine cv_i (As := []) (rest := []) (b := w) ⟨hx, hb, hml, hown, hts⟩ (c_X9_goOn hT (w := w) hw) (cwV 0 hts gX9_foretold_X9_goOn rfl rfl rfl hdX9_goOn_v ⟨Nat.le_of_ble_eq_true rfl, Nat.le_of_ble_eq_true rfl⟩) hN hE hL (rcv10 hN hT hw.1) rfl rfl hl.1 (Nat.le_of_ble_eq_true rfl) dX9_foretold_49 (Nat.zero_le _) (Nat.zero_le _) (fun r1061 H1 locs hL hqr1061 => ?_)
      obtain ⟨hT1, hF1⟩ := hqr1061
      have hP : va_P D vwCl [(w, .inr (9, [.int f1057_0, .ref f1057_1, .int (nI ((κ w).2.2.1)), .int (nI f1057_3), .int (nI f1057_4), .int f1057_5, .int f1057_6, .int f1057_7, .ref (κ w).2.2.2, .ref f1057_9, .ref f1057_10, .ref f1057_11, .int (nI f1057_12), .int f1057_13, .int f1057_14, .int f1057_15, .int f1057_16, .ref f1057_17]))] _ := hF1.hP (hP.sub [1] rfl) (fa_c ⟨by rw [hw.1]; decide, by rw [hw.2]; first | decide | (simp; done) | (simp; omega)⟩ fa_n)
      have hF := hF.tr (hF1.mono (by simp))
      have hT := hT1
      refine lv_istore_n (lv' := [(3, .int r1061), (2, .int x1060), (0, .ref w), (1, .int x)]) hx hb dX9_foretold_52 rfl hl (by decide) rfl (fun ls hl => ?_)
      refine lv_iload_n hx hb dX9_foretold_53 rfl (lv_at hl 3 rfl) ?_
      refine lv_if_ne (tgt := 61) hx hb dX9_foretold_54 (by decide) (fun c1062 => ?_) (fun c1062 => ?_)
      · refine lv_iload_n hx hb dX9_foretold_61 rfl (lv_at hl 3 rfl) ?_
        refine lv_iconst (v := 1) hx hb dX9_foretold_62 (by decide) ?_
        refine lv_icmp_ne (tgt := 90) hx hb dX9_foretold_63 (by decide) (fun c1063 => ?_) (fun c1063 => ?_)
        · refine lv_iload_n hx hb dX9_foretold_90 rfl (lv_at hl 3 rfl) ?_
          refine lv_iconst (v := 2) hx hb dX9_foretold_91 (by decide) ?_
          refine lv_icmp_ne (tgt := 102) hx hb dX9_foretold_92 (by decide) (fun c1064 => ?_) (fun c1064 => ?_)
          · refine lv_iload_n hx hb dX9_foretold_102 rfl (lv_at hl 3 rfl) ?_
            refine lv_iconst (v := 3) hx hb dX9_foretold_103 (by decide) ?_
            refine lv_icmp_ne (tgt := 114) hx hb dX9_foretold_104 (by decide) (fun c1065 => ?_) (fun c1065 => ?_)
            · refine lv_aload_n hx hb dX9_foretold_114 rfl (lv_at hl 2 rfl) ?_
              refine va_get (D := D) (ci := 9) (v := .ref (κ w).2.2.2) (C := RX9) (T := TX9) (N := 18) hx hb hts iX9_foretold_9 hown hN.1 hP 0 rfl rfl 8 (by decide) (hts _ mX9_foretold_2) (fun _ h9 => h9) rfl dX9_foretold_115 ?_
              refine lv_bipush (v := 10) hx hb dX9_foretold_118 (by decide) ?_
              obtain ⟨hb1066, e1066, hat1066, hk1066⟩ := hT.o24 t1057_8.1
              obtain ⟨g1066, rfl, q1066⟩ := hk1066
              have hP : va_P D vwCl [((κ w).2.2.2, .inl (cs 0, 45783, .inl g1066)), (w, .inr (9, [.int f1057_0, .ref f1057_1, .int (nI ((κ w).2.2.1)), .int (nI f1057_3), .int (nI f1057_4), .int f1057_5, .int f1057_6, .int f1057_7, .ref (κ w).2.2.2, .ref f1057_9, .ref f1057_10, .ref f1057_11, .int (nI f1057_12), .int f1057_13, .int f1057_14, .int f1057_15, .int f1057_16, .ref f1057_17]))] _ := va_P.cons hat1066 hP
              refine ld_i (v := (g1066 10)) hx hb hN hP 0 rfl (vp_in_nI (n := 10) (N := 45783) (by omega) (by omega)) (by rw [(show (10 : Int32).toNatClampNeg = 10 from nI_clamp (n := 10) (by omega))]) dX9_foretold_120 ?_
              refine gn_i (fun x1067 => ?_)
              refine lv_iload_n hx hb dX9_foretold_121 rfl (lv_at hl 1 rfl) ?_
              refine lv_isub hx hb dX9_foretold_122 ?_
              refine gn_i (fun x1068 => ?_)
              refine lv_istore (lv' := [(4, .int x1068), (3, .int r1061), (2, .int x1060), (0, .ref w), (1, .int x)]) hx hb dX9_foretold_123 hl (by decide) rfl (fun ls hl => ?_)
              refine lv_aload_n hx hb dX9_foretold_125 rfl (lv_at hl 3 rfl) ?_
              refine va_get (D := D) (ci := 9) (v := .ref f1057_9) (C := RX9) (T := TX9) (N := 18) hx hb hts iX9_foretold_9 hown hN.1 hP 1 rfl rfl 9 (by decide) (hts _ mX9_foretold_3) (fun _ h9 => h9) rfl dX9_foretold_126 ?_
              refine lv_aload_n hx hb dX9_foretold_129 rfl (lv_at hl 3 rfl) ?_
              refine va_get (D := D) (ci := 9) (v := .ref (κ w).2.2.2) (C := RX9) (T := TX9) (N := 18) hx hb hts iX9_foretold_9 hown hN.1 hP 1 rfl rfl 8 (by decide) (hts _ mX9_foretold_2) (fun _ h9 => h9) rfl dX9_foretold_130 ?_
              refine cs_v (As := [.ref f1057_9, .ref (κ w).2.2.2]) (rest := []) ⟨hx, hb, hml, hown, hts⟩ (c_X9_copyD hT (a := f1057_9) t1057_9 (b := (κ w).2.2.2) t1057_8 (ne_c t1057_9.1 t1057_8.1 (by decide)) (by first | omega | decide | assumption) (by first | omega | decide | assumption)) (va_cwS 2 hts gX9_foretold_X9_copy rfl rfl rfl hdX9_copy_o ⟨Nat.le_of_ble_eq_true rfl, Nat.le_of_ble_eq_true rfl⟩) hN hE hL rfl rfl hl.1 (Nat.le_of_ble_eq_true rfl) dX9_foretold_133 (Nat.zero_le _) (Nat.zero_le _) (fun H1 locs hL hqr1069 => ?_)
              obtain ⟨hT1, hF1⟩ := hqr1069
              have hP : va_P D vwCl [(w, .inr (9, [.int f1057_0, .ref f1057_1, .int (nI ((κ w).2.2.1)), .int (nI f1057_3), .int (nI f1057_4), .int f1057_5, .int f1057_6, .int f1057_7, .ref (κ w).2.2.2, .ref f1057_9, .ref f1057_10, .ref f1057_11, .int (nI f1057_12), .int f1057_13, .int f1057_14, .int f1057_15, .int f1057_16, .ref f1057_17]))] _ := hF1.hP (hP.sub [1] rfl) (fa_c ⟨by rw [hw.1]; decide, by rw [hw.2]; first | decide | (simp; done) | (simp; omega)⟩ fa_n)
              have hF := hF.tr (hF1.mono (by simp))
              have hT := hT1
              refine lv_iload hx hb dX9_foretold_136 (lv_at hl 0 rfl) ?_
              exact en_i hx hb hr hlocks hL rfl (Nat.zero_le _) (Nat.zero_le _) dX9_foretold_138 (⟨hT.up (by omega), hF⟩)
            · refine lv_aload_n hx hb dX9_foretold_107 rfl (lv_at hl 2 rfl) ?_
              refine cv_i (As := []) (rest := []) (b := w) ⟨hx, hb, hml, hown, hts⟩ (c_X9_songs hT (w := w) hw) (cwV 0 hts gX9_foretold_X9_songs rfl rfl rfl hdX9_songs_v ⟨Nat.le_of_ble_eq_true rfl, Nat.le_of_ble_eq_true rfl⟩) hN hE hL (rcv10 hN hT hw.1) rfl rfl hl.1 (Nat.le_of_ble_eq_true rfl) dX9_foretold_108 (Nat.zero_le _) (Nat.zero_le _) (fun r1070 H1 locs hL hqr1070 => ?_)
              obtain rfl := hqr1070.symm
              refine lv_goto (tgt := 123) hx hb dX9_foretold_111 (by decide) ?_
              refine lv_istore (lv' := [(4, .int r1070), (3, .int r1061), (2, .int x1060), (0, .ref w), (1, .int x)]) hx hb dX9_foretold_123 hl (by decide) rfl (fun ls hl => ?_)
              refine lv_aload_n hx hb dX9_foretold_125 rfl (lv_at hl 3 rfl) ?_
              refine va_get (D := D) (ci := 9) (v := .ref f1057_9) (C := RX9) (T := TX9) (N := 18) hx hb hts iX9_foretold_9 hown hN.1 hP 0 rfl rfl 9 (by decide) (hts _ mX9_foretold_3) (fun _ h9 => h9) rfl dX9_foretold_126 ?_
              refine lv_aload_n hx hb dX9_foretold_129 rfl (lv_at hl 3 rfl) ?_
              refine va_get (D := D) (ci := 9) (v := .ref (κ w).2.2.2) (C := RX9) (T := TX9) (N := 18) hx hb hts iX9_foretold_9 hown hN.1 hP 0 rfl rfl 8 (by decide) (hts _ mX9_foretold_2) (fun _ h9 => h9) rfl dX9_foretold_130 ?_
              refine cs_v (As := [.ref f1057_9, .ref (κ w).2.2.2]) (rest := []) ⟨hx, hb, hml, hown, hts⟩ (c_X9_copyD hT (a := f1057_9) t1057_9 (b := (κ w).2.2.2) t1057_8 (ne_c t1057_9.1 t1057_8.1 (by decide)) (by first | omega | decide | assumption) (by first | omega | decide | assumption)) (va_cwS 2 hts gX9_foretold_X9_copy rfl rfl rfl hdX9_copy_o ⟨Nat.le_of_ble_eq_true rfl, Nat.le_of_ble_eq_true rfl⟩) hN hE hL rfl rfl hl.1 (Nat.le_of_ble_eq_true rfl) dX9_foretold_133 (Nat.zero_le _) (Nat.zero_le _) (fun H1 locs hL hqr1071 => ?_)
              obtain ⟨hT1, hF1⟩ := hqr1071
              have hP : va_P D vwCl [(w, .inr (9, [.int f1057_0, .ref f1057_1, .int (nI ((κ w).2.2.1)), .int (nI f1057_3), .int (nI f1057_4), .int f1057_5, .int f1057_6, .int f1057_7, .ref (κ w).2.2.2, .ref f1057_9, .ref f1057_10, .ref f1057_11, .int (nI f1057_12), .int f1057_13, .int f1057_14, .int f1057_15, .int f1057_16, .ref f1057_17]))] _ := hF1.hP (hP.sub [0] rfl) (fa_c ⟨by rw [hw.1]; decide, by rw [hw.2]; first | decide | (simp; done) | (simp; omega)⟩ fa_n)
              have hF := hF.tr (hF1.mono (by simp))
              have hT := hT1
              refine lv_iload hx hb dX9_foretold_136 (lv_at hl 0 rfl) ?_
              exact en_i hx hb hr hlocks hL rfl (Nat.zero_le _) (Nat.zero_le _) dX9_foretold_138 (⟨hT.up (by omega), hF⟩)
          · refine lv_aload_n hx hb dX9_foretold_95 rfl (lv_at hl 2 rfl) ?_
            refine cv_i (As := []) (rest := []) (b := w) ⟨hx, hb, hml, hown, hts⟩ (c_X9_spreadNow hT (w := w) hw) (cwV 0 hts gX9_foretold_X9_spreadNow rfl rfl rfl hdX9_spreadNow_v ⟨Nat.le_of_ble_eq_true rfl, Nat.le_of_ble_eq_true rfl⟩) hN hE hL (rcv10 hN hT hw.1) rfl rfl hl.1 (Nat.le_of_ble_eq_true rfl) dX9_foretold_96 (Nat.zero_le _) (Nat.zero_le _) (fun r1072 H1 locs hL hqr1072 => ?_)
            obtain rfl := hqr1072.symm
            refine lv_goto (tgt := 123) hx hb dX9_foretold_99 (by decide) ?_
            refine lv_istore (lv' := [(4, .int r1072), (3, .int r1061), (2, .int x1060), (0, .ref w), (1, .int x)]) hx hb dX9_foretold_123 hl (by decide) rfl (fun ls hl => ?_)
            refine lv_aload_n hx hb dX9_foretold_125 rfl (lv_at hl 3 rfl) ?_
            refine va_get (D := D) (ci := 9) (v := .ref f1057_9) (C := RX9) (T := TX9) (N := 18) hx hb hts iX9_foretold_9 hown hN.1 hP 0 rfl rfl 9 (by decide) (hts _ mX9_foretold_3) (fun _ h9 => h9) rfl dX9_foretold_126 ?_
            refine lv_aload_n hx hb dX9_foretold_129 rfl (lv_at hl 3 rfl) ?_
            refine va_get (D := D) (ci := 9) (v := .ref (κ w).2.2.2) (C := RX9) (T := TX9) (N := 18) hx hb hts iX9_foretold_9 hown hN.1 hP 0 rfl rfl 8 (by decide) (hts _ mX9_foretold_2) (fun _ h9 => h9) rfl dX9_foretold_130 ?_
            refine cs_v (As := [.ref f1057_9, .ref (κ w).2.2.2]) (rest := []) ⟨hx, hb, hml, hown, hts⟩ (c_X9_copyD hT (a := f1057_9) t1057_9 (b := (κ w).2.2.2) t1057_8 (ne_c t1057_9.1 t1057_8.1 (by decide)) (by first | omega | decide | assumption) (by first | omega | decide | assumption)) (va_cwS 2 hts gX9_foretold_X9_copy rfl rfl rfl hdX9_copy_o ⟨Nat.le_of_ble_eq_true rfl, Nat.le_of_ble_eq_true rfl⟩) hN hE hL rfl rfl hl.1 (Nat.le_of_ble_eq_true rfl) dX9_foretold_133 (Nat.zero_le _) (Nat.zero_le _) (fun H1 locs hL hqr1073 => ?_)
            obtain ⟨hT1, hF1⟩ := hqr1073
            have hP : va_P D vwCl [(w, .inr (9, [.int f1057_0, .ref f1057_1, .int (nI ((κ w).2.2.1)), .int (nI f1057_3), .int (nI f1057_4), .int f1057_5, .int f1057_6, .int f1057_7, .ref (κ w).2.2.2, .ref f1057_9, .ref f1057_10, .ref f1057_11, .int (nI f1057_12), .int f1057_13, .int f1057_14, .int f1057_15, .int f1057_16, .ref f1057_17]))] _ := hF1.hP (hP.sub [0] rfl) (fa_c ⟨by rw [hw.1]; decide, by rw [hw.2]; first | decide | (simp; done) | (simp; omega)⟩ fa_n)
            have hF := hF.tr (hF1.mono (by simp))
            have hT := hT1
            refine lv_iload hx hb dX9_foretold_136 (lv_at hl 0 rfl) ?_
            exact en_i hx hb hr hlocks hL rfl (Nat.zero_le _) (Nat.zero_le _) dX9_foretold_138 (⟨hT.up (by omega), hF⟩)
        · refine lv_aload_n hx hb dX9_foretold_66 rfl (lv_at hl 2 rfl) ?_
          refine va_get (D := D) (ci := 9) (v := .ref (κ w).2.2.2) (C := RX9) (T := TX9) (N := 18) hx hb hts iX9_foretold_9 hown hN.1 hP 0 rfl rfl 8 (by decide) (hts _ mX9_foretold_2) (fun _ h9 => h9) rfl dX9_foretold_67 ?_
          refine lv_bipush (v := 6) hx hb dX9_foretold_70 (by decide) ?_
          obtain ⟨hb1074, e1074, hat1074, hk1074⟩ := hT.o24 t1057_8.1
          obtain ⟨g1074, rfl, q1074⟩ := hk1074
          have hP : va_P D vwCl [((κ w).2.2.2, .inl (cs 0, 45783, .inl g1074)), (w, .inr (9, [.int f1057_0, .ref f1057_1, .int (nI ((κ w).2.2.1)), .int (nI f1057_3), .int (nI f1057_4), .int f1057_5, .int f1057_6, .int f1057_7, .ref (κ w).2.2.2, .ref f1057_9, .ref f1057_10, .ref f1057_11, .int (nI f1057_12), .int f1057_13, .int f1057_14, .int f1057_15, .int f1057_16, .ref f1057_17]))] _ := va_P.cons hat1074 hP
          refine ld_i (v := (g1074 6)) hx hb hN hP 0 rfl (vp_in_nI (n := 6) (N := 45783) (by omega) (by omega)) (by rw [(show (6 : Int32).toNatClampNeg = 6 from nI_clamp (n := 6) (by omega))]) dX9_foretold_72 ?_
          refine gn_i (fun x1075 => ?_)
          refine lv_if_ne (tgt := 80) hx hb dX9_foretold_73 (by decide) (fun c1076 => ?_) (fun c1076 => ?_)
          · refine lv_aload_n hx hb dX9_foretold_80 rfl (lv_at hl 2 rfl) ?_
            refine va_get (D := D) (ci := 9) (v := .ref (κ w).2.2.2) (C := RX9) (T := TX9) (N := 18) hx hb hts iX9_foretold_9 hown hN.1 hP 1 rfl rfl 8 (by decide) (hts _ mX9_foretold_2) (fun _ h9 => h9) rfl dX9_foretold_81 ?_
            refine lv_bipush (v := 20) hx hb dX9_foretold_84 (by decide) ?_
            refine ld_i (v := (g1074 20)) hx hb hN hP 0 rfl (vp_in_nI (n := 20) (N := 45783) (by omega) (by omega)) (by rw [(show (20 : Int32).toNatClampNeg = 20 from nI_clamp (n := 20) (by omega))]) dX9_foretold_86 ?_
            refine gn_i (fun x1077 => ?_)
            refine lv_goto (tgt := 123) hx hb dX9_foretold_87 (by decide) ?_
            refine lv_istore (lv' := [(4, .int x1077), (3, .int r1061), (2, .int x1060), (0, .ref w), (1, .int x)]) hx hb dX9_foretold_123 hl (by decide) rfl (fun ls hl => ?_)
            refine lv_aload_n hx hb dX9_foretold_125 rfl (lv_at hl 3 rfl) ?_
            refine va_get (D := D) (ci := 9) (v := .ref f1057_9) (C := RX9) (T := TX9) (N := 18) hx hb hts iX9_foretold_9 hown hN.1 hP 1 rfl rfl 9 (by decide) (hts _ mX9_foretold_3) (fun _ h9 => h9) rfl dX9_foretold_126 ?_
            refine lv_aload_n hx hb dX9_foretold_129 rfl (lv_at hl 3 rfl) ?_
            refine va_get (D := D) (ci := 9) (v := .ref (κ w).2.2.2) (C := RX9) (T := TX9) (N := 18) hx hb hts iX9_foretold_9 hown hN.1 hP 1 rfl rfl 8 (by decide) (hts _ mX9_foretold_2) (fun _ h9 => h9) rfl dX9_foretold_130 ?_
            refine cs_v (As := [.ref f1057_9, .ref (κ w).2.2.2]) (rest := []) ⟨hx, hb, hml, hown, hts⟩ (c_X9_copyD hT (a := f1057_9) t1057_9 (b := (κ w).2.2.2) t1057_8 (ne_c t1057_9.1 t1057_8.1 (by decide)) (by first | omega | decide | assumption) (by first | omega | decide | assumption)) (va_cwS 2 hts gX9_foretold_X9_copy rfl rfl rfl hdX9_copy_o ⟨Nat.le_of_ble_eq_true rfl, Nat.le_of_ble_eq_true rfl⟩) hN hE hL rfl rfl hl.1 (Nat.le_of_ble_eq_true rfl) dX9_foretold_133 (Nat.zero_le _) (Nat.zero_le _) (fun H1 locs hL hqr1078 => ?_)
            obtain ⟨hT1, hF1⟩ := hqr1078
            have hP : va_P D vwCl [(w, .inr (9, [.int f1057_0, .ref f1057_1, .int (nI ((κ w).2.2.1)), .int (nI f1057_3), .int (nI f1057_4), .int f1057_5, .int f1057_6, .int f1057_7, .ref (κ w).2.2.2, .ref f1057_9, .ref f1057_10, .ref f1057_11, .int (nI f1057_12), .int f1057_13, .int f1057_14, .int f1057_15, .int f1057_16, .ref f1057_17]))] _ := hF1.hP (hP.sub [1] rfl) (fa_c ⟨by rw [hw.1]; decide, by rw [hw.2]; first | decide | (simp; done) | (simp; omega)⟩ fa_n)
            have hF := hF.tr (hF1.mono (by simp))
            have hT := hT1
            refine lv_iload hx hb dX9_foretold_136 (lv_at hl 0 rfl) ?_
            exact en_i hx hb hr hlocks hL rfl (Nat.zero_le _) (Nat.zero_le _) dX9_foretold_138 (⟨hT.up (by omega), hF⟩)
          · refine lv_iconst (v := (-1)) hx hb dX9_foretold_76 (by decide) ?_
            refine lv_goto (tgt := 123) hx hb dX9_foretold_77 (by decide) ?_
            refine lv_istore (lv' := [(4, .int (-1)), (3, .int r1061), (2, .int x1060), (0, .ref w), (1, .int x)]) hx hb dX9_foretold_123 hl (by decide) rfl (fun ls hl => ?_)
            refine lv_aload_n hx hb dX9_foretold_125 rfl (lv_at hl 3 rfl) ?_
            refine va_get (D := D) (ci := 9) (v := .ref f1057_9) (C := RX9) (T := TX9) (N := 18) hx hb hts iX9_foretold_9 hown hN.1 hP 1 rfl rfl 9 (by decide) (hts _ mX9_foretold_3) (fun _ h9 => h9) rfl dX9_foretold_126 ?_
            refine lv_aload_n hx hb dX9_foretold_129 rfl (lv_at hl 3 rfl) ?_
            refine va_get (D := D) (ci := 9) (v := .ref (κ w).2.2.2) (C := RX9) (T := TX9) (N := 18) hx hb hts iX9_foretold_9 hown hN.1 hP 1 rfl rfl 8 (by decide) (hts _ mX9_foretold_2) (fun _ h9 => h9) rfl dX9_foretold_130 ?_
            refine cs_v (As := [.ref f1057_9, .ref (κ w).2.2.2]) (rest := []) ⟨hx, hb, hml, hown, hts⟩ (c_X9_copyD hT (a := f1057_9) t1057_9 (b := (κ w).2.2.2) t1057_8 (ne_c t1057_9.1 t1057_8.1 (by decide)) (by first | omega | decide | assumption) (by first | omega | decide | assumption)) (va_cwS 2 hts gX9_foretold_X9_copy rfl rfl rfl hdX9_copy_o ⟨Nat.le_of_ble_eq_true rfl, Nat.le_of_ble_eq_true rfl⟩) hN hE hL rfl rfl hl.1 (Nat.le_of_ble_eq_true rfl) dX9_foretold_133 (Nat.zero_le _) (Nat.zero_le _) (fun H1 locs hL hqr1079 => ?_)
            obtain ⟨hT1, hF1⟩ := hqr1079
            have hP : va_P D vwCl [(w, .inr (9, [.int f1057_0, .ref f1057_1, .int (nI ((κ w).2.2.1)), .int (nI f1057_3), .int (nI f1057_4), .int f1057_5, .int f1057_6, .int f1057_7, .ref (κ w).2.2.2, .ref f1057_9, .ref f1057_10, .ref f1057_11, .int (nI f1057_12), .int f1057_13, .int f1057_14, .int f1057_15, .int f1057_16, .ref f1057_17]))] _ := hF1.hP (hP.sub [1] rfl) (fa_c ⟨by rw [hw.1]; decide, by rw [hw.2]; first | decide | (simp; done) | (simp; omega)⟩ fa_n)
            have hF := hF.tr (hF1.mono (by simp))
            have hT := hT1
            refine lv_iload hx hb dX9_foretold_136 (lv_at hl 0 rfl) ?_
            exact en_i hx hb hr hlocks hL rfl (Nat.zero_le _) (Nat.zero_le _) dX9_foretold_138 (⟨hT.up (by omega), hF⟩)
      · refine lv_iload_n hx hb dX9_foretold_57 rfl (lv_at hl 0 rfl) ?_
        refine lv_goto (tgt := 123) hx hb dX9_foretold_58 (by decide) ?_
        refine lv_istore (lv' := [(4, .int r1061), (3, .int r1061), (2, .int x1060), (0, .ref w), (1, .int x)]) hx hb dX9_foretold_123 hl (by decide) rfl (fun ls hl => ?_)
        refine lv_aload_n hx hb dX9_foretold_125 rfl (lv_at hl 3 rfl) ?_
        refine va_get (D := D) (ci := 9) (v := .ref f1057_9) (C := RX9) (T := TX9) (N := 18) hx hb hts iX9_foretold_9 hown hN.1 hP 0 rfl rfl 9 (by decide) (hts _ mX9_foretold_3) (fun _ h9 => h9) rfl dX9_foretold_126 ?_
        refine lv_aload_n hx hb dX9_foretold_129 rfl (lv_at hl 3 rfl) ?_
        refine va_get (D := D) (ci := 9) (v := .ref (κ w).2.2.2) (C := RX9) (T := TX9) (N := 18) hx hb hts iX9_foretold_9 hown hN.1 hP 0 rfl rfl 8 (by decide) (hts _ mX9_foretold_2) (fun _ h9 => h9) rfl dX9_foretold_130 ?_
        refine cs_v (As := [.ref f1057_9, .ref (κ w).2.2.2]) (rest := []) ⟨hx, hb, hml, hown, hts⟩ (c_X9_copyD hT (a := f1057_9) t1057_9 (b := (κ w).2.2.2) t1057_8 (ne_c t1057_9.1 t1057_8.1 (by decide)) (by first | omega | decide | assumption) (by first | omega | decide | assumption)) (va_cwS 2 hts gX9_foretold_X9_copy rfl rfl rfl hdX9_copy_o ⟨Nat.le_of_ble_eq_true rfl, Nat.le_of_ble_eq_true rfl⟩) hN hE hL rfl rfl hl.1 (Nat.le_of_ble_eq_true rfl) dX9_foretold_133 (Nat.zero_le _) (Nat.zero_le _) (fun H1 locs hL hqr1080 => ?_)
        obtain ⟨hT1, hF1⟩ := hqr1080
        have hP : va_P D vwCl [(w, .inr (9, [.int f1057_0, .ref f1057_1, .int (nI ((κ w).2.2.1)), .int (nI f1057_3), .int (nI f1057_4), .int f1057_5, .int f1057_6, .int f1057_7, .ref (κ w).2.2.2, .ref f1057_9, .ref f1057_10, .ref f1057_11, .int (nI f1057_12), .int f1057_13, .int f1057_14, .int f1057_15, .int f1057_16, .ref f1057_17]))] _ := hF1.hP (hP.sub [0] rfl) (fa_c ⟨by rw [hw.1]; decide, by rw [hw.2]; first | decide | (simp; done) | (simp; omega)⟩ fa_n)
        have hF := hF.tr (hF1.mono (by simp))
        have hT := hT1
        refine lv_iload hx hb dX9_foretold_136 (lv_at hl 0 rfl) ?_
        exact en_i hx hb hr hlocks hL rfl (Nat.zero_le _) (Nat.zero_le _) dX9_foretold_138 (⟨hT.up (by omega), hF⟩)
theorem mX9_isSafe_1 : (.fieldLink RX9 18 "OneBeatModel" "data" "[I" : Cond) ∈ wsX9_isSafe := List.mem_of_getElem? (i := 1) (by decide +kernel)
theorem iX9_isSafe_9 : ∀ w ∈ wsX90, w ∈ wsX9_isSafe := fun w h => List.mem_of_mem_drop (List.mem_of_mem_take ((show wsX90 = (wsX9_isSafe.drop 85).take 18 by decide +kernel) ▸ h))
theorem hdX9_proposeNow_v : yX9_proposeNow.cls = RX9 ∧ yX9_proposeNow.cls ≠ "java/lang/invoke/MethodHandle" ∧ yX9_proposeNow.cls ≠ "java/lang/invoke/VarHandle" ∧ (parseMethodDescriptor yX9_proposeNow.desc).map (fun d => d.parameters.length) = some 2 := by decide +kernel
set_option maxHeartbeats 4000000 in
set_option maxRecDepth 100000 in
theorem c_X9_isSafe {l : Launch} {D : va_G} {cs : Nat → ClassId} {B0 T : Nat} {κ : KM} {H0 : Heap} (hT : WT B0 D cs T κ H0) {w : Nat} (hw : T2 κ w 10 12) {x : Int32} : KC l yX9_isSafe wsX9_isSafe 8 188 0 0 D cs B0 H0 [.ref w, .int x] (Qi (fun r H => WT B0 D cs (T + 400) κ H ∧ Fr B0 [18] κ H0 H ∧ (r = 0 ∨ r = 1))) := by
  refine KC.of cX9_isSafe 3 (some .boolean) (by decide) rfl (Nat.le_of_ble_eq_true rfl) ?_
  intro p e s m below meth c ls hx hb hr hml hown hts hlocks hin hN hE hH0 hl
  have hown : s.vm.findClass RX9 = some m.cls := hown
  have hl : lv_has ls 3 [(0, .ref w), (1, .int x)] := hl
  have hL : OkL B0 [] := OkL.nil
  have hF : Fr B0 [18] κ H0 H0 := Fr.rf
  refine lv_aload_n hx hb dX9_isSafe_0 rfl (lv_at hl 0 rfl) ?_
  obtain ⟨hb1081, e1081, hat1081, hk1081⟩ := hT.o10 hw.1
  obtain ⟨f1081_0, f1081_1, f1081_3, f1081_4, f1081_5, f1081_6, f1081_7, f1081_9, f1081_10, f1081_11, f1081_12, f1081_13, f1081_14, f1081_15, f1081_16, f1081_17, rfl, c1081_2, c1081_3, c1081_4, c1081_12, t1081_1, t1081_8, t1081_9, c1081_sd, t1081_10, t1081_11, t1081_17⟩ := hk1081
  have hP : va_P D vwCl [(w, .inr (9, [.int f1081_0, .ref f1081_1, .int (nI ((κ w).2.2.1)), .int (nI f1081_3), .int (nI f1081_4), .int f1081_5, .int f1081_6, .int f1081_7, .ref (κ w).2.2.2, .ref f1081_9, .ref f1081_10, .ref f1081_11, .int (nI f1081_12), .int f1081_13, .int f1081_14, .int f1081_15, .int f1081_16, .ref f1081_17]))] _ := va_P.cons hat1081 va_P.nil
  refine va_get (D := D) (ci := 9) (v := .ref (κ w).2.2.2) (C := RX9) (T := TX9) (N := 18) hx hb hts iX9_isSafe_9 hown hN.1 hP 0 rfl rfl 8 (by decide) (hts _ mX9_isSafe_1) (fun _ h9 => h9) rfl dX9_isSafe_1 ?_
  refine lv_bipush (v := 10) hx hb dX9_isSafe_4 (by decide) ?_
  obtain ⟨hb1082, e1082, hat1082, hk1082⟩ := hT.o24 t1081_8.1
  obtain ⟨g1082, rfl, q1082⟩ := hk1082
  have hP : va_P D vwCl [((κ w).2.2.2, .inl (cs 0, 45783, .inl g1082)), (w, .inr (9, [.int f1081_0, .ref f1081_1, .int (nI ((κ w).2.2.1)), .int (nI f1081_3), .int (nI f1081_4), .int f1081_5, .int f1081_6, .int f1081_7, .ref (κ w).2.2.2, .ref f1081_9, .ref f1081_10, .ref f1081_11, .int (nI f1081_12), .int f1081_13, .int f1081_14, .int f1081_15, .int f1081_16, .ref f1081_17]))] _ := va_P.cons hat1082 hP
  refine ld_i (v := (g1082 10)) hx hb hN hP 0 rfl (vp_in_nI (n := 10) (N := 45783) (by omega) (by omega)) (by rw [(show (10 : Int32).toNatClampNeg = 10 from nI_clamp (n := 10) (by omega))]) dX9_isSafe_6 ?_
  refine gn_i (fun x1083 => ?_)
  refine lv_istore_n (lv' := [(2, .int x1083), (0, .ref w), (1, .int x)]) hx hb dX9_isSafe_7 rfl hl (by decide) rfl (fun ls hl => ?_)
  refine lv_aload_n hx hb dX9_isSafe_8 rfl (lv_at hl 1 rfl) ?_
  refine lv_iconst (v := 1) hx hb dX9_isSafe_9 (by decide) ?_
  refine lv_iload_n hx hb dX9_isSafe_10 rfl (lv_at hl 2 rfl) ?_
  refine cv_i (As := [.int 1, .int x]) (rest := []) (b := w) ⟨hx, hb, hml, hown, hts⟩ (c_X9_proposeNow hT (w := w) hw (x := 1) (y := x)) (cwV 2 hts gX9_isSafe_X9_proposeNow rfl rfl rfl hdX9_proposeNow_v ⟨Nat.le_of_ble_eq_true rfl, Nat.le_of_ble_eq_true rfl⟩) hN hE hL (rcv10 hN hT hw.1) rfl rfl hl.1 (Nat.le_of_ble_eq_true rfl) dX9_isSafe_11 (Nat.zero_le _) (Nat.zero_le _) (fun r1084 H1 locs hL hqr1084 => ?_)
  obtain ⟨hT1, hF1⟩ := hqr1084
  have hP : va_P D vwCl [(w, .inr (9, [.int f1081_0, .ref f1081_1, .int (nI ((κ w).2.2.1)), .int (nI f1081_3), .int (nI f1081_4), .int f1081_5, .int f1081_6, .int f1081_7, .ref (κ w).2.2.2, .ref f1081_9, .ref f1081_10, .ref f1081_11, .int (nI f1081_12), .int f1081_13, .int f1081_14, .int f1081_15, .int f1081_16, .ref f1081_17]))] _ := hF1.hP (hP.sub [1] rfl) (fa_c ⟨by rw [hw.1]; decide, by rw [hw.2]; first | decide | (simp; done) | (simp; omega)⟩ fa_n)
  have hF := hF.tr (hF1.mono (by simp))
  have hT := hT1
  refine lv_pop hx hb dX9_isSafe_14 rfl ?_
  refine lv_aload_n hx hb dX9_isSafe_15 rfl (lv_at hl 1 rfl) ?_
  refine cv_i (As := []) (rest := []) (b := w) ⟨hx, hb, hml, hown, hts⟩ (c_X9_goOn hT (w := w) hw) (cwV 0 hts gX9_isSafe_X9_goOn rfl rfl rfl hdX9_goOn_v ⟨Nat.le_of_ble_eq_true rfl, Nat.le_of_ble_eq_true rfl⟩) hN hE hL (rcv10 hN hT hw.1) rfl rfl hl.1 (Nat.le_of_ble_eq_true rfl) dX9_isSafe_16 (Nat.zero_le _) (Nat.zero_le _) (fun r1085 H1 locs hL hqr1085 => ?_)
  obtain ⟨hT1, hF1⟩ := hqr1085
  have hP : va_P D vwCl [(w, .inr (9, [.int f1081_0, .ref f1081_1, .int (nI ((κ w).2.2.1)), .int (nI f1081_3), .int (nI f1081_4), .int f1081_5, .int f1081_6, .int f1081_7, .ref (κ w).2.2.2, .ref f1081_9, .ref f1081_10, .ref f1081_11, .int (nI f1081_12), .int f1081_13, .int f1081_14, .int f1081_15, .int f1081_16, .ref f1081_17]))] _ := hF1.hP (hP.sub [0] rfl) (fa_c ⟨by rw [hw.1]; decide, by rw [hw.2]; first | decide | (simp; done) | (simp; omega)⟩ fa_n)
  have hF := hF.tr (hF1.mono (by simp))
  have hT := hT1
  refine lv_pop hx hb dX9_isSafe_19 rfl ?_
  refine lv_aload_n hx hb dX9_isSafe_20 rfl (lv_at hl 1 rfl) ?_
  refine va_get (D := D) (ci := 9) (v := .ref (κ w).2.2.2) (C := RX9) (T := TX9) (N := 18) hx hb hts iX9_isSafe_9 hown hN.1 hP 0 rfl rfl 8 (by decide) (hts _ mX9_isSafe_1) (fun _ h9 => h9) rfl dX9_isSafe_21 ?_
  refine lv_bipush (v := 20) hx hb dX9_isSafe_24 (by decide) ?_
  obtain ⟨hb1086, e1086, hat1086, hk1086⟩ := hT.o24 t1081_8.1
  obtain ⟨g1086, rfl, q1086⟩ := hk1086
  have hP : va_P D vwCl [((κ w).2.2.2, .inl (cs 0, 45783, .inl g1086)), (w, .inr (9, [.int f1081_0, .ref f1081_1, .int (nI ((κ w).2.2.1)), .int (nI f1081_3), .int (nI f1081_4), .int f1081_5, .int f1081_6, .int f1081_7, .ref (κ w).2.2.2, .ref f1081_9, .ref f1081_10, .ref f1081_11, .int (nI f1081_12), .int f1081_13, .int f1081_14, .int f1081_15, .int f1081_16, .ref f1081_17]))] _ := va_P.cons hat1086 hP
  refine ld_i (v := (g1086 20)) hx hb hN hP 0 rfl (vp_in_nI (n := 20) (N := 45783) (by omega) (by omega)) (by rw [(show (20 : Int32).toNatClampNeg = 20 from nI_clamp (n := 20) (by omega))]) dX9_isSafe_26 ?_
  refine gn_i (fun x1087 => ?_)
  refine lv_iconst (v := 1) hx hb dX9_isSafe_27 (by decide) ?_
  refine lv_icmp_ne (tgt := 46) hx hb dX9_isSafe_28 (by decide) (fun c1088 => ?_) (fun c1088 => ?_)
  · refine lv_iconst (v := 0) hx hb dX9_isSafe_46 (by decide) ?_
    exact en_i hx hb hr hlocks hL rfl (Nat.zero_le _) (Nat.zero_le _) dX9_isSafe_47 (⟨hT, hF, Or.inl rfl⟩)
  · refine lv_aload_n hx hb dX9_isSafe_31 rfl (lv_at hl 1 rfl) ?_
    refine va_get (D := D) (ci := 9) (v := .ref (κ w).2.2.2) (C := RX9) (T := TX9) (N := 18) hx hb hts iX9_isSafe_9 hown hN.1 hP 1 rfl rfl 8 (by decide) (hts _ mX9_isSafe_1) (fun _ h9 => h9) rfl dX9_isSafe_32 ?_
    refine lv_bipush (v := 10) hx hb dX9_isSafe_35 (by decide) ?_
    refine ld_i (v := (g1086 10)) hx hb hN hP 0 rfl (vp_in_nI (n := 10) (N := 45783) (by omega) (by omega)) (by rw [(show (10 : Int32).toNatClampNeg = 10 from nI_clamp (n := 10) (by omega))]) dX9_isSafe_37 ?_
    refine gn_i (fun x1089 => ?_)
    refine lv_iload_n hx hb dX9_isSafe_38 rfl (lv_at hl 0 rfl) ?_
    refine lv_icmp_ne (tgt := 46) hx hb dX9_isSafe_39 (by decide) (fun c1090 => ?_) (fun c1090 => ?_)
    · refine lv_iconst (v := 0) hx hb dX9_isSafe_46 (by decide) ?_
      exact en_i hx hb hr hlocks hL rfl (Nat.zero_le _) (Nat.zero_le _) dX9_isSafe_47 (⟨hT, hF, Or.inl rfl⟩)
    · refine lv_iconst (v := 1) hx hb dX9_isSafe_42 (by decide) ?_
      refine lv_goto (tgt := 47) hx hb dX9_isSafe_43 (by decide) ?_
      exact en_i hx hb hr hlocks hL rfl (Nat.zero_le _) (Nat.zero_le _) dX9_isSafe_47 (⟨hT, hF, Or.inr rfl⟩)
theorem mX9_safest_1 : (.fieldLink RX9 40 "OneBeatModel" "thrown" "I" : Cond) ∈ wsX9_safest := List.mem_of_getElem? (i := 1) (by decide +kernel)
theorem iX9_safest_9 : ∀ w ∈ wsX90, w ∈ wsX9_safest := fun w h => List.mem_of_mem_drop (List.mem_of_mem_take ((show wsX90 = (wsX9_safest.drop 98).take 18 by decide +kernel) ▸ h))
theorem hdX9_mayPropose_v : yX9_mayPropose.cls = RX9 ∧ yX9_mayPropose.cls ≠ "java/lang/invoke/MethodHandle" ∧ yX9_mayPropose.cls ≠ "java/lang/invoke/VarHandle" ∧ (parseMethodDescriptor yX9_mayPropose.desc).map (fun d => d.parameters.length) = some 0 := by decide +kernel
theorem mX9_safest_2 : (.fieldLink RX9 18 "OneBeatModel" "data" "[I" : Cond) ∈ wsX9_safest := List.mem_of_getElem? (i := 2) (by decide +kernel)
theorem mX9_safest_3 : (.fieldLink RX9 21 "OneBeatModel" "aside" "[I" : Cond) ∈ wsX9_safest := List.mem_of_getElem? (i := 3) (by decide +kernel)
theorem hdX9_isSafe_v : yX9_isSafe.cls = RX9 ∧ yX9_isSafe.cls ≠ "java/lang/invoke/MethodHandle" ∧ yX9_isSafe.cls ≠ "java/lang/invoke/VarHandle" ∧ (parseMethodDescriptor yX9_isSafe.desc).map (fun d => d.parameters.length) = some 1 := by decide +kernel
