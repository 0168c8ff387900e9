theorem fl9 {g : Nat → Int32} {k : Nat} {x : Int32} (h : ∀ j, j < k → g j = x) : ∀ j, j < k + 1 → upd g k x j = x := fun j hj => by
  by_cases e : j = k
  · rw [e]; exact pk_us
  · rw [pk_un e]; exact h j (by omega)

theorem mX2_add_1 : (.fieldLink RX2 24 "OneBeat$Mail" "total" "I" : Cond) ∈ wsX2_add := List.mem_of_getElem? (i := 1) (by decide +kernel)
theorem iX2_add_2 : ∀ w ∈ wsX20, w ∈ wsX2_add := fun w h => List.mem_of_mem_drop (List.mem_of_mem_take ((show wsX20 = (wsX2_add.drop 13).take 3 by decide +kernel) ▸ h))
theorem mX2_add_2 : (.fieldLink RX2 14 "OneBeat$Mail" "counts" "[I" : Cond) ∈ wsX2_add := List.mem_of_getElem? (i := 2) (by decide +kernel)
theorem mX2_add_3 : (.fieldLink RX2 11 "OneBeat$Mail" "rows" "[[I" : Cond) ∈ wsX2_add := List.mem_of_getElem? (i := 3) (by decide +kernel)
theorem iX2_add_1 : ∀ w ∈ wsX10, w ∈ wsX2_add := fun w h => List.mem_of_mem_drop (List.mem_of_mem_take ((show wsX10 = (wsX2_add.drop 16).take 7 by decide +kernel) ▸ h))
theorem mX2_add_4 : (.arrayClass .int : Cond) ∈ wsX2_add := List.mem_of_getElem? (i := 4) (by decide +kernel)
theorem mX2_add_5 : (.methodLink RX2 28 Lib.Math.min.name : Cond) ∈ wsX2_add := List.mem_of_getElem? (i := 5) (by decide +kernel)
theorem mX2_add_6 : (.static Lib.Math.min.name : Cond) ∈ wsX2_add := List.mem_of_getElem? (i := 6) (by decide +kernel)
theorem mX2_add_7 : (.initialized "java/lang/Math" : Cond) ∈ wsX2_add := List.mem_of_getElem? (i := 7) (by decide +kernel)
theorem mX2_add_8 : (.code Lib.Math.min.name Lib.Math.min.code 2 (some .int) : Cond) ∈ wsX2_add := List.mem_of_getElem? (i := 8) (by decide +kernel)
theorem mX2_add_9 : (.methodLink RX2 34 arraycopyName : Cond) ∈ wsX2_add := List.mem_of_getElem? (i := 9) (by decide +kernel)
theorem mX2_add_10 : (.native arraycopyName : Cond) ∈ wsX2_add := List.mem_of_getElem? (i := 10) (by decide +kernel)
theorem mX2_add_11 : (.static arraycopyName : Cond) ∈ wsX2_add := List.mem_of_getElem? (i := 11) (by decide +kernel)
theorem mX2_add_12 : (.initialized "java/lang/System" : Cond) ∈ wsX2_add := List.mem_of_getElem? (i := 12) (by decide +kernel)
set_option maxHeartbeats 4000000 in
set_option maxRecDepth 100000 in
theorem c_X2_add {l : Launch} {D : va_G} {cs : Nat → ClassId} {B0 T : Nat} {κ : KM} {H0 : Heap} (hT : WT B0 D cs T κ H0) {w v o i : Nat} (hw : T2 κ w 3 o) {x : Int32} (hv : T2 κ v 2 i) {C cn ln : Nat → Nat} {rw9 : Nat → Nat → Int32} (hM : MB D cs H0 w cn ln rw9) (hLC : LC C cn ln) (hcn : ∀ j, j < 16 → cn j ≤ C j + 24) {M : Nat} (hM9 : ∀ j, j < 16 → 2 * ln j + 7 ≤ M) {b0 b1 b2 b3 b4 b5 b6 : Int32} (hvat : va_at D vwCl (v, .inr (1, [.int b0, .int b1, .int b2, .int b3, .int b4, .int b5, .int b6])) H0) : KC l yX2_add wsX2_add 1 60 1 M D cs B0 H0 [.ref w, .int x, .ref v] (Qi (fun r H => ∃ κ1, KX κ κ1 ∧ WT B0 D cs T κ1 H ∧ Fr B0 [o] κ H0 H ∧ ∃ cn1 ln1 rw1 k n, MB D cs H w cn1 ln1 rw1 ∧ LC C cn1 ln1 ∧ GP H0 H ln ln1 k n ∧ ((r = 0 ∧ cn1 = cn ∧ rw1 = rw9 ∧ ln1 = ln ∧ k = 0 ∧ n = 0) ∨ (r = 1 ∧ PT cn cn1 rw9 rw1 (m15 x) b0 b1 b2)))) := by
  refine KC.of cX2_add 6 (some .boolean) (by decide) rfl (Nat.le_of_ble_eq_true rfl) ?_
  intro p e s m below meth c ls hx hb hr hml hown hts hlocks hin hN hE hH0 hl
  have hown : s.vm.findClass RX2 = some m.cls := hown
  have hl : lv_has ls 6 [(0, .ref w), (1, .int x), (2, .ref v)] := hl
  have hL : OkL B0 [] := OkL.nil
  have hF : Fr B0 [o] κ H0 H0 := Fr.rf
  obtain ⟨ra, ca, t0, f, ct, hmc, hra, hca, tra, tca, hct, hrw, hbm, hbr, hbc⟩ := hM.op hT hw
  have hc20 : ∀ j, j < 16 → cn j ≤ 20000 := fun j hj => by have h1 := hcn j hj; have h2 := (hLC j hj).2.2.2; omega
  have hq13 : ∀ j, j < 16 → ∃ a, f j = some a ∧ T2 κ a 14 o ∧ (κ a).2.2.1 = j := fun j hj => by obtain ⟨a, g1, -, g2, g3⟩ := hrw j hj; exact ⟨a, g1, g2, g3⟩
  have hq15 : ∀ j, j < 16 → ∃ n, n ≤ 20000 ∧ ct j = nI n := fun j hj => ⟨cn j, hc20 j hj, hct j hj⟩
  have hr9 := m15_lt x
  obtain ⟨a, ea, hata, ta, ua⟩ := hrw (m15 x) hr9
  obtain ⟨hba, -⟩ := hT.o14 ta.1
  obtain ⟨lc1, lc2, lc3, lc4⟩ := hLC (m15 x) hr9
  have hcn9 := hcn (m15 x) hr9
  obtain ⟨m7, e7, g7⟩ := lc1.s7
  have hP : va_P D vwCl [(w, .inr (2, [.ref ra, .ref ca, .int t0]))] _ := va_P.cons hmc va_P.nil
  have hP : va_P D vwCl [(ra, .inl (cs 6, 16, .inr (.inr (.inr (.inr f))))), (w, .inr (2, [.ref ra, .ref ca, .int t0]))] _ := va_P.cons hra hP
  have hP : va_P D vwCl [(ca, .inl (cs 0, 16, .inl ct)), (ra, .inl (cs 6, 16, .inr (.inr (.inr (.inr f))))), (w, .inr (2, [.ref ra, .ref ca, .int t0]))] _ := va_P.cons hca hP
  have hP : va_P D vwCl [(a, .inl (cs 0, (ln (m15 x)), .inl (rw9 (m15 x)))), (ca, .inl (cs 0, 16, .inl ct)), (ra, .inl (cs 6, 16, .inr (.inr (.inr (.inr f))))), (w, .inr (2, [.ref ra, .ref ca, .int t0]))] _ := va_P.cons hata hP
  have hM8 := hM9 (m15 x) hr9
  have hbv : B0 ≤ v := (hT.o2 hv.1).1
  have hP : va_P D vwCl [(v, .inr (1, [.int b0, .int b1, .int b2, .int b3, .int b4, .int b5, .int b6])), (a, .inl (cs 0, (ln (m15 x)), .inl (rw9 (m15 x)))), (ca, .inl (cs 0, 16, .inl ct)), (ra, .inl (cs 6, 16, .inr (.inr (.inr (.inr f))))), (w, .inr (2, [.ref ra, .ref ca, .int t0]))] _ := va_P.cons hvat hP
  refine lv_aload_n hx hb dX2_add_0 rfl (lv_at hl 0 rfl) ?_
  refine va_get (D := D) (ci := 2) (v := .int t0) (C := RX2) (T := TX2) (N := 3) hx hb hts iX2_add_2 hown hN.1 hP 4 rfl rfl 2 (by decide) (hts _ mX2_add_1) (fun _ h9 => h9) rfl dX2_add_1 ?_
  refine lv_sipush (v := 16384) hx hb dX2_add_4 (by decide) ?_
  refine lv_icmp_lt (tgt := 12) hx hb dX2_add_7 (by decide) (fun c5038 => ?_) (fun c5038 => ?_)
  · refine lv_iload_n hx hb dX2_add_12 rfl (lv_at hl 1 rfl) ?_
    refine lv_bipush (v := 15) hx hb dX2_add_13 (by decide) ?_
    refine lv_iand hx hb dX2_add_15 ?_
    have hj5039 := m15_lt x
    refine tp_i (nI (m15 x)) (and15 x) ?_
    refine lv_istore_n (lv' := [(3, .int (nI (m15 x))), (0, .ref w), (1, .int x), (2, .ref v)]) hx hb dX2_add_16 rfl hl (by decide) rfl (fun ls hl => ?_)
    refine lv_aload_n hx hb dX2_add_17 rfl (lv_at hl 1 rfl) ?_
    refine va_get (D := D) (ci := 2) (v := .ref ca) (C := RX2) (T := TX2) (N := 3) hx hb hts iX2_add_2 hown hN.1 hP 4 rfl rfl 1 (by decide) (hts _ mX2_add_2) (fun _ h9 => h9) rfl dX2_add_18 ?_
    refine lv_iload_n hx hb dX2_add_21 rfl (lv_at hl 0 rfl) ?_
    refine ld_i (v := (ct (m15 x))) hx hb hN hP 2 rfl (vp_in_nI (n := (m15 x)) (N := 16) (by omega) (by omega)) (by rw [(show ((nI (m15 x)) : Int32).toNatClampNeg = (m15 x) from nI_clamp (n := (m15 x)) (by omega))]) dX2_add_22 ?_
    refine tp_i (nI (cn (m15 x))) (hct _ (by omega)) ?_
    refine lv_bipush (v := 7) hx hb dX2_add_23 (by decide) ?_
    refine lv_imul hx hb dX2_add_25 ?_
    refine tp_i (nI ((cn (m15 x)) * 7)) (nI_mul (cn (m15 x)) 7) ?_
    refine lv_istore (lv' := [(4, .int (nI ((cn (m15 x)) * 7))), (3, .int (nI (m15 x))), (0, .ref w), (1, .int x), (2, .ref v)]) hx hb dX2_add_26 hl (by decide) rfl (fun ls hl => ?_)
    refine lv_iload hx hb dX2_add_28 (lv_at hl 0 rfl) ?_
    refine lv_bipush (v := 7) hx hb dX2_add_30 (by decide) ?_
    refine lv_iadd hx hb dX2_add_32 ?_
    refine tp_i (nI (((cn (m15 x)) * 7) + 7)) (nI_add ((cn (m15 x)) * 7) 7) ?_
    refine lv_aload_n hx hb dX2_add_33 rfl (lv_at hl 2 rfl) ?_
    refine va_get (D := D) (ci := 2) (v := .ref ra) (C := RX2) (T := TX2) (N := 3) hx hb hts iX2_add_2 hown hN.1 hP 4 rfl rfl 0 (by decide) (hts _ mX2_add_3) (fun _ h9 => h9) rfl dX2_add_34 ?_
    refine lv_iload_n hx hb dX2_add_37 rfl (lv_at hl 1 rfl) ?_
    refine ld_a (v := .ref a) hx hb hN hP 3 rfl (vp_in_nI (n := (m15 x)) (N := 16) (by omega) (by omega)) (by rw [(show ((nI (m15 x)) : Int32).toNatClampNeg = (m15 x) from nI_clamp (n := (m15 x)) (by omega)), ea]; rfl) dX2_add_38 ?_
    refine va_alen (v := (nI ((ln (m15 x))))) hx hb hN.1 hP 1 0 rfl rfl rfl dX2_add_39 ?_
    refine lv_icmp_le (tgt := 87) hx hb dX2_add_40 (by decide) (fun c5040 => ?_) (fun c5040 => ?_)
    · have c5040 : (((cn (m15 x)) * 7) + 7) ≤ ((ln (m15 x))) := (nI_leI (a := (((cn (m15 x)) * 7) + 7)) (b := ((ln (m15 x)))) (by omega) (by omega)).mp c5040
      refine lv_aload_n hx hb dX2_add_87 rfl (lv_at hl 2 rfl) ?_
      refine va_get (D := D) (ci := 2) (v := .ref ra) (C := RX2) (T := TX2) (N := 3) hx hb hts iX2_add_2 hown hN.1 hP 4 rfl rfl 0 (by decide) (hts _ mX2_add_3) (fun _ h9 => h9) rfl dX2_add_88 ?_
      refine lv_iload_n hx hb dX2_add_91 rfl (lv_at hl 1 rfl) ?_
      refine ld_a (v := .ref a) hx hb hN hP 3 rfl (vp_in_nI (n := (m15 x)) (N := 16) (by omega) (by omega)) (by rw [(show ((nI (m15 x)) : Int32).toNatClampNeg = (m15 x) from nI_clamp (n := (m15 x)) (by omega)), ea]; rfl) dX2_add_92 ?_
      refine lv_astore (lv' := [(5, .ref a), (4, .int (nI ((cn (m15 x)) * 7))), (3, .int (nI (m15 x))), (0, .ref w), (1, .int x), (2, .ref v)]) hx hb dX2_add_93 hl (by decide) rfl (fun ls hl => ?_)
      refine lv_aload hx hb dX2_add_95 (lv_at hl 0 rfl) ?_
      refine lv_iload hx hb dX2_add_97 (lv_at hl 1 rfl) ?_
      refine lv_aload_n hx hb dX2_add_99 rfl (lv_at hl 5 rfl) ?_
      refine va_getN (D := D) (ci := 1) (v := .int b0) (C := RX1) (T := TX1) (N := 7) hx hb hts iX2_add_1 hown hN.1 hP 0 rfl rfl 0 (by decide) (hN.f 13 rfl) (fun _ h9 => h9) rfl dX2_add_100 ?_
      have hB : Bx B0 D _ [(v, .inr (1, [.int b0, .int b1, .int b2, .int b3, .int b4, .int b5, .int b6])), (a, .inl (cs 0, (ln (m15 x)), .inl (rw9 (m15 x)))), (ca, .inl (cs 0, 16, .inl ct)), (ra, .inl (cs 6, 16, .inr (.inr (.inr (.inr f))))), (w, .inr (2, [.ref ra, .ref ca, .int t0]))] [] _ _ := Bx.of (fun a => (κ a).1) hL hP (fa_c hbv (fa_c hba (fa_c hbc (fa_c hbr (fa_c hbm fa_n))))) (by simp only [List.map_cons, List.map_nil, hv.1, ta.1, tca.1, tra.1, hw.1]; decide)
      refine b_i hx hb hN hB 1 rfl (vp_in_nI (n := ((cn (m15 x)) * 7)) (N := (ln (m15 x))) (by omega) (by omega)) (.inl rfl) dX2_add_103 (fun H locs hB => ?_)
      rw [(show ((nI ((cn (m15 x)) * 7)) : Int32).toNatClampNeg = ((cn (m15 x)) * 7) from nI_clamp (n := ((cn (m15 x)) * 7)) (by omega))] at hB
      have hB : Bx B0 D _ [(v, .inr (1, [.int b0, .int b1, .int b2, .int b3, .int b4, .int b5, .int b6])), (a, .inl (cs 0, (ln (m15 x)), .inl (upd (rw9 (m15 x)) ((cn (m15 x)) * 7) b0))), (ca, .inl (cs 0, 16, .inl ct)), (ra, .inl (cs 6, 16, .inr (.inr (.inr (.inr f))))), (w, .inr (2, [.ref ra, .ref ca, .int t0]))] [a] _ _ := hB
      refine lv_aload hx hb dX2_add_104 (lv_at hl 0 rfl) ?_
      refine lv_iload hx hb dX2_add_106 (lv_at hl 1 rfl) ?_
      refine lv_iconst (v := 1) hx hb dX2_add_108 (by decide) ?_
      refine lv_iadd hx hb dX2_add_109 ?_
      refine tp_i (nI (((cn (m15 x)) * 7) + 1)) (nI_add ((cn (m15 x)) * 7) 1) ?_
      refine lv_aload_n hx hb dX2_add_110 rfl (lv_at hl 5 rfl) ?_
      refine va_getN (D := D) (ci := 1) (v := .int b1) (C := RX1) (T := TX1) (N := 7) hx hb hts iX2_add_1 hown hN.1 hB.1 0 rfl rfl 1 (by decide) (hN.f 15 rfl) (fun _ h9 => h9) rfl dX2_add_111 ?_
      refine b_i hx hb hN hB 1 rfl (vp_in_nI (n := (((cn (m15 x)) * 7) + 1)) (N := (ln (m15 x))) (by omega) (by omega)) (.inr ⟨rfl, List.mem_of_getElem? (i := 0) rfl⟩) dX2_add_114 (fun H locs hB => ?_)
      rw [(show ((nI (((cn (m15 x)) * 7) + 1)) : Int32).toNatClampNeg = (((cn (m15 x)) * 7) + 1) from nI_clamp (n := (((cn (m15 x)) * 7) + 1)) (by omega))] at hB
      have hB : Bx B0 D _ [(v, .inr (1, [.int b0, .int b1, .int b2, .int b3, .int b4, .int b5, .int b6])), (a, .inl (cs 0, (ln (m15 x)), .inl (upd (upd (rw9 (m15 x)) ((cn (m15 x)) * 7) b0) (((cn (m15 x)) * 7) + 1) b1))), (ca, .inl (cs 0, 16, .inl ct)), (ra, .inl (cs 6, 16, .inr (.inr (.inr (.inr f))))), (w, .inr (2, [.ref ra, .ref ca, .int t0]))] [a] _ _ := hB
      refine lv_aload hx hb dX2_add_115 (lv_at hl 0 rfl) ?_
      refine lv_iload hx hb dX2_add_117 (lv_at hl 1 rfl) ?_
      refine lv_iconst (v := 2) hx hb dX2_add_119 (by decide) ?_
      refine lv_iadd hx hb dX2_add_120 ?_
      refine tp_i (nI (((cn (m15 x)) * 7) + 2)) (nI_add ((cn (m15 x)) * 7) 2) ?_
      refine lv_aload_n hx hb dX2_add_121 rfl (lv_at hl 5 rfl) ?_
      refine va_getN (D := D) (ci := 1) (v := .int b2) (C := RX1) (T := TX1) (N := 7) hx hb hts iX2_add_1 hown hN.1 hB.1 0 rfl rfl 2 (by decide) (hN.f 17 rfl) (fun _ h9 => h9) rfl dX2_add_122 ?_
      refine b_i hx hb hN hB 1 rfl (vp_in_nI (n := (((cn (m15 x)) * 7) + 2)) (N := (ln (m15 x))) (by omega) (by omega)) (.inr ⟨rfl, List.mem_of_getElem? (i := 0) rfl⟩) dX2_add_125 (fun H locs hB => ?_)
      rw [(show ((nI (((cn (m15 x)) * 7) + 2)) : Int32).toNatClampNeg = (((cn (m15 x)) * 7) + 2) from nI_clamp (n := (((cn (m15 x)) * 7) + 2)) (by omega))] at hB
      have hB : Bx B0 D _ [(v, .inr (1, [.int b0, .int b1, .int b2, .int b3, .int b4, .int b5, .int b6])), (a, .inl (cs 0, (ln (m15 x)), .inl (upd (upd (upd (rw9 (m15 x)) ((cn (m15 x)) * 7) b0) (((cn (m15 x)) * 7) + 1) b1) (((cn (m15 x)) * 7) + 2) b2))), (ca, .inl (cs 0, 16, .inl ct)), (ra, .inl (cs 6, 16, .inr (.inr (.inr (.inr f))))), (w, .inr (2, [.ref ra, .ref ca, .int t0]))] [a] _ _ := hB
      refine lv_aload hx hb dX2_add_126 (lv_at hl 0 rfl) ?_
      refine lv_iload hx hb dX2_add_128 (lv_at hl 1 rfl) ?_
      refine lv_iconst (v := 3) hx hb dX2_add_130 (by decide) ?_
      refine lv_iadd hx hb dX2_add_131 ?_
      refine tp_i (nI (((cn (m15 x)) * 7) + 3)) (nI_add ((cn (m15 x)) * 7) 3) ?_
      refine lv_aload_n hx hb dX2_add_132 rfl (lv_at hl 5 rfl) ?_
      refine va_getN (D := D) (ci := 1) (v := .int b3) (C := RX1) (T := TX1) (N := 7) hx hb hts iX2_add_1 hown hN.1 hB.1 0 rfl rfl 3 (by decide) (hN.f 19 rfl) (fun _ h9 => h9) rfl dX2_add_133 ?_
      refine b_i hx hb hN hB 1 rfl (vp_in_nI (n := (((cn (m15 x)) * 7) + 3)) (N := (ln (m15 x))) (by omega) (by omega)) (.inr ⟨rfl, List.mem_of_getElem? (i := 0) rfl⟩) dX2_add_136 (fun H locs hB => ?_)
      rw [(show ((nI (((cn (m15 x)) * 7) + 3)) : Int32).toNatClampNeg = (((cn (m15 x)) * 7) + 3) from nI_clamp (n := (((cn (m15 x)) * 7) + 3)) (by omega))] at hB
      have hB : Bx B0 D _ [(v, .inr (1, [.int b0, .int b1, .int b2, .int b3, .int b4, .int b5, .int b6])), (a, .inl (cs 0, (ln (m15 x)), .inl (upd (upd (upd (upd (rw9 (m15 x)) ((cn (m15 x)) * 7) b0) (((cn (m15 x)) * 7) + 1) b1) (((cn (m15 x)) * 7) + 2) b2) (((cn (m15 x)) * 7) + 3) b3))), (ca, .inl (cs 0, 16, .inl ct)), (ra, .inl (cs 6, 16, .inr (.inr (.inr (.inr f))))), (w, .inr (2, [.ref ra, .ref ca, .int t0]))] [a] _ _ := hB
      refine lv_aload hx hb dX2_add_137 (lv_at hl 0 rfl) ?_
      refine lv_iload hx hb dX2_add_139 (lv_at hl 1 rfl) ?_
      refine lv_iconst (v := 4) hx hb dX2_add_141 (by decide) ?_
      refine lv_iadd hx hb dX2_add_142 ?_
      refine tp_i (nI (((cn (m15 x)) * 7) + 4)) (nI_add ((cn (m15 x)) * 7) 4) ?_
      refine lv_aload_n hx hb dX2_add_143 rfl (lv_at hl 5 rfl) ?_
      refine va_getN (D := D) (ci := 1) (v := .int b4) (C := RX1) (T := TX1) (N := 7) hx hb hts iX2_add_1 hown hN.1 hB.1 0 rfl rfl 4 (by decide) (hN.f 21 rfl) (fun _ h9 => h9) rfl dX2_add_144 ?_
      refine b_i hx hb hN hB 1 rfl (vp_in_nI (n := (((cn (m15 x)) * 7) + 4)) (N := (ln (m15 x))) (by omega) (by omega)) (.inr ⟨rfl, List.mem_of_getElem? (i := 0) rfl⟩) dX2_add_147 (fun H locs hB => ?_)
      rw [(show ((nI (((cn (m15 x)) * 7) + 4)) : Int32).toNatClampNeg = (((cn (m15 x)) * 7) + 4) from nI_clamp (n := (((cn (m15 x)) * 7) + 4)) (by omega))] at hB
      have hB : Bx B0 D _ [(v, .inr (1, [.int b0, .int b1, .int b2, .int b3, .int b4, .int b5, .int b6])), (a, .inl (cs 0, (ln (m15 x)), .inl (upd (upd (upd (upd (upd (rw9 (m15 x)) ((cn (m15 x)) * 7) b0) (((cn (m15 x)) * 7) + 1) b1) (((cn (m15 x)) * 7) + 2) b2) (((cn (m15 x)) * 7) + 3) b3) (((cn (m15 x)) * 7) + 4) b4))), (ca, .inl (cs 0, 16, .inl ct)), (ra, .inl (cs 6, 16, .inr (.inr (.inr (.inr f))))), (w, .inr (2, [.ref ra, .ref ca, .int t0]))] [a] _ _ := hB
      refine lv_aload hx hb dX2_add_148 (lv_at hl 0 rfl) ?_
      refine lv_iload hx hb dX2_add_150 (lv_at hl 1 rfl) ?_
      refine lv_iconst (v := 5) hx hb dX2_add_152 (by decide) ?_
      refine lv_iadd hx hb dX2_add_153 ?_
      refine tp_i (nI (((cn (m15 x)) * 7) + 5)) (nI_add ((cn (m15 x)) * 7) 5) ?_
      refine lv_aload_n hx hb dX2_add_154 rfl (lv_at hl 5 rfl) ?_
      refine va_getN (D := D) (ci := 1) (v := .int b5) (C := RX1) (T := TX1) (N := 7) hx hb hts iX2_add_1 hown hN.1 hB.1 0 rfl rfl 5 (by decide) (hN.f 23 rfl) (fun _ h9 => h9) rfl dX2_add_155 ?_
      refine b_i hx hb hN hB 1 rfl (vp_in_nI (n := (((cn (m15 x)) * 7) + 5)) (N := (ln (m15 x))) (by omega) (by omega)) (.inr ⟨rfl, List.mem_of_getElem? (i := 0) rfl⟩) dX2_add_158 (fun H locs hB => ?_)
      rw [(show ((nI (((cn (m15 x)) * 7) + 5)) : Int32).toNatClampNeg = (((cn (m15 x)) * 7) + 5) from nI_clamp (n := (((cn (m15 x)) * 7) + 5)) (by omega))] at hB
      have hB : Bx B0 D _ [(v, .inr (1, [.int b0, .int b1, .int b2, .int b3, .int b4, .int b5, .int b6])), (a, .inl (cs 0, (ln (m15 x)), .inl (upd (upd (upd (upd (upd (upd (rw9 (m15 x)) ((cn (m15 x)) * 7) b0) (((cn (m15 x)) * 7) + 1) b1) (((cn (m15 x)) * 7) + 2) b2) (((cn (m15 x)) * 7) + 3) b3) (((cn (m15 x)) * 7) + 4) b4) (((cn (m15 x)) * 7) + 5) b5))), (ca, .inl (cs 0, 16, .inl ct)), (ra, .inl (cs 6, 16, .inr (.inr (.inr (.inr f))))), (w, .inr (2, [.ref ra, .ref ca, .int t0]))] [a] _ _ := hB
      refine lv_aload hx hb dX2_add_159 (lv_at hl 0 rfl) ?_
      refine lv_iload hx hb dX2_add_161 (lv_at hl 1 rfl) ?_
      refine lv_bipush (v := 6) hx hb dX2_add_163 (by decide) ?_
      refine lv_iadd hx hb dX2_add_165 ?_
      refine tp_i (nI (((cn (m15 x)) * 7) + 6)) (nI_add ((cn (m15 x)) * 7) 6) ?_
      refine lv_aload_n hx hb dX2_add_166 rfl (lv_at hl 5 rfl) ?_
      refine va_getN (D := D) (ci := 1) (v := .int b6) (C := RX1) (T := TX1) (N := 7) hx hb hts iX2_add_1 hown hN.1 hB.1 0 rfl rfl 6 (by decide) (hN.f 25 rfl) (fun _ h9 => h9) rfl dX2_add_167 ?_
      refine b_i hx hb hN hB 1 rfl (vp_in_nI (n := (((cn (m15 x)) * 7) + 6)) (N := (ln (m15 x))) (by omega) (by omega)) (.inr ⟨rfl, List.mem_of_getElem? (i := 0) rfl⟩) dX2_add_170 (fun H locs hB => ?_)
      rw [(show ((nI (((cn (m15 x)) * 7) + 6)) : Int32).toNatClampNeg = (((cn (m15 x)) * 7) + 6) from nI_clamp (n := (((cn (m15 x)) * 7) + 6)) (by omega))] at hB
      have hB : Bx B0 D _ [(v, .inr (1, [.int b0, .int b1, .int b2, .int b3, .int b4, .int b5, .int b6])), (a, .inl (cs 0, (ln (m15 x)), .inl (upd (upd (upd (upd (upd (upd (upd (rw9 (m15 x)) ((cn (m15 x)) * 7) b0) (((cn (m15 x)) * 7) + 1) b1) (((cn (m15 x)) * 7) + 2) b2) (((cn (m15 x)) * 7) + 3) b3) (((cn (m15 x)) * 7) + 4) b4) (((cn (m15 x)) * 7) + 5) b5) (((cn (m15 x)) * 7) + 6) b6))), (ca, .inl (cs 0, 16, .inl ct)), (ra, .inl (cs 6, 16, .inr (.inr (.inr (.inr f))))), (w, .inr (2, [.ref ra, .ref ca, .int t0]))] [a] _ _ := hB
      refine lv_aload_n hx hb dX2_add_171 rfl (lv_at hl 3 rfl) ?_
      refine va_get (D := D) (ci := 2) (v := .ref ca) (C := RX2) (T := TX2) (N := 3) hx hb hts iX2_add_2 hown hN.1 hB.1 4 rfl rfl 1 (by decide) (hts _ mX2_add_2) (fun _ h9 => h9) rfl dX2_add_172 ?_
      refine lv_iload_n hx hb dX2_add_175 rfl (lv_at hl 2 rfl) ?_
      refine lv_dup2_11 hx hb dX2_add_176 rfl rfl ?_
      refine ld_i (v := (ct (m15 x))) hx hb hN hB.1 2 rfl (vp_in_nI (n := (m15 x)) (N := 16) (by omega) (by omega)) (by rw [(show ((nI (m15 x)) : Int32).toNatClampNeg = (m15 x) from nI_clamp (n := (m15 x)) (by omega))]) dX2_add_177 ?_
      refine tp_i (nI (cn (m15 x))) (hct _ (by omega)) ?_
      refine lv_iconst (v := 1) hx hb dX2_add_178 (by decide) ?_
      refine lv_iadd hx hb dX2_add_179 ?_
      refine tp_i (nI ((cn (m15 x)) + 1)) (nI_add (cn (m15 x)) 1) ?_
      refine b_i hx hb hN hB 2 rfl (vp_in_nI (n := (m15 x)) (N := 16) (by omega) (by omega)) (.inl rfl) dX2_add_180 (fun H locs hB => ?_)
      rw [(show ((nI (m15 x)) : Int32).toNatClampNeg = (m15 x) from nI_clamp (n := (m15 x)) (by omega))] at hB
      have hB : Bx B0 D _ [(v, .inr (1, [.int b0, .int b1, .int b2, .int b3, .int b4, .int b5, .int b6])), (a, .inl (cs 0, (ln (m15 x)), .inl (upd (upd (upd (upd (upd (upd (upd (rw9 (m15 x)) ((cn (m15 x)) * 7) b0) (((cn (m15 x)) * 7) + 1) b1) (((cn (m15 x)) * 7) + 2) b2) (((cn (m15 x)) * 7) + 3) b3) (((cn (m15 x)) * 7) + 4) b4) (((cn (m15 x)) * 7) + 5) b5) (((cn (m15 x)) * 7) + 6) b6))), (ca, .inl (cs 0, 16, .inl (upd ct (m15 x) (nI ((cn (m15 x)) + 1))))), (ra, .inl (cs 6, 16, .inr (.inr (.inr (.inr f))))), (w, .inr (2, [.ref ra, .ref ca, .int t0]))] [ca, a] _ _ := hB
      refine lv_aload_n hx hb dX2_add_181 rfl (lv_at hl 3 rfl) ?_
      refine lv_dup hx hb dX2_add_182 rfl ?_
      refine va_get (D := D) (ci := 2) (v := .int t0) (C := RX2) (T := TX2) (N := 3) hx hb hts iX2_add_2 hown hN.1 hB.1 4 rfl rfl 2 (by decide) (hts _ mX2_add_1) (fun _ h9 => h9) rfl dX2_add_183 ?_
      refine lv_iconst (v := 1) hx hb dX2_add_186 (by decide) ?_
      refine lv_iadd hx hb dX2_add_187 ?_
      refine gn_i (fun x5041 => ?_)
      refine b_put (D := D) (ci := 2) (v := .int x5041) (ty := .int) (C := RX2) (T := TX2) (N := 3) hx hb hts iX2_add_2 tyX2 tyX2_ok nmX2 hown hN hB 4 rfl rfl 2 (by decide) (hts _ mX2_add_1) (fun _ h9 => h9) rfl (by decide +kernel) rfl rfl (Nat.le_of_ble_eq_true rfl) (.inl rfl) dX2_add_188 (fun H locs hB => ?_)
      have hB : Bx B0 D _ [(v, .inr (1, [.int b0, .int b1, .int b2, .int b3, .int b4, .int b5, .int b6])), (a, .inl (cs 0, (ln (m15 x)), .inl (upd (upd (upd (upd (upd (upd (upd (rw9 (m15 x)) ((cn (m15 x)) * 7) b0) (((cn (m15 x)) * 7) + 1) b1) (((cn (m15 x)) * 7) + 2) b2) (((cn (m15 x)) * 7) + 3) b3) (((cn (m15 x)) * 7) + 4) b4) (((cn (m15 x)) * 7) + 5) b5) (((cn (m15 x)) * 7) + 6) b6))), (ca, .inl (cs 0, 16, .inl (upd ct (m15 x) (nI ((cn (m15 x)) + 1))))), (ra, .inl (cs 6, 16, .inr (.inr (.inr (.inr f))))), (w, .inr (2, [.ref ra, .ref ca, .int x5041]))] [w, ca, a] _ _ := hB
      refine lv_iconst (v := 1) hx hb dX2_add_191 (by decide) ?_
      have hB0 := hB
      have hP0 := hB.1
      have hw0 := hw
      have tra0 := tra
      have tca0 := tca
      have hT : WT B0 D cs T κ _ := hT.close hB ⟨⟨4, _, rfl, ok_3 hw.1 ⟨_, _, _, rfl, ⟨tra.1, by rw [hw.2]; exact tra.2⟩, ⟨tca.1, by rw [hw.2]; exact tca.2⟩⟩⟩, ⟨⟨2, _, rfl, ok_15 tca.1 ⟨_, rfl, (K15u hct hc20 (by omega))⟩⟩, ⟨⟨1, _, rfl, ok_14 ta.1 ⟨_, _, rfl, (by omega)⟩⟩, trivial⟩⟩⟩
      have hF : Fr B0 [o] κ H0 _ := hF.close hB (fa_c (by simp [hw.2]) (fa_c (by simp [tca.2]) (fa_c (by simp [ta.2]) fa_n)))
      have hL : OkL B0 _ := hB.2.2.2.2.2
      have hP : va_P D vwCl [(v, .inr (1, [.int b0, .int b1, .int b2, .int b3, .int b4, .int b5, .int b6])), (a, .inl (cs 0, (ln (m15 x)), .inl (upd (upd (upd (upd (upd (upd (upd (rw9 (m15 x)) ((cn (m15 x)) * 7) b0) (((cn (m15 x)) * 7) + 1) b1) (((cn (m15 x)) * 7) + 2) b2) (((cn (m15 x)) * 7) + 3) b3) (((cn (m15 x)) * 7) + 4) b4) (((cn (m15 x)) * 7) + 5) b5) (((cn (m15 x)) * 7) + 6) b6))), (ca, .inl (cs 0, 16, .inl (upd ct (m15 x) (nI ((cn (m15 x)) + 1))))), (ra, .inl (cs 6, 16, .inr (.inr (.inr (.inr f))))), (w, .inr (2, [.ref ra, .ref ca, .int x5041]))] _ := hB.1
      refine W.know (fun hg => ?_)
      rw [hH0] at hg
      have hMB := MB.put (r := (m15 x)) hB0 hrw hct (hP0 4 _ rfl) (hP0 3 _ rfl) (hP0 2 _ rfl) (fun _ _ _ => rfl) (fun a9 j9 g1 g2 t9 u9 => by simp only [List.mem_cons, List.not_mem_nil, or_false, not_or]; exact ⟨(ne_c t9.1 hw0.1 (by decide)), (ne_c t9.1 tca0.1 (by decide)), (ne_p u9 ua g1)⟩) ⟨_, ea, hP0 1 _ rfl⟩
      exact en_i hx hb hr hlocks hL rfl (Nat.zero_le _) (Nat.zero_le _) dX2_add_192 (⟨_, KX.rf, hT, hF, _, _, _, _, _, hMB, hLC.put hr9 hcn9 (Or.inl ⟨rfl, by omega⟩), GP.up hg hr9 (Or.inl ⟨rfl, rfl, rfl⟩), Or.inr ⟨rfl, PT.put (fun i9 h9 => by rw [pk_un (by omega), pk_un (by omega), pk_un (by omega), pk_un (by omega), pk_un (by omega), pk_un (by omega), pk_un (by omega)]) (by rw [(show 7 * cn (m15 x) = cn (m15 x) * 7 by omega), pk_un (by omega), pk_un (by omega), pk_un (by omega), pk_un (by omega), pk_un (by omega), pk_un (by omega), pk_us]) (by rw [(show 7 * cn (m15 x) = cn (m15 x) * 7 by omega), pk_un (by omega), pk_un (by omega), pk_un (by omega), pk_un (by omega), pk_un (by omega), pk_us]) (by rw [(show 7 * cn (m15 x) = cn (m15 x) * 7 by omega), pk_un (by omega), pk_un (by omega), pk_un (by omega), pk_un (by omega), pk_us])⟩⟩)
    · have c5040 : ¬ (((cn (m15 x)) * 7) + 7) ≤ ((ln (m15 x))) := fun h9 => c5040 ((nI_leI (a := (((cn (m15 x)) * 7) + 7)) (b := ((ln (m15 x)))) (by omega) (by omega)).mpr h9)
      have hfull := SQ.full lc1 lc2 (by omega)
      refine lv_iconst (v := 2) hx hb dX2_add_43 (by decide) ?_
      refine lv_iload hx hb dX2_add_44 (lv_at hl 0 rfl) ?_
      refine lv_imul hx hb dX2_add_46 ?_
      refine tp_i (nI (2 * ((cn (m15 x)) * 7))) (nI_mul 2 ((cn (m15 x)) * 7)) ?_
      refine lv_bipush (v := 7) hx hb dX2_add_47 (by decide) ?_
      refine lv_iadd hx hb dX2_add_49 ?_
      refine tp_i (nI ((2 * ((cn (m15 x)) * 7)) + 7)) (nI_add (2 * ((cn (m15 x)) * 7)) 7) ?_
      have hb0 : B0 ≤ _ := hT.b0 hw (by decide)
      have hB : Bx B0 D _ [(v, .inr (1, [.int b0, .int b1, .int b2, .int b3, .int b4, .int b5, .int b6])), (a, .inl (cs 0, (ln (m15 x)), .inl (rw9 (m15 x)))), (ca, .inl (cs 0, 16, .inl ct)), (ra, .inl (cs 6, 16, .inr (.inr (.inr (.inr f))))), (w, .inr (2, [.ref ra, .ref ca, .int t0]))] [] _ _ := Bx.of (fun a => (κ a).1) hL hP (fa_c hbv (fa_c hba (fa_c hbc (fa_c hbr (fa_c hbm fa_n))))) (by simp only [List.map_cons, List.map_nil, hv.1, ta.1, tca.1, tra.1, hw.1]; decide)
      refine nw_a (atype := .int) (ty := .int) (N' := ((2 * ((cn (m15 x)) * 7)) + 7)) (a0 := (((2 * ((cn (m15 x)) * 7)) + 7), .inl (fun _ => 0))) 0 hN rfl hx hb (hts _ mX2_add_4) rfl (fun _ => rfl) (nI_pos (n := ((2 * ((cn (m15 x)) * 7)) + 7)) (by omega)) (nI_clamp (n := ((2 * ((cn (m15 x)) * 7)) + 7)) (by omega)) (show ((2 * ((cn (m15 x)) * 7)) + 7) * _ ≤ _ by simp only [componentBytes]; omega) (show 0 + 1 ≤ 1 by omega) (show 0 + ((2 * ((cn (m15 x)) * 7)) + 7) ≤ M by omega) dX2_add_50 (fun q5042 H heq5042 hzq5042 hoq5042 hatq5042 => ?_)
      have hgeq5042 : _ ≤ q5042 := Nat.le_trans hB.2.2.1 (Nat.le_of_eq heq5042.symm)
      have hbq5042 : B0 ≤ q5042 := Nat.le_trans hb0 hgeq5042
      have hfq5042 : (κ q5042).1 = 0 := hT.fresh hgeq5042
      have hB := hB.nwm heq5042 hzq5042 hoq5042 hatq5042 hb0
      have hB : Bx B0 D _ [(v, .inr (1, [.int b0, .int b1, .int b2, .int b3, .int b4, .int b5, .int b6])), (a, .inl (cs 0, (ln (m15 x)), .inl (rw9 (m15 x)))), (ca, .inl (cs 0, 16, .inl ct)), (ra, .inl (cs 6, 16, .inr (.inr (.inr (.inr f))))), (w, .inr (2, [.ref ra, .ref ca, .int t0])), (q5042, .inl (cs 0, ((2 * ((cn (m15 x)) * 7)) + 7), .inl (fun _ => 0)))] [q5042] _ _ := hB
      refine lv_astore (lv' := [(5, .ref q5042), (4, .int (nI ((cn (m15 x)) * 7))), (3, .int (nI (m15 x))), (0, .ref w), (1, .int x), (2, .ref v)]) hx hb dX2_add_52 hl (by decide) rfl (fun ls hl => ?_)
      refine lv_aload_n hx hb dX2_add_54 rfl (lv_at hl 3 rfl) ?_
      refine va_get (D := D) (ci := 2) (v := .ref ra) (C := RX2) (T := TX2) (N := 3) hx hb hts iX2_add_2 hown hN.1 hB.1 4 rfl rfl 0 (by decide) (hts _ mX2_add_3) (fun _ h9 => h9) rfl dX2_add_55 ?_
      refine lv_iload_n hx hb dX2_add_58 rfl (lv_at hl 2 rfl) ?_
      refine ld_a (v := .ref a) hx hb hN hB.1 3 rfl (vp_in_nI (n := (m15 x)) (N := 16) (by omega) (by omega)) (by rw [(show ((nI (m15 x)) : Int32).toNatClampNeg = (m15 x) from nI_clamp (n := (m15 x)) (by omega)), ea]; rfl) dX2_add_59 ?_
      refine lv_iconst (v := 0) hx hb dX2_add_60 (by decide) ?_
      refine lv_aload hx hb dX2_add_61 (lv_at hl 0 rfl) ?_
      refine lv_iconst (v := 0) hx hb dX2_add_63 (by decide) ?_
      refine lv_iload hx hb dX2_add_64 (lv_at hl 1 rfl) ?_
      refine lv_aload_n hx hb dX2_add_66 rfl (lv_at hl 3 rfl) ?_
      refine va_get (D := D) (ci := 2) (v := .ref ra) (C := RX2) (T := TX2) (N := 3) hx hb hts iX2_add_2 hown hN.1 hB.1 4 rfl rfl 0 (by decide) (hts _ mX2_add_3) (fun _ h9 => h9) rfl dX2_add_67 ?_
      refine lv_iload_n hx hb dX2_add_70 rfl (lv_at hl 2 rfl) ?_
      refine ld_a (v := .ref a) hx hb hN hB.1 3 rfl (vp_in_nI (n := (m15 x)) (N := 16) (by omega) (by omega)) (by rw [(show ((nI (m15 x)) : Int32).toNatClampNeg = (m15 x) from nI_clamp (n := (m15 x)) (by omega)), ea]; rfl) dX2_add_71 ?_
      refine va_alen (v := (nI ((ln (m15 x))))) hx hb hN.1 hB.1 1 0 rfl rfl rfl dX2_add_72 ?_
      refine va_mmin hx hb (hml.trans hl.1.symm) hown (hts _ mX2_add_5) (hts _ mX2_add_6) (hts _ mX2_add_7) (hts _ mX2_add_8) (Nat.le_of_ble_eq_true rfl) (Nat.le_of_ble_eq_true rfl) (show 1 ≤ 1 by omega) (show (0 + ((2 * ((cn (m15 x)) * 7)) + 7)) ≤ M by omega) dX2_add_73 ?_
      obtain ⟨m5043, hm5043, em5043⟩ := nI_min (a := ((cn (m15 x)) * 7)) (b := ((ln (m15 x)))) (by omega) (by omega)
      refine tp_i (nI m5043) em5043 ?_
      refine b_cpy hx hb (hml.trans hl.1.symm) hown (hts _ mX2_add_9) (hts _ mX2_add_10) (hts _ mX2_add_11) (hts _ mX2_add_12) hN hB 1 5 rfl rfl (nI_pos (n := 0) (by omega)) (nI_pos (n := 0) (by omega)) (nI_pos (n := m5043) (by omega)) (by rw [show (0 : Int32).toNatClampNeg = 0 from nI_clamp (n := 0) (by omega), show ((nI m5043) : Int32).toNatClampNeg = m5043 from nI_clamp (n := m5043) (by omega)]; omega) (by rw [show (0 : Int32).toNatClampNeg = 0 from nI_clamp (n := 0) (by omega), show ((nI m5043) : Int32).toNatClampNeg = m5043 from nI_clamp (n := m5043) (by omega)]; omega) (.inr ⟨rfl, List.mem_of_getElem? (i := 0) rfl⟩) (Nat.le_of_ble_eq_true rfl) (Nat.le_of_ble_eq_true rfl) dX2_add_76 (fun H locs hB => ?_)
      have hcpg5044 := fun (i : Nat) (hi : i < m5043) => cpy0 (f := (rw9 (m15 x))) (g := (fun _ => 0)) (n := m5043) (i := i) (by omega) hi
      generalize va_cpy _ _ _ _ _ = g5044 at hB hcpg5044
      have hB : Bx B0 D _ [(v, .inr (1, [.int b0, .int b1, .int b2, .int b3, .int b4, .int b5, .int b6])), (a, .inl (cs 0, (ln (m15 x)), .inl (rw9 (m15 x)))), (ca, .inl (cs 0, 16, .inl ct)), (ra, .inl (cs 6, 16, .inr (.inr (.inr (.inr f))))), (w, .inr (2, [.ref ra, .ref ca, .int t0])), (q5042, .inl (cs 0, ((2 * ((cn (m15 x)) * 7)) + 7), .inl g5044))] [q5042] _ _ := hB
      refine lv_aload_n hx hb dX2_add_79 rfl (lv_at hl 3 rfl) ?_
      refine va_get (D := D) (ci := 2) (v := .ref ra) (C := RX2) (T := TX2) (N := 3) hx hb hts iX2_add_2 hown hN.1 hB.1 4 rfl rfl 0 (by decide) (hts _ mX2_add_3) (fun _ h9 => h9) rfl dX2_add_80 ?_
      refine lv_iload_n hx hb dX2_add_83 rfl (lv_at hl 2 rfl) ?_
      refine lv_aload hx hb dX2_add_84 (lv_at hl 0 rfl) ?_
      refine b_q hx hb hN hB 3 5 rfl rfl (vp_in_nI (n := (m15 x)) (N := 16) (by omega) (by omega)) (.inl rfl) dX2_add_86 (fun H locs hB => ?_)
      rw [(show ((nI (m15 x)) : Int32).toNatClampNeg = (m15 x) from nI_clamp (n := (m15 x)) (by omega))] at hB
      have hB : Bx B0 D _ [(v, .inr (1, [.int b0, .int b1, .int b2, .int b3, .int b4, .int b5, .int b6])), (a, .inl (cs 0, (ln (m15 x)), .inl (rw9 (m15 x)))), (ca, .inl (cs 0, 16, .inl ct)), (ra, .inl (cs 6, 16, .inr (.inr (.inr (.inr (va_up f (m15 x) (some q5042))))))), (w, .inr (2, [.ref ra, .ref ca, .int t0])), (q5042, .inl (cs 0, ((2 * ((cn (m15 x)) * 7)) + 7), .inl g5044))] [ra, q5042] _ _ := hB
      have eq5042 : (va_up f (m15 x) (some q5042)) (m15 x) = some q5042 := if_pos rfl
      refine lv_aload_n hx hb dX2_add_87 rfl (lv_at hl 3 rfl) ?_
      refine va_get (D := D) (ci := 2) (v := .ref ra) (C := RX2) (T := TX2) (N := 3) hx hb hts iX2_add_2 hown hN.1 hB.1 4 rfl rfl 0 (by decide) (hts _ mX2_add_3) (fun _ h9 => h9) rfl dX2_add_88 ?_
      refine lv_iload_n hx hb dX2_add_91 rfl (lv_at hl 2 rfl) ?_
      refine ld_a (v := .ref q5042) hx hb hN hB.1 3 rfl (vp_in_nI (n := (m15 x)) (N := 16) (by omega) (by omega)) (by rw [(show ((nI (m15 x)) : Int32).toNatClampNeg = (m15 x) from nI_clamp (n := (m15 x)) (by omega)), eq5042]; rfl) dX2_add_92 ?_
      refine lv_astore (lv' := [(5, .ref q5042), (4, .int (nI ((cn (m15 x)) * 7))), (3, .int (nI (m15 x))), (0, .ref w), (1, .int x), (2, .ref v)]) hx hb dX2_add_93 hl (by decide) rfl (fun ls hl => ?_)
      refine lv_aload hx hb dX2_add_95 (lv_at hl 0 rfl) ?_
      refine lv_iload hx hb dX2_add_97 (lv_at hl 1 rfl) ?_
      refine lv_aload_n hx hb dX2_add_99 rfl (lv_at hl 5 rfl) ?_
      refine va_getN (D := D) (ci := 1) (v := .int b0) (C := RX1) (T := TX1) (N := 7) hx hb hts iX2_add_1 hown hN.1 hB.1 0 rfl rfl 0 (by decide) (hN.f 13 rfl) (fun _ h9 => h9) rfl dX2_add_100 ?_
      refine b_i hx hb hN hB 5 rfl (vp_in_nI (n := ((cn (m15 x)) * 7)) (N := ((2 * ((cn (m15 x)) * 7)) + 7)) (by omega) (by omega)) (.inr ⟨rfl, List.mem_of_getElem? (i := 1) rfl⟩) dX2_add_103 (fun H locs hB => ?_)
      rw [(show ((nI ((cn (m15 x)) * 7)) : Int32).toNatClampNeg = ((cn (m15 x)) * 7) from nI_clamp (n := ((cn (m15 x)) * 7)) (by omega))] at hB
      have hB : Bx B0 D _ [(v, .inr (1, [.int b0, .int b1, .int b2, .int b3, .int b4, .int b5, .int b6])), (a, .inl (cs 0, (ln (m15 x)), .inl (rw9 (m15 x)))), (ca, .inl (cs 0, 16, .inl ct)), (ra, .inl (cs 6, 16, .inr (.inr (.inr (.inr (va_up f (m15 x) (some q5042))))))), (w, .inr (2, [.ref ra, .ref ca, .int t0])), (q5042, .inl (cs 0, ((2 * ((cn (m15 x)) * 7)) + 7), .inl (upd g5044 ((cn (m15 x)) * 7) b0)))] [ra, q5042] _ _ := hB
      refine lv_aload hx hb dX2_add_104 (lv_at hl 0 rfl) ?_
      refine lv_iload hx hb dX2_add_106 (lv_at hl 1 rfl) ?_
      refine lv_iconst (v := 1) hx hb dX2_add_108 (by decide) ?_
      refine lv_iadd hx hb dX2_add_109 ?_
      refine tp_i (nI (((cn (m15 x)) * 7) + 1)) (nI_add ((cn (m15 x)) * 7) 1) ?_
      refine lv_aload_n hx hb dX2_add_110 rfl (lv_at hl 5 rfl) ?_
      refine va_getN (D := D) (ci := 1) (v := .int b1) (C := RX1) (T := TX1) (N := 7) hx hb hts iX2_add_1 hown hN.1 hB.1 0 rfl rfl 1 (by decide) (hN.f 15 rfl) (fun _ h9 => h9) rfl dX2_add_111 ?_
      refine b_i hx hb hN hB 5 rfl (vp_in_nI (n := (((cn (m15 x)) * 7) + 1)) (N := ((2 * ((cn (m15 x)) * 7)) + 7)) (by omega) (by omega)) (.inr ⟨rfl, List.mem_of_getElem? (i := 1) rfl⟩) dX2_add_114 (fun H locs hB => ?_)
      rw [(show ((nI (((cn (m15 x)) * 7) + 1)) : Int32).toNatClampNeg = (((cn (m15 x)) * 7) + 1) from nI_clamp (n := (((cn (m15 x)) * 7) + 1)) (by omega))] at hB
      have hB : Bx B0 D _ [(v, .inr (1, [.int b0, .int b1, .int b2, .int b3, .int b4, .int b5, .int b6])), (a, .inl (cs 0, (ln (m15 x)), .inl (rw9 (m15 x)))), (ca, .inl (cs 0, 16, .inl ct)), (ra, .inl (cs 6, 16, .inr (.inr (.inr (.inr (va_up f (m15 x) (some q5042))))))), (w, .inr (2, [.ref ra, .ref ca, .int t0])), (q5042, .inl (cs 0, ((2 * ((cn (m15 x)) * 7)) + 7), .inl (upd (upd g5044 ((cn (m15 x)) * 7) b0) (((cn (m15 x)) * 7) + 1) b1)))] [ra, q5042] _ _ := hB
      refine lv_aload hx hb dX2_add_115 (lv_at hl 0 rfl) ?_
      refine lv_iload hx hb dX2_add_117 (lv_at hl 1 rfl) ?_
      refine lv_iconst (v := 2) hx hb dX2_add_119 (by decide) ?_
      refine lv_iadd hx hb dX2_add_120 ?_
      refine tp_i (nI (((cn (m15 x)) * 7) + 2)) (nI_add ((cn (m15 x)) * 7) 2) ?_
      refine lv_aload_n hx hb dX2_add_121 rfl (lv_at hl 5 rfl) ?_
      refine va_getN (D := D) (ci := 1) (v := .int b2) (C := RX1) (T := TX1) (N := 7) hx hb hts iX2_add_1 hown hN.1 hB.1 0 rfl rfl 2 (by decide) (hN.f 17 rfl) (fun _ h9 => h9) rfl dX2_add_122 ?_
      refine b_i hx hb hN hB 5 rfl (vp_in_nI (n := (((cn (m15 x)) * 7) + 2)) (N := ((2 * ((cn (m15 x)) * 7)) + 7)) (by omega) (by omega)) (.inr ⟨rfl, List.mem_of_getElem? (i := 1) rfl⟩) dX2_add_125 (fun H locs hB => ?_)
      rw [(show ((nI (((cn (m15 x)) * 7) + 2)) : Int32).toNatClampNeg = (((cn (m15 x)) * 7) + 2) from nI_clamp (n := (((cn (m15 x)) * 7) + 2)) (by omega))] at hB
      have hB : Bx B0 D _ [(v, .inr (1, [.int b0, .int b1, .int b2, .int b3, .int b4, .int b5, .int b6])), (a, .inl (cs 0, (ln (m15 x)), .inl (rw9 (m15 x)))), (ca, .inl (cs 0, 16, .inl ct)), (ra, .inl (cs 6, 16, .inr (.inr (.inr (.inr (va_up f (m15 x) (some q5042))))))), (w, .inr (2, [.ref ra, .ref ca, .int t0])), (q5042, .inl (cs 0, ((2 * ((cn (m15 x)) * 7)) + 7), .inl (upd (upd (upd g5044 ((cn (m15 x)) * 7) b0) (((cn (m15 x)) * 7) + 1) b1) (((cn (m15 x)) * 7) + 2) b2)))] [ra, q5042] _ _ := hB
      refine lv_aload hx hb dX2_add_126 (lv_at hl 0 rfl) ?_
      refine lv_iload hx hb dX2_add_128 (lv_at hl 1 rfl) ?_
      refine lv_iconst (v := 3) hx hb dX2_add_130 (by decide) ?_
      refine lv_iadd hx hb dX2_add_131 ?_
      refine tp_i (nI (((cn (m15 x)) * 7) + 3)) (nI_add ((cn (m15 x)) * 7) 3) ?_
      refine lv_aload_n hx hb dX2_add_132 rfl (lv_at hl 5 rfl) ?_
      refine va_getN (D := D) (ci := 1) (v := .int b3) (C := RX1) (T := TX1) (N := 7) hx hb hts iX2_add_1 hown hN.1 hB.1 0 rfl rfl 3 (by decide) (hN.f 19 rfl) (fun _ h9 => h9) rfl dX2_add_133 ?_
      refine b_i hx hb hN hB 5 rfl (vp_in_nI (n := (((cn (m15 x)) * 7) + 3)) (N := ((2 * ((cn (m15 x)) * 7)) + 7)) (by omega) (by omega)) (.inr ⟨rfl, List.mem_of_getElem? (i := 1) rfl⟩) dX2_add_136 (fun H locs hB => ?_)
      rw [(show ((nI (((cn (m15 x)) * 7) + 3)) : Int32).toNatClampNeg = (((cn (m15 x)) * 7) + 3) from nI_clamp (n := (((cn (m15 x)) * 7) + 3)) (by omega))] at hB
      have hB : Bx B0 D _ [(v, .inr (1, [.int b0, .int b1, .int b2, .int b3, .int b4, .int b5, .int b6])), (a, .inl (cs 0, (ln (m15 x)), .inl (rw9 (m15 x)))), (ca, .inl (cs 0, 16, .inl ct)), (ra, .inl (cs 6, 16, .inr (.inr (.inr (.inr (va_up f (m15 x) (some q5042))))))), (w, .inr (2, [.ref ra, .ref ca, .int t0])), (q5042, .inl (cs 0, ((2 * ((cn (m15 x)) * 7)) + 7), .inl (upd (upd (upd (upd g5044 ((cn (m15 x)) * 7) b0) (((cn (m15 x)) * 7) + 1) b1) (((cn (m15 x)) * 7) + 2) b2) (((cn (m15 x)) * 7) + 3) b3)))] [ra, q5042] _ _ := hB
      refine lv_aload hx hb dX2_add_137 (lv_at hl 0 rfl) ?_
      refine lv_iload hx hb dX2_add_139 (lv_at hl 1 rfl) ?_
      refine lv_iconst (v := 4) hx hb dX2_add_141 (by decide) ?_
      refine lv_iadd hx hb dX2_add_142 ?_
      refine tp_i (nI (((cn (m15 x)) * 7) + 4)) (nI_add ((cn (m15 x)) * 7) 4) ?_
      refine lv_aload_n hx hb dX2_add_143 rfl (lv_at hl 5 rfl) ?_
      refine va_getN (D := D) (ci := 1) (v := .int b4) (C := RX1) (T := TX1) (N := 7) hx hb hts iX2_add_1 hown hN.1 hB.1 0 rfl rfl 4 (by decide) (hN.f 21 rfl) (fun _ h9 => h9) rfl dX2_add_144 ?_
      refine b_i hx hb hN hB 5 rfl (vp_in_nI (n := (((cn (m15 x)) * 7) + 4)) (N := ((2 * ((cn (m15 x)) * 7)) + 7)) (by omega) (by omega)) (.inr ⟨rfl, List.mem_of_getElem? (i := 1) rfl⟩) dX2_add_147 (fun H locs hB => ?_)
      rw [(show ((nI (((cn (m15 x)) * 7) + 4)) : Int32).toNatClampNeg = (((cn (m15 x)) * 7) + 4) from nI_clamp (n := (((cn (m15 x)) * 7) + 4)) (by omega))] at hB
      have hB : Bx B0 D _ [(v, .inr (1, [.int b0, .int b1, .int b2, .int b3, .int b4, .int b5, .int b6])), (a, .inl (cs 0, (ln (m15 x)), .inl (rw9 (m15 x)))), (ca, .inl (cs 0, 16, .inl ct)), (ra, .inl (cs 6, 16, .inr (.inr (.inr (.inr (va_up f (m15 x) (some q5042))))))), (w, .inr (2, [.ref ra, .ref ca, .int t0])), (q5042, .inl (cs 0, ((2 * ((cn (m15 x)) * 7)) + 7), .inl (upd (upd (upd (upd (upd g5044 ((cn (m15 x)) * 7) b0) (((cn (m15 x)) * 7) + 1) b1) (((cn (m15 x)) * 7) + 2) b2) (((cn (m15 x)) * 7) + 3) b3) (((cn (m15 x)) * 7) + 4) b4)))] [ra, q5042] _ _ := hB
      refine lv_aload hx hb dX2_add_148 (lv_at hl 0 rfl) ?_
      refine lv_iload hx hb dX2_add_150 (lv_at hl 1 rfl) ?_
      refine lv_iconst (v := 5) hx hb dX2_add_152 (by decide) ?_
      refine lv_iadd hx hb dX2_add_153 ?_
      refine tp_i (nI (((cn (m15 x)) * 7) + 5)) (nI_add ((cn (m15 x)) * 7) 5) ?_
      refine lv_aload_n hx hb dX2_add_154 rfl (lv_at hl 5 rfl) ?_
      refine va_getN (D := D) (ci := 1) (v := .int b5) (C := RX1) (T := TX1) (N := 7) hx hb hts iX2_add_1 hown hN.1 hB.1 0 rfl rfl 5 (by decide) (hN.f 23 rfl) (fun _ h9 => h9) rfl dX2_add_155 ?_
      refine b_i hx hb hN hB 5 rfl (vp_in_nI (n := (((cn (m15 x)) * 7) + 5)) (N := ((2 * ((cn (m15 x)) * 7)) + 7)) (by omega) (by omega)) (.inr ⟨rfl, List.mem_of_getElem? (i := 1) rfl⟩) dX2_add_158 (fun H locs hB => ?_)
      rw [(show ((nI (((cn (m15 x)) * 7) + 5)) : Int32).toNatClampNeg = (((cn (m15 x)) * 7) + 5) from nI_clamp (n := (((cn (m15 x)) * 7) + 5)) (by omega))] at hB
      have hB : Bx B0 D _ [(v, .inr (1, [.int b0, .int b1, .int b2, .int b3, .int b4, .int b5, .int b6])), (a, .inl (cs 0, (ln (m15 x)), .inl (rw9 (m15 x)))), (ca, .inl (cs 0, 16, .inl ct)), (ra, .inl (cs 6, 16, .inr (.inr (.inr (.inr (va_up f (m15 x) (some q5042))))))), (w, .inr (2, [.ref ra, .ref ca, .int t0])), (q5042, .inl (cs 0, ((2 * ((cn (m15 x)) * 7)) + 7), .inl (upd (upd (upd (upd (upd (upd g5044 ((cn (m15 x)) * 7) b0) (((cn (m15 x)) * 7) + 1) b1) (((cn (m15 x)) * 7) + 2) b2) (((cn (m15 x)) * 7) + 3) b3) (((cn (m15 x)) * 7) + 4) b4) (((cn (m15 x)) * 7) + 5) b5)))] [ra, q5042] _ _ := hB
      refine lv_aload hx hb dX2_add_159 (lv_at hl 0 rfl) ?_
      refine lv_iload hx hb dX2_add_161 (lv_at hl 1 rfl) ?_
      refine lv_bipush (v := 6) hx hb dX2_add_163 (by decide) ?_
      refine lv_iadd hx hb dX2_add_165 ?_
      refine tp_i (nI (((cn (m15 x)) * 7) + 6)) (nI_add ((cn (m15 x)) * 7) 6) ?_
      refine lv_aload_n hx hb dX2_add_166 rfl (lv_at hl 5 rfl) ?_
      refine va_getN (D := D) (ci := 1) (v := .int b6) (C := RX1) (T := TX1) (N := 7) hx hb hts iX2_add_1 hown hN.1 hB.1 0 rfl rfl 6 (by decide) (hN.f 25 rfl) (fun _ h9 => h9) rfl dX2_add_167 ?_
      refine b_i hx hb hN hB 5 rfl (vp_in_nI (n := (((cn (m15 x)) * 7) + 6)) (N := ((2 * ((cn (m15 x)) * 7)) + 7)) (by omega) (by omega)) (.inr ⟨rfl, List.mem_of_getElem? (i := 1) rfl⟩) dX2_add_170 (fun H locs hB => ?_)
      rw [(show ((nI (((cn (m15 x)) * 7) + 6)) : Int32).toNatClampNeg = (((cn (m15 x)) * 7) + 6) from nI_clamp (n := (((cn (m15 x)) * 7) + 6)) (by omega))] at hB
      have hB : Bx B0 D _ [(v, .inr (1, [.int b0, .int b1, .int b2, .int b3, .int b4, .int b5, .int b6])), (a, .inl (cs 0, (ln (m15 x)), .inl (rw9 (m15 x)))), (ca, .inl (cs 0, 16, .inl ct)), (ra, .inl (cs 6, 16, .inr (.inr (.inr (.inr (va_up f (m15 x) (some q5042))))))), (w, .inr (2, [.ref ra, .ref ca, .int t0])), (q5042, .inl (cs 0, ((2 * ((cn (m15 x)) * 7)) + 7), .inl (upd (upd (upd (upd (upd (upd (upd g5044 ((cn (m15 x)) * 7) b0) (((cn (m15 x)) * 7) + 1) b1) (((cn (m15 x)) * 7) + 2) b2) (((cn (m15 x)) * 7) + 3) b3) (((cn (m15 x)) * 7) + 4) b4) (((cn (m15 x)) * 7) + 5) b5) (((cn (m15 x)) * 7) + 6) b6)))] [ra, q5042] _ _ := hB
      refine lv_aload_n hx hb dX2_add_171 rfl (lv_at hl 3 rfl) ?_
      refine va_get (D := D) (ci := 2) (v := .ref ca) (C := RX2) (T := TX2) (N := 3) hx hb hts iX2_add_2 hown hN.1 hB.1 4 rfl rfl 1 (by decide) (hts _ mX2_add_2) (fun _ h9 => h9) rfl dX2_add_172 ?_
      refine lv_iload_n hx hb dX2_add_175 rfl (lv_at hl 2 rfl) ?_
      refine lv_dup2_11 hx hb dX2_add_176 rfl rfl ?_
      refine ld_i (v := (ct (m15 x))) hx hb hN hB.1 2 rfl (vp_in_nI (n := (m15 x)) (N := 16) (by omega) (by omega)) (by rw [(show ((nI (m15 x)) : Int32).toNatClampNeg = (m15 x) from nI_clamp (n := (m15 x)) (by omega))]) dX2_add_177 ?_
      refine tp_i (nI (cn (m15 x))) (hct _ (by omega)) ?_
      refine lv_iconst (v := 1) hx hb dX2_add_178 (by decide) ?_
      refine lv_iadd hx hb dX2_add_179 ?_
      refine tp_i (nI ((cn (m15 x)) + 1)) (nI_add (cn (m15 x)) 1) ?_
      refine b_i hx hb hN hB 2 rfl (vp_in_nI (n := (m15 x)) (N := 16) (by omega) (by omega)) (.inl rfl) dX2_add_180 (fun H locs hB => ?_)
      rw [(show ((nI (m15 x)) : Int32).toNatClampNeg = (m15 x) from nI_clamp (n := (m15 x)) (by omega))] at hB
      have hB : Bx B0 D _ [(v, .inr (1, [.int b0, .int b1, .int b2, .int b3, .int b4, .int b5, .int b6])), (a, .inl (cs 0, (ln (m15 x)), .inl (rw9 (m15 x)))), (ca, .inl (cs 0, 16, .inl (upd ct (m15 x) (nI ((cn (m15 x)) + 1))))), (ra, .inl (cs 6, 16, .inr (.inr (.inr (.inr (va_up f (m15 x) (some q5042))))))), (w, .inr (2, [.ref ra, .ref ca, .int t0])), (q5042, .inl (cs 0, ((2 * ((cn (m15 x)) * 7)) + 7), .inl (upd (upd (upd (upd (upd (upd (upd g5044 ((cn (m15 x)) * 7) b0) (((cn (m15 x)) * 7) + 1) b1) (((cn (m15 x)) * 7) + 2) b2) (((cn (m15 x)) * 7) + 3) b3) (((cn (m15 x)) * 7) + 4) b4) (((cn (m15 x)) * 7) + 5) b5) (((cn (m15 x)) * 7) + 6) b6)))] [ca, ra, q5042] _ _ := hB
      refine lv_aload_n hx hb dX2_add_181 rfl (lv_at hl 3 rfl) ?_
      refine lv_dup hx hb dX2_add_182 rfl ?_
      refine va_get (D := D) (ci := 2) (v := .int t0) (C := RX2) (T := TX2) (N := 3) hx hb hts iX2_add_2 hown hN.1 hB.1 4 rfl rfl 2 (by decide) (hts _ mX2_add_1) (fun _ h9 => h9) rfl dX2_add_183 ?_
      refine lv_iconst (v := 1) hx hb dX2_add_186 (by decide) ?_
      refine lv_iadd hx hb dX2_add_187 ?_
      refine gn_i (fun x5045 => ?_)
      refine b_put (D := D) (ci := 2) (v := .int x5045) (ty := .int) (C := RX2) (T := TX2) (N := 3) hx hb hts iX2_add_2 tyX2 tyX2_ok nmX2 hown hN hB 4 rfl rfl 2 (by decide) (hts _ mX2_add_1) (fun _ h9 => h9) rfl (by decide +kernel) rfl rfl (Nat.le_of_ble_eq_true rfl) (.inl rfl) dX2_add_188 (fun H locs hB => ?_)
      have hB : Bx B0 D _ [(v, .inr (1, [.int b0, .int b1, .int b2, .int b3, .int b4, .int b5, .int b6])), (a, .inl (cs 0, (ln (m15 x)), .inl (rw9 (m15 x)))), (ca, .inl (cs 0, 16, .inl (upd ct (m15 x) (nI ((cn (m15 x)) + 1))))), (ra, .inl (cs 6, 16, .inr (.inr (.inr (.inr (va_up f (m15 x) (some q5042))))))), (w, .inr (2, [.ref ra, .ref ca, .int x5045])), (q5042, .inl (cs 0, ((2 * ((cn (m15 x)) * 7)) + 7), .inl (upd (upd (upd (upd (upd (upd (upd g5044 ((cn (m15 x)) * 7) b0) (((cn (m15 x)) * 7) + 1) b1) (((cn (m15 x)) * 7) + 2) b2) (((cn (m15 x)) * 7) + 3) b3) (((cn (m15 x)) * 7) + 4) b4) (((cn (m15 x)) * 7) + 5) b5) (((cn (m15 x)) * 7) + 6) b6)))] [w, ca, ra, q5042] _ _ := hB
      refine lv_iconst (v := 1) hx hb dX2_add_191 (by decide) ?_
      have hB0 := hB
      have hP0 := hB.1
      have hw0 := hw
      have tra0 := tra
      have tca0 := tca
      obtain ⟨κ5046, hκ5046⟩ : ∃ κq : KM, κq = (ku κ q5042 (14, o, (m15 x), 0)) := ⟨_, rfl⟩
      have hx5046 : KX κ κ5046 := by rw [hκ5046]; exact (KX.ku hfq5042)
      have eq5042 : κ5046 q5042 = (14, o, (m15 x), 0) := by rw [hκ5046, ku_a]
      have hq5042 : T2 κ5046 q5042 14 o := ⟨by rw [eq5042], by rw [eq5042]⟩
      have hx9 := hx5046
      have hT : WT B0 D cs T κ5046 _ := hT.closeN hB hx5046 (fun a9 h9 => by rw [hκ5046, ku_n (fun e9 => h9 (by rw [e9]; exact List.mem_of_getElem? (i := 3) rfl))]) ⟨⟨4, _, rfl, (by rw [hx9.n hw (by decide)]; exact ok_3 hw.1 ⟨_, _, _, rfl, ⟨(hx9.f.t2 tra (by decide)).1, by rw [hw.2]; exact (hx9.f.t2 tra (by decide)).2⟩, ⟨(hx9.f.t2 tca (by decide)).1, by rw [hw.2]; exact (hx9.f.t2 tca (by decide)).2⟩⟩)⟩, ⟨⟨2, _, rfl, (by rw [hx9.n tca (by decide)]; exact ok_15 tca.1 ⟨_, rfl, (K15u hct hc20 (by omega))⟩)⟩, ⟨⟨3, _, rfl, (by rw [hx9.n tra (by decide)]; exact ok_13 tra.1 ⟨_, rfl, (by rw [tra.2]; exact K13u hq13 hx9 hq5042 (by rw [eq5042]))⟩)⟩, ⟨⟨5, _, rfl, ok_14 hq5042.1 ⟨_, _, rfl, (by omega)⟩⟩, trivial⟩⟩⟩⟩
      have hF : Fr B0 [o] κ H0 _ := hF.closeN hB (fa_c (fun _ => by simp [hw.2]) (fa_c (fun _ => by simp [tca.2]) (fa_c (fun _ => by simp [tra.2]) (fa_c (fun h9 => absurd hfq5042 h9) fa_n))))
      have hL : OkL B0 _ := hB.2.2.2.2.2
      have hKF : KF κ κ5046 := hx5046.f
      have hKX : KX κ κ5046 := hx5046
      have hw := (hx5046.f.t2 hw (by decide))
      have hv := (hx5046.f.t2 hv (by decide))
      have hP : va_P D vwCl [(v, .inr (1, [.int b0, .int b1, .int b2, .int b3, .int b4, .int b5, .int b6])), (a, .inl (cs 0, (ln (m15 x)), .inl (rw9 (m15 x)))), (ca, .inl (cs 0, 16, .inl (upd ct (m15 x) (nI ((cn (m15 x)) + 1))))), (ra, .inl (cs 6, 16, .inr (.inr (.inr (.inr (va_up f (m15 x) (some q5042))))))), (w, .inr (2, [.ref ra, .ref ca, .int x5045])), (q5042, .inl (cs 0, ((2 * ((cn (m15 x)) * 7)) + 7), .inl (upd (upd (upd (upd (upd (upd (upd g5044 ((cn (m15 x)) * 7) b0) (((cn (m15 x)) * 7) + 1) b1) (((cn (m15 x)) * 7) + 2) b2) (((cn (m15 x)) * 7) + 3) b3) (((cn (m15 x)) * 7) + 4) b4) (((cn (m15 x)) * 7) + 5) b5) (((cn (m15 x)) * 7) + 6) b6)))] _ := hB.1
      refine W.know (fun hg => ?_)
      rw [hH0] at hg
      have hMB := MB.put (r := (m15 x)) hB0 hrw hct (hP0 4 _ rfl) (hP0 3 _ rfl) (hP0 2 _ rfl) (fun j hj hne => if_neg hne) (fun a9 j9 g1 g2 t9 u9 => by simp only [List.mem_cons, List.not_mem_nil, or_false, not_or]; exact ⟨(ne_c t9.1 hw0.1 (by decide)), (ne_c t9.1 tca0.1 (by decide)), (ne_c t9.1 tra0.1 (by decide)), (fun e9 => nw_ne g2 hgeq5042 e9.symm)⟩) ⟨_, if_pos rfl, hP0 5 _ rfl⟩
      exact en_i hx hb hr hlocks hL rfl (show 1 ≤ 1 by omega) (show (0 + ((2 * ((cn (m15 x)) * 7)) + 7)) ≤ M by omega) dX2_add_192 (⟨_, hKX, hT, hF, _, _, _, _, _, hMB, hLC.put hr9 hcn9 (Or.inr ⟨by omega, by omega⟩), GP.up hg hr9 (Or.inr ⟨by omega, by omega, by omega, by omega⟩), Or.inr ⟨rfl, PT.put (fun i9 h9 => by rw [pk_un (by omega), pk_un (by omega), pk_un (by omega), pk_un (by omega), pk_un (by omega), pk_un (by omega), pk_un (by omega)]; exact (hcpg5044 i9 (by omega))) (by rw [(show 7 * cn (m15 x) = cn (m15 x) * 7 by omega), pk_un (by omega), pk_un (by omega), pk_un (by omega), pk_un (by omega), pk_un (by omega), pk_un (by omega), pk_us]) (by rw [(show 7 * cn (m15 x) = cn (m15 x) * 7 by omega), pk_un (by omega), pk_un (by omega), pk_un (by omega), pk_un (by omega), pk_un (by omega), pk_us]) (by rw [(show 7 * cn (m15 x) = cn (m15 x) * 7 by omega), pk_un (by omega), pk_un (by omega), pk_un (by omega), pk_un (by omega), pk_us])⟩⟩)
  · refine lv_iconst (v := 0) hx hb dX2_add_10 (by decide) ?_
    refine W.know (fun hg => ?_)
    rw [hH0] at hg
    exact en_i hx hb hr hlocks hL rfl (Nat.zero_le _) (Nat.zero_le _) dX2_add_11 (⟨κ, KX.rf, hT, hF, cn, ln, rw9, 0, 0, hM, hLC, GP.rf, Or.inl ⟨rfl, rfl, rfl, rfl, rfl, rfl⟩⟩)
set_option maxHeartbeats 4000000 in
set_option maxRecDepth 100000 in
theorem c_X2_countAt_dc {l : Launch} {D : va_G} {cs : Nat → ClassId} {B0 T : Nat} {κ : KM} {H0 : Heap} (hT : WT B0 D cs T κ H0) {w o : Nat} (hw : T2 κ w 3 o) {x : Int32} {C cn ln : Nat → Nat} {rw9 : Nat → Nat → Int32} (hM : MB D cs H0 w cn ln rw9) (hLC : LC C cn ln) (hcn : ∀ j, j < 16 → cn j ≤ C j + 24) : KC l yX2_countAt wsX2_countAt 0 0 0 0 D cs B0 H0 [.ref w, .int x] (Qi (fun r H => H = H0 ∧ r = nI (cn (m15 x)))) := by
  refine KC.of cX2_countAt 2 (some .int) (by decide) rfl (Nat.le_of_ble_eq_true rfl) ?_
  intro p e s m below meth c ls hx hb hr hml hown hts hlocks hin hN hE hH0 hl
  have hown : s.vm.findClass RX2 = some m.cls := hown
  have hl : lv_has ls 2 [(0, .ref w), (1, .int x)] := hl
  have hL : OkL B0 [] := OkL.nil
  obtain ⟨ra, ca, t0, f, ct, hmc, hra, hca, tra, tca, hct, hrw, hbm, hbr, hbc⟩ := hM.op hT hw
  have hc20 : ∀ j, j < 16 → cn j ≤ 20000 := fun j hj => by have h1 := hcn j hj; have h2 := (hLC j hj).2.2.2; omega
  have hq13 : ∀ j, j < 16 → ∃ a, f j = some a ∧ T2 κ a 14 o ∧ (κ a).2.2.1 = j := fun j hj => by obtain ⟨a, g1, -, g2, g3⟩ := hrw j hj; exact ⟨a, g1, g2, g3⟩
  have hq15 : ∀ j, j < 16 → ∃ n, n ≤ 20000 ∧ ct j = nI n := fun j hj => ⟨cn j, hc20 j hj, hct j hj⟩
  have hP : va_P D vwCl [(w, .inr (2, [.ref ra, .ref ca, .int t0]))] _ := va_P.cons hmc va_P.nil
  have hP : va_P D vwCl [(ra, .inl (cs 6, 16, .inr (.inr (.inr (.inr f))))), (w, .inr (2, [.ref ra, .ref ca, .int t0]))] _ := va_P.cons hra hP
  have hP : va_P D vwCl [(ca, .inl (cs 0, 16, .inl ct)), (ra, .inl (cs 6, 16, .inr (.inr (.inr (.inr f))))), (w, .inr (2, [.ref ra, .ref ca, .int t0]))] _ := va_P.cons hca hP
  refine lv_aload_n hx hb dX2_countAt_0 rfl (lv_at hl 0 rfl) ?_
  refine va_get (D := D) (ci := 2) (v := .ref ca) (C := RX2) (T := TX2) (N := 3) hx hb hts iX2_countAt_2 hown hN.1 hP 2 rfl rfl 1 (by decide) (hts _ mX2_countAt_1) (fun _ h9 => h9) rfl dX2_countAt_1 ?_
  refine lv_iload_n hx hb dX2_countAt_4 rfl (lv_at hl 1 rfl) ?_
  refine lv_bipush (v := 15) hx hb dX2_countAt_5 (by decide) ?_
  refine lv_iand hx hb dX2_countAt_7 ?_
  have hj5047 := m15_lt x
  refine tp_i (nI (m15 x)) (and15 x) ?_
  refine ld_i (v := (ct (m15 x))) hx hb hN hP 0 rfl (vp_in_nI (n := (m15 x)) (N := 16) (by omega) (by omega)) (by rw [(show ((nI (m15 x)) : Int32).toNatClampNeg = (m15 x) from nI_clamp (n := (m15 x)) (by omega))]) dX2_countAt_8 ?_
  refine tp_i (nI (cn (m15 x))) (hct _ (by omega)) ?_
  exact en_i hx hb hr hlocks hL rfl (Nat.zero_le _) (Nat.zero_le _) dX2_countAt_9 (⟨rfl, rfl⟩)
set_option maxHeartbeats 4000000 in
set_option maxRecDepth 100000 in
theorem c_X2_read_dc {l : Launch} {D : va_G} {cs : Nat → ClassId} {B0 T : Nat} {κ : KM} {H0 : Heap} (hT : WT B0 D cs T κ H0) {w v o i n : Nat} (hw : T2 κ w 3 o) {x : Int32} (hv : T2 κ v 2 i) {C cn ln : Nat → Nat} {rw9 : Nat → Nat → Int32} (hM : MB D cs H0 w cn ln rw9) (hLC : LC C cn ln) (hcn : ∀ j, j < 16 → cn j ≤ C j + 24) (hn : n < cn (m15 x)) : KC l yX2_read wsX2_read 0 0 0 0 D cs B0 H0 [.ref w, .int x, .int (nI n), .ref v] (Qi (fun r H => WT B0 D cs T κ H ∧ Fr B0 [i] κ H0 H ∧ r = 1 ∧ va_at D vwCl (v, .inr (1, [.int (rw9 (m15 x) (7 * n)), .int (rw9 (m15 x) (7 * n + 1)), .int (rw9 (m15 x) (7 * n + 2)), .int (rw9 (m15 x) (7 * n + 3)), .int (rw9 (m15 x) (7 * n + 4)), .int (rw9 (m15 x) (7 * n + 5)), .int (rw9 (m15 x) (7 * n + 6))])) H)) := by
  refine KC.of cX2_read 7 (some .boolean) (by decide) rfl (Nat.le_of_ble_eq_true rfl) ?_
  intro p e s m below meth c ls hx hb hr hml hown hts hlocks hin hN hE hH0 hl
  have hown : s.vm.findClass RX2 = some m.cls := hown
  have hl : lv_has ls 7 [(0, .ref w), (1, .int x), (2, .int (nI n)), (3, .ref v)] := hl
  have hL : OkL B0 [] := OkL.nil
  have hF : Fr B0 [i] κ H0 H0 := Fr.rf
  obtain ⟨ra, ca, t0, f, ct, hmc, hra, hca, tra, tca, hct, hrw, hbm, hbr, hbc⟩ := hM.op hT hw
  have hc20 : ∀ j, j < 16 → cn j ≤ 20000 := fun j hj => by have h1 := hcn j hj; have h2 := (hLC j hj).2.2.2; omega
  have hq13 : ∀ j, j < 16 → ∃ a, f j = some a ∧ T2 κ a 14 o ∧ (κ a).2.2.1 = j := fun j hj => by obtain ⟨a, g1, -, g2, g3⟩ := hrw j hj; exact ⟨a, g1, g2, g3⟩
  have hq15 : ∀ j, j < 16 → ∃ n, n ≤ 20000 ∧ ct j = nI n := fun j hj => ⟨cn j, hc20 j hj, hct j hj⟩
  have hr9 := m15_lt x
  obtain ⟨a, ea, hata, ta, ua⟩ := hrw (m15 x) hr9
  obtain ⟨hba, -⟩ := hT.o14 ta.1
  obtain ⟨lc1, lc2, lc3, lc4⟩ := hLC (m15 x) hr9
  have hcn9 := hcn (m15 x) hr9
  obtain ⟨m7, e7, g7⟩ := lc1.s7
  have hP : va_P D vwCl [(w, .inr (2, [.ref ra, .ref ca, .int t0]))] _ := va_P.cons hmc va_P.nil
  have hP : va_P D vwCl [(ra, .inl (cs 6, 16, .inr (.inr (.inr (.inr f))))), (w, .inr (2, [.ref ra, .ref ca, .int t0]))] _ := va_P.cons hra hP
  have hP : va_P D vwCl [(ca, .inl (cs 0, 16, .inl ct)), (ra, .inl (cs 6, 16, .inr (.inr (.inr (.inr f))))), (w, .inr (2, [.ref ra, .ref ca, .int t0]))] _ := va_P.cons hca hP
  have hP : va_P D vwCl [(a, .inl (cs 0, (ln (m15 x)), .inl (rw9 (m15 x)))), (ca, .inl (cs 0, 16, .inl ct)), (ra, .inl (cs 6, 16, .inr (.inr (.inr (.inr f))))), (w, .inr (2, [.ref ra, .ref ca, .int t0]))] _ := va_P.cons hata hP
  have hnn := hc20 (m15 x) hr9
  refine lv_iload_n hx hb dX2_read_0 rfl (lv_at hl 1 rfl) ?_
  refine lv_bipush (v := 15) hx hb dX2_read_1 (by decide) ?_
  refine lv_iand hx hb dX2_read_3 ?_
  have hj5048 := m15_lt x
  refine tp_i (nI (m15 x)) (and15 x) ?_
  refine lv_istore (lv' := [(4, .int (nI (m15 x))), (0, .ref w), (1, .int x), (2, .int (nI n)), (3, .ref v)]) hx hb dX2_read_4 hl (by decide) rfl (fun ls hl => ?_)
  refine lv_iload_n hx hb dX2_read_6 rfl (lv_at hl 3 rfl) ?_
  refine lv_if_lt (tgt := 38) hx hb dX2_read_7 (by decide) (fun c5049 => ?_) (fun c5049 => ?_)
  · have c5049 : n < 0 := (nI_ltI (a := n) (b := 0) (by omega) (by omega)).mp c5049
    omega
  · have c5049 : ¬ n < 0 := fun h9 => c5049 ((nI_ltI (a := n) (b := 0) (by omega) (by omega)).mpr h9)
    refine lv_iload_n hx hb dX2_read_10 rfl (lv_at hl 3 rfl) ?_
    refine lv_aload_n hx hb dX2_read_11 rfl (lv_at hl 1 rfl) ?_
    refine va_get (D := D) (ci := 2) (v := .ref ca) (C := RX2) (T := TX2) (N := 3) hx hb hts iX2_read_2 hown hN.1 hP 3 rfl rfl 1 (by decide) (hts _ mX2_read_1) (fun _ h9 => h9) rfl dX2_read_12 ?_
    refine lv_iload hx hb dX2_read_15 (lv_at hl 0 rfl) ?_
    refine ld_i (v := (ct (m15 x))) hx hb hN hP 1 rfl (vp_in_nI (n := (m15 x)) (N := 16) (by omega) (by omega)) (by rw [(show ((nI (m15 x)) : Int32).toNatClampNeg = (m15 x) from nI_clamp (n := (m15 x)) (by omega))]) dX2_read_17 ?_
    refine tp_i (nI (cn (m15 x))) (hct _ (by omega)) ?_
    refine lv_icmp_ge (tgt := 38) hx hb dX2_read_18 (by decide) (fun c5050 => ?_) (fun c5050 => ?_)
    · have c5050 : (cn (m15 x)) ≤ n := (nI_leI (a := (cn (m15 x))) (b := n) (by omega) (by omega)).mp c5050
      omega
    · have c5050 : ¬ (cn (m15 x)) ≤ n := fun h9 => c5050 ((nI_leI (a := (cn (m15 x))) (b := n) (by omega) (by omega)).mpr h9)
      refine lv_iload_n hx hb dX2_read_21 rfl (lv_at hl 3 rfl) ?_
      refine lv_iconst (v := 1) hx hb dX2_read_22 (by decide) ?_
      refine lv_iadd hx hb dX2_read_23 ?_
      refine tp_i (nI (n + 1)) (nI_add n 1) ?_
      refine lv_bipush (v := 7) hx hb dX2_read_24 (by decide) ?_
      refine lv_imul hx hb dX2_read_26 ?_
      refine tp_i (nI ((n + 1) * 7)) (nI_mul (n + 1) 7) ?_
      refine lv_aload_n hx hb dX2_read_27 rfl (lv_at hl 1 rfl) ?_
      refine va_get (D := D) (ci := 2) (v := .ref ra) (C := RX2) (T := TX2) (N := 3) hx hb hts iX2_read_2 hown hN.1 hP 3 rfl rfl 0 (by decide) (hts _ mX2_read_2) (fun _ h9 => h9) rfl dX2_read_28 ?_
      refine lv_iload hx hb dX2_read_31 (lv_at hl 0 rfl) ?_
      refine ld_a (v := .ref a) hx hb hN hP 2 rfl (vp_in_nI (n := (m15 x)) (N := 16) (by omega) (by omega)) (by rw [(show ((nI (m15 x)) : Int32).toNatClampNeg = (m15 x) from nI_clamp (n := (m15 x)) (by omega)), ea]; rfl) dX2_read_33 ?_
      refine va_alen (v := (nI ((ln (m15 x))))) hx hb hN.1 hP 0 0 rfl rfl rfl dX2_read_34 ?_
      refine lv_icmp_le (tgt := 40) hx hb dX2_read_35 (by decide) (fun c5051 => ?_) (fun c5051 => ?_)
      · have c5051 : ((n + 1) * 7) ≤ ((ln (m15 x))) := (nI_leI (a := ((n + 1) * 7)) (b := ((ln (m15 x)))) (by omega) (by omega)).mp c5051
        refine lv_aload_n hx hb dX2_read_40 rfl (lv_at hl 1 rfl) ?_
        refine va_get (D := D) (ci := 2) (v := .ref ra) (C := RX2) (T := TX2) (N := 3) hx hb hts iX2_read_2 hown hN.1 hP 3 rfl rfl 0 (by decide) (hts _ mX2_read_2) (fun _ h9 => h9) rfl dX2_read_41 ?_
        refine lv_iload hx hb dX2_read_44 (lv_at hl 0 rfl) ?_
        refine ld_a (v := .ref a) hx hb hN hP 2 rfl (vp_in_nI (n := (m15 x)) (N := 16) (by omega) (by omega)) (by rw [(show ((nI (m15 x)) : Int32).toNatClampNeg = (m15 x) from nI_clamp (n := (m15 x)) (by omega)), ea]; rfl) dX2_read_46 ?_
        refine lv_astore (lv' := [(5, .ref a), (4, .int (nI (m15 x))), (0, .ref w), (1, .int x), (2, .int (nI n)), (3, .ref v)]) hx hb dX2_read_47 hl (by decide) rfl (fun ls hl => ?_)
        refine lv_iload_n hx hb dX2_read_49 rfl (lv_at hl 4 rfl) ?_
        refine lv_bipush (v := 7) hx hb dX2_read_50 (by decide) ?_
        refine lv_imul hx hb dX2_read_52 ?_
        refine tp_i (nI (n * 7)) (nI_mul n 7) ?_
        refine lv_istore (lv' := [(6, .int (nI (n * 7))), (5, .ref a), (4, .int (nI (m15 x))), (0, .ref w), (1, .int x), (2, .int (nI n)), (3, .ref v)]) hx hb dX2_read_53 hl (by decide) rfl (fun ls hl => ?_)
        refine lv_aload_n hx hb dX2_read_55 rfl (lv_at hl 6 rfl) ?_
        refine lv_aload hx hb dX2_read_56 (lv_at hl 1 rfl) ?_
        refine lv_iload hx hb dX2_read_58 (lv_at hl 0 rfl) ?_
        refine ld_i (v := ((rw9 (m15 x)) (n * 7))) hx hb hN hP 0 rfl (vp_in_nI (n := (n * 7)) (N := (ln (m15 x))) (by omega) (by omega)) (by rw [(show ((nI (n * 7)) : Int32).toNatClampNeg = (n * 7) from nI_clamp (n := (n * 7)) (by omega))]) dX2_read_60 ?_
        obtain ⟨hb5052, e5052, hat5052, hk5052⟩ := hT.o2 hv.1
        obtain ⟨f5052_0, f5052_1, f5052_2, f5052_3, f5052_4, f5052_5, f5052_6, rfl⟩ := hk5052
        have hP : va_P D vwCl [(v, .inr (1, [.int f5052_0, .int f5052_1, .int f5052_2, .int f5052_3, .int f5052_4, .int f5052_5, .int f5052_6])), (a, .inl (cs 0, (ln (m15 x)), .inl (rw9 (m15 x)))), (ca, .inl (cs 0, 16, .inl ct)), (ra, .inl (cs 6, 16, .inr (.inr (.inr (.inr f))))), (w, .inr (2, [.ref ra, .ref ca, .int t0]))] _ := va_P.cons hat5052 hP
        have hB : Bx B0 D _ [(v, .inr (1, [.int f5052_0, .int f5052_1, .int f5052_2, .int f5052_3, .int f5052_4, .int f5052_5, .int f5052_6])), (a, .inl (cs 0, (ln (m15 x)), .inl (rw9 (m15 x)))), (ca, .inl (cs 0, 16, .inl ct)), (ra, .inl (cs 6, 16, .inr (.inr (.inr (.inr f))))), (w, .inr (2, [.ref ra, .ref ca, .int t0]))] [] _ _ := Bx.of (fun a => (κ a).1) hL hP (fa_c hb5052 (fa_c hba (fa_c hbc (fa_c hbr (fa_c hbm fa_n))))) (by simp only [List.map_cons, List.map_nil, hv.1, ta.1, tca.1, tra.1, hw.1]; decide)
        refine b_putN (D := D) (ci := 1) (v := .int ((rw9 (m15 x)) (n * 7))) (ty := .int) (C := RX1) (T := TX1) (N := 7) hx hb hts iX2_read_1 tyX1 tyX1_ok nmX1 hown hN hB 0 rfl rfl 0 (by decide) (hN.f 13 rfl) (fun _ h9 => h9) rfl (by decide +kernel) rfl rfl (Nat.le_of_ble_eq_true rfl) (.inl rfl) dX2_read_61 (fun H locs hB => ?_)
        have hB : Bx B0 D _ [(v, .inr (1, [.int ((rw9 (m15 x)) (n * 7)), .int f5052_1, .int f5052_2, .int f5052_3, .int f5052_4, .int f5052_5, .int f5052_6])), (a, .inl (cs 0, (ln (m15 x)), .inl (rw9 (m15 x)))), (ca, .inl (cs 0, 16, .inl ct)), (ra, .inl (cs 6, 16, .inr (.inr (.inr (.inr f))))), (w, .inr (2, [.ref ra, .ref ca, .int t0]))] [v] _ _ := hB
        refine lv_aload_n hx hb dX2_read_64 rfl (lv_at hl 6 rfl) ?_
        refine lv_aload hx hb dX2_read_65 (lv_at hl 1 rfl) ?_
        refine lv_iload hx hb dX2_read_67 (lv_at hl 0 rfl) ?_
        refine lv_iconst (v := 1) hx hb dX2_read_69 (by decide) ?_
        refine lv_iadd hx hb dX2_read_70 ?_
        refine tp_i (nI ((n * 7) + 1)) (nI_add (n * 7) 1) ?_
        refine ld_i (v := ((rw9 (m15 x)) ((n * 7) + 1))) hx hb hN hB.1 1 rfl (vp_in_nI (n := ((n * 7) + 1)) (N := (ln (m15 x))) (by omega) (by omega)) (by rw [(show ((nI ((n * 7) + 1)) : Int32).toNatClampNeg = ((n * 7) + 1) from nI_clamp (n := ((n * 7) + 1)) (by omega))]) dX2_read_71 ?_
        refine b_putN (D := D) (ci := 1) (v := .int ((rw9 (m15 x)) ((n * 7) + 1))) (ty := .int) (C := RX1) (T := TX1) (N := 7) hx hb hts iX2_read_1 tyX1 tyX1_ok nmX1 hown hN hB 0 rfl rfl 1 (by decide) (hN.f 15 rfl) (fun _ h9 => h9) rfl (by decide +kernel) rfl rfl (Nat.le_of_ble_eq_true rfl) (.inr ⟨rfl, List.mem_of_getElem? (i := 0) rfl⟩) dX2_read_72 (fun H locs hB => ?_)
        have hB : Bx B0 D _ [(v, .inr (1, [.int ((rw9 (m15 x)) (n * 7)), .int ((rw9 (m15 x)) ((n * 7) + 1)), .int f5052_2, .int f5052_3, .int f5052_4, .int f5052_5, .int f5052_6])), (a, .inl (cs 0, (ln (m15 x)), .inl (rw9 (m15 x)))), (ca, .inl (cs 0, 16, .inl ct)), (ra, .inl (cs 6, 16, .inr (.inr (.inr (.inr f))))), (w, .inr (2, [.ref ra, .ref ca, .int t0]))] [v] _ _ := hB
        refine lv_aload_n hx hb dX2_read_75 rfl (lv_at hl 6 rfl) ?_
        refine lv_aload hx hb dX2_read_76 (lv_at hl 1 rfl) ?_
        refine lv_iload hx hb dX2_read_78 (lv_at hl 0 rfl) ?_
        refine lv_iconst (v := 2) hx hb dX2_read_80 (by decide) ?_
        refine lv_iadd hx hb dX2_read_81 ?_
        refine tp_i (nI ((n * 7) + 2)) (nI_add (n * 7) 2) ?_
        refine ld_i (v := ((rw9 (m15 x)) ((n * 7) + 2))) hx hb hN hB.1 1 rfl (vp_in_nI (n := ((n * 7) + 2)) (N := (ln (m15 x))) (by omega) (by omega)) (by rw [(show ((nI ((n * 7) + 2)) : Int32).toNatClampNeg = ((n * 7) + 2) from nI_clamp (n := ((n * 7) + 2)) (by omega))]) dX2_read_82 ?_
        refine b_putN (D := D) (ci := 1) (v := .int ((rw9 (m15 x)) ((n * 7) + 2))) (ty := .int) (C := RX1) (T := TX1) (N := 7) hx hb hts iX2_read_1 tyX1 tyX1_ok nmX1 hown hN hB 0 rfl rfl 2 (by decide) (hN.f 17 rfl) (fun _ h9 => h9) rfl (by decide +kernel) rfl rfl (Nat.le_of_ble_eq_true rfl) (.inr ⟨rfl, List.mem_of_getElem? (i := 0) rfl⟩) dX2_read_83 (fun H locs hB => ?_)
        have hB : Bx B0 D _ [(v, .inr (1, [.int ((rw9 (m15 x)) (n * 7)), .int ((rw9 (m15 x)) ((n * 7) + 1)), .int ((rw9 (m15 x)) ((n * 7) + 2)), .int f5052_3, .int f5052_4, .int f5052_5, .int f5052_6])), (a, .inl (cs 0, (ln (m15 x)), .inl (rw9 (m15 x)))), (ca, .inl (cs 0, 16, .inl ct)), (ra, .inl (cs 6, 16, .inr (.inr (.inr (.inr f))))), (w, .inr (2, [.ref ra, .ref ca, .int t0]))] [v] _ _ := hB
        refine lv_aload_n hx hb dX2_read_86 rfl (lv_at hl 6 rfl) ?_
        refine lv_aload hx hb dX2_read_87 (lv_at hl 1 rfl) ?_
        refine lv_iload hx hb dX2_read_89 (lv_at hl 0 rfl) ?_
        refine lv_iconst (v := 3) hx hb dX2_read_91 (by decide) ?_
        refine lv_iadd hx hb dX2_read_92 ?_
        refine tp_i (nI ((n * 7) + 3)) (nI_add (n * 7) 3) ?_
        refine ld_i (v := ((rw9 (m15 x)) ((n * 7) + 3))) hx hb hN hB.1 1 rfl (vp_in_nI (n := ((n * 7) + 3)) (N := (ln (m15 x))) (by omega) (by omega)) (by rw [(show ((nI ((n * 7) + 3)) : Int32).toNatClampNeg = ((n * 7) + 3) from nI_clamp (n := ((n * 7) + 3)) (by omega))]) dX2_read_93 ?_
        refine b_putN (D := D) (ci := 1) (v := .int ((rw9 (m15 x)) ((n * 7) + 3))) (ty := .int) (C := RX1) (T := TX1) (N := 7) hx hb hts iX2_read_1 tyX1 tyX1_ok nmX1 hown hN hB 0 rfl rfl 3 (by decide) (hN.f 19 rfl) (fun _ h9 => h9) rfl (by decide +kernel) rfl rfl (Nat.le_of_ble_eq_true rfl) (.inr ⟨rfl, List.mem_of_getElem? (i := 0) rfl⟩) dX2_read_94 (fun H locs hB => ?_)
        have hB : Bx B0 D _ [(v, .inr (1, [.int ((rw9 (m15 x)) (n * 7)), .int ((rw9 (m15 x)) ((n * 7) + 1)), .int ((rw9 (m15 x)) ((n * 7) + 2)), .int ((rw9 (m15 x)) ((n * 7) + 3)), .int f5052_4, .int f5052_5, .int f5052_6])), (a, .inl (cs 0, (ln (m15 x)), .inl (rw9 (m15 x)))), (ca, .inl (cs 0, 16, .inl ct)), (ra, .inl (cs 6, 16, .inr (.inr (.inr (.inr f))))), (w, .inr (2, [.ref ra, .ref ca, .int t0]))] [v] _ _ := hB
        refine lv_aload_n hx hb dX2_read_97 rfl (lv_at hl 6 rfl) ?_
        refine lv_aload hx hb dX2_read_98 (lv_at hl 1 rfl) ?_
        refine lv_iload hx hb dX2_read_100 (lv_at hl 0 rfl) ?_
        refine lv_iconst (v := 4) hx hb dX2_read_102 (by decide) ?_
        refine lv_iadd hx hb dX2_read_103 ?_
        refine tp_i (nI ((n * 7) + 4)) (nI_add (n * 7) 4) ?_
        refine ld_i (v := ((rw9 (m15 x)) ((n * 7) + 4))) hx hb hN hB.1 1 rfl (vp_in_nI (n := ((n * 7) + 4)) (N := (ln (m15 x))) (by omega) (by omega)) (by rw [(show ((nI ((n * 7) + 4)) : Int32).toNatClampNeg = ((n * 7) + 4) from nI_clamp (n := ((n * 7) + 4)) (by omega))]) dX2_read_104 ?_
        refine b_putN (D := D) (ci := 1) (v := .int ((rw9 (m15 x)) ((n * 7) + 4))) (ty := .int) (C := RX1) (T := TX1) (N := 7) hx hb hts iX2_read_1 tyX1 tyX1_ok nmX1 hown hN hB 0 rfl rfl 4 (by decide) (hN.f 21 rfl) (fun _ h9 => h9) rfl (by decide +kernel) rfl rfl (Nat.le_of_ble_eq_true rfl) (.inr ⟨rfl, List.mem_of_getElem? (i := 0) rfl⟩) dX2_read_105 (fun H locs hB => ?_)
        have hB : Bx B0 D _ [(v, .inr (1, [.int ((rw9 (m15 x)) (n * 7)), .int ((rw9 (m15 x)) ((n * 7) + 1)), .int ((rw9 (m15 x)) ((n * 7) + 2)), .int ((rw9 (m15 x)) ((n * 7) + 3)), .int ((rw9 (m15 x)) ((n * 7) + 4)), .int f5052_5, .int f5052_6])), (a, .inl (cs 0, (ln (m15 x)), .inl (rw9 (m15 x)))), (ca, .inl (cs 0, 16, .inl ct)), (ra, .inl (cs 6, 16, .inr (.inr (.inr (.inr f))))), (w, .inr (2, [.ref ra, .ref ca, .int t0]))] [v] _ _ := hB
        refine lv_aload_n hx hb dX2_read_108 rfl (lv_at hl 6 rfl) ?_
        refine lv_aload hx hb dX2_read_109 (lv_at hl 1 rfl) ?_
        refine lv_iload hx hb dX2_read_111 (lv_at hl 0 rfl) ?_
        refine lv_iconst (v := 5) hx hb dX2_read_113 (by decide) ?_
        refine lv_iadd hx hb dX2_read_114 ?_
        refine tp_i (nI ((n * 7) + 5)) (nI_add (n * 7) 5) ?_
        refine ld_i (v := ((rw9 (m15 x)) ((n * 7) + 5))) hx hb hN hB.1 1 rfl (vp_in_nI (n := ((n * 7) + 5)) (N := (ln (m15 x))) (by omega) (by omega)) (by rw [(show ((nI ((n * 7) + 5)) : Int32).toNatClampNeg = ((n * 7) + 5) from nI_clamp (n := ((n * 7) + 5)) (by omega))]) dX2_read_115 ?_
        refine b_putN (D := D) (ci := 1) (v := .int ((rw9 (m15 x)) ((n * 7) + 5))) (ty := .int) (C := RX1) (T := TX1) (N := 7) hx hb hts iX2_read_1 tyX1 tyX1_ok nmX1 hown hN hB 0 rfl rfl 5 (by decide) (hN.f 23 rfl) (fun _ h9 => h9) rfl (by decide +kernel) rfl rfl (Nat.le_of_ble_eq_true rfl) (.inr ⟨rfl, List.mem_of_getElem? (i := 0) rfl⟩) dX2_read_116 (fun H locs hB => ?_)
        have hB : Bx B0 D _ [(v, .inr (1, [.int ((rw9 (m15 x)) (n * 7)), .int ((rw9 (m15 x)) ((n * 7) + 1)), .int ((rw9 (m15 x)) ((n * 7) + 2)), .int ((rw9 (m15 x)) ((n * 7) + 3)), .int ((rw9 (m15 x)) ((n * 7) + 4)), .int ((rw9 (m15 x)) ((n * 7) + 5)), .int f5052_6])), (a, .inl (cs 0, (ln (m15 x)), .inl (rw9 (m15 x)))), (ca, .inl (cs 0, 16, .inl ct)), (ra, .inl (cs 6, 16, .inr (.inr (.inr (.inr f))))), (w, .inr (2, [.ref ra, .ref ca, .int t0]))] [v] _ _ := hB
        refine lv_aload_n hx hb dX2_read_119 rfl (lv_at hl 6 rfl) ?_
        refine lv_aload hx hb dX2_read_120 (lv_at hl 1 rfl) ?_
        refine lv_iload hx hb dX2_read_122 (lv_at hl 0 rfl) ?_
        refine lv_bipush (v := 6) hx hb dX2_read_124 (by decide) ?_
        refine lv_iadd hx hb dX2_read_126 ?_
        refine tp_i (nI ((n * 7) + 6)) (nI_add (n * 7) 6) ?_
        refine ld_i (v := ((rw9 (m15 x)) ((n * 7) + 6))) hx hb hN hB.1 1 rfl (vp_in_nI (n := ((n * 7) + 6)) (N := (ln (m15 x))) (by omega) (by omega)) (by rw [(show ((nI ((n * 7) + 6)) : Int32).toNatClampNeg = ((n * 7) + 6) from nI_clamp (n := ((n * 7) + 6)) (by omega))]) dX2_read_127 ?_
        refine b_putN (D := D) (ci := 1) (v := .int ((rw9 (m15 x)) ((n * 7) + 6))) (ty := .int) (C := RX1) (T := TX1) (N := 7) hx hb hts iX2_read_1 tyX1 tyX1_ok nmX1 hown hN hB 0 rfl rfl 6 (by decide) (hN.f 25 rfl) (fun _ h9 => h9) rfl (by decide +kernel) rfl rfl (Nat.le_of_ble_eq_true rfl) (.inr ⟨rfl, List.mem_of_getElem? (i := 0) rfl⟩) dX2_read_128 (fun H locs hB => ?_)
        have hB : Bx B0 D _ [(v, .inr (1, [.int ((rw9 (m15 x)) (n * 7)), .int ((rw9 (m15 x)) ((n * 7) + 1)), .int ((rw9 (m15 x)) ((n * 7) + 2)), .int ((rw9 (m15 x)) ((n * 7) + 3)), .int ((rw9 (m15 x)) ((n * 7) + 4)), .int ((rw9 (m15 x)) ((n * 7) + 5)), .int ((rw9 (m15 x)) ((n * 7) + 6))])), (a, .inl (cs 0, (ln (m15 x)), .inl (rw9 (m15 x)))), (ca, .inl (cs 0, 16, .inl ct)), (ra, .inl (cs 6, 16, .inr (.inr (.inr (.inr f))))), (w, .inr (2, [.ref ra, .ref ca, .int t0]))] [v] _ _ := hB
        refine lv_iconst (v := 1) hx hb dX2_read_131 (by decide) ?_
        have hT : WT B0 D cs T κ _ := hT.close hB ⟨⟨0, _, rfl, ok_2 hv.1 ⟨_, _, _, _, _, _, _, rfl⟩⟩, trivial⟩
        have hF : Fr B0 [i] κ H0 _ := hF.close hB (fa_c (by simp [hv.2]) fa_n)
        have hL : OkL B0 _ := hB.2.2.2.2.2
        have hP : va_P D vwCl [(v, .inr (1, [.int ((rw9 (m15 x)) (n * 7)), .int ((rw9 (m15 x)) ((n * 7) + 1)), .int ((rw9 (m15 x)) ((n * 7) + 2)), .int ((rw9 (m15 x)) ((n * 7) + 3)), .int ((rw9 (m15 x)) ((n * 7) + 4)), .int ((rw9 (m15 x)) ((n * 7) + 5)), .int ((rw9 (m15 x)) ((n * 7) + 6))])), (a, .inl (cs 0, (ln (m15 x)), .inl (rw9 (m15 x)))), (ca, .inl (cs 0, 16, .inl ct)), (ra, .inl (cs 6, 16, .inr (.inr (.inr (.inr f))))), (w, .inr (2, [.ref ra, .ref ca, .int t0]))] _ := hB.1
        exact en_i hx hb hr hlocks hL rfl (Nat.zero_le _) (Nat.zero_le _) dX2_read_132 (⟨hT, hF, rfl, (by have e9 := hP 0 _ rfl; rw [show n * 7 = 7 * n by omega] at e9; exact e9)⟩)
      · have c5051 : ¬ ((n + 1) * 7) ≤ ((ln (m15 x))) := fun h9 => c5051 ((nI_leI (a := ((n + 1) * 7)) (b := ((ln (m15 x)))) (by omega) (by omega)).mpr h9)
        omega
theorem mX2_clear_1 : (.fieldLink RX2 24 "OneBeat$Mail" "total" "I" : Cond) ∈ wsX2_clear := List.mem_of_getElem? (i := 1) (by decide +kernel)
theorem iX2_clear_2 : ∀ w ∈ wsX20, w ∈ wsX2_clear := fun w h => List.mem_of_mem_drop (List.mem_of_mem_take ((show wsX20 = (wsX2_clear.drop 3).take 3 by decide +kernel) ▸ h))
theorem mX2_clear_2 : (.fieldLink RX2 14 "OneBeat$Mail" "counts" "[I" : Cond) ∈ wsX2_clear := List.mem_of_getElem? (i := 2) (by decide +kernel)
set_option maxHeartbeats 4000000 in
set_option maxRecDepth 100000 in
theorem c_X2_clear_dc {l : Launch} {D : va_G} {cs : Nat → ClassId} {B0 T : Nat} {κ : KM} {H0 : Heap} (hT : WT B0 D cs T κ H0) {w o : Nat} (hw : T2 κ w 3 o) {x : Int32} {C cn ln : Nat → Nat} {rw9 : Nat → Nat → Int32} (hM : MB D cs H0 w cn ln rw9) (hLC : LC C cn ln) (hcn : ∀ j, j < 16 → cn j ≤ C j + 24) : KC l yX2_clear wsX2_clear 0 0 0 0 D cs B0 H0 [.ref w, .int x] (Qv (fun H => WT B0 D cs T κ H ∧ Fr B0 [o] κ H0 H ∧ MB D cs H w (up9 cn (m15 x) 0) ln rw9)) := by
  refine KC.of cX2_clear 2 none (by decide) rfl (Nat.le_of_ble_eq_true rfl) ?_
  intro p e s m below meth c ls hx hb hr hml hown hts hlocks hin hN hE hH0 hl
  have hown : s.vm.findClass RX2 = some m.cls := hown
  have hl : lv_has ls 2 [(0, .ref w), (1, .int x)] := hl
  have hL : OkL B0 [] := OkL.nil
  have hF : Fr B0 [o] κ H0 H0 := Fr.rf
  obtain ⟨ra, ca, t0, f, ct, hmc, hra, hca, tra, tca, hct, hrw, hbm, hbr, hbc⟩ := hM.op hT hw
  have hc20 : ∀ j, j < 16 → cn j ≤ 20000 := fun j hj => by have h1 := hcn j hj; have h2 := (hLC j hj).2.2.2; omega
  have hq13 : ∀ j, j < 16 → ∃ a, f j = some a ∧ T2 κ a 14 o ∧ (κ a).2.2.1 = j := fun j hj => by obtain ⟨a, g1, -, g2, g3⟩ := hrw j hj; exact ⟨a, g1, g2, g3⟩
  have hq15 : ∀ j, j < 16 → ∃ n, n ≤ 20000 ∧ ct j = nI n := fun j hj => ⟨cn j, hc20 j hj, hct j hj⟩
  have hP : va_P D vwCl [(w, .inr (2, [.ref ra, .ref ca, .int t0]))] _ := va_P.cons hmc va_P.nil
  have hP : va_P D vwCl [(ra, .inl (cs 6, 16, .inr (.inr (.inr (.inr f))))), (w, .inr (2, [.ref ra, .ref ca, .int t0]))] _ := va_P.cons hra hP
  have hP : va_P D vwCl [(ca, .inl (cs 0, 16, .inl ct)), (ra, .inl (cs 6, 16, .inr (.inr (.inr (.inr f))))), (w, .inr (2, [.ref ra, .ref ca, .int t0]))] _ := va_P.cons hca hP
  refine lv_aload_n hx hb dX2_clear_0 rfl (lv_at hl 0 rfl) ?_
  refine lv_dup hx hb dX2_clear_1 rfl ?_
  refine va_get (D := D) (ci := 2) (v := .int t0) (C := RX2) (T := TX2) (N := 3) hx hb hts iX2_clear_2 hown hN.1 hP 2 rfl rfl 2 (by decide) (hts _ mX2_clear_1) (fun _ h9 => h9) rfl dX2_clear_2 ?_
  refine lv_aload_n hx hb dX2_clear_5 rfl (lv_at hl 0 rfl) ?_
  refine va_get (D := D) (ci := 2) (v := .ref ca) (C := RX2) (T := TX2) (N := 3) hx hb hts iX2_clear_2 hown hN.1 hP 2 rfl rfl 1 (by decide) (hts _ mX2_clear_2) (fun _ h9 => h9) rfl dX2_clear_6 ?_
  refine lv_iload_n hx hb dX2_clear_9 rfl (lv_at hl 1 rfl) ?_
  refine lv_bipush (v := 15) hx hb dX2_clear_10 (by decide) ?_
  refine lv_iand hx hb dX2_clear_12 ?_
  have hj5053 := m15_lt x
  refine tp_i (nI (m15 x)) (and15 x) ?_
  refine ld_i (v := (ct (m15 x))) hx hb hN hP 0 rfl (vp_in_nI (n := (m15 x)) (N := 16) (by omega) (by omega)) (by rw [(show ((nI (m15 x)) : Int32).toNatClampNeg = (m15 x) from nI_clamp (n := (m15 x)) (by omega))]) dX2_clear_13 ?_
  refine tp_i (nI (cn (m15 x))) (hct _ (by omega)) ?_
  refine lv_isub hx hb dX2_clear_14 ?_
  refine gn_i (fun x5054 => ?_)
  have hB : Bx B0 D _ [(ca, .inl (cs 0, 16, .inl ct)), (ra, .inl (cs 6, 16, .inr (.inr (.inr (.inr f))))), (w, .inr (2, [.ref ra, .ref ca, .int t0]))] [] _ _ := Bx.of (fun a => (κ a).1) hL hP (fa_c hbc (fa_c hbr (fa_c hbm fa_n))) (by simp only [List.map_cons, List.map_nil, tca.1, tra.1, hw.1]; decide)
  refine b_put (D := D) (ci := 2) (v := .int x5054) (ty := .int) (C := RX2) (T := TX2) (N := 3) hx hb hts iX2_clear_2 tyX2 tyX2_ok nmX2 hown hN hB 2 rfl rfl 2 (by decide) (hts _ mX2_clear_1) (fun _ h9 => h9) rfl (by decide +kernel) rfl rfl (Nat.le_of_ble_eq_true rfl) (.inl rfl) dX2_clear_15 (fun H locs hB => ?_)
  have hB : Bx B0 D _ [(ca, .inl (cs 0, 16, .inl ct)), (ra, .inl (cs 6, 16, .inr (.inr (.inr (.inr f))))), (w, .inr (2, [.ref ra, .ref ca, .int x5054]))] [w] _ _ := hB
  refine lv_aload_n hx hb dX2_clear_18 rfl (lv_at hl 0 rfl) ?_
  refine va_get (D := D) (ci := 2) (v := .ref ca) (C := RX2) (T := TX2) (N := 3) hx hb hts iX2_clear_2 hown hN.1 hB.1 2 rfl rfl 1 (by decide) (hts _ mX2_clear_2) (fun _ h9 => h9) rfl dX2_clear_19 ?_
  refine lv_iload_n hx hb dX2_clear_22 rfl (lv_at hl 1 rfl) ?_
  refine lv_bipush (v := 15) hx hb dX2_clear_23 (by decide) ?_
  refine lv_iand hx hb dX2_clear_25 ?_
  have hj5055 := m15_lt x
  refine tp_i (nI (m15 x)) (and15 x) ?_
  refine lv_iconst (v := 0) hx hb dX2_clear_26 (by decide) ?_
  refine b_i hx hb hN hB 0 rfl (vp_in_nI (n := (m15 x)) (N := 16) (by omega) (by omega)) (.inl rfl) dX2_clear_27 (fun H locs hB => ?_)
  rw [(show ((nI (m15 x)) : Int32).toNatClampNeg = (m15 x) from nI_clamp (n := (m15 x)) (by omega))] at hB
  have hB : Bx B0 D _ [(ca, .inl (cs 0, 16, .inl (upd ct (m15 x) 0))), (ra, .inl (cs 6, 16, .inr (.inr (.inr (.inr f))))), (w, .inr (2, [.ref ra, .ref ca, .int x5054]))] [ca, w] _ _ := hB
  have hB0 := hB
  have hP0 := hB.1
  have hw0 := hw
  have tra0 := tra
  have tca0 := tca
  have hT : WT B0 D cs T κ _ := hT.close hB ⟨⟨0, _, rfl, ok_15 tca.1 ⟨_, rfl, (K15u (n := 0) hct hc20 (by omega))⟩⟩, ⟨⟨2, _, rfl, ok_3 hw.1 ⟨_, _, _, rfl, ⟨tra.1, by rw [hw.2]; exact tra.2⟩, ⟨tca.1, by rw [hw.2]; exact tca.2⟩⟩⟩, trivial⟩⟩
  have hF : Fr B0 [o] κ H0 _ := hF.close hB (fa_c (by simp [tca.2]) (fa_c (by simp [hw.2]) fa_n))
  have hL : OkL B0 _ := hB.2.2.2.2.2
  have hP : va_P D vwCl [(ca, .inl (cs 0, 16, .inl (upd ct (m15 x) 0))), (ra, .inl (cs 6, 16, .inr (.inr (.inr (.inr f))))), (w, .inr (2, [.ref ra, .ref ca, .int x5054]))] _ := hB.1
  exact en_v hx hb hr hlocks hL (Nat.zero_le _) (Nat.zero_le _) dX2_clear_28 (⟨hT, hF, MB.set hB0 hrw (hP0 2 _ rfl) (hP0 1 _ rfl) (hP0 0 _ rfl) (up9_ct hct) (fun a9 t9 => by simp only [List.mem_cons, List.not_mem_nil, or_false, not_or]; exact ⟨(ne_c t9.1 tca0.1 (by decide)), (ne_c t9.1 hw0.1 (by decide))⟩)⟩)
set_option maxHeartbeats 4000000 in
set_option maxRecDepth 100000 in
theorem c_J7_fill_53178 {l : Launch} {D : va_G} {cs : Nat → ClassId} {B0 : Nat} {H0 : Heap} {v n : Nat} {x : Int32} {f : Nat → Int32} (hvb : B0 ≤ v) (hva : va_at D vwCl (v, .inl (cs 0, n, .inl f)) H0) (hn : n ≤ 1000) : KC l yJ7_fill_53178 wsJ7_fill_53178 0 0 0 0 D cs B0 H0 [.ref v, .int x] (Qv (fun H => ∃ f1, va_at D vwCl (v, .inl (cs 0, n, .inl f1)) H ∧ (∀ j, j < n → f1 j = x) ∧ H0.size ≤ H.size ∧ ∀ q, q < H0.size → q ≠ v → H[q]? = H0[q]?)) := by
  refine KC.of cJ7_fill_53178 4 none (by decide) rfl (Nat.le_of_ble_eq_true rfl) ?_
  intro p e s m below meth c ls hx hb hr hml hown hts hlocks hin hN hE hH0 hl
  have hown : s.vm.findClass RJ7 = some m.cls := hown
  have hl : lv_has ls 4 [(0, .ref v), (1, .int x)] := hl
  have hL : OkL B0 [] := OkL.nil
  have hP : va_P D vwCl [(v, .inl (cs 0, n, .inl f))] _ := va_P.cons hva va_P.nil
  have hb0 : B0 ≤ H0.size := Nat.le_trans hvb (Nat.le_of_lt hva.lt)
  have hB : Bx B0 D _ [(v, .inl (cs 0, n, .inl f))] [] _ _ := Bx.of (fun a => a) hL hP (fa_c hvb fa_n) (by simp)
  refine lv_iconst (v := 0) hx hb dJ7_fill_53178_0 (by decide) ?_
  refine lv_istore_n (lv' := [(2, .int 0), (0, .ref v), (1, .int x)]) hx hb dJ7_fill_53178_1 rfl hl (by decide) rfl (fun ls hl => ?_)
  refine lv_aload_n hx hb dJ7_fill_53178_2 rfl (lv_at hl 1 rfl) ?_
  refine va_alen (v := (nI n)) hx hb hN.1 hB.1 0 0 rfl rfl rfl dJ7_fill_53178_3 ?_
  refine lv_istore_n (lv' := [(3, .int (nI n)), (2, .int 0), (0, .ref v), (1, .int x)]) hx hb dJ7_fill_53178_4 rfl hl (by decide) rfl (fun ls hl => ?_)
  have hB : Bx B0 D _ [(v, .inl (cs 0, n, .inl f))] [v] _ _ := hB.ms (by simp) (fa_c hvb fa_n)
  refine lp_m (α := Nat × (Nat → Int32)) (nL := 4) (fun a9 => n - a9.1) (fun a9 H9 l9 => (a9.1 ≤ n) ∧ (∀ j, j < a9.1 → a9.2 j = x) ∧ (Bx B0 D H0 [(v, .inl (cs 0, n, .inl a9.2))] [v] H9 l9)) (fun a9 => [(2, .int (nI a9.1)), (3, .int (nI n)), (0, .ref v), (1, .int x)]) ?_ (0, f) _ _ _ ⟨(by show (0) ≤ n; omega), (fun j hj => absurd hj (Nat.not_lt_zero j)), hB⟩ (lv_sub hl [1, 0, 2, 3] rfl)
  rintro ⟨k, g9a⟩ H locs ls ih5056 ⟨hk, hz, hB⟩ hl
  have hl : lv_has ls 4 [(2, .int (nI k)), (3, .int (nI n)), (0, .ref v), (1, .int x)] := hl
  have hk : k ≤ n := hk
  have hz : ∀ j, j < k → g9a j = x := hz
  have hB : Bx B0 D _ [(v, .inl (cs 0, n, .inl g9a))] [v] _ _ := hB
  refine lv_iload_n hx hb dJ7_fill_53178_5 rfl (lv_at hl 0 rfl) ?_
  refine lv_iload_n hx hb dJ7_fill_53178_6 rfl (lv_at hl 1 rfl) ?_
  refine lv_icmp_ge (tgt := 20) hx hb dJ7_fill_53178_7 (by decide) (fun c5057 => ?_) (fun c5057 => ?_)
  · have c5057 : n ≤ k := (nI_leI (a := n) (b := k) (by omega) (by omega)).mp c5057
    have hL : OkL B0 _ := hB.2.2.2.2.2
    exact en_v hx hb hr hlocks hL (Nat.zero_le _) (Nat.zero_le _) dJ7_fill_53178_20 (⟨_, hB.1 0 _ rfl, (fun j hj => hz j (by omega)), hB.2.2.1, (fun q hq hne => hB.2.2.2.1 q hq (by simp; exact hne))⟩)
  · have c5057 : ¬ n ≤ k := fun h9 => c5057 ((nI_leI (a := n) (b := k) (by omega) (by omega)).mpr h9)
    refine lv_aload_n hx hb dJ7_fill_53178_10 rfl (lv_at hl 2 rfl) ?_
    refine lv_iload_n hx hb dJ7_fill_53178_11 rfl (lv_at hl 0 rfl) ?_
    refine lv_iload_n hx hb dJ7_fill_53178_12 rfl (lv_at hl 3 rfl) ?_
    refine b_i hx hb hN hB 0 rfl (vp_in_nI (n := k) (N := n) (by omega) (by omega)) (.inr ⟨rfl, List.mem_of_getElem? (i := 0) rfl⟩) dJ7_fill_53178_13 (fun H locs hB => ?_)
    rw [(show ((nI k) : Int32).toNatClampNeg = k from nI_clamp (n := k) (by omega))] at hB
    have hB : Bx B0 D _ [(v, .inl (cs 0, n, .inl (upd g9a k x)))] [v] _ _ := hB
    have hz := fl9 hz
    refine lv_iinc (v := (nI (k + 1))) (lv' := [(2, .int (nI (k + 1))), (3, .int (nI n)), (0, .ref v), (1, .int x)]) hx hb dJ7_fill_53178_14 hl (k := 0) rfl (nI_add _ 1) (by decide) rfl (fun ls hl => ?_)
    refine lv_goto (tgt := 5) hx hb dJ7_fill_53178_17 (by decide) ?_
    exact ih5056 ((k + 1), (upd g9a k x)) _ _ _ (by show n - ((k + 1)) < n - k; omega) ⟨(by show ((k + 1)) ≤ n; omega), hz, hB⟩ (lv_sub hl [0, 1, 2, 3] rfl)
theorem mX2_begin_1 : (.fieldLink RX2 14 "OneBeat$Mail" "counts" "[I" : Cond) ∈ wsX2_begin := List.mem_of_getElem? (i := 1) (by decide +kernel)
theorem iX2_begin_2 : ∀ w ∈ wsX20, w ∈ wsX2_begin := fun w h => List.mem_of_mem_drop (List.mem_of_mem_take ((show wsX20 = (wsX2_begin.drop 7).take 3 by decide +kernel) ▸ h))
theorem hdJ7_fill_53178_o : yJ7_fill_53178.cls ≠ "java/lang/invoke/MethodHandle" ∧ yJ7_fill_53178.cls ≠ "java/lang/invoke/VarHandle" ∧ (parseMethodDescriptor yJ7_fill_53178.desc).map (fun d => d.parameters.length) = some 2 := by decide +kernel
theorem mX2_begin_2 : (.fieldLink RX2 24 "OneBeat$Mail" "total" "I" : Cond) ∈ wsX2_begin := List.mem_of_getElem? (i := 2) (by decide +kernel)
set_option maxHeartbeats 4000000 in
set_option maxRecDepth 100000 in
theorem c_X2_begin_dc {l : Launch} {D : va_G} {cs : Nat → ClassId} {B0 T : Nat} {κ : KM} {H0 : Heap} (hT : WT B0 D cs T κ H0) {w o : Nat} (hw : T2 κ w 3 o) {C cn ln : Nat → Nat} {rw9 : Nat → Nat → Int32} (hM : MB D cs H0 w cn ln rw9) (hLC : LC C cn ln) (hcn : ∀ j, j < 16 → cn j ≤ C j + 24) : KC l yX2_begin wsX2_begin 1 23 0 0 D cs B0 H0 [.ref w] (Qv (fun H => WT B0 D cs T κ H ∧ Fr B0 [o] κ H0 H ∧ MB D cs H w (fun _ => 0) ln rw9)) := by
  refine KC.of cX2_begin 1 none (by decide) rfl (Nat.le_of_ble_eq_true rfl) ?_
  intro p e s m below meth c ls hx hb hr hml hown hts hlocks hin hN hE hH0 hl
  have hown : s.vm.findClass RX2 = some m.cls := hown
  have hl : lv_has ls 1 [(0, .ref w)] := hl
  have hL : OkL B0 [] := OkL.nil
  have hF : Fr B0 [o] κ H0 H0 := Fr.rf
  obtain ⟨ra, ca, t0, f, ct, hmc, hra, hca, tra, tca, hct, hrw, hbm, hbr, hbc⟩ := hM.op hT hw
  have hc20 : ∀ j, j < 16 → cn j ≤ 20000 := fun j hj => by have h1 := hcn j hj; have h2 := (hLC j hj).2.2.2; omega
  have hq13 : ∀ j, j < 16 → ∃ a, f j = some a ∧ T2 κ a 14 o ∧ (κ a).2.2.1 = j := fun j hj => by obtain ⟨a, g1, -, g2, g3⟩ := hrw j hj; exact ⟨a, g1, g2, g3⟩
  have hq15 : ∀ j, j < 16 → ∃ n, n ≤ 20000 ∧ ct j = nI n := fun j hj => ⟨cn j, hc20 j hj, hct j hj⟩
  have hP : va_P D vwCl [(w, .inr (2, [.ref ra, .ref ca, .int t0]))] _ := va_P.cons hmc va_P.nil
  have hP : va_P D vwCl [(ra, .inl (cs 6, 16, .inr (.inr (.inr (.inr f))))), (w, .inr (2, [.ref ra, .ref ca, .int t0]))] _ := va_P.cons hra hP
  have hP : va_P D vwCl [(ca, .inl (cs 0, 16, .inl ct)), (ra, .inl (cs 6, 16, .inr (.inr (.inr (.inr f))))), (w, .inr (2, [.ref ra, .ref ca, .int t0]))] _ := va_P.cons hca hP
  refine lv_aload_n hx hb dX2_begin_0 rfl (lv_at hl 0 rfl) ?_
  refine va_get (D := D) (ci := 2) (v := .ref ca) (C := RX2) (T := TX2) (N := 3) hx hb hts iX2_begin_2 hown hN.1 hP 2 rfl rfl 1 (by decide) (hts _ mX2_begin_1) (fun _ h9 => h9) rfl dX2_begin_1 ?_
  refine lv_iconst (v := 0) hx hb dX2_begin_4 (by decide) ?_
  refine cs_v (As := [.ref ca, .int 0]) (rest := []) ⟨hx, hb, hml, hown, hts⟩ (c_J7_fill_53178 (cs := cs) (n := 16) (x := 0) hbc (hP 0 _ rfl) (by decide)) (va_cwS 2 hts gX2_begin_J7_fill_53178 rfl rfl rfl hdJ7_fill_53178_o ⟨Nat.le_of_ble_eq_true rfl, Nat.le_of_ble_eq_true rfl⟩) hN hE hL rfl rfl hl.1 (Nat.le_of_ble_eq_true rfl) dX2_begin_5 (Nat.zero_le _) (Nat.zero_le _) (fun H1 locs hL hq => ?_)
  obtain ⟨ct1, hca1, hz1, hsz1, hs1⟩ := hq
  have hF : Fr B0 [o] κ H0 H1 := Fr.w1 hsz1 hs1 tca hbc (by simp)
  have hM1 : MB D cs H1 w (fun _ => 0) ln rw9 := ⟨ra, ca, t0, f, ct1, hmc.kept (hs1 _ hmc.lt (ne_c hw.1 tca.1 (by decide))), hra.kept (hs1 _ hra.lt (ne_c tra.1 tca.1 (by decide))), hca1, (fun j hj => hz1 j hj), fun j hj => by obtain ⟨a, g1, g2, g3, -⟩ := hrw j hj; exact ⟨a, g1, g2.kept (hs1 _ g2.lt (ne_c g3.1 tca.1 (by decide)))⟩⟩
  have hT := hT.w1 hs1 hca1 (ok_15 tca.1 ⟨_, rfl, fun j hj => ⟨0, Nat.zero_le _, hz1 j hj⟩⟩)
  obtain ⟨ra, ca, t0, f, ct, hmc, hra, hca, tra, tca, hct, hrw, hbm, hbr, hbc⟩ := hM1.op hT hw
  have hP : va_P D vwCl [(w, .inr (2, [.ref ra, .ref ca, .int t0]))] _ := va_P.cons hmc va_P.nil
  have hP : va_P D vwCl [(ra, .inl (cs 6, 16, .inr (.inr (.inr (.inr f))))), (w, .inr (2, [.ref ra, .ref ca, .int t0]))] _ := va_P.cons hra hP
  have hP : va_P D vwCl [(ca, .inl (cs 0, 16, .inl ct)), (ra, .inl (cs 6, 16, .inr (.inr (.inr (.inr f))))), (w, .inr (2, [.ref ra, .ref ca, .int t0]))] _ := va_P.cons hca hP
  refine lv_aload_n hx hb dX2_begin_8 rfl (lv_at hl 0 rfl) ?_
  refine lv_iconst (v := 0) hx hb dX2_begin_9 (by decide) ?_
  have hB : Bx B0 D _ [(ca, .inl (cs 0, 16, .inl ct)), (ra, .inl (cs 6, 16, .inr (.inr (.inr (.inr f))))), (w, .inr (2, [.ref ra, .ref ca, .int t0]))] [] _ _ := Bx.of (fun a => (κ a).1) hL hP (fa_c hbc (fa_c hbr (fa_c hbm fa_n))) (by simp only [List.map_cons, List.map_nil, tca.1, tra.1, hw.1]; decide)
  refine b_put (D := D) (ci := 2) (v := .int 0) (ty := .int) (C := RX2) (T := TX2) (N := 3) hx hb hts iX2_begin_2 tyX2 tyX2_ok nmX2 hown hN hB 2 rfl rfl 2 (by decide) (hts _ mX2_begin_2) (fun _ h9 => h9) rfl (by decide +kernel) rfl rfl (Nat.le_of_ble_eq_true rfl) (.inl rfl) dX2_begin_10 (fun H locs hB => ?_)
  have hB : Bx B0 D _ [(ca, .inl (cs 0, 16, .inl ct)), (ra, .inl (cs 6, 16, .inr (.inr (.inr (.inr f))))), (w, .inr (2, [.ref ra, .ref ca, .int 0]))] [w] _ _ := hB
  have hB0 := hB
  have hP0 := hB.1
  have hw0 := hw
  have tra0 := tra
  have tca0 := tca
  have hT : WT B0 D cs T κ _ := hT.close hB ⟨⟨2, _, rfl, ok_3 hw.1 ⟨_, _, _, rfl, ⟨tra.1, by rw [hw.2]; exact tra.2⟩, ⟨tca.1, by rw [hw.2]; exact tca.2⟩⟩⟩, trivial⟩
  have hF : Fr B0 [o] κ H0 _ := hF.close hB (fa_c (by simp [hw.2]) fa_n)
  have hL : OkL B0 _ := hB.2.2.2.2.2
  have hP : va_P D vwCl [(ca, .inl (cs 0, 16, .inl ct)), (ra, .inl (cs 6, 16, .inr (.inr (.inr (.inr f))))), (w, .inr (2, [.ref ra, .ref ca, .int 0]))] _ := hB.1
  exact en_v hx hb hr hlocks hL (Nat.zero_le _) (Nat.zero_le _) dX2_begin_13 (⟨hT, hF, MB.set hB0 hrw (hP0 2 _ rfl) (hP0 1 _ rfl) (hP0 0 _ rfl) hct (fun a9 t9 => by simp only [List.mem_cons, List.not_mem_nil, or_false, not_or]; exact (ne_c t9.1 hw0.1 (by decide)))⟩)
theorem mX2_copyFrom_12 : (.fieldLink RX2 24 "OneBeat$Mail" "total" "I" : Cond) ∈ wsX2_copyFrom := List.mem_of_getElem? (i := 12) (by decide +kernel)
theorem iX2_copyFrom_2 : ∀ w ∈ wsX20, w ∈ wsX2_copyFrom := fun w h => List.mem_of_mem_drop (List.mem_of_mem_take ((show wsX20 = (wsX2_copyFrom.drop 13).take 3 by decide +kernel) ▸ h))
theorem mX2_copyFrom_1 : (.fieldLink RX2 11 "OneBeat$Mail" "rows" "[[I" : Cond) ∈ wsX2_copyFrom := List.mem_of_getElem? (i := 1) (by decide +kernel)
theorem mX2_copyFrom_2 : (.fieldLink RX2 14 "OneBeat$Mail" "counts" "[I" : Cond) ∈ wsX2_copyFrom := List.mem_of_getElem? (i := 2) (by decide +kernel)
theorem mX2_copyFrom_3 : (.methodLink RX2 28 Lib.Math.min.name : Cond) ∈ wsX2_copyFrom := List.mem_of_getElem? (i := 3) (by decide +kernel)
theorem mX2_copyFrom_4 : (.static Lib.Math.min.name : Cond) ∈ wsX2_copyFrom := List.mem_of_getElem? (i := 4) (by decide +kernel)
theorem mX2_copyFrom_5 : (.initialized "java/lang/Math" : Cond) ∈ wsX2_copyFrom := List.mem_of_getElem? (i := 5) (by decide +kernel)
theorem mX2_copyFrom_6 : (.code Lib.Math.min.name Lib.Math.min.code 2 (some .int) : Cond) ∈ wsX2_copyFrom := List.mem_of_getElem? (i := 6) (by decide +kernel)
theorem mX2_copyFrom_8 : (.methodLink RX2 34 arraycopyName : Cond) ∈ wsX2_copyFrom := List.mem_of_getElem? (i := 8) (by decide +kernel)
theorem mX2_copyFrom_9 : (.native arraycopyName : Cond) ∈ wsX2_copyFrom := List.mem_of_getElem? (i := 9) (by decide +kernel)
theorem mX2_copyFrom_10 : (.static arraycopyName : Cond) ∈ wsX2_copyFrom := List.mem_of_getElem? (i := 10) (by decide +kernel)
theorem mX2_copyFrom_11 : (.initialized "java/lang/System" : Cond) ∈ wsX2_copyFrom := List.mem_of_getElem? (i := 11) (by decide +kernel)
theorem mX2_copyFrom_7 : (.arrayClass .int : Cond) ∈ wsX2_copyFrom := List.mem_of_getElem? (i := 7) (by decide +kernel)
set_option maxHeartbeats 4000000 in
set_option maxRecDepth 100000 in
theorem c_X2_copyFrom_dc {l : Launch} {D : va_G} {cs : Nat → ClassId} {B0 T : Nat} {κ : KM} {H0 : Heap} (hT : WT B0 D cs T κ H0) {w v o u : Nat} (hw : T2 κ w 3 o) (hv : T2 κ v 3 u) (hop : ¬ u = o) {C cn lv cw ln : Nat → Nat} {rw9 rww : Nat → Nat → Int32} (hMv : MB D cs H0 v cn lv rw9) (hLC : LC C cn lv) (hcn : ∀ j, j < 16 → cn j ≤ C j + 24) (hMw : MB D cs H0 w cw ln rww) (hLW : LC C cw ln) : KC l yX2_copyFrom wsX2_copyFrom 1 60 ((56 * sumN C 16 + 22407 - 2 * sumN ln 16) / 35) (56 * sumN C 16 + 22407 - 2 * sumN ln 16) D cs B0 H0 [.ref w, .ref v] (Qv (fun H => ∃ κ1, KX κ κ1 ∧ WT B0 D cs T κ1 H ∧ Fr B0 [o] κ H0 H ∧ ∃ ln1 rw1 k n, MB D cs H w cn ln1 rw1 ∧ LC C cn ln1 ∧ (Gr H0 H k n ∧ 35 * k ≤ n ∧ n + 2 * sumN ln 16 ≤ 2 * sumN ln1 16) ∧ ∀ q, q < 16 → ∀ i, i < 7 * cn q → rw1 q i = rw9 q i)) := by
  refine KC.of cX2_copyFrom 5 none (by decide) rfl (Nat.le_of_ble_eq_true rfl) ?_
  intro p e s m below meth c ls hx hb hr hml hown hts hlocks hin hN hE hH0 hl
  have hown : s.vm.findClass RX2 = some m.cls := hown
  have hl : lv_has ls 5 [(0, .ref w), (1, .ref v)] := hl
  have hL : OkL B0 [] := OkL.nil
  have hF : Fr B0 [o] κ H0 H0 := Fr.rf
  refine lv_iconst (v := 0) hx hb dX2_copyFrom_0 (by decide) ?_
  refine lv_istore_n (lv' := [(2, .int 0), (0, .ref w), (1, .ref v)]) hx hb dX2_copyFrom_1 rfl hl (by decide) rfl (fun ls hl => ?_)
  have hMw : MB D cs H0 w (mx cn cw 0) ln rww := hMw.cg (fun j _ => (mx_ge (by omega)).symm)
  have hLW : LC C (mx cn cw 0) ln := hLW.cg (fun j _ => (mx_ge (by omega)).symm)
  refine W.know (fun hgb => ?_)
  rw [hH0] at hgb
  refine W.widen (k := ((56 * sumN C 16 + 22407 - 2 * sumN ln 16) / 35)) (n := (56 * sumN C 16 + 22407 - 2 * sumN ln 16)) (Nat.zero_le _) (Nat.zero_le _) ?_
  refine lp_m (α := Nat × KM × (Nat → Nat) × (Nat → Nat → Int32) × Nat × Nat) (nL := 5) (fun a9 => 16 - a9.1) (fun a9 H9 l9 => (a9.1 ≤ 16) ∧ (KX κ a9.2.1) ∧ (T2 a9.2.1 w 3 o) ∧ (T2 a9.2.1 v 3 u) ∧ (MB D cs H9 v cn lv rw9) ∧ (MB D cs H9 w (mx cn cw a9.1) a9.2.2.1 a9.2.2.2.1) ∧ (LC C (mx cn cw a9.1) a9.2.2.1) ∧ (∀ q, q < a9.1 → ∀ i, i < 7 * cn q → a9.2.2.2.1 q i = rw9 q i) ∧ (Gr H0 H9 a9.2.2.2.2.1 a9.2.2.2.2.2) ∧ (35 * a9.2.2.2.2.1 ≤ a9.2.2.2.2.2 ∧ a9.2.2.2.2.2 + 2 * sumN ln 16 ≤ 2 * sumN a9.2.2.1 16) ∧ (WT B0 D cs T a9.2.1 H9) ∧ (Fr B0 [o] κ H0 H9) ∧ (OkL B0 l9)) (fun a9 => [(2, .int (nI a9.1)), (0, .ref w), (1, .ref v)]) ?_ (0, κ, ln, rww, 0, 0) _ _ _ ⟨(by show (0) ≤ 16; omega), KX.rf, hw, hv, hMv, hMw, hLW, (fun q hq => absurd hq (Nat.not_lt_zero q)), hgb, ⟨Nat.le_refl _, (by show 0 + 2 * sumN ln 16 ≤ 2 * sumN ln 16; omega)⟩, hT, hF, hL⟩ (lv_sub hl [0, 1, 2] rfl)
  rintro ⟨k, κ9, ln9, rw99, k9, n9⟩ H locs ls ih5058 ⟨hk, hKX, hw, hv, hMv, hMw, hLW, hrr, hGR, hGN, hT, hF, hL⟩ hl
  have hl : lv_has ls 5 [(2, .int (nI k)), (0, .ref w), (1, .ref v)] := hl
  have hk : k ≤ 16 := hk
  have hKX : KX κ κ9 := hKX
  have hw : T2 κ9 w 3 o := hw
  have hv : T2 κ9 v 3 u := hv
  have hMv : MB D cs H v cn lv rw9 := hMv
  have hMw : MB D cs H w (mx cn cw k) ln9 rw99 := hMw
  have hLW : LC C (mx cn cw k) ln9 := hLW
  have hrr : ∀ q, q < k → ∀ i, i < 7 * cn q → rw99 q i = rw9 q i := hrr
  have hGR : Gr H0 H k9 n9 := hGR
  have hGN : 35 * k9 ≤ n9 ∧ n9 + 2 * sumN ln 16 ≤ 2 * sumN ln9 16 := hGN
  have hT : WT B0 D cs T κ9 _ := hT
  have hKF := hKX.f
  refine W.tight (k := k9) (n := n9) (by rw [hH0]; exact hGR) ?_
  have hg1 := hGN.1
  have hg2 := hGN.2
  have hs9 := hLW.sum
  refine lv_iload_n hx hb dX2_copyFrom_2 rfl (lv_at hl 0 rfl) ?_
  refine lv_bipush (v := 16) hx hb dX2_copyFrom_3 (by decide) ?_
  refine lv_icmp_ge (tgt := 85) hx hb dX2_copyFrom_5 (by decide) (fun c5059 => ?_) (fun c5059 => ?_)
  · have c5059 : 16 ≤ k := (nI_leI (a := 16) (b := k) (by omega) (by omega)).mp c5059
    obtain ⟨rv, cv, tv, fv, ctv, hmcv, hrv, hcv, trv, tcv, hctv, hrwv, hbmv, hbrv, hbcv⟩ := hMv.op hT hv
    obtain ⟨ra, ca, t0, f, ct, hmc, hra, hca, tra, tca, hct, hrw, hbm, hbr, hbc⟩ := hMw.op hT hw
    have hc20 : ∀ j, j < 16 → cn j ≤ 20000 := fun j hj => by have h1 := hcn j hj; have h2 := (hLC j hj).2.2.2; omega
    have hq13 : ∀ j, j < 16 → ∃ a, f j = some a ∧ T2 κ9 a 14 o ∧ (κ9 a).2.2.1 = j := fun j hj => by obtain ⟨a, g1, -, g2, g3⟩ := hrw j hj; exact ⟨a, g1, g2, g3⟩
    have hq15 := hT.ct tca hca
    have hP : va_P D vwCl [(v, .inr (2, [.ref rv, .ref cv, .int tv]))] _ := va_P.cons hmcv va_P.nil
    have hP : va_P D vwCl [(w, .inr (2, [.ref ra, .ref ca, .int t0])), (v, .inr (2, [.ref rv, .ref cv, .int tv]))] _ := va_P.cons hmc hP
    have hP : va_P D vwCl [(ra, .inl (cs 6, 16, .inr (.inr (.inr (.inr f))))), (w, .inr (2, [.ref ra, .ref ca, .int t0])), (v, .inr (2, [.ref rv, .ref cv, .int tv]))] _ := va_P.cons hra hP
    have hP : va_P D vwCl [(ca, .inl (cs 0, 16, .inl ct)), (ra, .inl (cs 6, 16, .inr (.inr (.inr (.inr f))))), (w, .inr (2, [.ref ra, .ref ca, .int t0])), (v, .inr (2, [.ref rv, .ref cv, .int tv]))] _ := va_P.cons hca hP
    refine lv_aload_n hx hb dX2_copyFrom_85 rfl (lv_at hl 1 rfl) ?_
    refine lv_aload_n hx hb dX2_copyFrom_86 rfl (lv_at hl 2 rfl) ?_
    refine va_get (D := D) (ci := 2) (v := .int tv) (C := RX2) (T := TX2) (N := 3) hx hb hts iX2_copyFrom_2 hown hN.1 hP 3 rfl rfl 2 (by decide) (hts _ mX2_copyFrom_12) (fun _ h9 => h9) rfl dX2_copyFrom_87 ?_
    have hB : Bx B0 D _ [(ca, .inl (cs 0, 16, .inl ct)), (ra, .inl (cs 6, 16, .inr (.inr (.inr (.inr f))))), (w, .inr (2, [.ref ra, .ref ca, .int t0])), (v, .inr (2, [.ref rv, .ref cv, .int tv]))] [] _ _ := Bx.of (fun a => (κ9 a).1 + 100 * (κ9 a).2.1) hL hP (fa_c hbc (fa_c hbr (fa_c hbm (fa_c hbmv fa_n)))) (by simp only [List.map_cons, List.map_nil, tca.1, tca.2, tra.1, tra.2, hw.1, hw.2, hv.1, hv.2]; simp; omega)
    refine b_put (D := D) (ci := 2) (v := .int tv) (ty := .int) (C := RX2) (T := TX2) (N := 3) hx hb hts iX2_copyFrom_2 tyX2 tyX2_ok nmX2 hown hN hB 2 rfl rfl 2 (by decide) (hts _ mX2_copyFrom_12) (fun _ h9 => h9) rfl (by decide +kernel) rfl rfl (Nat.le_of_ble_eq_true rfl) (.inl rfl) dX2_copyFrom_90 (fun H locs hB => ?_)
    have hB : Bx B0 D _ [(ca, .inl (cs 0, 16, .inl ct)), (ra, .inl (cs 6, 16, .inr (.inr (.inr (.inr f))))), (w, .inr (2, [.ref ra, .ref ca, .int tv])), (v, .inr (2, [.ref rv, .ref cv, .int tv]))] [w] _ _ := hB
    have hB0 := hB
    have hP0 := hB.1
    have hw0 := hw
    have tra0 := tra
    have tca0 := tca
    have hT : WT B0 D cs T κ9 _ := hT.close hB ⟨⟨2, _, rfl, ok_3 hw.1 ⟨_, _, _, rfl, ⟨tra.1, by rw [hw.2]; exact tra.2⟩, ⟨tca.1, by rw [hw.2]; exact tca.2⟩⟩⟩, trivial⟩
    have hF : Fr B0 [o] κ H0 _ := hF.closeN hB (fa_c (fun h9 => by rw [← (hKF _ h9).2, hw.2]; simp) fa_n)
    have hL : OkL B0 _ := hB.2.2.2.2.2
    have hP : va_P D vwCl [(ca, .inl (cs 0, 16, .inl ct)), (ra, .inl (cs 6, 16, .inr (.inr (.inr (.inr f))))), (w, .inr (2, [.ref ra, .ref ca, .int tv])), (v, .inr (2, [.ref rv, .ref cv, .int tv]))] _ := hB.1
    refine W.know (fun hg => ?_)
    rw [hH0] at hg
    have hk16 : k = 16 := by omega
    have hMB := (MB.set hB0 hrw (hP0 2 _ rfl) (hP0 1 _ rfl) (hP0 0 _ rfl) hct (fun a9 t9 => by simp only [List.mem_cons, List.not_mem_nil, or_false, not_or]; exact (ne_c t9.1 hw0.1 (by decide)))).cg (cn' := cn) (fun j hj => mx_lt (by omega))
    exact en_v hx hb hr hlocks hL (show k9 ≤ ((56 * sumN C 16 + 22407 - 2 * sumN ln 16) / 35) by omega) (show n9 ≤ (56 * sumN C 16 + 22407 - 2 * sumN ln 16) by omega) dX2_copyFrom_93 (⟨_, hKX, hT, hF, _, _, _, _, hMB, hLW.cg (fun j hj => mx_lt (by omega)), ⟨hg, hGN⟩, fun q hq => hrr q (by omega)⟩)
  · have c5059 : ¬ 16 ≤ k := fun h9 => c5059 ((nI_leI (a := 16) (b := k) (by omega) (by omega)).mpr h9)
    have hk9 : k < 16 := by omega
    obtain ⟨rv, cv, tv, fv, ctv, hmcv, hrv, hcv, trv, tcv, hctv, hrwv, hbmv, hbrv, hbcv⟩ := hMv.op hT hv
    obtain ⟨ra, ca, t0, f, ct, hmc, hra, hca, tra, tca, hct, hrw, hbm, hbr, hbc⟩ := hMw.op hT hw
    have hc20 : ∀ j, j < 16 → cn j ≤ 20000 := fun j hj => by have h1 := hcn j hj; have h2 := (hLC j hj).2.2.2; omega
    have hq13 : ∀ j, j < 16 → ∃ a, f j = some a ∧ T2 κ9 a 14 o ∧ (κ9 a).2.2.1 = j := fun j hj => by obtain ⟨a, g1, -, g2, g3⟩ := hrw j hj; exact ⟨a, g1, g2, g3⟩
    have hq15 := hT.ct tca hca
    obtain ⟨av, eav, hatav, tav, uav⟩ := hrwv k hk9
    obtain ⟨a, ea, hata, ta, ua⟩ := hrw k hk9
    have hba := (hT.o14 ta.1).1
    have hbav := (hT.o14 tav.1).1
    obtain ⟨lc1, lc2, lc3, lc4⟩ := hLC k hk9
    obtain ⟨lw1, lw2, lw3, lw4⟩ := hLW k hk9
    obtain ⟨m7, e7, g7⟩ := lw1.s7
    have hcn9 := hcn k hk9
    have hCr := sumN_at (f := C) hk9
    have hcw9 := hc20 k hk9
    have hP : va_P D vwCl [(v, .inr (2, [.ref rv, .ref cv, .int tv]))] _ := va_P.cons hmcv va_P.nil
    have hP : va_P D vwCl [(rv, .inl (cs 6, 16, .inr (.inr (.inr (.inr fv))))), (v, .inr (2, [.ref rv, .ref cv, .int tv]))] _ := va_P.cons hrv hP
    have hP : va_P D vwCl [(cv, .inl (cs 0, 16, .inl ctv)), (rv, .inl (cs 6, 16, .inr (.inr (.inr (.inr fv))))), (v, .inr (2, [.ref rv, .ref cv, .int tv]))] _ := va_P.cons hcv hP
    have hP : va_P D vwCl [(av, .inl (cs 0, (lv k), .inl (rw9 k))), (cv, .inl (cs 0, 16, .inl ctv)), (rv, .inl (cs 6, 16, .inr (.inr (.inr (.inr fv))))), (v, .inr (2, [.ref rv, .ref cv, .int tv]))] _ := va_P.cons hatav hP
    have hP : va_P D vwCl [(w, .inr (2, [.ref ra, .ref ca, .int t0])), (av, .inl (cs 0, (lv k), .inl (rw9 k))), (cv, .inl (cs 0, 16, .inl ctv)), (rv, .inl (cs 6, 16, .inr (.inr (.inr (.inr fv))))), (v, .inr (2, [.ref rv, .ref cv, .int tv]))] _ := va_P.cons hmc hP
    have hP : va_P D vwCl [(ra, .inl (cs 6, 16, .inr (.inr (.inr (.inr f))))), (w, .inr (2, [.ref ra, .ref ca, .int t0])), (av, .inl (cs 0, (lv k), .inl (rw9 k))), (cv, .inl (cs 0, 16, .inl ctv)), (rv, .inl (cs 6, 16, .inr (.inr (.inr (.inr fv))))), (v, .inr (2, [.ref rv, .ref cv, .int tv]))] _ := va_P.cons hra hP
    have hP : va_P D vwCl [(ca, .inl (cs 0, 16, .inl ct)), (ra, .inl (cs 6, 16, .inr (.inr (.inr (.inr f))))), (w, .inr (2, [.ref ra, .ref ca, .int t0])), (av, .inl (cs 0, (lv k), .inl (rw9 k))), (cv, .inl (cs 0, 16, .inl ctv)), (rv, .inl (cs 6, 16, .inr (.inr (.inr (.inr fv))))), (v, .inr (2, [.ref rv, .ref cv, .int tv]))] _ := va_P.cons hca hP
    have hP : va_P D vwCl [(a, .inl (cs 0, (ln9 k), .inl (rw99 k))), (ca, .inl (cs 0, 16, .inl ct)), (ra, .inl (cs 6, 16, .inr (.inr (.inr (.inr f))))), (w, .inr (2, [.ref ra, .ref ca, .int t0])), (av, .inl (cs 0, (lv k), .inl (rw9 k))), (cv, .inl (cs 0, 16, .inl ctv)), (rv, .inl (cs 6, 16, .inr (.inr (.inr (.inr fv))))), (v, .inr (2, [.ref rv, .ref cv, .int tv]))] _ := va_P.cons hata hP
    refine lv_aload_n hx hb dX2_copyFrom_8 rfl (lv_at hl 2 rfl) ?_
    refine va_get (D := D) (ci := 2) (v := .ref rv) (C := RX2) (T := TX2) (N := 3) hx hb hts iX2_copyFrom_2 hown hN.1 hP 7 rfl rfl 0 (by decide) (hts _ mX2_copyFrom_1) (fun _ h9 => h9) rfl dX2_copyFrom_9 ?_
    refine lv_iload_n hx hb dX2_copyFrom_12 rfl (lv_at hl 0 rfl) ?_
    refine ld_a (v := .ref av) hx hb hN hP 6 rfl (vp_in_nI (n := k) (N := 16) (by omega) (by omega)) (by rw [(show ((nI k) : Int32).toNatClampNeg = k from nI_clamp (n := k) (by omega)), eav]; rfl) dX2_copyFrom_13 ?_
    refine lv_astore_n (lv' := [(3, .ref av), (2, .int (nI k)), (0, .ref w), (1, .ref v)]) hx hb dX2_copyFrom_14 rfl hl (by decide) rfl (fun ls hl => ?_)
    refine lv_aload_n hx hb dX2_copyFrom_15 rfl (lv_at hl 3 rfl) ?_
    refine va_get (D := D) (ci := 2) (v := .ref cv) (C := RX2) (T := TX2) (N := 3) hx hb hts iX2_copyFrom_2 hown hN.1 hP 7 rfl rfl 1 (by decide) (hts _ mX2_copyFrom_2) (fun _ h9 => h9) rfl dX2_copyFrom_16 ?_
    refine lv_iload_n hx hb dX2_copyFrom_19 rfl (lv_at hl 1 rfl) ?_
    refine ld_i (v := (ctv k)) hx hb hN hP 5 rfl (vp_in_nI (n := k) (N := 16) (by omega) (by omega)) (by rw [(show ((nI k) : Int32).toNatClampNeg = k from nI_clamp (n := k) (by omega))]) dX2_copyFrom_20 ?_
    refine tp_i (nI (cn k)) (hctv _ (by omega)) ?_
    refine lv_bipush (v := 7) hx hb dX2_copyFrom_21 (by decide) ?_
    refine lv_imul hx hb dX2_copyFrom_23 ?_
    refine tp_i (nI ((cn k) * 7)) (nI_mul (cn k) 7) ?_
    refine lv_aload_n hx hb dX2_copyFrom_24 rfl (lv_at hl 0 rfl) ?_
    refine va_alen (v := (nI ((lv k)))) hx hb hN.1 hP 4 0 rfl rfl rfl dX2_copyFrom_25 ?_
    refine va_mmin hx hb (hml.trans hl.1.symm) hown (hts _ mX2_copyFrom_3) (hts _ mX2_copyFrom_4) (hts _ mX2_copyFrom_5) (hts _ mX2_copyFrom_6) (Nat.le_of_ble_eq_true rfl) (Nat.le_of_ble_eq_true rfl) (show k9 ≤ ((56 * sumN C 16 + 22407 - 2 * sumN ln 16) / 35) by omega) (show n9 ≤ (56 * sumN C 16 + 22407 - 2 * sumN ln 16) by omega) dX2_copyFrom_26 ?_
    obtain ⟨m5060, hm5060, em5060⟩ := nI_min (a := ((cn k) * 7)) (b := ((lv k))) (by omega) (by omega)
    refine tp_i (nI m5060) em5060 ?_
    have hm9 : m5060 = cn k * 7 := by omega
    refine lv_istore (lv' := [(4, .int (nI m5060)), (3, .ref av), (2, .int (nI k)), (0, .ref w), (1, .ref v)]) hx hb dX2_copyFrom_29 hl (by decide) rfl (fun ls hl => ?_)
    refine lv_iload hx hb dX2_copyFrom_31 (lv_at hl 0 rfl) ?_
    refine lv_aload_n hx hb dX2_copyFrom_33 rfl (lv_at hl 3 rfl) ?_
    refine va_get (D := D) (ci := 2) (v := .ref ra) (C := RX2) (T := TX2) (N := 3) hx hb hts iX2_copyFrom_2 hown hN.1 hP 3 rfl rfl 0 (by decide) (hts _ mX2_copyFrom_1) (fun _ h9 => h9) rfl dX2_copyFrom_34 ?_
    refine lv_iload_n hx hb dX2_copyFrom_37 rfl (lv_at hl 2 rfl) ?_
    refine ld_a (v := .ref a) hx hb hN hP 2 rfl (vp_in_nI (n := k) (N := 16) (by omega) (by omega)) (by rw [(show ((nI k) : Int32).toNatClampNeg = k from nI_clamp (n := k) (by omega)), ea]; rfl) dX2_copyFrom_38 ?_
    refine va_alen (v := (nI ((ln9 k)))) hx hb hN.1 hP 0 0 rfl rfl rfl dX2_copyFrom_39 ?_
    refine lv_icmp_le (tgt := 53) hx hb dX2_copyFrom_40 (by decide) (fun c5061 => ?_) (fun c5061 => ?_)
    · have c5061 : m5060 ≤ ((ln9 k)) := (nI_leI (a := m5060) (b := ((ln9 k))) (by omega) (by omega)).mp c5061
      refine lv_aload_n hx hb dX2_copyFrom_53 rfl (lv_at hl 1 rfl) ?_
      refine lv_iconst (v := 0) hx hb dX2_copyFrom_54 (by decide) ?_
      refine lv_aload_n hx hb dX2_copyFrom_55 rfl (lv_at hl 3 rfl) ?_
      refine va_get (D := D) (ci := 2) (v := .ref ra) (C := RX2) (T := TX2) (N := 3) hx hb hts iX2_copyFrom_2 hown hN.1 hP 3 rfl rfl 0 (by decide) (hts _ mX2_copyFrom_1) (fun _ h9 => h9) rfl dX2_copyFrom_56 ?_
      refine lv_iload_n hx hb dX2_copyFrom_59 rfl (lv_at hl 2 rfl) ?_
      refine ld_a (v := .ref a) hx hb hN hP 2 rfl (vp_in_nI (n := k) (N := 16) (by omega) (by omega)) (by rw [(show ((nI k) : Int32).toNatClampNeg = k from nI_clamp (n := k) (by omega)), ea]; rfl) dX2_copyFrom_60 ?_
      refine lv_iconst (v := 0) hx hb dX2_copyFrom_61 (by decide) ?_
      refine lv_iload hx hb dX2_copyFrom_62 (lv_at hl 0 rfl) ?_
      have hB : Bx B0 D _ [(a, .inl (cs 0, (ln9 k), .inl (rw99 k))), (ca, .inl (cs 0, 16, .inl ct)), (ra, .inl (cs 6, 16, .inr (.inr (.inr (.inr f))))), (w, .inr (2, [.ref ra, .ref ca, .int t0])), (av, .inl (cs 0, (lv k), .inl (rw9 k))), (cv, .inl (cs 0, 16, .inl ctv)), (rv, .inl (cs 6, 16, .inr (.inr (.inr (.inr fv))))), (v, .inr (2, [.ref rv, .ref cv, .int tv]))] [] _ _ := Bx.of (fun a => (κ9 a).1 + 100 * (κ9 a).2.1) hL hP (fa_c hba (fa_c hbc (fa_c hbr (fa_c hbm (fa_c hbav (fa_c hbcv (fa_c hbrv (fa_c hbmv fa_n)))))))) (by simp only [List.map_cons, List.map_nil, ta.1, ta.2, tca.1, tca.2, tra.1, tra.2, hw.1, hw.2, tav.1, tav.2, tcv.1, tcv.2, trv.1, trv.2, hv.1, hv.2]; simp; omega)
      refine b_cpy hx hb (hml.trans hl.1.symm) hown (hts _ mX2_copyFrom_8) (hts _ mX2_copyFrom_9) (hts _ mX2_copyFrom_10) (hts _ mX2_copyFrom_11) hN hB 4 0 rfl rfl (nI_pos (n := 0) (by omega)) (nI_pos (n := 0) (by omega)) (nI_pos (n := m5060) (by omega)) (by rw [show (0 : Int32).toNatClampNeg = 0 from nI_clamp (n := 0) (by omega), show ((nI m5060) : Int32).toNatClampNeg = m5060 from nI_clamp (n := m5060) (by omega)]; omega) (by rw [show (0 : Int32).toNatClampNeg = 0 from nI_clamp (n := 0) (by omega), show ((nI m5060) : Int32).toNatClampNeg = m5060 from nI_clamp (n := m5060) (by omega)]; omega) (.inl rfl) (Nat.le_of_ble_eq_true rfl) (Nat.le_of_ble_eq_true rfl) dX2_copyFrom_64 (fun H locs hB => ?_)
      have hcpg5062 := fun (i : Nat) (hi : i < m5060) => cpy0 (f := (rw9 k)) (g := (rw99 k)) (n := m5060) (i := i) (by omega) hi
      generalize va_cpy _ _ _ _ _ = g5062 at hB hcpg5062
      have hB : Bx B0 D _ [(a, .inl (cs 0, (ln9 k), .inl g5062)), (ca, .inl (cs 0, 16, .inl ct)), (ra, .inl (cs 6, 16, .inr (.inr (.inr (.inr f))))), (w, .inr (2, [.ref ra, .ref ca, .int t0])), (av, .inl (cs 0, (lv k), .inl (rw9 k))), (cv, .inl (cs 0, 16, .inl ctv)), (rv, .inl (cs 6, 16, .inr (.inr (.inr (.inr fv))))), (v, .inr (2, [.ref rv, .ref cv, .int tv]))] [a] _ _ := hB
      refine lv_aload_n hx hb dX2_copyFrom_67 rfl (lv_at hl 3 rfl) ?_
      refine va_get (D := D) (ci := 2) (v := .ref ca) (C := RX2) (T := TX2) (N := 3) hx hb hts iX2_copyFrom_2 hown hN.1 hB.1 3 rfl rfl 1 (by decide) (hts _ mX2_copyFrom_2) (fun _ h9 => h9) rfl dX2_copyFrom_68 ?_
      refine lv_iload_n hx hb dX2_copyFrom_71 rfl (lv_at hl 2 rfl) ?_
      refine lv_aload_n hx hb dX2_copyFrom_72 rfl (lv_at hl 4 rfl) ?_
      refine va_get (D := D) (ci := 2) (v := .ref cv) (C := RX2) (T := TX2) (N := 3) hx hb hts iX2_copyFrom_2 hown hN.1 hB.1 7 rfl rfl 1 (by decide) (hts _ mX2_copyFrom_2) (fun _ h9 => h9) rfl dX2_copyFrom_73 ?_
      refine lv_iload_n hx hb dX2_copyFrom_76 rfl (lv_at hl 2 rfl) ?_
      refine ld_i (v := (ctv k)) hx hb hN hB.1 5 rfl (vp_in_nI (n := k) (N := 16) (by omega) (by omega)) (by rw [(show ((nI k) : Int32).toNatClampNeg = k from nI_clamp (n := k) (by omega))]) dX2_copyFrom_77 ?_
      refine tp_i (nI (cn k)) (hctv _ (by omega)) ?_
      refine b_i hx hb hN hB 1 rfl (vp_in_nI (n := k) (N := 16) (by omega) (by omega)) (.inl rfl) dX2_copyFrom_78 (fun H locs hB => ?_)
      rw [(show ((nI k) : Int32).toNatClampNeg = k from nI_clamp (n := k) (by omega))] at hB
      have hB : Bx B0 D _ [(a, .inl (cs 0, (ln9 k), .inl g5062)), (ca, .inl (cs 0, 16, .inl (upd ct k (nI (cn k))))), (ra, .inl (cs 6, 16, .inr (.inr (.inr (.inr f))))), (w, .inr (2, [.ref ra, .ref ca, .int t0])), (av, .inl (cs 0, (lv k), .inl (rw9 k))), (cv, .inl (cs 0, 16, .inl ctv)), (rv, .inl (cs 6, 16, .inr (.inr (.inr (.inr fv))))), (v, .inr (2, [.ref rv, .ref cv, .int tv]))] [ca, a] _ _ := hB
      refine lv_iinc (v := (nI (k + 1))) (lv' := [(2, .int (nI (k + 1))), (4, .int (nI m5060)), (3, .ref av), (0, .ref w), (1, .ref v)]) hx hb dX2_copyFrom_79 hl (k := 2) rfl (nI_add _ 1) (by decide) rfl (fun ls hl => ?_)
      refine lv_goto (tgt := 2) hx hb dX2_copyFrom_82 (by decide) ?_
      have hB0 := hB
      have hP0 := hB.1
      have hw0 := hw
      have tra0 := tra
      have tca0 := tca
      have hT0 := hT
      have hv0 := hv
      have hT : WT B0 D cs T κ9 _ := hT.close hB ⟨⟨1, _, rfl, ok_15 tca.1 ⟨_, rfl, (K15v hq15 (by omega))⟩⟩, ⟨⟨0, _, rfl, ok_14 ta.1 ⟨_, _, rfl, (by omega)⟩⟩, trivial⟩⟩
      have hF : Fr B0 [o] κ H0 _ := hF.closeN hB (fa_c (fun h9 => by rw [← (hKF _ h9).2, tca.2]; simp) (fa_c (fun h9 => by rw [← (hKF _ h9).2, ta.2]; simp) fa_n))
      have hL : OkL B0 _ := hB.2.2.2.2.2
      have hP : va_P D vwCl [(a, .inl (cs 0, (ln9 k), .inl g5062)), (ca, .inl (cs 0, 16, .inl (upd ct k (nI (cn k))))), (ra, .inl (cs 6, 16, .inr (.inr (.inr (.inr f))))), (w, .inr (2, [.ref ra, .ref ca, .int t0])), (av, .inl (cs 0, (lv k), .inl (rw9 k))), (cv, .inl (cs 0, 16, .inl ctv)), (rv, .inl (cs 6, 16, .inr (.inr (.inr (.inr fv))))), (v, .inr (2, [.ref rv, .ref cv, .int tv]))] _ := hB.1
      have hMw := (MB.pc (r := k) hB0 hrw hct (hP0 3 _ rfl) (hP0 2 _ rfl) (hP0 1 _ rfl) (fun _ _ _ => rfl) (fun a9 j9 g1 g2 t9 u9 => by simp only [List.mem_cons, List.not_mem_nil, or_false, not_or]; exact ⟨(ne_c t9.1 tca0.1 (by decide)), (ne_p u9 ua g1)⟩) ⟨_, ea, hP0 0 _ rfl⟩).cg (fun j _ => mx_s)
      have hMv := hMv.fr hT0 hv0 (Fr.closeN (S := [o]) Fr.rf hB0 (fa_c (fun _ => by simp [tca0.2]) (fa_c (fun _ => by simp [ta.2]) fa_n))) (by simp; omega)
      have hLW := hLW.row hLC hk9 (Or.inl ⟨rfl, by omega⟩)
      have hrr := rw_row (cn := cn) hrr (fun i9 h9 => hcpg5062 i9 (by omega))
      have hGN := GN.up (k' := k9) (m' := n9) hg1 hg2 hk9 (Or.inl ⟨rfl, rfl, rfl⟩)
      refine W.know (fun hgb => ?_)
      rw [hH0] at hgb
      refine W.widen (k := ((56 * sumN C 16 + 22407 - 2 * sumN ln 16) / 35)) (n := (56 * sumN C 16 + 22407 - 2 * sumN ln 16)) (show k9 ≤ ((56 * sumN C 16 + 22407 - 2 * sumN ln 16) / 35) by omega) (show n9 ≤ (56 * sumN C 16 + 22407 - 2 * sumN ln 16) by omega) ?_
      exact ih5058 ((k + 1), κ9, (up9 ln9 k (ln9 k)), (up9 rw99 k g5062), k9, n9) _ _ _ (by show 16 - ((k + 1)) < 16 - k; omega) ⟨(by show ((k + 1)) ≤ 16; omega), hKX, hw, hv, hMv, hMw, hLW, hrr, hgb, hGN, hT, hF, hL⟩ (lv_sub hl [0, 3, 4] rfl)
    · have c5061 : ¬ m5060 ≤ ((ln9 k)) := fun h9 => c5061 ((nI_leI (a := m5060) (b := ((ln9 k))) (by omega) (by omega)).mpr h9)
      refine lv_aload_n hx hb dX2_copyFrom_43 rfl (lv_at hl 3 rfl) ?_
      refine va_get (D := D) (ci := 2) (v := .ref ra) (C := RX2) (T := TX2) (N := 3) hx hb hts iX2_copyFrom_2 hown hN.1 hP 3 rfl rfl 0 (by decide) (hts _ mX2_copyFrom_1) (fun _ h9 => h9) rfl dX2_copyFrom_44 ?_
      refine lv_iload_n hx hb dX2_copyFrom_47 rfl (lv_at hl 2 rfl) ?_
      refine lv_aload_n hx hb dX2_copyFrom_48 rfl (lv_at hl 1 rfl) ?_
      refine va_alen (v := (nI ((lv k)))) hx hb hN.1 hP 4 0 rfl rfl rfl dX2_copyFrom_49 ?_
      have hb0 : B0 ≤ _ := hT.b0 tav (by decide)
      have hB : Bx B0 D _ [(a, .inl (cs 0, (ln9 k), .inl (rw99 k))), (ca, .inl (cs 0, 16, .inl ct)), (ra, .inl (cs 6, 16, .inr (.inr (.inr (.inr f))))), (w, .inr (2, [.ref ra, .ref ca, .int t0])), (av, .inl (cs 0, (lv k), .inl (rw9 k))), (cv, .inl (cs 0, 16, .inl ctv)), (rv, .inl (cs 6, 16, .inr (.inr (.inr (.inr fv))))), (v, .inr (2, [.ref rv, .ref cv, .int tv]))] [] _ _ := Bx.of (fun a => (κ9 a).1 + 100 * (κ9 a).2.1) hL hP (fa_c hba (fa_c hbc (fa_c hbr (fa_c hbm (fa_c hbav (fa_c hbcv (fa_c hbrv (fa_c hbmv fa_n)))))))) (by simp only [List.map_cons, List.map_nil, ta.1, ta.2, tca.1, tca.2, tra.1, tra.2, hw.1, hw.2, tav.1, tav.2, tcv.1, tcv.2, trv.1, trv.2, hv.1, hv.2]; simp; omega)
      refine nw_a (atype := .int) (ty := .int) (N' := ((lv k))) (a0 := (((lv k)), .inl (fun _ => 0))) 0 hN rfl hx hb (hts _ mX2_copyFrom_7) rfl (fun _ => rfl) (nI_pos (n := ((lv k))) (by omega)) (nI_clamp (n := ((lv k))) (by omega)) (show ((lv k)) * _ ≤ _ by simp only [componentBytes]; omega) (show k9 + 1 ≤ ((56 * sumN C 16 + 22407 - 2 * sumN ln 16) / 35) by omega) (show n9 + ((lv k)) ≤ (56 * sumN C 16 + 22407 - 2 * sumN ln 16) by omega) dX2_copyFrom_50 (fun q5063 H heq5063 hzq5063 hoq5063 hatq5063 => ?_)
      have hgeq5063 : _ ≤ q5063 := Nat.le_trans hB.2.2.1 (Nat.le_of_eq heq5063.symm)
      have hbq5063 : B0 ≤ q5063 := Nat.le_trans hb0 hgeq5063
      have hfq5063 : (κ9 q5063).1 = 0 := hT.fresh hgeq5063
      have hB := hB.nwm heq5063 hzq5063 hoq5063 hatq5063 hb0
      have hB : Bx B0 D _ [(a, .inl (cs 0, (ln9 k), .inl (rw99 k))), (ca, .inl (cs 0, 16, .inl ct)), (ra, .inl (cs 6, 16, .inr (.inr (.inr (.inr f))))), (w, .inr (2, [.ref ra, .ref ca, .int t0])), (av, .inl (cs 0, (lv k), .inl (rw9 k))), (cv, .inl (cs 0, 16, .inl ctv)), (rv, .inl (cs 6, 16, .inr (.inr (.inr (.inr fv))))), (v, .inr (2, [.ref rv, .ref cv, .int tv])), (q5063, .inl (cs 0, ((lv k)), .inl (fun _ => 0)))] [q5063] _ _ := hB
      refine b_q hx hb hN hB 2 8 rfl rfl (vp_in_nI (n := k) (N := 16) (by omega) (by omega)) (.inl rfl) dX2_copyFrom_52 (fun H locs hB => ?_)
      rw [(show ((nI k) : Int32).toNatClampNeg = k from nI_clamp (n := k) (by omega))] at hB
      have hB : Bx B0 D _ [(a, .inl (cs 0, (ln9 k), .inl (rw99 k))), (ca, .inl (cs 0, 16, .inl ct)), (ra, .inl (cs 6, 16, .inr (.inr (.inr (.inr (va_up f k (some q5063))))))), (w, .inr (2, [.ref ra, .ref ca, .int t0])), (av, .inl (cs 0, (lv k), .inl (rw9 k))), (cv, .inl (cs 0, 16, .inl ctv)), (rv, .inl (cs 6, 16, .inr (.inr (.inr (.inr fv))))), (v, .inr (2, [.ref rv, .ref cv, .int tv])), (q5063, .inl (cs 0, ((lv k)), .inl (fun _ => 0)))] [ra, q5063] _ _ := hB
      have eq5063 : (va_up f k (some q5063)) k = some q5063 := if_pos rfl
      refine lv_aload_n hx hb dX2_copyFrom_53 rfl (lv_at hl 1 rfl) ?_
      refine lv_iconst (v := 0) hx hb dX2_copyFrom_54 (by decide) ?_
      refine lv_aload_n hx hb dX2_copyFrom_55 rfl (lv_at hl 3 rfl) ?_
      refine va_get (D := D) (ci := 2) (v := .ref ra) (C := RX2) (T := TX2) (N := 3) hx hb hts iX2_copyFrom_2 hown hN.1 hB.1 3 rfl rfl 0 (by decide) (hts _ mX2_copyFrom_1) (fun _ h9 => h9) rfl dX2_copyFrom_56 ?_
      refine lv_iload_n hx hb dX2_copyFrom_59 rfl (lv_at hl 2 rfl) ?_
      refine ld_a (v := .ref q5063) hx hb hN hB.1 2 rfl (vp_in_nI (n := k) (N := 16) (by omega) (by omega)) (by rw [(show ((nI k) : Int32).toNatClampNeg = k from nI_clamp (n := k) (by omega)), eq5063]; rfl) dX2_copyFrom_60 ?_
      refine lv_iconst (v := 0) hx hb dX2_copyFrom_61 (by decide) ?_
      refine lv_iload hx hb dX2_copyFrom_62 (lv_at hl 0 rfl) ?_
      refine b_cpy hx hb (hml.trans hl.1.symm) hown (hts _ mX2_copyFrom_8) (hts _ mX2_copyFrom_9) (hts _ mX2_copyFrom_10) (hts _ mX2_copyFrom_11) hN hB 4 8 rfl rfl (nI_pos (n := 0) (by omega)) (nI_pos (n := 0) (by omega)) (nI_pos (n := m5060) (by omega)) (by rw [show (0 : Int32).toNatClampNeg = 0 from nI_clamp (n := 0) (by omega), show ((nI m5060) : Int32).toNatClampNeg = m5060 from nI_clamp (n := m5060) (by omega)]; omega) (by rw [show (0 : Int32).toNatClampNeg = 0 from nI_clamp (n := 0) (by omega), show ((nI m5060) : Int32).toNatClampNeg = m5060 from nI_clamp (n := m5060) (by omega)]; omega) (.inr ⟨rfl, List.mem_of_getElem? (i := 1) rfl⟩) (Nat.le_of_ble_eq_true rfl) (Nat.le_of_ble_eq_true rfl) dX2_copyFrom_64 (fun H locs hB => ?_)
      have hcpg5064 := fun (i : Nat) (hi : i < m5060) => cpy0 (f := (rw9 k)) (g := (fun _ => 0)) (n := m5060) (i := i) (by omega) hi
      generalize va_cpy _ _ _ _ _ = g5064 at hB hcpg5064
      have hB : Bx B0 D _ [(a, .inl (cs 0, (ln9 k), .inl (rw99 k))), (ca, .inl (cs 0, 16, .inl ct)), (ra, .inl (cs 6, 16, .inr (.inr (.inr (.inr (va_up f k (some q5063))))))), (w, .inr (2, [.ref ra, .ref ca, .int t0])), (av, .inl (cs 0, (lv k), .inl (rw9 k))), (cv, .inl (cs 0, 16, .inl ctv)), (rv, .inl (cs 6, 16, .inr (.inr (.inr (.inr fv))))), (v, .inr (2, [.ref rv, .ref cv, .int tv])), (q5063, .inl (cs 0, ((lv k)), .inl g5064))] [ra, q5063] _ _ := hB
      refine lv_aload_n hx hb dX2_copyFrom_67 rfl (lv_at hl 3 rfl) ?_
      refine va_get (D := D) (ci := 2) (v := .ref ca) (C := RX2) (T := TX2) (N := 3) hx hb hts iX2_copyFrom_2 hown hN.1 hB.1 3 rfl rfl 1 (by decide) (hts _ mX2_copyFrom_2) (fun _ h9 => h9) rfl dX2_copyFrom_68 ?_
      refine lv_iload_n hx hb dX2_copyFrom_71 rfl (lv_at hl 2 rfl) ?_
      refine lv_aload_n hx hb dX2_copyFrom_72 rfl (lv_at hl 4 rfl) ?_
      refine va_get (D := D) (ci := 2) (v := .ref cv) (C := RX2) (T := TX2) (N := 3) hx hb hts iX2_copyFrom_2 hown hN.1 hB.1 7 rfl rfl 1 (by decide) (hts _ mX2_copyFrom_2) (fun _ h9 => h9) rfl dX2_copyFrom_73 ?_
      refine lv_iload_n hx hb dX2_copyFrom_76 rfl (lv_at hl 2 rfl) ?_
      refine ld_i (v := (ctv k)) hx hb hN hB.1 5 rfl (vp_in_nI (n := k) (N := 16) (by omega) (by omega)) (by rw [(show ((nI k) : Int32).toNatClampNeg = k from nI_clamp (n := k) (by omega))]) dX2_copyFrom_77 ?_
      refine tp_i (nI (cn k)) (hctv _ (by omega)) ?_
      refine b_i hx hb hN hB 1 rfl (vp_in_nI (n := k) (N := 16) (by omega) (by omega)) (.inl rfl) dX2_copyFrom_78 (fun H locs hB => ?_)
      rw [(show ((nI k) : Int32).toNatClampNeg = k from nI_clamp (n := k) (by omega))] at hB
      have hB : Bx B0 D _ [(a, .inl (cs 0, (ln9 k), .inl (rw99 k))), (ca, .inl (cs 0, 16, .inl (upd ct k (nI (cn k))))), (ra, .inl (cs 6, 16, .inr (.inr (.inr (.inr (va_up f k (some q5063))))))), (w, .inr (2, [.ref ra, .ref ca, .int t0])), (av, .inl (cs 0, (lv k), .inl (rw9 k))), (cv, .inl (cs 0, 16, .inl ctv)), (rv, .inl (cs 6, 16, .inr (.inr (.inr (.inr fv))))), (v, .inr (2, [.ref rv, .ref cv, .int tv])), (q5063, .inl (cs 0, ((lv k)), .inl g5064))] [ca, ra, q5063] _ _ := hB
      refine lv_iinc (v := (nI (k + 1))) (lv' := [(2, .int (nI (k + 1))), (4, .int (nI m5060)), (3, .ref av), (0, .ref w), (1, .ref v)]) hx hb dX2_copyFrom_79 hl (k := 2) rfl (nI_add _ 1) (by decide) rfl (fun ls hl => ?_)
      refine lv_goto (tgt := 2) hx hb dX2_copyFrom_82 (by decide) ?_
      have hB0 := hB
      have hP0 := hB.1
      have hw0 := hw
      have tra0 := tra
      have tca0 := tca
      have hT0 := hT
      have hv0 := hv
      obtain ⟨κ5065, hκ5065⟩ : ∃ κq : KM, κq = (ku κ9 q5063 (14, o, k, 0)) := ⟨_, rfl⟩
      have hx5065 : KX κ9 κ5065 := by rw [hκ5065]; exact (KX.ku hfq5063)
      have eq5063 : κ5065 q5063 = (14, o, k, 0) := by rw [hκ5065, ku_a]
      have hq5063 : T2 κ5065 q5063 14 o := ⟨by rw [eq5063], by rw [eq5063]⟩
      have hx9 := hx5065
      have hT : WT B0 D cs T κ5065 _ := hT.closeN hB hx5065 (fun a9 h9 => by rw [hκ5065, ku_n (fun e9 => h9 (by rw [e9]; exact List.mem_of_getElem? (i := 2) rfl))]) ⟨⟨1, _, rfl, (by rw [hx9.n tca (by decide)]; exact ok_15 tca.1 ⟨_, rfl, (K15v hq15 (by omega))⟩)⟩, ⟨⟨2, _, rfl, (by rw [hx9.n tra (by decide)]; exact ok_13 tra.1 ⟨_, rfl, (by rw [tra.2]; exact K13u hq13 hx9 hq5063 (by rw [eq5063]))⟩)⟩, ⟨⟨8, _, rfl, ok_14 hq5063.1 ⟨_, _, rfl, (by omega)⟩⟩, trivial⟩⟩⟩
      have hF : Fr B0 [o] κ H0 _ := hF.closeN hB (fa_c (fun h9 => by rw [← (hKF _ h9).2, tca.2]; simp) (fa_c (fun h9 => by rw [← (hKF _ h9).2, tra.2]; simp) (fa_c (fun h9 => absurd hfq5063 (by rw [(hKF _ h9).1]; exact h9)) fa_n)))
      have hL : OkL B0 _ := hB.2.2.2.2.2
      have hKF := hKF.tr hx5065.f
      have hKX := hKX.tr hx5065
      have tav := (hx5065.f.t2 tav (by decide))
      have hw := (hx5065.f.t2 hw (by decide))
      have hv := (hx5065.f.t2 hv (by decide))
      have hP : va_P D vwCl [(a, .inl (cs 0, (ln9 k), .inl (rw99 k))), (ca, .inl (cs 0, 16, .inl (upd ct k (nI (cn k))))), (ra, .inl (cs 6, 16, .inr (.inr (.inr (.inr (va_up f k (some q5063))))))), (w, .inr (2, [.ref ra, .ref ca, .int t0])), (av, .inl (cs 0, (lv k), .inl (rw9 k))), (cv, .inl (cs 0, 16, .inl ctv)), (rv, .inl (cs 6, 16, .inr (.inr (.inr (.inr fv))))), (v, .inr (2, [.ref rv, .ref cv, .int tv])), (q5063, .inl (cs 0, ((lv k)), .inl g5064))] _ := hB.1
      have hMw := (MB.pc (r := k) hB0 hrw hct (hP0 3 _ rfl) (hP0 2 _ rfl) (hP0 1 _ rfl) (fun j hj hne => if_neg hne) (fun a9 j9 g1 g2 t9 u9 => by simp only [List.mem_cons, List.not_mem_nil, or_false, not_or]; exact ⟨(ne_c t9.1 tca0.1 (by decide)), (ne_c t9.1 tra0.1 (by decide)), (fun e9 => nw_ne g2 hgeq5063 e9.symm)⟩) ⟨_, if_pos rfl, hP0 8 _ rfl⟩).cg (fun j _ => mx_s)
      have hMv := hMv.fr hT0 hv0 (Fr.closeN (S := [o]) Fr.rf hB0 (fa_c (fun _ => by simp [tca0.2]) (fa_c (fun _ => by simp [tra0.2]) (fa_c (fun h9 => absurd hfq5063 h9) fa_n)))) (by simp; omega)
      have hLW := hLW.row hLC hk9 (Or.inr rfl)
      have hrr := rw_row (cn := cn) hrr (fun i9 h9 => hcpg5064 i9 (by omega))
      have hl9 := SQ.lt lw1 lc1 (by omega)
      have hGN := GN.up (k' := k9 + 1) (m' := (n9 + ((lv k)))) hg1 hg2 hk9 (Or.inr ⟨rfl, rfl, by omega, by omega⟩)
      refine W.know (fun hgb => ?_)
      rw [hH0] at hgb
      refine W.widen (k := ((56 * sumN C 16 + 22407 - 2 * sumN ln 16) / 35)) (n := (56 * sumN C 16 + 22407 - 2 * sumN ln 16)) (show k9 + 1 ≤ ((56 * sumN C 16 + 22407 - 2 * sumN ln 16) / 35) by omega) (show (n9 + ((lv k))) ≤ (56 * sumN C 16 + 22407 - 2 * sumN ln 16) by omega) ?_
      exact ih5058 ((k + 1), κ5065, (up9 ln9 k (lv k)), (up9 rw99 k g5064), k9 + 1, (n9 + ((lv k)))) _ _ _ (by show 16 - ((k + 1)) < 16 - k; omega) ⟨(by show ((k + 1)) ≤ 16; omega), hKX, hw, hv, hMv, hMw, hLW, hrr, hgb, hGN, hT, hF, hL⟩ (lv_sub hl [0, 3, 4] rfl)
